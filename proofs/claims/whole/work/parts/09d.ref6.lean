/-! 09d: the reference: thin -/
theorem in_X5_thin_X5 : ∀ w ∈ wsX50, w ∈ wsX5_thin := fun w h => List.mem_cons_of_mem _ (List.mem_append_right _ h)
set_option maxHeartbeats 4000000 in
set_option maxRecDepth 100000 in
/-- thin -/
theorem c5_thin (l : Launch) (dC : Nat → ClassId) (dI : Nat → Nat → Nat) (a0 aT aE aG aR aN aS aQ aW aX : Nat) (cD cI : ClassId) (th : Int32) (iw ih : Nat) (fa fb fd : UInt64) (ib : Nat) (mk : Bool) (im iq : Nat) (tT : Nat → UInt64) (tE : Nat → Int32) (tG tR tN tS tQ : Nat → UInt64) (tW : Nat → Int32) (tX : Nat → UInt64) (st lo : UInt64) (hw6 : iw ≤ 6) (hh6 : ih ≤ 6) (T : Nat → ZD) (gT : zgr tT iw ih T) (bx0 by0 bx1 by1 : Nat → Nat) (bg : Nat → ZD) (hb12 : ib ≤ 12) (gE : ∀ k, k < ib → tE (4 * k) = nI (bx0 k) ∧ tE (4 * k + 1) = nI (by0 k) ∧ tE (4 * k + 2) = nI (bx1 k) ∧ tE (4 * k + 3) = nI (by1 k)) (gB : ∀ k, k < ib → bx0 k ≤ bx1 k ∧ bx1 k < iw ∧ by0 k ≤ by1 k ∧ by1 k < ih) (gG : ∀ k, k < ib → zv (tG k) = bg k) (wn : Nat → Nat) (hq4 : iq ≤ 4) (gW : ∀ i, i < iq → tW i = nI (wn i)) (gw4 : ∀ i, i < iq → wn i < 4) (ws : Nat → ZD) (gX : ∀ i, i < iq → zv (tX i) = ws i) (hq : q5m iw ih mk im tR tN tS tQ T (zRB iw T (zv fa) bx0 by0 bx1 bg ib) (zNB iw ih T (zv fb) bx0 by0 by1 bg ib) (zv fd)) (sz : Nat) : MetD lw_cs l yX5_thin wsX5_thin ({ frames := 5, cells := 0, slots := 0, locals := 120 } : Room) (va_Pc [.ref a0, .double st, .double lo] (fun U => U.heap.size = sz ∧ va_P (dC, dI) vwCl (w5 a0 aT aE aG aR aN aS aQ aW aX cD cI th iw ih fa fb fd ib mk im iq tT tE tG tR tN tS tQ tW tX) U.heap ∧ va_K (dC, dI) vwCl [(cD, .double), (cI, .int)] U ∧ va_D (fun _ => True) (w5 a0 aT aE aG aR aN aS aQ aW aX cD cI th iw ih fa fb fd ib mk im iq tT tE tG tR tN tS tQ tW tX))) (va_Qi (fun (r : Int32) (u : Int32 × (Nat → UInt64) × (Nat → UInt64) × (Nat → UInt64) × (Nat → UInt64) × (Nat → UInt64) × Bool × Nat) => u.1 = nI (zcTh (zv st) (zv lo) (zneed wn iq) ((zCN iw ih (zv fa) (zv fb) (zv fd) bx0 by0 bx1 by1 bg ib (zneed wn iq)) T)) ∧ (zcTh (zv st) (zv lo) (zneed wn iq) ((zCN iw ih (zv fa) (zv fb) (zv fd) bx0 by0 bx1 by1 bg ib (zneed wn iq)) T) = 1 → u.2.1 = tT ∧ u.2.2.1 = tR ∧ u.2.2.2.1 = tN ∧ u.2.2.2.2.1 = tS ∧ u.2.2.2.2.2.1 = tQ ∧ u.2.2.2.2.2.2.1 = mk ∧ u.2.2.2.2.2.2.2 = im) ∧ (zcTh (zv st) (zv lo) (zneed wn iq) ((zCN iw ih (zv fa) (zv fb) (zv fd) bx0 by0 bx1 by1 bg ib (zneed wn iq)) T) = 2 → u.2.1 = tT ∧ u.2.2.2.2.2.2.1 = mk ∧ q5m iw ih u.2.2.2.2.2.2.1 u.2.2.2.2.2.2.2 u.2.2.1 u.2.2.2.1 u.2.2.2.2.1 u.2.2.2.2.2.1 T (zRB iw T (zv fa) bx0 by0 bx1 bg ib) (zNB iw ih T (zv fb) bx0 by0 by1 bg ib) (zv fd) ∧ zmks u.2.2.2.2.2.2.1 u.2.2.2.2.2.2.2 = zmks mk im) ∧ (zcTh (zv st) (zv lo) (zneed wn iq) ((zCN iw ih (zv fa) (zv fb) (zv fd) bx0 by0 bx1 by1 bg ib (zneed wn iq)) T) = 0 → r = nI (zthin (zCN iw ih (zv fa) (zv fb) (zv fd) bx0 by0 bx1 by1 bg ib (zneed wn iq)) (zTO iw ih (zv fa) (zv fb) (zv fd) bx0 by0 bx1 by1 bg ib wn ws iq) (zneed wn iq) (zv st) (zv lo) T (iw * ih)).2.2 ∧ zgr u.2.1 iw ih (zthin (zCN iw ih (zv fa) (zv fb) (zv fd) bx0 by0 bx1 by1 bg ib (zneed wn iq)) (zTO iw ih (zv fa) (zv fb) (zv fd) bx0 by0 bx1 by1 bg ib wn ws iq) (zneed wn iq) (zv st) (zv lo) T (iw * ih)).1 ∧ u.2.2.2.2.2.2.1 = true ∧ u.2.2.2.2.2.2.2 = (zCN iw ih (zv fa) (zv fb) (zv fd) bx0 by0 bx1 by1 bg ib (zneed wn iq)) (zthin (zCN iw ih (zv fa) (zv fb) (zv fd) bx0 by0 bx1 by1 bg ib (zneed wn iq)) (zTO iw ih (zv fa) (zv fb) (zv fd) bx0 by0 bx1 by1 bg ib wn ws iq) (zneed wn iq) (zv st) (zv lo) T (iw * ih)).1 ∧ q5m iw ih true u.2.2.2.2.2.2.2 u.2.2.1 u.2.2.2.1 u.2.2.2.2.1 u.2.2.2.2.2.1 (zthin (zCN iw ih (zv fa) (zv fb) (zv fd) bx0 by0 bx1 by1 bg ib (zneed wn iq)) (zTO iw ih (zv fa) (zv fb) (zv fd) bx0 by0 bx1 by1 bg ib wn ws iq) (zneed wn iq) (zv st) (zv lo) T (iw * ih)).1 (zRB iw (zthin (zCN iw ih (zv fa) (zv fb) (zv fd) bx0 by0 bx1 by1 bg ib (zneed wn iq)) (zTO iw ih (zv fa) (zv fb) (zv fd) bx0 by0 bx1 by1 bg ib wn ws iq) (zneed wn iq) (zv st) (zv lo) T (iw * ih)).1 (zv fa) bx0 by0 bx1 bg ib) (zNB iw ih (zthin (zCN iw ih (zv fa) (zv fb) (zv fd) bx0 by0 bx1 by1 bg ib (zneed wn iq)) (zTO iw ih (zv fa) (zv fb) (zv fd) bx0 by0 bx1 by1 bg ib wn ws iq) (zneed wn iq) (zv st) (zv lo) T (iw * ih)).1 (zv fb) bx0 by0 by1 bg ib) (zv fd))) (fun u t => (va_P (dC, dI) vwCl (w5 a0 aT aE aG aR aN aS aQ aW aX cD cI u.1 iw ih fa fb fd ib u.2.2.2.2.2.2.1 u.2.2.2.2.2.2.2 iq u.2.1 tE tG u.2.2.1 u.2.2.2.1 u.2.2.2.2.1 u.2.2.2.2.2.1 tW tX) t.heap ∧ va_K (dC, dI) vwCl [(cD, .double), (cI, .int)] t ∧ va_D (va_A (w5 a0 aT aE aG aR aN aS aQ aW aX cD cI th iw ih fa fb fd ib mk im iq tT tE tG tR tN tS tQ tW tX) sz) (w5 a0 aT aE aG aR aN aS aQ aW aX cD cI u.1 iw ih fa fb fd ib u.2.2.2.2.2.2.1 u.2.2.2.2.2.2.2 iq u.2.1 tE tG u.2.2.1 u.2.2.2.1 u.2.2.2.2.1 u.2.2.2.2.2.1 tW tX))) (va_A (w5 a0 aT aE aG aR aN aS aQ aW aX cD cI th iw ih fa fb fd ib mk im iq tT tE tG tR tN tS tQ tW tX) sz)) 0 0 (va_A (w5 a0 aT aE aG aR aN aS aQ aW aX cD cI th iw ih fa fb fd ib mk im iq tT tE tG tR tN tS tQ tW tX) sz) := by
  refine MetD.ofW (cc := cX5_thin) (maxL := 17) (ret := (some .int)) (by decide) rfl ?_
  intro p e s m args below meth c s₁ B hml hv hd0
  obtain ⟨rfl, hsz, hP, hK, hD0⟩ := hv
  have hx := B.exec
  have hb := B.bytes
  have hr := B.returns
  have hts := atoms_spec (ws := wsX5_thin) B.pre
  have hown : s.vm.findClass RX5 = some m.cls := findClass_of_methodNamed B.named
  have hlocks := B.notSynchronized
  subst hsz
  have hD := hD0.self (sz := s.heap.size)
  generalize hAe : va_A (w5 a0 aT aE aG aR aN aS aQ aW aX cD cI th iw ih fa fb fd ib mk im iq tT tE tG tR tN tS tQ tW tX) s.heap.size = A at hD ⊢
  have hA : ∀ q : Nat, s.heap.size ≤ q → A q := fun q h => by rw [← hAe]; exact Or.inr h
  have hS : va_S A s.heap s.heap [] := va_S.rf
  have hl := lv_entry ([.ref a0, .double st, .double lo]) (n := 17) (Nat.le_of_ble_eq_true rfl)
  rw [lg_entry_eq]
  generalize (lg_sl ([.ref a0, .double st, .double lo]) ++ List.replicate (17 - (lg_sl ([.ref a0, .double st, .double lo])).length) Slot.unset).toArray = ls at hl ⊢
  have hl : lv_has ls 17 [(0, .ref a0), (1, .double st), (3, .double lo)] := hl
  refine lv_aload_n hx hb dX5_thin_0 rfl (lv_at hl 0 rfl) ?_
  refine lv_dload_n hx hb dX5_thin_1 rfl (lv_at hl 1 rfl) ?_
  refine lv_ldc2d (v := 4593671619917905920) hx hb hown (dr_words hts s.drawn (.constantDouble RX5 64 (4593671619917905920)) (by decide +kernel)) dX5_thin_2 ?_
  refine lv_dconst1 hx hb dX5_thin_5 ?_
  refine va_calli (va_runS (As := [.double st, .double 4593671619917905920, .double FP.dconst1]) (rest := [.ref a0]) ⟨hx, hb, hml, hown, (dr_words hts s.drawn)⟩ (c5_between l st 4593671619917905920 FP.dconst1) (va_cwS 3 (dr_words hts s.drawn) gX5_thin_X5_between rfl rfl rfl (by decide +kernel) ⟨Nat.le_of_ble_eq_true rfl, Nat.le_of_ble_eq_true rfl⟩) ⟨zfb0, zpre0⟩ rfl rfl hl.1 rfl (lv_room (Nat.le_of_ble_eq_true rfl)) dX5_thin_6 ⟨Nat.le_of_ble_eq_true rfl, Nat.le_of_ble_eq_true rfl⟩) hS (fun q _ h => h.elim) (fun q h => h.elim) (fun r1 u9 t9 H locs ht9 hvm9 hr1 hB9 hz9 hk1 hS => ?_)
  have hP := zro1 hP hk1
  have hr1 : r1 = zb (zbt (zv st) (zv 4593671619917905920) z1) := hr1
  subst hr1
  refine z_if_eq_b (tgt := 29) hx hb dX5_thin_9 (by decide) (fun c2 => ?_) (fun c3 => ?_)
  · skip
    have c_9 := c2
    refine lv_iconst (v := (nI 1)) hx hb dX5_thin_29 (by decide) ?_
    refine va_put (D := (dC, dI)) (ci := 5) (v := .int (nI 1)) (ty := .int) (C := RX5) (T := TX5) (N := 19) hx hb (dr_words hts s.drawn) (in_X5_thin_X5) tyX5 tyX5_ok nmX5 hown hK hP hD hS 0 rfl rfl 0 (by decide) (dr_words hts s.drawn (.fieldLink RX5 55 "PlateModesModel" "thrown" "I") (by decide +kernel)) (fun _ h9 => h9) rfl (by decide +kernel) rfl rfl (Nat.le_of_ble_eq_true rfl) dX5_thin_30 (fun H locs hP hD hS => ?_)
    have hP : va_P (dC, dI) vwCl (w5 a0 aT aE aG aR aN aS aQ aW aX cD cI (nI 1) iw ih fa fb fd ib mk im iq tT tE tG tR tN tS tQ tW tX) H := hP
    have hD : va_D A (w5 a0 aT aE aG aR aN aS aQ aW aX cD cI (nI 1) iw ih fa fb fd ib mk im iq tT tE tG tR tN tS tQ tW tX) := hD
    refine lv_aload_n hx hb dX5_thin_33 rfl (lv_at hl 0 rfl) ?_
    refine va_get (D := (dC, dI)) (ci := 5) (v := .int (nI 1)) (C := RX5) (T := TX5) (N := 19) hx hb (dr_words hts s.drawn) (in_X5_thin_X5) hown hK hP 0 rfl rfl 0 (by decide) (dr_words hts s.drawn (.fieldLink RX5 55 "PlateModesModel" "thrown" "I") (by decide +kernel)) (fun _ h9 => h9) rfl dX5_thin_34 ?_
    refine z_if_le (tgt := 42) hx hb (by omega) dX5_thin_37 (by decide) (fun c4 => ?_) (fun c5 => ?_)
    · skip
      exact absurd c4 (by decide)
    · skip
      refine lv_iconst (v := (nI 0)) hx hb dX5_thin_40 (by decide) ?_
      refine W.endD hd0 ?_
      exact W.iret (v := (nI 0)) hx hb hr (fun t ht hW => ⟨⟨(nI 0), ((nI 1), tT, tR, tN, tS, tQ, mk, im), rfl, ⟨congrArg nI (if_pos (show zcTh1 (zv st) (zv lo) = false from by unfold zcTh1; first | (rw [c_9]; rfl) | (rw [c_9, c_22]; rfl))).symm, fun _ => ⟨rfl, rfl, rfl, rfl, rfl, rfl, rfl⟩, fun h => absurd ((if_pos (show zcTh1 (zv st) (zv lo) = false from by unfold zcTh1; first | (rw [c_9]; rfl) | (rw [c_9, c_22]; rfl))).symm.trans h) (by decide), fun h => absurd ((if_pos (show zcTh1 (zv st) (zv lo) = false from by unfold zcTh1; first | (rw [c_9]; rfl) | (rw [c_9, c_22]; rfl))).symm.trans h) (by decide)⟩, by rw [ht]; exact hP, va_K.moved hW.alike hK, hD⟩, hS.F ht⟩) hS.2.2 dX5_thin_41
  · skip
    have c_9 := c3
    refine lv_dload_n hx hb dX5_thin_12 rfl (lv_at hl 2 rfl) ?_
    refine lv_ldc2d (v := 4593671619917905920) hx hb hown (dr_words hts s.drawn (.constantDouble RX5 64 (4593671619917905920)) (by decide +kernel)) dX5_thin_13 ?_
    refine lv_ldc2d (v := 4620693217682128896) hx hb hown (dr_words hts s.drawn (.constantDouble RX5 66 (4620693217682128896)) (by decide +kernel)) dX5_thin_16 ?_
    refine va_calli (va_runS (As := [.double lo, .double 4593671619917905920, .double 4620693217682128896]) (rest := [.ref a0]) ⟨hx, hb, hml, hown, (dr_words hts s.drawn)⟩ (c5_between l lo 4593671619917905920 4620693217682128896) (va_cwS 3 (dr_words hts s.drawn) gX5_thin_X5_between rfl rfl rfl (by decide +kernel) ⟨Nat.le_of_ble_eq_true rfl, Nat.le_of_ble_eq_true rfl⟩) ⟨zfb0, zpre0⟩ rfl rfl hl.1 rfl (lv_room (Nat.le_of_ble_eq_true rfl)) dX5_thin_19 ⟨Nat.le_of_ble_eq_true rfl, Nat.le_of_ble_eq_true rfl⟩) hS (fun q _ h => h.elim) (fun q h => h.elim) (fun r6 u9 t9 H locs ht9 hvm9 hr6 hB9 hz9 hk1 hS => ?_)
    have hP := zro1 hP hk1
    have hr6 : r6 = zb (zbt (zv lo) (zv 4593671619917905920) (zv 4620693217682128896)) := hr6
    subst hr6
    refine z_if_eq_b (tgt := 29) hx hb dX5_thin_22 (by decide) (fun c7 => ?_) (fun c8 => ?_)
    · skip
      have c_22 := c7
      refine lv_iconst (v := (nI 1)) hx hb dX5_thin_29 (by decide) ?_
      refine va_put (D := (dC, dI)) (ci := 5) (v := .int (nI 1)) (ty := .int) (C := RX5) (T := TX5) (N := 19) hx hb (dr_words hts s.drawn) (in_X5_thin_X5) tyX5 tyX5_ok nmX5 hown hK hP hD hS 0 rfl rfl 0 (by decide) (dr_words hts s.drawn (.fieldLink RX5 55 "PlateModesModel" "thrown" "I") (by decide +kernel)) (fun _ h9 => h9) rfl (by decide +kernel) rfl rfl (Nat.le_of_ble_eq_true rfl) dX5_thin_30 (fun H locs hP hD hS => ?_)
      have hP : va_P (dC, dI) vwCl (w5 a0 aT aE aG aR aN aS aQ aW aX cD cI (nI 1) iw ih fa fb fd ib mk im iq tT tE tG tR tN tS tQ tW tX) H := hP
      have hD : va_D A (w5 a0 aT aE aG aR aN aS aQ aW aX cD cI (nI 1) iw ih fa fb fd ib mk im iq tT tE tG tR tN tS tQ tW tX) := hD
      refine lv_aload_n hx hb dX5_thin_33 rfl (lv_at hl 0 rfl) ?_
      refine va_get (D := (dC, dI)) (ci := 5) (v := .int (nI 1)) (C := RX5) (T := TX5) (N := 19) hx hb (dr_words hts s.drawn) (in_X5_thin_X5) hown hK hP 0 rfl rfl 0 (by decide) (dr_words hts s.drawn (.fieldLink RX5 55 "PlateModesModel" "thrown" "I") (by decide +kernel)) (fun _ h9 => h9) rfl dX5_thin_34 ?_
      refine z_if_le (tgt := 42) hx hb (by omega) dX5_thin_37 (by decide) (fun c9 => ?_) (fun c10 => ?_)
      · skip
        exact absurd c9 (by decide)
      · skip
        refine lv_iconst (v := (nI 0)) hx hb dX5_thin_40 (by decide) ?_
        refine W.endD hd0 ?_
        exact W.iret (v := (nI 0)) hx hb hr (fun t ht hW => ⟨⟨(nI 0), ((nI 1), tT, tR, tN, tS, tQ, mk, im), rfl, ⟨congrArg nI (if_pos (show zcTh1 (zv st) (zv lo) = false from by unfold zcTh1; first | (rw [c_9]; rfl) | (rw [c_9, c_22]; rfl))).symm, fun _ => ⟨rfl, rfl, rfl, rfl, rfl, rfl, rfl⟩, fun h => absurd ((if_pos (show zcTh1 (zv st) (zv lo) = false from by unfold zcTh1; first | (rw [c_9]; rfl) | (rw [c_9, c_22]; rfl))).symm.trans h) (by decide), fun h => absurd ((if_pos (show zcTh1 (zv st) (zv lo) = false from by unfold zcTh1; first | (rw [c_9]; rfl) | (rw [c_9, c_22]; rfl))).symm.trans h) (by decide)⟩, by rw [ht]; exact hP, va_K.moved hW.alike hK, hD⟩, hS.F ht⟩) hS.2.2 dX5_thin_41
    · skip
      have c_22 := c8
      refine lv_iconst (v := (nI 0)) hx hb dX5_thin_25 (by decide) ?_
      refine lv_goto (tgt := 30) hx hb dX5_thin_26 (by decide) ?_
      refine va_put (D := (dC, dI)) (ci := 5) (v := .int (nI 0)) (ty := .int) (C := RX5) (T := TX5) (N := 19) hx hb (dr_words hts s.drawn) (in_X5_thin_X5) tyX5 tyX5_ok nmX5 hown hK hP hD hS 0 rfl rfl 0 (by decide) (dr_words hts s.drawn (.fieldLink RX5 55 "PlateModesModel" "thrown" "I") (by decide +kernel)) (fun _ h9 => h9) rfl (by decide +kernel) rfl rfl (Nat.le_of_ble_eq_true rfl) dX5_thin_30 (fun H locs hP hD hS => ?_)
      have hP : va_P (dC, dI) vwCl (w5 a0 aT aE aG aR aN aS aQ aW aX cD cI (nI 0) iw ih fa fb fd ib mk im iq tT tE tG tR tN tS tQ tW tX) H := hP
      have hD : va_D A (w5 a0 aT aE aG aR aN aS aQ aW aX cD cI (nI 0) iw ih fa fb fd ib mk im iq tT tE tG tR tN tS tQ tW tX) := hD
      refine lv_aload_n hx hb dX5_thin_33 rfl (lv_at hl 0 rfl) ?_
      refine va_get (D := (dC, dI)) (ci := 5) (v := .int (nI 0)) (C := RX5) (T := TX5) (N := 19) hx hb (dr_words hts s.drawn) (in_X5_thin_X5) hown hK hP 0 rfl rfl 0 (by decide) (dr_words hts s.drawn (.fieldLink RX5 55 "PlateModesModel" "thrown" "I") (by decide +kernel)) (fun _ h9 => h9) rfl dX5_thin_34 ?_
      refine z_if_le (tgt := 42) hx hb (by omega) dX5_thin_37 (by decide) (fun c11 => ?_) (fun c12 => ?_)
      · skip
        refine lv_aload_n hx hb dX5_thin_42 rfl (lv_at hl 0 rfl) ?_
        have hPc := hP
        refine va_calli (va_runV (As := []) (rest := []) ⟨hx, hb, hml, hown, (dr_words hts s.drawn)⟩ (c5_needed l dC dI a0 aT aE aG aR aN aS aQ aW aX cD cI (nI 0) iw ih fa fb fd ib mk im iq tT tE tG tR tN tS tQ tW tX wn hq4 gW gw4) (cwV 0 (dr_words hts s.drawn) gX5_thin_X5_needed rfl rfl rfl (by decide +kernel) ⟨Nat.le_of_ble_eq_true rfl, Nat.le_of_ble_eq_true rfl⟩) ⟨zfb, va_recv hK hP (ci := 5) (q0 := 0) rfl rfl, zpre hPc hK⟩ rfl rfl hl.1 rfl (lv_room (Nat.le_of_ble_eq_true rfl)) dX5_thin_43 ⟨Nat.le_of_ble_eq_true rfl, Nat.le_of_ble_eq_true rfl⟩) hS (fun q _ h => h.elim) (fun q h => h.elim) (fun r13 u9 t9 H locs ht9 hvm9 hr13 hB9 hz9 hk1 hS => ?_)
        have hP := zro1 hP hk1
        subst hr13
        have hnd4 := zneed_le gw4 iq (Nat.le_refl _)
        refine lv_istore (lv' := [(5, .int (nI ((zneed wn iq)))), (0, .ref a0), (1, .double st), (3, .double lo)]) hx hb dX5_thin_46 hl (by decide) rfl (fun ls hl => ?_)
        refine lv_aload_n hx hb dX5_thin_48 rfl (lv_at hl 1 rfl) ?_
        refine va_get (D := (dC, dI)) (ci := 5) (v := .int (zb mk)) (C := RX5) (T := TX5) (N := 19) hx hb (dr_words hts s.drawn) (in_X5_thin_X5) hown hK hP 0 rfl rfl 12 (by decide) (dr_words hts s.drawn (.fieldLink RX5 72 "PlateModesModel" "made" "Z") (by decide +kernel)) (fun _ h9 => h9) rfl dX5_thin_49 ?_
        refine lv_istore (lv' := [(6, .int (zb mk)), (5, .int (nI ((zneed wn iq)))), (0, .ref a0), (1, .double st), (3, .double lo)]) hx hb dX5_thin_52 hl (by decide) rfl (fun ls hl => ?_)
        refine lv_aload_n hx hb dX5_thin_54 rfl (lv_at hl 2 rfl) ?_
        refine va_get (D := (dC, dI)) (ci := 5) (v := .int (nI im)) (C := RX5) (T := TX5) (N := 19) hx hb (dr_words hts s.drawn) (in_X5_thin_X5) hown hK hP 0 rfl rfl 13 (by decide) (dr_words hts s.drawn (.fieldLink RX5 116 "PlateModesModel" "many" "I") (by decide +kernel)) (fun _ h9 => h9) rfl dX5_thin_55 ?_
        refine lv_istore (lv' := [(7, .int (nI im)), (6, .int (zb mk)), (5, .int (nI ((zneed wn iq)))), (0, .ref a0), (1, .double st), (3, .double lo)]) hx hb dX5_thin_58 hl (by decide) rfl (fun ls hl => ?_)
        refine lv_iload hx hb dX5_thin_60 (lv_at hl 2 rfl) ?_
        refine z_if_le (tgt := 71) hx hb (by omega) dX5_thin_62 (by decide) (fun c14 => ?_) (fun c15 => ?_)
        · skip
          have c_62 := c14
          have him4 := hq.1
          refine lv_iload hx hb dX5_thin_71 (lv_at hl 2 rfl) ?_
          refine z_if_eq (tgt := 85) hx hb (by omega) dX5_thin_73 (by decide) (fun c16 => ?_) (fun c17 => ?_)
          · skip
            refine lv_aload_n hx hb dX5_thin_85 rfl (lv_at hl 3 rfl) ?_
            refine lv_iconst (v := (nI 2)) hx hb dX5_thin_86 (by decide) ?_
            refine va_put (D := (dC, dI)) (ci := 5) (v := .int (nI 2)) (ty := .int) (C := RX5) (T := TX5) (N := 19) hx hb (dr_words hts s.drawn) (in_X5_thin_X5) tyX5 tyX5_ok nmX5 hown hK hP hD hS 0 rfl rfl 0 (by decide) (dr_words hts s.drawn (.fieldLink RX5 55 "PlateModesModel" "thrown" "I") (by decide +kernel)) (fun _ h9 => h9) rfl (by decide +kernel) rfl rfl (Nat.le_of_ble_eq_true rfl) dX5_thin_87 (fun H locs hP hD hS => ?_)
            have hP : va_P (dC, dI) vwCl (w5 a0 aT aE aG aR aN aS aQ aW aX cD cI (nI 2) iw ih fa fb fd ib mk im iq tT tE tG tR tN tS tQ tW tX) H := hP
            have hD : va_D A (w5 a0 aT aE aG aR aN aS aQ aW aX cD cI (nI 2) iw ih fa fb fd ib mk im iq tT tE tG tR tN tS tQ tW tX) := hD
            refine lv_iload hx hb dX5_thin_90 (lv_at hl 2 rfl) ?_
            refine z_if_le (tgt := 106) hx hb (by omega) dX5_thin_92 (by decide) (fun c18 => ?_) (fun c19 => ?_)
            · skip
              refine lv_aload_n hx hb dX5_thin_106 rfl (lv_at hl 3 rfl) ?_
              refine lv_iload hx hb dX5_thin_107 (lv_at hl 1 rfl) ?_
              refine va_put (D := (dC, dI)) (ci := 5) (v := .int (zb mk)) (ty := .boolean) (C := RX5) (T := TX5) (N := 19) hx hb (dr_words hts s.drawn) (in_X5_thin_X5) tyX5 tyX5_ok nmX5 hown hK hP hD hS 0 rfl rfl 12 (by decide) (dr_words hts s.drawn (.fieldLink RX5 72 "PlateModesModel" "made" "Z") (by decide +kernel)) (fun _ h9 => h9) rfl (by decide +kernel) (zb_nar _) (zb_fit _) (Nat.le_of_ble_eq_true rfl) dX5_thin_109 (fun H locs hP hD hS => ?_)
              have hP : va_P (dC, dI) vwCl (w5 a0 aT aE aG aR aN aS aQ aW aX cD cI (nI 2) iw ih fa fb fd ib mk im iq tT tE tG tR tN tS tQ tW tX) H := hP
              have hD : va_D A (w5 a0 aT aE aG aR aN aS aQ aW aX cD cI (nI 2) iw ih fa fb fd ib mk im iq tT tE tG tR tN tS tQ tW tX) := hD
              refine lv_iconst (v := (nI 0)) hx hb dX5_thin_112 (by decide) ?_
              refine W.endD hd0 ?_
              exact W.iret (v := (nI 0)) hx hb hr (fun t ht hW => ⟨⟨(nI 0), ((nI 2), tT, tR, tN, tS, tQ, mk, im), rfl, ⟨congrArg nI ((if_neg (show ¬ zcTh1 (zv st) (zv lo) = false from by unfold zcTh1; rw [c_9, c_22]; decide)).trans (if_pos (Or.inl c_62))).symm, fun h => absurd (((if_neg (show ¬ zcTh1 (zv st) (zv lo) = false from by unfold zcTh1; rw [c_9, c_22]; decide)).trans (if_pos (Or.inl c_62))).symm.trans h) (by decide), fun _ => ⟨rfl, rfl, hq, rfl⟩, fun h => absurd (((if_neg (show ¬ zcTh1 (zv st) (zv lo) = false from by unfold zcTh1; rw [c_9, c_22]; decide)).trans (if_pos (Or.inl c_62))).symm.trans h) (by decide)⟩, by rw [ht]; exact hP, va_K.moved hW.alike hK, hD⟩, hS.F ht⟩) hS.2.2 dX5_thin_113
            · skip
              omega
          · skip
            omega
        · skip
          have c_62 := c15
          have him4 := hq.1
          refine lv_aload_n hx hb dX5_thin_65 rfl (lv_at hl 3 rfl) ?_
          refine lv_iload hx hb dX5_thin_66 (lv_at hl 2 rfl) ?_
          have hFc := zself hD hS hA
          refine va_callvD hd0 (va_runV_D (As := [.int (nI ((zneed wn iq)))]) (rest := []) ⟨hx, hb, hml, hown, (dr_words hts s.drawn)⟩ (c5_makeAll l dC dI a0 aT aE aG aR aN aS aQ aW aX cD cI (nI 0) iw ih fa fb fd ib mk im iq tT tE tG tR tN tS tQ tW tX ((zneed wn iq)) (by omega) hw6 hh6 T gT bx0 by0 bx1 by1 bg hb12 gE gB gG _) (cwV 1 (dr_words hts s.drawn) gX5_thin_X5_makeAll rfl rfl rfl (by decide +kernel) ⟨Nat.le_of_ble_eq_true rfl, Nat.le_of_ble_eq_true rfl⟩) ⟨zfbw, va_recv hK hP (ci := 5) (q0 := 0) rfl rfl, zprew hP hK hD⟩ rfl rfl hl.1 rfl (lv_room (Nat.le_of_ble_eq_true rfl)) dX5_thin_68 ⟨Nat.le_of_ble_eq_true rfl, Nat.le_of_ble_eq_true rfl⟩) hS (fun q _ h => hFc q h) hFc (fun u21 t9 H1 locs ht9 hvm9 hr20 hB9 hz9 hk1 hS dhd22 hd22 => ?_)
          obtain ⟨hP1, hK1, hD1⟩ := hB9
          rw [ht9] at hP1
          have hD := hD1.weaken (fun k q _ h => hFc q.1 h)
          have hP := hP1
          generalize H1 = H at hP hS ⊢
          have hP : va_P (dC, dI) vwCl (w5 a0 aT aE aG aR aN aS aQ aW aX cD cI (nI 0) iw ih fa fb fd ib true ((zcnt iw ih T (zRB iw T (zv fa) bx0 by0 bx1 bg ib) (zNB iw ih T (zv fb) bx0 by0 by1 bg ib) (zv fd) ((zneed wn iq)))) iq tT tE tG u21.1 u21.2.1 u21.2.2.1 u21.2.2.2 tW tX) H := hP
          have hD : va_D A (w5 a0 aT aE aG aR aN aS aQ aW aX cD cI (nI 0) iw ih fa fb fd ib true ((zcnt iw ih T (zRB iw T (zv fa) bx0 by0 bx1 bg ib) (zNB iw ih T (zv fb) bx0 by0 by1 bg ib) (zv fd) ((zneed wn iq)))) iq tT tE tG u21.1 u21.2.1 u21.2.2.1 u21.2.2.2 tW tX) := hD
          obtain ⟨sR24, sN25, sS26, sQ27⟩ := u21
          obtain ⟨gRmc23, gNmc23, gMmc23⟩ := hr20
          dsimp only at gRmc23 gNmc23 gMmc23
          have hP : va_P (dC, dI) vwCl (w5 a0 aT aE aG aR aN aS aQ aW aX cD cI (nI 0) iw ih fa fb fd ib true ((zcnt iw ih T (zRB iw T (zv fa) bx0 by0 bx1 bg ib) (zNB iw ih T (zv fb) bx0 by0 by1 bg ib) (zv fd) ((zneed wn iq)))) iq tT tE tG sR24 sN25 sS26 sQ27 tW tX) H := hP
          have hD : va_D A (w5 a0 aT aE aG aR aN aS aQ aW aX cD cI (nI 0) iw ih fa fb fd ib true ((zcnt iw ih T (zRB iw T (zv fa) bx0 by0 bx1 bg ib) (zNB iw ih T (zv fb) bx0 by0 by1 bg ib) (zv fd) ((zneed wn iq)))) iq tT tE tG sR24 sN25 sS26 sQ27 tW tX) := hD
          obtain ⟨mc23, hmc23⟩ : ∃ q, (zcnt iw ih T (zRB iw T (zv fa) bx0 by0 bx1 bg ib) (zNB iw ih T (zv fb) bx0 by0 by1 bg ib) (zv fd) ((zneed wn iq))) = q := ⟨_, rfl⟩
          have hqmc23 : q5m iw ih true mc23 sR24 sN25 sS26 sQ27 T (zRB iw T (zv fa) bx0 by0 bx1 bg ib) (zNB iw ih T (zv fb) bx0 by0 by1 bg ib) (zv fd) := by rw [← hmc23]; exact ⟨Nat.le_trans (zcnt_le _) (by omega), fun _ => ⟨gRmc23, gNmc23, zcnt_idem _, gMmc23⟩⟩
          have hlemc23 : mc23 ≤ ((zneed wn iq)) := by rw [← hmc23]; exact zcnt_le _
          rw [hmc23] at hP hD
          have hP : va_P (dC, dI) vwCl (w5 a0 aT aE aG aR aN aS aQ aW aX cD cI (nI 0) iw ih fa fb fd ib true mc23 iq tT tE tG sR24 sN25 sS26 sQ27 tW tX) H := hP
          have hD : va_D A (w5 a0 aT aE aG aR aN aS aQ aW aX cD cI (nI 0) iw ih fa fb fd ib true mc23 iq tT tE tG sR24 sN25 sS26 sQ27 tW tX) := hD
          refine lv_iload hx hb dX5_thin_71 (lv_at hl 2 rfl) ?_
          refine z_if_eq (tgt := 85) hx hb (by omega) dX5_thin_73 (by decide) (fun c28 => ?_) (fun c29 => ?_)
          · skip
            omega
          · skip
            refine lv_aload_n hx hb dX5_thin_76 rfl (lv_at hl 3 rfl) ?_
            refine va_get (D := (dC, dI)) (ci := 5) (v := .int (nI mc23)) (C := RX5) (T := TX5) (N := 19) hx hb (dr_words hts dhd22) (in_X5_thin_X5) hown hK hP 0 rfl rfl 13 (by decide) (dr_words hts dhd22 (.fieldLink RX5 116 "PlateModesModel" "many" "I") (by decide +kernel)) (fun _ h9 => h9) rfl dX5_thin_77 ?_
            refine lv_iload hx hb dX5_thin_80 (lv_at hl 2 rfl) ?_
            refine z_icmp_ge (a := mc23) (b := (zneed wn iq)) (tgt := 114) hx hb (by omega) (by omega) dX5_thin_82 (by decide) (fun c30 => ?_) (fun c31 => ?_)
            · skip
              have c_82 := c30
              refine lv_aload_n hx hb dX5_thin_114 rfl (lv_at hl 3 rfl) ?_
              have hPc := hP
              refine va_calldD hd22 (va_runV_D (As := []) (rest := []) ⟨hx, hb, hml, hown, (dr_words hts dhd22)⟩ (c5_total l dC dI a0 aT aE aG aR aN aS aQ aW aX cD cI (nI 0) iw ih fa fb fd ib true mc23 iq tT tE tG sR24 sN25 sS26 sQ27 tW tX wn hq4 gW gw4 (fun i => zSQ iw ih T (zRB iw T (zv fa) bx0 by0 bx1 bg ib) (zNB iw ih T (zv fb) bx0 by0 by1 bg ib) (zv fd) (wn i)) ws (fun i hi => ((hqmc23.2 rfl).2.2.2 (wn i) (Nat.lt_of_lt_of_le (zneed_gt hi) (show zneed wn iq ≤ mc23 from by omega))).2) gX) (cwV 0 (dr_words hts dhd22) gX5_thin_X5_total rfl rfl rfl (by decide +kernel) ⟨Nat.le_of_ble_eq_true rfl, Nat.le_of_ble_eq_true rfl⟩) ⟨zfb, va_recv hK hP (ci := 5) (q0 := 0) rfl rfl, zpre hPc hK⟩ rfl rfl hl.1 rfl (lv_room (Nat.le_of_ble_eq_true rfl)) dX5_thin_115 ⟨Nat.le_of_ble_eq_true rfl, Nat.le_of_ble_eq_true rfl⟩) hS (fun q _ h => h.elim) (fun q h => h.elim) (fun r32 u9 t9 H locs ht9 hvm9 hr32 hB9 hz9 hk1 hS dhd33 hd33 => ?_)
              have hP := zro1 hP hk1
              refine lv_dstore (lv' := [(8, .double r32), (7, .int (nI im)), (6, .int (zb mk)), (5, .int (nI ((zneed wn iq)))), (0, .ref a0), (1, .double st), (3, .double lo)]) hx hb dX5_thin_118 hl (by decide) rfl (fun ls hl => ?_)
              refine lv_iconst (v := (nI 0)) hx hb dX5_thin_120 (by decide) ?_
              refine lv_istore (lv' := [(10, .int (nI 0)), (8, .double r32), (7, .int (nI im)), (6, .int (zb mk)), (5, .int (nI ((zneed wn iq)))), (0, .ref a0), (1, .double st), (3, .double lo)]) hx hb dX5_thin_121 hl (by decide) rfl (fun ls hl => ?_)
              refine lv_iconst (v := (nI 0)) hx hb dX5_thin_123 (by decide) ?_
              refine lv_istore (lv' := [(11, .int (nI 0)), (10, .int (nI 0)), (8, .double r32), (7, .int (nI im)), (6, .int (zb mk)), (5, .int (nI ((zneed wn iq)))), (0, .ref a0), (1, .double st), (3, .double lo)]) hx hb dX5_thin_124 hl (by decide) rfl (fun ls hl => ?_)
              have L_126 : ∀ (n : Nat) (y : Nat) (Tq : Nat → ZD) (qT : Nat → UInt64) (qR : Nat → UInt64) (qN : Nat → UInt64) (qS : Nat → UInt64) (qQ : Nat → UInt64) (mq : Nat) (Lq : UInt64) (cn : Nat) (d0 : Drawn) (H : Heap) (locs : List Loc) (ls : Array Slot), ih - y < n → (y ≤ ih) → (cn ≤ y * iw) → (zgr qT iw ih Tq) → (zthin (zCN iw ih (zv fa) (zv fb) (zv fd) bx0 by0 bx1 by1 bg ib (zneed wn iq)) (zTO iw ih (zv fa) (zv fb) (zv fd) bx0 by0 bx1 by1 bg ib wn ws iq) (zneed wn iq) (zv st) (zv lo) T (y * iw) = (Tq, zv Lq, cn)) → s.drawn.sameBut d0 lw_cs → va_P (dC, dI) vwCl (w5 a0 aT aE aG aR aN aS aQ aW aX cD cI (nI 0) iw ih fa fb fd ib true mq iq qT tE tG qR qN qS qQ tW tX) H → va_D A (w5 a0 aT aE aG aR aN aS aQ aW aX cD cI (nI 0) iw ih fa fb fd ib true mq iq qT tE tG qR qN qS qQ tW tX) → va_S A s.heap H locs → lv_has ls 17 [(11, .int (nI y)), (8, .double Lq), (10, .int (nI cn)), (0, .ref a0), (1, .double st), (3, .double lo), (5, .int (nI ((zneed wn iq))))] → W p l e (headSpec wsX5_thin ({ frames := 5, cells := 0, slots := 0, locals := 120 } : Room)).room (s.setDrawn d0) m ([.ref a0, .double st, .double lo] : List Value).toArray below meth c H locs 0 0 (MQD lw_cs below (va_Qi (fun (r : Int32) (u : Int32 × (Nat → UInt64) × (Nat → UInt64) × (Nat → UInt64) × (Nat → UInt64) × (Nat → UInt64) × Bool × Nat) => u.1 = nI (zcTh (zv st) (zv lo) (zneed wn iq) ((zCN iw ih (zv fa) (zv fb) (zv fd) bx0 by0 bx1 by1 bg ib (zneed wn iq)) T)) ∧ (zcTh (zv st) (zv lo) (zneed wn iq) ((zCN iw ih (zv fa) (zv fb) (zv fd) bx0 by0 bx1 by1 bg ib (zneed wn iq)) T) = 1 → u.2.1 = tT ∧ u.2.2.1 = tR ∧ u.2.2.2.1 = tN ∧ u.2.2.2.2.1 = tS ∧ u.2.2.2.2.2.1 = tQ ∧ u.2.2.2.2.2.2.1 = mk ∧ u.2.2.2.2.2.2.2 = im) ∧ (zcTh (zv st) (zv lo) (zneed wn iq) ((zCN iw ih (zv fa) (zv fb) (zv fd) bx0 by0 bx1 by1 bg ib (zneed wn iq)) T) = 2 → u.2.1 = tT ∧ u.2.2.2.2.2.2.1 = mk ∧ q5m iw ih u.2.2.2.2.2.2.1 u.2.2.2.2.2.2.2 u.2.2.1 u.2.2.2.1 u.2.2.2.2.1 u.2.2.2.2.2.1 T (zRB iw T (zv fa) bx0 by0 bx1 bg ib) (zNB iw ih T (zv fb) bx0 by0 by1 bg ib) (zv fd) ∧ zmks u.2.2.2.2.2.2.1 u.2.2.2.2.2.2.2 = zmks mk im) ∧ (zcTh (zv st) (zv lo) (zneed wn iq) ((zCN iw ih (zv fa) (zv fb) (zv fd) bx0 by0 bx1 by1 bg ib (zneed wn iq)) T) = 0 → r = nI (zthin (zCN iw ih (zv fa) (zv fb) (zv fd) bx0 by0 bx1 by1 bg ib (zneed wn iq)) (zTO iw ih (zv fa) (zv fb) (zv fd) bx0 by0 bx1 by1 bg ib wn ws iq) (zneed wn iq) (zv st) (zv lo) T (iw * ih)).2.2 ∧ zgr u.2.1 iw ih (zthin (zCN iw ih (zv fa) (zv fb) (zv fd) bx0 by0 bx1 by1 bg ib (zneed wn iq)) (zTO iw ih (zv fa) (zv fb) (zv fd) bx0 by0 bx1 by1 bg ib wn ws iq) (zneed wn iq) (zv st) (zv lo) T (iw * ih)).1 ∧ u.2.2.2.2.2.2.1 = true ∧ u.2.2.2.2.2.2.2 = (zCN iw ih (zv fa) (zv fb) (zv fd) bx0 by0 bx1 by1 bg ib (zneed wn iq)) (zthin (zCN iw ih (zv fa) (zv fb) (zv fd) bx0 by0 bx1 by1 bg ib (zneed wn iq)) (zTO iw ih (zv fa) (zv fb) (zv fd) bx0 by0 bx1 by1 bg ib wn ws iq) (zneed wn iq) (zv st) (zv lo) T (iw * ih)).1 ∧ q5m iw ih true u.2.2.2.2.2.2.2 u.2.2.1 u.2.2.2.1 u.2.2.2.2.1 u.2.2.2.2.2.1 (zthin (zCN iw ih (zv fa) (zv fb) (zv fd) bx0 by0 bx1 by1 bg ib (zneed wn iq)) (zTO iw ih (zv fa) (zv fb) (zv fd) bx0 by0 bx1 by1 bg ib wn ws iq) (zneed wn iq) (zv st) (zv lo) T (iw * ih)).1 (zRB iw (zthin (zCN iw ih (zv fa) (zv fb) (zv fd) bx0 by0 bx1 by1 bg ib (zneed wn iq)) (zTO iw ih (zv fa) (zv fb) (zv fd) bx0 by0 bx1 by1 bg ib wn ws iq) (zneed wn iq) (zv st) (zv lo) T (iw * ih)).1 (zv fa) bx0 by0 bx1 bg ib) (zNB iw ih (zthin (zCN iw ih (zv fa) (zv fb) (zv fd) bx0 by0 bx1 by1 bg ib (zneed wn iq)) (zTO iw ih (zv fa) (zv fb) (zv fd) bx0 by0 bx1 by1 bg ib wn ws iq) (zneed wn iq) (zv st) (zv lo) T (iw * ih)).1 (zv fb) bx0 by0 by1 bg ib) (zv fd))) (fun u t => (va_P (dC, dI) vwCl (w5 a0 aT aE aG aR aN aS aQ aW aX cD cI u.1 iw ih fa fb fd ib u.2.2.2.2.2.2.1 u.2.2.2.2.2.2.2 iq u.2.1 tE tG u.2.2.1 u.2.2.2.1 u.2.2.2.2.1 u.2.2.2.2.2.1 tW tX) t.heap ∧ va_K (dC, dI) vwCl [(cD, .double), (cI, .int)] t ∧ va_D A (w5 a0 aT aE aG aR aN aS aQ aW aX cD cI u.1 iw ih fa fb fd ib u.2.2.2.2.2.2.1 u.2.2.2.2.2.2.2 iq u.2.1 tE tG u.2.2.1 u.2.2.2.1 u.2.2.2.2.1 u.2.2.2.2.2.1 tW tX))) A) ([.ref a0, .double st, .double lo] : List Value).toArray s 0 0 A) (F0 m 126 ls []) := by
                intro n
                induction n with
                | zero => intro y Tq qT qR qN qS qQ mq Lq cn d0 H locs ls hn; exact absurd hn (Nat.not_lt_zero _)
                | succ n ih_L_126 =>
                  intro y Tq qT qR qN qS qQ mq Lq cn d0 H locs ls hn hyh hcn gTq hst hd0 hP hD hS hl
                  refine lv_iload hx hb dX5_thin_126 (lv_at hl 0 rfl) ?_
                  refine lv_aload_n hx hb dX5_thin_128 rfl (lv_at hl 3 rfl) ?_
                  refine va_get (D := (dC, dI)) (ci := 5) (v := .int (nI ih)) (C := RX5) (T := TX5) (N := 19) hx hb (dr_words hts d0) (in_X5_thin_X5) hown hK hP 0 rfl rfl 2 (by decide) (dr_words hts d0 (.fieldLink RX5 52 "PlateModesModel" "height" "I") (by decide +kernel)) (fun _ h9 => h9) rfl dX5_thin_129 ?_
                  refine z_icmp_ge (a := y) (b := ih) (tgt := 295) hx hb (by omega) (by omega) dX5_thin_132 (by decide) (fun c34 => ?_) (fun c35 => ?_)
                  · skip
                    refine lv_aload_n hx hb dX5_thin_295 rfl (lv_at hl 3 rfl) ?_
                    refine lv_iload hx hb dX5_thin_296 (lv_at hl 6 rfl) ?_
                    have hFc := zself hD hS hA
                    refine va_callvD hd0 (va_runV_D (As := [.int (nI ((zneed wn iq)))]) (rest := []) ⟨hx, hb, hml, hown, (dr_words hts d0)⟩ (c5_makeAll l dC dI a0 aT aE aG aR aN aS aQ aW aX cD cI (nI 0) iw ih fa fb fd ib true mq iq qT tE tG qR qN qS qQ tW tX ((zneed wn iq)) (by omega) hw6 hh6 Tq gTq bx0 by0 bx1 by1 bg hb12 gE gB gG _) (cwV 1 (dr_words hts d0) gX5_thin_X5_makeAll rfl rfl rfl (by decide +kernel) ⟨Nat.le_of_ble_eq_true rfl, Nat.le_of_ble_eq_true rfl⟩) ⟨zfbw, va_recv hK hP (ci := 5) (q0 := 0) rfl rfl, zprew hP hK hD⟩ rfl rfl hl.1 rfl (lv_room (Nat.le_of_ble_eq_true rfl)) dX5_thin_298 ⟨Nat.le_of_ble_eq_true rfl, Nat.le_of_ble_eq_true rfl⟩) hS (fun q _ h => hFc q h) hFc (fun u37 t9 H1 locs ht9 hvm9 hr36 hB9 hz9 hk1 hS dhd38 hd38 => ?_)
                    obtain ⟨hP1, hK1, hD1⟩ := hB9
                    rw [ht9] at hP1
                    have hD := hD1.weaken (fun k q _ h => hFc q.1 h)
                    have hP := hP1
                    generalize H1 = H at hP hS ⊢
                    have hP : va_P (dC, dI) vwCl (w5 a0 aT aE aG aR aN aS aQ aW aX cD cI (nI 0) iw ih fa fb fd ib true ((zcnt iw ih Tq (zRB iw Tq (zv fa) bx0 by0 bx1 bg ib) (zNB iw ih Tq (zv fb) bx0 by0 by1 bg ib) (zv fd) ((zneed wn iq)))) iq qT tE tG u37.1 u37.2.1 u37.2.2.1 u37.2.2.2 tW tX) H := hP
                    have hD : va_D A (w5 a0 aT aE aG aR aN aS aQ aW aX cD cI (nI 0) iw ih fa fb fd ib true ((zcnt iw ih Tq (zRB iw Tq (zv fa) bx0 by0 bx1 bg ib) (zNB iw ih Tq (zv fb) bx0 by0 by1 bg ib) (zv fd) ((zneed wn iq)))) iq qT tE tG u37.1 u37.2.1 u37.2.2.1 u37.2.2.2 tW tX) := hD
                    obtain ⟨sR40, sN41, sS42, sQ43⟩ := u37
                    obtain ⟨gRmc39, gNmc39, gMmc39⟩ := hr36
                    dsimp only at gRmc39 gNmc39 gMmc39
                    have hP : va_P (dC, dI) vwCl (w5 a0 aT aE aG aR aN aS aQ aW aX cD cI (nI 0) iw ih fa fb fd ib true ((zcnt iw ih Tq (zRB iw Tq (zv fa) bx0 by0 bx1 bg ib) (zNB iw ih Tq (zv fb) bx0 by0 by1 bg ib) (zv fd) ((zneed wn iq)))) iq qT tE tG sR40 sN41 sS42 sQ43 tW tX) H := hP
                    have hD : va_D A (w5 a0 aT aE aG aR aN aS aQ aW aX cD cI (nI 0) iw ih fa fb fd ib true ((zcnt iw ih Tq (zRB iw Tq (zv fa) bx0 by0 bx1 bg ib) (zNB iw ih Tq (zv fb) bx0 by0 by1 bg ib) (zv fd) ((zneed wn iq)))) iq qT tE tG sR40 sN41 sS42 sQ43 tW tX) := hD
                    obtain ⟨mc39, hmc39⟩ : ∃ q, (zcnt iw ih Tq (zRB iw Tq (zv fa) bx0 by0 bx1 bg ib) (zNB iw ih Tq (zv fb) bx0 by0 by1 bg ib) (zv fd) ((zneed wn iq))) = q := ⟨_, rfl⟩
                    have hqmc39 : q5m iw ih true mc39 sR40 sN41 sS42 sQ43 Tq (zRB iw Tq (zv fa) bx0 by0 bx1 bg ib) (zNB iw ih Tq (zv fb) bx0 by0 by1 bg ib) (zv fd) := by rw [← hmc39]; exact ⟨Nat.le_trans (zcnt_le _) (by omega), fun _ => ⟨gRmc39, gNmc39, zcnt_idem _, gMmc39⟩⟩
                    have hlemc39 : mc39 ≤ ((zneed wn iq)) := by rw [← hmc39]; exact zcnt_le _
                    rw [hmc39] at hP hD
                    have hP : va_P (dC, dI) vwCl (w5 a0 aT aE aG aR aN aS aQ aW aX cD cI (nI 0) iw ih fa fb fd ib true mc39 iq qT tE tG sR40 sN41 sS42 sQ43 tW tX) H := hP
                    have hD : va_D A (w5 a0 aT aE aG aR aN aS aQ aW aX cD cI (nI 0) iw ih fa fb fd ib true mc39 iq qT tE tG sR40 sN41 sS42 sQ43 tW tX) := hD
                    refine lv_iload hx hb dX5_thin_301 (lv_at hl 2 rfl) ?_
                    refine W.endD hd38 ?_
                    exact W.iret (v := (nI cn)) hx hb hr (fun t ht hW => ⟨⟨(nI cn), ((nI 0), qT, sR40, sN41, sS42, sQ43, true, mc39), rfl, ⟨congrArg nI ((if_neg (show ¬ zcTh1 (zv st) (zv lo) = false from by unfold zcTh1; rw [c_9, c_22]; decide)).trans (if_neg (fun z => z.elim (fun z => by omega) (fun z => by have h9 := Nat.lt_of_le_of_lt (Nat.le_of_eq hmc23.symm) z; omega)))).symm, fun h => absurd (((if_neg (show ¬ zcTh1 (zv st) (zv lo) = false from by unfold zcTh1; rw [c_9, c_22]; decide)).trans (if_neg (fun z => z.elim (fun z => by omega) (fun z => by have h9 := Nat.lt_of_le_of_lt (Nat.le_of_eq hmc23.symm) z; omega)))).symm.trans h) (by decide), fun h => absurd (((if_neg (show ¬ zcTh1 (zv st) (zv lo) = false from by unfold zcTh1; rw [c_9, c_22]; decide)).trans (if_neg (fun z => z.elim (fun z => by omega) (fun z => by have h9 := Nat.lt_of_le_of_lt (Nat.le_of_eq hmc23.symm) z; omega)))).symm.trans h) (by decide), fun _ => by have e9 : y * iw = iw * ih := (by rw [show y = ih by omega, Nat.mul_comm]); rw [e9] at hst; rw [hst]; exact ⟨rfl, gTq, rfl, hmc39.symm, hqmc39⟩⟩, by rw [ht]; exact hP, va_K.moved hW.alike hK, hD⟩, hS.F ht⟩) hS.2.2 dX5_thin_303
                  · skip
                    refine lv_iconst (v := (nI 0)) hx hb dX5_thin_135 (by decide) ?_
                    refine lv_istore (lv' := [(12, .int (nI 0)), (11, .int (nI y)), (8, .double Lq), (10, .int (nI cn)), (0, .ref a0), (1, .double st), (3, .double lo), (5, .int (nI ((zneed wn iq))))]) hx hb dX5_thin_136 hl (by decide) rfl (fun ls hl => ?_)
                    have L_138 : ∀ (n : Nat) (x : Nat) (Tq : Nat → ZD) (qT : Nat → UInt64) (qR : Nat → UInt64) (qN : Nat → UInt64) (qS : Nat → UInt64) (qQ : Nat → UInt64) (mq : Nat) (Lq : UInt64) (cn : Nat) (d0 : Drawn) (H : Heap) (locs : List Loc) (ls : Array Slot), iw - x < n → (x ≤ iw) → (cn ≤ y * iw + x) → (zgr qT iw ih Tq) → (zthin (zCN iw ih (zv fa) (zv fb) (zv fd) bx0 by0 bx1 by1 bg ib (zneed wn iq)) (zTO iw ih (zv fa) (zv fb) (zv fd) bx0 by0 bx1 by1 bg ib wn ws iq) (zneed wn iq) (zv st) (zv lo) T (y * iw + x) = (Tq, zv Lq, cn)) → s.drawn.sameBut d0 lw_cs → va_P (dC, dI) vwCl (w5 a0 aT aE aG aR aN aS aQ aW aX cD cI (nI 0) iw ih fa fb fd ib true mq iq qT tE tG qR qN qS qQ tW tX) H → va_D A (w5 a0 aT aE aG aR aN aS aQ aW aX cD cI (nI 0) iw ih fa fb fd ib true mq iq qT tE tG qR qN qS qQ tW tX) → va_S A s.heap H locs → lv_has ls 17 [(12, .int (nI x)), (11, .int (nI y)), (8, .double Lq), (10, .int (nI cn)), (0, .ref a0), (1, .double st), (3, .double lo), (5, .int (nI ((zneed wn iq))))] → W p l e (headSpec wsX5_thin ({ frames := 5, cells := 0, slots := 0, locals := 120 } : Room)).room (s.setDrawn d0) m ([.ref a0, .double st, .double lo] : List Value).toArray below meth c H locs 0 0 (MQD lw_cs below (va_Qi (fun (r : Int32) (u : Int32 × (Nat → UInt64) × (Nat → UInt64) × (Nat → UInt64) × (Nat → UInt64) × (Nat → UInt64) × Bool × Nat) => u.1 = nI (zcTh (zv st) (zv lo) (zneed wn iq) ((zCN iw ih (zv fa) (zv fb) (zv fd) bx0 by0 bx1 by1 bg ib (zneed wn iq)) T)) ∧ (zcTh (zv st) (zv lo) (zneed wn iq) ((zCN iw ih (zv fa) (zv fb) (zv fd) bx0 by0 bx1 by1 bg ib (zneed wn iq)) T) = 1 → u.2.1 = tT ∧ u.2.2.1 = tR ∧ u.2.2.2.1 = tN ∧ u.2.2.2.2.1 = tS ∧ u.2.2.2.2.2.1 = tQ ∧ u.2.2.2.2.2.2.1 = mk ∧ u.2.2.2.2.2.2.2 = im) ∧ (zcTh (zv st) (zv lo) (zneed wn iq) ((zCN iw ih (zv fa) (zv fb) (zv fd) bx0 by0 bx1 by1 bg ib (zneed wn iq)) T) = 2 → u.2.1 = tT ∧ u.2.2.2.2.2.2.1 = mk ∧ q5m iw ih u.2.2.2.2.2.2.1 u.2.2.2.2.2.2.2 u.2.2.1 u.2.2.2.1 u.2.2.2.2.1 u.2.2.2.2.2.1 T (zRB iw T (zv fa) bx0 by0 bx1 bg ib) (zNB iw ih T (zv fb) bx0 by0 by1 bg ib) (zv fd) ∧ zmks u.2.2.2.2.2.2.1 u.2.2.2.2.2.2.2 = zmks mk im) ∧ (zcTh (zv st) (zv lo) (zneed wn iq) ((zCN iw ih (zv fa) (zv fb) (zv fd) bx0 by0 bx1 by1 bg ib (zneed wn iq)) T) = 0 → r = nI (zthin (zCN iw ih (zv fa) (zv fb) (zv fd) bx0 by0 bx1 by1 bg ib (zneed wn iq)) (zTO iw ih (zv fa) (zv fb) (zv fd) bx0 by0 bx1 by1 bg ib wn ws iq) (zneed wn iq) (zv st) (zv lo) T (iw * ih)).2.2 ∧ zgr u.2.1 iw ih (zthin (zCN iw ih (zv fa) (zv fb) (zv fd) bx0 by0 bx1 by1 bg ib (zneed wn iq)) (zTO iw ih (zv fa) (zv fb) (zv fd) bx0 by0 bx1 by1 bg ib wn ws iq) (zneed wn iq) (zv st) (zv lo) T (iw * ih)).1 ∧ u.2.2.2.2.2.2.1 = true ∧ u.2.2.2.2.2.2.2 = (zCN iw ih (zv fa) (zv fb) (zv fd) bx0 by0 bx1 by1 bg ib (zneed wn iq)) (zthin (zCN iw ih (zv fa) (zv fb) (zv fd) bx0 by0 bx1 by1 bg ib (zneed wn iq)) (zTO iw ih (zv fa) (zv fb) (zv fd) bx0 by0 bx1 by1 bg ib wn ws iq) (zneed wn iq) (zv st) (zv lo) T (iw * ih)).1 ∧ q5m iw ih true u.2.2.2.2.2.2.2 u.2.2.1 u.2.2.2.1 u.2.2.2.2.1 u.2.2.2.2.2.1 (zthin (zCN iw ih (zv fa) (zv fb) (zv fd) bx0 by0 bx1 by1 bg ib (zneed wn iq)) (zTO iw ih (zv fa) (zv fb) (zv fd) bx0 by0 bx1 by1 bg ib wn ws iq) (zneed wn iq) (zv st) (zv lo) T (iw * ih)).1 (zRB iw (zthin (zCN iw ih (zv fa) (zv fb) (zv fd) bx0 by0 bx1 by1 bg ib (zneed wn iq)) (zTO iw ih (zv fa) (zv fb) (zv fd) bx0 by0 bx1 by1 bg ib wn ws iq) (zneed wn iq) (zv st) (zv lo) T (iw * ih)).1 (zv fa) bx0 by0 bx1 bg ib) (zNB iw ih (zthin (zCN iw ih (zv fa) (zv fb) (zv fd) bx0 by0 bx1 by1 bg ib (zneed wn iq)) (zTO iw ih (zv fa) (zv fb) (zv fd) bx0 by0 bx1 by1 bg ib wn ws iq) (zneed wn iq) (zv st) (zv lo) T (iw * ih)).1 (zv fb) bx0 by0 by1 bg ib) (zv fd))) (fun u t => (va_P (dC, dI) vwCl (w5 a0 aT aE aG aR aN aS aQ aW aX cD cI u.1 iw ih fa fb fd ib u.2.2.2.2.2.2.1 u.2.2.2.2.2.2.2 iq u.2.1 tE tG u.2.2.1 u.2.2.2.1 u.2.2.2.2.1 u.2.2.2.2.2.1 tW tX) t.heap ∧ va_K (dC, dI) vwCl [(cD, .double), (cI, .int)] t ∧ va_D A (w5 a0 aT aE aG aR aN aS aQ aW aX cD cI u.1 iw ih fa fb fd ib u.2.2.2.2.2.2.1 u.2.2.2.2.2.2.2 iq u.2.1 tE tG u.2.2.1 u.2.2.2.1 u.2.2.2.2.1 u.2.2.2.2.2.1 tW tX))) A) ([.ref a0, .double st, .double lo] : List Value).toArray s 0 0 A) (F0 m 138 ls []) := by
                      intro n
                      induction n with
                      | zero => intro x Tq qT qR qN qS qQ mq Lq cn d0 H locs ls hn; exact absurd hn (Nat.not_lt_zero _)
                      | succ n ih_L_138 =>
                        intro x Tq qT qR qN qS qQ mq Lq cn d0 H locs ls hn hxw hcn gTq hst hd0 hP hD hS hl
                        have hyb : y * iw ≤ 5 * 6 := Nat.mul_le_mul (by omega) hw6
                        refine lv_iload hx hb dX5_thin_138 (lv_at hl 0 rfl) ?_
                        refine lv_aload_n hx hb dX5_thin_140 rfl (lv_at hl 4 rfl) ?_
                        refine va_get (D := (dC, dI)) (ci := 5) (v := .int (nI iw)) (C := RX5) (T := TX5) (N := 19) hx hb (dr_words hts d0) (in_X5_thin_X5) hown hK hP 0 rfl rfl 1 (by decide) (dr_words hts d0 (.fieldLink RX5 48 "PlateModesModel" "width" "I") (by decide +kernel)) (fun _ h9 => h9) rfl dX5_thin_141 ?_
                        refine z_icmp_ge (a := x) (b := iw) (tgt := 289) hx hb (by omega) (by omega) dX5_thin_144 (by decide) (fun c44 => ?_) (fun c45 => ?_)
                        · skip
                          refine lv_iinc (v := nI (y + 1)) (lv' := [(11, .int (nI (y + 1))), (12, .int (nI x)), (8, .double Lq), (10, .int (nI cn)), (0, .ref a0), (1, .double st), (3, .double lo), (5, .int (nI ((zneed wn iq))))]) hx hb dX5_thin_289 hl (k := 1) rfl (show nI y + nI 1 = _ from zi_add (by omega)) (by decide) rfl (fun ls hl => ?_)
                          refine lv_goto (tgt := 126) hx hb dX5_thin_292 (by decide) ?_
                          exact ih_L_126 (y + 1) Tq qT qR qN qS qQ mq Lq cn _ _ _ _ (by omega) (by omega) (by rw [← zrow_end]; omega) gTq (by have e : y * iw + x = (y + 1) * iw := (by rw [← zrow_end]; omega); rw [← e]; exact hst) hd0 hP hD hS (lv_sub hl [0, 2, 3, 4, 5, 6, 7] rfl)
                        · skip
                          refine lv_bipush (v := (nI 6)) hx hb dX5_thin_147 (by decide) ?_
                          refine lv_iload hx hb dX5_thin_149 (lv_at hl 1 rfl) ?_
                          refine t_imul hx hb dX5_thin_151 (v := nI (6 * y)) (zi_mul rfl) ?_
                          refine lv_iload hx hb dX5_thin_152 (lv_at hl 0 rfl) ?_
                          refine t_iadd hx hb dX5_thin_154 (v := nI (6 * y + x)) (zi_add (by omega)) ?_
                          refine lv_istore (lv' := [(13, .int (nI (6 * y + x))), (12, .int (nI x)), (11, .int (nI y)), (8, .double Lq), (10, .int (nI cn)), (0, .ref a0), (1, .double st), (3, .double lo), (5, .int (nI ((zneed wn iq))))]) hx hb dX5_thin_155 hl (by decide) rfl (fun ls hl => ?_)
                          refine lv_aload_n hx hb dX5_thin_157 rfl (lv_at hl 5 rfl) ?_
                          refine va_get (D := (dC, dI)) (ci := 5) (v := .ref aT) (C := RX5) (T := TX5) (N := 19) hx hb (dr_words hts d0) (in_X5_thin_X5) hown hK hP 0 rfl rfl 3 (by decide) (dr_words hts d0 (.fieldLink RX5 7 "PlateModesModel" "thicks" "[D") (by decide +kernel)) (fun _ h9 => h9) rfl dX5_thin_158 ?_
                          refine lv_iload hx hb dX5_thin_161 (lv_at hl 0 rfl) ?_
                          refine z_dald (s := s.setDrawn d0) (n := 36) (i := 6 * y + x) hx hb hK hP 1 0 rfl rfl (by omega) (by decide) dX5_thin_163 ?_
                          refine lv_dstore (lv' := [(14, .double (qT (6 * y + x))), (13, .int (nI (6 * y + x))), (12, .int (nI x)), (11, .int (nI y)), (8, .double Lq), (10, .int (nI cn)), (0, .ref a0), (1, .double st), (3, .double lo), (5, .int (nI ((zneed wn iq))))]) hx hb dX5_thin_164 hl (by decide) rfl (fun ls hl => ?_)
                          refine lv_aload_n hx hb dX5_thin_166 rfl (lv_at hl 6 rfl) ?_
                          refine lv_iload hx hb dX5_thin_167 (lv_at hl 1 rfl) ?_
                          have hPc := hP
                          refine va_calli (va_runV (As := [.int (nI (6 * y + x))]) (rest := []) ⟨hx, hb, hml, hown, (dr_words hts d0)⟩ (c5_isWood l dC dI a0 aT aE aG aR aN aS aQ aW aX cD cI (nI 0) iw ih fa fb fd ib true mq iq qT tE tG qR qN qS qQ tW tX (6 * y + x) (by omega)) (cwV 1 (dr_words hts d0) gX5_thin_X5_isWood rfl rfl rfl (by decide +kernel) ⟨Nat.le_of_ble_eq_true rfl, Nat.le_of_ble_eq_true rfl⟩) ⟨zfb, va_recv hK hP (ci := 5) (q0 := 0) rfl rfl, zpre hPc hK⟩ rfl rfl hl.1 rfl (lv_room (Nat.le_of_ble_eq_true rfl)) dX5_thin_169 ⟨Nat.le_of_ble_eq_true rfl, Nat.le_of_ble_eq_true rfl⟩) hS (fun q _ h => h.elim) (fun q h => h.elim) (fun r46 u9 t9 H locs ht9 hvm9 hr46 hB9 hz9 hk1 hS => ?_)
                          have hP := zro1 hP hk1
                          have hr46 : r46 = zb (zgt (Tq (y * iw + x)) z0) := by rw [hr46, zgr_at gTq x y (by omega) (by omega) (by omega)]
                          subst hr46
                          refine z_if_eq_b (tgt := 283) hx hb dX5_thin_172 (by decide) (fun c47 => ?_) (fun c48 => ?_)
                          · skip
                            have c_172 := c47
                            refine lv_iinc (v := nI (x + 1)) (lv' := [(12, .int (nI (x + 1))), (14, .double (qT (6 * y + x))), (13, .int (nI (6 * y + x))), (11, .int (nI y)), (8, .double Lq), (10, .int (nI cn)), (0, .ref a0), (1, .double st), (3, .double lo), (5, .int (nI ((zneed wn iq))))]) hx hb dX5_thin_283 hl (k := 2) rfl (show nI x + nI 1 = _ from zi_add (by omega)) (by decide) rfl (fun ls hl => ?_)
                            refine lv_goto (tgt := 138) hx hb dX5_thin_286 (by decide) ?_
                            exact ih_L_138 (x + 1) Tq qT qR qN qS qQ mq Lq cn _ _ _ _ (by omega) (by omega) (by omega) gTq (zth_no hst (show ¬ (zgt (Tq (y * iw + x)) z0 = true ∧ zge (zS (Tq (y * iw + x)) (zv st)) (zv lo) = true) from by first | (rw [c_172]; exact fun z => absurd z.1 (by decide)) | (rw [c_180]; exact fun z => absurd z.2 (by decide)))) hd0 hP hD hS (lv_sub hl [0, 3, 4, 5, 6, 7, 8, 9] rfl)
                          · skip
                            have c_172 := c48
                            refine lv_dload hx hb dX5_thin_175 (lv_at hl 0 rfl) ?_
                            refine lv_dload_n hx hb dX5_thin_177 rfl (lv_at hl 7 rfl) ?_
                            refine zr_dsub hd0 hx hb (a := Tq (y * iw + x)) (b := zv st) (zgr_at gTq x y (by omega) (by omega) (by omega)) rfl dX5_thin_178 (fun r49 d50 hr49 hd50 => ?_)
                            refine lv_dload_n hx hb dX5_thin_179 rfl (lv_at hl 8 rfl) ?_
                            refine z_cmp_l_lt (tgt := 283) hx hb (a := zS (Tq (y * iw + x)) (zv st)) (b := zv lo) hr49 rfl dX5_thin_180 dX5_thin_181 (by decide) (fun c51 => ?_) (fun c52 => ?_)
                            · skip
                              have c_180 := c51
                              refine lv_iinc (v := nI (x + 1)) (lv' := [(12, .int (nI (x + 1))), (14, .double (qT (6 * y + x))), (13, .int (nI (6 * y + x))), (11, .int (nI y)), (8, .double Lq), (10, .int (nI cn)), (0, .ref a0), (1, .double st), (3, .double lo), (5, .int (nI ((zneed wn iq))))]) hx hb dX5_thin_283 hl (k := 2) rfl (show nI x + nI 1 = _ from zi_add (by omega)) (by decide) rfl (fun ls hl => ?_)
                              refine lv_goto (tgt := 138) hx hb dX5_thin_286 (by decide) ?_
                              exact ih_L_138 (x + 1) Tq qT qR qN qS qQ mq Lq cn _ _ _ _ (by omega) (by omega) (by omega) gTq (zth_no hst (show ¬ (zgt (Tq (y * iw + x)) z0 = true ∧ zge (zS (Tq (y * iw + x)) (zv st)) (zv lo) = true) from by first | (rw [c_172]; exact fun z => absurd z.1 (by decide)) | (rw [c_180]; exact fun z => absurd z.2 (by decide)))) hd50 hP hD hS (lv_sub hl [0, 3, 4, 5, 6, 7, 8, 9] rfl)
                            · skip
                              have c_180 := c52
                              refine lv_aload_n hx hb dX5_thin_184 rfl (lv_at hl 6 rfl) ?_
                              refine va_get (D := (dC, dI)) (ci := 5) (v := .ref aT) (C := RX5) (T := TX5) (N := 19) hx hb (dr_words hts d50) (in_X5_thin_X5) hown hK hP 0 rfl rfl 3 (by decide) (dr_words hts d50 (.fieldLink RX5 7 "PlateModesModel" "thicks" "[D") (by decide +kernel)) (fun _ h9 => h9) rfl dX5_thin_185 ?_
                              refine lv_iload hx hb dX5_thin_188 (lv_at hl 1 rfl) ?_
                              refine lv_dload hx hb dX5_thin_190 (lv_at hl 0 rfl) ?_
                              refine lv_dload_n hx hb dX5_thin_192 rfl (lv_at hl 7 rfl) ?_
                              refine zr_dsub hd50 hx hb (a := Tq (y * iw + x)) (b := zv st) (zgr_at gTq x y (by omega) (by omega) (by omega)) rfl dX5_thin_193 (fun r53 d54 hr53 hd54 => ?_)
                              refine z_dast (s := s.setDrawn d54) (n := 36) (i := 6 * y + x) hx hb hK hP hD hS 1 0 rfl rfl (by omega) (by decide) dX5_thin_194 (fun H locs hP hD hS => ?_)
                              have hP : va_P (dC, dI) vwCl (w5 a0 aT aE aG aR aN aS aQ aW aX cD cI (nI 0) iw ih fa fb fd ib true mq iq (zu qT (6 * y + x) r53) tE tG qR qN qS qQ tW tX) H := hP
                              have hD : va_D A (w5 a0 aT aE aG aR aN aS aQ aW aX cD cI (nI 0) iw ih fa fb fd ib true mq iq (zu qT (6 * y + x) r53) tE tG qR qN qS qQ tW tX) := hD
                              have gT2 : zgr (zu qT (6 * y + x) r53) iw ih (zu Tq (y * iw + x) (zS (Tq (y * iw + x)) (zv st))) := zgr_put hw6 gTq (by omega) (by omega) hr53
                              refine lv_aload_n hx hb dX5_thin_195 rfl (lv_at hl 6 rfl) ?_
                              refine lv_iload hx hb dX5_thin_196 (lv_at hl 9 rfl) ?_
                              have hFc := zself hD hS hA
                              refine va_callvD hd54 (va_runV_D (As := [.int (nI ((zneed wn iq)))]) (rest := []) ⟨hx, hb, hml, hown, (dr_words hts d54)⟩ (c5_makeAll l dC dI a0 aT aE aG aR aN aS aQ aW aX cD cI (nI 0) iw ih fa fb fd ib true mq iq (zu qT (6 * y + x) r53) tE tG qR qN qS qQ tW tX ((zneed wn iq)) (by omega) hw6 hh6 (zu Tq (y * iw + x) (zS (Tq (y * iw + x)) (zv st))) gT2 bx0 by0 bx1 by1 bg hb12 gE gB gG _) (cwV 1 (dr_words hts d54) gX5_thin_X5_makeAll rfl rfl rfl (by decide +kernel) ⟨Nat.le_of_ble_eq_true rfl, Nat.le_of_ble_eq_true rfl⟩) ⟨zfbw, va_recv hK hP (ci := 5) (q0 := 0) rfl rfl, zprew hP hK hD⟩ rfl rfl hl.1 rfl (lv_room (Nat.le_of_ble_eq_true rfl)) dX5_thin_198 ⟨Nat.le_of_ble_eq_true rfl, Nat.le_of_ble_eq_true rfl⟩) hS (fun q _ h => hFc q h) hFc (fun u56 t9 H1 locs ht9 hvm9 hr55 hB9 hz9 hk1 hS dhd57 hd57 => ?_)
                              obtain ⟨hP1, hK1, hD1⟩ := hB9
                              rw [ht9] at hP1
                              have hD := hD1.weaken (fun k q _ h => hFc q.1 h)
                              have hP := hP1
                              generalize H1 = H at hP hS ⊢
                              have hP : va_P (dC, dI) vwCl (w5 a0 aT aE aG aR aN aS aQ aW aX cD cI (nI 0) iw ih fa fb fd ib true ((zcnt iw ih (zu Tq (y * iw + x) (zS (Tq (y * iw + x)) (zv st))) (zRB iw (zu Tq (y * iw + x) (zS (Tq (y * iw + x)) (zv st))) (zv fa) bx0 by0 bx1 bg ib) (zNB iw ih (zu Tq (y * iw + x) (zS (Tq (y * iw + x)) (zv st))) (zv fb) bx0 by0 by1 bg ib) (zv fd) ((zneed wn iq)))) iq (zu qT (6 * y + x) r53) tE tG u56.1 u56.2.1 u56.2.2.1 u56.2.2.2 tW tX) H := hP
                              have hD : va_D A (w5 a0 aT aE aG aR aN aS aQ aW aX cD cI (nI 0) iw ih fa fb fd ib true ((zcnt iw ih (zu Tq (y * iw + x) (zS (Tq (y * iw + x)) (zv st))) (zRB iw (zu Tq (y * iw + x) (zS (Tq (y * iw + x)) (zv st))) (zv fa) bx0 by0 bx1 bg ib) (zNB iw ih (zu Tq (y * iw + x) (zS (Tq (y * iw + x)) (zv st))) (zv fb) bx0 by0 by1 bg ib) (zv fd) ((zneed wn iq)))) iq (zu qT (6 * y + x) r53) tE tG u56.1 u56.2.1 u56.2.2.1 u56.2.2.2 tW tX) := hD
                              obtain ⟨sR59, sN60, sS61, sQ62⟩ := u56
                              obtain ⟨gRmc58, gNmc58, gMmc58⟩ := hr55
                              dsimp only at gRmc58 gNmc58 gMmc58
                              have hP : va_P (dC, dI) vwCl (w5 a0 aT aE aG aR aN aS aQ aW aX cD cI (nI 0) iw ih fa fb fd ib true ((zcnt iw ih (zu Tq (y * iw + x) (zS (Tq (y * iw + x)) (zv st))) (zRB iw (zu Tq (y * iw + x) (zS (Tq (y * iw + x)) (zv st))) (zv fa) bx0 by0 bx1 bg ib) (zNB iw ih (zu Tq (y * iw + x) (zS (Tq (y * iw + x)) (zv st))) (zv fb) bx0 by0 by1 bg ib) (zv fd) ((zneed wn iq)))) iq (zu qT (6 * y + x) r53) tE tG sR59 sN60 sS61 sQ62 tW tX) H := hP
                              have hD : va_D A (w5 a0 aT aE aG aR aN aS aQ aW aX cD cI (nI 0) iw ih fa fb fd ib true ((zcnt iw ih (zu Tq (y * iw + x) (zS (Tq (y * iw + x)) (zv st))) (zRB iw (zu Tq (y * iw + x) (zS (Tq (y * iw + x)) (zv st))) (zv fa) bx0 by0 bx1 bg ib) (zNB iw ih (zu Tq (y * iw + x) (zS (Tq (y * iw + x)) (zv st))) (zv fb) bx0 by0 by1 bg ib) (zv fd) ((zneed wn iq)))) iq (zu qT (6 * y + x) r53) tE tG sR59 sN60 sS61 sQ62 tW tX) := hD
                              obtain ⟨mc58, hmc58⟩ : ∃ q, (zcnt iw ih (zu Tq (y * iw + x) (zS (Tq (y * iw + x)) (zv st))) (zRB iw (zu Tq (y * iw + x) (zS (Tq (y * iw + x)) (zv st))) (zv fa) bx0 by0 bx1 bg ib) (zNB iw ih (zu Tq (y * iw + x) (zS (Tq (y * iw + x)) (zv st))) (zv fb) bx0 by0 by1 bg ib) (zv fd) ((zneed wn iq))) = q := ⟨_, rfl⟩
                              have hqmc58 : q5m iw ih true mc58 sR59 sN60 sS61 sQ62 (zu Tq (y * iw + x) (zS (Tq (y * iw + x)) (zv st))) (zRB iw (zu Tq (y * iw + x) (zS (Tq (y * iw + x)) (zv st))) (zv fa) bx0 by0 bx1 bg ib) (zNB iw ih (zu Tq (y * iw + x) (zS (Tq (y * iw + x)) (zv st))) (zv fb) bx0 by0 by1 bg ib) (zv fd) := by rw [← hmc58]; exact ⟨Nat.le_trans (zcnt_le _) (by omega), fun _ => ⟨gRmc58, gNmc58, zcnt_idem _, gMmc58⟩⟩
                              have hlemc58 : mc58 ≤ ((zneed wn iq)) := by rw [← hmc58]; exact zcnt_le _
                              rw [hmc58] at hP hD
                              have hP : va_P (dC, dI) vwCl (w5 a0 aT aE aG aR aN aS aQ aW aX cD cI (nI 0) iw ih fa fb fd ib true mc58 iq (zu qT (6 * y + x) r53) tE tG sR59 sN60 sS61 sQ62 tW tX) H := hP
                              have hD : va_D A (w5 a0 aT aE aG aR aN aS aQ aW aX cD cI (nI 0) iw ih fa fb fd ib true mc58 iq (zu qT (6 * y + x) r53) tE tG sR59 sN60 sS61 sQ62 tW tX) := hD
                              have J_225 : ∀ (bi : Bool) (d0 : Drawn) (H : Heap) (locs : List Loc) (ls : Array Slot), (bi = decide ((zCN iw ih (zv fa) (zv fb) (zv fd) bx0 by0 bx1 by1 bg ib (zneed wn iq)) (zu Tq (y * iw + x) (zS (Tq (y * iw + x)) (zv st))) = zneed wn iq ∧ zlt ((zTO iw ih (zv fa) (zv fb) (zv fd) bx0 by0 bx1 by1 bg ib wn ws iq) (zu Tq (y * iw + x) (zS (Tq (y * iw + x)) (zv st)))) (zv Lq) = true)) → s.drawn.sameBut d0 lw_cs → va_P (dC, dI) vwCl (w5 a0 aT aE aG aR aN aS aQ aW aX cD cI (nI 0) iw ih fa fb fd ib true mc58 iq (zu qT (6 * y + x) r53) tE tG sR59 sN60 sS61 sQ62 tW tX) H → va_D A (w5 a0 aT aE aG aR aN aS aQ aW aX cD cI (nI 0) iw ih fa fb fd ib true mc58 iq (zu qT (6 * y + x) r53) tE tG sR59 sN60 sS61 sQ62 tW tX) → va_S A s.heap H locs → lv_has ls 17 [(14, .double (qT (6 * y + x))), (13, .int (nI (6 * y + x))), (12, .int (nI x)), (11, .int (nI y)), (8, .double Lq), (10, .int (nI cn)), (0, .ref a0), (1, .double st), (3, .double lo), (5, .int (nI ((zneed wn iq))))] → W p l e (headSpec wsX5_thin ({ frames := 5, cells := 0, slots := 0, locals := 120 } : Room)).room (s.setDrawn d0) m ([.ref a0, .double st, .double lo] : List Value).toArray below meth c H locs 0 0 (MQD lw_cs below (va_Qi (fun (r : Int32) (u : Int32 × (Nat → UInt64) × (Nat → UInt64) × (Nat → UInt64) × (Nat → UInt64) × (Nat → UInt64) × Bool × Nat) => u.1 = nI (zcTh (zv st) (zv lo) (zneed wn iq) ((zCN iw ih (zv fa) (zv fb) (zv fd) bx0 by0 bx1 by1 bg ib (zneed wn iq)) T)) ∧ (zcTh (zv st) (zv lo) (zneed wn iq) ((zCN iw ih (zv fa) (zv fb) (zv fd) bx0 by0 bx1 by1 bg ib (zneed wn iq)) T) = 1 → u.2.1 = tT ∧ u.2.2.1 = tR ∧ u.2.2.2.1 = tN ∧ u.2.2.2.2.1 = tS ∧ u.2.2.2.2.2.1 = tQ ∧ u.2.2.2.2.2.2.1 = mk ∧ u.2.2.2.2.2.2.2 = im) ∧ (zcTh (zv st) (zv lo) (zneed wn iq) ((zCN iw ih (zv fa) (zv fb) (zv fd) bx0 by0 bx1 by1 bg ib (zneed wn iq)) T) = 2 → u.2.1 = tT ∧ u.2.2.2.2.2.2.1 = mk ∧ q5m iw ih u.2.2.2.2.2.2.1 u.2.2.2.2.2.2.2 u.2.2.1 u.2.2.2.1 u.2.2.2.2.1 u.2.2.2.2.2.1 T (zRB iw T (zv fa) bx0 by0 bx1 bg ib) (zNB iw ih T (zv fb) bx0 by0 by1 bg ib) (zv fd) ∧ zmks u.2.2.2.2.2.2.1 u.2.2.2.2.2.2.2 = zmks mk im) ∧ (zcTh (zv st) (zv lo) (zneed wn iq) ((zCN iw ih (zv fa) (zv fb) (zv fd) bx0 by0 bx1 by1 bg ib (zneed wn iq)) T) = 0 → r = nI (zthin (zCN iw ih (zv fa) (zv fb) (zv fd) bx0 by0 bx1 by1 bg ib (zneed wn iq)) (zTO iw ih (zv fa) (zv fb) (zv fd) bx0 by0 bx1 by1 bg ib wn ws iq) (zneed wn iq) (zv st) (zv lo) T (iw * ih)).2.2 ∧ zgr u.2.1 iw ih (zthin (zCN iw ih (zv fa) (zv fb) (zv fd) bx0 by0 bx1 by1 bg ib (zneed wn iq)) (zTO iw ih (zv fa) (zv fb) (zv fd) bx0 by0 bx1 by1 bg ib wn ws iq) (zneed wn iq) (zv st) (zv lo) T (iw * ih)).1 ∧ u.2.2.2.2.2.2.1 = true ∧ u.2.2.2.2.2.2.2 = (zCN iw ih (zv fa) (zv fb) (zv fd) bx0 by0 bx1 by1 bg ib (zneed wn iq)) (zthin (zCN iw ih (zv fa) (zv fb) (zv fd) bx0 by0 bx1 by1 bg ib (zneed wn iq)) (zTO iw ih (zv fa) (zv fb) (zv fd) bx0 by0 bx1 by1 bg ib wn ws iq) (zneed wn iq) (zv st) (zv lo) T (iw * ih)).1 ∧ q5m iw ih true u.2.2.2.2.2.2.2 u.2.2.1 u.2.2.2.1 u.2.2.2.2.1 u.2.2.2.2.2.1 (zthin (zCN iw ih (zv fa) (zv fb) (zv fd) bx0 by0 bx1 by1 bg ib (zneed wn iq)) (zTO iw ih (zv fa) (zv fb) (zv fd) bx0 by0 bx1 by1 bg ib wn ws iq) (zneed wn iq) (zv st) (zv lo) T (iw * ih)).1 (zRB iw (zthin (zCN iw ih (zv fa) (zv fb) (zv fd) bx0 by0 bx1 by1 bg ib (zneed wn iq)) (zTO iw ih (zv fa) (zv fb) (zv fd) bx0 by0 bx1 by1 bg ib wn ws iq) (zneed wn iq) (zv st) (zv lo) T (iw * ih)).1 (zv fa) bx0 by0 bx1 bg ib) (zNB iw ih (zthin (zCN iw ih (zv fa) (zv fb) (zv fd) bx0 by0 bx1 by1 bg ib (zneed wn iq)) (zTO iw ih (zv fa) (zv fb) (zv fd) bx0 by0 bx1 by1 bg ib wn ws iq) (zneed wn iq) (zv st) (zv lo) T (iw * ih)).1 (zv fb) bx0 by0 by1 bg ib) (zv fd))) (fun u t => (va_P (dC, dI) vwCl (w5 a0 aT aE aG aR aN aS aQ aW aX cD cI u.1 iw ih fa fb fd ib u.2.2.2.2.2.2.1 u.2.2.2.2.2.2.2 iq u.2.1 tE tG u.2.2.1 u.2.2.2.1 u.2.2.2.2.1 u.2.2.2.2.2.1 tW tX) t.heap ∧ va_K (dC, dI) vwCl [(cD, .double), (cI, .int)] t ∧ va_D A (w5 a0 aT aE aG aR aN aS aQ aW aX cD cI u.1 iw ih fa fb fd ib u.2.2.2.2.2.2.1 u.2.2.2.2.2.2.2 iq u.2.1 tE tG u.2.2.1 u.2.2.2.1 u.2.2.2.2.1 u.2.2.2.2.2.1 tW tX))) A) ([.ref a0, .double st, .double lo] : List Value).toArray s 0 0 A) (F0 m 225 ls [.int (zb bi)]) := by
                                intro bi d0 H locs ls hbi hd0 hP hD hS hl
                                refine lv_istore (lv' := [(16, .int (zb bi)), (14, .double (qT (6 * y + x))), (13, .int (nI (6 * y + x))), (12, .int (nI x)), (11, .int (nI y)), (8, .double Lq), (10, .int (nI cn)), (0, .ref a0), (1, .double st), (3, .double lo), (5, .int (nI ((zneed wn iq))))]) hx hb dX5_thin_225 hl (by decide) rfl (fun ls hl => ?_)
                                refine lv_iload hx hb dX5_thin_227 (lv_at hl 0 rfl) ?_
                                refine z_if_eq_b (tgt := 239) hx hb dX5_thin_229 (by decide) (fun c63 => ?_) (fun c64 => ?_)
                                · skip
                                  have c_229 := c63
                                  refine lv_dload hx hb dX5_thin_239 (lv_at hl 5 rfl) ?_
                                  refine lv_dstore (lv' := [(8, .double Lq), (16, .int (zb bi)), (14, .double (qT (6 * y + x))), (13, .int (nI (6 * y + x))), (12, .int (nI x)), (11, .int (nI y)), (10, .int (nI cn)), (0, .ref a0), (1, .double st), (3, .double lo), (5, .int (nI ((zneed wn iq))))]) hx hb dX5_thin_241 hl (by decide) rfl (fun ls hl => ?_)
                                  refine lv_iload hx hb dX5_thin_243 (lv_at hl 1 rfl) ?_
                                  refine z_if_eq_b (tgt := 255) hx hb dX5_thin_245 (by decide) (fun c65 => ?_) (fun c66 => ?_)
                                  · skip
                                    refine lv_iload hx hb dX5_thin_255 (lv_at hl 6 rfl) ?_
                                    refine lv_istore (lv' := [(10, .int (nI cn)), (8, .double Lq), (16, .int (zb bi)), (14, .double (qT (6 * y + x))), (13, .int (nI (6 * y + x))), (12, .int (nI x)), (11, .int (nI y)), (0, .ref a0), (1, .double st), (3, .double lo), (5, .int (nI ((zneed wn iq))))]) hx hb dX5_thin_257 hl (by decide) rfl (fun ls hl => ?_)
                                    refine lv_aload_n hx hb dX5_thin_259 rfl (lv_at hl 7 rfl) ?_
                                    refine va_get (D := (dC, dI)) (ci := 5) (v := .ref aT) (C := RX5) (T := TX5) (N := 19) hx hb (dr_words hts d0) (in_X5_thin_X5) hown hK hP 0 rfl rfl 3 (by decide) (dr_words hts d0 (.fieldLink RX5 7 "PlateModesModel" "thicks" "[D") (by decide +kernel)) (fun _ h9 => h9) rfl dX5_thin_260 ?_
                                    refine lv_iload hx hb dX5_thin_263 (lv_at hl 4 rfl) ?_
                                    refine lv_iload hx hb dX5_thin_265 (lv_at hl 2 rfl) ?_
                                    refine z_if_eq_b (tgt := 280) hx hb dX5_thin_267 (by decide) (fun c67 => ?_) (fun c68 => ?_)
                                    · skip
                                      refine lv_dload hx hb dX5_thin_280 (lv_at hl 3 rfl) ?_
                                      refine z_dast (s := s.setDrawn d0) (n := 36) (i := 6 * y + x) hx hb hK hP hD hS 1 0 rfl rfl (by omega) (by decide) dX5_thin_282 (fun H locs hP hD hS => ?_)
                                      have hP : va_P (dC, dI) vwCl (w5 a0 aT aE aG aR aN aS aQ aW aX cD cI (nI 0) iw ih fa fb fd ib true mc58 iq (zu (zu qT (6 * y + x) r53) (6 * y + x) (qT (6 * y + x))) tE tG sR59 sN60 sS61 sQ62 tW tX) H := hP
                                      have hD : va_D A (w5 a0 aT aE aG aR aN aS aQ aW aX cD cI (nI 0) iw ih fa fb fd ib true mc58 iq (zu (zu qT (6 * y + x) r53) (6 * y + x) (qT (6 * y + x))) tE tG sR59 sN60 sS61 sQ62 tW tX) := hD
                                      refine lv_iinc (v := nI (x + 1)) (lv' := [(12, .int (nI (x + 1))), (10, .int (nI cn)), (8, .double Lq), (16, .int (zb bi)), (14, .double (qT (6 * y + x))), (13, .int (nI (6 * y + x))), (11, .int (nI y)), (0, .ref a0), (1, .double st), (3, .double lo), (5, .int (nI ((zneed wn iq))))]) hx hb dX5_thin_283 hl (k := 5) rfl (show nI x + nI 1 = _ from zi_add (by omega)) (by decide) rfl (fun ls hl => ?_)
                                      refine lv_goto (tgt := 138) hx hb dX5_thin_286 (by decide) ?_
                                      exact ih_L_138 (x + 1) Tq (zu (zu qT (6 * y + x) r53) (6 * y + x) (qT (6 * y + x))) sR59 sN60 sS61 sQ62 mc58 Lq cn _ _ _ _ (by omega) (by omega) (by omega) (zgr_c (zu_back _ _ _) (zgr_put hw6 gT2 (by omega) rfl (zgr_at gTq x y (by omega) (by omega) rfl))) (zth_keep hst ⟨c_172, c_180⟩ (of_decide_eq_false (hbi.symm.trans c_229))) hd0 hP hD hS (lv_sub hl [0, 6, 2, 1, 7, 8, 9, 10] rfl)
                                    · skip
                                      exact absurd (c_229.symm.trans c68) (by decide)
                                  · skip
                                    exact absurd (c_229.symm.trans c66) (by decide)
                                · skip
                                  have c_229 := c64
                                  refine lv_aload_n hx hb dX5_thin_232 rfl (lv_at hl 7 rfl) ?_
                                  have hPc := hP
                                  refine va_calldD hd0 (va_runV_D (As := []) (rest := []) ⟨hx, hb, hml, hown, (dr_words hts d0)⟩ (c5_total l dC dI a0 aT aE aG aR aN aS aQ aW aX cD cI (nI 0) iw ih fa fb fd ib true mc58 iq (zu qT (6 * y + x) r53) tE tG sR59 sN60 sS61 sQ62 tW tX wn hq4 gW gw4 (fun i => zSQ iw ih (zu Tq (y * iw + x) (zS (Tq (y * iw + x)) (zv st))) (zRB iw (zu Tq (y * iw + x) (zS (Tq (y * iw + x)) (zv st))) (zv fa) bx0 by0 bx1 bg ib) (zNB iw ih (zu Tq (y * iw + x) (zS (Tq (y * iw + x)) (zv st))) (zv fb) bx0 by0 by1 bg ib) (zv fd) (wn i)) ws (fun i hi => ((hqmc58.2 rfl).2.2.2 (wn i) (Nat.lt_of_lt_of_le (zneed_gt hi) (show zneed wn iq ≤ mc58 from by have := (of_decide_eq_true (hbi.symm.trans c_229)).1; have h9 := hmc58.symm.trans this; omega))).2) gX) (cwV 0 (dr_words hts d0) gX5_thin_X5_total rfl rfl rfl (by decide +kernel) ⟨Nat.le_of_ble_eq_true rfl, Nat.le_of_ble_eq_true rfl⟩) ⟨zfb, va_recv hK hP (ci := 5) (q0 := 0) rfl rfl, zpre hPc hK⟩ rfl rfl hl.1 rfl (lv_room (Nat.le_of_ble_eq_true rfl)) dX5_thin_233 ⟨Nat.le_of_ble_eq_true rfl, Nat.le_of_ble_eq_true rfl⟩) hS (fun q _ h => h.elim) (fun q h => h.elim) (fun r69 u9 t9 H locs ht9 hvm9 hr69 hB9 hz9 hk1 hS dhd70 hd70 => ?_)
                                  have hP := zro1 hP hk1
                                  refine lv_goto (tgt := 241) hx hb dX5_thin_236 (by decide) ?_
                                  refine lv_dstore (lv' := [(8, .double r69), (16, .int (zb bi)), (14, .double (qT (6 * y + x))), (13, .int (nI (6 * y + x))), (12, .int (nI x)), (11, .int (nI y)), (10, .int (nI cn)), (0, .ref a0), (1, .double st), (3, .double lo), (5, .int (nI ((zneed wn iq))))]) hx hb dX5_thin_241 hl (by decide) rfl (fun ls hl => ?_)
                                  refine lv_iload hx hb dX5_thin_243 (lv_at hl 1 rfl) ?_
                                  refine z_if_eq_b (tgt := 255) hx hb dX5_thin_245 (by decide) (fun c71 => ?_) (fun c72 => ?_)
                                  · skip
                                    exact absurd (c_229.symm.trans c71) (by decide)
                                  · skip
                                    refine lv_iload hx hb dX5_thin_248 (lv_at hl 6 rfl) ?_
                                    refine lv_iconst (v := (nI 1)) hx hb dX5_thin_250 (by decide) ?_
                                    refine t_iadd hx hb dX5_thin_251 (v := nI (cn + 1)) (zi_add (by omega)) ?_
                                    refine lv_goto (tgt := 257) hx hb dX5_thin_252 (by decide) ?_
                                    refine lv_istore (lv' := [(10, .int (nI (cn + 1))), (8, .double r69), (16, .int (zb bi)), (14, .double (qT (6 * y + x))), (13, .int (nI (6 * y + x))), (12, .int (nI x)), (11, .int (nI y)), (0, .ref a0), (1, .double st), (3, .double lo), (5, .int (nI ((zneed wn iq))))]) hx hb dX5_thin_257 hl (by decide) rfl (fun ls hl => ?_)
                                    refine lv_aload_n hx hb dX5_thin_259 rfl (lv_at hl 7 rfl) ?_
                                    refine va_get (D := (dC, dI)) (ci := 5) (v := .ref aT) (C := RX5) (T := TX5) (N := 19) hx hb (dr_words hts dhd70) (in_X5_thin_X5) hown hK hP 0 rfl rfl 3 (by decide) (dr_words hts dhd70 (.fieldLink RX5 7 "PlateModesModel" "thicks" "[D") (by decide +kernel)) (fun _ h9 => h9) rfl dX5_thin_260 ?_
                                    refine lv_iload hx hb dX5_thin_263 (lv_at hl 4 rfl) ?_
                                    refine lv_iload hx hb dX5_thin_265 (lv_at hl 2 rfl) ?_
                                    refine z_if_eq_b (tgt := 280) hx hb dX5_thin_267 (by decide) (fun c73 => ?_) (fun c74 => ?_)
                                    · skip
                                      exact absurd (c_229.symm.trans c73) (by decide)
                                    · skip
                                      refine lv_aload_n hx hb dX5_thin_270 rfl (lv_at hl 7 rfl) ?_
                                      refine va_get (D := (dC, dI)) (ci := 5) (v := .ref aT) (C := RX5) (T := TX5) (N := 19) hx hb (dr_words hts dhd70) (in_X5_thin_X5) hown hK hP 0 rfl rfl 3 (by decide) (dr_words hts dhd70 (.fieldLink RX5 7 "PlateModesModel" "thicks" "[D") (by decide +kernel)) (fun _ h9 => h9) rfl dX5_thin_271 ?_
                                      refine lv_iload hx hb dX5_thin_274 (lv_at hl 4 rfl) ?_
                                      refine z_dald (s := s.setDrawn dhd70) (n := 36) (i := 6 * y + x) hx hb hK hP 1 0 rfl rfl (by omega) (by decide) dX5_thin_276 ?_
                                      refine lv_goto (tgt := 282) hx hb dX5_thin_277 (by decide) ?_
                                      refine z_dast (s := s.setDrawn dhd70) (n := 36) (i := 6 * y + x) hx hb hK hP hD hS 1 0 rfl rfl (by omega) (by decide) dX5_thin_282 (fun H locs hP hD hS => ?_)
                                      have hP : va_P (dC, dI) vwCl (w5 a0 aT aE aG aR aN aS aQ aW aX cD cI (nI 0) iw ih fa fb fd ib true mc58 iq (zu (zu qT (6 * y + x) r53) (6 * y + x) ((zu qT (6 * y + x) r53) (6 * y + x))) tE tG sR59 sN60 sS61 sQ62 tW tX) H := hP
                                      have hD : va_D A (w5 a0 aT aE aG aR aN aS aQ aW aX cD cI (nI 0) iw ih fa fb fd ib true mc58 iq (zu (zu qT (6 * y + x) r53) (6 * y + x) ((zu qT (6 * y + x) r53) (6 * y + x))) tE tG sR59 sN60 sS61 sQ62 tW tX) := hD
                                      refine lv_iinc (v := nI (x + 1)) (lv' := [(12, .int (nI (x + 1))), (10, .int (nI (cn + 1))), (8, .double r69), (16, .int (zb bi)), (14, .double (qT (6 * y + x))), (13, .int (nI (6 * y + x))), (11, .int (nI y)), (0, .ref a0), (1, .double st), (3, .double lo), (5, .int (nI ((zneed wn iq))))]) hx hb dX5_thin_283 hl (k := 5) rfl (show nI x + nI 1 = _ from zi_add (by omega)) (by decide) rfl (fun ls hl => ?_)
                                      refine lv_goto (tgt := 138) hx hb dX5_thin_286 (by decide) ?_
                                      exact ih_L_138 (x + 1) (zu Tq (y * iw + x) (zS (Tq (y * iw + x)) (zv st))) (zu (zu qT (6 * y + x) r53) (6 * y + x) ((zu qT (6 * y + x) r53) (6 * y + x))) sR59 sN60 sS61 sQ62 mc58 r69 (cn + 1) _ _ _ _ (by omega) (by omega) (by omega) (zgr_c (zu_id _ _) (zgr_put hw6 gT2 (by omega) rfl (zgr_at gT2 x y (by omega) (by omega) rfl))) (by rw [hr69]; exact zth_yes hst ⟨c_172, c_180⟩ (of_decide_eq_true (hbi.symm.trans c_229))) hd70 hP hD hS (lv_sub hl [0, 6, 2, 1, 7, 8, 9, 10] rfl)
                              refine lv_aload_n hx hb dX5_thin_201 rfl (lv_at hl 6 rfl) ?_
                              refine va_get (D := (dC, dI)) (ci := 5) (v := .int (nI mc58)) (C := RX5) (T := TX5) (N := 19) hx hb (dr_words hts dhd57) (in_X5_thin_X5) hown hK hP 0 rfl rfl 13 (by decide) (dr_words hts dhd57 (.fieldLink RX5 116 "PlateModesModel" "many" "I") (by decide +kernel)) (fun _ h9 => h9) rfl dX5_thin_202 ?_
                              refine lv_iload hx hb dX5_thin_205 (lv_at hl 9 rfl) ?_
                              refine z_icmp_ne (a := mc58) (b := (zneed wn iq)) (tgt := 224) hx hb (by omega) (by omega) dX5_thin_207 (by decide) (fun c75 => ?_) (fun c76 => ?_)
                              · skip
                                have c_207 := c75
                                refine lv_iconst (v := (nI 0)) hx hb dX5_thin_224 (by decide) ?_
                                exact J_225 false _ _ _ _ ((decide_eq_false (fun z => by first | exact c_207 (hmc58.symm.trans z.1) | exact absurd (c_216.symm.trans z.2) (by decide))).symm) hd57 hP hD hS hl
                              · skip
                                have c_207 := c76
                                refine lv_aload_n hx hb dX5_thin_210 rfl (lv_at hl 6 rfl) ?_
                                have hPc := hP
                                refine va_calldD hd57 (va_runV_D (As := []) (rest := []) ⟨hx, hb, hml, hown, (dr_words hts dhd57)⟩ (c5_total l dC dI a0 aT aE aG aR aN aS aQ aW aX cD cI (nI 0) iw ih fa fb fd ib true mc58 iq (zu qT (6 * y + x) r53) tE tG sR59 sN60 sS61 sQ62 tW tX wn hq4 gW gw4 (fun i => zSQ iw ih (zu Tq (y * iw + x) (zS (Tq (y * iw + x)) (zv st))) (zRB iw (zu Tq (y * iw + x) (zS (Tq (y * iw + x)) (zv st))) (zv fa) bx0 by0 bx1 bg ib) (zNB iw ih (zu Tq (y * iw + x) (zS (Tq (y * iw + x)) (zv st))) (zv fb) bx0 by0 by1 bg ib) (zv fd) (wn i)) ws (fun i hi => ((hqmc58.2 rfl).2.2.2 (wn i) (Nat.lt_of_lt_of_le (zneed_gt hi) (show zneed wn iq ≤ mc58 from by omega))).2) gX) (cwV 0 (dr_words hts dhd57) gX5_thin_X5_total rfl rfl rfl (by decide +kernel) ⟨Nat.le_of_ble_eq_true rfl, Nat.le_of_ble_eq_true rfl⟩) ⟨zfb, va_recv hK hP (ci := 5) (q0 := 0) rfl rfl, zpre hPc hK⟩ rfl rfl hl.1 rfl (lv_room (Nat.le_of_ble_eq_true rfl)) dX5_thin_211 ⟨Nat.le_of_ble_eq_true rfl, Nat.le_of_ble_eq_true rfl⟩) hS (fun q _ h => h.elim) (fun q h => h.elim) (fun r77 u9 t9 H locs ht9 hvm9 hr77 hB9 hz9 hk1 hS dhd78 hd78 => ?_)
                                have hP := zro1 hP hk1
                                refine lv_dload hx hb dX5_thin_214 (lv_at hl 4 rfl) ?_
                                refine z_cmp_g_ge (tgt := 224) hx hb (a := ztot (fun i => zSQ iw ih (zu Tq (y * iw + x) (zS (Tq (y * iw + x)) (zv st))) (zRB iw (zu Tq (y * iw + x) (zS (Tq (y * iw + x)) (zv st))) (zv fa) bx0 by0 bx1 bg ib) (zNB iw ih (zu Tq (y * iw + x) (zS (Tq (y * iw + x)) (zv st))) (zv fb) bx0 by0 by1 bg ib) (zv fd) (wn i)) ws iq) (b := zv Lq) hr77 rfl dX5_thin_216 dX5_thin_217 (by decide) (fun c79 => ?_) (fun c80 => ?_)
                                · skip
                                  have c_216 := c79
                                  refine lv_iconst (v := (nI 0)) hx hb dX5_thin_224 (by decide) ?_
                                  exact J_225 false _ _ _ _ ((decide_eq_false (fun z => by first | exact c_207 (hmc58.symm.trans z.1) | exact absurd (c_216.symm.trans z.2) (by decide))).symm) hd78 hP hD hS hl
                                · skip
                                  have c_216 := c80
                                  refine lv_iconst (v := (nI 1)) hx hb dX5_thin_220 (by decide) ?_
                                  refine lv_goto (tgt := 225) hx hb dX5_thin_221 (by decide) ?_
                                  exact J_225 true _ _ _ _ ((decide_eq_true ⟨hmc58.trans c_207, c_216⟩).symm) hd78 hP hD hS hl
                    exact L_138 _ 0 Tq qT qR qN qS qQ mq Lq cn _ _ _ _ (Nat.lt_succ_self _) (by omega) (by omega) gTq hst hd0 hP hD hS hl
              exact L_126 _ 0 T tT sR24 sN25 sS26 sQ27 mc23 r32 0 _ _ _ _ (Nat.lt_succ_self _) (by omega) (by omega) gT (by rw [Nat.zero_mul, hr32]; rfl) hd33 hP hD hS (lv_sub hl [0, 2, 1, 6, 7, 8, 5] rfl)
            · skip
              have c_82 := c31
              refine lv_aload_n hx hb dX5_thin_85 rfl (lv_at hl 3 rfl) ?_
              refine lv_iconst (v := (nI 2)) hx hb dX5_thin_86 (by decide) ?_
              refine va_put (D := (dC, dI)) (ci := 5) (v := .int (nI 2)) (ty := .int) (C := RX5) (T := TX5) (N := 19) hx hb (dr_words hts dhd22) (in_X5_thin_X5) tyX5 tyX5_ok nmX5 hown hK hP hD hS 0 rfl rfl 0 (by decide) (dr_words hts dhd22 (.fieldLink RX5 55 "PlateModesModel" "thrown" "I") (by decide +kernel)) (fun _ h9 => h9) rfl (by decide +kernel) rfl rfl (Nat.le_of_ble_eq_true rfl) dX5_thin_87 (fun H locs hP hD hS => ?_)
              have hP : va_P (dC, dI) vwCl (w5 a0 aT aE aG aR aN aS aQ aW aX cD cI (nI 2) iw ih fa fb fd ib true mc23 iq tT tE tG sR24 sN25 sS26 sQ27 tW tX) H := hP
              have hD : va_D A (w5 a0 aT aE aG aR aN aS aQ aW aX cD cI (nI 2) iw ih fa fb fd ib true mc23 iq tT tE tG sR24 sN25 sS26 sQ27 tW tX) := hD
              refine lv_iload hx hb dX5_thin_90 (lv_at hl 2 rfl) ?_
              refine z_if_le (tgt := 106) hx hb (by omega) dX5_thin_92 (by decide) (fun c81 => ?_) (fun c82 => ?_)
              · skip
                omega
              · skip
                refine lv_iload hx hb dX5_thin_95 (lv_at hl 1 rfl) ?_
                refine z_if_eq_b (tgt := 106) hx hb dX5_thin_97 (by decide) (fun c83 => ?_) (fun c84 => ?_)
                · skip
                  have c_97 := c83
                  refine lv_aload_n hx hb dX5_thin_106 rfl (lv_at hl 3 rfl) ?_
                  refine lv_iload hx hb dX5_thin_107 (lv_at hl 1 rfl) ?_
                  refine va_put (D := (dC, dI)) (ci := 5) (v := .int (zb mk)) (ty := .boolean) (C := RX5) (T := TX5) (N := 19) hx hb (dr_words hts dhd22) (in_X5_thin_X5) tyX5 tyX5_ok nmX5 hown hK hP hD hS 0 rfl rfl 12 (by decide) (dr_words hts dhd22 (.fieldLink RX5 72 "PlateModesModel" "made" "Z") (by decide +kernel)) (fun _ h9 => h9) rfl (by decide +kernel) (zb_nar _) (zb_fit _) (Nat.le_of_ble_eq_true rfl) dX5_thin_109 (fun H locs hP hD hS => ?_)
                  have hP : va_P (dC, dI) vwCl (w5 a0 aT aE aG aR aN aS aQ aW aX cD cI (nI 2) iw ih fa fb fd ib mk mc23 iq tT tE tG sR24 sN25 sS26 sQ27 tW tX) H := hP
                  have hD : va_D A (w5 a0 aT aE aG aR aN aS aQ aW aX cD cI (nI 2) iw ih fa fb fd ib mk mc23 iq tT tE tG sR24 sN25 sS26 sQ27 tW tX) := hD
                  refine lv_iconst (v := (nI 0)) hx hb dX5_thin_112 (by decide) ?_
                  refine W.endD hd22 ?_
                  exact W.iret (v := (nI 0)) hx hb hr (fun t ht hW => ⟨⟨(nI 0), ((nI 2), tT, sR24, sN25, sS26, sQ27, mk, mc23), rfl, ⟨congrArg nI ((if_neg (show ¬ zcTh1 (zv st) (zv lo) = false from by unfold zcTh1; rw [c_9, c_22]; decide)).trans (if_pos (Or.inr (Nat.lt_of_le_of_lt (Nat.le_of_eq hmc23) c_82)))).symm, fun h => absurd (((if_neg (show ¬ zcTh1 (zv st) (zv lo) = false from by unfold zcTh1; rw [c_9, c_22]; decide)).trans (if_pos (Or.inr (Nat.lt_of_le_of_lt (Nat.le_of_eq hmc23) c_82)))).symm.trans h) (by decide), fun _ => ⟨rfl, rfl, by rw [c_97]; exact q5m_f hqmc23.1, by rw [c_97]; rfl⟩, fun h => absurd (((if_neg (show ¬ zcTh1 (zv st) (zv lo) = false from by unfold zcTh1; rw [c_9, c_22]; decide)).trans (if_pos (Or.inr (Nat.lt_of_le_of_lt (Nat.le_of_eq hmc23) c_82)))).symm.trans h) (by decide)⟩, by rw [ht]; exact hP, va_K.moved hW.alike hK, hD⟩, hS.F ht⟩) hS.2.2 dX5_thin_113
                · skip
                  have c_97 := c84
                  refine lv_aload_n hx hb dX5_thin_100 rfl (lv_at hl 3 rfl) ?_
                  refine lv_iload hx hb dX5_thin_101 (lv_at hl 0 rfl) ?_
                  have hFc := zself hD hS hA
                  refine va_callvD hd22 (va_runV_D (As := [.int (nI im)]) (rest := []) ⟨hx, hb, hml, hown, (dr_words hts dhd22)⟩ (c5_makeAll l dC dI a0 aT aE aG aR aN aS aQ aW aX cD cI (nI 2) iw ih fa fb fd ib true mc23 iq tT tE tG sR24 sN25 sS26 sQ27 tW tX im (by omega) hw6 hh6 T gT bx0 by0 bx1 by1 bg hb12 gE gB gG _) (cwV 1 (dr_words hts dhd22) gX5_thin_X5_makeAll rfl rfl rfl (by decide +kernel) ⟨Nat.le_of_ble_eq_true rfl, Nat.le_of_ble_eq_true rfl⟩) ⟨zfbw, va_recv hK hP (ci := 5) (q0 := 0) rfl rfl, zprew hP hK hD⟩ rfl rfl hl.1 rfl (lv_room (Nat.le_of_ble_eq_true rfl)) dX5_thin_103 ⟨Nat.le_of_ble_eq_true rfl, Nat.le_of_ble_eq_true rfl⟩) hS (fun q _ h => hFc q h) hFc (fun u86 t9 H1 locs ht9 hvm9 hr85 hB9 hz9 hk1 hS dhd87 hd87 => ?_)
                  obtain ⟨hP1, hK1, hD1⟩ := hB9
                  rw [ht9] at hP1
                  have hD := hD1.weaken (fun k q _ h => hFc q.1 h)
                  have hP := hP1
                  generalize H1 = H at hP hS ⊢
                  have hP : va_P (dC, dI) vwCl (w5 a0 aT aE aG aR aN aS aQ aW aX cD cI (nI 2) iw ih fa fb fd ib true ((zcnt iw ih T (zRB iw T (zv fa) bx0 by0 bx1 bg ib) (zNB iw ih T (zv fb) bx0 by0 by1 bg ib) (zv fd) im)) iq tT tE tG u86.1 u86.2.1 u86.2.2.1 u86.2.2.2 tW tX) H := hP
                  have hD : va_D A (w5 a0 aT aE aG aR aN aS aQ aW aX cD cI (nI 2) iw ih fa fb fd ib true ((zcnt iw ih T (zRB iw T (zv fa) bx0 by0 bx1 bg ib) (zNB iw ih T (zv fb) bx0 by0 by1 bg ib) (zv fd) im)) iq tT tE tG u86.1 u86.2.1 u86.2.2.1 u86.2.2.2 tW tX) := hD
                  obtain ⟨sR89, sN90, sS91, sQ92⟩ := u86
                  obtain ⟨gRmc88, gNmc88, gMmc88⟩ := hr85
                  dsimp only at gRmc88 gNmc88 gMmc88
                  have hP : va_P (dC, dI) vwCl (w5 a0 aT aE aG aR aN aS aQ aW aX cD cI (nI 2) iw ih fa fb fd ib true ((zcnt iw ih T (zRB iw T (zv fa) bx0 by0 bx1 bg ib) (zNB iw ih T (zv fb) bx0 by0 by1 bg ib) (zv fd) im)) iq tT tE tG sR89 sN90 sS91 sQ92 tW tX) H := hP
                  have hD : va_D A (w5 a0 aT aE aG aR aN aS aQ aW aX cD cI (nI 2) iw ih fa fb fd ib true ((zcnt iw ih T (zRB iw T (zv fa) bx0 by0 bx1 bg ib) (zNB iw ih T (zv fb) bx0 by0 by1 bg ib) (zv fd) im)) iq tT tE tG sR89 sN90 sS91 sQ92 tW tX) := hD
                  obtain ⟨mc88, hmc88⟩ : ∃ q, (zcnt iw ih T (zRB iw T (zv fa) bx0 by0 bx1 bg ib) (zNB iw ih T (zv fb) bx0 by0 by1 bg ib) (zv fd) im) = q := ⟨_, rfl⟩
                  have hqmc88 : q5m iw ih true mc88 sR89 sN90 sS91 sQ92 T (zRB iw T (zv fa) bx0 by0 bx1 bg ib) (zNB iw ih T (zv fb) bx0 by0 by1 bg ib) (zv fd) := by rw [← hmc88]; exact ⟨Nat.le_trans (zcnt_le _) (by omega), fun _ => ⟨gRmc88, gNmc88, zcnt_idem _, gMmc88⟩⟩
                  have hlemc88 : mc88 ≤ im := by rw [← hmc88]; exact zcnt_le _
                  rw [hmc88] at hP hD
                  have hP : va_P (dC, dI) vwCl (w5 a0 aT aE aG aR aN aS aQ aW aX cD cI (nI 2) iw ih fa fb fd ib true mc88 iq tT tE tG sR89 sN90 sS91 sQ92 tW tX) H := hP
                  have hD : va_D A (w5 a0 aT aE aG aR aN aS aQ aW aX cD cI (nI 2) iw ih fa fb fd ib true mc88 iq tT tE tG sR89 sN90 sS91 sQ92 tW tX) := hD
                  refine lv_aload_n hx hb dX5_thin_106 rfl (lv_at hl 3 rfl) ?_
                  refine lv_iload hx hb dX5_thin_107 (lv_at hl 1 rfl) ?_
                  refine va_put (D := (dC, dI)) (ci := 5) (v := .int (zb mk)) (ty := .boolean) (C := RX5) (T := TX5) (N := 19) hx hb (dr_words hts dhd87) (in_X5_thin_X5) tyX5 tyX5_ok nmX5 hown hK hP hD hS 0 rfl rfl 12 (by decide) (dr_words hts dhd87 (.fieldLink RX5 72 "PlateModesModel" "made" "Z") (by decide +kernel)) (fun _ h9 => h9) rfl (by decide +kernel) (zb_nar _) (zb_fit _) (Nat.le_of_ble_eq_true rfl) dX5_thin_109 (fun H locs hP hD hS => ?_)
                  have hP : va_P (dC, dI) vwCl (w5 a0 aT aE aG aR aN aS aQ aW aX cD cI (nI 2) iw ih fa fb fd ib mk mc88 iq tT tE tG sR89 sN90 sS91 sQ92 tW tX) H := hP
                  have hD : va_D A (w5 a0 aT aE aG aR aN aS aQ aW aX cD cI (nI 2) iw ih fa fb fd ib mk mc88 iq tT tE tG sR89 sN90 sS91 sQ92 tW tX) := hD
                  refine lv_iconst (v := (nI 0)) hx hb dX5_thin_112 (by decide) ?_
                  refine W.endD hd87 ?_
                  exact W.iret (v := (nI 0)) hx hb hr (fun t ht hW => ⟨⟨(nI 0), ((nI 2), tT, sR89, sN90, sS91, sQ92, mk, mc88), rfl, ⟨congrArg nI ((if_neg (show ¬ zcTh1 (zv st) (zv lo) = false from by unfold zcTh1; rw [c_9, c_22]; decide)).trans (if_pos (Or.inr (Nat.lt_of_le_of_lt (Nat.le_of_eq hmc23) c_82)))).symm, fun h => absurd (((if_neg (show ¬ zcTh1 (zv st) (zv lo) = false from by unfold zcTh1; rw [c_9, c_22]; decide)).trans (if_pos (Or.inr (Nat.lt_of_le_of_lt (Nat.le_of_eq hmc23) c_82)))).symm.trans h) (by decide), fun _ => ⟨rfl, rfl, by rw [c_97]; exact hqmc88, by rw [c_97]; exact hmc88.symm.trans ((hq.2 c_97).2.2.1)⟩, fun h => absurd (((if_neg (show ¬ zcTh1 (zv st) (zv lo) = false from by unfold zcTh1; rw [c_9, c_22]; decide)).trans (if_pos (Or.inr (Nat.lt_of_le_of_lt (Nat.le_of_eq hmc23) c_82)))).symm.trans h) (by decide)⟩, by rw [ht]; exact hP, va_K.moved hW.alike hK, hD⟩, hS.F ht⟩) hS.2.2 dX5_thin_113
      · skip
        exact absurd c12 (by decide)
