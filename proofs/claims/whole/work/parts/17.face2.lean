/-! 17: the class: its face -/
/-- the cells of the class -/
abbrev w4 (aC aP pT pR pN pB bP bF bL bH aM aQ mS mR mT ro0 ro1 ro2 ro3 aK kQ kS kR kT ko0 ko1 ko2 ko3 aW pW pX : Nat) (cD cI cQ : ClassId) (iw ih : Nat) (al ac de : UInt64) (nb im ik iq : Nat) (tT tR tN : Nat → UInt64) (uP uF uL : Nat → Int32) (uH e0 e1 e2 e3 qS qU qO ke0 ke1 ke2 ke3 ksq ksr kst : Nat → UInt64) (tW : Nat → Int32) (tX : Nat → UInt64) : va_W :=
  [(aC, .inr (4, [.ref aP, .ref aM, .ref aK, .ref aW])), (aP, .inr (2, [.int (nI iw), .int (nI ih), .ref pT, .ref pR, .ref pN, .ref pB, .double al, .double ac, .double de])), (pT, .inl (cD, (iw * ih), .inr (.inr (.inr (.inl tT))))), (pR, .inl (cD, (iw * ih), .inr (.inr (.inr (.inl tR))))), (pN, .inl (cD, (iw * ih), .inr (.inr (.inr (.inl tN))))), (pB, .inr (0, [.ref bP, .ref bF, .ref bL, .ref bH, .int (nI nb)])), (bP, .inl (cI, 12, .inl uP)), (bF, .inl (cI, 12, .inl uF)), (bL, .inl (cI, 12, .inl uL)), (bH, .inl (cD, 12, .inr (.inr (.inr (.inl uH))))), (aM, .inr (1, [.ref aP, .ref aQ, .ref mS, .ref mR, .ref mT, .int (nI im)])), (aQ, .inl (cQ, 4, .inr (.inr (.inr (.inr (zq4 ro0 ro1 ro2 ro3)))))), (mS, .inl (cD, 4, .inr (.inr (.inr (.inl qS))))), (mR, .inl (cD, 4, .inr (.inr (.inr (.inl qU))))), (mT, .inl (cD, 4, .inr (.inr (.inr (.inl qO))))), (ro0, .inl (cD, (iw * ih), .inr (.inr (.inr (.inl e0))))), (ro1, .inl (cD, (iw * ih), .inr (.inr (.inr (.inl e1))))), (ro2, .inl (cD, (iw * ih), .inr (.inr (.inr (.inl e2))))), (ro3, .inl (cD, (iw * ih), .inr (.inr (.inr (.inl e3))))), (aK, .inr (1, [.ref aP, .ref kQ, .ref kS, .ref kR, .ref kT, .int (nI ik)])), (kQ, .inl (cQ, 4, .inr (.inr (.inr (.inr (zq4 ko0 ko1 ko2 ko3)))))), (kS, .inl (cD, 4, .inr (.inr (.inr (.inl ksq))))), (kR, .inl (cD, 4, .inr (.inr (.inr (.inl ksr))))), (kT, .inl (cD, 4, .inr (.inr (.inr (.inl kst))))), (ko0, .inl (cD, (iw * ih), .inr (.inr (.inr (.inl ke0))))), (ko1, .inl (cD, (iw * ih), .inr (.inr (.inr (.inl ke1))))), (ko2, .inl (cD, (iw * ih), .inr (.inr (.inr (.inl ke2))))), (ko3, .inl (cD, (iw * ih), .inr (.inr (.inr (.inl ke3))))), (aW, .inr (3, [.ref pW, .ref pX, .int (nI iq)])), (pW, .inl (cI, 4, .inl tW)), (pX, .inl (cD, 4, .inr (.inr (.inr (.inl tX)))))]
/-- the modes that the class keeps, out of the plate as it is -/
def qCm (iw ih im : Nat) (T R N : Nat → ZD) (de : ZD) (e0 e1 e2 e3 qS qU qO : Nat → UInt64) : Prop := im ≤ 4 ∧ ∀ j, j < im → zmd iw ih T R N (zshp iw ih T R N de j) de (z4 e0 e1 e2 e3 j) (qS j) (qU j) (qO j)
theorem qCm_0 {iw ih : Nat} {T R N : Nat → ZD} {de : ZD} {e0 e1 e2 e3 qS qU qO : Nat → UInt64} : qCm iw ih 0 T R N de e0 e1 e2 e3 qS qU qO := ⟨Nat.zero_le _, fun j hj => absurd hj (Nat.not_lt_zero j)⟩
theorem zmin_I {a b : Nat} (ha : a < 2 ^ 31) (hb : b < 2 ^ 31) : (if nI b < nI a then nI b else nI a) = nI (zmin a b) := by
  unfold zmin
  by_cases h : b < a
  · rw [if_pos (nI_lt h ha), if_neg (by omega)]
  · rw [if_neg (nI_nlt (by omega) hb)]
    by_cases h2 : a < b
    · rw [if_pos h2]
    · rw [if_neg h2, show a = b by omega]
theorem zmax_I {a b : Nat} (ha : a < 2 ^ 31) (hb : b < 2 ^ 31) : (if nI a < nI b then nI b else nI a) = nI (zmax a b) := by
  unfold zmax
  by_cases h : a < b
  · rw [if_pos (nI_lt h hb), if_pos h]
  · rw [if_neg (nI_nlt (by omega) ha), if_neg h]
theorem zmx_k {k o M : Int32} (h : ¬ k < M) : ¬ zmx k o < M := by
  unfold zmx
  split
  · exact h
  · next q => exact fun z => h (Int32.lt_of_le_of_lt (Int32.not_lt.mp q) z)
theorem zmx_o {k o M : Int32} (h : ¬ o < M) : ¬ zmx k o < M := by
  unfold zmx
  split
  · next q => exact fun z => h (Int32.lt_trans q z)
  · exact h
theorem zmx_ok {k o M : Int32} (h : k < M) (h2 : o < M) : zmx k o < M := by
  unfold zmx
  split
  · exact h
  · exact h2
theorem zckM_1 {b : Bool} {M : Nat} {k : Int32} (h : b = false) : 1 = zckM b M k := (if_pos h).symm
theorem zckM_2 {b : Bool} {M : Nat} {k : Int32} (h : b = true) (hk : ¬ k < nI M) : 2 = zckM b M k := by
  unfold zckM
  rw [if_neg (by rw [h]; decide), if_neg hk]
theorem zckM_z {b : Bool} {M : Nat} {k : Int32} (h : b = true) (hk : k < nI M) : zckM b M k = 0 := by
  unfold zckM
  rw [if_neg (by rw [h]; decide), if_pos hk]
theorem in_X4_wood_X4 : ∀ w ∈ wsX40, w ∈ wsX4_wood := fun w h => List.mem_cons_of_mem _ (List.mem_append_left _ (List.mem_append_left _ (List.mem_append_left _ (List.mem_append_left _ (List.mem_append_right _ h)))))
set_option maxHeartbeats 4000000 in
set_option maxRecDepth 100000 in
/-- wood -/
theorem c4_wood (l : Launch) (hst : l.stackTraces = false) (dC : Nat → ClassId) (dI : Nat → Nat → Nat) (aC aP pT pR pN pB bP bF bL bH aM aQ mS mR mT ro0 ro1 ro2 ro3 aK kQ kS kR kT ko0 ko1 ko2 ko3 aW pW pX : Nat) (cD cI cQ : ClassId) (iw ih : Nat) (al ac de : UInt64) (nb im ik iq : Nat) (tT tR tN : Nat → UInt64) (uP uF uL : Nat → Int32) (uH e0 e1 e2 e3 qS qU qO ke0 ke1 ke2 ke3 ksq ksr kst : Nat → UInt64) (tW : Nat → Int32) (tX : Nat → UInt64) (hw6 : iw ≤ 6) (hh6 : ih ≤ 6) (x y : Int32) (v : UInt64) (sz : Nat) : vx_Met l yX4_wood wsX4_wood ({ frames := 7, cells := 2, slots := 12, locals := 115 } : Room) (va_Pc [.ref aC, .int x, .int y, .double v] (fun U => U.heap.size = sz ∧ va_P (dC, dI) vwCl (w4 aC aP pT pR pN pB bP bF bL bH aM aQ mS mR mT ro0 ro1 ro2 ro3 aK kQ kS kR kT ko0 ko1 ko2 ko3 aW pW pX cD cI cQ iw ih al ac de nb im ik iq tT tR tN uP uF uL uH e0 e1 e2 e3 qS qU qO ke0 ke1 ke2 ke3 ksq ksr kst tW tX) U.heap ∧ va_K (dC, dI) vwCl [(cD, .double), (cI, .int), (cQ, .array .double)] U ∧ zNw U ∧ zXE (va_A (w4 aC aP pT pR pN pB bP bF bL bH aM aQ mS mR mT ro0 ro1 ro2 ro3 aK kQ kS kR kT ko0 ko1 ko2 ko3 aW pW pX cD cI cQ iw ih al ac de nb im ik iq tT tR tN uP uF uL uH e0 e1 e2 e3 qS qU qO ke0 ke1 ke2 ke3 ksq ksr kst tW tX) sz) U U.heap ∧ va_D (fun _ => True) (w4 aC aP pT pR pN pB bP bF bL bH aM aQ mS mR mT ro0 ro1 ro2 ro3 aK kQ kS kR kT ko0 ko1 ko2 ko3 aW pW pX cD cI cQ iw ih al ac de nb im ik iq tT tR tN uP uF uL uH e0 e1 e2 e3 qS qU qO ke0 ke1 ke2 ke3 ksq ksr kst tW tX))) (va_Qi (fun (r : Int32) (u : (Nat → UInt64) × Nat) => zcW iw ih x y (zv v) = 0 ∧ r = zb (!zeq (zv (tT (zn y * iw + zn x))) (zv v)) ∧ (zeq (zv (tT (zn y * iw + zn x))) (zv v) = true → u.1 = tT ∧ u.2 = im) ∧ (zeq (zv (tT (zn y * iw + zn x))) (zv v) = false → u.1 = zu tT (zn y * iw + zn x) v ∧ u.2 = 0)) (fun u t => (va_P (dC, dI) vwCl (w4 aC aP pT pR pN pB bP bF bL bH aM aQ mS mR mT ro0 ro1 ro2 ro3 aK kQ kS kR kT ko0 ko1 ko2 ko3 aW pW pX cD cI cQ iw ih al ac de nb u.2 ik iq u.1 tR tN uP uF uL uH e0 e1 e2 e3 qS qU qO ke0 ke1 ke2 ke3 ksq ksr kst tW tX) t.heap ∧ va_K (dC, dI) vwCl [(cD, .double), (cI, .int), (cQ, .array .double)] t ∧ va_D (va_A (w4 aC aP pT pR pN pB bP bF bL bH aM aQ mS mR mT ro0 ro1 ro2 ro3 aK kQ kS kR kT ko0 ko1 ko2 ko3 aW pW pX cD cI cQ iw ih al ac de nb im ik iq tT tR tN uP uF uL uH e0 e1 e2 e3 qS qU qO ke0 ke1 ke2 ke3 ksq ksr kst tW tX) sz) (w4 aC aP pT pR pN pB bP bF bL bH aM aQ mS mR mT ro0 ro1 ro2 ro3 aK kQ kS kR kT ko0 ko1 ko2 ko3 aW pW pX cD cI cQ iw ih al ac de nb u.2 ik iq u.1 tR tN uP uF uL uH e0 e1 e2 e3 qS qU qO ke0 ke1 ke2 ke3 ksq ksr kst tW tX))) (va_A (w4 aC aP pT pR pN pB bP bF bL bH aM aQ mS mR mT ro0 ro1 ro2 ro3 aK kQ kS kR kT ko0 ko1 ko2 ko3 aW pW pX cD cI cQ iw ih al ac de nb im ik iq tT tR tN uP uF uL uH e0 e1 e2 e3 qS qU qO ke0 ke1 ke2 ke3 ksq ksr kst tW tX) sz)) (vx_X (fun u : Nat => (u = zcW iw ih x y (zv v)) ∧ ¬ u = 0) (fun E u t => E = zE [zIO, zIA] u ∧ va_P (dC, dI) vwCl (w4 aC aP pT pR pN pB bP bF bL bH aM aQ mS mR mT ro0 ro1 ro2 ro3 aK kQ kS kR kT ko0 ko1 ko2 ko3 aW pW pX cD cI cQ iw ih al ac de nb im ik iq tT tR tN uP uF uL uH e0 e1 e2 e3 qS qU qO ke0 ke1 ke2 ke3 ksq ksr kst tW tX) t.heap ∧ va_K (dC, dI) vwCl [(cD, .double), (cI, .int), (cQ, .array .double)] t ∧ va_D (va_A (w4 aC aP pT pR pN pB bP bF bL bH aM aQ mS mR mT ro0 ro1 ro2 ro3 aK kQ kS kR kT ko0 ko1 ko2 ko3 aW pW pX cD cI cQ iw ih al ac de nb im ik iq tT tR tN uP uF uL uH e0 e1 e2 e3 qS qU qO ke0 ke1 ke2 ke3 ksq ksr kst tW tX) sz) (w4 aC aP pT pR pN pB bP bF bL bH aM aQ mS mR mT ro0 ro1 ro2 ro3 aK kQ kS kR kT ko0 ko1 ko2 ko3 aW pW pX cD cI cQ iw ih al ac de nb im ik iq tT tR tN uP uF uL uH e0 e1 e2 e3 qS qU qO ke0 ke1 ke2 ke3 ksq ksr kst tW tX)) (va_A (w4 aC aP pT pR pN pB bP bF bL bH aM aQ mS mR mT ro0 ro1 ro2 ro3 aK kQ kS kR kT ko0 ko1 ko2 ko3 aW pW pX cD cI cQ iw ih al ac de nb im ik iq tT tR tN uP uF uL uH e0 e1 e2 e3 qS qU qO ke0 ke1 ke2 ke3 ksq ksr kst tW tX) sz)) 2 12 (va_A (w4 aC aP pT pR pN pB bP bF bL bH aM aQ mS mR mT ro0 ro1 ro2 ro3 aK kQ kS kR kT ko0 ko1 ko2 ko3 aW pW pX cD cI cQ iw ih al ac de nb im ik iq tT tR tN uP uF uL uH e0 e1 e2 e3 qS qU qO ke0 ke1 ke2 ke3 ksq ksr kst tW tX) sz) := by
  refine vx_ofW (cc := cX4_wood) (maxL := 6) (ret := (some .boolean)) (by decide) rfl ?_
  intro p e s m args below meth c s₁ B hml htab hv
  obtain ⟨rfl, hsz, hP, hK, hN, hE, hD0⟩ := hv
  have hx := B.exec
  have hb := B.bytes
  have hr := B.returns
  have hts := atoms_spec (ws := wsX4_wood) B.pre
  have hown : s.vm.findClass RX4 = some m.cls := findClass_of_methodNamed B.named
  have hlocks := B.notSynchronized
  subst hsz
  have hD := hD0.self (sz := s.heap.size)
  generalize hAe : va_A (w4 aC aP pT pR pN pB bP bF bL bH aM aQ mS mR mT ro0 ro1 ro2 ro3 aK kQ kS kR kT ko0 ko1 ko2 ko3 aW pW pX cD cI cQ iw ih al ac de nb im ik iq tT tR tN uP uF uL uH e0 e1 e2 e3 qS qU qO ke0 ke1 ke2 ke3 ksq ksr kst tW tX) s.heap.size = A at hD hE ⊢
  have hA : ∀ q : Nat, s.heap.size ≤ q → A q := fun q h => by rw [← hAe]; exact Or.inr h
  have hS : va_S A s.heap s.heap [] := va_S.rf
  have hl := lv_entry ([.ref aC, .int x, .int y, .double v]) (n := 6) (Nat.le_of_ble_eq_true rfl)
  rw [lg_entry_eq]
  generalize (lg_sl ([.ref aC, .int x, .int y, .double v]) ++ List.replicate (6 - (lg_sl ([.ref aC, .int x, .int y, .double v])).length) Slot.unset).toArray = ls at hl ⊢
  have hl : lv_has ls 6 [(0, .ref aC), (1, .int x), (2, .int y), (3, .double v)] := hl
  have hn36 : iw * ih ≤ 36 := Nat.mul_le_mul hw6 hh6
  refine lv_aload_n hx hb dX4_wood_0 rfl (lv_at hl 0 rfl) ?_
  refine lv_iload_n hx hb dX4_wood_1 rfl (lv_at hl 1 rfl) ?_
  refine lv_iload_n hx hb dX4_wood_2 rfl (lv_at hl 2 rfl) ?_
  have hPc := hP.sub (ws' := [(aC, .inr (4, [.ref aP, .ref aM, .ref aK, .ref aW])), (aP, .inr (2, [.int (nI iw), .int (nI ih), .ref pT, .ref pR, .ref pN, .ref pB, .double al, .double ac, .double de])), (pT, .inl (cD, (iw * ih), .inr (.inr (.inr (.inl tT))))), (pR, .inl (cD, (iw * ih), .inr (.inr (.inr (.inl tR))))), (pN, .inl (cD, (iw * ih), .inr (.inr (.inr (.inl tN))))), (pB, .inr (0, [.ref bP, .ref bF, .ref bL, .ref bH, .int (nI nb)])), (bP, .inl (cI, 12, .inl uP)), (bF, .inl (cI, 12, .inl uF)), (bL, .inl (cI, 12, .inl uL)), (bH, .inl (cD, 12, .inr (.inr (.inr (.inl uH)))))]) [0, 1, 2, 3, 4, 5, 6, 7, 8, 9] rfl
  refine vx_callv (vx_runV (As := [.int x, .int y]) (rest := []) ⟨hx, hb, hml, hown, hts⟩ (c4_requireCell l hst dC dI aC aM aK aW aP pT pR pN pB bP bF bL bH cD cI cQ iw ih al ac de nb tT tR tN uP uF uL uH x y) (cwV 2 hts gX4_wood_X4_requireCell rfl rfl rfl (by decide +kernel) ⟨(Nat.le_of_ble_eq_true rfl), (Nat.le_of_ble_eq_true rfl)⟩) ⟨zfbX, va_recv hK hP (ci := 4) (q0 := 0) rfl rfl, zpreX hPc hK (by first | exact hN | exact hN.sd) (by first | exact hE | exact hE.sd) hS⟩ rfl rfl hl.1 rfl (lv_room (Nat.le_of_ble_eq_true rfl)) dX4_wood_3 ⟨(Nat.le_of_ble_eq_true rfl), (Nat.le_of_ble_eq_true rfl)⟩) hS (fun q _ h => h.elim) (fun q h => h.elim) (fun q _ h => h.elim) (fun E9 ce9 q9 u9 t9 H1 locs1 ht9 hvm9 hpx hBX hz9 hk1 hS1 hce hcv hcl => ?_) (fun u9 t9 H1 locs1 ht9 hvm9 hpost hB9 hz9 hk1 hS1 => ?_)
  · skip
    exact vx_out (fun x hx => (htab x hx).elim) hlocks hce hcv hcl (fun t2 ht2 hal2 => ⟨1, ⟨(if_pos hpx.1.2).symm, by decide⟩, ⟨(by rw [hBX, hpx.1.1] <;> rfl), by rw [ht2]; exact zro1 hP hk1, va_K.moved hal2 hK, hD⟩, hS1.F ht2⟩) hS1.2.2 (Nat.le_of_ble_eq_true rfl) (Nat.le_of_ble_eq_true rfl)
  · skip
    have hS := hS1
    have hP := zro1 hP hk1
    generalize H1 = H at hP hS ⊢
    have hnc := hpost
    refine lv_dload_n hx hb dX4_wood_6 rfl (lv_at hl 3 rfl) ?_
    refine lv_dconst0 hx hb dX4_wood_7 ?_
    refine z_cmp_l_eq (tgt := 22) hx hb (a := zv v) (b := z0) rfl rfl dX4_wood_8 dX4_wood_9 (by decide) (fun c1 => ?_) (fun c2 => ?_)
    · skip
      have hz0 := c1
      have hcode : zcW iw ih x y (zv v) = 0 := by unfold zcW; rw [if_neg hnc, if_pos (by rw [hz0]; rfl)]
      obtain ⟨xn, yn, hxn, hyn, rfl, rfl⟩ := zcl_of hw6 hh6 hnc
      have zxn : zn (nI xn) = xn := zn_nI (by omega)
      have zyn : zn (nI yn) = yn := zn_nI (by omega)
      have hkb := zrow (x := xn) (y := yn) (w := iw) (h := ih) hxn hyn
      have hk9 : zn (nI yn) * iw + zn (nI xn) = yn * iw + xn := by rw [zxn, zyn]
      refine lv_aload_n hx hb dX4_wood_22 rfl (lv_at hl 0 rfl) ?_
      refine va_get (D := (dC, dI)) (ci := 4) (v := .ref aP) (C := RX4) (T := TX4) (N := 4) hx hb hts (in_X4_wood_X4) hown hK hP 0 rfl rfl 0 (by decide) (hts (.fieldLink RX4 18 "PlateModes" "plate" "LPlateModes$Plate;") (by decide +kernel)) (fun _ h9 => h9) rfl dX4_wood_23 ?_
      refine lv_iload_n hx hb dX4_wood_26 rfl (lv_at hl 1 rfl) ?_
      refine lv_iload_n hx hb dX4_wood_27 rfl (lv_at hl 2 rfl) ?_
      have hPc := hP.sub (ws' := [(aP, .inr (2, [.int (nI iw), .int (nI ih), .ref pT, .ref pR, .ref pN, .ref pB, .double al, .double ac, .double de])), (pT, .inl (cD, (iw * ih), .inr (.inr (.inr (.inl tT))))), (pR, .inl (cD, (iw * ih), .inr (.inr (.inr (.inl tR))))), (pN, .inl (cD, (iw * ih), .inr (.inr (.inr (.inl tN))))), (pB, .inr (0, [.ref bP, .ref bF, .ref bL, .ref bH, .int (nI nb)])), (bP, .inl (cI, 12, .inl uP)), (bF, .inl (cI, 12, .inl uF)), (bL, .inl (cI, 12, .inl uL)), (bH, .inl (cD, 12, .inr (.inr (.inr (.inl uH)))))]) [1, 2, 3, 4, 5, 6, 7, 8, 9] rfl
      refine va_calli (va_runV (As := [.int (nI xn), .int (nI yn)]) (rest := []) ⟨hx, hb, hml, hown, hts⟩ (c2_cellAt l dC dI aP pT pR pN pB bP bF bL bH cD cI cQ iw ih al ac de nb tT tR tN uP uF uL uH xn yn) (cwV 2 hts gX4_wood_X2_cellAt rfl rfl rfl (by decide +kernel) ⟨Nat.le_of_ble_eq_true rfl, Nat.le_of_ble_eq_true rfl⟩) ⟨zfb, va_recv hK hP (ci := 2) (q0 := 1) rfl rfl, zpre hPc hK⟩ rfl rfl hl.1 rfl (lv_room (Nat.le_of_ble_eq_true rfl)) dX4_wood_28 ⟨Nat.le_of_ble_eq_true rfl, Nat.le_of_ble_eq_true rfl⟩) hS (fun q _ h => h.elim) (fun q h => h.elim) (fun r3 u9 t9 H locs ht9 hvm9 hr3 hB9 hz9 hk1 hS => ?_)
      have hP := zro1 hP hk1
      subst hr3
      refine lv_istore (lv' := [(5, .int (nI (yn * iw + xn))), (0, .ref aC), (1, .int (nI xn)), (2, .int (nI yn)), (3, .double v)]) hx hb dX4_wood_31 hl (by decide) rfl (fun ls hl => ?_)
      refine lv_aload_n hx hb dX4_wood_33 rfl (lv_at hl 1 rfl) ?_
      refine va_get (D := (dC, dI)) (ci := 4) (v := .ref aP) (C := RX4) (T := TX4) (N := 4) hx hb hts (in_X4_wood_X4) hown hK hP 0 rfl rfl 0 (by decide) (hts (.fieldLink RX4 18 "PlateModes" "plate" "LPlateModes$Plate;") (by decide +kernel)) (fun _ h9 => h9) rfl dX4_wood_34 ?_
      refine lv_iload hx hb dX4_wood_37 (lv_at hl 0 rfl) ?_
      have hPc := hP.sub (ws' := [(aP, .inr (2, [.int (nI iw), .int (nI ih), .ref pT, .ref pR, .ref pN, .ref pB, .double al, .double ac, .double de])), (pT, .inl (cD, (iw * ih), .inr (.inr (.inr (.inl tT))))), (pR, .inl (cD, (iw * ih), .inr (.inr (.inr (.inl tR))))), (pN, .inl (cD, (iw * ih), .inr (.inr (.inr (.inl tN))))), (pB, .inr (0, [.ref bP, .ref bF, .ref bL, .ref bH, .int (nI nb)])), (bP, .inl (cI, 12, .inl uP)), (bF, .inl (cI, 12, .inl uF)), (bL, .inl (cI, 12, .inl uL)), (bH, .inl (cD, 12, .inr (.inr (.inr (.inl uH)))))]) [1, 2, 3, 4, 5, 6, 7, 8, 9] rfl
      refine va_calld (va_runV (As := [.int (nI (yn * iw + xn))]) (rest := []) ⟨hx, hb, hml, hown, hts⟩ (c2_thicknessOf l dC dI aP pT pR pN pB bP bF bL bH cD cI cQ iw ih al ac de nb tT tR tN uP uF uL uH hw6 hh6 (yn * iw + xn) (zrow (x := xn) (y := yn) (by omega) (by omega))) (cwV 1 hts gX4_wood_X2_thicknessOf rfl rfl rfl (by decide +kernel) ⟨Nat.le_of_ble_eq_true rfl, Nat.le_of_ble_eq_true rfl⟩) ⟨zfb, va_recv hK hP (ci := 2) (q0 := 1) rfl rfl, zpre hPc hK⟩ rfl rfl hl.1 rfl (lv_room (Nat.le_of_ble_eq_true rfl)) dX4_wood_39 ⟨Nat.le_of_ble_eq_true rfl, Nat.le_of_ble_eq_true rfl⟩) hS (fun q _ h => h.elim) (fun q h => h.elim) (fun r4 u9 t9 H locs ht9 hvm9 hr4 hB9 hz9 hk1 hS => ?_)
      have hP := zro1 hP hk1
      subst hr4
      refine lv_dload_n hx hb dX4_wood_42 rfl (lv_at hl 4 rfl) ?_
      refine z_cmp_l_ne (tgt := 49) hx hb (a := zv (tT (yn * iw + xn))) (b := zv v) rfl rfl dX4_wood_43 dX4_wood_44 (by decide) (fun c5 => ?_) (fun c6 => ?_)
      · skip
        have heq := c5
        refine lv_aload_n hx hb dX4_wood_49 rfl (lv_at hl 1 rfl) ?_
        refine va_get (D := (dC, dI)) (ci := 4) (v := .ref aP) (C := RX4) (T := TX4) (N := 4) hx hb hts (in_X4_wood_X4) hown hK hP 0 rfl rfl 0 (by decide) (hts (.fieldLink RX4 18 "PlateModes" "plate" "LPlateModes$Plate;") (by decide +kernel)) (fun _ h9 => h9) rfl dX4_wood_50 ?_
        refine lv_iload hx hb dX4_wood_53 (lv_at hl 0 rfl) ?_
        refine lv_dload_n hx hb dX4_wood_55 rfl (lv_at hl 4 rfl) ?_
        have hPc := hP.sub (ws' := [(aP, .inr (2, [.int (nI iw), .int (nI ih), .ref pT, .ref pR, .ref pN, .ref pB, .double al, .double ac, .double de])), (pT, .inl (cD, (iw * ih), .inr (.inr (.inr (.inl tT))))), (pR, .inl (cD, (iw * ih), .inr (.inr (.inr (.inl tR))))), (pN, .inl (cD, (iw * ih), .inr (.inr (.inr (.inl tN))))), (pB, .inr (0, [.ref bP, .ref bF, .ref bL, .ref bH, .int (nI nb)])), (bP, .inl (cI, 12, .inl uP)), (bF, .inl (cI, 12, .inl uF)), (bL, .inl (cI, 12, .inl uL)), (bH, .inl (cD, 12, .inr (.inr (.inr (.inl uH)))))]) [1, 2, 3, 4, 5, 6, 7, 8, 9] rfl
        have hDc := hD.sub (ws' := [(aP, .inr (2, [.int (nI iw), .int (nI ih), .ref pT, .ref pR, .ref pN, .ref pB, .double al, .double ac, .double de])), (pT, .inl (cD, (iw * ih), .inr (.inr (.inr (.inl tT))))), (pR, .inl (cD, (iw * ih), .inr (.inr (.inr (.inl tR))))), (pN, .inl (cD, (iw * ih), .inr (.inr (.inr (.inl tN))))), (pB, .inr (0, [.ref bP, .ref bF, .ref bL, .ref bH, .int (nI nb)])), (bP, .inl (cI, 12, .inl uP)), (bF, .inl (cI, 12, .inl uF)), (bL, .inl (cI, 12, .inl uL)), (bH, .inl (cD, 12, .inr (.inr (.inr (.inl uH)))))]) [1, 2, 3, 4, 5, 6, 7, 8, 9] (by decide) rfl
        have hFc := va_free (wc := [(aP, .inr (2, [.int (nI iw), .int (nI ih), .ref pT, .ref pR, .ref pN, .ref pB, .double al, .double ac, .double de])), (pT, .inl (cD, (iw * ih), .inr (.inr (.inr (.inl tT))))), (pR, .inl (cD, (iw * ih), .inr (.inr (.inr (.inl tR))))), (pN, .inl (cD, (iw * ih), .inr (.inr (.inr (.inl tN))))), (pB, .inr (0, [.ref bP, .ref bF, .ref bL, .ref bH, .int (nI nb)])), (bP, .inl (cI, 12, .inl uP)), (bF, .inl (cI, 12, .inl uF)), (bL, .inl (cI, 12, .inl uL)), (bH, .inl (cD, 12, .inr (.inr (.inr (.inl uH)))))]) hD hS hA [1, 2, 3, 4, 5, 6, 7, 8, 9] rfl
        refine va_callv (va_runV (As := [.int (nI (yn * iw + xn)), .double v]) (rest := []) ⟨hx, hb, hml, hown, hts⟩ (c2_setThickness l dC dI aP pT pR pN pB bP bF bL bH cD cI cQ iw ih al ac de nb tT tR tN uP uF uL uH hw6 hh6 (yn * iw + xn) hkb v _) (cwV 2 hts gX4_wood_X2_setThickness rfl rfl rfl (by decide +kernel) ⟨Nat.le_of_ble_eq_true rfl, Nat.le_of_ble_eq_true rfl⟩) ⟨zfbw, va_recv hK hPc (ci := 2) (q0 := 0) rfl rfl, zprew hPc hK hDc⟩ rfl rfl hl.1 rfl (lv_room (Nat.le_of_ble_eq_true rfl)) dX4_wood_56 ⟨(Nat.le_of_ble_eq_true rfl), (Nat.le_of_ble_eq_true rfl)⟩) hS (fun q _ h => hFc q h) hFc (fun u8 t9 H1 locs ht9 hvm9 hr7 hB9 hz9 hk1 hS => ?_)
        obtain ⟨hP1, hK1, hD1⟩ := hB9
        rw [ht9] at hP1
        obtain ⟨hP, hD⟩ := va_join (wr := [(aC, .inr (4, [.ref aP, .ref aM, .ref aK, .ref aW])), (aM, .inr (1, [.ref aP, .ref aQ, .ref mS, .ref mR, .ref mT, .int (nI im)])), (aQ, .inl (cQ, 4, .inr (.inr (.inr (.inr (zq4 ro0 ro1 ro2 ro3)))))), (mS, .inl (cD, 4, .inr (.inr (.inr (.inl qS))))), (mR, .inl (cD, 4, .inr (.inr (.inr (.inl qU))))), (mT, .inl (cD, 4, .inr (.inr (.inr (.inl qO))))), (ro0, .inl (cD, (iw * ih), .inr (.inr (.inr (.inl e0))))), (ro1, .inl (cD, (iw * ih), .inr (.inr (.inr (.inl e1))))), (ro2, .inl (cD, (iw * ih), .inr (.inr (.inr (.inl e2))))), (ro3, .inl (cD, (iw * ih), .inr (.inr (.inr (.inl e3))))), (aK, .inr (1, [.ref aP, .ref kQ, .ref kS, .ref kR, .ref kT, .int (nI ik)])), (kQ, .inl (cQ, 4, .inr (.inr (.inr (.inr (zq4 ko0 ko1 ko2 ko3)))))), (kS, .inl (cD, 4, .inr (.inr (.inr (.inl ksq))))), (kR, .inl (cD, 4, .inr (.inr (.inr (.inl ksr))))), (kT, .inl (cD, 4, .inr (.inr (.inr (.inl kst))))), (ko0, .inl (cD, (iw * ih), .inr (.inr (.inr (.inl ke0))))), (ko1, .inl (cD, (iw * ih), .inr (.inr (.inr (.inl ke1))))), (ko2, .inl (cD, (iw * ih), .inr (.inr (.inr (.inl ke2))))), (ko3, .inl (cD, (iw * ih), .inr (.inr (.inr (.inl ke3))))), (aW, .inr (3, [.ref pW, .ref pX, .int (nI iq)])), (pW, .inl (cI, 4, .inl tW)), (pX, .inl (cD, 4, .inr (.inr (.inr (.inl tX)))))]) (w1 := [(aP, .inr (2, [.int (nI iw), .int (nI ih), .ref pT, .ref pR, .ref pN, .ref pB, .double al, .double ac, .double de])), (pT, .inl (cD, (iw * ih), .inr (.inr (.inr (.inl (zu tT (yn * iw + xn) v)))))), (pR, .inl (cD, (iw * ih), .inr (.inr (.inr (.inl tR))))), (pN, .inl (cD, (iw * ih), .inr (.inr (.inr (.inl tN))))), (pB, .inr (0, [.ref bP, .ref bF, .ref bL, .ref bH, .int (nI nb)])), (bP, .inl (cI, 12, .inl uP)), (bF, .inl (cI, 12, .inl uF)), (bL, .inl (cI, 12, .inl uL)), (bH, .inl (cD, 12, .inr (.inr (.inr (.inl uH)))))]) hP hD [1, 2, 3, 4, 5, 6, 7, 8, 9] [0, 10, 11, 12, 13, 14, 15, 16, 17, 18, 19, 20, 21, 22, 23, 24, 25, 26, 27, 28, 29, 30] rfl rfl (by decide) (by decide) hk1 hFc hP1 hD1
        generalize H1 = H at hP hS ⊢
        have hP : va_P (dC, dI) vwCl (w4 aC aP pT pR pN pB bP bF bL bH aM aQ mS mR mT ro0 ro1 ro2 ro3 aK kQ kS kR kT ko0 ko1 ko2 ko3 aW pW pX cD cI cQ iw ih al ac de nb im ik iq (zu tT (yn * iw + xn) v) tR tN uP uF uL uH e0 e1 e2 e3 qS qU qO ke0 ke1 ke2 ke3 ksq ksr kst tW tX) H := hP.sub (ws' := (w4 aC aP pT pR pN pB bP bF bL bH aM aQ mS mR mT ro0 ro1 ro2 ro3 aK kQ kS kR kT ko0 ko1 ko2 ko3 aW pW pX cD cI cQ iw ih al ac de nb im ik iq (zu tT (yn * iw + xn) v) tR tN uP uF uL uH e0 e1 e2 e3 qS qU qO ke0 ke1 ke2 ke3 ksq ksr kst tW tX)) [0, 22, 23, 24, 25, 26, 27, 28, 29, 30, 1, 2, 3, 4, 5, 6, 7, 8, 9, 10, 11, 12, 13, 14, 15, 16, 17, 18, 19, 20, 21] rfl
        have hD : va_D A (w4 aC aP pT pR pN pB bP bF bL bH aM aQ mS mR mT ro0 ro1 ro2 ro3 aK kQ kS kR kT ko0 ko1 ko2 ko3 aW pW pX cD cI cQ iw ih al ac de nb im ik iq (zu tT (yn * iw + xn) v) tR tN uP uF uL uH e0 e1 e2 e3 qS qU qO ke0 ke1 ke2 ke3 ksq ksr kst tW tX) := hD.sub (ws' := (w4 aC aP pT pR pN pB bP bF bL bH aM aQ mS mR mT ro0 ro1 ro2 ro3 aK kQ kS kR kT ko0 ko1 ko2 ko3 aW pW pX cD cI cQ iw ih al ac de nb im ik iq (zu tT (yn * iw + xn) v) tR tN uP uF uL uH e0 e1 e2 e3 qS qU qO ke0 ke1 ke2 ke3 ksq ksr kst tW tX)) [0, 22, 23, 24, 25, 26, 27, 28, 29, 30, 1, 2, 3, 4, 5, 6, 7, 8, 9, 10, 11, 12, 13, 14, 15, 16, 17, 18, 19, 20, 21] (by decide) rfl
        refine lv_aload_n hx hb dX4_wood_59 rfl (lv_at hl 1 rfl) ?_
        refine va_get (D := (dC, dI)) (ci := 4) (v := .ref aM) (C := RX4) (T := TX4) (N := 4) hx hb hts (in_X4_wood_X4) hown hK hP 0 rfl rfl 1 (by decide) (hts (.fieldLink RX4 27 "PlateModes" "made" "LPlateModes$ModeSet;") (by decide +kernel)) (fun _ h9 => h9) rfl dX4_wood_60 ?_
        have hPc := hP.sub (ws' := [(aM, .inr (1, [.ref aP, .ref aQ, .ref mS, .ref mR, .ref mT, .int (nI im)]))]) [10] rfl
        have hDc := hD.sub (ws' := [(aM, .inr (1, [.ref aP, .ref aQ, .ref mS, .ref mR, .ref mT, .int (nI im)]))]) [10] (by decide) rfl
        have hFc := va_free (wc := [(aM, .inr (1, [.ref aP, .ref aQ, .ref mS, .ref mR, .ref mT, .int (nI im)]))]) hD hS hA [10] rfl
        refine va_callv (va_runV (As := []) (rest := []) ⟨hx, hb, hml, hown, hts⟩ (c1_forget l dC dI aM aP aQ mS mR mT cD cI cQ im _) (cwV 0 hts gX4_wood_X1_forget rfl rfl rfl (by decide +kernel) ⟨Nat.le_of_ble_eq_true rfl, Nat.le_of_ble_eq_true rfl⟩) ⟨zfbw, va_recv hK hPc (ci := 1) (q0 := 0) rfl rfl, zprew hPc hK hDc⟩ rfl rfl hl.1 rfl (lv_room (Nat.le_of_ble_eq_true rfl)) dX4_wood_63 ⟨(Nat.le_of_ble_eq_true rfl), (Nat.le_of_ble_eq_true rfl)⟩) hS (fun q _ h => hFc q h) hFc (fun u10 t9 H1 locs ht9 hvm9 hr9 hB9 hz9 hk1 hS => ?_)
        obtain ⟨hP1, hK1, hD1⟩ := hB9
        rw [ht9] at hP1
        obtain ⟨hP, hD⟩ := va_join (wr := [(aC, .inr (4, [.ref aP, .ref aM, .ref aK, .ref aW])), (aP, .inr (2, [.int (nI iw), .int (nI ih), .ref pT, .ref pR, .ref pN, .ref pB, .double al, .double ac, .double de])), (pT, .inl (cD, (iw * ih), .inr (.inr (.inr (.inl (zu tT (yn * iw + xn) v)))))), (pR, .inl (cD, (iw * ih), .inr (.inr (.inr (.inl tR))))), (pN, .inl (cD, (iw * ih), .inr (.inr (.inr (.inl tN))))), (pB, .inr (0, [.ref bP, .ref bF, .ref bL, .ref bH, .int (nI nb)])), (bP, .inl (cI, 12, .inl uP)), (bF, .inl (cI, 12, .inl uF)), (bL, .inl (cI, 12, .inl uL)), (bH, .inl (cD, 12, .inr (.inr (.inr (.inl uH))))), (aQ, .inl (cQ, 4, .inr (.inr (.inr (.inr (zq4 ro0 ro1 ro2 ro3)))))), (mS, .inl (cD, 4, .inr (.inr (.inr (.inl qS))))), (mR, .inl (cD, 4, .inr (.inr (.inr (.inl qU))))), (mT, .inl (cD, 4, .inr (.inr (.inr (.inl qO))))), (ro0, .inl (cD, (iw * ih), .inr (.inr (.inr (.inl e0))))), (ro1, .inl (cD, (iw * ih), .inr (.inr (.inr (.inl e1))))), (ro2, .inl (cD, (iw * ih), .inr (.inr (.inr (.inl e2))))), (ro3, .inl (cD, (iw * ih), .inr (.inr (.inr (.inl e3))))), (aK, .inr (1, [.ref aP, .ref kQ, .ref kS, .ref kR, .ref kT, .int (nI ik)])), (kQ, .inl (cQ, 4, .inr (.inr (.inr (.inr (zq4 ko0 ko1 ko2 ko3)))))), (kS, .inl (cD, 4, .inr (.inr (.inr (.inl ksq))))), (kR, .inl (cD, 4, .inr (.inr (.inr (.inl ksr))))), (kT, .inl (cD, 4, .inr (.inr (.inr (.inl kst))))), (ko0, .inl (cD, (iw * ih), .inr (.inr (.inr (.inl ke0))))), (ko1, .inl (cD, (iw * ih), .inr (.inr (.inr (.inl ke1))))), (ko2, .inl (cD, (iw * ih), .inr (.inr (.inr (.inl ke2))))), (ko3, .inl (cD, (iw * ih), .inr (.inr (.inr (.inl ke3))))), (aW, .inr (3, [.ref pW, .ref pX, .int (nI iq)])), (pW, .inl (cI, 4, .inl tW)), (pX, .inl (cD, 4, .inr (.inr (.inr (.inl tX)))))]) (w1 := [(aM, .inr (1, [.ref aP, .ref aQ, .ref mS, .ref mR, .ref mT, .int (nI 0)]))]) hP hD [10] [0, 1, 2, 3, 4, 5, 6, 7, 8, 9, 11, 12, 13, 14, 15, 16, 17, 18, 19, 20, 21, 22, 23, 24, 25, 26, 27, 28, 29, 30] rfl rfl (by decide) (by decide) hk1 hFc hP1 hD1
        generalize H1 = H at hP hS ⊢
        have hP : va_P (dC, dI) vwCl (w4 aC aP pT pR pN pB bP bF bL bH aM aQ mS mR mT ro0 ro1 ro2 ro3 aK kQ kS kR kT ko0 ko1 ko2 ko3 aW pW pX cD cI cQ iw ih al ac de nb 0 ik iq (zu tT (yn * iw + xn) v) tR tN uP uF uL uH e0 e1 e2 e3 qS qU qO ke0 ke1 ke2 ke3 ksq ksr kst tW tX) H := hP.sub (ws' := (w4 aC aP pT pR pN pB bP bF bL bH aM aQ mS mR mT ro0 ro1 ro2 ro3 aK kQ kS kR kT ko0 ko1 ko2 ko3 aW pW pX cD cI cQ iw ih al ac de nb 0 ik iq (zu tT (yn * iw + xn) v) tR tN uP uF uL uH e0 e1 e2 e3 qS qU qO ke0 ke1 ke2 ke3 ksq ksr kst tW tX)) [0, 1, 2, 3, 4, 5, 6, 7, 8, 9, 30, 10, 11, 12, 13, 14, 15, 16, 17, 18, 19, 20, 21, 22, 23, 24, 25, 26, 27, 28, 29] rfl
        have hD : va_D A (w4 aC aP pT pR pN pB bP bF bL bH aM aQ mS mR mT ro0 ro1 ro2 ro3 aK kQ kS kR kT ko0 ko1 ko2 ko3 aW pW pX cD cI cQ iw ih al ac de nb 0 ik iq (zu tT (yn * iw + xn) v) tR tN uP uF uL uH e0 e1 e2 e3 qS qU qO ke0 ke1 ke2 ke3 ksq ksr kst tW tX) := hD.sub (ws' := (w4 aC aP pT pR pN pB bP bF bL bH aM aQ mS mR mT ro0 ro1 ro2 ro3 aK kQ kS kR kT ko0 ko1 ko2 ko3 aW pW pX cD cI cQ iw ih al ac de nb 0 ik iq (zu tT (yn * iw + xn) v) tR tN uP uF uL uH e0 e1 e2 e3 qS qU qO ke0 ke1 ke2 ke3 ksq ksr kst tW tX)) [0, 1, 2, 3, 4, 5, 6, 7, 8, 9, 30, 10, 11, 12, 13, 14, 15, 16, 17, 18, 19, 20, 21, 22, 23, 24, 25, 26, 27, 28, 29] (by decide) rfl
        refine lv_iconst (v := (nI 1)) hx hb dX4_wood_66 (by decide) ?_
        refine vx_ret ?_
        refine W.widen (k := 2) (n := 12) (Nat.le_of_ble_eq_true rfl) (Nat.le_of_ble_eq_true rfl) ?_
        exact W.zret (v := (nI 1)) hx hb hr rfl (fun t ht hW => ⟨⟨(nI 1), (zu tT (yn * iw + xn) v, 0), rfl, ⟨hcode, by rw [hk9, heq]; rfl, (fun q => by rw [hk9, heq] at q; cases q), fun _ => ⟨by rw [hk9], rfl⟩⟩, by rw [ht]; exact hP, va_K.moved hW.alike hK, hD⟩, hS.F ht⟩) hS.2.2 dX4_wood_67
      · skip
        have heq := c6
        refine lv_iconst (v := (nI 0)) hx hb dX4_wood_47 (by decide) ?_
        refine vx_ret ?_
        refine W.widen (k := 2) (n := 12) (Nat.le_of_ble_eq_true rfl) (Nat.le_of_ble_eq_true rfl) ?_
        exact W.zret (v := (nI 0)) hx hb hr rfl (fun t ht hW => ⟨⟨(nI 0), (tT, im), rfl, ⟨hcode, by rw [hk9, heq]; rfl, fun _ => ⟨rfl, rfl⟩, fun q => by rw [hk9, heq] at q; cases q⟩, by rw [ht]; exact hP, va_K.moved hW.alike hK, hD⟩, hS.F ht⟩) hS.2.2 dX4_wood_48
    · skip
      have hz0 := c2
      refine lv_dload_n hx hb dX4_wood_12 rfl (lv_at hl 3 rfl) ?_
      refine lv_ldc2d (v := 4593671619917905920) hx hb hown (hts (.constantDouble RX4 44 (4593671619917905920)) (by decide +kernel)) dX4_wood_13 ?_
      refine lv_ldc2d (v := 4620693217682128896) hx hb hown (hts (.constantDouble RX4 46 (4620693217682128896)) (by decide +kernel)) dX4_wood_16 ?_
      refine vx_callv (vx_runS (As := [.double v, .double 4593671619917905920, .double 4620693217682128896]) (rest := []) ⟨hx, hb, hml, hown, hts⟩ (c4_requireRange l hst v 4593671619917905920 4620693217682128896) (va_cwS 3 hts gX4_wood_X4_requireRange rfl rfl rfl (by decide +kernel) ⟨(Nat.le_of_ble_eq_true rfl), (Nat.le_of_ble_eq_true rfl)⟩) ⟨zfbX0, zpreX0 (by first | exact hE | exact hE.sd) hS⟩ rfl rfl hl.1 rfl (lv_room (Nat.le_of_ble_eq_true rfl)) dX4_wood_19 ⟨(Nat.le_of_ble_eq_true rfl), (Nat.le_of_ble_eq_true rfl)⟩) hS (fun q _ h => h.elim) (fun q h => h.elim) (fun q _ h => h.elim) (fun E9 ce9 q9 u9 t9 H1 locs1 ht9 hvm9 hpx hBX hz9 hk1 hS1 hce hcv hcl => ?_) (fun u9 t9 H1 locs1 ht9 hvm9 hpost hB9 hz9 hk1 hS1 => ?_)
      · skip
        exact vx_out (fun x hx => (htab x hx).elim) hlocks hce hcv hcl (fun t2 ht2 hal2 => ⟨2, ⟨(by unfold zcW; rw [if_neg hnc, if_neg (by rw [hz0, show zbt (zv v) c18 c8 = false from hpx.1.2]; decide)]), by decide⟩, ⟨(by rw [hBX, hpx.1.1] <;> rfl), by rw [ht2]; exact zro1 hP hk1, va_K.moved hal2 hK, hD⟩, hS1.F ht2⟩) hS1.2.2 (Nat.le_of_ble_eq_true rfl) (Nat.le_of_ble_eq_true rfl)
      · skip
        have hS := hS1
        have hP := zro1 hP hk1
        generalize H1 = H at hP hS ⊢
        have hbt : zbt (zv v) c18 c8 = true := hpost
        have hcode : zcW iw ih x y (zv v) = 0 := by unfold zcW; rw [if_neg hnc, if_pos (by rw [hbt, Bool.or_true])]
        obtain ⟨xn, yn, hxn, hyn, rfl, rfl⟩ := zcl_of hw6 hh6 hnc
        have zxn : zn (nI xn) = xn := zn_nI (by omega)
        have zyn : zn (nI yn) = yn := zn_nI (by omega)
        have hkb := zrow (x := xn) (y := yn) (w := iw) (h := ih) hxn hyn
        have hk9 : zn (nI yn) * iw + zn (nI xn) = yn * iw + xn := by rw [zxn, zyn]
        refine lv_aload_n hx hb dX4_wood_22 rfl (lv_at hl 0 rfl) ?_
        refine va_get (D := (dC, dI)) (ci := 4) (v := .ref aP) (C := RX4) (T := TX4) (N := 4) hx hb hts (in_X4_wood_X4) hown hK hP 0 rfl rfl 0 (by decide) (hts (.fieldLink RX4 18 "PlateModes" "plate" "LPlateModes$Plate;") (by decide +kernel)) (fun _ h9 => h9) rfl dX4_wood_23 ?_
        refine lv_iload_n hx hb dX4_wood_26 rfl (lv_at hl 1 rfl) ?_
        refine lv_iload_n hx hb dX4_wood_27 rfl (lv_at hl 2 rfl) ?_
        have hPc := hP.sub (ws' := [(aP, .inr (2, [.int (nI iw), .int (nI ih), .ref pT, .ref pR, .ref pN, .ref pB, .double al, .double ac, .double de])), (pT, .inl (cD, (iw * ih), .inr (.inr (.inr (.inl tT))))), (pR, .inl (cD, (iw * ih), .inr (.inr (.inr (.inl tR))))), (pN, .inl (cD, (iw * ih), .inr (.inr (.inr (.inl tN))))), (pB, .inr (0, [.ref bP, .ref bF, .ref bL, .ref bH, .int (nI nb)])), (bP, .inl (cI, 12, .inl uP)), (bF, .inl (cI, 12, .inl uF)), (bL, .inl (cI, 12, .inl uL)), (bH, .inl (cD, 12, .inr (.inr (.inr (.inl uH)))))]) [1, 2, 3, 4, 5, 6, 7, 8, 9] rfl
        refine va_calli (va_runV (As := [.int (nI xn), .int (nI yn)]) (rest := []) ⟨hx, hb, hml, hown, hts⟩ (c2_cellAt l dC dI aP pT pR pN pB bP bF bL bH cD cI cQ iw ih al ac de nb tT tR tN uP uF uL uH xn yn) (cwV 2 hts gX4_wood_X2_cellAt rfl rfl rfl (by decide +kernel) ⟨Nat.le_of_ble_eq_true rfl, Nat.le_of_ble_eq_true rfl⟩) ⟨zfb, va_recv hK hP (ci := 2) (q0 := 1) rfl rfl, zpre hPc hK⟩ rfl rfl hl.1 rfl (lv_room (Nat.le_of_ble_eq_true rfl)) dX4_wood_28 ⟨Nat.le_of_ble_eq_true rfl, Nat.le_of_ble_eq_true rfl⟩) hS (fun q _ h => h.elim) (fun q h => h.elim) (fun r11 u9 t9 H locs ht9 hvm9 hr11 hB9 hz9 hk1 hS => ?_)
        have hP := zro1 hP hk1
        subst hr11
        refine lv_istore (lv' := [(5, .int (nI (yn * iw + xn))), (0, .ref aC), (1, .int (nI xn)), (2, .int (nI yn)), (3, .double v)]) hx hb dX4_wood_31 hl (by decide) rfl (fun ls hl => ?_)
        refine lv_aload_n hx hb dX4_wood_33 rfl (lv_at hl 1 rfl) ?_
        refine va_get (D := (dC, dI)) (ci := 4) (v := .ref aP) (C := RX4) (T := TX4) (N := 4) hx hb hts (in_X4_wood_X4) hown hK hP 0 rfl rfl 0 (by decide) (hts (.fieldLink RX4 18 "PlateModes" "plate" "LPlateModes$Plate;") (by decide +kernel)) (fun _ h9 => h9) rfl dX4_wood_34 ?_
        refine lv_iload hx hb dX4_wood_37 (lv_at hl 0 rfl) ?_
        have hPc := hP.sub (ws' := [(aP, .inr (2, [.int (nI iw), .int (nI ih), .ref pT, .ref pR, .ref pN, .ref pB, .double al, .double ac, .double de])), (pT, .inl (cD, (iw * ih), .inr (.inr (.inr (.inl tT))))), (pR, .inl (cD, (iw * ih), .inr (.inr (.inr (.inl tR))))), (pN, .inl (cD, (iw * ih), .inr (.inr (.inr (.inl tN))))), (pB, .inr (0, [.ref bP, .ref bF, .ref bL, .ref bH, .int (nI nb)])), (bP, .inl (cI, 12, .inl uP)), (bF, .inl (cI, 12, .inl uF)), (bL, .inl (cI, 12, .inl uL)), (bH, .inl (cD, 12, .inr (.inr (.inr (.inl uH)))))]) [1, 2, 3, 4, 5, 6, 7, 8, 9] rfl
        refine va_calld (va_runV (As := [.int (nI (yn * iw + xn))]) (rest := []) ⟨hx, hb, hml, hown, hts⟩ (c2_thicknessOf l dC dI aP pT pR pN pB bP bF bL bH cD cI cQ iw ih al ac de nb tT tR tN uP uF uL uH hw6 hh6 (yn * iw + xn) (zrow (x := xn) (y := yn) (by omega) (by omega))) (cwV 1 hts gX4_wood_X2_thicknessOf rfl rfl rfl (by decide +kernel) ⟨Nat.le_of_ble_eq_true rfl, Nat.le_of_ble_eq_true rfl⟩) ⟨zfb, va_recv hK hP (ci := 2) (q0 := 1) rfl rfl, zpre hPc hK⟩ rfl rfl hl.1 rfl (lv_room (Nat.le_of_ble_eq_true rfl)) dX4_wood_39 ⟨Nat.le_of_ble_eq_true rfl, Nat.le_of_ble_eq_true rfl⟩) hS (fun q _ h => h.elim) (fun q h => h.elim) (fun r12 u9 t9 H locs ht9 hvm9 hr12 hB9 hz9 hk1 hS => ?_)
        have hP := zro1 hP hk1
        subst hr12
        refine lv_dload_n hx hb dX4_wood_42 rfl (lv_at hl 4 rfl) ?_
        refine z_cmp_l_ne (tgt := 49) hx hb (a := zv (tT (yn * iw + xn))) (b := zv v) rfl rfl dX4_wood_43 dX4_wood_44 (by decide) (fun c13 => ?_) (fun c14 => ?_)
        · skip
          have heq := c13
          refine lv_aload_n hx hb dX4_wood_49 rfl (lv_at hl 1 rfl) ?_
          refine va_get (D := (dC, dI)) (ci := 4) (v := .ref aP) (C := RX4) (T := TX4) (N := 4) hx hb hts (in_X4_wood_X4) hown hK hP 0 rfl rfl 0 (by decide) (hts (.fieldLink RX4 18 "PlateModes" "plate" "LPlateModes$Plate;") (by decide +kernel)) (fun _ h9 => h9) rfl dX4_wood_50 ?_
          refine lv_iload hx hb dX4_wood_53 (lv_at hl 0 rfl) ?_
          refine lv_dload_n hx hb dX4_wood_55 rfl (lv_at hl 4 rfl) ?_
          have hPc := hP.sub (ws' := [(aP, .inr (2, [.int (nI iw), .int (nI ih), .ref pT, .ref pR, .ref pN, .ref pB, .double al, .double ac, .double de])), (pT, .inl (cD, (iw * ih), .inr (.inr (.inr (.inl tT))))), (pR, .inl (cD, (iw * ih), .inr (.inr (.inr (.inl tR))))), (pN, .inl (cD, (iw * ih), .inr (.inr (.inr (.inl tN))))), (pB, .inr (0, [.ref bP, .ref bF, .ref bL, .ref bH, .int (nI nb)])), (bP, .inl (cI, 12, .inl uP)), (bF, .inl (cI, 12, .inl uF)), (bL, .inl (cI, 12, .inl uL)), (bH, .inl (cD, 12, .inr (.inr (.inr (.inl uH)))))]) [1, 2, 3, 4, 5, 6, 7, 8, 9] rfl
          have hDc := hD.sub (ws' := [(aP, .inr (2, [.int (nI iw), .int (nI ih), .ref pT, .ref pR, .ref pN, .ref pB, .double al, .double ac, .double de])), (pT, .inl (cD, (iw * ih), .inr (.inr (.inr (.inl tT))))), (pR, .inl (cD, (iw * ih), .inr (.inr (.inr (.inl tR))))), (pN, .inl (cD, (iw * ih), .inr (.inr (.inr (.inl tN))))), (pB, .inr (0, [.ref bP, .ref bF, .ref bL, .ref bH, .int (nI nb)])), (bP, .inl (cI, 12, .inl uP)), (bF, .inl (cI, 12, .inl uF)), (bL, .inl (cI, 12, .inl uL)), (bH, .inl (cD, 12, .inr (.inr (.inr (.inl uH)))))]) [1, 2, 3, 4, 5, 6, 7, 8, 9] (by decide) rfl
          have hFc := va_free (wc := [(aP, .inr (2, [.int (nI iw), .int (nI ih), .ref pT, .ref pR, .ref pN, .ref pB, .double al, .double ac, .double de])), (pT, .inl (cD, (iw * ih), .inr (.inr (.inr (.inl tT))))), (pR, .inl (cD, (iw * ih), .inr (.inr (.inr (.inl tR))))), (pN, .inl (cD, (iw * ih), .inr (.inr (.inr (.inl tN))))), (pB, .inr (0, [.ref bP, .ref bF, .ref bL, .ref bH, .int (nI nb)])), (bP, .inl (cI, 12, .inl uP)), (bF, .inl (cI, 12, .inl uF)), (bL, .inl (cI, 12, .inl uL)), (bH, .inl (cD, 12, .inr (.inr (.inr (.inl uH)))))]) hD hS hA [1, 2, 3, 4, 5, 6, 7, 8, 9] rfl
          refine va_callv (va_runV (As := [.int (nI (yn * iw + xn)), .double v]) (rest := []) ⟨hx, hb, hml, hown, hts⟩ (c2_setThickness l dC dI aP pT pR pN pB bP bF bL bH cD cI cQ iw ih al ac de nb tT tR tN uP uF uL uH hw6 hh6 (yn * iw + xn) hkb v _) (cwV 2 hts gX4_wood_X2_setThickness rfl rfl rfl (by decide +kernel) ⟨Nat.le_of_ble_eq_true rfl, Nat.le_of_ble_eq_true rfl⟩) ⟨zfbw, va_recv hK hPc (ci := 2) (q0 := 0) rfl rfl, zprew hPc hK hDc⟩ rfl rfl hl.1 rfl (lv_room (Nat.le_of_ble_eq_true rfl)) dX4_wood_56 ⟨(Nat.le_of_ble_eq_true rfl), (Nat.le_of_ble_eq_true rfl)⟩) hS (fun q _ h => hFc q h) hFc (fun u16 t9 H1 locs ht9 hvm9 hr15 hB9 hz9 hk1 hS => ?_)
          obtain ⟨hP1, hK1, hD1⟩ := hB9
          rw [ht9] at hP1
          obtain ⟨hP, hD⟩ := va_join (wr := [(aC, .inr (4, [.ref aP, .ref aM, .ref aK, .ref aW])), (aM, .inr (1, [.ref aP, .ref aQ, .ref mS, .ref mR, .ref mT, .int (nI im)])), (aQ, .inl (cQ, 4, .inr (.inr (.inr (.inr (zq4 ro0 ro1 ro2 ro3)))))), (mS, .inl (cD, 4, .inr (.inr (.inr (.inl qS))))), (mR, .inl (cD, 4, .inr (.inr (.inr (.inl qU))))), (mT, .inl (cD, 4, .inr (.inr (.inr (.inl qO))))), (ro0, .inl (cD, (iw * ih), .inr (.inr (.inr (.inl e0))))), (ro1, .inl (cD, (iw * ih), .inr (.inr (.inr (.inl e1))))), (ro2, .inl (cD, (iw * ih), .inr (.inr (.inr (.inl e2))))), (ro3, .inl (cD, (iw * ih), .inr (.inr (.inr (.inl e3))))), (aK, .inr (1, [.ref aP, .ref kQ, .ref kS, .ref kR, .ref kT, .int (nI ik)])), (kQ, .inl (cQ, 4, .inr (.inr (.inr (.inr (zq4 ko0 ko1 ko2 ko3)))))), (kS, .inl (cD, 4, .inr (.inr (.inr (.inl ksq))))), (kR, .inl (cD, 4, .inr (.inr (.inr (.inl ksr))))), (kT, .inl (cD, 4, .inr (.inr (.inr (.inl kst))))), (ko0, .inl (cD, (iw * ih), .inr (.inr (.inr (.inl ke0))))), (ko1, .inl (cD, (iw * ih), .inr (.inr (.inr (.inl ke1))))), (ko2, .inl (cD, (iw * ih), .inr (.inr (.inr (.inl ke2))))), (ko3, .inl (cD, (iw * ih), .inr (.inr (.inr (.inl ke3))))), (aW, .inr (3, [.ref pW, .ref pX, .int (nI iq)])), (pW, .inl (cI, 4, .inl tW)), (pX, .inl (cD, 4, .inr (.inr (.inr (.inl tX)))))]) (w1 := [(aP, .inr (2, [.int (nI iw), .int (nI ih), .ref pT, .ref pR, .ref pN, .ref pB, .double al, .double ac, .double de])), (pT, .inl (cD, (iw * ih), .inr (.inr (.inr (.inl (zu tT (yn * iw + xn) v)))))), (pR, .inl (cD, (iw * ih), .inr (.inr (.inr (.inl tR))))), (pN, .inl (cD, (iw * ih), .inr (.inr (.inr (.inl tN))))), (pB, .inr (0, [.ref bP, .ref bF, .ref bL, .ref bH, .int (nI nb)])), (bP, .inl (cI, 12, .inl uP)), (bF, .inl (cI, 12, .inl uF)), (bL, .inl (cI, 12, .inl uL)), (bH, .inl (cD, 12, .inr (.inr (.inr (.inl uH)))))]) hP hD [1, 2, 3, 4, 5, 6, 7, 8, 9] [0, 10, 11, 12, 13, 14, 15, 16, 17, 18, 19, 20, 21, 22, 23, 24, 25, 26, 27, 28, 29, 30] rfl rfl (by decide) (by decide) hk1 hFc hP1 hD1
          generalize H1 = H at hP hS ⊢
          have hP : va_P (dC, dI) vwCl (w4 aC aP pT pR pN pB bP bF bL bH aM aQ mS mR mT ro0 ro1 ro2 ro3 aK kQ kS kR kT ko0 ko1 ko2 ko3 aW pW pX cD cI cQ iw ih al ac de nb im ik iq (zu tT (yn * iw + xn) v) tR tN uP uF uL uH e0 e1 e2 e3 qS qU qO ke0 ke1 ke2 ke3 ksq ksr kst tW tX) H := hP.sub (ws' := (w4 aC aP pT pR pN pB bP bF bL bH aM aQ mS mR mT ro0 ro1 ro2 ro3 aK kQ kS kR kT ko0 ko1 ko2 ko3 aW pW pX cD cI cQ iw ih al ac de nb im ik iq (zu tT (yn * iw + xn) v) tR tN uP uF uL uH e0 e1 e2 e3 qS qU qO ke0 ke1 ke2 ke3 ksq ksr kst tW tX)) [0, 22, 23, 24, 25, 26, 27, 28, 29, 30, 1, 2, 3, 4, 5, 6, 7, 8, 9, 10, 11, 12, 13, 14, 15, 16, 17, 18, 19, 20, 21] rfl
          have hD : va_D A (w4 aC aP pT pR pN pB bP bF bL bH aM aQ mS mR mT ro0 ro1 ro2 ro3 aK kQ kS kR kT ko0 ko1 ko2 ko3 aW pW pX cD cI cQ iw ih al ac de nb im ik iq (zu tT (yn * iw + xn) v) tR tN uP uF uL uH e0 e1 e2 e3 qS qU qO ke0 ke1 ke2 ke3 ksq ksr kst tW tX) := hD.sub (ws' := (w4 aC aP pT pR pN pB bP bF bL bH aM aQ mS mR mT ro0 ro1 ro2 ro3 aK kQ kS kR kT ko0 ko1 ko2 ko3 aW pW pX cD cI cQ iw ih al ac de nb im ik iq (zu tT (yn * iw + xn) v) tR tN uP uF uL uH e0 e1 e2 e3 qS qU qO ke0 ke1 ke2 ke3 ksq ksr kst tW tX)) [0, 22, 23, 24, 25, 26, 27, 28, 29, 30, 1, 2, 3, 4, 5, 6, 7, 8, 9, 10, 11, 12, 13, 14, 15, 16, 17, 18, 19, 20, 21] (by decide) rfl
          refine lv_aload_n hx hb dX4_wood_59 rfl (lv_at hl 1 rfl) ?_
          refine va_get (D := (dC, dI)) (ci := 4) (v := .ref aM) (C := RX4) (T := TX4) (N := 4) hx hb hts (in_X4_wood_X4) hown hK hP 0 rfl rfl 1 (by decide) (hts (.fieldLink RX4 27 "PlateModes" "made" "LPlateModes$ModeSet;") (by decide +kernel)) (fun _ h9 => h9) rfl dX4_wood_60 ?_
          have hPc := hP.sub (ws' := [(aM, .inr (1, [.ref aP, .ref aQ, .ref mS, .ref mR, .ref mT, .int (nI im)]))]) [10] rfl
          have hDc := hD.sub (ws' := [(aM, .inr (1, [.ref aP, .ref aQ, .ref mS, .ref mR, .ref mT, .int (nI im)]))]) [10] (by decide) rfl
          have hFc := va_free (wc := [(aM, .inr (1, [.ref aP, .ref aQ, .ref mS, .ref mR, .ref mT, .int (nI im)]))]) hD hS hA [10] rfl
          refine va_callv (va_runV (As := []) (rest := []) ⟨hx, hb, hml, hown, hts⟩ (c1_forget l dC dI aM aP aQ mS mR mT cD cI cQ im _) (cwV 0 hts gX4_wood_X1_forget rfl rfl rfl (by decide +kernel) ⟨Nat.le_of_ble_eq_true rfl, Nat.le_of_ble_eq_true rfl⟩) ⟨zfbw, va_recv hK hPc (ci := 1) (q0 := 0) rfl rfl, zprew hPc hK hDc⟩ rfl rfl hl.1 rfl (lv_room (Nat.le_of_ble_eq_true rfl)) dX4_wood_63 ⟨(Nat.le_of_ble_eq_true rfl), (Nat.le_of_ble_eq_true rfl)⟩) hS (fun q _ h => hFc q h) hFc (fun u18 t9 H1 locs ht9 hvm9 hr17 hB9 hz9 hk1 hS => ?_)
          obtain ⟨hP1, hK1, hD1⟩ := hB9
          rw [ht9] at hP1
          obtain ⟨hP, hD⟩ := va_join (wr := [(aC, .inr (4, [.ref aP, .ref aM, .ref aK, .ref aW])), (aP, .inr (2, [.int (nI iw), .int (nI ih), .ref pT, .ref pR, .ref pN, .ref pB, .double al, .double ac, .double de])), (pT, .inl (cD, (iw * ih), .inr (.inr (.inr (.inl (zu tT (yn * iw + xn) v)))))), (pR, .inl (cD, (iw * ih), .inr (.inr (.inr (.inl tR))))), (pN, .inl (cD, (iw * ih), .inr (.inr (.inr (.inl tN))))), (pB, .inr (0, [.ref bP, .ref bF, .ref bL, .ref bH, .int (nI nb)])), (bP, .inl (cI, 12, .inl uP)), (bF, .inl (cI, 12, .inl uF)), (bL, .inl (cI, 12, .inl uL)), (bH, .inl (cD, 12, .inr (.inr (.inr (.inl uH))))), (aQ, .inl (cQ, 4, .inr (.inr (.inr (.inr (zq4 ro0 ro1 ro2 ro3)))))), (mS, .inl (cD, 4, .inr (.inr (.inr (.inl qS))))), (mR, .inl (cD, 4, .inr (.inr (.inr (.inl qU))))), (mT, .inl (cD, 4, .inr (.inr (.inr (.inl qO))))), (ro0, .inl (cD, (iw * ih), .inr (.inr (.inr (.inl e0))))), (ro1, .inl (cD, (iw * ih), .inr (.inr (.inr (.inl e1))))), (ro2, .inl (cD, (iw * ih), .inr (.inr (.inr (.inl e2))))), (ro3, .inl (cD, (iw * ih), .inr (.inr (.inr (.inl e3))))), (aK, .inr (1, [.ref aP, .ref kQ, .ref kS, .ref kR, .ref kT, .int (nI ik)])), (kQ, .inl (cQ, 4, .inr (.inr (.inr (.inr (zq4 ko0 ko1 ko2 ko3)))))), (kS, .inl (cD, 4, .inr (.inr (.inr (.inl ksq))))), (kR, .inl (cD, 4, .inr (.inr (.inr (.inl ksr))))), (kT, .inl (cD, 4, .inr (.inr (.inr (.inl kst))))), (ko0, .inl (cD, (iw * ih), .inr (.inr (.inr (.inl ke0))))), (ko1, .inl (cD, (iw * ih), .inr (.inr (.inr (.inl ke1))))), (ko2, .inl (cD, (iw * ih), .inr (.inr (.inr (.inl ke2))))), (ko3, .inl (cD, (iw * ih), .inr (.inr (.inr (.inl ke3))))), (aW, .inr (3, [.ref pW, .ref pX, .int (nI iq)])), (pW, .inl (cI, 4, .inl tW)), (pX, .inl (cD, 4, .inr (.inr (.inr (.inl tX)))))]) (w1 := [(aM, .inr (1, [.ref aP, .ref aQ, .ref mS, .ref mR, .ref mT, .int (nI 0)]))]) hP hD [10] [0, 1, 2, 3, 4, 5, 6, 7, 8, 9, 11, 12, 13, 14, 15, 16, 17, 18, 19, 20, 21, 22, 23, 24, 25, 26, 27, 28, 29, 30] rfl rfl (by decide) (by decide) hk1 hFc hP1 hD1
          generalize H1 = H at hP hS ⊢
          have hP : va_P (dC, dI) vwCl (w4 aC aP pT pR pN pB bP bF bL bH aM aQ mS mR mT ro0 ro1 ro2 ro3 aK kQ kS kR kT ko0 ko1 ko2 ko3 aW pW pX cD cI cQ iw ih al ac de nb 0 ik iq (zu tT (yn * iw + xn) v) tR tN uP uF uL uH e0 e1 e2 e3 qS qU qO ke0 ke1 ke2 ke3 ksq ksr kst tW tX) H := hP.sub (ws' := (w4 aC aP pT pR pN pB bP bF bL bH aM aQ mS mR mT ro0 ro1 ro2 ro3 aK kQ kS kR kT ko0 ko1 ko2 ko3 aW pW pX cD cI cQ iw ih al ac de nb 0 ik iq (zu tT (yn * iw + xn) v) tR tN uP uF uL uH e0 e1 e2 e3 qS qU qO ke0 ke1 ke2 ke3 ksq ksr kst tW tX)) [0, 1, 2, 3, 4, 5, 6, 7, 8, 9, 30, 10, 11, 12, 13, 14, 15, 16, 17, 18, 19, 20, 21, 22, 23, 24, 25, 26, 27, 28, 29] rfl
          have hD : va_D A (w4 aC aP pT pR pN pB bP bF bL bH aM aQ mS mR mT ro0 ro1 ro2 ro3 aK kQ kS kR kT ko0 ko1 ko2 ko3 aW pW pX cD cI cQ iw ih al ac de nb 0 ik iq (zu tT (yn * iw + xn) v) tR tN uP uF uL uH e0 e1 e2 e3 qS qU qO ke0 ke1 ke2 ke3 ksq ksr kst tW tX) := hD.sub (ws' := (w4 aC aP pT pR pN pB bP bF bL bH aM aQ mS mR mT ro0 ro1 ro2 ro3 aK kQ kS kR kT ko0 ko1 ko2 ko3 aW pW pX cD cI cQ iw ih al ac de nb 0 ik iq (zu tT (yn * iw + xn) v) tR tN uP uF uL uH e0 e1 e2 e3 qS qU qO ke0 ke1 ke2 ke3 ksq ksr kst tW tX)) [0, 1, 2, 3, 4, 5, 6, 7, 8, 9, 30, 10, 11, 12, 13, 14, 15, 16, 17, 18, 19, 20, 21, 22, 23, 24, 25, 26, 27, 28, 29] (by decide) rfl
          refine lv_iconst (v := (nI 1)) hx hb dX4_wood_66 (by decide) ?_
          refine vx_ret ?_
          refine W.widen (k := 2) (n := 12) (Nat.le_of_ble_eq_true rfl) (Nat.le_of_ble_eq_true rfl) ?_
          exact W.zret (v := (nI 1)) hx hb hr rfl (fun t ht hW => ⟨⟨(nI 1), (zu tT (yn * iw + xn) v, 0), rfl, ⟨hcode, by rw [hk9, heq]; rfl, (fun q => by rw [hk9, heq] at q; cases q), fun _ => ⟨by rw [hk9], rfl⟩⟩, by rw [ht]; exact hP, va_K.moved hW.alike hK, hD⟩, hS.F ht⟩) hS.2.2 dX4_wood_67
        · skip
          have heq := c14
          refine lv_iconst (v := (nI 0)) hx hb dX4_wood_47 (by decide) ?_
          refine vx_ret ?_
          refine W.widen (k := 2) (n := 12) (Nat.le_of_ble_eq_true rfl) (Nat.le_of_ble_eq_true rfl) ?_
          exact W.zret (v := (nI 0)) hx hb hr rfl (fun t ht hW => ⟨⟨(nI 0), (tT, im), rfl, ⟨hcode, by rw [hk9, heq]; rfl, fun _ => ⟨rfl, rfl⟩, fun q => by rw [hk9, heq] at q; cases q⟩, by rw [ht]; exact hP, va_K.moved hW.alike hK, hD⟩, hS.F ht⟩) hS.2.2 dX4_wood_48
theorem in_X4_rates_X4 : ∀ w ∈ wsX40, w ∈ wsX4_rates := fun w h => List.mem_cons_of_mem _ (List.mem_append_left _ (List.mem_append_left _ (List.mem_append_left _ (List.mem_append_right _ h))))
set_option maxHeartbeats 4000000 in
set_option maxRecDepth 100000 in
/-- rates -/
theorem c4_rates (l : Launch) (hst : l.stackTraces = false) (dC : Nat → ClassId) (dI : Nat → Nat → Nat) (aC aP pT pR pN pB bP bF bL bH aM aQ mS mR mT ro0 ro1 ro2 ro3 aK kQ kS kR kT ko0 ko1 ko2 ko3 aW pW pX : Nat) (cD cI cQ : ClassId) (iw ih : Nat) (al ac de : UInt64) (nb im ik iq : Nat) (tT tR tN : Nat → UInt64) (uP uF uL : Nat → Int32) (uH e0 e1 e2 e3 qS qU qO ke0 ke1 ke2 ke3 ksq ksr kst : Nat → UInt64) (tW : Nat → Int32) (tX : Nat → UInt64) (va vb vd : UInt64) (sz : Nat) : vx_Met l yX4_rates wsX4_rates ({ frames := 7, cells := 3, slots := 18, locals := 115 } : Room) (va_Pc [.ref aC, .double va, .double vb, .double vd] (fun U => U.heap.size = sz ∧ va_P (dC, dI) vwCl (w4 aC aP pT pR pN pB bP bF bL bH aM aQ mS mR mT ro0 ro1 ro2 ro3 aK kQ kS kR kT ko0 ko1 ko2 ko3 aW pW pX cD cI cQ iw ih al ac de nb im ik iq tT tR tN uP uF uL uH e0 e1 e2 e3 qS qU qO ke0 ke1 ke2 ke3 ksq ksr kst tW tX) U.heap ∧ va_K (dC, dI) vwCl [(cD, .double), (cI, .int), (cQ, .array .double)] U ∧ zNw U ∧ zXE (va_A (w4 aC aP pT pR pN pB bP bF bL bH aM aQ mS mR mT ro0 ro1 ro2 ro3 aK kQ kS kR kT ko0 ko1 ko2 ko3 aW pW pX cD cI cQ iw ih al ac de nb im ik iq tT tR tN uP uF uL uH e0 e1 e2 e3 qS qU qO ke0 ke1 ke2 ke3 ksq ksr kst tW tX) sz) U U.heap ∧ va_D (fun _ => True) (w4 aC aP pT pR pN pB bP bF bL bH aM aQ mS mR mT ro0 ro1 ro2 ro3 aK kQ kS kR kT ko0 ko1 ko2 ko3 aW pW pX cD cI cQ iw ih al ac de nb im ik iq tT tR tN uP uF uL uH e0 e1 e2 e3 qS qU qO ke0 ke1 ke2 ke3 ksq ksr kst tW tX))) (va_Qv (fun _ : Unit => zcR (zv va) (zv vb) (zv vd) = 0) (fun _ t => (va_P (dC, dI) vwCl (w4 aC aP pT pR pN pB bP bF bL bH aM aQ mS mR mT ro0 ro1 ro2 ro3 aK kQ kS kR kT ko0 ko1 ko2 ko3 aW pW pX cD cI cQ iw ih va vb vd nb 0 ik iq tT tR tN uP uF uL uH e0 e1 e2 e3 qS qU qO ke0 ke1 ke2 ke3 ksq ksr kst tW tX) t.heap ∧ va_K (dC, dI) vwCl [(cD, .double), (cI, .int), (cQ, .array .double)] t ∧ va_D (va_A (w4 aC aP pT pR pN pB bP bF bL bH aM aQ mS mR mT ro0 ro1 ro2 ro3 aK kQ kS kR kT ko0 ko1 ko2 ko3 aW pW pX cD cI cQ iw ih al ac de nb im ik iq tT tR tN uP uF uL uH e0 e1 e2 e3 qS qU qO ke0 ke1 ke2 ke3 ksq ksr kst tW tX) sz) (w4 aC aP pT pR pN pB bP bF bL bH aM aQ mS mR mT ro0 ro1 ro2 ro3 aK kQ kS kR kT ko0 ko1 ko2 ko3 aW pW pX cD cI cQ iw ih va vb vd nb 0 ik iq tT tR tN uP uF uL uH e0 e1 e2 e3 qS qU qO ke0 ke1 ke2 ke3 ksq ksr kst tW tX))) (va_A (w4 aC aP pT pR pN pB bP bF bL bH aM aQ mS mR mT ro0 ro1 ro2 ro3 aK kQ kS kR kT ko0 ko1 ko2 ko3 aW pW pX cD cI cQ iw ih al ac de nb im ik iq tT tR tN uP uF uL uH e0 e1 e2 e3 qS qU qO ke0 ke1 ke2 ke3 ksq ksr kst tW tX) sz)) (vx_X (fun u : Nat => (u = zcR (zv va) (zv vb) (zv vd)) ∧ ¬ u = 0) (fun E u t => E = zE [zIA] u ∧ va_P (dC, dI) vwCl (w4 aC aP pT pR pN pB bP bF bL bH aM aQ mS mR mT ro0 ro1 ro2 ro3 aK kQ kS kR kT ko0 ko1 ko2 ko3 aW pW pX cD cI cQ iw ih al ac de nb im ik iq tT tR tN uP uF uL uH e0 e1 e2 e3 qS qU qO ke0 ke1 ke2 ke3 ksq ksr kst tW tX) t.heap ∧ va_K (dC, dI) vwCl [(cD, .double), (cI, .int), (cQ, .array .double)] t ∧ va_D (va_A (w4 aC aP pT pR pN pB bP bF bL bH aM aQ mS mR mT ro0 ro1 ro2 ro3 aK kQ kS kR kT ko0 ko1 ko2 ko3 aW pW pX cD cI cQ iw ih al ac de nb im ik iq tT tR tN uP uF uL uH e0 e1 e2 e3 qS qU qO ke0 ke1 ke2 ke3 ksq ksr kst tW tX) sz) (w4 aC aP pT pR pN pB bP bF bL bH aM aQ mS mR mT ro0 ro1 ro2 ro3 aK kQ kS kR kT ko0 ko1 ko2 ko3 aW pW pX cD cI cQ iw ih al ac de nb im ik iq tT tR tN uP uF uL uH e0 e1 e2 e3 qS qU qO ke0 ke1 ke2 ke3 ksq ksr kst tW tX)) (va_A (w4 aC aP pT pR pN pB bP bF bL bH aM aQ mS mR mT ro0 ro1 ro2 ro3 aK kQ kS kR kT ko0 ko1 ko2 ko3 aW pW pX cD cI cQ iw ih al ac de nb im ik iq tT tR tN uP uF uL uH e0 e1 e2 e3 qS qU qO ke0 ke1 ke2 ke3 ksq ksr kst tW tX) sz)) 3 18 (va_A (w4 aC aP pT pR pN pB bP bF bL bH aM aQ mS mR mT ro0 ro1 ro2 ro3 aK kQ kS kR kT ko0 ko1 ko2 ko3 aW pW pX cD cI cQ iw ih al ac de nb im ik iq tT tR tN uP uF uL uH e0 e1 e2 e3 qS qU qO ke0 ke1 ke2 ke3 ksq ksr kst tW tX) sz) := by
  refine vx_ofW (cc := cX4_rates) (maxL := 7) (ret := none) (by decide) rfl ?_
  intro p e s m args below meth c s₁ B hml htab hv
  obtain ⟨rfl, hsz, hP, hK, hN, hE, hD0⟩ := hv
  have hx := B.exec
  have hb := B.bytes
  have hr := B.returns
  have hts := atoms_spec (ws := wsX4_rates) B.pre
  have hown : s.vm.findClass RX4 = some m.cls := findClass_of_methodNamed B.named
  have hlocks := B.notSynchronized
  subst hsz
  have hD := hD0.self (sz := s.heap.size)
  generalize hAe : va_A (w4 aC aP pT pR pN pB bP bF bL bH aM aQ mS mR mT ro0 ro1 ro2 ro3 aK kQ kS kR kT ko0 ko1 ko2 ko3 aW pW pX cD cI cQ iw ih al ac de nb im ik iq tT tR tN uP uF uL uH e0 e1 e2 e3 qS qU qO ke0 ke1 ke2 ke3 ksq ksr kst tW tX) s.heap.size = A at hD hE ⊢
  have hA : ∀ q : Nat, s.heap.size ≤ q → A q := fun q h => by rw [← hAe]; exact Or.inr h
  have hS : va_S A s.heap s.heap [] := va_S.rf
  have hl := lv_entry ([.ref aC, .double va, .double vb, .double vd]) (n := 7) (Nat.le_of_ble_eq_true rfl)
  rw [lg_entry_eq]
  generalize (lg_sl ([.ref aC, .double va, .double vb, .double vd]) ++ List.replicate (7 - (lg_sl ([.ref aC, .double va, .double vb, .double vd])).length) Slot.unset).toArray = ls at hl ⊢
  have hl : lv_has ls 7 [(0, .ref aC), (1, .double va), (3, .double vb), (5, .double vd)] := hl
  refine lv_dload_n hx hb dX4_rates_0 rfl (lv_at hl 1 rfl) ?_
  refine lv_ldc2d (v := 4593671619917905920) hx hb hown (hts (.constantDouble RX4 44 (4593671619917905920)) (by decide +kernel)) dX4_rates_1 ?_
  refine lv_ldc2d (v := 4620693217682128896) hx hb hown (hts (.constantDouble RX4 46 (4620693217682128896)) (by decide +kernel)) dX4_rates_4 ?_
  refine vx_callv (vx_runS (As := [.double va, .double 4593671619917905920, .double 4620693217682128896]) (rest := []) ⟨hx, hb, hml, hown, hts⟩ (c4_requireRange l hst va 4593671619917905920 4620693217682128896) (va_cwS 3 hts gX4_rates_X4_requireRange rfl rfl rfl (by decide +kernel) ⟨(Nat.le_of_ble_eq_true rfl), (Nat.le_of_ble_eq_true rfl)⟩) ⟨zfbX0, zpreX0 (by first | exact hE | exact hE.sd) hS⟩ rfl rfl hl.1 rfl (lv_room (Nat.le_of_ble_eq_true rfl)) dX4_rates_7 ⟨(Nat.le_of_ble_eq_true rfl), (Nat.le_of_ble_eq_true rfl)⟩) hS (fun q _ h => h.elim) (fun q h => h.elim) (fun q _ h => h.elim) (fun E9 ce9 q9 u9 t9 H1 locs1 ht9 hvm9 hpx hBX hz9 hk1 hS1 hce hcv hcl => ?_) (fun u9 t9 H1 locs1 ht9 hvm9 hpost hB9 hz9 hk1 hS1 => ?_)
  · skip
    exact vx_out (fun x hx => (htab x hx).elim) hlocks hce hcv hcl (fun t2 ht2 hal2 => ⟨1, ⟨(by unfold zcR; exact (if_neg (by simp [show zbt (zv va) c18 c8 = false from hpx.1.2])).symm), by decide⟩, ⟨(by rw [hBX, hpx.1.1] <;> rfl), by rw [ht2]; exact zro1 hP hk1, va_K.moved hal2 hK, hD⟩, hS1.F ht2⟩) hS1.2.2 (Nat.le_of_ble_eq_true rfl) (Nat.le_of_ble_eq_true rfl)
  · skip
    have hS := hS1
    have hP := zro1 hP hk1
    generalize H1 = H at hP hS ⊢
    have h1 : zbt (zv va) c18 c8 = true := hpost
    refine lv_dload_n hx hb dX4_rates_10 rfl (lv_at hl 2 rfl) ?_
    refine lv_ldc2d (v := 4593671619917905920) hx hb hown (hts (.constantDouble RX4 44 (4593671619917905920)) (by decide +kernel)) dX4_rates_11 ?_
    refine lv_ldc2d (v := 4620693217682128896) hx hb hown (hts (.constantDouble RX4 46 (4620693217682128896)) (by decide +kernel)) dX4_rates_14 ?_
    refine vx_callv (vx_runS (As := [.double vb, .double 4593671619917905920, .double 4620693217682128896]) (rest := []) ⟨hx, hb, hml, hown, hts⟩ (c4_requireRange l hst vb 4593671619917905920 4620693217682128896) (va_cwS 3 hts gX4_rates_X4_requireRange rfl rfl rfl (by decide +kernel) ⟨(Nat.le_of_ble_eq_true rfl), (Nat.le_of_ble_eq_true rfl)⟩) ⟨zfbX0, zpreX0 (by first | exact hE | exact hE.sd) hS⟩ rfl rfl hl.1 rfl (lv_room (Nat.le_of_ble_eq_true rfl)) dX4_rates_17 ⟨(Nat.le_of_ble_eq_true rfl), (Nat.le_of_ble_eq_true rfl)⟩) hS (fun q _ h => h.elim) (fun q h => h.elim) (fun q _ h => h.elim) (fun E9 ce9 q9 u9 t9 H1 locs1 ht9 hvm9 hpx hBX hz9 hk1 hS1 hce hcv hcl => ?_) (fun u9 t9 H1 locs1 ht9 hvm9 hpost hB9 hz9 hk1 hS1 => ?_)
    · skip
      exact vx_out (fun x hx => (htab x hx).elim) hlocks hce hcv hcl (fun t2 ht2 hal2 => ⟨1, ⟨(by unfold zcR; exact (if_neg (by simp [h1, show zbt (zv vb) c18 c8 = false from hpx.1.2])).symm), by decide⟩, ⟨(by rw [hBX, hpx.1.1] <;> rfl), by rw [ht2]; exact zro1 hP hk1, va_K.moved hal2 hK, hD⟩, hS1.F ht2⟩) hS1.2.2 (Nat.le_of_ble_eq_true rfl) (Nat.le_of_ble_eq_true rfl)
    · skip
      have hS := hS1
      have hP := zro1 hP hk1
      generalize H1 = H at hP hS ⊢
      have h2 : zbt (zv vb) c18 c8 = true := hpost
      refine lv_dload hx hb dX4_rates_20 (lv_at hl 3 rfl) ?_
      refine lv_ldc2d (v := 4593671619917905920) hx hb hown (hts (.constantDouble RX4 44 (4593671619917905920)) (by decide +kernel)) dX4_rates_22 ?_
      refine lv_ldc2d (v := 4620693217682128896) hx hb hown (hts (.constantDouble RX4 46 (4620693217682128896)) (by decide +kernel)) dX4_rates_25 ?_
      refine vx_callv (vx_runS (As := [.double vd, .double 4593671619917905920, .double 4620693217682128896]) (rest := []) ⟨hx, hb, hml, hown, hts⟩ (c4_requireRange l hst vd 4593671619917905920 4620693217682128896) (va_cwS 3 hts gX4_rates_X4_requireRange rfl rfl rfl (by decide +kernel) ⟨(Nat.le_of_ble_eq_true rfl), (Nat.le_of_ble_eq_true rfl)⟩) ⟨zfbX0, zpreX0 (by first | exact hE | exact hE.sd) hS⟩ rfl rfl hl.1 rfl (lv_room (Nat.le_of_ble_eq_true rfl)) dX4_rates_28 ⟨(Nat.le_of_ble_eq_true rfl), (Nat.le_of_ble_eq_true rfl)⟩) hS (fun q _ h => h.elim) (fun q h => h.elim) (fun q _ h => h.elim) (fun E9 ce9 q9 u9 t9 H1 locs1 ht9 hvm9 hpx hBX hz9 hk1 hS1 hce hcv hcl => ?_) (fun u9 t9 H1 locs1 ht9 hvm9 hpost hB9 hz9 hk1 hS1 => ?_)
      · skip
        exact vx_out (fun x hx => (htab x hx).elim) hlocks hce hcv hcl (fun t2 ht2 hal2 => ⟨1, ⟨(by unfold zcR; exact (if_neg (by simp [h1, h2, show zbt (zv vd) c18 c8 = false from hpx.1.2])).symm), by decide⟩, ⟨(by rw [hBX, hpx.1.1] <;> rfl), by rw [ht2]; exact zro1 hP hk1, va_K.moved hal2 hK, hD⟩, hS1.F ht2⟩) hS1.2.2 (Nat.le_of_ble_eq_true rfl) (Nat.le_of_ble_eq_true rfl)
      · skip
        have hS := hS1
        have hP := zro1 hP hk1
        generalize H1 = H at hP hS ⊢
        have h3 : zbt (zv vd) c18 c8 = true := hpost
        have hcode : zcR (zv va) (zv vb) (zv vd) = 0 := by unfold zcR; rw [if_pos (by rw [h1, h2, h3]; rfl)]
        refine lv_aload_n hx hb dX4_rates_31 rfl (lv_at hl 0 rfl) ?_
        refine va_get (D := (dC, dI)) (ci := 4) (v := .ref aP) (C := RX4) (T := TX4) (N := 4) hx hb hts (in_X4_rates_X4) hown hK hP 0 rfl rfl 0 (by decide) (hts (.fieldLink RX4 18 "PlateModes" "plate" "LPlateModes$Plate;") (by decide +kernel)) (fun _ h9 => h9) rfl dX4_rates_32 ?_
        refine lv_dload_n hx hb dX4_rates_35 rfl (lv_at hl 1 rfl) ?_
        refine lv_dload_n hx hb dX4_rates_36 rfl (lv_at hl 2 rfl) ?_
        refine lv_dload hx hb dX4_rates_37 (lv_at hl 3 rfl) ?_
        have hPc := hP.sub (ws' := [(aP, .inr (2, [.int (nI iw), .int (nI ih), .ref pT, .ref pR, .ref pN, .ref pB, .double al, .double ac, .double de])), (pT, .inl (cD, (iw * ih), .inr (.inr (.inr (.inl tT))))), (pR, .inl (cD, (iw * ih), .inr (.inr (.inr (.inl tR))))), (pN, .inl (cD, (iw * ih), .inr (.inr (.inr (.inl tN))))), (pB, .inr (0, [.ref bP, .ref bF, .ref bL, .ref bH, .int (nI nb)])), (bP, .inl (cI, 12, .inl uP)), (bF, .inl (cI, 12, .inl uF)), (bL, .inl (cI, 12, .inl uL)), (bH, .inl (cD, 12, .inr (.inr (.inr (.inl uH)))))]) [1, 2, 3, 4, 5, 6, 7, 8, 9] rfl
        have hDc := hD.sub (ws' := [(aP, .inr (2, [.int (nI iw), .int (nI ih), .ref pT, .ref pR, .ref pN, .ref pB, .double al, .double ac, .double de])), (pT, .inl (cD, (iw * ih), .inr (.inr (.inr (.inl tT))))), (pR, .inl (cD, (iw * ih), .inr (.inr (.inr (.inl tR))))), (pN, .inl (cD, (iw * ih), .inr (.inr (.inr (.inl tN))))), (pB, .inr (0, [.ref bP, .ref bF, .ref bL, .ref bH, .int (nI nb)])), (bP, .inl (cI, 12, .inl uP)), (bF, .inl (cI, 12, .inl uF)), (bL, .inl (cI, 12, .inl uL)), (bH, .inl (cD, 12, .inr (.inr (.inr (.inl uH)))))]) [1, 2, 3, 4, 5, 6, 7, 8, 9] (by decide) rfl
        have hFc := va_free (wc := [(aP, .inr (2, [.int (nI iw), .int (nI ih), .ref pT, .ref pR, .ref pN, .ref pB, .double al, .double ac, .double de])), (pT, .inl (cD, (iw * ih), .inr (.inr (.inr (.inl tT))))), (pR, .inl (cD, (iw * ih), .inr (.inr (.inr (.inl tR))))), (pN, .inl (cD, (iw * ih), .inr (.inr (.inr (.inl tN))))), (pB, .inr (0, [.ref bP, .ref bF, .ref bL, .ref bH, .int (nI nb)])), (bP, .inl (cI, 12, .inl uP)), (bF, .inl (cI, 12, .inl uF)), (bL, .inl (cI, 12, .inl uL)), (bH, .inl (cD, 12, .inr (.inr (.inr (.inl uH)))))]) hD hS hA [1, 2, 3, 4, 5, 6, 7, 8, 9] rfl
        refine va_callv (va_runV (As := [.double va, .double vb, .double vd]) (rest := []) ⟨hx, hb, hml, hown, hts⟩ (c2_setRates l dC dI aP pT pR pN pB bP bF bL bH cD cI cQ iw ih al ac de nb tT tR tN uP uF uL uH va vb vd _) (cwV 3 hts gX4_rates_X2_setRates rfl rfl rfl (by decide +kernel) ⟨Nat.le_of_ble_eq_true rfl, Nat.le_of_ble_eq_true rfl⟩) ⟨zfbw, va_recv hK hPc (ci := 2) (q0 := 0) rfl rfl, zprew hPc hK hDc⟩ rfl rfl hl.1 rfl (lv_room (Nat.le_of_ble_eq_true rfl)) dX4_rates_39 ⟨(Nat.le_of_ble_eq_true rfl), (Nat.le_of_ble_eq_true rfl)⟩) hS (fun q _ h => hFc q h) hFc (fun u2 t9 H1 locs ht9 hvm9 hr1 hB9 hz9 hk1 hS => ?_)
        obtain ⟨hP1, hK1, hD1⟩ := hB9
        rw [ht9] at hP1
        obtain ⟨hP, hD⟩ := va_join (wr := [(aC, .inr (4, [.ref aP, .ref aM, .ref aK, .ref aW])), (aM, .inr (1, [.ref aP, .ref aQ, .ref mS, .ref mR, .ref mT, .int (nI im)])), (aQ, .inl (cQ, 4, .inr (.inr (.inr (.inr (zq4 ro0 ro1 ro2 ro3)))))), (mS, .inl (cD, 4, .inr (.inr (.inr (.inl qS))))), (mR, .inl (cD, 4, .inr (.inr (.inr (.inl qU))))), (mT, .inl (cD, 4, .inr (.inr (.inr (.inl qO))))), (ro0, .inl (cD, (iw * ih), .inr (.inr (.inr (.inl e0))))), (ro1, .inl (cD, (iw * ih), .inr (.inr (.inr (.inl e1))))), (ro2, .inl (cD, (iw * ih), .inr (.inr (.inr (.inl e2))))), (ro3, .inl (cD, (iw * ih), .inr (.inr (.inr (.inl e3))))), (aK, .inr (1, [.ref aP, .ref kQ, .ref kS, .ref kR, .ref kT, .int (nI ik)])), (kQ, .inl (cQ, 4, .inr (.inr (.inr (.inr (zq4 ko0 ko1 ko2 ko3)))))), (kS, .inl (cD, 4, .inr (.inr (.inr (.inl ksq))))), (kR, .inl (cD, 4, .inr (.inr (.inr (.inl ksr))))), (kT, .inl (cD, 4, .inr (.inr (.inr (.inl kst))))), (ko0, .inl (cD, (iw * ih), .inr (.inr (.inr (.inl ke0))))), (ko1, .inl (cD, (iw * ih), .inr (.inr (.inr (.inl ke1))))), (ko2, .inl (cD, (iw * ih), .inr (.inr (.inr (.inl ke2))))), (ko3, .inl (cD, (iw * ih), .inr (.inr (.inr (.inl ke3))))), (aW, .inr (3, [.ref pW, .ref pX, .int (nI iq)])), (pW, .inl (cI, 4, .inl tW)), (pX, .inl (cD, 4, .inr (.inr (.inr (.inl tX)))))]) (w1 := [(aP, .inr (2, [.int (nI iw), .int (nI ih), .ref pT, .ref pR, .ref pN, .ref pB, .double va, .double vb, .double vd])), (pT, .inl (cD, (iw * ih), .inr (.inr (.inr (.inl tT))))), (pR, .inl (cD, (iw * ih), .inr (.inr (.inr (.inl tR))))), (pN, .inl (cD, (iw * ih), .inr (.inr (.inr (.inl tN))))), (pB, .inr (0, [.ref bP, .ref bF, .ref bL, .ref bH, .int (nI nb)])), (bP, .inl (cI, 12, .inl uP)), (bF, .inl (cI, 12, .inl uF)), (bL, .inl (cI, 12, .inl uL)), (bH, .inl (cD, 12, .inr (.inr (.inr (.inl uH)))))]) hP hD [1, 2, 3, 4, 5, 6, 7, 8, 9] [0, 10, 11, 12, 13, 14, 15, 16, 17, 18, 19, 20, 21, 22, 23, 24, 25, 26, 27, 28, 29, 30] rfl rfl (by decide) (by decide) hk1 hFc hP1 hD1
        generalize H1 = H at hP hS ⊢
        have hP : va_P (dC, dI) vwCl (w4 aC aP pT pR pN pB bP bF bL bH aM aQ mS mR mT ro0 ro1 ro2 ro3 aK kQ kS kR kT ko0 ko1 ko2 ko3 aW pW pX cD cI cQ iw ih va vb vd nb im ik iq tT tR tN uP uF uL uH e0 e1 e2 e3 qS qU qO ke0 ke1 ke2 ke3 ksq ksr kst tW tX) H := hP.sub (ws' := (w4 aC aP pT pR pN pB bP bF bL bH aM aQ mS mR mT ro0 ro1 ro2 ro3 aK kQ kS kR kT ko0 ko1 ko2 ko3 aW pW pX cD cI cQ iw ih va vb vd nb im ik iq tT tR tN uP uF uL uH e0 e1 e2 e3 qS qU qO ke0 ke1 ke2 ke3 ksq ksr kst tW tX)) [0, 22, 23, 24, 25, 26, 27, 28, 29, 30, 1, 2, 3, 4, 5, 6, 7, 8, 9, 10, 11, 12, 13, 14, 15, 16, 17, 18, 19, 20, 21] rfl
        have hD : va_D A (w4 aC aP pT pR pN pB bP bF bL bH aM aQ mS mR mT ro0 ro1 ro2 ro3 aK kQ kS kR kT ko0 ko1 ko2 ko3 aW pW pX cD cI cQ iw ih va vb vd nb im ik iq tT tR tN uP uF uL uH e0 e1 e2 e3 qS qU qO ke0 ke1 ke2 ke3 ksq ksr kst tW tX) := hD.sub (ws' := (w4 aC aP pT pR pN pB bP bF bL bH aM aQ mS mR mT ro0 ro1 ro2 ro3 aK kQ kS kR kT ko0 ko1 ko2 ko3 aW pW pX cD cI cQ iw ih va vb vd nb im ik iq tT tR tN uP uF uL uH e0 e1 e2 e3 qS qU qO ke0 ke1 ke2 ke3 ksq ksr kst tW tX)) [0, 22, 23, 24, 25, 26, 27, 28, 29, 30, 1, 2, 3, 4, 5, 6, 7, 8, 9, 10, 11, 12, 13, 14, 15, 16, 17, 18, 19, 20, 21] (by decide) rfl
        refine lv_aload_n hx hb dX4_rates_42 rfl (lv_at hl 0 rfl) ?_
        refine va_get (D := (dC, dI)) (ci := 4) (v := .ref aM) (C := RX4) (T := TX4) (N := 4) hx hb hts (in_X4_rates_X4) hown hK hP 0 rfl rfl 1 (by decide) (hts (.fieldLink RX4 27 "PlateModes" "made" "LPlateModes$ModeSet;") (by decide +kernel)) (fun _ h9 => h9) rfl dX4_rates_43 ?_
        have hPc := hP.sub (ws' := [(aM, .inr (1, [.ref aP, .ref aQ, .ref mS, .ref mR, .ref mT, .int (nI im)]))]) [10] rfl
        have hDc := hD.sub (ws' := [(aM, .inr (1, [.ref aP, .ref aQ, .ref mS, .ref mR, .ref mT, .int (nI im)]))]) [10] (by decide) rfl
        have hFc := va_free (wc := [(aM, .inr (1, [.ref aP, .ref aQ, .ref mS, .ref mR, .ref mT, .int (nI im)]))]) hD hS hA [10] rfl
        refine va_callv (va_runV (As := []) (rest := []) ⟨hx, hb, hml, hown, hts⟩ (c1_forget l dC dI aM aP aQ mS mR mT cD cI cQ im _) (cwV 0 hts gX4_rates_X1_forget rfl rfl rfl (by decide +kernel) ⟨Nat.le_of_ble_eq_true rfl, Nat.le_of_ble_eq_true rfl⟩) ⟨zfbw, va_recv hK hPc (ci := 1) (q0 := 0) rfl rfl, zprew hPc hK hDc⟩ rfl rfl hl.1 rfl (lv_room (Nat.le_of_ble_eq_true rfl)) dX4_rates_46 ⟨(Nat.le_of_ble_eq_true rfl), (Nat.le_of_ble_eq_true rfl)⟩) hS (fun q _ h => hFc q h) hFc (fun u4 t9 H1 locs ht9 hvm9 hr3 hB9 hz9 hk1 hS => ?_)
        obtain ⟨hP1, hK1, hD1⟩ := hB9
        rw [ht9] at hP1
        obtain ⟨hP, hD⟩ := va_join (wr := [(aC, .inr (4, [.ref aP, .ref aM, .ref aK, .ref aW])), (aP, .inr (2, [.int (nI iw), .int (nI ih), .ref pT, .ref pR, .ref pN, .ref pB, .double va, .double vb, .double vd])), (pT, .inl (cD, (iw * ih), .inr (.inr (.inr (.inl tT))))), (pR, .inl (cD, (iw * ih), .inr (.inr (.inr (.inl tR))))), (pN, .inl (cD, (iw * ih), .inr (.inr (.inr (.inl tN))))), (pB, .inr (0, [.ref bP, .ref bF, .ref bL, .ref bH, .int (nI nb)])), (bP, .inl (cI, 12, .inl uP)), (bF, .inl (cI, 12, .inl uF)), (bL, .inl (cI, 12, .inl uL)), (bH, .inl (cD, 12, .inr (.inr (.inr (.inl uH))))), (aQ, .inl (cQ, 4, .inr (.inr (.inr (.inr (zq4 ro0 ro1 ro2 ro3)))))), (mS, .inl (cD, 4, .inr (.inr (.inr (.inl qS))))), (mR, .inl (cD, 4, .inr (.inr (.inr (.inl qU))))), (mT, .inl (cD, 4, .inr (.inr (.inr (.inl qO))))), (ro0, .inl (cD, (iw * ih), .inr (.inr (.inr (.inl e0))))), (ro1, .inl (cD, (iw * ih), .inr (.inr (.inr (.inl e1))))), (ro2, .inl (cD, (iw * ih), .inr (.inr (.inr (.inl e2))))), (ro3, .inl (cD, (iw * ih), .inr (.inr (.inr (.inl e3))))), (aK, .inr (1, [.ref aP, .ref kQ, .ref kS, .ref kR, .ref kT, .int (nI ik)])), (kQ, .inl (cQ, 4, .inr (.inr (.inr (.inr (zq4 ko0 ko1 ko2 ko3)))))), (kS, .inl (cD, 4, .inr (.inr (.inr (.inl ksq))))), (kR, .inl (cD, 4, .inr (.inr (.inr (.inl ksr))))), (kT, .inl (cD, 4, .inr (.inr (.inr (.inl kst))))), (ko0, .inl (cD, (iw * ih), .inr (.inr (.inr (.inl ke0))))), (ko1, .inl (cD, (iw * ih), .inr (.inr (.inr (.inl ke1))))), (ko2, .inl (cD, (iw * ih), .inr (.inr (.inr (.inl ke2))))), (ko3, .inl (cD, (iw * ih), .inr (.inr (.inr (.inl ke3))))), (aW, .inr (3, [.ref pW, .ref pX, .int (nI iq)])), (pW, .inl (cI, 4, .inl tW)), (pX, .inl (cD, 4, .inr (.inr (.inr (.inl tX)))))]) (w1 := [(aM, .inr (1, [.ref aP, .ref aQ, .ref mS, .ref mR, .ref mT, .int (nI 0)]))]) hP hD [10] [0, 1, 2, 3, 4, 5, 6, 7, 8, 9, 11, 12, 13, 14, 15, 16, 17, 18, 19, 20, 21, 22, 23, 24, 25, 26, 27, 28, 29, 30] rfl rfl (by decide) (by decide) hk1 hFc hP1 hD1
        generalize H1 = H at hP hS ⊢
        have hP : va_P (dC, dI) vwCl (w4 aC aP pT pR pN pB bP bF bL bH aM aQ mS mR mT ro0 ro1 ro2 ro3 aK kQ kS kR kT ko0 ko1 ko2 ko3 aW pW pX cD cI cQ iw ih va vb vd nb 0 ik iq tT tR tN uP uF uL uH e0 e1 e2 e3 qS qU qO ke0 ke1 ke2 ke3 ksq ksr kst tW tX) H := hP.sub (ws' := (w4 aC aP pT pR pN pB bP bF bL bH aM aQ mS mR mT ro0 ro1 ro2 ro3 aK kQ kS kR kT ko0 ko1 ko2 ko3 aW pW pX cD cI cQ iw ih va vb vd nb 0 ik iq tT tR tN uP uF uL uH e0 e1 e2 e3 qS qU qO ke0 ke1 ke2 ke3 ksq ksr kst tW tX)) [0, 1, 2, 3, 4, 5, 6, 7, 8, 9, 30, 10, 11, 12, 13, 14, 15, 16, 17, 18, 19, 20, 21, 22, 23, 24, 25, 26, 27, 28, 29] rfl
        have hD : va_D A (w4 aC aP pT pR pN pB bP bF bL bH aM aQ mS mR mT ro0 ro1 ro2 ro3 aK kQ kS kR kT ko0 ko1 ko2 ko3 aW pW pX cD cI cQ iw ih va vb vd nb 0 ik iq tT tR tN uP uF uL uH e0 e1 e2 e3 qS qU qO ke0 ke1 ke2 ke3 ksq ksr kst tW tX) := hD.sub (ws' := (w4 aC aP pT pR pN pB bP bF bL bH aM aQ mS mR mT ro0 ro1 ro2 ro3 aK kQ kS kR kT ko0 ko1 ko2 ko3 aW pW pX cD cI cQ iw ih va vb vd nb 0 ik iq tT tR tN uP uF uL uH e0 e1 e2 e3 qS qU qO ke0 ke1 ke2 ke3 ksq ksr kst tW tX)) [0, 1, 2, 3, 4, 5, 6, 7, 8, 9, 30, 10, 11, 12, 13, 14, 15, 16, 17, 18, 19, 20, 21, 22, 23, 24, 25, 26, 27, 28, 29] (by decide) rfl
        refine vx_ret ?_
        refine W.widen (k := 3) (n := 18) (Nat.le_of_ble_eq_true rfl) (Nat.le_of_ble_eq_true rfl) ?_
        exact W.vret hx hb hr (fun t ht hW => ⟨⟨(), rfl, hcode, by rw [ht]; exact hP, va_K.moved hW.alike hK, hD⟩, hS.F ht⟩) hS.2.2 dX4_rates_49
theorem in_X4_want_X4 : ∀ w ∈ wsX40, w ∈ wsX4_want := fun w h => List.mem_cons_of_mem _ (List.mem_append_left _ (List.mem_append_left _ (List.mem_append_left _ (List.mem_append_left _ (List.mem_append_right _ h)))))
theorem at_X4_want_85 : ∀ w ∈ (vx_atS RX4 85 zIS zsups).filter goodWord, w ∈ wsX4_want := fun w h => List.mem_cons_of_mem _ (List.mem_append_left _ (List.mem_append_left _ (List.mem_append_right _ h)))
set_option maxHeartbeats 4000000 in
set_option maxRecDepth 100000 in
/-- want -/
theorem c4_want (l : Launch) (hst : l.stackTraces = false) (dC : Nat → ClassId) (dI : Nat → Nat → Nat) (aC aP pT pR pN pB bP bF bL bH aM aQ mS mR mT ro0 ro1 ro2 ro3 aK kQ kS kR kT ko0 ko1 ko2 ko3 aW pW pX : Nat) (cD cI cQ : ClassId) (iw ih : Nat) (al ac de : UInt64) (nb im ik iq : Nat) (tT tR tN : Nat → UInt64) (uP uF uL : Nat → Int32) (uH e0 e1 e2 e3 qS qU qO ke0 ke1 ke2 ke3 ksq ksr kst : Nat → UInt64) (tW : Nat → Int32) (tX : Nat → UInt64) (hq4 : iq ≤ 4) (k : Int32) (v : UInt64) (sz : Nat) : vx_Met l yX4_want wsX4_want ({ frames := 7, cells := 3, slots := 18, locals := 115 } : Room) (va_Pc [.ref aC, .int k, .double v] (fun U => U.heap.size = sz ∧ va_P (dC, dI) vwCl (w4 aC aP pT pR pN pB bP bF bL bH aM aQ mS mR mT ro0 ro1 ro2 ro3 aK kQ kS kR kT ko0 ko1 ko2 ko3 aW pW pX cD cI cQ iw ih al ac de nb im ik iq tT tR tN uP uF uL uH e0 e1 e2 e3 qS qU qO ke0 ke1 ke2 ke3 ksq ksr kst tW tX) U.heap ∧ va_K (dC, dI) vwCl [(cD, .double), (cI, .int), (cQ, .array .double)] U ∧ zNw U ∧ zXE (va_A (w4 aC aP pT pR pN pB bP bF bL bH aM aQ mS mR mT ro0 ro1 ro2 ro3 aK kQ kS kR kT ko0 ko1 ko2 ko3 aW pW pX cD cI cQ iw ih al ac de nb im ik iq tT tR tN uP uF uL uH e0 e1 e2 e3 qS qU qO ke0 ke1 ke2 ke3 ksq ksr kst tW tX) sz) U U.heap ∧ va_D (fun _ => True) (w4 aC aP pT pR pN pB bP bF bL bH aM aQ mS mR mT ro0 ro1 ro2 ro3 aK kQ kS kR kT ko0 ko1 ko2 ko3 aW pW pX cD cI cQ iw ih al ac de nb im ik iq tT tR tN uP uF uL uH e0 e1 e2 e3 qS qU qO ke0 ke1 ke2 ke3 ksq ksr kst tW tX))) (va_Qi (fun (r : Int32) (_ : Unit) => zcWt iq k (zv v) = 0 ∧ r = nI (iq + 1)) (fun _ t => (va_P (dC, dI) vwCl (w4 aC aP pT pR pN pB bP bF bL bH aM aQ mS mR mT ro0 ro1 ro2 ro3 aK kQ kS kR kT ko0 ko1 ko2 ko3 aW pW pX cD cI cQ iw ih al ac de nb im ik (iq + 1) tT tR tN uP uF uL uH e0 e1 e2 e3 qS qU qO ke0 ke1 ke2 ke3 ksq ksr kst (zu tW iq k) (zu tX iq v)) t.heap ∧ va_K (dC, dI) vwCl [(cD, .double), (cI, .int), (cQ, .array .double)] t ∧ va_D (va_A (w4 aC aP pT pR pN pB bP bF bL bH aM aQ mS mR mT ro0 ro1 ro2 ro3 aK kQ kS kR kT ko0 ko1 ko2 ko3 aW pW pX cD cI cQ iw ih al ac de nb im ik iq tT tR tN uP uF uL uH e0 e1 e2 e3 qS qU qO ke0 ke1 ke2 ke3 ksq ksr kst tW tX) sz) (w4 aC aP pT pR pN pB bP bF bL bH aM aQ mS mR mT ro0 ro1 ro2 ro3 aK kQ kS kR kT ko0 ko1 ko2 ko3 aW pW pX cD cI cQ iw ih al ac de nb im ik (iq + 1) tT tR tN uP uF uL uH e0 e1 e2 e3 qS qU qO ke0 ke1 ke2 ke3 ksq ksr kst (zu tW iq k) (zu tX iq v)))) (va_A (w4 aC aP pT pR pN pB bP bF bL bH aM aQ mS mR mT ro0 ro1 ro2 ro3 aK kQ kS kR kT ko0 ko1 ko2 ko3 aW pW pX cD cI cQ iw ih al ac de nb im ik iq tT tR tN uP uF uL uH e0 e1 e2 e3 qS qU qO ke0 ke1 ke2 ke3 ksq ksr kst tW tX) sz)) (vx_X (fun u : Nat => (u = zcWt iq k (zv v)) ∧ ¬ u = 0) (fun E u t => E = zE [zIO, zIA, zIS] u ∧ va_P (dC, dI) vwCl (w4 aC aP pT pR pN pB bP bF bL bH aM aQ mS mR mT ro0 ro1 ro2 ro3 aK kQ kS kR kT ko0 ko1 ko2 ko3 aW pW pX cD cI cQ iw ih al ac de nb im ik iq tT tR tN uP uF uL uH e0 e1 e2 e3 qS qU qO ke0 ke1 ke2 ke3 ksq ksr kst tW tX) t.heap ∧ va_K (dC, dI) vwCl [(cD, .double), (cI, .int), (cQ, .array .double)] t ∧ va_D (va_A (w4 aC aP pT pR pN pB bP bF bL bH aM aQ mS mR mT ro0 ro1 ro2 ro3 aK kQ kS kR kT ko0 ko1 ko2 ko3 aW pW pX cD cI cQ iw ih al ac de nb im ik iq tT tR tN uP uF uL uH e0 e1 e2 e3 qS qU qO ke0 ke1 ke2 ke3 ksq ksr kst tW tX) sz) (w4 aC aP pT pR pN pB bP bF bL bH aM aQ mS mR mT ro0 ro1 ro2 ro3 aK kQ kS kR kT ko0 ko1 ko2 ko3 aW pW pX cD cI cQ iw ih al ac de nb im ik iq tT tR tN uP uF uL uH e0 e1 e2 e3 qS qU qO ke0 ke1 ke2 ke3 ksq ksr kst tW tX)) (va_A (w4 aC aP pT pR pN pB bP bF bL bH aM aQ mS mR mT ro0 ro1 ro2 ro3 aK kQ kS kR kT ko0 ko1 ko2 ko3 aW pW pX cD cI cQ iw ih al ac de nb im ik iq tT tR tN uP uF uL uH e0 e1 e2 e3 qS qU qO ke0 ke1 ke2 ke3 ksq ksr kst tW tX) sz)) 3 18 (va_A (w4 aC aP pT pR pN pB bP bF bL bH aM aQ mS mR mT ro0 ro1 ro2 ro3 aK kQ kS kR kT ko0 ko1 ko2 ko3 aW pW pX cD cI cQ iw ih al ac de nb im ik iq tT tR tN uP uF uL uH e0 e1 e2 e3 qS qU qO ke0 ke1 ke2 ke3 ksq ksr kst tW tX) sz) := by
  refine vx_ofW (cc := cX4_want) (maxL := 4) (ret := (some .int)) (by decide) rfl ?_
  intro p e s m args below meth c s₁ B hml htab hv
  obtain ⟨rfl, hsz, hP, hK, hN, hE, hD0⟩ := hv
  have hx := B.exec
  have hb := B.bytes
  have hr := B.returns
  have hts := atoms_spec (ws := wsX4_want) B.pre
  have hown : s.vm.findClass RX4 = some m.cls := findClass_of_methodNamed B.named
  have hlocks := B.notSynchronized
  subst hsz
  have hD := hD0.self (sz := s.heap.size)
  generalize hAe : va_A (w4 aC aP pT pR pN pB bP bF bL bH aM aQ mS mR mT ro0 ro1 ro2 ro3 aK kQ kS kR kT ko0 ko1 ko2 ko3 aW pW pX cD cI cQ iw ih al ac de nb im ik iq tT tR tN uP uF uL uH e0 e1 e2 e3 qS qU qO ke0 ke1 ke2 ke3 ksq ksr kst tW tX) s.heap.size = A at hD hE ⊢
  have hA : ∀ q : Nat, s.heap.size ≤ q → A q := fun q h => by rw [← hAe]; exact Or.inr h
  have hS : va_S A s.heap s.heap [] := va_S.rf
  have hl := lv_entry ([.ref aC, .int k, .double v]) (n := 4) (Nat.le_of_ble_eq_true rfl)
  rw [lg_entry_eq]
  generalize (lg_sl ([.ref aC, .int k, .double v]) ++ List.replicate (4 - (lg_sl ([.ref aC, .int k, .double v])).length) Slot.unset).toArray = ls at hl ⊢
  have hl : lv_has ls 4 [(0, .ref aC), (1, .int k), (2, .double v)] := hl
  refine lv_iload_n hx hb dX4_want_0 rfl (lv_at hl 1 rfl) ?_
  refine vx_callv (vx_runS (As := [.int k]) (rest := []) ⟨hx, hb, hml, hown, hts⟩ (c4_requireMode l hst k) (va_cwS 1 hts gX4_want_X4_requireMode rfl rfl rfl (by decide +kernel) ⟨(Nat.le_of_ble_eq_true rfl), (Nat.le_of_ble_eq_true rfl)⟩) ⟨zfbX0, zpreX0 (by first | exact hE | exact hE.sd) hS⟩ rfl rfl hl.1 rfl (lv_room (Nat.le_of_ble_eq_true rfl)) dX4_want_1 ⟨(Nat.le_of_ble_eq_true rfl), (Nat.le_of_ble_eq_true rfl)⟩) hS (fun q _ h => h.elim) (fun q h => h.elim) (fun q _ h => h.elim) (fun E9 ce9 q9 u9 t9 H1 locs1 ht9 hvm9 hpx hBX hz9 hk1 hS1 hce hcv hcl => ?_) (fun u9 t9 H1 locs1 ht9 hvm9 hpost hB9 hz9 hk1 hS1 => ?_)
  · skip
    exact vx_out (fun x hx => (htab x hx).elim) hlocks hce hcv hcl (fun t2 ht2 hal2 => ⟨1, ⟨(if_pos hpx.1.2).symm, by decide⟩, ⟨(by rw [hBX, hpx.1.1] <;> rfl), by rw [ht2]; exact zro1 hP hk1, va_K.moved hal2 hK, hD⟩, hS1.F ht2⟩) hS1.2.2 (Nat.le_of_ble_eq_true rfl) (Nat.le_of_ble_eq_true rfl)
  · skip
    have hS := hS1
    have hP := zro1 hP hk1
    generalize H1 = H at hP hS ⊢
    have hnm := hpost
    refine lv_dload_n hx hb dX4_want_4 rfl (lv_at hl 2 rfl) ?_
    refine lv_dconst0 hx hb dX4_want_5 ?_
    refine lv_ldc2d (v := 4634204016564240384) hx hb hown (hts (.constantDouble RX4 149 (4634204016564240384)) (by decide +kernel)) dX4_want_6 ?_
    refine vx_callv (vx_runS (As := [.double v, .double FP.dconst0, .double 4634204016564240384]) (rest := []) ⟨hx, hb, hml, hown, hts⟩ (c4_requireRange l hst v FP.dconst0 4634204016564240384) (va_cwS 3 hts gX4_want_X4_requireRange rfl rfl rfl (by decide +kernel) ⟨(Nat.le_of_ble_eq_true rfl), (Nat.le_of_ble_eq_true rfl)⟩) ⟨zfbX0, zpreX0 (by first | exact hE | exact hE.sd) hS⟩ rfl rfl hl.1 rfl (lv_room (Nat.le_of_ble_eq_true rfl)) dX4_want_9 ⟨(Nat.le_of_ble_eq_true rfl), (Nat.le_of_ble_eq_true rfl)⟩) hS (fun q _ h => h.elim) (fun q h => h.elim) (fun q _ h => h.elim) (fun E9 ce9 q9 u9 t9 H1 locs1 ht9 hvm9 hpx hBX hz9 hk1 hS1 hce hcv hcl => ?_) (fun u9 t9 H1 locs1 ht9 hvm9 hpost hB9 hz9 hk1 hS1 => ?_)
    · skip
      exact vx_out (fun x hx => (htab x hx).elim) hlocks hce hcv hcl (fun t2 ht2 hal2 => ⟨2, ⟨(by unfold zcWt; rw [if_neg hnm, if_pos (show zbt (zv v) z0 c64 = false from hpx.1.2)]), by decide⟩, ⟨(by rw [hBX, hpx.1.1] <;> rfl), by rw [ht2]; exact zro1 hP hk1, va_K.moved hal2 hK, hD⟩, hS1.F ht2⟩) hS1.2.2 (Nat.le_of_ble_eq_true rfl) (Nat.le_of_ble_eq_true rfl)
    · skip
      have hS := hS1
      have hP := zro1 hP hk1
      generalize H1 = H at hP hS ⊢
      have hbt : zbt (zv v) z0 c64 = true := hpost
      refine lv_aload_n hx hb dX4_want_12 rfl (lv_at hl 0 rfl) ?_
      refine va_get (D := (dC, dI)) (ci := 4) (v := .ref aW) (C := RX4) (T := TX4) (N := 4) hx hb hts (in_X4_want_X4) hown hK hP 0 rfl rfl 3 (by decide) (hts (.fieldLink RX4 37 "PlateModes" "wishes" "LPlateModes$Wishes;") (by decide +kernel)) (fun _ h9 => h9) rfl dX4_want_13 ?_
      have hPc := hP.sub (ws' := [(aW, .inr (3, [.ref pW, .ref pX, .int (nI iq)])), (pW, .inl (cI, 4, .inl tW)), (pX, .inl (cD, 4, .inr (.inr (.inr (.inl tX)))))]) [28, 29, 30] rfl
      refine va_calli (va_runV (As := []) (rest := []) ⟨hx, hb, hml, hown, hts⟩ (c3_full l dC dI aW pW pX cD cI cQ iq tW tX hq4) (cwV 0 hts gX4_want_X3_full rfl rfl rfl (by decide +kernel) ⟨Nat.le_of_ble_eq_true rfl, Nat.le_of_ble_eq_true rfl⟩) ⟨zfb, va_recv hK hP (ci := 3) (q0 := 28) rfl rfl, zpre hPc hK⟩ rfl rfl hl.1 rfl (lv_room (Nat.le_of_ble_eq_true rfl)) dX4_want_16 ⟨Nat.le_of_ble_eq_true rfl, Nat.le_of_ble_eq_true rfl⟩) hS (fun q _ h => h.elim) (fun q h => h.elim) (fun r1 u9 t9 H locs ht9 hvm9 hr1 hB9 hz9 hk1 hS => ?_)
      have hP := zro1 hP hk1
      subst hr1
      refine z_if_eq_b (tgt := 32) hx hb dX4_want_19 (by decide) (fun c2 => ?_) (fun c3 => ?_)
      · skip
        have hq3 : iq < 4 := by have z := of_decide_eq_false c2; omega
        have hcode : zcWt iq k (zv v) = 0 := by unfold zcWt; rw [if_neg hnm, if_neg (by rw [hbt]; decide), if_neg (by omega)]
        refine lv_aload_n hx hb dX4_want_32 rfl (lv_at hl 0 rfl) ?_
        refine va_get (D := (dC, dI)) (ci := 4) (v := .ref aW) (C := RX4) (T := TX4) (N := 4) hx hb hts (in_X4_want_X4) hown hK hP 0 rfl rfl 3 (by decide) (hts (.fieldLink RX4 37 "PlateModes" "wishes" "LPlateModes$Wishes;") (by decide +kernel)) (fun _ h9 => h9) rfl dX4_want_33 ?_
        refine lv_iload_n hx hb dX4_want_36 rfl (lv_at hl 1 rfl) ?_
        refine lv_dload_n hx hb dX4_want_37 rfl (lv_at hl 2 rfl) ?_
        have hPc := hP.sub (ws' := [(aW, .inr (3, [.ref pW, .ref pX, .int (nI iq)])), (pW, .inl (cI, 4, .inl tW)), (pX, .inl (cD, 4, .inr (.inr (.inr (.inl tX)))))]) [28, 29, 30] rfl
        have hDc := hD.sub (ws' := [(aW, .inr (3, [.ref pW, .ref pX, .int (nI iq)])), (pW, .inl (cI, 4, .inl tW)), (pX, .inl (cD, 4, .inr (.inr (.inr (.inl tX)))))]) [28, 29, 30] (by decide) rfl
        have hFc := va_free (wc := [(aW, .inr (3, [.ref pW, .ref pX, .int (nI iq)])), (pW, .inl (cI, 4, .inl tW)), (pX, .inl (cD, 4, .inr (.inr (.inr (.inl tX)))))]) hD hS hA [28, 29, 30] rfl
        refine va_calli (va_runV (As := [.int k, .double v]) (rest := []) ⟨hx, hb, hml, hown, hts⟩ (c3_add l dC dI aW pW pX cD cI cQ iq tW tX k v hq3 _) (cwV 2 hts gX4_want_X3_add rfl rfl rfl (by decide +kernel) ⟨Nat.le_of_ble_eq_true rfl, Nat.le_of_ble_eq_true rfl⟩) ⟨zfbw, va_recv hK hPc (ci := 3) (q0 := 0) rfl rfl, zprew hPc hK hDc⟩ rfl rfl hl.1 rfl (lv_room (Nat.le_of_ble_eq_true rfl)) dX4_want_38 ⟨(Nat.le_of_ble_eq_true rfl), (Nat.le_of_ble_eq_true rfl)⟩) hS (fun q _ h => hFc q h) hFc (fun r4 u5 t9 H1 locs ht9 hvm9 hr4 hB9 hz9 hk1 hS => ?_)
        obtain ⟨hP1, hK1, hD1⟩ := hB9
        rw [ht9] at hP1
        obtain ⟨hP, hD⟩ := va_join (wr := [(aC, .inr (4, [.ref aP, .ref aM, .ref aK, .ref aW])), (aP, .inr (2, [.int (nI iw), .int (nI ih), .ref pT, .ref pR, .ref pN, .ref pB, .double al, .double ac, .double de])), (pT, .inl (cD, (iw * ih), .inr (.inr (.inr (.inl tT))))), (pR, .inl (cD, (iw * ih), .inr (.inr (.inr (.inl tR))))), (pN, .inl (cD, (iw * ih), .inr (.inr (.inr (.inl tN))))), (pB, .inr (0, [.ref bP, .ref bF, .ref bL, .ref bH, .int (nI nb)])), (bP, .inl (cI, 12, .inl uP)), (bF, .inl (cI, 12, .inl uF)), (bL, .inl (cI, 12, .inl uL)), (bH, .inl (cD, 12, .inr (.inr (.inr (.inl uH))))), (aM, .inr (1, [.ref aP, .ref aQ, .ref mS, .ref mR, .ref mT, .int (nI im)])), (aQ, .inl (cQ, 4, .inr (.inr (.inr (.inr (zq4 ro0 ro1 ro2 ro3)))))), (mS, .inl (cD, 4, .inr (.inr (.inr (.inl qS))))), (mR, .inl (cD, 4, .inr (.inr (.inr (.inl qU))))), (mT, .inl (cD, 4, .inr (.inr (.inr (.inl qO))))), (ro0, .inl (cD, (iw * ih), .inr (.inr (.inr (.inl e0))))), (ro1, .inl (cD, (iw * ih), .inr (.inr (.inr (.inl e1))))), (ro2, .inl (cD, (iw * ih), .inr (.inr (.inr (.inl e2))))), (ro3, .inl (cD, (iw * ih), .inr (.inr (.inr (.inl e3))))), (aK, .inr (1, [.ref aP, .ref kQ, .ref kS, .ref kR, .ref kT, .int (nI ik)])), (kQ, .inl (cQ, 4, .inr (.inr (.inr (.inr (zq4 ko0 ko1 ko2 ko3)))))), (kS, .inl (cD, 4, .inr (.inr (.inr (.inl ksq))))), (kR, .inl (cD, 4, .inr (.inr (.inr (.inl ksr))))), (kT, .inl (cD, 4, .inr (.inr (.inr (.inl kst))))), (ko0, .inl (cD, (iw * ih), .inr (.inr (.inr (.inl ke0))))), (ko1, .inl (cD, (iw * ih), .inr (.inr (.inr (.inl ke1))))), (ko2, .inl (cD, (iw * ih), .inr (.inr (.inr (.inl ke2))))), (ko3, .inl (cD, (iw * ih), .inr (.inr (.inr (.inl ke3)))))]) (w1 := [(aW, .inr (3, [.ref pW, .ref pX, .int (nI (iq + 1))])), (pW, .inl (cI, 4, .inl (zu tW iq k))), (pX, .inl (cD, 4, .inr (.inr (.inr (.inl (zu tX iq v))))))]) hP hD [28, 29, 30] [0, 1, 2, 3, 4, 5, 6, 7, 8, 9, 10, 11, 12, 13, 14, 15, 16, 17, 18, 19, 20, 21, 22, 23, 24, 25, 26, 27] rfl rfl (by decide) (by decide) hk1 hFc hP1 hD1
        generalize H1 = H at hP hS ⊢
        have hP : va_P (dC, dI) vwCl (w4 aC aP pT pR pN pB bP bF bL bH aM aQ mS mR mT ro0 ro1 ro2 ro3 aK kQ kS kR kT ko0 ko1 ko2 ko3 aW pW pX cD cI cQ iw ih al ac de nb im ik (iq + 1) tT tR tN uP uF uL uH e0 e1 e2 e3 qS qU qO ke0 ke1 ke2 ke3 ksq ksr kst (zu tW iq k) (zu tX iq v)) H := hP.sub (ws' := (w4 aC aP pT pR pN pB bP bF bL bH aM aQ mS mR mT ro0 ro1 ro2 ro3 aK kQ kS kR kT ko0 ko1 ko2 ko3 aW pW pX cD cI cQ iw ih al ac de nb im ik (iq + 1) tT tR tN uP uF uL uH e0 e1 e2 e3 qS qU qO ke0 ke1 ke2 ke3 ksq ksr kst (zu tW iq k) (zu tX iq v))) [0, 1, 2, 3, 4, 5, 6, 7, 8, 9, 10, 11, 12, 13, 14, 15, 16, 17, 18, 19, 20, 21, 22, 23, 24, 25, 26, 27, 28, 29, 30] rfl
        have hD : va_D A (w4 aC aP pT pR pN pB bP bF bL bH aM aQ mS mR mT ro0 ro1 ro2 ro3 aK kQ kS kR kT ko0 ko1 ko2 ko3 aW pW pX cD cI cQ iw ih al ac de nb im ik (iq + 1) tT tR tN uP uF uL uH e0 e1 e2 e3 qS qU qO ke0 ke1 ke2 ke3 ksq ksr kst (zu tW iq k) (zu tX iq v)) := hD.sub (ws' := (w4 aC aP pT pR pN pB bP bF bL bH aM aQ mS mR mT ro0 ro1 ro2 ro3 aK kQ kS kR kT ko0 ko1 ko2 ko3 aW pW pX cD cI cQ iw ih al ac de nb im ik (iq + 1) tT tR tN uP uF uL uH e0 e1 e2 e3 qS qU qO ke0 ke1 ke2 ke3 ksq ksr kst (zu tW iq k) (zu tX iq v))) [0, 1, 2, 3, 4, 5, 6, 7, 8, 9, 10, 11, 12, 13, 14, 15, 16, 17, 18, 19, 20, 21, 22, 23, 24, 25, 26, 27, 28, 29, 30] (by decide) rfl
        subst hr4
        refine vx_ret ?_
        refine W.widen (k := 3) (n := 18) (Nat.le_of_ble_eq_true rfl) (Nat.le_of_ble_eq_true rfl) ?_
        exact W.iret (v := (nI (iq + 1))) hx hb hr (fun t ht hW => ⟨⟨(nI (iq + 1)), (), rfl, ⟨hcode, rfl⟩, by rw [ht]; exact hP, va_K.moved hW.alike hK, hD⟩, hS.F ht⟩) hS.2.2 dX4_want_41
      · skip
        have hq3 : iq = 4 := by have z := of_decide_eq_true c3; omega
        exact z_throw (A := A) (Ts := wsX4_want) (cls := zIS) (text := "there is no room for another wanted mode") hx hb hst hown hts (by decide) (by decide +kernel) (by decide +kernel) at_X4_want_85 (by decide +kernel) (by decide +kernel) (by decide +kernel) (by decide +kernel) (by first | exact hE | exact hE.sd) hS (hl.1.trans hml.symm) dX4_want_22 dX4_want_25 dX4_want_26 dX4_want_28 dX4_want_31 htab (Nat.le_of_ble_eq_true rfl) (Nat.le_of_ble_eq_true rfl) (Nat.le_of_ble_eq_true rfl) (Nat.le_of_ble_eq_true rfl) hlocks (fun t ht1 ht2 ht3 => ⟨3, ⟨(by unfold zcWt; rw [if_neg hnm, if_neg (by rw [hbt]; decide), if_pos hq3]), by decide⟩, ⟨rfl, zxP hP ht3, va_K.moved ht1 hK, hD⟩, zxF hS ht2 ht3⟩) hS.2.2 (Nat.le_of_ble_eq_true rfl) (Nat.le_of_ble_eq_true rfl)
theorem in_X4_mode_X4 : ∀ w ∈ wsX40, w ∈ wsX4_mode := fun w h => List.mem_cons_of_mem _ (List.mem_append_left _ (List.mem_append_left _ (List.mem_append_left _ (List.mem_append_right _ h))))
theorem at_X4_mode_111 : ∀ w ∈ (vx_atS RX4 111 zIO zsups).filter goodWord, w ∈ wsX4_mode := fun w h => List.mem_cons_of_mem _ (List.mem_append_left _ (List.mem_append_right _ h))
set_option maxHeartbeats 4000000 in
set_option maxRecDepth 100000 in
/-- mode -/
theorem c4_mode (l : Launch) (hst : l.stackTraces = false) (dC : Nat → ClassId) (dI : Nat → Nat → Nat) (aC aP pT pR pN pB bP bF bL bH aM aQ mS mR mT ro0 ro1 ro2 ro3 aK kQ kS kR kT ko0 ko1 ko2 ko3 aW pW pX : Nat) (cD cI cQ : ClassId) (iw ih : Nat) (al ac de : UInt64) (nb im ik iq : Nat) (tT tR tN : Nat → UInt64) (uP uF uL : Nat → Int32) (uH e0 e1 e2 e3 qS qU qO ke0 ke1 ke2 ke3 ksq ksr kst : Nat → UInt64) (tW : Nat → Int32) (tX : Nat → UInt64) (k what : Int32) : vx_Met l yX4_mode wsX4_mode ({ frames := 7, cells := 3, slots := 18, locals := 111 } : Room) (va_Pc [.ref aC, .int k, .int what] (fun U => va_P (dC, dI) vwCl (w4 aC aP pT pR pN pB bP bF bL bH aM aQ mS mR mT ro0 ro1 ro2 ro3 aK kQ kS kR kT ko0 ko1 ko2 ko3 aW pW pX cD cI cQ iw ih al ac de nb im ik iq tT tR tN uP uF uL uH e0 e1 e2 e3 qS qU qO ke0 ke1 ke2 ke3 ksq ksr kst tW tX) U.heap ∧ va_K (dC, dI) vwCl [(cD, .double), (cI, .int), (cQ, .array .double)] U ∧ zNw U ∧ zXE (fun _ => False) U U.heap)) (va_Qd (fun (r : UInt64) (_ : Unit) => zckM (decide (¬ znmd k ∧ ¬ what < 0 ∧ ¬ nI 2 < what)) im k = 0 ∧ r = if what = 0 then qS (zn k) else if what = nI 1 then qU (zn k) else qO (zn k)) (fun _ _ => True) (fun _ => False)) (vx_X (fun u : Nat => (u = zckM (decide (¬ znmd k ∧ ¬ what < 0 ∧ ¬ nI 2 < what)) im k) ∧ ¬ u = 0) (fun E u t => E = zE [zIO, zIS] u) (fun _ => False)) 3 18 (fun _ => False) := by
  refine vx_ofW (cc := cX4_mode) (maxL := 3) (ret := (some .double)) (by decide) rfl ?_
  intro p e s m args below meth c s₁ B hml htab hv
  obtain ⟨rfl, hP0, hK, hN, hE⟩ := hv
  have hx := B.exec
  have hb := B.bytes
  have hr := B.returns
  have hts := atoms_spec (ws := wsX4_mode) B.pre
  have hown : s.vm.findClass RX4 = some m.cls := findClass_of_methodNamed B.named
  have hlocks := B.notSynchronized
  have hS : va_S (fun _ => False) s.heap s.heap [] := va_S.rf
  have hP := hP0
  have hl := lv_entry ([.ref aC, .int k, .int what]) (n := 3) (Nat.le_of_ble_eq_true rfl)
  rw [lg_entry_eq]
  generalize (lg_sl ([.ref aC, .int k, .int what]) ++ List.replicate (3 - (lg_sl ([.ref aC, .int k, .int what])).length) Slot.unset).toArray = ls at hl ⊢
  have hl : lv_has ls 3 [(0, .ref aC), (1, .int k), (2, .int what)] := hl
  refine lv_iload_n hx hb dX4_mode_0 rfl (lv_at hl 1 rfl) ?_
  refine vx_callv (vx_runS (As := [.int k]) (rest := []) ⟨hx, hb, hml, hown, hts⟩ (c4_requireMode l hst k) (va_cwS 1 hts gX4_mode_X4_requireMode rfl rfl rfl (by decide +kernel) ⟨(Nat.le_of_ble_eq_true rfl), (Nat.le_of_ble_eq_true rfl)⟩) ⟨zfbX0, zpreX0 (by first | exact hE | exact hE.sd) hS⟩ rfl rfl hl.1 rfl (lv_room (Nat.le_of_ble_eq_true rfl)) dX4_mode_1 ⟨(Nat.le_of_ble_eq_true rfl), (Nat.le_of_ble_eq_true rfl)⟩) hS (fun q _ h => h.elim) (fun q h => h.elim) (fun q _ h => h.elim) (fun E9 ce9 q9 u9 t9 H1 locs1 ht9 hvm9 hpx hBX hz9 hk1 hS1 hce hcv hcl => ?_) (fun u9 t9 H1 locs1 ht9 hvm9 hpost hB9 hz9 hk1 hS1 => ?_)
  · skip
    exact vx_out (fun x hx => (htab x hx).elim) hlocks hce hcv hcl (fun t2 ht2 hal2 => ⟨1, ⟨(zckM_1 (decide_eq_false (fun q => q.1 hpx.1.2))), by decide⟩, (by rw [hBX, hpx.1.1] <;> rfl), hS1.F ht2⟩) hS1.2.2 (Nat.le_of_ble_eq_true rfl) (Nat.le_of_ble_eq_true rfl)
  · skip
    have hS := hS1
    have hP := zro1 hP hk1
    generalize H1 = H at hP hS ⊢
    have hnm := hpost
    refine lv_iload_n hx hb dX4_mode_4 rfl (lv_at hl 2 rfl) ?_
    refine lv_if_lt (tgt := 13) hx hb dX4_mode_5 (by decide) (fun c1 => ?_) (fun c2 => ?_)
    · skip
      have hbad : ¬ (¬ znmd k ∧ ¬ what < 0 ∧ ¬ nI 2 < what) := fun q => q.2.1 c1
      exact z_throw (A := (fun _ => False)) (Ts := wsX4_mode) (cls := zIO) (text := "a mode tells 0, 1 or 2") hx hb hst hown hts (by decide) (by decide +kernel) (by decide +kernel) at_X4_mode_111 (by decide +kernel) (by decide +kernel) (by decide +kernel) (by decide +kernel) (by first | exact hE | exact hE.sd) hS (hl.1.trans hml.symm) dX4_mode_13 dX4_mode_16 dX4_mode_17 dX4_mode_19 dX4_mode_22 htab (Nat.le_of_ble_eq_true rfl) (Nat.le_of_ble_eq_true rfl) (Nat.le_of_ble_eq_true rfl) (Nat.le_of_ble_eq_true rfl) hlocks (fun t ht1 ht2 ht3 => ⟨1, ⟨(zckM_1 (decide_eq_false hbad)), by decide⟩, rfl, zxF hS ht2 ht3⟩) hS.2.2 (Nat.le_of_ble_eq_true rfl) (Nat.le_of_ble_eq_true rfl)
    · skip
      have hw0 := c2
      refine lv_iload_n hx hb dX4_mode_8 rfl (lv_at hl 2 rfl) ?_
      refine lv_iconst (v := (nI 2)) hx hb dX4_mode_9 (by decide) ?_
      refine lv_icmp_le (tgt := 23) hx hb dX4_mode_10 (by decide) (fun c3 => ?_) (fun c4 => ?_)
      · skip
        have hw2 := Int32.not_lt.mpr c3
        refine lv_aload_n hx hb dX4_mode_23 rfl (lv_at hl 0 rfl) ?_
        refine lv_iload_n hx hb dX4_mode_24 rfl (lv_at hl 1 rfl) ?_
        have hPc := hP.sub (ws' := [(aC, .inr (4, [.ref aP, .ref aM, .ref aK, .ref aW])), (aM, .inr (1, [.ref aP, .ref aQ, .ref mS, .ref mR, .ref mT, .int (nI im)]))]) [0, 10] rfl
        refine vx_callv (vx_runV (As := [.int k]) (rest := []) ⟨hx, hb, hml, hown, hts⟩ (c4_requireMade l hst dC dI aC aK aW aP aM aQ mS mR mT cD cI cQ im k) (cwV 1 hts gX4_mode_X4_requireMade rfl rfl rfl (by decide +kernel) ⟨(Nat.le_of_ble_eq_true rfl), (Nat.le_of_ble_eq_true rfl)⟩) ⟨zfbX, va_recv hK hP (ci := 4) (q0 := 0) rfl rfl, zpreX hPc hK (by first | exact hN | exact hN.sd) (by first | exact hE | exact hE.sd) hS⟩ rfl rfl hl.1 rfl (lv_room (Nat.le_of_ble_eq_true rfl)) dX4_mode_25 ⟨(Nat.le_of_ble_eq_true rfl), (Nat.le_of_ble_eq_true rfl)⟩) hS (fun q _ h => h.elim) (fun q h => h.elim) (fun q _ h => h.elim) (fun E9 ce9 q9 u9 t9 H1 locs1 ht9 hvm9 hpx hBX hz9 hk1 hS1 hce hcv hcl => ?_) (fun u9 t9 H1 locs1 ht9 hvm9 hpost hB9 hz9 hk1 hS1 => ?_)
        · skip
          exact vx_out (fun x hx => (htab x hx).elim) hlocks hce hcv hcl (fun t2 ht2 hal2 => ⟨2, ⟨(zckM_2 (decide_eq_true ⟨hnm, hw0, hw2⟩) hpx.1.2), by decide⟩, (by rw [hBX, hpx.1.1] <;> rfl), hS1.F ht2⟩) hS1.2.2 (Nat.le_of_ble_eq_true rfl) (Nat.le_of_ble_eq_true rfl)
        · skip
          have hS := hS1
          have hP := zro1 hP hk1
          generalize H1 = H at hP hS ⊢
          have hcode : zckM (decide (¬ znmd k ∧ ¬ what < 0 ∧ ¬ nI 2 < what)) im k = 0 := zckM_z (decide_eq_true ⟨hnm, hw0, hw2⟩) hpost
          obtain ⟨kn, hkn, rfl⟩ := zmd_of hnm
          have zkn : zn (nI kn) = kn := zn_nI (by omega)
          refine lv_iload_n hx hb dX4_mode_28 rfl (lv_at hl 2 rfl) ?_
          refine lv_if_ne (tgt := 41) hx hb dX4_mode_29 (by decide) (fun c5 => ?_) (fun c6 => ?_)
          · skip
            have hw := c5
            refine lv_iload_n hx hb dX4_mode_41 rfl (lv_at hl 2 rfl) ?_
            refine lv_iconst (v := (nI 1)) hx hb dX4_mode_42 (by decide) ?_
            refine lv_icmp_ne (tgt := 57) hx hb dX4_mode_43 (by decide) (fun c7 => ?_) (fun c8 => ?_)
            · skip
              have hw1 := c7
              refine lv_aload_n hx hb dX4_mode_57 rfl (lv_at hl 0 rfl) ?_
              refine va_get (D := (dC, dI)) (ci := 4) (v := .ref aM) (C := RX4) (T := TX4) (N := 4) hx hb hts (in_X4_mode_X4) hown hK hP 0 rfl rfl 1 (by decide) (hts (.fieldLink RX4 27 "PlateModes" "made" "LPlateModes$ModeSet;") (by decide +kernel)) (fun _ h9 => h9) rfl dX4_mode_58 ?_
              refine lv_iload_n hx hb dX4_mode_61 rfl (lv_at hl 1 rfl) ?_
              have hPc := hP.sub (ws' := [(aM, .inr (1, [.ref aP, .ref aQ, .ref mS, .ref mR, .ref mT, .int (nI im)])), (mT, .inl (cD, 4, .inr (.inr (.inr (.inl qO)))))]) [10, 14] rfl
              refine va_calld (va_runV (As := [.int (nI kn)]) (rest := []) ⟨hx, hb, hml, hown, hts⟩ (c1_totalOf l dC dI aM aP aQ mS mR mT cD cI cQ im qO kn (by omega)) (cwV 1 hts gX4_mode_X1_totalOf rfl rfl rfl (by decide +kernel) ⟨Nat.le_of_ble_eq_true rfl, Nat.le_of_ble_eq_true rfl⟩) ⟨zfb, va_recv hK hP (ci := 1) (q0 := 10) rfl rfl, zpre hPc hK⟩ rfl rfl hl.1 rfl (lv_room (Nat.le_of_ble_eq_true rfl)) dX4_mode_62 ⟨Nat.le_of_ble_eq_true rfl, Nat.le_of_ble_eq_true rfl⟩) hS (fun q _ h => h.elim) (fun q h => h.elim) (fun r9 u9 t9 H locs ht9 hvm9 hr9 hB9 hz9 hk1 hS => ?_)
              have hP := zro1 hP hk1
              subst hr9
              refine vx_ret ?_
              refine W.widen (k := 3) (n := 18) (Nat.le_of_ble_eq_true rfl) (Nat.le_of_ble_eq_true rfl) ?_
              exact W.dret (v := qO kn) hx hb hr (fun t ht hW => ⟨⟨qO kn, (), rfl, ⟨⟨hcode, by rw [zkn]; rw [if_neg hw, if_neg hw1]⟩, trivial⟩⟩, hS.F ht⟩) hS.2.2 dX4_mode_65
            · skip
              have hw1 := c8
              refine lv_aload_n hx hb dX4_mode_46 rfl (lv_at hl 0 rfl) ?_
              refine va_get (D := (dC, dI)) (ci := 4) (v := .ref aM) (C := RX4) (T := TX4) (N := 4) hx hb hts (in_X4_mode_X4) hown hK hP 0 rfl rfl 1 (by decide) (hts (.fieldLink RX4 27 "PlateModes" "made" "LPlateModes$ModeSet;") (by decide +kernel)) (fun _ h9 => h9) rfl dX4_mode_47 ?_
              refine lv_iload_n hx hb dX4_mode_50 rfl (lv_at hl 1 rfl) ?_
              have hPc := hP.sub (ws' := [(aM, .inr (1, [.ref aP, .ref aQ, .ref mS, .ref mR, .ref mT, .int (nI im)])), (mR, .inl (cD, 4, .inr (.inr (.inr (.inl qU)))))]) [10, 13] rfl
              refine va_calld (va_runV (As := [.int (nI kn)]) (rest := []) ⟨hx, hb, hml, hown, hts⟩ (c1_residueOf l dC dI aM aP aQ mS mR mT cD cI cQ im qU kn (by omega)) (cwV 1 hts gX4_mode_X1_residueOf rfl rfl rfl (by decide +kernel) ⟨Nat.le_of_ble_eq_true rfl, Nat.le_of_ble_eq_true rfl⟩) ⟨zfb, va_recv hK hP (ci := 1) (q0 := 10) rfl rfl, zpre hPc hK⟩ rfl rfl hl.1 rfl (lv_room (Nat.le_of_ble_eq_true rfl)) dX4_mode_51 ⟨Nat.le_of_ble_eq_true rfl, Nat.le_of_ble_eq_true rfl⟩) hS (fun q _ h => h.elim) (fun q h => h.elim) (fun r10 u9 t9 H locs ht9 hvm9 hr10 hB9 hz9 hk1 hS => ?_)
              have hP := zro1 hP hk1
              subst hr10
              refine lv_goto (tgt := 65) hx hb dX4_mode_54 (by decide) ?_
              refine vx_ret ?_
              refine W.widen (k := 3) (n := 18) (Nat.le_of_ble_eq_true rfl) (Nat.le_of_ble_eq_true rfl) ?_
              exact W.dret (v := qU kn) hx hb hr (fun t ht hW => ⟨⟨qU kn, (), rfl, ⟨⟨hcode, by rw [zkn]; rw [if_neg hw, if_pos hw1]⟩, trivial⟩⟩, hS.F ht⟩) hS.2.2 dX4_mode_65
          · skip
            have hw := c6
            refine lv_aload_n hx hb dX4_mode_32 rfl (lv_at hl 0 rfl) ?_
            refine va_get (D := (dC, dI)) (ci := 4) (v := .ref aM) (C := RX4) (T := TX4) (N := 4) hx hb hts (in_X4_mode_X4) hown hK hP 0 rfl rfl 1 (by decide) (hts (.fieldLink RX4 27 "PlateModes" "made" "LPlateModes$ModeSet;") (by decide +kernel)) (fun _ h9 => h9) rfl dX4_mode_33 ?_
            refine lv_iload_n hx hb dX4_mode_36 rfl (lv_at hl 1 rfl) ?_
            have hPc := hP.sub (ws' := [(aM, .inr (1, [.ref aP, .ref aQ, .ref mS, .ref mR, .ref mT, .int (nI im)])), (mS, .inl (cD, 4, .inr (.inr (.inr (.inl qS)))))]) [10, 12] rfl
            refine va_calld (va_runV (As := [.int (nI kn)]) (rest := []) ⟨hx, hb, hml, hown, hts⟩ (c1_squareOf l dC dI aM aP aQ mS mR mT cD cI cQ im qS kn (by omega)) (cwV 1 hts gX4_mode_X1_squareOf rfl rfl rfl (by decide +kernel) ⟨Nat.le_of_ble_eq_true rfl, Nat.le_of_ble_eq_true rfl⟩) ⟨zfb, va_recv hK hP (ci := 1) (q0 := 10) rfl rfl, zpre hPc hK⟩ rfl rfl hl.1 rfl (lv_room (Nat.le_of_ble_eq_true rfl)) dX4_mode_37 ⟨Nat.le_of_ble_eq_true rfl, Nat.le_of_ble_eq_true rfl⟩) hS (fun q _ h => h.elim) (fun q h => h.elim) (fun r11 u9 t9 H locs ht9 hvm9 hr11 hB9 hz9 hk1 hS => ?_)
            have hP := zro1 hP hk1
            subst hr11
            refine vx_ret ?_
            refine W.widen (k := 3) (n := 18) (Nat.le_of_ble_eq_true rfl) (Nat.le_of_ble_eq_true rfl) ?_
            exact W.dret (v := qS kn) hx hb hr (fun t ht hW => ⟨⟨qS kn, (), rfl, ⟨⟨hcode, by rw [zkn]; rw [if_pos hw]⟩, trivial⟩⟩, hS.F ht⟩) hS.2.2 dX4_mode_40
      · skip
        have hbad : ¬ (¬ znmd k ∧ ¬ what < 0 ∧ ¬ nI 2 < what) := fun q => q.2.2 (Int32.not_le.mp c4)
        exact z_throw (A := (fun _ => False)) (Ts := wsX4_mode) (cls := zIO) (text := "a mode tells 0, 1 or 2") hx hb hst hown hts (by decide) (by decide +kernel) (by decide +kernel) at_X4_mode_111 (by decide +kernel) (by decide +kernel) (by decide +kernel) (by decide +kernel) (by first | exact hE | exact hE.sd) hS (hl.1.trans hml.symm) dX4_mode_13 dX4_mode_16 dX4_mode_17 dX4_mode_19 dX4_mode_22 htab (Nat.le_of_ble_eq_true rfl) (Nat.le_of_ble_eq_true rfl) (Nat.le_of_ble_eq_true rfl) (Nat.le_of_ble_eq_true rfl) hlocks (fun t ht1 ht2 ht3 => ⟨1, ⟨(zckM_1 (decide_eq_false hbad)), by decide⟩, rfl, zxF hS ht2 ht3⟩) hS.2.2 (Nat.le_of_ble_eq_true rfl) (Nat.le_of_ble_eq_true rfl)
theorem in_X4_shape_X4 : ∀ w ∈ wsX40, w ∈ wsX4_shape := fun w h => List.mem_cons_of_mem _ (List.mem_append_left _ (List.mem_append_left _ (List.mem_append_left _ (List.mem_append_left _ (List.mem_append_right _ h)))))
set_option maxHeartbeats 4000000 in
set_option maxRecDepth 100000 in
/-- shape -/
theorem c4_shape (l : Launch) (hst : l.stackTraces = false) (dC : Nat → ClassId) (dI : Nat → Nat → Nat) (aC aP pT pR pN pB bP bF bL bH aM aQ mS mR mT ro0 ro1 ro2 ro3 aK kQ kS kR kT ko0 ko1 ko2 ko3 aW pW pX : Nat) (cD cI cQ : ClassId) (iw ih : Nat) (al ac de : UInt64) (nb im ik iq : Nat) (tT tR tN : Nat → UInt64) (uP uF uL : Nat → Int32) (uH e0 e1 e2 e3 qS qU qO ke0 ke1 ke2 ke3 ksq ksr kst : Nat → UInt64) (tW : Nat → Int32) (tX : Nat → UInt64) (hw6 : iw ≤ 6) (hh6 : ih ≤ 6) (k x y : Int32) : vx_Met l yX4_shape wsX4_shape ({ frames := 7, cells := 3, slots := 18, locals := 112 } : Room) (va_Pc [.ref aC, .int k, .int x, .int y] (fun U => va_P (dC, dI) vwCl (w4 aC aP pT pR pN pB bP bF bL bH aM aQ mS mR mT ro0 ro1 ro2 ro3 aK kQ kS kR kT ko0 ko1 ko2 ko3 aW pW pX cD cI cQ iw ih al ac de nb im ik iq tT tR tN uP uF uL uH e0 e1 e2 e3 qS qU qO ke0 ke1 ke2 ke3 ksq ksr kst tW tX) U.heap ∧ va_K (dC, dI) vwCl [(cD, .double), (cI, .int), (cQ, .array .double)] U ∧ zNw U ∧ zXE (fun _ => False) U U.heap)) (va_Qd (fun (r : UInt64) (_ : Unit) => zckM (decide (¬ znmd k ∧ ¬ zncl iw ih x y)) im k = 0 ∧ r = z4 e0 e1 e2 e3 (zn k) (zn y * iw + zn x)) (fun _ _ => True) (fun _ => False)) (vx_X (fun u : Nat => (u = zckM (decide (¬ znmd k ∧ ¬ zncl iw ih x y)) im k) ∧ ¬ u = 0) (fun E u t => E = zE [zIO, zIS] u) (fun _ => False)) 3 18 (fun _ => False) := by
  refine vx_ofW (cc := cX4_shape) (maxL := 4) (ret := (some .double)) (by decide) rfl ?_
  intro p e s m args below meth c s₁ B hml htab hv
  obtain ⟨rfl, hP0, hK, hN, hE⟩ := hv
  have hx := B.exec
  have hb := B.bytes
  have hr := B.returns
  have hts := atoms_spec (ws := wsX4_shape) B.pre
  have hown : s.vm.findClass RX4 = some m.cls := findClass_of_methodNamed B.named
  have hlocks := B.notSynchronized
  have hS : va_S (fun _ => False) s.heap s.heap [] := va_S.rf
  have hP := hP0
  have hl := lv_entry ([.ref aC, .int k, .int x, .int y]) (n := 4) (Nat.le_of_ble_eq_true rfl)
  rw [lg_entry_eq]
  generalize (lg_sl ([.ref aC, .int k, .int x, .int y]) ++ List.replicate (4 - (lg_sl ([.ref aC, .int k, .int x, .int y])).length) Slot.unset).toArray = ls at hl ⊢
  have hl : lv_has ls 4 [(0, .ref aC), (1, .int k), (2, .int x), (3, .int y)] := hl
  have hn36 : iw * ih ≤ 36 := Nat.mul_le_mul hw6 hh6
  refine lv_iload_n hx hb dX4_shape_0 rfl (lv_at hl 1 rfl) ?_
  refine vx_callv (vx_runS (As := [.int k]) (rest := []) ⟨hx, hb, hml, hown, hts⟩ (c4_requireMode l hst k) (va_cwS 1 hts gX4_shape_X4_requireMode rfl rfl rfl (by decide +kernel) ⟨(Nat.le_of_ble_eq_true rfl), (Nat.le_of_ble_eq_true rfl)⟩) ⟨zfbX0, zpreX0 (by first | exact hE | exact hE.sd) hS⟩ rfl rfl hl.1 rfl (lv_room (Nat.le_of_ble_eq_true rfl)) dX4_shape_1 ⟨(Nat.le_of_ble_eq_true rfl), (Nat.le_of_ble_eq_true rfl)⟩) hS (fun q _ h => h.elim) (fun q h => h.elim) (fun q _ h => h.elim) (fun E9 ce9 q9 u9 t9 H1 locs1 ht9 hvm9 hpx hBX hz9 hk1 hS1 hce hcv hcl => ?_) (fun u9 t9 H1 locs1 ht9 hvm9 hpost hB9 hz9 hk1 hS1 => ?_)
  · skip
    exact vx_out (fun x hx => (htab x hx).elim) hlocks hce hcv hcl (fun t2 ht2 hal2 => ⟨1, ⟨(zckM_1 (decide_eq_false (fun q => q.1 hpx.1.2))), by decide⟩, (by rw [hBX, hpx.1.1] <;> rfl), hS1.F ht2⟩) hS1.2.2 (Nat.le_of_ble_eq_true rfl) (Nat.le_of_ble_eq_true rfl)
  · skip
    have hS := hS1
    have hP := zro1 hP hk1
    generalize H1 = H at hP hS ⊢
    have hnm := hpost
    refine lv_aload_n hx hb dX4_shape_4 rfl (lv_at hl 0 rfl) ?_
    refine lv_iload_n hx hb dX4_shape_5 rfl (lv_at hl 2 rfl) ?_
    refine lv_iload_n hx hb dX4_shape_6 rfl (lv_at hl 3 rfl) ?_
    have hPc := hP.sub (ws' := [(aC, .inr (4, [.ref aP, .ref aM, .ref aK, .ref aW])), (aP, .inr (2, [.int (nI iw), .int (nI ih), .ref pT, .ref pR, .ref pN, .ref pB, .double al, .double ac, .double de])), (pT, .inl (cD, (iw * ih), .inr (.inr (.inr (.inl tT))))), (pR, .inl (cD, (iw * ih), .inr (.inr (.inr (.inl tR))))), (pN, .inl (cD, (iw * ih), .inr (.inr (.inr (.inl tN))))), (pB, .inr (0, [.ref bP, .ref bF, .ref bL, .ref bH, .int (nI nb)])), (bP, .inl (cI, 12, .inl uP)), (bF, .inl (cI, 12, .inl uF)), (bL, .inl (cI, 12, .inl uL)), (bH, .inl (cD, 12, .inr (.inr (.inr (.inl uH)))))]) [0, 1, 2, 3, 4, 5, 6, 7, 8, 9] rfl
    refine vx_callv (vx_runV (As := [.int x, .int y]) (rest := []) ⟨hx, hb, hml, hown, hts⟩ (c4_requireCell l hst dC dI aC aM aK aW aP pT pR pN pB bP bF bL bH cD cI cQ iw ih al ac de nb tT tR tN uP uF uL uH x y) (cwV 2 hts gX4_shape_X4_requireCell rfl rfl rfl (by decide +kernel) ⟨(Nat.le_of_ble_eq_true rfl), (Nat.le_of_ble_eq_true rfl)⟩) ⟨zfbX, va_recv hK hP (ci := 4) (q0 := 0) rfl rfl, zpreX hPc hK (by first | exact hN | exact hN.sd) (by first | exact hE | exact hE.sd) hS⟩ rfl rfl hl.1 rfl (lv_room (Nat.le_of_ble_eq_true rfl)) dX4_shape_7 ⟨(Nat.le_of_ble_eq_true rfl), (Nat.le_of_ble_eq_true rfl)⟩) hS (fun q _ h => h.elim) (fun q h => h.elim) (fun q _ h => h.elim) (fun E9 ce9 q9 u9 t9 H1 locs1 ht9 hvm9 hpx hBX hz9 hk1 hS1 hce hcv hcl => ?_) (fun u9 t9 H1 locs1 ht9 hvm9 hpost hB9 hz9 hk1 hS1 => ?_)
    · skip
      exact vx_out (fun x hx => (htab x hx).elim) hlocks hce hcv hcl (fun t2 ht2 hal2 => ⟨1, ⟨(zckM_1 (decide_eq_false (fun q => q.2 hpx.1.2))), by decide⟩, (by rw [hBX, hpx.1.1] <;> rfl), hS1.F ht2⟩) hS1.2.2 (Nat.le_of_ble_eq_true rfl) (Nat.le_of_ble_eq_true rfl)
    · skip
      have hS := hS1
      have hP := zro1 hP hk1
      generalize H1 = H at hP hS ⊢
      have hnc := hpost
      refine lv_aload_n hx hb dX4_shape_10 rfl (lv_at hl 0 rfl) ?_
      refine lv_iload_n hx hb dX4_shape_11 rfl (lv_at hl 1 rfl) ?_
      have hPc := hP.sub (ws' := [(aC, .inr (4, [.ref aP, .ref aM, .ref aK, .ref aW])), (aM, .inr (1, [.ref aP, .ref aQ, .ref mS, .ref mR, .ref mT, .int (nI im)]))]) [0, 10] rfl
      refine vx_callv (vx_runV (As := [.int k]) (rest := []) ⟨hx, hb, hml, hown, hts⟩ (c4_requireMade l hst dC dI aC aK aW aP aM aQ mS mR mT cD cI cQ im k) (cwV 1 hts gX4_shape_X4_requireMade rfl rfl rfl (by decide +kernel) ⟨(Nat.le_of_ble_eq_true rfl), (Nat.le_of_ble_eq_true rfl)⟩) ⟨zfbX, va_recv hK hP (ci := 4) (q0 := 0) rfl rfl, zpreX hPc hK (by first | exact hN | exact hN.sd) (by first | exact hE | exact hE.sd) hS⟩ rfl rfl hl.1 rfl (lv_room (Nat.le_of_ble_eq_true rfl)) dX4_shape_12 ⟨(Nat.le_of_ble_eq_true rfl), (Nat.le_of_ble_eq_true rfl)⟩) hS (fun q _ h => h.elim) (fun q h => h.elim) (fun q _ h => h.elim) (fun E9 ce9 q9 u9 t9 H1 locs1 ht9 hvm9 hpx hBX hz9 hk1 hS1 hce hcv hcl => ?_) (fun u9 t9 H1 locs1 ht9 hvm9 hpost hB9 hz9 hk1 hS1 => ?_)
      · skip
        exact vx_out (fun x hx => (htab x hx).elim) hlocks hce hcv hcl (fun t2 ht2 hal2 => ⟨2, ⟨(zckM_2 (decide_eq_true ⟨hnm, hnc⟩) hpx.1.2), by decide⟩, (by rw [hBX, hpx.1.1] <;> rfl), hS1.F ht2⟩) hS1.2.2 (Nat.le_of_ble_eq_true rfl) (Nat.le_of_ble_eq_true rfl)
      · skip
        have hS := hS1
        have hP := zro1 hP hk1
        generalize H1 = H at hP hS ⊢
        have hcode : zckM (decide (¬ znmd k ∧ ¬ zncl iw ih x y)) im k = 0 := zckM_z (decide_eq_true ⟨hnm, hnc⟩) hpost
        obtain ⟨kn, hkn, rfl⟩ := zmd_of hnm
        have zkn : zn (nI kn) = kn := zn_nI (by omega)
        obtain ⟨xn, yn, hxn, hyn, rfl, rfl⟩ := zcl_of hw6 hh6 hnc
        have zxn : zn (nI xn) = xn := zn_nI (by omega)
        have zyn : zn (nI yn) = yn := zn_nI (by omega)
        have hkb := zrow (x := xn) (y := yn) (w := iw) (h := ih) hxn hyn
        refine lv_aload_n hx hb dX4_shape_15 rfl (lv_at hl 0 rfl) ?_
        refine va_get (D := (dC, dI)) (ci := 4) (v := .ref aM) (C := RX4) (T := TX4) (N := 4) hx hb hts (in_X4_shape_X4) hown hK hP 0 rfl rfl 1 (by decide) (hts (.fieldLink RX4 27 "PlateModes" "made" "LPlateModes$ModeSet;") (by decide +kernel)) (fun _ h9 => h9) rfl dX4_shape_16 ?_
        refine lv_iload_n hx hb dX4_shape_19 rfl (lv_at hl 1 rfl) ?_
        refine lv_aload_n hx hb dX4_shape_20 rfl (lv_at hl 0 rfl) ?_
        refine va_get (D := (dC, dI)) (ci := 4) (v := .ref aP) (C := RX4) (T := TX4) (N := 4) hx hb hts (in_X4_shape_X4) hown hK hP 0 rfl rfl 0 (by decide) (hts (.fieldLink RX4 18 "PlateModes" "plate" "LPlateModes$Plate;") (by decide +kernel)) (fun _ h9 => h9) rfl dX4_shape_21 ?_
        refine lv_iload_n hx hb dX4_shape_24 rfl (lv_at hl 2 rfl) ?_
        refine lv_iload_n hx hb dX4_shape_25 rfl (lv_at hl 3 rfl) ?_
        have hPc := hP.sub (ws' := [(aP, .inr (2, [.int (nI iw), .int (nI ih), .ref pT, .ref pR, .ref pN, .ref pB, .double al, .double ac, .double de])), (pT, .inl (cD, (iw * ih), .inr (.inr (.inr (.inl tT))))), (pR, .inl (cD, (iw * ih), .inr (.inr (.inr (.inl tR))))), (pN, .inl (cD, (iw * ih), .inr (.inr (.inr (.inl tN))))), (pB, .inr (0, [.ref bP, .ref bF, .ref bL, .ref bH, .int (nI nb)])), (bP, .inl (cI, 12, .inl uP)), (bF, .inl (cI, 12, .inl uF)), (bL, .inl (cI, 12, .inl uL)), (bH, .inl (cD, 12, .inr (.inr (.inr (.inl uH)))))]) [1, 2, 3, 4, 5, 6, 7, 8, 9] rfl
        refine va_calli (va_runV (As := [.int (nI xn), .int (nI yn)]) (rest := [.int (nI kn), .ref aM]) ⟨hx, hb, hml, hown, hts⟩ (c2_cellAt l dC dI aP pT pR pN pB bP bF bL bH cD cI cQ iw ih al ac de nb tT tR tN uP uF uL uH xn yn) (cwV 2 hts gX4_shape_X2_cellAt rfl rfl rfl (by decide +kernel) ⟨Nat.le_of_ble_eq_true rfl, Nat.le_of_ble_eq_true rfl⟩) ⟨zfb, va_recv hK hP (ci := 2) (q0 := 1) rfl rfl, zpre hPc hK⟩ rfl rfl hl.1 rfl (lv_room (Nat.le_of_ble_eq_true rfl)) dX4_shape_26 ⟨Nat.le_of_ble_eq_true rfl, Nat.le_of_ble_eq_true rfl⟩) hS (fun q _ h => h.elim) (fun q h => h.elim) (fun r1 u9 t9 H locs ht9 hvm9 hr1 hB9 hz9 hk1 hS => ?_)
        have hP := zro1 hP hk1
        subst hr1
        have hPc := hP.sub (ws' := [(aM, .inr (1, [.ref aP, .ref aQ, .ref mS, .ref mR, .ref mT, .int (nI im)])), (aQ, .inl (cQ, 4, .inr (.inr (.inr (.inr (zq4 ro0 ro1 ro2 ro3)))))), (ro0, .inl (cD, (iw * ih), .inr (.inr (.inr (.inl e0))))), (ro1, .inl (cD, (iw * ih), .inr (.inr (.inr (.inl e1))))), (ro2, .inl (cD, (iw * ih), .inr (.inr (.inr (.inl e2))))), (ro3, .inl (cD, (iw * ih), .inr (.inr (.inr (.inl e3)))))]) [10, 11, 15, 16, 17, 18] rfl
        refine va_calld (va_runV (As := [.int (nI kn), .int (nI (yn * iw + xn))]) (rest := []) ⟨hx, hb, hml, hown, hts⟩ (c1_shapeAt l dC dI aM aP aQ mS mR mT ro0 ro1 ro2 ro3 cD cI cQ iw ih im e0 e1 e2 e3 hw6 hh6 kn (yn * iw + xn) (by omega) hkb) (cwV 2 hts gX4_shape_X1_shapeAt rfl rfl rfl (by decide +kernel) ⟨Nat.le_of_ble_eq_true rfl, Nat.le_of_ble_eq_true rfl⟩) ⟨zfb, va_recv hK hP (ci := 1) (q0 := 10) rfl rfl, zpre hPc hK⟩ rfl rfl hl.1 rfl (lv_room (Nat.le_of_ble_eq_true rfl)) dX4_shape_29 ⟨Nat.le_of_ble_eq_true rfl, Nat.le_of_ble_eq_true rfl⟩) hS (fun q _ h => h.elim) (fun q h => h.elim) (fun r2 u9 t9 H locs ht9 hvm9 hr2 hB9 hz9 hk1 hS => ?_)
        have hP := zro1 hP hk1
        subst hr2
        refine vx_ret ?_
        refine W.widen (k := 3) (n := 18) (Nat.le_of_ble_eq_true rfl) (Nat.le_of_ble_eq_true rfl) ?_
        exact W.dret (v := z4 e0 e1 e2 e3 kn (yn * iw + xn)) hx hb hr (fun t ht hW => ⟨⟨z4 e0 e1 e2 e3 kn (yn * iw + xn), (), rfl, ⟨⟨hcode, by rw [zkn, zxn, zyn]⟩, trivial⟩⟩, hS.F ht⟩) hS.2.2 dX4_shape_32
theorem in_X4_product_X4 : ∀ w ∈ wsX40, w ∈ wsX4_product := fun w h => List.mem_cons_of_mem _ (List.mem_append_left _ (List.mem_append_left _ (List.mem_append_left _ (List.mem_append_left _ (List.mem_append_right _ h)))))
set_option maxHeartbeats 4000000 in
set_option maxRecDepth 100000 in
/-- product -/
theorem c4_product (l : Launch) (hst : l.stackTraces = false) (dC : Nat → ClassId) (dI : Nat → Nat → Nat) (aC aP pT pR pN pB bP bF bL bH aM aQ mS mR mT ro0 ro1 ro2 ro3 aK kQ kS kR kT ko0 ko1 ko2 ko3 aW pW pX : Nat) (cD cI cQ : ClassId) (iw ih : Nat) (al ac de : UInt64) (nb im ik iq : Nat) (tT tR tN : Nat → UInt64) (uP uF uL : Nat → Int32) (uH e0 e1 e2 e3 qS qU qO ke0 ke1 ke2 ke3 ksq ksr kst : Nat → UInt64) (tW : Nat → Int32) (tX : Nat → UInt64) (hw6 : iw ≤ 6) (hh6 : ih ≤ 6) (T RX NX : Nat → ZD) (gT : zcr tT (iw * ih) T) (hq : qCm iw ih im T RX NX (zv de) e0 e1 e2 e3 qS qU qO) (k o : Int32) : zx_MetD lw_cs l yX4_product wsX4_product ({ frames := 7, cells := 4, slots := 24, locals := 111 } : Room) (va_Pc [.ref aC, .int k, .int o] (fun U => va_P (dC, dI) vwCl (w4 aC aP pT pR pN pB bP bF bL bH aM aQ mS mR mT ro0 ro1 ro2 ro3 aK kQ kS kR kT ko0 ko1 ko2 ko3 aW pW pX cD cI cQ iw ih al ac de nb im ik iq tT tR tN uP uF uL uH e0 e1 e2 e3 qS qU qO ke0 ke1 ke2 ke3 ksq ksr kst tW tX) U.heap ∧ va_K (dC, dI) vwCl [(cD, .double), (cI, .int), (cQ, .array .double)] U ∧ zNw U ∧ zXE (fun _ => False) U U.heap)) (va_Qd (fun (r : UInt64) (_ : Unit) => zckM (decide (¬ znmd k ∧ ¬ znmd o)) im (zmx k o) = 0 ∧ zv r = zprod T (zshp iw ih T RX NX (zv de) (zn k)) (zshp iw ih T RX NX (zv de) (zn o)) (zv de) (iw * ih)) (fun _ _ => True) (fun _ => False)) (vx_X (fun u : Nat => (u = zckM (decide (¬ znmd k ∧ ¬ znmd o)) im (zmx k o)) ∧ ¬ u = 0) (fun E u t => E = zE [zIO, zIS] u) (fun _ => False)) 4 24 (fun _ => False) := by
  refine zx_ofWD (cc := cX4_product) (maxL := 3) (ret := (some .double)) (by decide) rfl ?_
  intro p e s m args below meth c s₁ B hml htab hv hd0
  obtain ⟨rfl, hP0, hK, hN, hE⟩ := hv
  have hx := B.exec
  have hb := B.bytes
  have hr := B.returns
  have hts := atoms_spec (ws := wsX4_product) B.pre
  have hown : s.vm.findClass RX4 = some m.cls := findClass_of_methodNamed B.named
  have hlocks := B.notSynchronized
  have hS : va_S (fun _ => False) s.heap s.heap [] := va_S.rf
  have hP := hP0
  have hl := lv_entry ([.ref aC, .int k, .int o]) (n := 3) (Nat.le_of_ble_eq_true rfl)
  rw [lg_entry_eq]
  generalize (lg_sl ([.ref aC, .int k, .int o]) ++ List.replicate (3 - (lg_sl ([.ref aC, .int k, .int o])).length) Slot.unset).toArray = ls at hl ⊢
  have hl : lv_has ls 3 [(0, .ref aC), (1, .int k), (2, .int o)] := hl
  have hn36 : iw * ih ≤ 36 := Nat.mul_le_mul hw6 hh6
  refine lv_iload_n hx hb dX4_product_0 rfl (lv_at hl 1 rfl) ?_
  refine vx_callv (vx_runS (As := [.int k]) (rest := []) ⟨hx, hb, hml, hown, (dr_words hts s.drawn)⟩ (c4_requireMode l hst k) (va_cwS 1 (dr_words hts s.drawn) gX4_product_X4_requireMode rfl rfl rfl (by decide +kernel) ⟨(Nat.le_of_ble_eq_true rfl), (Nat.le_of_ble_eq_true rfl)⟩) ⟨zfbX0, zpreX0 (by first | exact hE | exact hE.sd) hS⟩ rfl rfl hl.1 rfl (lv_room (Nat.le_of_ble_eq_true rfl)) dX4_product_1 ⟨(Nat.le_of_ble_eq_true rfl), (Nat.le_of_ble_eq_true rfl)⟩) hS (fun q _ h => h.elim) (fun q h => h.elim) (fun q _ h => h.elim) (fun E9 ce9 q9 u9 t9 H1 locs1 ht9 hvm9 hpx hBX hz9 hk1 hS1 hce hcv hcl => ?_) (fun u9 t9 H1 locs1 ht9 hvm9 hpost hB9 hz9 hk1 hS1 => ?_)
  · skip
    refine zx_endX hd0 ?_
    exact vx_out (fun x hx => (htab x hx).elim) hlocks hce hcv hcl (fun t2 ht2 hal2 => ⟨1, ⟨(zckM_1 (decide_eq_false (fun q => q.1 hpx.1.2))), by decide⟩, (by rw [hBX, hpx.1.1] <;> rfl), hS1.F ht2⟩) hS1.2.2 (Nat.le_of_ble_eq_true rfl) (Nat.le_of_ble_eq_true rfl)
  · skip
    have hS := hS1
    have hP := zro1 hP hk1
    generalize H1 = H at hP hS ⊢
    have hnm := hpost
    refine lv_iload_n hx hb dX4_product_4 rfl (lv_at hl 2 rfl) ?_
    refine vx_callv (vx_runS (As := [.int o]) (rest := []) ⟨hx, hb, hml, hown, (dr_words hts s.drawn)⟩ (c4_requireMode l hst o) (va_cwS 1 (dr_words hts s.drawn) gX4_product_X4_requireMode rfl rfl rfl (by decide +kernel) ⟨(Nat.le_of_ble_eq_true rfl), (Nat.le_of_ble_eq_true rfl)⟩) ⟨zfbX0, zpreX0 (by first | exact hE | exact hE.sd) hS⟩ rfl rfl hl.1 rfl (lv_room (Nat.le_of_ble_eq_true rfl)) dX4_product_5 ⟨(Nat.le_of_ble_eq_true rfl), (Nat.le_of_ble_eq_true rfl)⟩) hS (fun q _ h => h.elim) (fun q h => h.elim) (fun q _ h => h.elim) (fun E9 ce9 q9 u9 t9 H1 locs1 ht9 hvm9 hpx hBX hz9 hk1 hS1 hce hcv hcl => ?_) (fun u9 t9 H1 locs1 ht9 hvm9 hpost hB9 hz9 hk1 hS1 => ?_)
    · skip
      refine zx_endX hd0 ?_
      exact vx_out (fun x hx => (htab x hx).elim) hlocks hce hcv hcl (fun t2 ht2 hal2 => ⟨1, ⟨(zckM_1 (decide_eq_false (fun q => q.2 hpx.1.2))), by decide⟩, (by rw [hBX, hpx.1.1] <;> rfl), hS1.F ht2⟩) hS1.2.2 (Nat.le_of_ble_eq_true rfl) (Nat.le_of_ble_eq_true rfl)
    · skip
      have hS := hS1
      have hP := zro1 hP hk1
      generalize H1 = H at hP hS ⊢
      have hno := hpost
      refine lv_aload_n hx hb dX4_product_8 rfl (lv_at hl 0 rfl) ?_
      refine lv_iload_n hx hb dX4_product_9 rfl (lv_at hl 1 rfl) ?_
      have hPc := hP.sub (ws' := [(aC, .inr (4, [.ref aP, .ref aM, .ref aK, .ref aW])), (aM, .inr (1, [.ref aP, .ref aQ, .ref mS, .ref mR, .ref mT, .int (nI im)]))]) [0, 10] rfl
      refine vx_callv (vx_runV (As := [.int k]) (rest := []) ⟨hx, hb, hml, hown, (dr_words hts s.drawn)⟩ (c4_requireMade l hst dC dI aC aK aW aP aM aQ mS mR mT cD cI cQ im k) (cwV 1 (dr_words hts s.drawn) gX4_product_X4_requireMade rfl rfl rfl (by decide +kernel) ⟨(Nat.le_of_ble_eq_true rfl), (Nat.le_of_ble_eq_true rfl)⟩) ⟨zfbX, va_recv hK hP (ci := 4) (q0 := 0) rfl rfl, zpreX hPc hK (by first | exact hN | exact hN.sd) (by first | exact hE | exact hE.sd) hS⟩ rfl rfl hl.1 rfl (lv_room (Nat.le_of_ble_eq_true rfl)) dX4_product_10 ⟨(Nat.le_of_ble_eq_true rfl), (Nat.le_of_ble_eq_true rfl)⟩) hS (fun q _ h => h.elim) (fun q h => h.elim) (fun q _ h => h.elim) (fun E9 ce9 q9 u9 t9 H1 locs1 ht9 hvm9 hpx hBX hz9 hk1 hS1 hce hcv hcl => ?_) (fun u9 t9 H1 locs1 ht9 hvm9 hpost hB9 hz9 hk1 hS1 => ?_)
      · skip
        refine zx_endX hd0 ?_
        exact vx_out (fun x hx => (htab x hx).elim) hlocks hce hcv hcl (fun t2 ht2 hal2 => ⟨2, ⟨(zckM_2 (decide_eq_true ⟨hnm, hno⟩) (zmx_k hpx.1.2)), by decide⟩, (by rw [hBX, hpx.1.1] <;> rfl), hS1.F ht2⟩) hS1.2.2 (Nat.le_of_ble_eq_true rfl) (Nat.le_of_ble_eq_true rfl)
      · skip
        have hS := hS1
        have hP := zro1 hP hk1
        generalize H1 = H at hP hS ⊢
        have hk1m := hpost
        refine lv_aload_n hx hb dX4_product_13 rfl (lv_at hl 0 rfl) ?_
        refine lv_iload_n hx hb dX4_product_14 rfl (lv_at hl 2 rfl) ?_
        have hPc := hP.sub (ws' := [(aC, .inr (4, [.ref aP, .ref aM, .ref aK, .ref aW])), (aM, .inr (1, [.ref aP, .ref aQ, .ref mS, .ref mR, .ref mT, .int (nI im)]))]) [0, 10] rfl
        refine vx_callv (vx_runV (As := [.int o]) (rest := []) ⟨hx, hb, hml, hown, (dr_words hts s.drawn)⟩ (c4_requireMade l hst dC dI aC aK aW aP aM aQ mS mR mT cD cI cQ im o) (cwV 1 (dr_words hts s.drawn) gX4_product_X4_requireMade rfl rfl rfl (by decide +kernel) ⟨(Nat.le_of_ble_eq_true rfl), (Nat.le_of_ble_eq_true rfl)⟩) ⟨zfbX, va_recv hK hP (ci := 4) (q0 := 0) rfl rfl, zpreX hPc hK (by first | exact hN | exact hN.sd) (by first | exact hE | exact hE.sd) hS⟩ rfl rfl hl.1 rfl (lv_room (Nat.le_of_ble_eq_true rfl)) dX4_product_15 ⟨(Nat.le_of_ble_eq_true rfl), (Nat.le_of_ble_eq_true rfl)⟩) hS (fun q _ h => h.elim) (fun q h => h.elim) (fun q _ h => h.elim) (fun E9 ce9 q9 u9 t9 H1 locs1 ht9 hvm9 hpx hBX hz9 hk1 hS1 hce hcv hcl => ?_) (fun u9 t9 H1 locs1 ht9 hvm9 hpost hB9 hz9 hk1 hS1 => ?_)
        · skip
          refine zx_endX hd0 ?_
          exact vx_out (fun x hx => (htab x hx).elim) hlocks hce hcv hcl (fun t2 ht2 hal2 => ⟨2, ⟨(zckM_2 (decide_eq_true ⟨hnm, hno⟩) (zmx_o hpx.1.2)), by decide⟩, (by rw [hBX, hpx.1.1] <;> rfl), hS1.F ht2⟩) hS1.2.2 (Nat.le_of_ble_eq_true rfl) (Nat.le_of_ble_eq_true rfl)
        · skip
          have hS := hS1
          have hP := zro1 hP hk1
          generalize H1 = H at hP hS ⊢
          have hcode : zckM (decide (¬ znmd k ∧ ¬ znmd o)) im (zmx k o) = 0 := zckM_z (decide_eq_true ⟨hnm, hno⟩) (zmx_ok hk1m hpost)
          have hk2m := hpost
          obtain ⟨kn, hkn, rfl⟩ := zmd_of hnm
          have zkn : zn (nI kn) = kn := zn_nI (by omega)
          obtain ⟨on, hon, rfl⟩ := zmd_of hno
          have zon : zn (nI on) = on := zn_nI (by omega)
          have hki : kn < im := (nI_ltI (by omega) (by have := hq.1; omega)).mp hk1m
          have hoi : on < im := (nI_ltI (by omega) (by have := hq.1; omega)).mp hk2m
          refine lv_aload_n hx hb dX4_product_18 rfl (lv_at hl 0 rfl) ?_
          refine va_get (D := (dC, dI)) (ci := 4) (v := .ref aM) (C := RX4) (T := TX4) (N := 4) hx hb (dr_words hts s.drawn) (in_X4_product_X4) hown hK hP 0 rfl rfl 1 (by decide) (dr_words hts s.drawn (.fieldLink RX4 27 "PlateModes" "made" "LPlateModes$ModeSet;") (by decide +kernel)) (fun _ h9 => h9) rfl dX4_product_19 ?_
          refine lv_iload_n hx hb dX4_product_22 rfl (lv_at hl 1 rfl) ?_
          refine lv_iload_n hx hb dX4_product_23 rfl (lv_at hl 2 rfl) ?_
          have hPc := hP.sub (ws' := [(aP, .inr (2, [.int (nI iw), .int (nI ih), .ref pT, .ref pR, .ref pN, .ref pB, .double al, .double ac, .double de])), (pT, .inl (cD, (iw * ih), .inr (.inr (.inr (.inl tT))))), (pR, .inl (cD, (iw * ih), .inr (.inr (.inr (.inl tR))))), (pN, .inl (cD, (iw * ih), .inr (.inr (.inr (.inl tN))))), (pB, .inr (0, [.ref bP, .ref bF, .ref bL, .ref bH, .int (nI nb)])), (bP, .inl (cI, 12, .inl uP)), (bF, .inl (cI, 12, .inl uF)), (bL, .inl (cI, 12, .inl uL)), (bH, .inl (cD, 12, .inr (.inr (.inr (.inl uH))))), (aM, .inr (1, [.ref aP, .ref aQ, .ref mS, .ref mR, .ref mT, .int (nI im)])), (aQ, .inl (cQ, 4, .inr (.inr (.inr (.inr (zq4 ro0 ro1 ro2 ro3)))))), (ro0, .inl (cD, (iw * ih), .inr (.inr (.inr (.inl e0))))), (ro1, .inl (cD, (iw * ih), .inr (.inr (.inr (.inl e1))))), (ro2, .inl (cD, (iw * ih), .inr (.inr (.inr (.inl e2))))), (ro3, .inl (cD, (iw * ih), .inr (.inr (.inr (.inl e3)))))]) [1, 2, 3, 4, 5, 6, 7, 8, 9, 10, 11, 15, 16, 17, 18] rfl
          refine va_calldD hd0 (va_runV_D (As := [.int (nI kn), .int (nI on)]) (rest := []) ⟨hx, hb, hml, hown, (dr_words hts s.drawn)⟩ (c1_productOf l dC dI aM aQ mS mR mT ro0 ro1 ro2 ro3 aP pT pR pN pB bP bF bL bH cD cI cQ iw ih al ac de nb im e0 e1 e2 e3 qS qU qO tT tR tN uP uF uL uH hw6 hh6 T gT kn on (by omega) (by omega) (zshp iw ih T RX NX (zv de) kn) (zshp iw ih T RX NX (zv de) on) (hq.2 kn hki).1 (hq.2 on hoi).1) (cwV 2 (dr_words hts s.drawn) gX4_product_X1_productOf rfl rfl rfl (by decide +kernel) ⟨Nat.le_of_ble_eq_true rfl, Nat.le_of_ble_eq_true rfl⟩) ⟨zfb, va_recv hK hP (ci := 1) (q0 := 10) rfl rfl, zpre hPc hK⟩ rfl rfl hl.1 rfl (lv_room (Nat.le_of_ble_eq_true rfl)) dX4_product_24 ⟨Nat.le_of_ble_eq_true rfl, Nat.le_of_ble_eq_true rfl⟩) hS (fun q _ h => h.elim) (fun q h => h.elim) (fun r1 u9 t9 H locs ht9 hvm9 hr1 hB9 hz9 hk1 hS dhd2 hd2 => ?_)
          have hP := zro1 hP hk1
          refine zx_endD hd2 ?_
          refine vx_ret ?_
          refine W.widen (k := 4) (n := 24) (Nat.le_of_ble_eq_true rfl) (Nat.le_of_ble_eq_true rfl) ?_
          exact W.dret (v := r1) hx hb hr (fun t ht hW => ⟨⟨r1, (), rfl, ⟨⟨hcode, by rw [zkn, zon]; exact hr1⟩, trivial⟩⟩, hS.F ht⟩) hS.2.2 dX4_product_27
theorem in_X4_sum_X4 : ∀ w ∈ wsX40, w ∈ wsX4_sum := fun w h => List.mem_cons_of_mem _ (List.mem_append_left _ (List.mem_append_left _ (List.mem_append_left _ (List.mem_append_right _ h))))
theorem at_X4_sum_85 : ∀ w ∈ (vx_atS RX4 85 zIS zsups).filter goodWord, w ∈ wsX4_sum := fun w h => List.mem_cons_of_mem _ (List.mem_append_right _ h)
set_option maxHeartbeats 4000000 in
set_option maxRecDepth 100000 in
/-- sum -/
theorem c4_sum (l : Launch) (hst : l.stackTraces = false) (dC : Nat → ClassId) (dI : Nat → Nat → Nat) (aC aP pT pR pN pB bP bF bL bH aM aQ mS mR mT ro0 ro1 ro2 ro3 aK kQ kS kR kT ko0 ko1 ko2 ko3 aW pW pX : Nat) (cD cI cQ : ClassId) (iw ih : Nat) (al ac de : UInt64) (nb im ik iq : Nat) (tT tR tN : Nat → UInt64) (uP uF uL : Nat → Int32) (uH e0 e1 e2 e3 qS qU qO ke0 ke1 ke2 ke3 ksq ksr kst : Nat → UInt64) (tW : Nat → Int32) (tX : Nat → UInt64) (hw6 : iw ≤ 6) (hh6 : ih ≤ 6) (T RX NX : Nat → ZD) (gT : zcr tT (iw * ih) T) (hq : qCm iw ih im T RX NX (zv de) e0 e1 e2 e3 qS qU qO) (wn : Nat → Nat) (hq4 : iq ≤ 4) (gW : ∀ i, i < iq → tW i = nI (wn i)) (gw4 : ∀ i, i < iq → wn i < 4) (ws : Nat → ZD) (gX : ∀ i, i < iq → zv (tX i) = ws i) : zx_MetD lw_cs l yX4_sum wsX4_sum ({ frames := 6, cells := 1, slots := 6, locals := 90 } : Room) (va_Pc [.ref aC] (fun U => va_P (dC, dI) vwCl (w4 aC aP pT pR pN pB bP bF bL bH aM aQ mS mR mT ro0 ro1 ro2 ro3 aK kQ kS kR kT ko0 ko1 ko2 ko3 aW pW pX cD cI cQ iw ih al ac de nb im ik iq tT tR tN uP uF uL uH e0 e1 e2 e3 qS qU qO ke0 ke1 ke2 ke3 ksq ksr kst tW tX) U.heap ∧ va_K (dC, dI) vwCl [(cD, .double), (cI, .int), (cQ, .array .double)] U ∧ zNw U ∧ zXE (fun _ => False) U U.heap)) (va_Qd (fun (r : UInt64) (_ : Unit) => zcS iq im (zneed wn iq) = 0 ∧ zv r = ztot (fun i => zN (zsq iw ih T RX NX (zshp iw ih T RX NX (zv de) (wn i)) (iw * ih))) ws iq) (fun _ _ => True) (fun _ => False)) (vx_X (fun u : Nat => (u = zcS iq im (zneed wn iq)) ∧ ¬ u = 0) (fun E u t => E = zE [zIS] u) (fun _ => False)) 1 6 (fun _ => False) := by
  refine zx_ofWD (cc := cX4_sum) (maxL := 2) (ret := (some .double)) (by decide) rfl ?_
  intro p e s m args below meth c s₁ B hml htab hv hd0
  obtain ⟨rfl, hP0, hK, hN, hE⟩ := hv
  have hx := B.exec
  have hb := B.bytes
  have hr := B.returns
  have hts := atoms_spec (ws := wsX4_sum) B.pre
  have hown : s.vm.findClass RX4 = some m.cls := findClass_of_methodNamed B.named
  have hlocks := B.notSynchronized
  have hS : va_S (fun _ => False) s.heap s.heap [] := va_S.rf
  have hP := hP0
  have hl := lv_entry ([.ref aC]) (n := 2) (Nat.le_of_ble_eq_true rfl)
  rw [lg_entry_eq]
  generalize (lg_sl ([.ref aC]) ++ List.replicate (2 - (lg_sl ([.ref aC])).length) Slot.unset).toArray = ls at hl ⊢
  have hl : lv_has ls 2 [(0, .ref aC)] := hl
  have hn36 : iw * ih ≤ 36 := Nat.mul_le_mul hw6 hh6
  have him := hq.1
  refine lv_aload_n hx hb dX4_sum_0 rfl (lv_at hl 0 rfl) ?_
  refine va_get (D := (dC, dI)) (ci := 4) (v := .ref aW) (C := RX4) (T := TX4) (N := 4) hx hb (dr_words hts s.drawn) (in_X4_sum_X4) hown hK hP 0 rfl rfl 3 (by decide) (dr_words hts s.drawn (.fieldLink RX4 37 "PlateModes" "wishes" "LPlateModes$Wishes;") (by decide +kernel)) (fun _ h9 => h9) rfl dX4_sum_1 ?_
  have hPc := hP.sub (ws' := [(aW, .inr (3, [.ref pW, .ref pX, .int (nI iq)])), (pW, .inl (cI, 4, .inl tW)), (pX, .inl (cD, 4, .inr (.inr (.inr (.inl tX)))))]) [28, 29, 30] rfl
  refine va_calli (va_runV (As := []) (rest := []) ⟨hx, hb, hml, hown, (dr_words hts s.drawn)⟩ (c3_modesNeeded l dC dI aW pW pX cD cI cQ iq tW tX wn hq4 gW gw4) (cwV 0 (dr_words hts s.drawn) gX4_sum_X3_modesNeeded rfl rfl rfl (by decide +kernel) ⟨Nat.le_of_ble_eq_true rfl, Nat.le_of_ble_eq_true rfl⟩) ⟨zfb, va_recv hK hP (ci := 3) (q0 := 28) rfl rfl, zpre hPc hK⟩ rfl rfl hl.1 rfl (lv_room (Nat.le_of_ble_eq_true rfl)) dX4_sum_4 ⟨Nat.le_of_ble_eq_true rfl, Nat.le_of_ble_eq_true rfl⟩) hS (fun q _ h => h.elim) (fun q h => h.elim) (fun r1 u9 t9 H locs ht9 hvm9 hr1 hB9 hz9 hk1 hS => ?_)
  have hP := zro1 hP hk1
  subst hr1
  have hn4 := zneed_le gw4 iq (Nat.le_refl _)
  refine lv_istore_n (lv' := [(1, .int (nI ((zneed wn iq)))), (0, .ref aC)]) hx hb dX4_sum_7 rfl hl (by decide) rfl (fun ls hl => ?_)
  refine lv_iload_n hx hb dX4_sum_8 rfl (lv_at hl 0 rfl) ?_
  refine z_if_eq (tgt := 23) hx hb (by omega) dX4_sum_9 (by decide) (fun c2 => ?_) (fun c3 => ?_)
  · skip
    have hbad : ¬ (0 < iq ∧ (zneed wn iq) ≤ im) := fun q => by have := zneed_pos (f := wn) q.1; omega
    refine zx_endD hd0 ?_
    exact z_throw (A := (fun _ => False)) (Ts := wsX4_sum) (cls := zIS) (text := "no mode is wanted, or a wanted mode was not made") hx hb hst hown (dr_words hts s.drawn) (by decide) (by decide +kernel) (by decide +kernel) at_X4_sum_85 (by decide +kernel) (by decide +kernel) (by decide +kernel) (by decide +kernel) (by first | exact hE | exact hE.sd) hS (hl.1.trans hml.symm) dX4_sum_23 dX4_sum_26 dX4_sum_27 dX4_sum_29 dX4_sum_32 htab (Nat.le_of_ble_eq_true rfl) (Nat.le_of_ble_eq_true rfl) (Nat.le_of_ble_eq_true rfl) (Nat.le_of_ble_eq_true rfl) hlocks (fun t ht1 ht2 ht3 => ⟨1, ⟨(by unfold zcS; rw [if_neg hbad]), by decide⟩, rfl, zxF hS ht2 ht3⟩) hS.2.2 (Nat.le_of_ble_eq_true rfl) (Nat.le_of_ble_eq_true rfl)
  · skip
    refine lv_aload_n hx hb dX4_sum_12 rfl (lv_at hl 1 rfl) ?_
    refine va_get (D := (dC, dI)) (ci := 4) (v := .ref aM) (C := RX4) (T := TX4) (N := 4) hx hb (dr_words hts s.drawn) (in_X4_sum_X4) hown hK hP 0 rfl rfl 1 (by decide) (dr_words hts s.drawn (.fieldLink RX4 27 "PlateModes" "made" "LPlateModes$ModeSet;") (by decide +kernel)) (fun _ h9 => h9) rfl dX4_sum_13 ?_
    have hPc := hP.sub (ws' := [(aM, .inr (1, [.ref aP, .ref aQ, .ref mS, .ref mR, .ref mT, .int (nI im)]))]) [10] rfl
    refine va_calli (va_runV (As := []) (rest := []) ⟨hx, hb, hml, hown, (dr_words hts s.drawn)⟩ (c1_count l dC dI aM aP aQ mS mR mT cD cI cQ im) (cwV 0 (dr_words hts s.drawn) gX4_sum_X1_count rfl rfl rfl (by decide +kernel) ⟨Nat.le_of_ble_eq_true rfl, Nat.le_of_ble_eq_true rfl⟩) ⟨zfb, va_recv hK hP (ci := 1) (q0 := 10) rfl rfl, zpre hPc hK⟩ rfl rfl hl.1 rfl (lv_room (Nat.le_of_ble_eq_true rfl)) dX4_sum_16 ⟨Nat.le_of_ble_eq_true rfl, Nat.le_of_ble_eq_true rfl⟩) hS (fun q _ h => h.elim) (fun q h => h.elim) (fun r4 u9 t9 H locs ht9 hvm9 hr4 hB9 hz9 hk1 hS => ?_)
    have hP := zro1 hP hk1
    subst hr4
    refine lv_iload_n hx hb dX4_sum_19 rfl (lv_at hl 0 rfl) ?_
    refine z_icmp_ge (a := im) (b := (zneed wn iq)) (tgt := 33) hx hb (by omega) (by omega) dX4_sum_20 (by decide) (fun c5 => ?_) (fun c6 => ?_)
    · skip
      have hok : 0 < iq ∧ (zneed wn iq) ≤ im := ⟨by rcases Nat.eq_zero_or_pos iq with q | q; exact absurd (show zneed wn iq = 0 by rw [q]; rfl) (by omega); exact q, by omega⟩
      refine lv_aload_n hx hb dX4_sum_33 rfl (lv_at hl 1 rfl) ?_
      refine va_get (D := (dC, dI)) (ci := 4) (v := .ref aW) (C := RX4) (T := TX4) (N := 4) hx hb (dr_words hts s.drawn) (in_X4_sum_X4) hown hK hP 0 rfl rfl 3 (by decide) (dr_words hts s.drawn (.fieldLink RX4 37 "PlateModes" "wishes" "LPlateModes$Wishes;") (by decide +kernel)) (fun _ h9 => h9) rfl dX4_sum_34 ?_
      refine lv_aload_n hx hb dX4_sum_37 rfl (lv_at hl 1 rfl) ?_
      refine va_get (D := (dC, dI)) (ci := 4) (v := .ref aM) (C := RX4) (T := TX4) (N := 4) hx hb (dr_words hts s.drawn) (in_X4_sum_X4) hown hK hP 0 rfl rfl 1 (by decide) (dr_words hts s.drawn (.fieldLink RX4 27 "PlateModes" "made" "LPlateModes$ModeSet;") (by decide +kernel)) (fun _ h9 => h9) rfl dX4_sum_38 ?_
      have hPc := hP.sub (ws' := [(aW, .inr (3, [.ref pW, .ref pX, .int (nI iq)])), (pW, .inl (cI, 4, .inl tW)), (pX, .inl (cD, 4, .inr (.inr (.inr (.inl tX))))), (aM, .inr (1, [.ref aP, .ref aQ, .ref mS, .ref mR, .ref mT, .int (nI im)])), (mS, .inl (cD, 4, .inr (.inr (.inr (.inl qS)))))]) [28, 29, 30, 10, 12] rfl
      refine va_calldD hd0 (va_runV_D (As := [.ref aM]) (rest := []) ⟨hx, hb, hml, hown, (dr_words hts s.drawn)⟩ (c3_missedBy l dC dI aW pW pX aM aP aQ mS mR mT cD cI cQ iq im tW tX qS wn hq4 gW gw4 (fun i => zN (zsq iw ih T RX NX (zshp iw ih T RX NX (zv de) (wn i)) (iw * ih))) ws (fun i hi => (hq.2 (wn i) (by have := zneed_gt (f := wn) hi; omega)).2.1) gX) (cwV 1 (dr_words hts s.drawn) gX4_sum_X3_missedBy rfl rfl rfl (by decide +kernel) ⟨Nat.le_of_ble_eq_true rfl, Nat.le_of_ble_eq_true rfl⟩) ⟨zfb, va_recv hK hP (ci := 3) (q0 := 28) rfl rfl, zpre hPc hK⟩ rfl rfl hl.1 rfl (lv_room (Nat.le_of_ble_eq_true rfl)) dX4_sum_41 ⟨Nat.le_of_ble_eq_true rfl, Nat.le_of_ble_eq_true rfl⟩) hS (fun q _ h => h.elim) (fun q h => h.elim) (fun r7 u9 t9 H locs ht9 hvm9 hr7 hB9 hz9 hk1 hS dhd8 hd8 => ?_)
      have hP := zro1 hP hk1
      refine zx_endD hd8 ?_
      refine vx_ret ?_
      refine W.widen (k := 1) (n := 6) (Nat.le_of_ble_eq_true rfl) (Nat.le_of_ble_eq_true rfl) ?_
      exact W.dret (v := r7) hx hb hr (fun t ht hW => ⟨⟨r7, (), rfl, ⟨⟨by unfold zcS; rw [if_pos hok], hr7⟩, trivial⟩⟩, hS.F ht⟩) hS.2.2 dX4_sum_44
    · skip
      have hbad : ¬ (0 < iq ∧ (zneed wn iq) ≤ im) := fun q => by omega
      refine zx_endD hd0 ?_
      exact z_throw (A := (fun _ => False)) (Ts := wsX4_sum) (cls := zIS) (text := "no mode is wanted, or a wanted mode was not made") hx hb hst hown (dr_words hts s.drawn) (by decide) (by decide +kernel) (by decide +kernel) at_X4_sum_85 (by decide +kernel) (by decide +kernel) (by decide +kernel) (by decide +kernel) (by first | exact hE | exact hE.sd) hS (hl.1.trans hml.symm) dX4_sum_23 dX4_sum_26 dX4_sum_27 dX4_sum_29 dX4_sum_32 htab (Nat.le_of_ble_eq_true rfl) (Nat.le_of_ble_eq_true rfl) (Nat.le_of_ble_eq_true rfl) (Nat.le_of_ble_eq_true rfl) hlocks (fun t ht1 ht2 ht3 => ⟨1, ⟨(by unfold zcS; rw [if_neg hbad]), by decide⟩, rfl, zxF hS ht2 ht3⟩) hS.2.2 (Nat.le_of_ble_eq_true rfl) (Nat.le_of_ble_eq_true rfl)
theorem in_X4_coupled_X4 : ∀ w ∈ wsX40, w ∈ wsX4_coupled := fun w h => List.mem_cons_of_mem _ (List.mem_append_left _ (List.mem_append_left _ (List.mem_append_left _ (List.mem_append_left _ (List.mem_append_right _ h)))))
set_option maxHeartbeats 4000000 in
set_option maxRecDepth 100000 in
/-- coupled -/
theorem c4_coupled (l : Launch) (hst : l.stackTraces = false) (dC : Nat → ClassId) (dI : Nat → Nat → Nat) (aC aP pT pR pN pB bP bF bL bH aM aQ mS mR mT ro0 ro1 ro2 ro3 aK kQ kS kR kT ko0 ko1 ko2 ko3 aW pW pX : Nat) (cD cI cQ : ClassId) (iw ih : Nat) (al ac de : UInt64) (nb im ik iq : Nat) (tT tR tN : Nat → UInt64) (uP uF uL : Nat → Int32) (uH e0 e1 e2 e3 qS qU qO ke0 ke1 ke2 ke3 ksq ksr kst : Nat → UInt64) (tW : Nat → Int32) (tX : Nat → UInt64) (hw6 : iw ≤ 6) (hh6 : ih ≤ 6) (T RX NX : Nat → ZD) (gT : zcr tT (iw * ih) T) (hq : qCm iw ih im T RX NX (zv de) e0 e1 e2 e3 qS qU qO) (k : Int32) (va vb : UInt64) (gr : Bool) : zx_MetD lw_cs l yX4_coupled wsX4_coupled ({ frames := 7, cells := 4, slots := 24, locals := 115 } : Room) (va_Pc [.ref aC, .int k, .double va, .double vb, .int (zb gr)] (fun U => va_P (dC, dI) vwCl (w4 aC aP pT pR pN pB bP bF bL bH aM aQ mS mR mT ro0 ro1 ro2 ro3 aK kQ kS kR kT ko0 ko1 ko2 ko3 aW pW pX cD cI cQ iw ih al ac de nb im ik iq tT tR tN uP uF uL uH e0 e1 e2 e3 qS qU qO ke0 ke1 ke2 ke3 ksq ksr kst tW tX) U.heap ∧ va_K (dC, dI) vwCl [(cD, .double), (cI, .int), (cQ, .array .double)] U ∧ zNw U ∧ zXE (fun _ => False) U U.heap)) (va_Qd (fun (r : UInt64) (_ : Unit) => zcC im k (zv va) (zv vb) = 0 ∧ zv r = zcpV (zN (zsq iw ih T RX NX (zshp iw ih T RX NX (zv de) (zn k)) (iw * ih))) (zsum T (zshp iw ih T RX NX (zv de) (zn k)) (iw * ih)) (zv va) (zv vb) gr) (fun _ _ => True) (fun _ => False)) (vx_X (fun u : Nat => (u = zcC im k (zv va) (zv vb)) ∧ ¬ u = 0) (fun E u t => E = zE [zIO, zIA, zIS] u) (fun _ => False)) 4 24 (fun _ => False) := by
  refine zx_ofWD (cc := cX4_coupled) (maxL := 15) (ret := (some .double)) (by decide) rfl ?_
  intro p e s m args below meth c s₁ B hml htab hv hd0
  obtain ⟨rfl, hP0, hK, hN, hE⟩ := hv
  have hx := B.exec
  have hb := B.bytes
  have hr := B.returns
  have hts := atoms_spec (ws := wsX4_coupled) B.pre
  have hown : s.vm.findClass RX4 = some m.cls := findClass_of_methodNamed B.named
  have hlocks := B.notSynchronized
  have hS : va_S (fun _ => False) s.heap s.heap [] := va_S.rf
  have hP := hP0
  have hl := lv_entry ([.ref aC, .int k, .double va, .double vb, .int (zb gr)]) (n := 15) (Nat.le_of_ble_eq_true rfl)
  rw [lg_entry_eq]
  generalize (lg_sl ([.ref aC, .int k, .double va, .double vb, .int (zb gr)]) ++ List.replicate (15 - (lg_sl ([.ref aC, .int k, .double va, .double vb, .int (zb gr)])).length) Slot.unset).toArray = ls at hl ⊢
  have hl : lv_has ls 15 [(0, .ref aC), (1, .int k), (2, .double va), (4, .double vb), (6, .int (zb gr))] := hl
  have hn36 : iw * ih ≤ 36 := Nat.mul_le_mul hw6 hh6
  refine lv_iload_n hx hb dX4_coupled_0 rfl (lv_at hl 1 rfl) ?_
  refine vx_callv (vx_runS (As := [.int k]) (rest := []) ⟨hx, hb, hml, hown, (dr_words hts s.drawn)⟩ (c4_requireMode l hst k) (va_cwS 1 (dr_words hts s.drawn) gX4_coupled_X4_requireMode rfl rfl rfl (by decide +kernel) ⟨(Nat.le_of_ble_eq_true rfl), (Nat.le_of_ble_eq_true rfl)⟩) ⟨zfbX0, zpreX0 (by first | exact hE | exact hE.sd) hS⟩ rfl rfl hl.1 rfl (lv_room (Nat.le_of_ble_eq_true rfl)) dX4_coupled_1 ⟨(Nat.le_of_ble_eq_true rfl), (Nat.le_of_ble_eq_true rfl)⟩) hS (fun q _ h => h.elim) (fun q h => h.elim) (fun q _ h => h.elim) (fun E9 ce9 q9 u9 t9 H1 locs1 ht9 hvm9 hpx hBX hz9 hk1 hS1 hce hcv hcl => ?_) (fun u9 t9 H1 locs1 ht9 hvm9 hpost hB9 hz9 hk1 hS1 => ?_)
  · skip
    refine zx_endX hd0 ?_
    exact vx_out (fun x hx => (htab x hx).elim) hlocks hce hcv hcl (fun t2 ht2 hal2 => ⟨1, ⟨(if_pos hpx.1.2).symm, by decide⟩, (by rw [hBX, hpx.1.1] <;> rfl), hS1.F ht2⟩) hS1.2.2 (Nat.le_of_ble_eq_true rfl) (Nat.le_of_ble_eq_true rfl)
  · skip
    have hS := hS1
    have hP := zro1 hP hk1
    generalize H1 = H at hP hS ⊢
    have hnm := hpost
    refine lv_dload_n hx hb dX4_coupled_4 rfl (lv_at hl 2 rfl) ?_
    refine lv_dconst0 hx hb dX4_coupled_5 ?_
    refine lv_ldc2d (v := 4620693217682128896) hx hb hown (dr_words hts s.drawn (.constantDouble RX4 46 (4620693217682128896)) (by decide +kernel)) dX4_coupled_6 ?_
    refine vx_callv (vx_runS (As := [.double va, .double FP.dconst0, .double 4620693217682128896]) (rest := []) ⟨hx, hb, hml, hown, (dr_words hts s.drawn)⟩ (c4_requireRange l hst va FP.dconst0 4620693217682128896) (va_cwS 3 (dr_words hts s.drawn) gX4_coupled_X4_requireRange rfl rfl rfl (by decide +kernel) ⟨(Nat.le_of_ble_eq_true rfl), (Nat.le_of_ble_eq_true rfl)⟩) ⟨zfbX0, zpreX0 (by first | exact hE | exact hE.sd) hS⟩ rfl rfl hl.1 rfl (lv_room (Nat.le_of_ble_eq_true rfl)) dX4_coupled_9 ⟨(Nat.le_of_ble_eq_true rfl), (Nat.le_of_ble_eq_true rfl)⟩) hS (fun q _ h => h.elim) (fun q h => h.elim) (fun q _ h => h.elim) (fun E9 ce9 q9 u9 t9 H1 locs1 ht9 hvm9 hpx hBX hz9 hk1 hS1 hce hcv hcl => ?_) (fun u9 t9 H1 locs1 ht9 hvm9 hpost hB9 hz9 hk1 hS1 => ?_)
    · skip
      refine zx_endX hd0 ?_
      exact vx_out (fun x hx => (htab x hx).elim) hlocks hce hcv hcl (fun t2 ht2 hal2 => ⟨2, ⟨(by unfold zcC; rw [if_neg hnm, if_pos (by rw [show zbt (zv va) z0 c8 = false from hpx.1.2]; rfl)]), by decide⟩, (by rw [hBX, hpx.1.1] <;> rfl), hS1.F ht2⟩) hS1.2.2 (Nat.le_of_ble_eq_true rfl) (Nat.le_of_ble_eq_true rfl)
    · skip
      have hS := hS1
      have hP := zro1 hP hk1
      generalize H1 = H at hP hS ⊢
      have h1 : zbt (zv va) z0 c8 = true := hpost
      refine lv_dload hx hb dX4_coupled_12 (lv_at hl 3 rfl) ?_
      refine lv_dconst0 hx hb dX4_coupled_14 ?_
      refine lv_ldc2d (v := 4620693217682128896) hx hb hown (dr_words hts s.drawn (.constantDouble RX4 46 (4620693217682128896)) (by decide +kernel)) dX4_coupled_15 ?_
      refine vx_callv (vx_runS (As := [.double vb, .double FP.dconst0, .double 4620693217682128896]) (rest := []) ⟨hx, hb, hml, hown, (dr_words hts s.drawn)⟩ (c4_requireRange l hst vb FP.dconst0 4620693217682128896) (va_cwS 3 (dr_words hts s.drawn) gX4_coupled_X4_requireRange rfl rfl rfl (by decide +kernel) ⟨(Nat.le_of_ble_eq_true rfl), (Nat.le_of_ble_eq_true rfl)⟩) ⟨zfbX0, zpreX0 (by first | exact hE | exact hE.sd) hS⟩ rfl rfl hl.1 rfl (lv_room (Nat.le_of_ble_eq_true rfl)) dX4_coupled_18 ⟨(Nat.le_of_ble_eq_true rfl), (Nat.le_of_ble_eq_true rfl)⟩) hS (fun q _ h => h.elim) (fun q h => h.elim) (fun q _ h => h.elim) (fun E9 ce9 q9 u9 t9 H1 locs1 ht9 hvm9 hpx hBX hz9 hk1 hS1 hce hcv hcl => ?_) (fun u9 t9 H1 locs1 ht9 hvm9 hpost hB9 hz9 hk1 hS1 => ?_)
      · skip
        refine zx_endX hd0 ?_
        exact vx_out (fun x hx => (htab x hx).elim) hlocks hce hcv hcl (fun t2 ht2 hal2 => ⟨2, ⟨(by unfold zcC; rw [if_neg hnm, if_pos (by rw [h1, show zbt (zv vb) z0 c8 = false from hpx.1.2]; rfl)]), by decide⟩, (by rw [hBX, hpx.1.1] <;> rfl), hS1.F ht2⟩) hS1.2.2 (Nat.le_of_ble_eq_true rfl) (Nat.le_of_ble_eq_true rfl)
      · skip
        have hS := hS1
        have hP := zro1 hP hk1
        generalize H1 = H at hP hS ⊢
        have h2 : zbt (zv vb) z0 c8 = true := hpost
        refine lv_aload_n hx hb dX4_coupled_21 rfl (lv_at hl 0 rfl) ?_
        refine lv_iload_n hx hb dX4_coupled_22 rfl (lv_at hl 1 rfl) ?_
        have hPc := hP.sub (ws' := [(aC, .inr (4, [.ref aP, .ref aM, .ref aK, .ref aW])), (aM, .inr (1, [.ref aP, .ref aQ, .ref mS, .ref mR, .ref mT, .int (nI im)]))]) [0, 10] rfl
        refine vx_callv (vx_runV (As := [.int k]) (rest := []) ⟨hx, hb, hml, hown, (dr_words hts s.drawn)⟩ (c4_requireMade l hst dC dI aC aK aW aP aM aQ mS mR mT cD cI cQ im k) (cwV 1 (dr_words hts s.drawn) gX4_coupled_X4_requireMade rfl rfl rfl (by decide +kernel) ⟨(Nat.le_of_ble_eq_true rfl), (Nat.le_of_ble_eq_true rfl)⟩) ⟨zfbX, va_recv hK hP (ci := 4) (q0 := 0) rfl rfl, zpreX hPc hK (by first | exact hN | exact hN.sd) (by first | exact hE | exact hE.sd) hS⟩ rfl rfl hl.1 rfl (lv_room (Nat.le_of_ble_eq_true rfl)) dX4_coupled_23 ⟨(Nat.le_of_ble_eq_true rfl), (Nat.le_of_ble_eq_true rfl)⟩) hS (fun q _ h => h.elim) (fun q h => h.elim) (fun q _ h => h.elim) (fun E9 ce9 q9 u9 t9 H1 locs1 ht9 hvm9 hpx hBX hz9 hk1 hS1 hce hcv hcl => ?_) (fun u9 t9 H1 locs1 ht9 hvm9 hpost hB9 hz9 hk1 hS1 => ?_)
        · skip
          refine zx_endX hd0 ?_
          exact vx_out (fun x hx => (htab x hx).elim) hlocks hce hcv hcl (fun t2 ht2 hal2 => ⟨3, ⟨(by unfold zcC; rw [if_neg hnm, if_neg (by rw [h1, h2]; decide), if_neg hpx.1.2]), by decide⟩, (by rw [hBX, hpx.1.1] <;> rfl), hS1.F ht2⟩) hS1.2.2 (Nat.le_of_ble_eq_true rfl) (Nat.le_of_ble_eq_true rfl)
        · skip
          have hS := hS1
          have hP := zro1 hP hk1
          generalize H1 = H at hP hS ⊢
          have hkm := hpost
          have hcode : zcC im k (zv va) (zv vb) = 0 := by unfold zcC; rw [if_neg hnm, if_neg (by rw [h1, h2]; decide), if_pos hkm]
          obtain ⟨kn, hkn, rfl⟩ := zmd_of hnm
          have zkn : zn (nI kn) = kn := zn_nI (by omega)
          have hki : kn < im := (nI_ltI (by omega) (by have := hq.1; omega)).mp hkm
          refine lv_aload_n hx hb dX4_coupled_26 rfl (lv_at hl 0 rfl) ?_
          refine va_get (D := (dC, dI)) (ci := 4) (v := .ref aM) (C := RX4) (T := TX4) (N := 4) hx hb (dr_words hts s.drawn) (in_X4_coupled_X4) hown hK hP 0 rfl rfl 1 (by decide) (dr_words hts s.drawn (.fieldLink RX4 27 "PlateModes" "made" "LPlateModes$ModeSet;") (by decide +kernel)) (fun _ h9 => h9) rfl dX4_coupled_27 ?_
          refine lv_iload_n hx hb dX4_coupled_30 rfl (lv_at hl 1 rfl) ?_
          have hPc := hP.sub (ws' := [(aM, .inr (1, [.ref aP, .ref aQ, .ref mS, .ref mR, .ref mT, .int (nI im)])), (mS, .inl (cD, 4, .inr (.inr (.inr (.inl qS)))))]) [10, 12] rfl
          refine va_calld (va_runV (As := [.int (nI kn)]) (rest := []) ⟨hx, hb, hml, hown, (dr_words hts s.drawn)⟩ (c1_squareOf l dC dI aM aP aQ mS mR mT cD cI cQ im qS kn (by omega)) (cwV 1 (dr_words hts s.drawn) gX4_coupled_X1_squareOf rfl rfl rfl (by decide +kernel) ⟨Nat.le_of_ble_eq_true rfl, Nat.le_of_ble_eq_true rfl⟩) ⟨zfb, va_recv hK hP (ci := 1) (q0 := 10) rfl rfl, zpre hPc hK⟩ rfl rfl hl.1 rfl (lv_room (Nat.le_of_ble_eq_true rfl)) dX4_coupled_31 ⟨Nat.le_of_ble_eq_true rfl, Nat.le_of_ble_eq_true rfl⟩) hS (fun q _ h => h.elim) (fun q h => h.elim) (fun r1 u9 t9 H locs ht9 hvm9 hr1 hB9 hz9 hk1 hS => ?_)
          have hP := zro1 hP hk1
          subst hr1
          refine lv_dstore (lv' := [(7, .double (qS kn)), (0, .ref aC), (1, .int (nI kn)), (2, .double va), (4, .double vb), (6, .int (zb gr))]) hx hb dX4_coupled_34 hl (by decide) rfl (fun ls hl => ?_)
          refine lv_aload_n hx hb dX4_coupled_36 rfl (lv_at hl 1 rfl) ?_
          refine va_get (D := (dC, dI)) (ci := 4) (v := .ref aM) (C := RX4) (T := TX4) (N := 4) hx hb (dr_words hts s.drawn) (in_X4_coupled_X4) hown hK hP 0 rfl rfl 1 (by decide) (dr_words hts s.drawn (.fieldLink RX4 27 "PlateModes" "made" "LPlateModes$ModeSet;") (by decide +kernel)) (fun _ h9 => h9) rfl dX4_coupled_37 ?_
          refine lv_iload_n hx hb dX4_coupled_40 rfl (lv_at hl 2 rfl) ?_
          have hPc := hP.sub (ws' := [(aM, .inr (1, [.ref aP, .ref aQ, .ref mS, .ref mR, .ref mT, .int (nI im)])), (mT, .inl (cD, 4, .inr (.inr (.inr (.inl qO)))))]) [10, 14] rfl
          refine va_calld (va_runV (As := [.int (nI kn)]) (rest := []) ⟨hx, hb, hml, hown, (dr_words hts s.drawn)⟩ (c1_totalOf l dC dI aM aP aQ mS mR mT cD cI cQ im qO kn (by omega)) (cwV 1 (dr_words hts s.drawn) gX4_coupled_X1_totalOf rfl rfl rfl (by decide +kernel) ⟨Nat.le_of_ble_eq_true rfl, Nat.le_of_ble_eq_true rfl⟩) ⟨zfb, va_recv hK hP (ci := 1) (q0 := 10) rfl rfl, zpre hPc hK⟩ rfl rfl hl.1 rfl (lv_room (Nat.le_of_ble_eq_true rfl)) dX4_coupled_41 ⟨Nat.le_of_ble_eq_true rfl, Nat.le_of_ble_eq_true rfl⟩) hS (fun q _ h => h.elim) (fun q h => h.elim) (fun r2 u9 t9 H locs ht9 hvm9 hr2 hB9 hz9 hk1 hS => ?_)
          have hP := zro1 hP hk1
          subst hr2
          refine lv_dstore (lv' := [(9, .double (qO kn)), (7, .double (qS kn)), (0, .ref aC), (1, .int (nI kn)), (2, .double va), (4, .double vb), (6, .int (zb gr))]) hx hb dX4_coupled_44 hl (by decide) rfl (fun ls hl => ?_)
          refine lv_dload hx hb dX4_coupled_46 (lv_at hl 1 rfl) ?_
          refine lv_dload_n hx hb dX4_coupled_48 rfl (lv_at hl 4 rfl) ?_
          refine lv_dload hx hb dX4_coupled_49 (lv_at hl 0 rfl) ?_
          refine zr_dmul hd0 hx hb (a := zv va) (b := zsum T (zshp iw ih T RX NX (zv de) kn) (iw * ih)) rfl ((hq.2 kn hki).2.2.2) dX4_coupled_51 (fun r3 d4 hr3 hd4 => ?_)
          refine lv_dload hx hb dX4_coupled_52 (lv_at hl 0 rfl) ?_
          refine zr_dmul hd4 hx hb (a := zM (zv va) (zsum T (zshp iw ih T RX NX (zv de) kn) (iw * ih))) (b := zsum T (zshp iw ih T RX NX (zv de) kn) (iw * ih)) hr3 ((hq.2 kn hki).2.2.2) dX4_coupled_54 (fun r5 d6 hr5 hd6 => ?_)
          refine zr_dadd hd6 hx hb (a := zN (zsq iw ih T RX NX (zshp iw ih T RX NX (zv de) kn) (iw * ih))) (b := zM (zM (zv va) (zsum T (zshp iw ih T RX NX (zv de) kn) (iw * ih))) (zsum T (zshp iw ih T RX NX (zv de) kn) (iw * ih))) ((hq.2 kn hki).2.1) hr5 dX4_coupled_55 (fun r7 d8 hr7 hd8 => ?_)
          refine lv_dload hx hb dX4_coupled_56 (lv_at hl 5 rfl) ?_
          refine zr_dadd hd8 hx hb (a := zA (zN (zsq iw ih T RX NX (zshp iw ih T RX NX (zv de) kn) (iw * ih))) (zM (zM (zv va) (zsum T (zshp iw ih T RX NX (zv de) kn) (iw * ih))) (zsum T (zshp iw ih T RX NX (zv de) kn) (iw * ih)))) (b := zv vb) hr7 rfl dX4_coupled_58 (fun r9 d10 hr9 hd10 => ?_)
          refine lv_dstore (lv' := [(11, .double r9), (9, .double (qO kn)), (7, .double (qS kn)), (0, .ref aC), (1, .int (nI kn)), (2, .double va), (4, .double vb), (6, .int (zb gr))]) hx hb dX4_coupled_59 hl (by decide) rfl (fun ls hl => ?_)
          refine lv_dload hx hb dX4_coupled_61 (lv_at hl 0 rfl) ?_
          refine lv_dload hx hb dX4_coupled_63 (lv_at hl 0 rfl) ?_
          refine zr_dmul hd10 hx hb (a := zA (zA (zN (zsq iw ih T RX NX (zshp iw ih T RX NX (zv de) kn) (iw * ih))) (zM (zM (zv va) (zsum T (zshp iw ih T RX NX (zv de) kn) (iw * ih))) (zsum T (zshp iw ih T RX NX (zv de) kn) (iw * ih)))) (zv vb)) (b := zA (zA (zN (zsq iw ih T RX NX (zshp iw ih T RX NX (zv de) kn) (iw * ih))) (zM (zM (zv va) (zsum T (zshp iw ih T RX NX (zv de) kn) (iw * ih))) (zsum T (zshp iw ih T RX NX (zv de) kn) (iw * ih)))) (zv vb)) hr9 hr9 dX4_coupled_65 (fun r11 d12 hr11 hd12 => ?_)
          refine lv_ldc2d (v := 4616189618054758400) hx hb hown (dr_words hts d12 (.constantDouble RX4 137 (4616189618054758400)) (by decide +kernel)) dX4_coupled_66 ?_
          refine lv_dload hx hb dX4_coupled_69 (lv_at hl 2 rfl) ?_
          refine zr_dmul hd12 hx hb (a := zv 4616189618054758400) (b := zN (zsq iw ih T RX NX (zshp iw ih T RX NX (zv de) kn) (iw * ih))) rfl ((hq.2 kn hki).2.1) dX4_coupled_71 (fun r13 d14 hr13 hd14 => ?_)
          refine lv_dload hx hb dX4_coupled_72 (lv_at hl 6 rfl) ?_
          refine zr_dmul hd14 hx hb (a := zM (zv 4616189618054758400) (zN (zsq iw ih T RX NX (zshp iw ih T RX NX (zv de) kn) (iw * ih)))) (b := zv vb) hr13 rfl dX4_coupled_74 (fun r15 d16 hr15 hd16 => ?_)
          refine zr_dsub hd16 hx hb (a := zM (zA (zA (zN (zsq iw ih T RX NX (zshp iw ih T RX NX (zv de) kn) (iw * ih))) (zM (zM (zv va) (zsum T (zshp iw ih T RX NX (zv de) kn) (iw * ih))) (zsum T (zshp iw ih T RX NX (zv de) kn) (iw * ih)))) (zv vb)) (zA (zA (zN (zsq iw ih T RX NX (zshp iw ih T RX NX (zv de) kn) (iw * ih))) (zM (zM (zv va) (zsum T (zshp iw ih T RX NX (zv de) kn) (iw * ih))) (zsum T (zshp iw ih T RX NX (zv de) kn) (iw * ih)))) (zv vb))) (b := zM (zM (zv 4616189618054758400) (zN (zsq iw ih T RX NX (zshp iw ih T RX NX (zv de) kn) (iw * ih)))) (zv vb)) hr11 hr15 dX4_coupled_75 (fun r17 d18 hr17 hd18 => ?_)
          refine lv_dstore (lv' := [(13, .double r17), (11, .double r9), (9, .double (qO kn)), (7, .double (qS kn)), (0, .ref aC), (1, .int (nI kn)), (2, .double va), (4, .double vb), (6, .int (zb gr))]) hx hb dX4_coupled_76 hl (by decide) rfl (fun ls hl => ?_)
          refine lv_iload hx hb dX4_coupled_78 (lv_at hl 8 rfl) ?_
          refine z_if_eq_b (tgt := 98) hx hb dX4_coupled_80 (by decide) (fun c19 => ?_) (fun c20 => ?_)
          · skip
            have hgr := c19
            refine lv_dload hx hb dX4_coupled_98 (lv_at hl 1 rfl) ?_
            refine lv_dload hx hb dX4_coupled_100 (lv_at hl 0 rfl) ?_
            refine va_calldD hd18 (va_runS_D (As := [.double r17]) (rest := [.double r9]) ⟨hx, hb, hml, hown, (dr_words hts d18)⟩ (c4_root l r17) (va_cwS 1 (dr_words hts d18) gX4_coupled_X4_root rfl rfl rfl (by decide +kernel) ⟨Nat.le_of_ble_eq_true rfl, Nat.le_of_ble_eq_true rfl⟩) ⟨zfb0, zpre0⟩ rfl rfl hl.1 rfl (lv_room (Nat.le_of_ble_eq_true rfl)) dX4_coupled_102 ⟨Nat.le_of_ble_eq_true rfl, Nat.le_of_ble_eq_true rfl⟩) hS (fun q _ h => h.elim) (fun q h => h.elim) (fun r21 u9 t9 H locs ht9 hvm9 hr21 hB9 hz9 hk1 hS dhd22 hd22 => ?_)
            have hP := zro1 hP hk1
            have hr21 : zv r21 = zroot (zS (zM (zA (zA (zN (zsq iw ih T RX NX (zshp iw ih T RX NX (zv de) kn) (iw * ih))) (zM (zM (zv va) (zsum T (zshp iw ih T RX NX (zv de) kn) (iw * ih))) (zsum T (zshp iw ih T RX NX (zv de) kn) (iw * ih)))) (zv vb)) (zA (zA (zN (zsq iw ih T RX NX (zshp iw ih T RX NX (zv de) kn) (iw * ih))) (zM (zM (zv va) (zsum T (zshp iw ih T RX NX (zv de) kn) (iw * ih))) (zsum T (zshp iw ih T RX NX (zv de) kn) (iw * ih)))) (zv vb))) (zM (zM (zv 4616189618054758400) (zN (zsq iw ih T RX NX (zshp iw ih T RX NX (zv de) kn) (iw * ih)))) (zv vb))) := hr21.trans (congrArg zroot hr17)
            refine zr_dsub hd22 hx hb (a := zA (zA (zN (zsq iw ih T RX NX (zshp iw ih T RX NX (zv de) kn) (iw * ih))) (zM (zM (zv va) (zsum T (zshp iw ih T RX NX (zv de) kn) (iw * ih))) (zsum T (zshp iw ih T RX NX (zv de) kn) (iw * ih)))) (zv vb)) (b := zroot (zS (zM (zA (zA (zN (zsq iw ih T RX NX (zshp iw ih T RX NX (zv de) kn) (iw * ih))) (zM (zM (zv va) (zsum T (zshp iw ih T RX NX (zv de) kn) (iw * ih))) (zsum T (zshp iw ih T RX NX (zv de) kn) (iw * ih)))) (zv vb)) (zA (zA (zN (zsq iw ih T RX NX (zshp iw ih T RX NX (zv de) kn) (iw * ih))) (zM (zM (zv va) (zsum T (zshp iw ih T RX NX (zv de) kn) (iw * ih))) (zsum T (zshp iw ih T RX NX (zv de) kn) (iw * ih)))) (zv vb))) (zM (zM (zv 4616189618054758400) (zN (zsq iw ih T RX NX (zshp iw ih T RX NX (zv de) kn) (iw * ih)))) (zv vb)))) hr9 hr21 dX4_coupled_105 (fun r23 d24 hr23 hd24 => ?_)
            refine lv_ldc2d (v := 4611686018427387904) hx hb hown (dr_words hts d24 (.constantDouble RX4 143 (4611686018427387904)) (by decide +kernel)) dX4_coupled_106 ?_
            refine zr_ddiv hd24 hx hb (a := zS (zA (zA (zN (zsq iw ih T RX NX (zshp iw ih T RX NX (zv de) kn) (iw * ih))) (zM (zM (zv va) (zsum T (zshp iw ih T RX NX (zv de) kn) (iw * ih))) (zsum T (zshp iw ih T RX NX (zv de) kn) (iw * ih)))) (zv vb)) (zroot (zS (zM (zA (zA (zN (zsq iw ih T RX NX (zshp iw ih T RX NX (zv de) kn) (iw * ih))) (zM (zM (zv va) (zsum T (zshp iw ih T RX NX (zv de) kn) (iw * ih))) (zsum T (zshp iw ih T RX NX (zv de) kn) (iw * ih)))) (zv vb)) (zA (zA (zN (zsq iw ih T RX NX (zshp iw ih T RX NX (zv de) kn) (iw * ih))) (zM (zM (zv va) (zsum T (zshp iw ih T RX NX (zv de) kn) (iw * ih))) (zsum T (zshp iw ih T RX NX (zv de) kn) (iw * ih)))) (zv vb))) (zM (zM (zv 4616189618054758400) (zN (zsq iw ih T RX NX (zshp iw ih T RX NX (zv de) kn) (iw * ih)))) (zv vb))))) (b := zv 4611686018427387904) hr23 rfl dX4_coupled_109 (fun r25 d26 hr25 hd26 => ?_)
            refine zx_endD hd26 ?_
            refine vx_ret ?_
            refine W.widen (k := 4) (n := 24) (Nat.le_of_ble_eq_true rfl) (Nat.le_of_ble_eq_true rfl) ?_
            exact W.dret (v := r25) hx hb hr (fun t ht hW => ⟨⟨r25, (), rfl, ⟨⟨hcode, by rw [zkn]; exact (hr25).trans (by unfold zcpV; rw [hgr]; rfl)⟩, trivial⟩⟩, hS.F ht⟩) hS.2.2 dX4_coupled_110
          · skip
            have hgr := c20
            refine lv_dload hx hb dX4_coupled_83 (lv_at hl 1 rfl) ?_
            refine lv_dload hx hb dX4_coupled_85 (lv_at hl 0 rfl) ?_
            refine va_calldD hd18 (va_runS_D (As := [.double r17]) (rest := [.double r9]) ⟨hx, hb, hml, hown, (dr_words hts d18)⟩ (c4_root l r17) (va_cwS 1 (dr_words hts d18) gX4_coupled_X4_root rfl rfl rfl (by decide +kernel) ⟨Nat.le_of_ble_eq_true rfl, Nat.le_of_ble_eq_true rfl⟩) ⟨zfb0, zpre0⟩ rfl rfl hl.1 rfl (lv_room (Nat.le_of_ble_eq_true rfl)) dX4_coupled_87 ⟨Nat.le_of_ble_eq_true rfl, Nat.le_of_ble_eq_true rfl⟩) hS (fun q _ h => h.elim) (fun q h => h.elim) (fun r27 u9 t9 H locs ht9 hvm9 hr27 hB9 hz9 hk1 hS dhd28 hd28 => ?_)
            have hP := zro1 hP hk1
            have hr27 : zv r27 = zroot (zS (zM (zA (zA (zN (zsq iw ih T RX NX (zshp iw ih T RX NX (zv de) kn) (iw * ih))) (zM (zM (zv va) (zsum T (zshp iw ih T RX NX (zv de) kn) (iw * ih))) (zsum T (zshp iw ih T RX NX (zv de) kn) (iw * ih)))) (zv vb)) (zA (zA (zN (zsq iw ih T RX NX (zshp iw ih T RX NX (zv de) kn) (iw * ih))) (zM (zM (zv va) (zsum T (zshp iw ih T RX NX (zv de) kn) (iw * ih))) (zsum T (zshp iw ih T RX NX (zv de) kn) (iw * ih)))) (zv vb))) (zM (zM (zv 4616189618054758400) (zN (zsq iw ih T RX NX (zshp iw ih T RX NX (zv de) kn) (iw * ih)))) (zv vb))) := hr27.trans (congrArg zroot hr17)
            refine zr_dadd hd28 hx hb (a := zA (zA (zN (zsq iw ih T RX NX (zshp iw ih T RX NX (zv de) kn) (iw * ih))) (zM (zM (zv va) (zsum T (zshp iw ih T RX NX (zv de) kn) (iw * ih))) (zsum T (zshp iw ih T RX NX (zv de) kn) (iw * ih)))) (zv vb)) (b := zroot (zS (zM (zA (zA (zN (zsq iw ih T RX NX (zshp iw ih T RX NX (zv de) kn) (iw * ih))) (zM (zM (zv va) (zsum T (zshp iw ih T RX NX (zv de) kn) (iw * ih))) (zsum T (zshp iw ih T RX NX (zv de) kn) (iw * ih)))) (zv vb)) (zA (zA (zN (zsq iw ih T RX NX (zshp iw ih T RX NX (zv de) kn) (iw * ih))) (zM (zM (zv va) (zsum T (zshp iw ih T RX NX (zv de) kn) (iw * ih))) (zsum T (zshp iw ih T RX NX (zv de) kn) (iw * ih)))) (zv vb))) (zM (zM (zv 4616189618054758400) (zN (zsq iw ih T RX NX (zshp iw ih T RX NX (zv de) kn) (iw * ih)))) (zv vb)))) hr9 hr27 dX4_coupled_90 (fun r29 d30 hr29 hd30 => ?_)
            refine lv_ldc2d (v := 4611686018427387904) hx hb hown (dr_words hts d30 (.constantDouble RX4 143 (4611686018427387904)) (by decide +kernel)) dX4_coupled_91 ?_
            refine zr_ddiv hd30 hx hb (a := zA (zA (zA (zN (zsq iw ih T RX NX (zshp iw ih T RX NX (zv de) kn) (iw * ih))) (zM (zM (zv va) (zsum T (zshp iw ih T RX NX (zv de) kn) (iw * ih))) (zsum T (zshp iw ih T RX NX (zv de) kn) (iw * ih)))) (zv vb)) (zroot (zS (zM (zA (zA (zN (zsq iw ih T RX NX (zshp iw ih T RX NX (zv de) kn) (iw * ih))) (zM (zM (zv va) (zsum T (zshp iw ih T RX NX (zv de) kn) (iw * ih))) (zsum T (zshp iw ih T RX NX (zv de) kn) (iw * ih)))) (zv vb)) (zA (zA (zN (zsq iw ih T RX NX (zshp iw ih T RX NX (zv de) kn) (iw * ih))) (zM (zM (zv va) (zsum T (zshp iw ih T RX NX (zv de) kn) (iw * ih))) (zsum T (zshp iw ih T RX NX (zv de) kn) (iw * ih)))) (zv vb))) (zM (zM (zv 4616189618054758400) (zN (zsq iw ih T RX NX (zshp iw ih T RX NX (zv de) kn) (iw * ih)))) (zv vb))))) (b := zv 4611686018427387904) hr29 rfl dX4_coupled_94 (fun r31 d32 hr31 hd32 => ?_)
            refine lv_goto (tgt := 110) hx hb dX4_coupled_95 (by decide) ?_
            refine zx_endD hd32 ?_
            refine vx_ret ?_
            refine W.widen (k := 4) (n := 24) (Nat.le_of_ble_eq_true rfl) (Nat.le_of_ble_eq_true rfl) ?_
            exact W.dret (v := r31) hx hb hr (fun t ht hW => ⟨⟨r31, (), rfl, ⟨⟨hcode, by rw [zkn]; exact (hr31).trans (by unfold zcpV; rw [hgr]; rfl)⟩, trivial⟩⟩, hS.F ht⟩) hS.2.2 dX4_coupled_110
theorem in_X4_tap_X4 : ∀ w ∈ wsX40, w ∈ wsX4_tap := fun w h => List.mem_cons_of_mem _ (List.mem_append_left _ (List.mem_append_left _ (List.mem_append_left _ (List.mem_append_left _ (List.mem_append_left _ (List.mem_append_right _ h))))))
set_option maxHeartbeats 4000000 in
set_option maxRecDepth 100000 in
/-- tap -/
theorem c4_tap (l : Launch) (hst : l.stackTraces = false) (dC : Nat → ClassId) (dI : Nat → Nat → Nat) (aC aP pT pR pN pB bP bF bL bH aM aQ mS mR mT ro0 ro1 ro2 ro3 aK kQ kS kR kT ko0 ko1 ko2 ko3 aW pW pX : Nat) (cD cI cQ : ClassId) (iw ih : Nat) (al ac de : UInt64) (nb im ik iq : Nat) (tT tR tN : Nat → UInt64) (uP uF uL : Nat → Int32) (uH e0 e1 e2 e3 qS qU qO ke0 ke1 ke2 ke3 ksq ksr kst : Nat → UInt64) (tW : Nat → Int32) (tX : Nat → UInt64) (hw6 : iw ≤ 6) (hh6 : ih ≤ 6) (T RX NX : Nat → ZD) (gT : zcr tT (iw * ih) T) (hq : qCm iw ih im T RX NX (zv de) e0 e1 e2 e3 qS qU qO) (k x y : Int32) (va : UInt64) : zx_MetD lw_cs l yX4_tap wsX4_tap ({ frames := 7, cells := 4, slots := 24, locals := 115 } : Room) (va_Pc [.ref aC, .int k, .int x, .int y, .double va] (fun U => va_P (dC, dI) vwCl (w4 aC aP pT pR pN pB bP bF bL bH aM aQ mS mR mT ro0 ro1 ro2 ro3 aK kQ kS kR kT ko0 ko1 ko2 ko3 aW pW pX cD cI cQ iw ih al ac de nb im ik iq tT tR tN uP uF uL uH e0 e1 e2 e3 qS qU qO ke0 ke1 ke2 ke3 ksq ksr kst tW tX) U.heap ∧ va_K (dC, dI) vwCl [(cD, .double), (cI, .int), (cQ, .array .double)] U ∧ zNw U ∧ zXE (fun _ => False) U U.heap)) (va_Qd (fun (r : UInt64) (_ : Unit) => zcT iw ih im k x y (zv va) = 0 ∧ zv r = ztapV ((zshp iw ih T RX NX (zv de) (zn k)) (zn y * iw + zn x)) (zv va) (zN (zsq iw ih T RX NX (zshp iw ih T RX NX (zv de) (zn k)) (iw * ih)))) (fun _ _ => True) (fun _ => False)) (vx_X (fun u : Nat => (u = zcT iw ih im k x y (zv va)) ∧ ¬ u = 0) (fun E u t => E = zE [zIO, zIA, zIS] u) (fun _ => False)) 4 24 (fun _ => False) := by
  refine zx_ofWD (cc := cX4_tap) (maxL := 10) (ret := (some .double)) (by decide) rfl ?_
  intro p e s m args below meth c s₁ B hml htab hv hd0
  obtain ⟨rfl, hP0, hK, hN, hE⟩ := hv
  have hx := B.exec
  have hb := B.bytes
  have hr := B.returns
  have hts := atoms_spec (ws := wsX4_tap) B.pre
  have hown : s.vm.findClass RX4 = some m.cls := findClass_of_methodNamed B.named
  have hlocks := B.notSynchronized
  have hS : va_S (fun _ => False) s.heap s.heap [] := va_S.rf
  have hP := hP0
  have hl := lv_entry ([.ref aC, .int k, .int x, .int y, .double va]) (n := 10) (Nat.le_of_ble_eq_true rfl)
  rw [lg_entry_eq]
  generalize (lg_sl ([.ref aC, .int k, .int x, .int y, .double va]) ++ List.replicate (10 - (lg_sl ([.ref aC, .int k, .int x, .int y, .double va])).length) Slot.unset).toArray = ls at hl ⊢
  have hl : lv_has ls 10 [(0, .ref aC), (1, .int k), (2, .int x), (3, .int y), (4, .double va)] := hl
  have hn36 : iw * ih ≤ 36 := Nat.mul_le_mul hw6 hh6
  refine lv_iload_n hx hb dX4_tap_0 rfl (lv_at hl 1 rfl) ?_
  refine vx_callv (vx_runS (As := [.int k]) (rest := []) ⟨hx, hb, hml, hown, (dr_words hts s.drawn)⟩ (c4_requireMode l hst k) (va_cwS 1 (dr_words hts s.drawn) gX4_tap_X4_requireMode rfl rfl rfl (by decide +kernel) ⟨(Nat.le_of_ble_eq_true rfl), (Nat.le_of_ble_eq_true rfl)⟩) ⟨zfbX0, zpreX0 (by first | exact hE | exact hE.sd) hS⟩ rfl rfl hl.1 rfl (lv_room (Nat.le_of_ble_eq_true rfl)) dX4_tap_1 ⟨(Nat.le_of_ble_eq_true rfl), (Nat.le_of_ble_eq_true rfl)⟩) hS (fun q _ h => h.elim) (fun q h => h.elim) (fun q _ h => h.elim) (fun E9 ce9 q9 u9 t9 H1 locs1 ht9 hvm9 hpx hBX hz9 hk1 hS1 hce hcv hcl => ?_) (fun u9 t9 H1 locs1 ht9 hvm9 hpost hB9 hz9 hk1 hS1 => ?_)
  · skip
    refine zx_endX hd0 ?_
    exact vx_out (fun x hx => (htab x hx).elim) hlocks hce hcv hcl (fun t2 ht2 hal2 => ⟨1, ⟨(if_pos (Or.inl hpx.1.2)).symm, by decide⟩, (by rw [hBX, hpx.1.1] <;> rfl), hS1.F ht2⟩) hS1.2.2 (Nat.le_of_ble_eq_true rfl) (Nat.le_of_ble_eq_true rfl)
  · skip
    have hS := hS1
    have hP := zro1 hP hk1
    generalize H1 = H at hP hS ⊢
    have hnm := hpost
    refine lv_aload_n hx hb dX4_tap_4 rfl (lv_at hl 0 rfl) ?_
    refine lv_iload_n hx hb dX4_tap_5 rfl (lv_at hl 2 rfl) ?_
    refine lv_iload_n hx hb dX4_tap_6 rfl (lv_at hl 3 rfl) ?_
    have hPc := hP.sub (ws' := [(aC, .inr (4, [.ref aP, .ref aM, .ref aK, .ref aW])), (aP, .inr (2, [.int (nI iw), .int (nI ih), .ref pT, .ref pR, .ref pN, .ref pB, .double al, .double ac, .double de])), (pT, .inl (cD, (iw * ih), .inr (.inr (.inr (.inl tT))))), (pR, .inl (cD, (iw * ih), .inr (.inr (.inr (.inl tR))))), (pN, .inl (cD, (iw * ih), .inr (.inr (.inr (.inl tN))))), (pB, .inr (0, [.ref bP, .ref bF, .ref bL, .ref bH, .int (nI nb)])), (bP, .inl (cI, 12, .inl uP)), (bF, .inl (cI, 12, .inl uF)), (bL, .inl (cI, 12, .inl uL)), (bH, .inl (cD, 12, .inr (.inr (.inr (.inl uH)))))]) [0, 1, 2, 3, 4, 5, 6, 7, 8, 9] rfl
    refine vx_callv (vx_runV (As := [.int x, .int y]) (rest := []) ⟨hx, hb, hml, hown, (dr_words hts s.drawn)⟩ (c4_requireCell l hst dC dI aC aM aK aW aP pT pR pN pB bP bF bL bH cD cI cQ iw ih al ac de nb tT tR tN uP uF uL uH x y) (cwV 2 (dr_words hts s.drawn) gX4_tap_X4_requireCell rfl rfl rfl (by decide +kernel) ⟨(Nat.le_of_ble_eq_true rfl), (Nat.le_of_ble_eq_true rfl)⟩) ⟨zfbX, va_recv hK hP (ci := 4) (q0 := 0) rfl rfl, zpreX hPc hK (by first | exact hN | exact hN.sd) (by first | exact hE | exact hE.sd) hS⟩ rfl rfl hl.1 rfl (lv_room (Nat.le_of_ble_eq_true rfl)) dX4_tap_7 ⟨(Nat.le_of_ble_eq_true rfl), (Nat.le_of_ble_eq_true rfl)⟩) hS (fun q _ h => h.elim) (fun q h => h.elim) (fun q _ h => h.elim) (fun E9 ce9 q9 u9 t9 H1 locs1 ht9 hvm9 hpx hBX hz9 hk1 hS1 hce hcv hcl => ?_) (fun u9 t9 H1 locs1 ht9 hvm9 hpost hB9 hz9 hk1 hS1 => ?_)
    · skip
      refine zx_endX hd0 ?_
      exact vx_out (fun x hx => (htab x hx).elim) hlocks hce hcv hcl (fun t2 ht2 hal2 => ⟨1, ⟨(if_pos (Or.inr hpx.1.2)).symm, by decide⟩, (by rw [hBX, hpx.1.1] <;> rfl), hS1.F ht2⟩) hS1.2.2 (Nat.le_of_ble_eq_true rfl) (Nat.le_of_ble_eq_true rfl)
    · skip
      have hS := hS1
      have hP := zro1 hP hk1
      generalize H1 = H at hP hS ⊢
      have hnc := hpost
      refine lv_dload hx hb dX4_tap_10 (lv_at hl 4 rfl) ?_
      refine lv_dconst0 hx hb dX4_tap_12 ?_
      refine lv_ldc2d (v := 4634204016564240384) hx hb hown (dr_words hts s.drawn (.constantDouble RX4 149 (4634204016564240384)) (by decide +kernel)) dX4_tap_13 ?_
      refine vx_callv (vx_runS (As := [.double va, .double FP.dconst0, .double 4634204016564240384]) (rest := []) ⟨hx, hb, hml, hown, (dr_words hts s.drawn)⟩ (c4_requireRange l hst va FP.dconst0 4634204016564240384) (va_cwS 3 (dr_words hts s.drawn) gX4_tap_X4_requireRange rfl rfl rfl (by decide +kernel) ⟨(Nat.le_of_ble_eq_true rfl), (Nat.le_of_ble_eq_true rfl)⟩) ⟨zfbX0, zpreX0 (by first | exact hE | exact hE.sd) hS⟩ rfl rfl hl.1 rfl (lv_room (Nat.le_of_ble_eq_true rfl)) dX4_tap_16 ⟨(Nat.le_of_ble_eq_true rfl), (Nat.le_of_ble_eq_true rfl)⟩) hS (fun q _ h => h.elim) (fun q h => h.elim) (fun q _ h => h.elim) (fun E9 ce9 q9 u9 t9 H1 locs1 ht9 hvm9 hpx hBX hz9 hk1 hS1 hce hcv hcl => ?_) (fun u9 t9 H1 locs1 ht9 hvm9 hpost hB9 hz9 hk1 hS1 => ?_)
      · skip
        refine zx_endX hd0 ?_
        exact vx_out (fun x hx => (htab x hx).elim) hlocks hce hcv hcl (fun t2 ht2 hal2 => ⟨2, ⟨(by unfold zcT; rw [if_neg (fun q => q.elim hnm hnc), if_pos (show zbt (zv va) z0 c64 = false from hpx.1.2)]), by decide⟩, (by rw [hBX, hpx.1.1] <;> rfl), hS1.F ht2⟩) hS1.2.2 (Nat.le_of_ble_eq_true rfl) (Nat.le_of_ble_eq_true rfl)
      · skip
        have hS := hS1
        have hP := zro1 hP hk1
        generalize H1 = H at hP hS ⊢
        have h1 : zbt (zv va) z0 c64 = true := hpost
        refine lv_aload_n hx hb dX4_tap_19 rfl (lv_at hl 0 rfl) ?_
        refine lv_iload_n hx hb dX4_tap_20 rfl (lv_at hl 1 rfl) ?_
        have hPc := hP.sub (ws' := [(aC, .inr (4, [.ref aP, .ref aM, .ref aK, .ref aW])), (aM, .inr (1, [.ref aP, .ref aQ, .ref mS, .ref mR, .ref mT, .int (nI im)]))]) [0, 10] rfl
        refine vx_callv (vx_runV (As := [.int k]) (rest := []) ⟨hx, hb, hml, hown, (dr_words hts s.drawn)⟩ (c4_requireMade l hst dC dI aC aK aW aP aM aQ mS mR mT cD cI cQ im k) (cwV 1 (dr_words hts s.drawn) gX4_tap_X4_requireMade rfl rfl rfl (by decide +kernel) ⟨(Nat.le_of_ble_eq_true rfl), (Nat.le_of_ble_eq_true rfl)⟩) ⟨zfbX, va_recv hK hP (ci := 4) (q0 := 0) rfl rfl, zpreX hPc hK (by first | exact hN | exact hN.sd) (by first | exact hE | exact hE.sd) hS⟩ rfl rfl hl.1 rfl (lv_room (Nat.le_of_ble_eq_true rfl)) dX4_tap_21 ⟨(Nat.le_of_ble_eq_true rfl), (Nat.le_of_ble_eq_true rfl)⟩) hS (fun q _ h => h.elim) (fun q h => h.elim) (fun q _ h => h.elim) (fun E9 ce9 q9 u9 t9 H1 locs1 ht9 hvm9 hpx hBX hz9 hk1 hS1 hce hcv hcl => ?_) (fun u9 t9 H1 locs1 ht9 hvm9 hpost hB9 hz9 hk1 hS1 => ?_)
        · skip
          refine zx_endX hd0 ?_
          exact vx_out (fun x hx => (htab x hx).elim) hlocks hce hcv hcl (fun t2 ht2 hal2 => ⟨3, ⟨(by unfold zcT; rw [if_neg (fun q => q.elim hnm hnc), if_neg (by rw [h1]; decide), if_neg hpx.1.2]), by decide⟩, (by rw [hBX, hpx.1.1] <;> rfl), hS1.F ht2⟩) hS1.2.2 (Nat.le_of_ble_eq_true rfl) (Nat.le_of_ble_eq_true rfl)
        · skip
          have hS := hS1
          have hP := zro1 hP hk1
          generalize H1 = H at hP hS ⊢
          have hkm := hpost
          have hcode : zcT iw ih im k x y (zv va) = 0 := by unfold zcT; rw [if_neg (fun q => q.elim hnm hnc), if_neg (by rw [h1]; decide), if_pos hkm]
          obtain ⟨kn, hkn, rfl⟩ := zmd_of hnm
          have zkn : zn (nI kn) = kn := zn_nI (by omega)
          obtain ⟨xn, yn, hxn, hyn, rfl, rfl⟩ := zcl_of hw6 hh6 hnc
          have zxn : zn (nI xn) = xn := zn_nI (by omega)
          have zyn : zn (nI yn) = yn := zn_nI (by omega)
          have hkb := zrow (x := xn) (y := yn) (w := iw) (h := ih) hxn hyn
          have hki : kn < im := (nI_ltI (by omega) (by have := hq.1; omega)).mp hkm
          refine lv_aload_n hx hb dX4_tap_24 rfl (lv_at hl 0 rfl) ?_
          refine va_get (D := (dC, dI)) (ci := 4) (v := .ref aM) (C := RX4) (T := TX4) (N := 4) hx hb (dr_words hts s.drawn) (in_X4_tap_X4) hown hK hP 0 rfl rfl 1 (by decide) (dr_words hts s.drawn (.fieldLink RX4 27 "PlateModes" "made" "LPlateModes$ModeSet;") (by decide +kernel)) (fun _ h9 => h9) rfl dX4_tap_25 ?_
          refine lv_iload_n hx hb dX4_tap_28 rfl (lv_at hl 1 rfl) ?_
          refine lv_aload_n hx hb dX4_tap_29 rfl (lv_at hl 0 rfl) ?_
          refine va_get (D := (dC, dI)) (ci := 4) (v := .ref aP) (C := RX4) (T := TX4) (N := 4) hx hb (dr_words hts s.drawn) (in_X4_tap_X4) hown hK hP 0 rfl rfl 0 (by decide) (dr_words hts s.drawn (.fieldLink RX4 18 "PlateModes" "plate" "LPlateModes$Plate;") (by decide +kernel)) (fun _ h9 => h9) rfl dX4_tap_30 ?_
          refine lv_iload_n hx hb dX4_tap_33 rfl (lv_at hl 2 rfl) ?_
          refine lv_iload_n hx hb dX4_tap_34 rfl (lv_at hl 3 rfl) ?_
          have hPc := hP.sub (ws' := [(aP, .inr (2, [.int (nI iw), .int (nI ih), .ref pT, .ref pR, .ref pN, .ref pB, .double al, .double ac, .double de])), (pT, .inl (cD, (iw * ih), .inr (.inr (.inr (.inl tT))))), (pR, .inl (cD, (iw * ih), .inr (.inr (.inr (.inl tR))))), (pN, .inl (cD, (iw * ih), .inr (.inr (.inr (.inl tN))))), (pB, .inr (0, [.ref bP, .ref bF, .ref bL, .ref bH, .int (nI nb)])), (bP, .inl (cI, 12, .inl uP)), (bF, .inl (cI, 12, .inl uF)), (bL, .inl (cI, 12, .inl uL)), (bH, .inl (cD, 12, .inr (.inr (.inr (.inl uH)))))]) [1, 2, 3, 4, 5, 6, 7, 8, 9] rfl
          refine va_calli (va_runV (As := [.int (nI xn), .int (nI yn)]) (rest := [.int (nI kn), .ref aM]) ⟨hx, hb, hml, hown, (dr_words hts s.drawn)⟩ (c2_cellAt l dC dI aP pT pR pN pB bP bF bL bH cD cI cQ iw ih al ac de nb tT tR tN uP uF uL uH xn yn) (cwV 2 (dr_words hts s.drawn) gX4_tap_X2_cellAt rfl rfl rfl (by decide +kernel) ⟨Nat.le_of_ble_eq_true rfl, Nat.le_of_ble_eq_true rfl⟩) ⟨zfb, va_recv hK hP (ci := 2) (q0 := 1) rfl rfl, zpre hPc hK⟩ rfl rfl hl.1 rfl (lv_room (Nat.le_of_ble_eq_true rfl)) dX4_tap_35 ⟨Nat.le_of_ble_eq_true rfl, Nat.le_of_ble_eq_true rfl⟩) hS (fun q _ h => h.elim) (fun q h => h.elim) (fun r1 u9 t9 H locs ht9 hvm9 hr1 hB9 hz9 hk1 hS => ?_)
          have hP := zro1 hP hk1
          subst hr1
          have hPc := hP.sub (ws' := [(aM, .inr (1, [.ref aP, .ref aQ, .ref mS, .ref mR, .ref mT, .int (nI im)])), (aQ, .inl (cQ, 4, .inr (.inr (.inr (.inr (zq4 ro0 ro1 ro2 ro3)))))), (ro0, .inl (cD, (iw * ih), .inr (.inr (.inr (.inl e0))))), (ro1, .inl (cD, (iw * ih), .inr (.inr (.inr (.inl e1))))), (ro2, .inl (cD, (iw * ih), .inr (.inr (.inr (.inl e2))))), (ro3, .inl (cD, (iw * ih), .inr (.inr (.inr (.inl e3)))))]) [10, 11, 15, 16, 17, 18] rfl
          refine va_calld (va_runV (As := [.int (nI kn), .int (nI (yn * iw + xn))]) (rest := []) ⟨hx, hb, hml, hown, (dr_words hts s.drawn)⟩ (c1_shapeAt l dC dI aM aP aQ mS mR mT ro0 ro1 ro2 ro3 cD cI cQ iw ih im e0 e1 e2 e3 hw6 hh6 kn (yn * iw + xn) (by omega) hkb) (cwV 2 (dr_words hts s.drawn) gX4_tap_X1_shapeAt rfl rfl rfl (by decide +kernel) ⟨Nat.le_of_ble_eq_true rfl, Nat.le_of_ble_eq_true rfl⟩) ⟨zfb, va_recv hK hP (ci := 1) (q0 := 10) rfl rfl, zpre hPc hK⟩ rfl rfl hl.1 rfl (lv_room (Nat.le_of_ble_eq_true rfl)) dX4_tap_38 ⟨Nat.le_of_ble_eq_true rfl, Nat.le_of_ble_eq_true rfl⟩) hS (fun q _ h => h.elim) (fun q h => h.elim) (fun r2 u9 t9 H locs ht9 hvm9 hr2 hB9 hz9 hk1 hS => ?_)
          have hP := zro1 hP hk1
          subst hr2
          refine lv_dstore (lv' := [(6, .double (z4 e0 e1 e2 e3 kn (yn * iw + xn))), (0, .ref aC), (1, .int (nI kn)), (2, .int (nI xn)), (3, .int (nI yn)), (4, .double va)]) hx hb dX4_tap_41 hl (by decide) rfl (fun ls hl => ?_)
          refine lv_dload hx hb dX4_tap_43 (lv_at hl 5 rfl) ?_
          refine lv_aload_n hx hb dX4_tap_45 rfl (lv_at hl 1 rfl) ?_
          refine va_get (D := (dC, dI)) (ci := 4) (v := .ref aM) (C := RX4) (T := TX4) (N := 4) hx hb (dr_words hts s.drawn) (in_X4_tap_X4) hown hK hP 0 rfl rfl 1 (by decide) (dr_words hts s.drawn (.fieldLink RX4 27 "PlateModes" "made" "LPlateModes$ModeSet;") (by decide +kernel)) (fun _ h9 => h9) rfl dX4_tap_46 ?_
          refine lv_iload_n hx hb dX4_tap_49 rfl (lv_at hl 2 rfl) ?_
          have hPc := hP.sub (ws' := [(aM, .inr (1, [.ref aP, .ref aQ, .ref mS, .ref mR, .ref mT, .int (nI im)])), (mS, .inl (cD, 4, .inr (.inr (.inr (.inl qS)))))]) [10, 12] rfl
          refine va_calld (va_runV (As := [.int (nI kn)]) (rest := [.double va]) ⟨hx, hb, hml, hown, (dr_words hts s.drawn)⟩ (c1_squareOf l dC dI aM aP aQ mS mR mT cD cI cQ im qS kn (by omega)) (cwV 1 (dr_words hts s.drawn) gX4_tap_X1_squareOf rfl rfl rfl (by decide +kernel) ⟨Nat.le_of_ble_eq_true rfl, Nat.le_of_ble_eq_true rfl⟩) ⟨zfb, va_recv hK hP (ci := 1) (q0 := 10) rfl rfl, zpre hPc hK⟩ rfl rfl hl.1 rfl (lv_room (Nat.le_of_ble_eq_true rfl)) dX4_tap_50 ⟨Nat.le_of_ble_eq_true rfl, Nat.le_of_ble_eq_true rfl⟩) hS (fun q _ h => h.elim) (fun q h => h.elim) (fun r3 u9 t9 H locs ht9 hvm9 hr3 hB9 hz9 hk1 hS => ?_)
          have hP := zro1 hP hk1
          subst hr3
          refine zr_dsub hd0 hx hb (a := zv va) (b := zN (zsq iw ih T RX NX (zshp iw ih T RX NX (zv de) kn) (iw * ih))) rfl ((hq.2 kn hki).2.1) dX4_tap_53 (fun r4 d5 hr4 hd5 => ?_)
          refine lv_dstore (lv' := [(8, .double r4), (6, .double (z4 e0 e1 e2 e3 kn (yn * iw + xn))), (0, .ref aC), (1, .int (nI kn)), (2, .int (nI xn)), (3, .int (nI yn)), (4, .double va)]) hx hb dX4_tap_54 hl (by decide) rfl (fun ls hl => ?_)
          refine lv_dload hx hb dX4_tap_56 (lv_at hl 1 rfl) ?_
          refine lv_dload hx hb dX4_tap_58 (lv_at hl 1 rfl) ?_
          refine zr_dmul hd5 hx hb (a := (zshp iw ih T RX NX (zv de) kn) (yn * iw + xn)) (b := (zshp iw ih T RX NX (zv de) kn) (yn * iw + xn)) ((hq.2 kn hki).1 _ hkb) ((hq.2 kn hki).1 _ hkb) dX4_tap_60 (fun r6 d7 hr6 hd7 => ?_)
          refine lv_dconst1 hx hb dX4_tap_61 ?_
          refine lv_dload hx hb dX4_tap_62 (lv_at hl 0 rfl) ?_
          refine lv_dload hx hb dX4_tap_64 (lv_at hl 0 rfl) ?_
          refine zr_dmul hd7 hx hb (a := zS (zv va) (zN (zsq iw ih T RX NX (zshp iw ih T RX NX (zv de) kn) (iw * ih)))) (b := zS (zv va) (zN (zsq iw ih T RX NX (zshp iw ih T RX NX (zv de) kn) (iw * ih)))) hr4 hr4 dX4_tap_66 (fun r8 d9 hr8 hd9 => ?_)
          refine zr_dadd hd9 hx hb (a := z1) (b := zM (zS (zv va) (zN (zsq iw ih T RX NX (zshp iw ih T RX NX (zv de) kn) (iw * ih)))) (zS (zv va) (zN (zsq iw ih T RX NX (zshp iw ih T RX NX (zv de) kn) (iw * ih))))) rfl hr8 dX4_tap_67 (fun r10 d11 hr10 hd11 => ?_)
          refine zr_ddiv hd11 hx hb (a := zM ((zshp iw ih T RX NX (zv de) kn) (yn * iw + xn)) ((zshp iw ih T RX NX (zv de) kn) (yn * iw + xn))) (b := zA z1 (zM (zS (zv va) (zN (zsq iw ih T RX NX (zshp iw ih T RX NX (zv de) kn) (iw * ih)))) (zS (zv va) (zN (zsq iw ih T RX NX (zshp iw ih T RX NX (zv de) kn) (iw * ih)))))) hr6 hr10 dX4_tap_68 (fun r12 d13 hr12 hd13 => ?_)
          refine zx_endD hd13 ?_
          refine vx_ret ?_
          refine W.widen (k := 4) (n := 24) (Nat.le_of_ble_eq_true rfl) (Nat.le_of_ble_eq_true rfl) ?_
          exact W.dret (v := r12) hx hb hr (fun t ht hW => ⟨⟨r12, (), rfl, ⟨⟨hcode, by rw [zkn, zxn, zyn]; exact hr12⟩, trivial⟩⟩, hS.F ht⟩) hS.2.2 dX4_tap_69
