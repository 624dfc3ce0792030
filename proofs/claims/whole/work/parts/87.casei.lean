set_option maxHeartbeats 4000000 in
set_option maxRecDepth 100000 in
/-- the law: want -/
theorem law_10 {p : Program} {l : Launch} {e : Env} {s : State} {m : MethodId} {below : List Frame} {meth : Method} {c : Code} {b L : Nat} {xs : Nat → Int32} {dC : Nat → ClassId} {dI : Nat → Nat → Nat} {cD cI cQ cL : ClassId} (C0 : zCx p l s m meth c b L xs dC dI cD cI cQ cL) {aC r0 oL oD i : Nat} (hi : i + 6 ≤ L) {d0 : Drawn} (hd0 : s.drawn.sameBut d0 lw_cs) {H : Heap} {locs : List Loc} {ls : Array Slot} {cells slots : Nat} (hc : cells + 8 ≤ 627331) (hn : slots + 48 ≤ 7214076) (hSt : zSt dC dI cD cI cQ cL aC r0 oL oD (zAn s) s.heap H locs) (hl : lv_has ls 10 [(5, .int (nI i)), (4, .ref oD), (3, .ref oL), (2, .ref r0), (1, .ref aC), (0, .ref b)])
    (kk : ∀ (d1 : Drawn) (H1 : Heap) (locs1 : List Loc) (ls1 : Array Slot), s.drawn.sameBut d1 lw_cs → zSt dC dI cD cI cQ cL aC r0 oL oD (zAn s) s.heap H1 locs1 → lv_has ls1 10 [(5, .int (nI i)), (4, .ref oD), (3, .ref oL), (2, .ref r0), (1, .ref aC), (0, .ref b)] → W p l e room_1 (s.setDrawn d1) m #[Value.ref b] below meth c H1 locs1 (cells + 4) (slots + 24) (lw_Z below #[Value.ref b] s) (F0 m 1357 ls1 [])) : W p l e room_1 (s.setDrawn d0) m #[Value.ref b] below meth c H locs cells slots (lw_Z below #[Value.ref b] s) (F0 m 1003 ls []) := by
  obtain ⟨hx, hb, hml, hown, hts, hX, hbl, hL, hst, hK, hN, hE, hXN⟩ := C0
  have hbA : ¬ zAn s b := Nat.not_le.mpr hbl
  have hA : ∀ q : Nat, s.heap.size ≤ q → zAn s q := fun _ h => h
  refine zSt_elim hSt (fun aP pT pR pN pB bP bF bL bH aM aQ mS mR mT ro0 ro1 ro2 ro3 aK kQ kS kR kT ko0 ko1 ko2 ko3 aW pW pX rT rE rG rR rN rS rQ rW rX iw ih al ac de nb im ik iq tT tR tN uP uF uL uH e0 e1 e2 e3 qS qU qO ke0 ke1 ke2 ke3 ksq ksr kst tW tX th fa fb fd ib mk i5 jq fT fE fG fR fN fS fQ fW fX ol od T bx0 by0 bx1 by1 bg wn ws ⟨hib, hjq⟩ hI hP hD hS => ?_)
  subst hib
  subst hjq
  obtain ⟨⟨w2, hw6, h2, hh6⟩, ⟨gT, g5T, hG⟩, ⟨rA, rC, rD, _⟩, ⟨b12, gBr, gE, gB, gH, g5H, gR⟩, ⟨hq4, gW, g5W, gw4, gX, g5X⟩, hqc, hq5, hm⟩ := id hI
  have hOK := zI_OK hI
  have hK3 := hK.sub (tys' := [(cD, .double), (cI, .int), (cQ, .array .double)]) [0, 1, 2] rfl
  have hK2 := hK.sub (tys' := [(cD, .double), (cI, .int)]) [0, 1] rfl
  have hP : va_P (dC, dI) vwCl (w9 aC aP pT pR pN pB bP bF bL bH aM aQ mS mR mT ro0 ro1 ro2 ro3 aK kQ kS kR kT ko0 ko1 ko2 ko3 aW pW pX r0 rT rE rG rR rN rS rQ rW rX oL oD cD cI cQ cL iw ih al ac de nb im ik iq tT tR tN uP uF uL uH e0 e1 e2 e3 qS qU qO ke0 ke1 ke2 ke3 ksq ksr kst tW tX th fa fb fd nb mk i5 iq fT fE fG fR fN fS fQ fW fX ol od) H := hP
  refine lv_aload_n hx hb dL_law_1003 rfl (lv_at hl 4 rfl) ?_
  refine lv_aload_n hx hb dL_law_1004 rfl (lv_at hl 5 rfl) ?_
  refine lv_iload hx hb dL_law_1005 (lv_at hl 0 rfl) ?_
  refine lv_iconst (v := (nI 1)) hx hb dL_law_1007 (by decide) ?_
  refine t_iadd hx hb dL_law_1008 (v := nI (i + 1)) (zi_add (by omega)) ?_
  refine z_sld (s := s.setDrawn d0) (i := i + 1) hx hb hX hbl hbA hS (by omega) (by omega) dL_law_1009 ?_
  refine lv_aload_n hx hb dL_law_1010 rfl (lv_at hl 5 rfl) ?_
  refine lv_iload hx hb dL_law_1011 (lv_at hl 0 rfl) ?_
  refine lv_iconst (v := (nI 2)) hx hb dL_law_1013 (by decide) ?_
  refine t_iadd hx hb dL_law_1014 (v := nI (i + 2)) (zi_add (by omega)) ?_
  refine z_sld (s := s.setDrawn d0) (i := i + 2) hx hb hX hbl hbA hS (by omega) (by omega) dL_law_1015 ?_
  refine lv_i2d hx hb dL_law_1016 ?_
  refine lv_ldc2d (v := 4593671619917905920) hx hb hown (dr_words hts d0 _ hw_0) dL_law_1017 ?_
  refine zr_dmul hd0 hx hb (a := zv (FP.i2d (xs (i + 2)))) (b := zv 4593671619917905920) rfl rfl dL_law_1020 (fun r1 d2 hr1 hd2 => ?_)
  refine lv_aload_n hx hb dL_law_1021 rfl (lv_at hl 2 rfl) ?_
  have hPc := hP.sub (ws' := (w4L oL aC aP pT pR pN pB bP bF bL bH aM aQ mS mR mT ro0 ro1 ro2 ro3 aK kQ kS kR kT ko0 ko1 ko2 ko3 aW pW pX cD cI cQ cL iw ih al ac de nb im ik iq tT tR tN uP uF uL uH e0 e1 e2 e3 qS qU qO ke0 ke1 ke2 ke3 ksq ksr kst tW tX ol)) [0, 1, 2, 3, 4, 5, 6, 7, 8, 9, 10, 11, 12, 13, 14, 15, 16, 17, 18, 19, 20, 21, 22, 23, 24, 25, 26, 27, 28, 29, 30, 41] rfl
  have hDc := hD.sub (ws' := (w4L oL aC aP pT pR pN pB bP bF bL bH aM aQ mS mR mT ro0 ro1 ro2 ro3 aK kQ kS kR kT ko0 ko1 ko2 ko3 aW pW pX cD cI cQ cL iw ih al ac de nb im ik iq tT tR tN uP uF uL uH e0 e1 e2 e3 qS qU qO ke0 ke1 ke2 ke3 ksq ksr kst tW tX ol)) [0, 1, 2, 3, 4, 5, 6, 7, 8, 9, 10, 11, 12, 13, 14, 15, 16, 17, 18, 19, 20, 21, 22, 23, 24, 25, 26, 27, 28, 29, 30, 41] (by decide) rfl
  have hFc := va_free (wc := (w4L oL aC aP pT pR pN pB bP bF bL bH aM aQ mS mR mT ro0 ro1 ro2 ro3 aK kQ kS kR kT ko0 ko1 ko2 ko3 aW pW pX cD cI cQ cL iw ih al ac de nb im ik iq tT tR tN uP uF uL uH e0 e1 e2 e3 qS qU qO ke0 ke1 ke2 ke3 ksq ksr kst tW tX ol)) hD hS hA [0, 1, 2, 3, 4, 5, 6, 7, 8, 9, 10, 11, 12, 13, 14, 15, 16, 17, 18, 19, 20, 21, 22, 23, 24, 25, 26, 27, 28, 29, 30, 41] rfl
  refine va_calliD hd2 (zy_runSWD (As := [.ref aC, .int (xs (i + 1)), .double r1, .ref oL]) (rest := []) ⟨hx, hb, hml, hown, (dr_words hts d2)⟩ (cL_want_c l hst dC dI aC aP pT pR pN pB bP bF bL bH aM aQ mS mR mT ro0 ro1 ro2 ro3 aK kQ kS kR kT ko0 ko1 ko2 ko3 aW pW pX cD cI cQ cL iw ih al ac de nb im ik iq tT tR tN uP uF uL uH e0 e1 e2 e3 qS qU qO ke0 ke1 ke2 ke3 ksq ksr kst tW tX oL ol hq4 (xs (i + 1)) r1 _) (vx_cwSW 4 (dr_words hts d2) gL_law_L_want rfl rfl rfl (by decide +kernel) ⟨(Nat.le_of_ble_eq_true rfl), (Nat.le_of_ble_eq_true rfl)⟩) ⟨zfbwH, zprewH hPc hK hDc (by first | exact hN.sd | exact hN) (by first | exact hE.sd | exact hE) (by first | exact hXN.sd | exact hXN) hS hFc⟩ rfl rfl hl.1 rfl (lv_room (Nat.le_of_ble_eq_true rfl)) dL_law_1022 ⟨by show cells + 3 ≤ 627331; omega, by show slots + 18 ≤ 7214076; omega⟩) hS (fun q _ h => hFc q h) hFc (fun r1022 u9 t9 H1 locs ht9 hvm9 hpost hB9 hz9 hk1 hS d1022 hd1022 => ?_)
  obtain ⟨hP1, hK1, hD1⟩ := hB9
  rw [ht9] at hP1
  obtain ⟨tW1, tX1, iq1, ol1⟩ := u9
  dsimp only at hP1 hD1 hpost
  obtain ⟨hP, hD⟩ := va_join (wr := [(r0, .inr (5, [.int th, .int (nI iw), .int (nI ih), .ref rT, .double fa, .double fb, .double fd, .int (nI nb), .ref rE, .ref rG, .ref rR, .ref rN, .int (zb mk), .int (nI i5), .ref rS, .ref rQ, .int (nI iq), .ref rW, .ref rX])), (rT, .inl (cD, 36, .inr (.inr (.inr (.inl fT))))), (rE, .inl (cI, 48, .inl fE)), (rG, .inl (cD, 12, .inr (.inr (.inr (.inl fG))))), (rR, .inl (cD, 36, .inr (.inr (.inr (.inl fR))))), (rN, .inl (cD, 36, .inr (.inr (.inr (.inl fN))))), (rS, .inl (cD, 144, .inr (.inr (.inr (.inl fS))))), (rQ, .inl (cD, 4, .inr (.inr (.inr (.inl fQ))))), (rW, .inl (cI, 4, .inl fW)), (rX, .inl (cD, 4, .inr (.inr (.inr (.inl fX))))), (oD, .inl (cD, 1, .inr (.inr (.inr (.inl od)))))]) (w1 := (w4L oL aC aP pT pR pN pB bP bF bL bH aM aQ mS mR mT ro0 ro1 ro2 ro3 aK kQ kS kR kT ko0 ko1 ko2 ko3 aW pW pX cD cI cQ cL iw ih al ac de nb im ik iq1 tT tR tN uP uF uL uH e0 e1 e2 e3 qS qU qO ke0 ke1 ke2 ke3 ksq ksr kst tW1 tX1 ol1)) hP hD [0, 1, 2, 3, 4, 5, 6, 7, 8, 9, 10, 11, 12, 13, 14, 15, 16, 17, 18, 19, 20, 21, 22, 23, 24, 25, 26, 27, 28, 29, 30, 41] [31, 32, 33, 34, 35, 36, 37, 38, 39, 40, 42] rfl rfl (by decide) (by decide) hk1 hFc hP1 hD1
  generalize H1 = H at hP hS ⊢
  have hP : va_P (dC, dI) vwCl (w9 aC aP pT pR pN pB bP bF bL bH aM aQ mS mR mT ro0 ro1 ro2 ro3 aK kQ kS kR kT ko0 ko1 ko2 ko3 aW pW pX r0 rT rE rG rR rN rS rQ rW rX oL oD cD cI cQ cL iw ih al ac de nb im ik iq1 tT tR tN uP uF uL uH e0 e1 e2 e3 qS qU qO ke0 ke1 ke2 ke3 ksq ksr kst tW1 tX1 th fa fb fd nb mk i5 iq fT fE fG fR fN fS fQ fW fX ol1 od) H := hP.sub (ws' := (w9 aC aP pT pR pN pB bP bF bL bH aM aQ mS mR mT ro0 ro1 ro2 ro3 aK kQ kS kR kT ko0 ko1 ko2 ko3 aW pW pX r0 rT rE rG rR rN rS rQ rW rX oL oD cD cI cQ cL iw ih al ac de nb im ik iq1 tT tR tN uP uF uL uH e0 e1 e2 e3 qS qU qO ke0 ke1 ke2 ke3 ksq ksr kst tW1 tX1 th fa fb fd nb mk i5 iq fT fE fG fR fN fS fQ fW fX ol1 od)) [11, 12, 13, 14, 15, 16, 17, 18, 19, 20, 21, 22, 23, 24, 25, 26, 27, 28, 29, 30, 31, 32, 33, 34, 35, 36, 37, 38, 39, 40, 41, 0, 1, 2, 3, 4, 5, 6, 7, 8, 9, 42, 10] rfl
  have hD : va_D (zAn s) (w9 aC aP pT pR pN pB bP bF bL bH aM aQ mS mR mT ro0 ro1 ro2 ro3 aK kQ kS kR kT ko0 ko1 ko2 ko3 aW pW pX r0 rT rE rG rR rN rS rQ rW rX oL oD cD cI cQ cL iw ih al ac de nb im ik iq1 tT tR tN uP uF uL uH e0 e1 e2 e3 qS qU qO ke0 ke1 ke2 ke3 ksq ksr kst tW1 tX1 th fa fb fd nb mk i5 iq fT fE fG fR fN fS fQ fW fX ol1 od) := hD.sub (ws' := (w9 aC aP pT pR pN pB bP bF bL bH aM aQ mS mR mT ro0 ro1 ro2 ro3 aK kQ kS kR kT ko0 ko1 ko2 ko3 aW pW pX r0 rT rE rG rR rN rS rQ rW rX oL oD cD cI cQ cL iw ih al ac de nb im ik iq1 tT tR tN uP uF uL uH e0 e1 e2 e3 qS qU qO ke0 ke1 ke2 ke3 ksq ksr kst tW1 tX1 th fa fb fd nb mk i5 iq fT fE fG fR fN fS fQ fW fX ol1 od)) [11, 12, 13, 14, 15, 16, 17, 18, 19, 20, 21, 22, 23, 24, 25, 26, 27, 28, 29, 30, 31, 32, 33, 34, 35, 36, 37, 38, 39, 40, 41, 0, 1, 2, 3, 4, 5, 6, 7, 8, 9, 42, 10] (by decide) rfl
  obtain ⟨hk9, hc0, hc1⟩ := hpost
  have hkle : zcWt iq (xs (i + 1)) (zv r1) ≤ 3 := zcWt_le
  subst hk9
  refine lv_istore (lv' := [(6, .int (nI ((zcWt iq (xs (i + 1)) (zv r1))))), (5, .int (nI i)), (4, .ref oD), (3, .ref oL), (2, .ref r0), (1, .ref aC), (0, .ref b)]) hx hb dL_law_1025 hl (by decide) rfl (fun ls hl => ?_)
  refine lv_aload_n hx hb dL_law_1027 rfl (lv_at hl 4 rfl) ?_
  refine lv_aload_n hx hb dL_law_1028 rfl (lv_at hl 6 rfl) ?_
  refine lv_iload hx hb dL_law_1029 (lv_at hl 1 rfl) ?_
  refine lv_iconst (v := (nI 1)) hx hb dL_law_1031 (by decide) ?_
  refine t_iadd hx hb dL_law_1032 (v := nI (i + 1)) (zi_add (by omega)) ?_
  refine z_sld (s := s.setDrawn d1022) (i := i + 1) hx hb hX hbl hbA hS (by omega) (by omega) dL_law_1033 ?_
  refine lv_aload_n hx hb dL_law_1034 rfl (lv_at hl 6 rfl) ?_
  refine lv_iload hx hb dL_law_1035 (lv_at hl 1 rfl) ?_
  refine lv_iconst (v := (nI 2)) hx hb dL_law_1037 (by decide) ?_
  refine t_iadd hx hb dL_law_1038 (v := nI (i + 2)) (zi_add (by omega)) ?_
  refine z_sld (s := s.setDrawn d1022) (i := i + 2) hx hb hX hbl hbA hS (by omega) (by omega) dL_law_1039 ?_
  refine lv_i2d hx hb dL_law_1040 ?_
  refine lv_ldc2d (v := 4593671619917905920) hx hb hown (dr_words hts d1022 _ hw_0) dL_law_1041 ?_
  refine zr_dmul hd1022 hx hb (a := zv (FP.i2d (xs (i + 2)))) (b := zv 4593671619917905920) rfl rfl dL_law_1044 (fun r3 d4 hr3 hd4 => ?_)
  have hPc := hP.sub (ws' := (w5 r0 rT rE rG rR rN rS rQ rW rX cD cI th iw ih fa fb fd nb mk i5 iq fT fE fG fR fN fS fQ fW fX)) [31, 32, 33, 34, 35, 36, 37, 38, 39, 40] rfl
  have hDc := hD.sub (ws' := (w5 r0 rT rE rG rR rN rS rQ rW rX cD cI th iw ih fa fb fd nb mk i5 iq fT fE fG fR fN fS fQ fW fX)) [31, 32, 33, 34, 35, 36, 37, 38, 39, 40] (by decide) rfl
  have hFc := va_free (wc := (w5 r0 rT rE rG rR rN rS rQ rW rX cD cI th iw ih fa fb fd nb mk i5 iq fT fE fG fR fN fS fQ fW fX)) hD hS hA [31, 32, 33, 34, 35, 36, 37, 38, 39, 40] rfl
  refine va_calli (va_runV (As := [.int (xs (i + 1)), .double r3]) (rest := []) ⟨hx, hb, hml, hown, (dr_words hts d4)⟩ (c5_want l dC dI r0 rT rE rG rR rN rS rQ rW rX cD cI th iw ih fa fb fd nb mk i5 iq fT fE fG fR fN fS fQ fW fX (xs (i + 1)) r3 hq4 _) (cwV 2 (dr_words hts d4) gL_law_X5_want rfl rfl rfl (by decide +kernel) ⟨(Nat.le_of_ble_eq_true rfl), (Nat.le_of_ble_eq_true rfl)⟩) ⟨zfbw, va_recv hK2 hPc (ci := 5) (q0 := 0) rfl rfl, zprew hPc hK2 hDc⟩ rfl rfl hl.1 rfl (lv_room (Nat.le_of_ble_eq_true rfl)) dL_law_1045 ⟨by show cells + 3 + 0 ≤ 627331; omega, by show slots + 18 + 0 ≤ 7214076; omega⟩) hS (fun q _ h => hFc q h) hFc (fun r1045 u5 t9 H1 locs ht9 hvm9 hp5 hB9 hz9 hk1 hS => ?_)
  obtain ⟨hP1, hK1, hD1⟩ := hB9
  rw [ht9] at hP1
  obtain ⟨th1, jq1, fW1, fX1⟩ := u5
  dsimp only at hP1 hD1 hp5
  obtain ⟨hP, hD⟩ := va_join (wr := [(aC, .inr (4, [.ref aP, .ref aM, .ref aK, .ref aW])), (aP, .inr (2, [.int (nI iw), .int (nI ih), .ref pT, .ref pR, .ref pN, .ref pB, .double al, .double ac, .double de])), (pT, .inl (cD, (iw * ih), .inr (.inr (.inr (.inl tT))))), (pR, .inl (cD, (iw * ih), .inr (.inr (.inr (.inl tR))))), (pN, .inl (cD, (iw * ih), .inr (.inr (.inr (.inl tN))))), (pB, .inr (0, [.ref bP, .ref bF, .ref bL, .ref bH, .int (nI nb)])), (bP, .inl (cI, 12, .inl uP)), (bF, .inl (cI, 12, .inl uF)), (bL, .inl (cI, 12, .inl uL)), (bH, .inl (cD, 12, .inr (.inr (.inr (.inl uH))))), (aM, .inr (1, [.ref aP, .ref aQ, .ref mS, .ref mR, .ref mT, .int (nI im)])), (aQ, .inl (cQ, 4, .inr (.inr (.inr (.inr (zq4 ro0 ro1 ro2 ro3)))))), (mS, .inl (cD, 4, .inr (.inr (.inr (.inl qS))))), (mR, .inl (cD, 4, .inr (.inr (.inr (.inl qU))))), (mT, .inl (cD, 4, .inr (.inr (.inr (.inl qO))))), (ro0, .inl (cD, (iw * ih), .inr (.inr (.inr (.inl e0))))), (ro1, .inl (cD, (iw * ih), .inr (.inr (.inr (.inl e1))))), (ro2, .inl (cD, (iw * ih), .inr (.inr (.inr (.inl e2))))), (ro3, .inl (cD, (iw * ih), .inr (.inr (.inr (.inl e3))))), (aK, .inr (1, [.ref aP, .ref kQ, .ref kS, .ref kR, .ref kT, .int (nI ik)])), (kQ, .inl (cQ, 4, .inr (.inr (.inr (.inr (zq4 ko0 ko1 ko2 ko3)))))), (kS, .inl (cD, 4, .inr (.inr (.inr (.inl ksq))))), (kR, .inl (cD, 4, .inr (.inr (.inr (.inl ksr))))), (kT, .inl (cD, 4, .inr (.inr (.inr (.inl kst))))), (ko0, .inl (cD, (iw * ih), .inr (.inr (.inr (.inl ke0))))), (ko1, .inl (cD, (iw * ih), .inr (.inr (.inr (.inl ke1))))), (ko2, .inl (cD, (iw * ih), .inr (.inr (.inr (.inl ke2))))), (ko3, .inl (cD, (iw * ih), .inr (.inr (.inr (.inl ke3))))), (aW, .inr (3, [.ref pW, .ref pX, .int (nI iq1)])), (pW, .inl (cI, 4, .inl tW1)), (pX, .inl (cD, 4, .inr (.inr (.inr (.inl tX1))))), (oL, .inl (cL, 1, .inr (.inl ol1))), (oD, .inl (cD, 1, .inr (.inr (.inr (.inl od)))))]) (w1 := (w5 r0 rT rE rG rR rN rS rQ rW rX cD cI th1 iw ih fa fb fd nb mk i5 jq1 fT fE fG fR fN fS fQ fW1 fX1)) hP hD [31, 32, 33, 34, 35, 36, 37, 38, 39, 40] [0, 1, 2, 3, 4, 5, 6, 7, 8, 9, 10, 11, 12, 13, 14, 15, 16, 17, 18, 19, 20, 21, 22, 23, 24, 25, 26, 27, 28, 29, 30, 41, 42] rfl rfl (by decide) (by decide) hk1 hFc hP1 hD1
  generalize H1 = H at hP hS ⊢
  have hP : va_P (dC, dI) vwCl (w9 aC aP pT pR pN pB bP bF bL bH aM aQ mS mR mT ro0 ro1 ro2 ro3 aK kQ kS kR kT ko0 ko1 ko2 ko3 aW pW pX r0 rT rE rG rR rN rS rQ rW rX oL oD cD cI cQ cL iw ih al ac de nb im ik iq1 tT tR tN uP uF uL uH e0 e1 e2 e3 qS qU qO ke0 ke1 ke2 ke3 ksq ksr kst tW1 tX1 th1 fa fb fd nb mk i5 jq1 fT fE fG fR fN fS fQ fW1 fX1 ol1 od) H := hP.sub (ws' := (w9 aC aP pT pR pN pB bP bF bL bH aM aQ mS mR mT ro0 ro1 ro2 ro3 aK kQ kS kR kT ko0 ko1 ko2 ko3 aW pW pX r0 rT rE rG rR rN rS rQ rW rX oL oD cD cI cQ cL iw ih al ac de nb im ik iq1 tT tR tN uP uF uL uH e0 e1 e2 e3 qS qU qO ke0 ke1 ke2 ke3 ksq ksr kst tW1 tX1 th1 fa fb fd nb mk i5 jq1 fT fE fG fR fN fS fQ fW1 fX1 ol1 od)) [0, 1, 2, 3, 4, 5, 6, 7, 8, 9, 10, 11, 12, 13, 14, 15, 16, 17, 18, 19, 20, 21, 22, 23, 24, 25, 26, 27, 28, 29, 30, 33, 34, 35, 36, 37, 38, 39, 40, 41, 42, 31, 32] rfl
  have hD : va_D (zAn s) (w9 aC aP pT pR pN pB bP bF bL bH aM aQ mS mR mT ro0 ro1 ro2 ro3 aK kQ kS kR kT ko0 ko1 ko2 ko3 aW pW pX r0 rT rE rG rR rN rS rQ rW rX oL oD cD cI cQ cL iw ih al ac de nb im ik iq1 tT tR tN uP uF uL uH e0 e1 e2 e3 qS qU qO ke0 ke1 ke2 ke3 ksq ksr kst tW1 tX1 th1 fa fb fd nb mk i5 jq1 fT fE fG fR fN fS fQ fW1 fX1 ol1 od) := hD.sub (ws' := (w9 aC aP pT pR pN pB bP bF bL bH aM aQ mS mR mT ro0 ro1 ro2 ro3 aK kQ kS kR kT ko0 ko1 ko2 ko3 aW pW pX r0 rT rE rG rR rN rS rQ rW rX oL oD cD cI cQ cL iw ih al ac de nb im ik iq1 tT tR tN uP uF uL uH e0 e1 e2 e3 qS qU qO ke0 ke1 ke2 ke3 ksq ksr kst tW1 tX1 th1 fa fb fd nb mk i5 jq1 fT fE fG fR fN fS fQ fW1 fX1 ol1 od)) [0, 1, 2, 3, 4, 5, 6, 7, 8, 9, 10, 11, 12, 13, 14, 15, 16, 17, 18, 19, 20, 21, 22, 23, 24, 25, 26, 27, 28, 29, 30, 33, 34, 35, 36, 37, 38, 39, 40, 41, 42, 31, 32] (by decide) rfl
  obtain ⟨hp50, hp51, hp52⟩ := hp5
  have hth : th1 = nI (zcWt iq (xs (i + 1)) (zv r1)) := hp50.trans (by rw [hr3, hr1])
  subst hth
  have hP : va_P (dC, dI) vwCl (w9 aC aP pT pR pN pB bP bF bL bH aM aQ mS mR mT ro0 ro1 ro2 ro3 aK kQ kS kR kT ko0 ko1 ko2 ko3 aW pW pX r0 rT rE rG rR rN rS rQ rW rX oL oD cD cI cQ cL iw ih al ac de nb im ik iq1 tT tR tN uP uF uL uH e0 e1 e2 e3 qS qU qO ke0 ke1 ke2 ke3 ksq ksr kst tW1 tX1 (nI (zcWt iq (xs (i + 1)) (zv r1))) fa fb fd nb mk i5 jq1 fT fE fG fR fN fS fQ fW1 fX1 ol1 od) H := hP
  have hD : va_D (zAn s) (w9 aC aP pT pR pN pB bP bF bL bH aM aQ mS mR mT ro0 ro1 ro2 ro3 aK kQ kS kR kT ko0 ko1 ko2 ko3 aW pW pX r0 rT rE rG rR rN rS rQ rW rX oL oD cD cI cQ cL iw ih al ac de nb im ik iq1 tT tR tN uP uF uL uH e0 e1 e2 e3 qS qU qO ke0 ke1 ke2 ke3 ksq ksr kst tW1 tX1 (nI (zcWt iq (xs (i + 1)) (zv r1))) fa fb fd nb mk i5 jq1 fT fE fG fR fN fS fQ fW1 fX1 ol1 od) := hD
  obtain ⟨hjq9, hans5, wn1, ws1, hI⟩ := zI_want hI (show zv r1 = zvv _ from hr1) (show zv r3 = zvv _ from hr3) (fun q => (hc0 q).2) (fun q => ⟨(hc1 q).1, (hc1 q).2.1, (hc1 q).2.2.1⟩) hp51 hp52
  subst hjq9
  have hP : va_P (dC, dI) vwCl (w9 aC aP pT pR pN pB bP bF bL bH aM aQ mS mR mT ro0 ro1 ro2 ro3 aK kQ kS kR kT ko0 ko1 ko2 ko3 aW pW pX r0 rT rE rG rR rN rS rQ rW rX oL oD cD cI cQ cL iw ih al ac de nb im ik jq1 tT tR tN uP uF uL uH e0 e1 e2 e3 qS qU qO ke0 ke1 ke2 ke3 ksq ksr kst tW1 tX1 (nI (zcWt iq (xs (i + 1)) (zv r1))) fa fb fd nb mk i5 jq1 fT fE fG fR fN fS fQ fW1 fX1 ol1 od) H := hP
  have hD : va_D (zAn s) (w9 aC aP pT pR pN pB bP bF bL bH aM aQ mS mR mT ro0 ro1 ro2 ro3 aK kQ kS kR kT ko0 ko1 ko2 ko3 aW pW pX r0 rT rE rG rR rN rS rQ rW rX oL oD cD cI cQ cL iw ih al ac de nb im ik jq1 tT tR tN uP uF uL uH e0 e1 e2 e3 qS qU qO ke0 ke1 ke2 ke3 ksq ksr kst tW1 tX1 (nI (zcWt iq (xs (i + 1)) (zv r1))) fa fb fd nb mk i5 jq1 fT fE fG fR fN fS fQ fW1 fX1 ol1 od) := hD
  refine lv_istore (lv' := [(7, .int r1045), (6, .int (nI ((zcWt iq (xs (i + 1)) (zv r1))))), (5, .int (nI i)), (4, .ref oD), (3, .ref oL), (2, .ref r0), (1, .ref aC), (0, .ref b)]) hx hb dL_law_1048 hl (by decide) rfl (fun ls hl => ?_)
  refine lv_aload_n hx hb dL_law_1050 rfl (lv_at hl 5 rfl) ?_
  have hPc := hP.sub (ws' := (w5 r0 rT rE rG rR rN rS rQ rW rX cD cI (nI (zcWt iq (xs (i + 1)) (zv r1))) iw ih fa fb fd nb mk i5 jq1 fT fE fG fR fN fS fQ fW1 fX1)) [31, 32, 33, 34, 35, 36, 37, 38, 39, 40] rfl
  refine va_calli (va_runV (As := []) (rest := []) ⟨hx, hb, hml, hown, (dr_words hts d4)⟩ (c5_thrown l dC dI r0 rT rE rG rR rN rS rQ rW rX cD cI (nI (zcWt iq (xs (i + 1)) (zv r1))) iw ih fa fb fd nb mk i5 jq1 fT fE fG fR fN fS fQ fW1 fX1) (cwV 0 (dr_words hts d4) gL_law_X5_thrown rfl rfl rfl (by decide +kernel) ⟨(Nat.le_of_ble_eq_true rfl), (Nat.le_of_ble_eq_true rfl)⟩) ⟨zfb, va_recv hK2 hPc (ci := 5) (q0 := 0) rfl rfl, zpre hPc hK2⟩ rfl rfl hl.1 rfl (lv_room (Nat.le_of_ble_eq_true rfl)) dL_law_1051 ⟨by show cells + 3 + 0 + 0 ≤ 627331; omega, by show slots + 18 + 0 + 0 ≤ 7214076; omega⟩) hS (fun q _ h => h.elim) (fun q h => h.elim) (fun r1051 u9 t9 H locs ht9 hvm9 hth9 hB9 hz9 hk1 hS => ?_)
  have hP := zro1 hP hk1
  subst hth9
  have hfin : zSt dC dI cD cI cQ cL aC r0 oL oD (zAn s) s.heap H locs := ⟨aP, pT, pR, pN, pB, bP, bF, bL, bH, aM, aQ, mS, mR, mT, ro0, ro1, ro2, ro3, aK, kQ, kS, kR, kT, ko0, ko1, ko2, ko3, aW, pW, pX, rT, rE, rG, rR, rN, rS, rQ, rW, rX, iw, ih, al, ac, de, nb, im, ik, jq1, tT, tR, tN, uP, uF, uL, uH, e0, e1, e2, e3, qS, qU, qO, ke0, ke1, ke2, ke3, ksq, ksr, kst, tW1, tX1, (nI (zcWt iq (xs (i + 1)) (zv r1))), fa, fb, fd, nb, mk, i5, jq1, fT, fE, fG, fR, fN, fS, fQ, fW1, fX1, ol1, od, T, bx0, by0, bx1, by1, bg, wn1, ws1, ⟨rfl, rfl⟩, hI, hP, hD, hS⟩
  refine lv_iload hx hb dL_law_1054 (lv_at hl 1 rfl) ?_
  refine lv_icmp_eq (tgt := 1061) hx hb dL_law_1056 (by decide) (fun _ => ?_) (fun q => absurd rfl q)
  refine lv_iload hx hb dL_law_1061 (lv_at hl 1 rfl) ?_
  refine z_if_ne (tgt := 1078) hx hb (by omega) dL_law_1063 (by decide) (fun cx5 => ?_) (fun cx6 => ?_)
  · skip
    refine lv_goto (tgt := 1357) hx hb dL_law_1078 (by decide) ?_
    refine W.widen (k := cells + 4) (n := slots + 24) (by omega) (by omega) ?_
    exact kk _ _ _ _ hd4 hfin (lv_sub hl [2, 3, 4, 5, 6, 7] rfl)
  · skip
    have hz := cx6
    have hans : ol1 0 = (r1045).toInt64 := by rw [(hc0 hz).1, zu_s, hans5 hz]
    refine lv_aload_n hx hb dL_law_1066 rfl (lv_at hl 4 rfl) ?_
    refine lv_iconst (v := (nI 0)) hx hb dL_law_1067 (by decide) ?_
    refine z_lald (s := s.setDrawn d4) (n := 1) (i := 0) hx hb hK hP 41 3 rfl rfl (by decide) (by decide) dL_law_1068 ?_
    refine lv_iload hx hb dL_law_1069 (lv_at hl 0 rfl) ?_
    refine lv_i2l hx hb dL_law_1071 rfl ?_
    refine z_lceq (tgt := 1078) hx hb hans dL_law_1072 dL_law_1073 (by decide) ?_
    refine lv_goto (tgt := 1357) hx hb dL_law_1078 (by decide) ?_
    refine W.widen (k := cells + 4) (n := slots + 24) (by omega) (by omega) ?_
    exact kk _ _ _ _ hd4 hfin (lv_sub hl [2, 3, 4, 5, 6, 7] rfl)
