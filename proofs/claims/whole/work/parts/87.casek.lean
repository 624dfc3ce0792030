set_option maxHeartbeats 4000000 in
set_option maxRecDepth 100000 in
/-- the law: sum -/
theorem law_12 {p : Program} {l : Launch} {e : Env} {s : State} {m : MethodId} {below : List Frame} {meth : Method} {c : Code} {b L : Nat} {xs : Nat → Int32} {dC : Nat → ClassId} {dI : Nat → Nat → Nat} {cD cI cQ cL : ClassId} (C0 : zCx p l s m meth c b L xs dC dI cD cI cQ cL) {aC r0 oL oD i : Nat} (hi : i + 6 ≤ L) {d0 : Drawn} (hd0 : s.drawn.sameBut d0 lw_cs) {H : Heap} {locs : List Loc} {ls : Array Slot} {cells slots : Nat} (hc : cells + 8 ≤ 627331) (hn : slots + 48 ≤ 7214076) (hSt : zSt dC dI cD cI cQ cL aC r0 oL oD (zAn s) s.heap H locs) (hl : lv_has ls 10 [(5, .int (nI i)), (4, .ref oD), (3, .ref oL), (2, .ref r0), (1, .ref aC), (0, .ref b)])
    (kk : ∀ (d1 : Drawn) (H1 : Heap) (locs1 : List Loc) (ls1 : Array Slot), s.drawn.sameBut d1 lw_cs → zSt dC dI cD cI cQ cL aC r0 oL oD (zAn s) s.heap H1 locs1 → lv_has ls1 10 [(5, .int (nI i)), (4, .ref oD), (3, .ref oL), (2, .ref r0), (1, .ref aC), (0, .ref b)] → W p l e room_1 (s.setDrawn d1) m #[Value.ref b] below meth c H1 locs1 (cells + 4) (slots + 24) (lw_Z below #[Value.ref b] s) (F0 m 1357 ls1 [])) : W p l e room_1 (s.setDrawn d0) m #[Value.ref b] below meth c H locs cells slots (lw_Z below #[Value.ref b] s) (F0 m 1169 ls []) := by
  obtain ⟨hx, hb, hml, hown, hts, hX, hbl, hL, hst, hK, hN, hE, hXN⟩ := C0
  have hbA : ¬ zAn s b := Nat.not_le.mpr hbl
  have hA : ∀ q : Nat, s.heap.size ≤ q → zAn s q := fun _ h => h
  refine zSt_elim hSt (fun aP pT pR pN pB bP bF bL bH aM aQ mS mR mT ro0 ro1 ro2 ro3 aK kQ kS kR kT ko0 ko1 ko2 ko3 aW pW pX rT rE rG rR rN rS rQ rW rX iw ih al ac de nb im ik iq tT tR tN uP uF uL uH e0 e1 e2 e3 qS qU qO ke0 ke1 ke2 ke3 ksq ksr kst tW tX th fa fb fd ib mk i5 jq fT fE fG fR fN fS fQ fW fX ol od T bx0 by0 bx1 by1 bg wn ws ⟨hib, hjq⟩ hI hP hD hS => ?_)
  subst hib
  subst hjq
  obtain ⟨⟨w2, hw6, h2, hh6⟩, ⟨gT, g5T, hG⟩, ⟨rA, rC, rD, _⟩, ⟨b12, gBr, gE, gB, gH, g5H, gR⟩, ⟨hq4, gW, g5W, gw4, gX, g5X⟩, hqc, hq5, hm⟩ := id hI
  have hOK := zI_OK hI
  have hK3 := hK.sub (tys' := [(cD, .double), (cI, .int), (cQ, .array .double)]) [0, 1, 2] rfl
  have hK2 := hK.sub (tys' := [(cD, .double), (cI, .int)]) [0, 1] rfl
  have hP : va_P (dC, dI) vwCl (w9 aC aP pT pR pN pB bP bF bL bH aM aQ mS mR mT ro0 ro1 ro2 ro3 aK kQ kS kR kT ko0 ko1 ko2 ko3 aW pW pX r0 rT rE rG rR rN rS rQ rW rX oL oD cD cI cQ cL iw ih al ac de nb im ik iq tT tR tN uP uF uL uH e0 e1 e2 e3 qS qU qO ke0 ke1 ke2 ke3 ksq ksr kst tW tX th fa fb fd nb mk i5 iq fT fE fG fR fN fS fQ fW fX ol od) H := hP
  refine lv_aload_n hx hb dL_law_1169 rfl (lv_at hl 4 rfl) ?_
  refine lv_aload hx hb dL_law_1170 (lv_at hl 1 rfl) ?_
  have hPc := hP.sub (ws' := (w4d oD aC aP pT pR pN pB bP bF bL bH aM aQ mS mR mT ro0 ro1 ro2 ro3 aK kQ kS kR kT ko0 ko1 ko2 ko3 aW pW pX cD cI cQ iw ih al ac de nb im ik iq tT tR tN uP uF uL uH e0 e1 e2 e3 qS qU qO ke0 ke1 ke2 ke3 ksq ksr kst tW tX od)) [0, 1, 2, 3, 4, 5, 6, 7, 8, 9, 10, 11, 12, 13, 14, 15, 16, 17, 18, 19, 20, 21, 22, 23, 24, 25, 26, 27, 28, 29, 30, 42] rfl
  have hDc := hD.sub (ws' := (w4d oD aC aP pT pR pN pB bP bF bL bH aM aQ mS mR mT ro0 ro1 ro2 ro3 aK kQ kS kR kT ko0 ko1 ko2 ko3 aW pW pX cD cI cQ iw ih al ac de nb im ik iq tT tR tN uP uF uL uH e0 e1 e2 e3 qS qU qO ke0 ke1 ke2 ke3 ksq ksr kst tW tX od)) [0, 1, 2, 3, 4, 5, 6, 7, 8, 9, 10, 11, 12, 13, 14, 15, 16, 17, 18, 19, 20, 21, 22, 23, 24, 25, 26, 27, 28, 29, 30, 42] (by decide) rfl
  have hFc := va_free (wc := (w4d oD aC aP pT pR pN pB bP bF bL bH aM aQ mS mR mT ro0 ro1 ro2 ro3 aK kQ kS kR kT ko0 ko1 ko2 ko3 aW pW pX cD cI cQ iw ih al ac de nb im ik iq tT tR tN uP uF uL uH e0 e1 e2 e3 qS qU qO ke0 ke1 ke2 ke3 ksq ksr kst tW tX od)) hD hS hA [0, 1, 2, 3, 4, 5, 6, 7, 8, 9, 10, 11, 12, 13, 14, 15, 16, 17, 18, 19, 20, 21, 22, 23, 24, 25, 26, 27, 28, 29, 30, 42] rfl
  refine va_calliD hd0 (zy_runSWD (As := [.ref aC, .ref oD]) (rest := []) ⟨hx, hb, hml, hown, (dr_words hts d0)⟩ (cL_sum_c l hst dC dI aC aP pT pR pN pB bP bF bL bH aM aQ mS mR mT ro0 ro1 ro2 ro3 aK kQ kS kR kT ko0 ko1 ko2 ko3 aW pW pX cD cI cQ cL iw ih al ac de nb im ik iq tT tR tN uP uF uL uH e0 e1 e2 e3 qS qU qO ke0 ke1 ke2 ke3 ksq ksr kst tW tX oD od hw6 hh6 T _ _ gT hqc wn hq4 gW gw4 ws gX _) (vx_cwSW 2 (dr_words hts d0) gL_law_L_sum rfl rfl rfl (by decide +kernel) ⟨(Nat.le_of_ble_eq_true rfl), (Nat.le_of_ble_eq_true rfl)⟩) ⟨zfbwH, zprewH hPc hK hDc (by first | exact hN.sd | exact hN) (by first | exact hE.sd | exact hE) (by first | exact hXN.sd | exact hXN) hS hFc⟩ rfl rfl hl.1 rfl (lv_room (Nat.le_of_ble_eq_true rfl)) dL_law_1172 ⟨by show cells + 1 ≤ 627331; omega, by show slots + 6 ≤ 7214076; omega⟩) hS (fun q _ h => hFc q h) hFc (fun r1172 od1 t9 H1 locs ht9 hvm9 hpost hB9 hz9 hk1 hS d1172 hd1172 => ?_)
  obtain ⟨hP1, hK1, hD1⟩ := hB9
  rw [ht9] at hP1
  obtain ⟨hP, hD⟩ := va_join (wr := [(r0, .inr (5, [.int th, .int (nI iw), .int (nI ih), .ref rT, .double fa, .double fb, .double fd, .int (nI nb), .ref rE, .ref rG, .ref rR, .ref rN, .int (zb mk), .int (nI i5), .ref rS, .ref rQ, .int (nI iq), .ref rW, .ref rX])), (rT, .inl (cD, 36, .inr (.inr (.inr (.inl fT))))), (rE, .inl (cI, 48, .inl fE)), (rG, .inl (cD, 12, .inr (.inr (.inr (.inl fG))))), (rR, .inl (cD, 36, .inr (.inr (.inr (.inl fR))))), (rN, .inl (cD, 36, .inr (.inr (.inr (.inl fN))))), (rS, .inl (cD, 144, .inr (.inr (.inr (.inl fS))))), (rQ, .inl (cD, 4, .inr (.inr (.inr (.inl fQ))))), (rW, .inl (cI, 4, .inl fW)), (rX, .inl (cD, 4, .inr (.inr (.inr (.inl fX))))), (oL, .inl (cL, 1, .inr (.inl ol)))]) (w1 := (w4d oD aC aP pT pR pN pB bP bF bL bH aM aQ mS mR mT ro0 ro1 ro2 ro3 aK kQ kS kR kT ko0 ko1 ko2 ko3 aW pW pX cD cI cQ iw ih al ac de nb im ik iq tT tR tN uP uF uL uH e0 e1 e2 e3 qS qU qO ke0 ke1 ke2 ke3 ksq ksr kst tW tX od1)) hP hD [0, 1, 2, 3, 4, 5, 6, 7, 8, 9, 10, 11, 12, 13, 14, 15, 16, 17, 18, 19, 20, 21, 22, 23, 24, 25, 26, 27, 28, 29, 30, 42] [31, 32, 33, 34, 35, 36, 37, 38, 39, 40, 41] rfl rfl (by decide) (by decide) hk1 hFc hP1 hD1
  generalize H1 = H at hP hS ⊢
  have hP : va_P (dC, dI) vwCl (w9 aC aP pT pR pN pB bP bF bL bH aM aQ mS mR mT ro0 ro1 ro2 ro3 aK kQ kS kR kT ko0 ko1 ko2 ko3 aW pW pX r0 rT rE rG rR rN rS rQ rW rX oL oD cD cI cQ cL iw ih al ac de nb im ik iq tT tR tN uP uF uL uH e0 e1 e2 e3 qS qU qO ke0 ke1 ke2 ke3 ksq ksr kst tW tX th fa fb fd nb mk i5 iq fT fE fG fR fN fS fQ fW fX ol od1) H := hP.sub (ws' := (w9 aC aP pT pR pN pB bP bF bL bH aM aQ mS mR mT ro0 ro1 ro2 ro3 aK kQ kS kR kT ko0 ko1 ko2 ko3 aW pW pX r0 rT rE rG rR rN rS rQ rW rX oL oD cD cI cQ cL iw ih al ac de nb im ik iq tT tR tN uP uF uL uH e0 e1 e2 e3 qS qU qO ke0 ke1 ke2 ke3 ksq ksr kst tW tX th fa fb fd nb mk i5 iq fT fE fG fR fN fS fQ fW fX ol od1)) [11, 12, 13, 14, 15, 16, 17, 18, 19, 20, 21, 22, 23, 24, 25, 26, 27, 28, 29, 30, 31, 32, 33, 34, 35, 36, 37, 38, 39, 40, 41, 0, 1, 2, 3, 4, 5, 6, 7, 8, 9, 10, 42] rfl
  have hD : va_D (zAn s) (w9 aC aP pT pR pN pB bP bF bL bH aM aQ mS mR mT ro0 ro1 ro2 ro3 aK kQ kS kR kT ko0 ko1 ko2 ko3 aW pW pX r0 rT rE rG rR rN rS rQ rW rX oL oD cD cI cQ cL iw ih al ac de nb im ik iq tT tR tN uP uF uL uH e0 e1 e2 e3 qS qU qO ke0 ke1 ke2 ke3 ksq ksr kst tW tX th fa fb fd nb mk i5 iq fT fE fG fR fN fS fQ fW fX ol od1) := hD.sub (ws' := (w9 aC aP pT pR pN pB bP bF bL bH aM aQ mS mR mT ro0 ro1 ro2 ro3 aK kQ kS kR kT ko0 ko1 ko2 ko3 aW pW pX r0 rT rE rG rR rN rS rQ rW rX oL oD cD cI cQ cL iw ih al ac de nb im ik iq tT tR tN uP uF uL uH e0 e1 e2 e3 qS qU qO ke0 ke1 ke2 ke3 ksq ksr kst tW tX th fa fb fd nb mk i5 iq fT fE fG fR fN fS fQ fW fX ol od1)) [11, 12, 13, 14, 15, 16, 17, 18, 19, 20, 21, 22, 23, 24, 25, 26, 27, 28, 29, 30, 31, 32, 33, 34, 35, 36, 37, 38, 39, 40, 41, 0, 1, 2, 3, 4, 5, 6, 7, 8, 9, 10, 42] (by decide) rfl
  obtain ⟨hk9, hc0, hc1⟩ := hpost
  have hkle : zcS iq im (zneed wn iq) ≤ 3 := Nat.le_trans zcS_le (by decide)
  subst hk9
  refine lv_istore (lv' := [(6, .int (nI ((zcS iq im (zneed wn iq))))), (5, .int (nI i)), (4, .ref oD), (3, .ref oL), (2, .ref r0), (1, .ref aC), (0, .ref b)]) hx hb dL_law_1175 hl (by decide) rfl (fun ls hl => ?_)
  refine lv_aload_n hx hb dL_law_1177 rfl (lv_at hl 4 rfl) ?_
  have hPc := hP.sub (ws' := (w5 r0 rT rE rG rR rN rS rQ rW rX cD cI th iw ih fa fb fd nb mk i5 iq fT fE fG fR fN fS fQ fW fX)) [31, 32, 33, 34, 35, 36, 37, 38, 39, 40] rfl
  have hDc := hD.sub (ws' := (w5 r0 rT rE rG rR rN rS rQ rW rX cD cI th iw ih fa fb fd nb mk i5 iq fT fE fG fR fN fS fQ fW fX)) [31, 32, 33, 34, 35, 36, 37, 38, 39, 40] (by decide) rfl
  have hFc := va_free (wc := (w5 r0 rT rE rG rR rN rS rQ rW rX cD cI th iw ih fa fb fd nb mk i5 iq fT fE fG fR fN fS fQ fW fX)) hD hS hA [31, 32, 33, 34, 35, 36, 37, 38, 39, 40] rfl
  refine va_calldD hd1172 (va_runV_D (As := []) (rest := []) ⟨hx, hb, hml, hown, (dr_words hts d1172)⟩ (c5_sum l dC dI r0 rT rE rG rR rN rS rQ rW rX cD cI th iw ih fa fb fd nb mk i5 iq fT fE fG fR fN fS fQ fW fX T _ _ g5T hw6 hh6 hq5 wn hq4 g5W gw4 ws g5X _) (cwV 0 (dr_words hts d1172) gL_law_X5_sum rfl rfl rfl (by decide +kernel) ⟨(Nat.le_of_ble_eq_true rfl), (Nat.le_of_ble_eq_true rfl)⟩) ⟨zfbw, va_recv hK2 hPc (ci := 5) (q0 := 0) rfl rfl, zprew hPc hK2 hDc⟩ rfl rfl hl.1 rfl (lv_room (Nat.le_of_ble_eq_true rfl)) dL_law_1178 ⟨by show cells + 1 + 0 ≤ 627331; omega, by show slots + 6 + 0 ≤ 7214076; omega⟩) hS (fun q _ h => hFc q h) hFc (fun r1178 th1 t9 H1 locs ht9 hvm9 hp5 hB9 hz9 hk1 hS d1178 hd1178 => ?_)
  obtain ⟨hP1, hK1, hD1⟩ := hB9
  rw [ht9] at hP1
  obtain ⟨hP, hD⟩ := va_join (wr := [(aC, .inr (4, [.ref aP, .ref aM, .ref aK, .ref aW])), (aP, .inr (2, [.int (nI iw), .int (nI ih), .ref pT, .ref pR, .ref pN, .ref pB, .double al, .double ac, .double de])), (pT, .inl (cD, (iw * ih), .inr (.inr (.inr (.inl tT))))), (pR, .inl (cD, (iw * ih), .inr (.inr (.inr (.inl tR))))), (pN, .inl (cD, (iw * ih), .inr (.inr (.inr (.inl tN))))), (pB, .inr (0, [.ref bP, .ref bF, .ref bL, .ref bH, .int (nI nb)])), (bP, .inl (cI, 12, .inl uP)), (bF, .inl (cI, 12, .inl uF)), (bL, .inl (cI, 12, .inl uL)), (bH, .inl (cD, 12, .inr (.inr (.inr (.inl uH))))), (aM, .inr (1, [.ref aP, .ref aQ, .ref mS, .ref mR, .ref mT, .int (nI im)])), (aQ, .inl (cQ, 4, .inr (.inr (.inr (.inr (zq4 ro0 ro1 ro2 ro3)))))), (mS, .inl (cD, 4, .inr (.inr (.inr (.inl qS))))), (mR, .inl (cD, 4, .inr (.inr (.inr (.inl qU))))), (mT, .inl (cD, 4, .inr (.inr (.inr (.inl qO))))), (ro0, .inl (cD, (iw * ih), .inr (.inr (.inr (.inl e0))))), (ro1, .inl (cD, (iw * ih), .inr (.inr (.inr (.inl e1))))), (ro2, .inl (cD, (iw * ih), .inr (.inr (.inr (.inl e2))))), (ro3, .inl (cD, (iw * ih), .inr (.inr (.inr (.inl e3))))), (aK, .inr (1, [.ref aP, .ref kQ, .ref kS, .ref kR, .ref kT, .int (nI ik)])), (kQ, .inl (cQ, 4, .inr (.inr (.inr (.inr (zq4 ko0 ko1 ko2 ko3)))))), (kS, .inl (cD, 4, .inr (.inr (.inr (.inl ksq))))), (kR, .inl (cD, 4, .inr (.inr (.inr (.inl ksr))))), (kT, .inl (cD, 4, .inr (.inr (.inr (.inl kst))))), (ko0, .inl (cD, (iw * ih), .inr (.inr (.inr (.inl ke0))))), (ko1, .inl (cD, (iw * ih), .inr (.inr (.inr (.inl ke1))))), (ko2, .inl (cD, (iw * ih), .inr (.inr (.inr (.inl ke2))))), (ko3, .inl (cD, (iw * ih), .inr (.inr (.inr (.inl ke3))))), (aW, .inr (3, [.ref pW, .ref pX, .int (nI iq)])), (pW, .inl (cI, 4, .inl tW)), (pX, .inl (cD, 4, .inr (.inr (.inr (.inl tX))))), (oL, .inl (cL, 1, .inr (.inl ol))), (oD, .inl (cD, 1, .inr (.inr (.inr (.inl od1)))))]) (w1 := (w5 r0 rT rE rG rR rN rS rQ rW rX cD cI th1 iw ih fa fb fd nb mk i5 iq fT fE fG fR fN fS fQ fW fX)) hP hD [31, 32, 33, 34, 35, 36, 37, 38, 39, 40] [0, 1, 2, 3, 4, 5, 6, 7, 8, 9, 10, 11, 12, 13, 14, 15, 16, 17, 18, 19, 20, 21, 22, 23, 24, 25, 26, 27, 28, 29, 30, 41, 42] rfl rfl (by decide) (by decide) hk1 hFc hP1 hD1
  generalize H1 = H at hP hS ⊢
  have hP : va_P (dC, dI) vwCl (w9 aC aP pT pR pN pB bP bF bL bH aM aQ mS mR mT ro0 ro1 ro2 ro3 aK kQ kS kR kT ko0 ko1 ko2 ko3 aW pW pX r0 rT rE rG rR rN rS rQ rW rX oL oD cD cI cQ cL iw ih al ac de nb im ik iq tT tR tN uP uF uL uH e0 e1 e2 e3 qS qU qO ke0 ke1 ke2 ke3 ksq ksr kst tW tX th1 fa fb fd nb mk i5 iq fT fE fG fR fN fS fQ fW fX ol od1) H := hP.sub (ws' := (w9 aC aP pT pR pN pB bP bF bL bH aM aQ mS mR mT ro0 ro1 ro2 ro3 aK kQ kS kR kT ko0 ko1 ko2 ko3 aW pW pX r0 rT rE rG rR rN rS rQ rW rX oL oD cD cI cQ cL iw ih al ac de nb im ik iq tT tR tN uP uF uL uH e0 e1 e2 e3 qS qU qO ke0 ke1 ke2 ke3 ksq ksr kst tW tX th1 fa fb fd nb mk i5 iq fT fE fG fR fN fS fQ fW fX ol od1)) [0, 1, 2, 3, 4, 5, 6, 7, 8, 9, 10, 11, 12, 13, 14, 15, 16, 17, 18, 19, 20, 21, 22, 23, 24, 25, 26, 27, 28, 29, 30, 33, 34, 35, 36, 37, 38, 39, 40, 41, 42, 31, 32] rfl
  have hD : va_D (zAn s) (w9 aC aP pT pR pN pB bP bF bL bH aM aQ mS mR mT ro0 ro1 ro2 ro3 aK kQ kS kR kT ko0 ko1 ko2 ko3 aW pW pX r0 rT rE rG rR rN rS rQ rW rX oL oD cD cI cQ cL iw ih al ac de nb im ik iq tT tR tN uP uF uL uH e0 e1 e2 e3 qS qU qO ke0 ke1 ke2 ke3 ksq ksr kst tW tX th1 fa fb fd nb mk i5 iq fT fE fG fR fN fS fQ fW fX ol od1) := hD.sub (ws' := (w9 aC aP pT pR pN pB bP bF bL bH aM aQ mS mR mT ro0 ro1 ro2 ro3 aK kQ kS kR kT ko0 ko1 ko2 ko3 aW pW pX r0 rT rE rG rR rN rS rQ rW rX oL oD cD cI cQ cL iw ih al ac de nb im ik iq tT tR tN uP uF uL uH e0 e1 e2 e3 qS qU qO ke0 ke1 ke2 ke3 ksq ksr kst tW tX th1 fa fb fd nb mk i5 iq fT fE fG fR fN fS fQ fW fX ol od1)) [0, 1, 2, 3, 4, 5, 6, 7, 8, 9, 10, 11, 12, 13, 14, 15, 16, 17, 18, 19, 20, 21, 22, 23, 24, 25, 26, 27, 28, 29, 30, 33, 34, 35, 36, 37, 38, 39, 40, 41, 42, 31, 32] (by decide) rfl
  obtain ⟨hp50, hp51⟩ := hp5
  have hth : th1 = nI (zcS iq im (zneed wn iq)) := hp50.trans (by rw [hm])
  subst hth
  have hP : va_P (dC, dI) vwCl (w9 aC aP pT pR pN pB bP bF bL bH aM aQ mS mR mT ro0 ro1 ro2 ro3 aK kQ kS kR kT ko0 ko1 ko2 ko3 aW pW pX r0 rT rE rG rR rN rS rQ rW rX oL oD cD cI cQ cL iw ih al ac de nb im ik iq tT tR tN uP uF uL uH e0 e1 e2 e3 qS qU qO ke0 ke1 ke2 ke3 ksq ksr kst tW tX (nI (zcS iq im (zneed wn iq))) fa fb fd nb mk i5 iq fT fE fG fR fN fS fQ fW fX ol od1) H := hP
  have hD : va_D (zAn s) (w9 aC aP pT pR pN pB bP bF bL bH aM aQ mS mR mT ro0 ro1 ro2 ro3 aK kQ kS kR kT ko0 ko1 ko2 ko3 aW pW pX r0 rT rE rG rR rN rS rQ rW rX oL oD cD cI cQ cL iw ih al ac de nb im ik iq tT tR tN uP uF uL uH e0 e1 e2 e3 qS qU qO ke0 ke1 ke2 ke3 ksq ksr kst tW tX (nI (zcS iq im (zneed wn iq))) fa fb fd nb mk i5 iq fT fE fG fR fN fS fQ fW fX ol od1) := hD
  refine lv_dstore (lv' := [(7, .double r1178), (6, .int (nI ((zcS iq im (zneed wn iq))))), (5, .int (nI i)), (4, .ref oD), (3, .ref oL), (2, .ref r0), (1, .ref aC), (0, .ref b)]) hx hb dL_law_1181 hl (by decide) rfl (fun ls hl => ?_)
  refine lv_aload_n hx hb dL_law_1183 rfl (lv_at hl 5 rfl) ?_
  have hPc := hP.sub (ws' := (w5 r0 rT rE rG rR rN rS rQ rW rX cD cI (nI (zcS iq im (zneed wn iq))) iw ih fa fb fd nb mk i5 iq fT fE fG fR fN fS fQ fW fX)) [31, 32, 33, 34, 35, 36, 37, 38, 39, 40] rfl
  refine va_calli (va_runV (As := []) (rest := []) ⟨hx, hb, hml, hown, (dr_words hts d1178)⟩ (c5_thrown l dC dI r0 rT rE rG rR rN rS rQ rW rX cD cI (nI (zcS iq im (zneed wn iq))) iw ih fa fb fd nb mk i5 iq fT fE fG fR fN fS fQ fW fX) (cwV 0 (dr_words hts d1178) gL_law_X5_thrown rfl rfl rfl (by decide +kernel) ⟨(Nat.le_of_ble_eq_true rfl), (Nat.le_of_ble_eq_true rfl)⟩) ⟨zfb, va_recv hK2 hPc (ci := 5) (q0 := 0) rfl rfl, zpre hPc hK2⟩ rfl rfl hl.1 rfl (lv_room (Nat.le_of_ble_eq_true rfl)) dL_law_1184 ⟨by show cells + 1 + 0 + 0 ≤ 627331; omega, by show slots + 6 + 0 + 0 ≤ 7214076; omega⟩) hS (fun q _ h => h.elim) (fun q h => h.elim) (fun r1184 u9 t9 H locs ht9 hvm9 hth9 hB9 hz9 hk1 hS => ?_)
  have hP := zro1 hP hk1
  subst hth9
  have hfin : zSt dC dI cD cI cQ cL aC r0 oL oD (zAn s) s.heap H locs := ⟨aP, pT, pR, pN, pB, bP, bF, bL, bH, aM, aQ, mS, mR, mT, ro0, ro1, ro2, ro3, aK, kQ, kS, kR, kT, ko0, ko1, ko2, ko3, aW, pW, pX, rT, rE, rG, rR, rN, rS, rQ, rW, rX, iw, ih, al, ac, de, nb, im, ik, iq, tT, tR, tN, uP, uF, uL, uH, e0, e1, e2, e3, qS, qU, qO, ke0, ke1, ke2, ke3, ksq, ksr, kst, tW, tX, (nI (zcS iq im (zneed wn iq))), fa, fb, fd, nb, mk, i5, iq, fT, fE, fG, fR, fN, fS, fQ, fW, fX, ol, od1, T, bx0, by0, bx1, by1, bg, wn, ws, ⟨rfl, rfl⟩, hI, hP, hD, hS⟩
  refine lv_iload hx hb dL_law_1187 (lv_at hl 1 rfl) ?_
  refine lv_icmp_eq (tgt := 1194) hx hb dL_law_1189 (by decide) (fun _ => ?_) (fun q => absurd rfl q)
  refine lv_iload hx hb dL_law_1194 (lv_at hl 1 rfl) ?_
  refine z_if_ne (tgt := 1231) hx hb (by omega) dL_law_1196 (by decide) (fun cx1 => ?_) (fun cx2 => ?_)
  · skip
    refine lv_goto (tgt := 1357) hx hb dL_law_1231 (by decide) ?_
    refine W.widen (k := cells + 4) (n := slots + 24) (by omega) (by omega) ?_
    exact kk _ _ _ _ hd1178 hfin (lv_sub hl [2, 3, 4, 5, 6, 7] rfl)
  · skip
    have hz := cx2
    have hend := zq_end (zI_sum hI hz (hc0 hz) hp51)
    refine lv_aload hx hb dL_law_1199 (lv_at hl 3 rfl) ?_
    refine lv_iconst (v := (nI 0)) hx hb dL_law_1201 (by decide) ?_
    refine z_dald (s := s.setDrawn d1178) (n := 1) (i := 0) hx hb hK hP 42 0 rfl rfl (by decide) (by decide) dL_law_1202 ?_
    refine lv_dload hx hb dL_law_1203 (lv_at hl 0 rfl) ?_
    refine z_cmp_l_eq (tgt := 1231) hx hb (a := zv (od1 0)) (b := zv r1178) rfl rfl dL_law_1205 dL_law_1206 (by decide) (fun cx3 => ?_) (fun cx4 => ?_)
    · skip
      refine lv_goto (tgt := 1357) hx hb dL_law_1231 (by decide) ?_
      refine W.widen (k := cells + 4) (n := slots + 24) (by omega) (by omega) ?_
      exact kk _ _ _ _ hd1178 hfin (lv_sub hl [2, 3, 4, 5, 6, 7] rfl)
    · skip
      have hab := cx4
      refine lv_aload hx hb dL_law_1209 (lv_at hl 3 rfl) ?_
      refine lv_iconst (v := (nI 0)) hx hb dL_law_1211 (by decide) ?_
      refine z_dald (s := s.setDrawn d1178) (n := 1) (i := 0) hx hb hK hP 42 0 rfl rfl (by decide) (by decide) dL_law_1212 ?_
      refine lv_aload hx hb dL_law_1213 (lv_at hl 3 rfl) ?_
      refine lv_iconst (v := (nI 0)) hx hb dL_law_1215 (by decide) ?_
      refine z_dald (s := s.setDrawn d1178) (n := 1) (i := 0) hx hb hK hP 42 0 rfl rfl (by decide) (by decide) dL_law_1216 ?_
      refine z_cmp_l_eq (tgt := 1229) hx hb (a := zv (od1 0)) (b := zv (od1 0)) rfl rfl dL_law_1217 dL_law_1218 (by decide) (fun cx5 => ?_) (fun cx6 => ?_)
      · skip
        exact absurd (hend.elim (fun q => by rw [q] at hab; cases hab) (fun q => by rw [q.1] at cx5; cases cx5)) not_false
      · skip
        refine lv_dload hx hb dL_law_1221 (lv_at hl 0 rfl) ?_
        refine lv_dload hx hb dL_law_1223 (lv_at hl 0 rfl) ?_
        refine z_cmp_l_ne (tgt := 1231) hx hb (a := zv r1178) (b := zv r1178) rfl rfl dL_law_1225 dL_law_1226 (by decide) (fun cx7 => ?_) (fun cx8 => ?_)
        · skip
          refine lv_goto (tgt := 1357) hx hb dL_law_1231 (by decide) ?_
          refine W.widen (k := cells + 4) (n := slots + 24) (by omega) (by omega) ?_
          exact kk _ _ _ _ hd1178 hfin (lv_sub hl [2, 3, 4, 5, 6, 7] rfl)
        · skip
          exact absurd (hend.elim (fun q => by rw [q] at hab; cases hab) (fun q => by rw [q.2] at cx8; cases cx8)) not_false
