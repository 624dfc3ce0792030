set_option maxHeartbeats 4000000 in
set_option maxRecDepth 100000 in
/-- the law: rates -/
theorem law_1 {p : Program} {l : Launch} {e : Env} {s : State} {m : MethodId} {below : List Frame} {meth : Method} {c : Code} {b L : Nat} {xs : Nat → Int32} {dC : Nat → ClassId} {dI : Nat → Nat → Nat} {cD cI cQ cL : ClassId} (C0 : zCx p l s m meth c b L xs dC dI cD cI cQ cL) {aC r0 oL oD i : Nat} (hi : i + 6 ≤ L) {d0 : Drawn} (hd0 : s.drawn.sameBut d0 lw_cs) {H : Heap} {locs : List Loc} {ls : Array Slot} {cells slots : Nat} (hc : cells + 8 ≤ 627331) (hn : slots + 48 ≤ 7214076) (hSt : zSt dC dI cD cI cQ cL aC r0 oL oD (zAn s) s.heap H locs) (hl : lv_has ls 10 [(5, .int (nI i)), (4, .ref oD), (3, .ref oL), (2, .ref r0), (1, .ref aC), (0, .ref b)])
    (kk : ∀ (d1 : Drawn) (H1 : Heap) (locs1 : List Loc) (ls1 : Array Slot), s.drawn.sameBut d1 lw_cs → zSt dC dI cD cI cQ cL aC r0 oL oD (zAn s) s.heap H1 locs1 → lv_has ls1 10 [(5, .int (nI i)), (4, .ref oD), (3, .ref oL), (2, .ref r0), (1, .ref aC), (0, .ref b)] → W p l e room_1 (s.setDrawn d1) m #[Value.ref b] below meth c H1 locs1 (cells + 4) (slots + 24) (lw_Z below #[Value.ref b] s) (F0 m 1357 ls1 [])) : W p l e room_1 (s.setDrawn d0) m #[Value.ref b] below meth c H locs cells slots (lw_Z below #[Value.ref b] s) (F0 m 233 ls []) := by
  obtain ⟨hx, hb, hml, hown, hts, hX, hbl, hL, hst, hK, hN, hE, hXN⟩ := C0
  have hbA : ¬ zAn s b := Nat.not_le.mpr hbl
  have hA : ∀ q : Nat, s.heap.size ≤ q → zAn s q := fun _ h => h
  refine zSt_elim hSt (fun aP pT pR pN pB bP bF bL bH aM aQ mS mR mT ro0 ro1 ro2 ro3 aK kQ kS kR kT ko0 ko1 ko2 ko3 aW pW pX rT rE rG rR rN rS rQ rW rX iw ih al ac de nb im ik iq tT tR tN uP uF uL uH e0 e1 e2 e3 qS qU qO ke0 ke1 ke2 ke3 ksq ksr kst tW tX th fa fb fd ib mk i5 jq fT fE fG fR fN fS fQ fW fX ol od T bx0 by0 bx1 by1 bg wn ws ⟨hib, hjq⟩ hI hP hD hS => ?_)
  subst hib
  subst hjq
  obtain ⟨⟨w2, hw6, h2, hh6⟩, ⟨gT, g5T, hG⟩, ⟨rA, rC, rD, _⟩, ⟨b12, gBr, gE, gB, gH, g5H, gR⟩, ⟨hq4, gW, g5W, gw4, gX, g5X⟩, hqc, hq5, hm⟩ := id hI
  have hOK := zI_OK hI
  have hK3 := hK.sub (tys' := [(cD, .double), (cI, .int), (cQ, .array .double)]) [0, 1, 2] rfl
  have hK2 := hK.sub (tys' := [(cD, .double), (cI, .int)]) [0, 1] rfl
  have hP : va_P (dC, dI) vwCl (w9 aC aP pT pR pN pB bP bF bL bH aM aQ mS mR mT ro0 ro1 ro2 ro3 aK kQ kS kR kT ko0 ko1 ko2 ko3 aW pW pX r0 rT rE rG rR rN rS rQ rW rX oL oD cD cI cQ cL iw ih al ac de nb im ik iq tT tR tN uP uF uL uH e0 e1 e2 e3 qS qU qO ke0 ke1 ke2 ke3 ksq ksr kst tW tX th fa fb fd nb mk i5 iq fT fE fG fR fN fS fQ fW fX ol od) H := hP
  refine lv_aload_n hx hb dL_law_233 rfl (lv_at hl 4 rfl) ?_
  refine lv_aload_n hx hb dL_law_234 rfl (lv_at hl 5 rfl) ?_
  refine lv_iload hx hb dL_law_235 (lv_at hl 0 rfl) ?_
  refine lv_iconst (v := (nI 1)) hx hb dL_law_237 (by decide) ?_
  refine t_iadd hx hb dL_law_238 (v := nI (i + 1)) (zi_add (by omega)) ?_
  refine z_sld (s := s.setDrawn d0) (i := i + 1) hx hb hX hbl hbA hS (by omega) (by omega) dL_law_239 ?_
  refine lv_i2d hx hb dL_law_240 ?_
  refine lv_ldc2d (v := 4593671619917905920) hx hb hown (dr_words hts d0 _ hw_0) dL_law_241 ?_
  refine zr_dmul hd0 hx hb (a := zv (FP.i2d (xs (i + 1)))) (b := zv 4593671619917905920) rfl rfl dL_law_244 (fun r1 d2 hr1 hd2 => ?_)
  refine lv_aload_n hx hb dL_law_245 rfl (lv_at hl 5 rfl) ?_
  refine lv_iload hx hb dL_law_246 (lv_at hl 0 rfl) ?_
  refine lv_iconst (v := (nI 2)) hx hb dL_law_248 (by decide) ?_
  refine t_iadd hx hb dL_law_249 (v := nI (i + 2)) (zi_add (by omega)) ?_
  refine z_sld (s := s.setDrawn d2) (i := i + 2) hx hb hX hbl hbA hS (by omega) (by omega) dL_law_250 ?_
  refine lv_i2d hx hb dL_law_251 ?_
  refine lv_ldc2d (v := 4593671619917905920) hx hb hown (dr_words hts d2 _ hw_0) dL_law_252 ?_
  refine zr_dmul hd2 hx hb (a := zv (FP.i2d (xs (i + 2)))) (b := zv 4593671619917905920) rfl rfl dL_law_255 (fun r3 d4 hr3 hd4 => ?_)
  refine lv_aload_n hx hb dL_law_256 rfl (lv_at hl 5 rfl) ?_
  refine lv_iload hx hb dL_law_257 (lv_at hl 0 rfl) ?_
  refine lv_iconst (v := (nI 3)) hx hb dL_law_259 (by decide) ?_
  refine t_iadd hx hb dL_law_260 (v := nI (i + 3)) (zi_add (by omega)) ?_
  refine z_sld (s := s.setDrawn d4) (i := i + 3) hx hb hX hbl hbA hS (by omega) (by omega) dL_law_261 ?_
  refine lv_i2d hx hb dL_law_262 ?_
  refine lv_ldc2d (v := 4593671619917905920) hx hb hown (dr_words hts d4 _ hw_0) dL_law_263 ?_
  refine zr_dmul hd4 hx hb (a := zv (FP.i2d (xs (i + 3)))) (b := zv 4593671619917905920) rfl rfl dL_law_266 (fun r5 d6 hr5 hd6 => ?_)
  have hPc := hP.sub (ws' := (w4 aC aP pT pR pN pB bP bF bL bH aM aQ mS mR mT ro0 ro1 ro2 ro3 aK kQ kS kR kT ko0 ko1 ko2 ko3 aW pW pX cD cI cQ iw ih al ac de nb im ik iq tT tR tN uP uF uL uH e0 e1 e2 e3 qS qU qO ke0 ke1 ke2 ke3 ksq ksr kst tW tX)) [0, 1, 2, 3, 4, 5, 6, 7, 8, 9, 10, 11, 12, 13, 14, 15, 16, 17, 18, 19, 20, 21, 22, 23, 24, 25, 26, 27, 28, 29, 30] rfl
  have hDc := hD.sub (ws' := (w4 aC aP pT pR pN pB bP bF bL bH aM aQ mS mR mT ro0 ro1 ro2 ro3 aK kQ kS kR kT ko0 ko1 ko2 ko3 aW pW pX cD cI cQ iw ih al ac de nb im ik iq tT tR tN uP uF uL uH e0 e1 e2 e3 qS qU qO ke0 ke1 ke2 ke3 ksq ksr kst tW tX)) [0, 1, 2, 3, 4, 5, 6, 7, 8, 9, 10, 11, 12, 13, 14, 15, 16, 17, 18, 19, 20, 21, 22, 23, 24, 25, 26, 27, 28, 29, 30] (by decide) rfl
  have hFc := va_free (wc := (w4 aC aP pT pR pN pB bP bF bL bH aM aQ mS mR mT ro0 ro1 ro2 ro3 aK kQ kS kR kT ko0 ko1 ko2 ko3 aW pW pX cD cI cQ iw ih al ac de nb im ik iq tT tR tN uP uF uL uH e0 e1 e2 e3 qS qU qO ke0 ke1 ke2 ke3 ksq ksr kst tW tX)) hD hS hA [0, 1, 2, 3, 4, 5, 6, 7, 8, 9, 10, 11, 12, 13, 14, 15, 16, 17, 18, 19, 20, 21, 22, 23, 24, 25, 26, 27, 28, 29, 30] rfl
  refine va_calliD hd6 (zy_runSWD (As := [.ref aC, .double r1, .double r3, .double r5]) (rest := []) ⟨hx, hb, hml, hown, (dr_words hts d6)⟩ (cL_rates_c l hst dC dI aC aP pT pR pN pB bP bF bL bH aM aQ mS mR mT ro0 ro1 ro2 ro3 aK kQ kS kR kT ko0 ko1 ko2 ko3 aW pW pX cD cI cQ cL iw ih al ac de nb im ik iq tT tR tN uP uF uL uH e0 e1 e2 e3 qS qU qO ke0 ke1 ke2 ke3 ksq ksr kst tW tX r1 r3 r5 _) (vx_cwSW 4 (dr_words hts d6) gL_law_L_rates rfl rfl rfl (by decide +kernel) ⟨(Nat.le_of_ble_eq_true rfl), (Nat.le_of_ble_eq_true rfl)⟩) ⟨zfbwH, zprewH hPc hK hDc (by first | exact hN.sd | exact hN) (by first | exact hE.sd | exact hE) (by first | exact hXN.sd | exact hXN) hS hFc⟩ rfl rfl hl.1 rfl (lv_room (Nat.le_of_ble_eq_true rfl)) dL_law_267 ⟨by show cells + 3 ≤ 627331; omega, by show slots + 18 ≤ 7214076; omega⟩) hS (fun q _ h => hFc q h) hFc (fun r267 u9 t9 H1 locs ht9 hvm9 hpost hB9 hz9 hk1 hS d267 hd267 => ?_)
  obtain ⟨hP1, hK1, hD1⟩ := hB9
  rw [ht9] at hP1
  obtain ⟨al1, ac1, de1, im1⟩ := u9
  dsimp only at hP1 hD1 hpost
  obtain ⟨hP, hD⟩ := va_join (wr := [(r0, .inr (5, [.int th, .int (nI iw), .int (nI ih), .ref rT, .double fa, .double fb, .double fd, .int (nI nb), .ref rE, .ref rG, .ref rR, .ref rN, .int (zb mk), .int (nI i5), .ref rS, .ref rQ, .int (nI iq), .ref rW, .ref rX])), (rT, .inl (cD, 36, .inr (.inr (.inr (.inl fT))))), (rE, .inl (cI, 48, .inl fE)), (rG, .inl (cD, 12, .inr (.inr (.inr (.inl fG))))), (rR, .inl (cD, 36, .inr (.inr (.inr (.inl fR))))), (rN, .inl (cD, 36, .inr (.inr (.inr (.inl fN))))), (rS, .inl (cD, 144, .inr (.inr (.inr (.inl fS))))), (rQ, .inl (cD, 4, .inr (.inr (.inr (.inl fQ))))), (rW, .inl (cI, 4, .inl fW)), (rX, .inl (cD, 4, .inr (.inr (.inr (.inl fX))))), (oL, .inl (cL, 1, .inr (.inl ol))), (oD, .inl (cD, 1, .inr (.inr (.inr (.inl od)))))]) (w1 := (w4 aC aP pT pR pN pB bP bF bL bH aM aQ mS mR mT ro0 ro1 ro2 ro3 aK kQ kS kR kT ko0 ko1 ko2 ko3 aW pW pX cD cI cQ iw ih al1 ac1 de1 nb im1 ik iq tT tR tN uP uF uL uH e0 e1 e2 e3 qS qU qO ke0 ke1 ke2 ke3 ksq ksr kst tW tX)) hP hD [0, 1, 2, 3, 4, 5, 6, 7, 8, 9, 10, 11, 12, 13, 14, 15, 16, 17, 18, 19, 20, 21, 22, 23, 24, 25, 26, 27, 28, 29, 30] [31, 32, 33, 34, 35, 36, 37, 38, 39, 40, 41, 42] rfl rfl (by decide) (by decide) hk1 hFc hP1 hD1
  generalize H1 = H at hP hS ⊢
  have hP : va_P (dC, dI) vwCl (w9 aC aP pT pR pN pB bP bF bL bH aM aQ mS mR mT ro0 ro1 ro2 ro3 aK kQ kS kR kT ko0 ko1 ko2 ko3 aW pW pX r0 rT rE rG rR rN rS rQ rW rX oL oD cD cI cQ cL iw ih al1 ac1 de1 nb im1 ik iq tT tR tN uP uF uL uH e0 e1 e2 e3 qS qU qO ke0 ke1 ke2 ke3 ksq ksr kst tW tX th fa fb fd nb mk i5 iq fT fE fG fR fN fS fQ fW fX ol od) H := hP.sub (ws' := (w9 aC aP pT pR pN pB bP bF bL bH aM aQ mS mR mT ro0 ro1 ro2 ro3 aK kQ kS kR kT ko0 ko1 ko2 ko3 aW pW pX r0 rT rE rG rR rN rS rQ rW rX oL oD cD cI cQ cL iw ih al1 ac1 de1 nb im1 ik iq tT tR tN uP uF uL uH e0 e1 e2 e3 qS qU qO ke0 ke1 ke2 ke3 ksq ksr kst tW tX th fa fb fd nb mk i5 iq fT fE fG fR fN fS fQ fW fX ol od)) [12, 13, 14, 15, 16, 17, 18, 19, 20, 21, 22, 23, 24, 25, 26, 27, 28, 29, 30, 31, 32, 33, 34, 35, 36, 37, 38, 39, 40, 41, 42, 0, 1, 2, 3, 4, 5, 6, 7, 8, 9, 10, 11] rfl
  have hD : va_D (zAn s) (w9 aC aP pT pR pN pB bP bF bL bH aM aQ mS mR mT ro0 ro1 ro2 ro3 aK kQ kS kR kT ko0 ko1 ko2 ko3 aW pW pX r0 rT rE rG rR rN rS rQ rW rX oL oD cD cI cQ cL iw ih al1 ac1 de1 nb im1 ik iq tT tR tN uP uF uL uH e0 e1 e2 e3 qS qU qO ke0 ke1 ke2 ke3 ksq ksr kst tW tX th fa fb fd nb mk i5 iq fT fE fG fR fN fS fQ fW fX ol od) := hD.sub (ws' := (w9 aC aP pT pR pN pB bP bF bL bH aM aQ mS mR mT ro0 ro1 ro2 ro3 aK kQ kS kR kT ko0 ko1 ko2 ko3 aW pW pX r0 rT rE rG rR rN rS rQ rW rX oL oD cD cI cQ cL iw ih al1 ac1 de1 nb im1 ik iq tT tR tN uP uF uL uH e0 e1 e2 e3 qS qU qO ke0 ke1 ke2 ke3 ksq ksr kst tW tX th fa fb fd nb mk i5 iq fT fE fG fR fN fS fQ fW fX ol od)) [12, 13, 14, 15, 16, 17, 18, 19, 20, 21, 22, 23, 24, 25, 26, 27, 28, 29, 30, 31, 32, 33, 34, 35, 36, 37, 38, 39, 40, 41, 42, 0, 1, 2, 3, 4, 5, 6, 7, 8, 9, 10, 11] (by decide) rfl
  obtain ⟨hk9, hc0, hc1⟩ := hpost
  have hkle : zcR (zv r1) (zv r3) (zv r5) ≤ 3 := Nat.le_trans zcR_le (by decide)
  subst hk9
  refine lv_istore (lv' := [(6, .int (nI ((zcR (zv r1) (zv r3) (zv r5))))), (5, .int (nI i)), (4, .ref oD), (3, .ref oL), (2, .ref r0), (1, .ref aC), (0, .ref b)]) hx hb dL_law_270 hl (by decide) rfl (fun ls hl => ?_)
  refine lv_aload_n hx hb dL_law_272 rfl (lv_at hl 4 rfl) ?_
  refine lv_aload_n hx hb dL_law_273 rfl (lv_at hl 6 rfl) ?_
  refine lv_iload hx hb dL_law_274 (lv_at hl 1 rfl) ?_
  refine lv_iconst (v := (nI 1)) hx hb dL_law_276 (by decide) ?_
  refine t_iadd hx hb dL_law_277 (v := nI (i + 1)) (zi_add (by omega)) ?_
  refine z_sld (s := s.setDrawn d267) (i := i + 1) hx hb hX hbl hbA hS (by omega) (by omega) dL_law_278 ?_
  refine lv_i2d hx hb dL_law_279 ?_
  refine lv_ldc2d (v := 4593671619917905920) hx hb hown (dr_words hts d267 _ hw_0) dL_law_280 ?_
  refine zr_dmul hd267 hx hb (a := zv (FP.i2d (xs (i + 1)))) (b := zv 4593671619917905920) rfl rfl dL_law_283 (fun r7 d8 hr7 hd8 => ?_)
  refine lv_aload_n hx hb dL_law_284 rfl (lv_at hl 6 rfl) ?_
  refine lv_iload hx hb dL_law_285 (lv_at hl 1 rfl) ?_
  refine lv_iconst (v := (nI 2)) hx hb dL_law_287 (by decide) ?_
  refine t_iadd hx hb dL_law_288 (v := nI (i + 2)) (zi_add (by omega)) ?_
  refine z_sld (s := s.setDrawn d8) (i := i + 2) hx hb hX hbl hbA hS (by omega) (by omega) dL_law_289 ?_
  refine lv_i2d hx hb dL_law_290 ?_
  refine lv_ldc2d (v := 4593671619917905920) hx hb hown (dr_words hts d8 _ hw_0) dL_law_291 ?_
  refine zr_dmul hd8 hx hb (a := zv (FP.i2d (xs (i + 2)))) (b := zv 4593671619917905920) rfl rfl dL_law_294 (fun r9 d10 hr9 hd10 => ?_)
  refine lv_aload_n hx hb dL_law_295 rfl (lv_at hl 6 rfl) ?_
  refine lv_iload hx hb dL_law_296 (lv_at hl 1 rfl) ?_
  refine lv_iconst (v := (nI 3)) hx hb dL_law_298 (by decide) ?_
  refine t_iadd hx hb dL_law_299 (v := nI (i + 3)) (zi_add (by omega)) ?_
  refine z_sld (s := s.setDrawn d10) (i := i + 3) hx hb hX hbl hbA hS (by omega) (by omega) dL_law_300 ?_
  refine lv_i2d hx hb dL_law_301 ?_
  refine lv_ldc2d (v := 4593671619917905920) hx hb hown (dr_words hts d10 _ hw_0) dL_law_302 ?_
  refine zr_dmul hd10 hx hb (a := zv (FP.i2d (xs (i + 3)))) (b := zv 4593671619917905920) rfl rfl dL_law_305 (fun r11 d12 hr11 hd12 => ?_)
  have hPc := hP.sub (ws' := (w5 r0 rT rE rG rR rN rS rQ rW rX cD cI th iw ih fa fb fd nb mk i5 iq fT fE fG fR fN fS fQ fW fX)) [31, 32, 33, 34, 35, 36, 37, 38, 39, 40] rfl
  have hDc := hD.sub (ws' := (w5 r0 rT rE rG rR rN rS rQ rW rX cD cI th iw ih fa fb fd nb mk i5 iq fT fE fG fR fN fS fQ fW fX)) [31, 32, 33, 34, 35, 36, 37, 38, 39, 40] (by decide) rfl
  have hFc := va_free (wc := (w5 r0 rT rE rG rR rN rS rQ rW rX cD cI th iw ih fa fb fd nb mk i5 iq fT fE fG fR fN fS fQ fW fX)) hD hS hA [31, 32, 33, 34, 35, 36, 37, 38, 39, 40] rfl
  refine va_callv (va_runV (As := [.double r7, .double r9, .double r11]) (rest := []) ⟨hx, hb, hml, hown, (dr_words hts d12)⟩ (c5_rates l dC dI r0 rT rE rG rR rN rS rQ rW rX cD cI th iw ih fa fb fd nb mk i5 iq fT fE fG fR fN fS fQ fW fX r7 r9 r11 _) (cwV 3 (dr_words hts d12) gL_law_X5_rates rfl rfl rfl (by decide +kernel) ⟨(Nat.le_of_ble_eq_true rfl), (Nat.le_of_ble_eq_true rfl)⟩) ⟨zfbw, va_recv hK2 hPc (ci := 5) (q0 := 0) rfl rfl, zprew hPc hK2 hDc⟩ rfl rfl hl.1 rfl (lv_room (Nat.le_of_ble_eq_true rfl)) dL_law_306 ⟨by show cells + 3 + 0 ≤ 627331; omega, by show slots + 18 + 0 ≤ 7214076; omega⟩) hS (fun q _ h => hFc q h) hFc (fun u5 t9 H1 locs ht9 hvm9 hp5 hB9 hz9 hk1 hS => ?_)
  obtain ⟨hP1, hK1, hD1⟩ := hB9
  rw [ht9] at hP1
  obtain ⟨th1, fa1, fb1, fd1, mk1⟩ := u5
  dsimp only at hP1 hD1 hp5
  obtain ⟨hP, hD⟩ := va_join (wr := [(aC, .inr (4, [.ref aP, .ref aM, .ref aK, .ref aW])), (aP, .inr (2, [.int (nI iw), .int (nI ih), .ref pT, .ref pR, .ref pN, .ref pB, .double al1, .double ac1, .double de1])), (pT, .inl (cD, (iw * ih), .inr (.inr (.inr (.inl tT))))), (pR, .inl (cD, (iw * ih), .inr (.inr (.inr (.inl tR))))), (pN, .inl (cD, (iw * ih), .inr (.inr (.inr (.inl tN))))), (pB, .inr (0, [.ref bP, .ref bF, .ref bL, .ref bH, .int (nI nb)])), (bP, .inl (cI, 12, .inl uP)), (bF, .inl (cI, 12, .inl uF)), (bL, .inl (cI, 12, .inl uL)), (bH, .inl (cD, 12, .inr (.inr (.inr (.inl uH))))), (aM, .inr (1, [.ref aP, .ref aQ, .ref mS, .ref mR, .ref mT, .int (nI im1)])), (aQ, .inl (cQ, 4, .inr (.inr (.inr (.inr (zq4 ro0 ro1 ro2 ro3)))))), (mS, .inl (cD, 4, .inr (.inr (.inr (.inl qS))))), (mR, .inl (cD, 4, .inr (.inr (.inr (.inl qU))))), (mT, .inl (cD, 4, .inr (.inr (.inr (.inl qO))))), (ro0, .inl (cD, (iw * ih), .inr (.inr (.inr (.inl e0))))), (ro1, .inl (cD, (iw * ih), .inr (.inr (.inr (.inl e1))))), (ro2, .inl (cD, (iw * ih), .inr (.inr (.inr (.inl e2))))), (ro3, .inl (cD, (iw * ih), .inr (.inr (.inr (.inl e3))))), (aK, .inr (1, [.ref aP, .ref kQ, .ref kS, .ref kR, .ref kT, .int (nI ik)])), (kQ, .inl (cQ, 4, .inr (.inr (.inr (.inr (zq4 ko0 ko1 ko2 ko3)))))), (kS, .inl (cD, 4, .inr (.inr (.inr (.inl ksq))))), (kR, .inl (cD, 4, .inr (.inr (.inr (.inl ksr))))), (kT, .inl (cD, 4, .inr (.inr (.inr (.inl kst))))), (ko0, .inl (cD, (iw * ih), .inr (.inr (.inr (.inl ke0))))), (ko1, .inl (cD, (iw * ih), .inr (.inr (.inr (.inl ke1))))), (ko2, .inl (cD, (iw * ih), .inr (.inr (.inr (.inl ke2))))), (ko3, .inl (cD, (iw * ih), .inr (.inr (.inr (.inl ke3))))), (aW, .inr (3, [.ref pW, .ref pX, .int (nI iq)])), (pW, .inl (cI, 4, .inl tW)), (pX, .inl (cD, 4, .inr (.inr (.inr (.inl tX))))), (oL, .inl (cL, 1, .inr (.inl ol))), (oD, .inl (cD, 1, .inr (.inr (.inr (.inl od)))))]) (w1 := (w5 r0 rT rE rG rR rN rS rQ rW rX cD cI th1 iw ih fa1 fb1 fd1 nb mk1 i5 iq fT fE fG fR fN fS fQ fW fX)) hP hD [31, 32, 33, 34, 35, 36, 37, 38, 39, 40] [0, 1, 2, 3, 4, 5, 6, 7, 8, 9, 10, 11, 12, 13, 14, 15, 16, 17, 18, 19, 20, 21, 22, 23, 24, 25, 26, 27, 28, 29, 30, 41, 42] rfl rfl (by decide) (by decide) hk1 hFc hP1 hD1
  generalize H1 = H at hP hS ⊢
  have hP : va_P (dC, dI) vwCl (w9 aC aP pT pR pN pB bP bF bL bH aM aQ mS mR mT ro0 ro1 ro2 ro3 aK kQ kS kR kT ko0 ko1 ko2 ko3 aW pW pX r0 rT rE rG rR rN rS rQ rW rX oL oD cD cI cQ cL iw ih al1 ac1 de1 nb im1 ik iq tT tR tN uP uF uL uH e0 e1 e2 e3 qS qU qO ke0 ke1 ke2 ke3 ksq ksr kst tW tX th1 fa1 fb1 fd1 nb mk1 i5 iq fT fE fG fR fN fS fQ fW fX ol od) H := hP.sub (ws' := (w9 aC aP pT pR pN pB bP bF bL bH aM aQ mS mR mT ro0 ro1 ro2 ro3 aK kQ kS kR kT ko0 ko1 ko2 ko3 aW pW pX r0 rT rE rG rR rN rS rQ rW rX oL oD cD cI cQ cL iw ih al1 ac1 de1 nb im1 ik iq tT tR tN uP uF uL uH e0 e1 e2 e3 qS qU qO ke0 ke1 ke2 ke3 ksq ksr kst tW tX th1 fa1 fb1 fd1 nb mk1 i5 iq fT fE fG fR fN fS fQ fW fX ol od)) [0, 1, 2, 3, 4, 5, 6, 7, 8, 9, 10, 11, 12, 13, 14, 15, 16, 17, 18, 19, 20, 21, 22, 23, 24, 25, 26, 27, 28, 29, 30, 33, 34, 35, 36, 37, 38, 39, 40, 41, 42, 31, 32] rfl
  have hD : va_D (zAn s) (w9 aC aP pT pR pN pB bP bF bL bH aM aQ mS mR mT ro0 ro1 ro2 ro3 aK kQ kS kR kT ko0 ko1 ko2 ko3 aW pW pX r0 rT rE rG rR rN rS rQ rW rX oL oD cD cI cQ cL iw ih al1 ac1 de1 nb im1 ik iq tT tR tN uP uF uL uH e0 e1 e2 e3 qS qU qO ke0 ke1 ke2 ke3 ksq ksr kst tW tX th1 fa1 fb1 fd1 nb mk1 i5 iq fT fE fG fR fN fS fQ fW fX ol od) := hD.sub (ws' := (w9 aC aP pT pR pN pB bP bF bL bH aM aQ mS mR mT ro0 ro1 ro2 ro3 aK kQ kS kR kT ko0 ko1 ko2 ko3 aW pW pX r0 rT rE rG rR rN rS rQ rW rX oL oD cD cI cQ cL iw ih al1 ac1 de1 nb im1 ik iq tT tR tN uP uF uL uH e0 e1 e2 e3 qS qU qO ke0 ke1 ke2 ke3 ksq ksr kst tW tX th1 fa1 fb1 fd1 nb mk1 i5 iq fT fE fG fR fN fS fQ fW fX ol od)) [0, 1, 2, 3, 4, 5, 6, 7, 8, 9, 10, 11, 12, 13, 14, 15, 16, 17, 18, 19, 20, 21, 22, 23, 24, 25, 26, 27, 28, 29, 30, 33, 34, 35, 36, 37, 38, 39, 40, 41, 42, 31, 32] (by decide) rfl
  obtain ⟨hp50, hp51, hp52⟩ := hp5
  have hth : th1 = nI (zcR (zv r1) (zv r3) (zv r5)) := hp50.trans (by rw [hr7, hr9, hr11, hr1, hr3, hr5])
  subst hth
  have hP : va_P (dC, dI) vwCl (w9 aC aP pT pR pN pB bP bF bL bH aM aQ mS mR mT ro0 ro1 ro2 ro3 aK kQ kS kR kT ko0 ko1 ko2 ko3 aW pW pX r0 rT rE rG rR rN rS rQ rW rX oL oD cD cI cQ cL iw ih al1 ac1 de1 nb im1 ik iq tT tR tN uP uF uL uH e0 e1 e2 e3 qS qU qO ke0 ke1 ke2 ke3 ksq ksr kst tW tX (nI (zcR (zv r1) (zv r3) (zv r5))) fa1 fb1 fd1 nb mk1 i5 iq fT fE fG fR fN fS fQ fW fX ol od) H := hP
  have hD : va_D (zAn s) (w9 aC aP pT pR pN pB bP bF bL bH aM aQ mS mR mT ro0 ro1 ro2 ro3 aK kQ kS kR kT ko0 ko1 ko2 ko3 aW pW pX r0 rT rE rG rR rN rS rQ rW rX oL oD cD cI cQ cL iw ih al1 ac1 de1 nb im1 ik iq tT tR tN uP uF uL uH e0 e1 e2 e3 qS qU qO ke0 ke1 ke2 ke3 ksq ksr kst tW tX (nI (zcR (zv r1) (zv r3) (zv r5))) fa1 fb1 fd1 nb mk1 i5 iq fT fE fG fR fN fS fQ fW fX ol od) := hD
  have hI := zI_rates hI (show zv r1 = zvv _ from hr1) (show zv r3 = zvv _ from hr3) (show zv r5 = zvv _ from hr5) (show zv r7 = zvv _ from hr7) (show zv r9 = zvv _ from hr9) (show zv r11 = zvv _ from hr11) hc0 hc1 hp51 hp52
  refine lv_aload_n hx hb dL_law_309 rfl (lv_at hl 4 rfl) ?_
  have hPc := hP.sub (ws' := (w5 r0 rT rE rG rR rN rS rQ rW rX cD cI (nI (zcR (zv r1) (zv r3) (zv r5))) iw ih fa1 fb1 fd1 nb mk1 i5 iq fT fE fG fR fN fS fQ fW fX)) [31, 32, 33, 34, 35, 36, 37, 38, 39, 40] rfl
  refine va_calli (va_runV (As := []) (rest := []) ⟨hx, hb, hml, hown, (dr_words hts d12)⟩ (c5_thrown l dC dI r0 rT rE rG rR rN rS rQ rW rX cD cI (nI (zcR (zv r1) (zv r3) (zv r5))) iw ih fa1 fb1 fd1 nb mk1 i5 iq fT fE fG fR fN fS fQ fW fX) (cwV 0 (dr_words hts d12) gL_law_X5_thrown rfl rfl rfl (by decide +kernel) ⟨(Nat.le_of_ble_eq_true rfl), (Nat.le_of_ble_eq_true rfl)⟩) ⟨zfb, va_recv hK2 hPc (ci := 5) (q0 := 0) rfl rfl, zpre hPc hK2⟩ rfl rfl hl.1 rfl (lv_room (Nat.le_of_ble_eq_true rfl)) dL_law_310 ⟨by show cells + 3 + 0 + 0 ≤ 627331; omega, by show slots + 18 + 0 + 0 ≤ 7214076; omega⟩) hS (fun q _ h => h.elim) (fun q h => h.elim) (fun r310 u9 t9 H locs ht9 hvm9 hth9 hB9 hz9 hk1 hS => ?_)
  have hP := zro1 hP hk1
  subst hth9
  have hfin : zSt dC dI cD cI cQ cL aC r0 oL oD (zAn s) s.heap H locs := ⟨aP, pT, pR, pN, pB, bP, bF, bL, bH, aM, aQ, mS, mR, mT, ro0, ro1, ro2, ro3, aK, kQ, kS, kR, kT, ko0, ko1, ko2, ko3, aW, pW, pX, rT, rE, rG, rR, rN, rS, rQ, rW, rX, iw, ih, al1, ac1, de1, nb, im1, ik, iq, tT, tR, tN, uP, uF, uL, uH, e0, e1, e2, e3, qS, qU, qO, ke0, ke1, ke2, ke3, ksq, ksr, kst, tW, tX, (nI (zcR (zv r1) (zv r3) (zv r5))), fa1, fb1, fd1, nb, mk1, i5, iq, fT, fE, fG, fR, fN, fS, fQ, fW, fX, ol, od, T, bx0, by0, bx1, by1, bg, wn, ws, ⟨rfl, rfl⟩, hI, hP, hD, hS⟩
  refine lv_iload hx hb dL_law_313 (lv_at hl 0 rfl) ?_
  refine lv_icmp_eq (tgt := 320) hx hb dL_law_315 (by decide) (fun _ => ?_) (fun q => absurd rfl q)
  refine lv_goto (tgt := 1357) hx hb dL_law_320 (by decide) ?_
  refine W.widen (k := cells + 4) (n := slots + 24) (by omega) (by omega) ?_
  exact kk _ _ _ _ hd12 hfin (lv_sub hl [1, 2, 3, 4, 5, 6] rfl)
