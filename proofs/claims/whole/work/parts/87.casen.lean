set_option maxHeartbeats 4000000 in
set_option maxRecDepth 100000 in
/-- the law: weight -/
theorem law_9 {p : Program} {l : Launch} {e : Env} {s : State} {m : MethodId} {below : List Frame} {meth : Method} {c : Code} {b L : Nat} {xs : Nat → Int32} {dC : Nat → ClassId} {dI : Nat → Nat → Nat} {cD cI cQ cL : ClassId} (C0 : zCx p l s m meth c b L xs dC dI cD cI cQ cL) {aC r0 oL oD i : Nat} (hi : i + 6 ≤ L) {d0 : Drawn} (hd0 : s.drawn.sameBut d0 lw_cs) {H : Heap} {locs : List Loc} {ls : Array Slot} {cells slots : Nat} (hc : cells + 8 ≤ 627331) (hn : slots + 48 ≤ 7214076) (hSt : zSt dC dI cD cI cQ cL aC r0 oL oD (zAn s) s.heap H locs) (hl : lv_has ls 10 [(5, .int (nI i)), (4, .ref oD), (3, .ref oL), (2, .ref r0), (1, .ref aC), (0, .ref b)])
    (kk : ∀ (d1 : Drawn) (H1 : Heap) (locs1 : List Loc) (ls1 : Array Slot), s.drawn.sameBut d1 lw_cs → zSt dC dI cD cI cQ cL aC r0 oL oD (zAn s) s.heap H1 locs1 → lv_has ls1 10 [(5, .int (nI i)), (4, .ref oD), (3, .ref oL), (2, .ref r0), (1, .ref aC), (0, .ref b)] → W p l e room_1 (s.setDrawn d1) m #[Value.ref b] below meth c H1 locs1 (cells + 4) (slots + 24) (lw_Z below #[Value.ref b] s) (F0 m 1357 ls1 [])) : W p l e room_1 (s.setDrawn d0) m #[Value.ref b] below meth c H locs cells slots (lw_Z below #[Value.ref b] s) (F0 m 962 ls []) := by
  obtain ⟨hx, hb, hml, hown, hts, hX, hbl, hL, hst, hK, hN, hE, hXN⟩ := C0
  have hbA : ¬ zAn s b := Nat.not_le.mpr hbl
  have hA : ∀ q : Nat, s.heap.size ≤ q → zAn s q := fun _ h => h
  refine zSt_elim hSt (fun aP pT pR pN pB bP bF bL bH aM aQ mS mR mT ro0 ro1 ro2 ro3 aK kQ kS kR kT ko0 ko1 ko2 ko3 aW pW pX rT rE rG rR rN rS rQ rW rX iw ih al ac de nb im ik iq tT tR tN uP uF uL uH e0 e1 e2 e3 qS qU qO ke0 ke1 ke2 ke3 ksq ksr kst tW tX th fa fb fd ib mk i5 jq fT fE fG fR fN fS fQ fW fX ol od T bx0 by0 bx1 by1 bg wn ws ⟨hib, hjq⟩ hI hP hD hS => ?_)
  subst hib
  subst hjq
  obtain ⟨⟨w2, hw6, h2, hh6⟩, ⟨gT, g5T, hG⟩, ⟨rA, rC, rD, _⟩, ⟨b12, gBr, gE, gB, gH, g5H, gR⟩, ⟨hq4, gW, g5W, gw4, gX, g5X⟩, hqc, hq5, hm⟩ := id hI
  have hOK := zI_OK hI
  have hK3 := hK.sub (tys' := [(cD, .double), (cI, .int), (cQ, .array .double)]) [0, 1, 2] rfl
  have hK2 := hK.sub (tys' := [(cD, .double), (cI, .int)]) [0, 1] rfl
  have hP : va_P (dC, dI) vwCl (w9 aC aP pT pR pN pB bP bF bL bH aM aQ mS mR mT ro0 ro1 ro2 ro3 aK kQ kS kR kT ko0 ko1 ko2 ko3 aW pW pX r0 rT rE rG rR rN rS rQ rW rX oL oD cD cI cQ cL iw ih al ac de nb im ik iq tT tR tN uP uF uL uH e0 e1 e2 e3 qS qU qO ke0 ke1 ke2 ke3 ksq ksr kst tW tX th fa fb fd nb mk i5 iq fT fE fG fR fN fS fQ fW fX ol od) H := hP
  refine lv_aload_n hx hb dL_law_962 rfl (lv_at hl 4 rfl) ?_
  have hPc := hP.sub (ws' := (w4 aC aP pT pR pN pB bP bF bL bH aM aQ mS mR mT ro0 ro1 ro2 ro3 aK kQ kS kR kT ko0 ko1 ko2 ko3 aW pW pX cD cI cQ iw ih al ac de nb im ik iq tT tR tN uP uF uL uH e0 e1 e2 e3 qS qU qO ke0 ke1 ke2 ke3 ksq ksr kst tW tX)) [0, 1, 2, 3, 4, 5, 6, 7, 8, 9, 10, 11, 12, 13, 14, 15, 16, 17, 18, 19, 20, 21, 22, 23, 24, 25, 26, 27, 28, 29, 30] rfl
  refine va_calldD hd0 (va_runV_D (As := []) (rest := []) ⟨hx, hb, hml, hown, (dr_words hts d0)⟩ (c4_weight l dC dI aC aP pT pR pN pB bP bF bL bH aM aQ mS mR mT ro0 ro1 ro2 ro3 aK kQ kS kR kT ko0 ko1 ko2 ko3 aW pW pX cD cI cQ iw ih al ac de nb im ik iq tT tR tN uP uF uL uH e0 e1 e2 e3 qS qU qO ke0 ke1 ke2 ke3 ksq ksr kst tW tX hw6 hh6 T gT) (cwV 0 (dr_words hts d0) gL_law_X4_weight rfl rfl rfl (by decide +kernel) ⟨(Nat.le_of_ble_eq_true rfl), (Nat.le_of_ble_eq_true rfl)⟩) ⟨zfb, va_recv hK3 hPc (ci := 4) (q0 := 0) rfl rfl, zpre hPc hK3⟩ rfl rfl hl.1 rfl (lv_room (Nat.le_of_ble_eq_true rfl)) dL_law_963 ⟨by show cells + 0 ≤ 627331; omega, by show slots + 0 ≤ 7214076; omega⟩) hS (fun q _ h => h.elim) (fun q h => h.elim) (fun r963 u9 t9 H locs ht9 hvm9 hr963 hB9 hz9 hk1 hS d963 hd963 => ?_)
  have hP := zro1 hP hk1
  refine lv_dstore (lv' := [(6, .double r963), (5, .int (nI i)), (4, .ref oD), (3, .ref oL), (2, .ref r0), (1, .ref aC), (0, .ref b)]) hx hb dL_law_966 hl (by decide) rfl (fun ls hl => ?_)
  refine lv_aload_n hx hb dL_law_968 rfl (lv_at hl 4 rfl) ?_
  have hPc := hP.sub (ws' := (w5 r0 rT rE rG rR rN rS rQ rW rX cD cI th iw ih fa fb fd nb mk i5 iq fT fE fG fR fN fS fQ fW fX)) [31, 32, 33, 34, 35, 36, 37, 38, 39, 40] rfl
  have hDc := hD.sub (ws' := (w5 r0 rT rE rG rR rN rS rQ rW rX cD cI th iw ih fa fb fd nb mk i5 iq fT fE fG fR fN fS fQ fW fX)) [31, 32, 33, 34, 35, 36, 37, 38, 39, 40] (by decide) rfl
  have hFc := va_free (wc := (w5 r0 rT rE rG rR rN rS rQ rW rX cD cI th iw ih fa fb fd nb mk i5 iq fT fE fG fR fN fS fQ fW fX)) hD hS hA [31, 32, 33, 34, 35, 36, 37, 38, 39, 40] rfl
  refine va_calldD hd963 (va_runV_D (As := []) (rest := []) ⟨hx, hb, hml, hown, (dr_words hts d963)⟩ (c5_weight l dC dI r0 rT rE rG rR rN rS rQ rW rX cD cI th iw ih fa fb fd nb mk i5 iq fT fE fG fR fN fS fQ fW fX hw6 hh6 T g5T _) (cwV 0 (dr_words hts d963) gL_law_X5_weight rfl rfl rfl (by decide +kernel) ⟨(Nat.le_of_ble_eq_true rfl), (Nat.le_of_ble_eq_true rfl)⟩) ⟨zfbw, va_recv hK2 hPc (ci := 5) (q0 := 0) rfl rfl, zprew hPc hK2 hDc⟩ rfl rfl hl.1 rfl (lv_room (Nat.le_of_ble_eq_true rfl)) dL_law_969 ⟨by show cells + 0 + 0 ≤ 627331; omega, by show slots + 0 + 0 ≤ 7214076; omega⟩) hS (fun q _ h => hFc q h) hFc (fun r969 u5 t9 H1 locs ht9 hvm9 hp5 hB9 hz9 hk1 hS d969 hd969 => ?_)
  obtain ⟨hP1, hK1, hD1⟩ := hB9
  rw [ht9] at hP1
  obtain ⟨hP, hD⟩ := va_join (wr := [(aC, .inr (4, [.ref aP, .ref aM, .ref aK, .ref aW])), (aP, .inr (2, [.int (nI iw), .int (nI ih), .ref pT, .ref pR, .ref pN, .ref pB, .double al, .double ac, .double de])), (pT, .inl (cD, (iw * ih), .inr (.inr (.inr (.inl tT))))), (pR, .inl (cD, (iw * ih), .inr (.inr (.inr (.inl tR))))), (pN, .inl (cD, (iw * ih), .inr (.inr (.inr (.inl tN))))), (pB, .inr (0, [.ref bP, .ref bF, .ref bL, .ref bH, .int (nI nb)])), (bP, .inl (cI, 12, .inl uP)), (bF, .inl (cI, 12, .inl uF)), (bL, .inl (cI, 12, .inl uL)), (bH, .inl (cD, 12, .inr (.inr (.inr (.inl uH))))), (aM, .inr (1, [.ref aP, .ref aQ, .ref mS, .ref mR, .ref mT, .int (nI im)])), (aQ, .inl (cQ, 4, .inr (.inr (.inr (.inr (zq4 ro0 ro1 ro2 ro3)))))), (mS, .inl (cD, 4, .inr (.inr (.inr (.inl qS))))), (mR, .inl (cD, 4, .inr (.inr (.inr (.inl qU))))), (mT, .inl (cD, 4, .inr (.inr (.inr (.inl qO))))), (ro0, .inl (cD, (iw * ih), .inr (.inr (.inr (.inl e0))))), (ro1, .inl (cD, (iw * ih), .inr (.inr (.inr (.inl e1))))), (ro2, .inl (cD, (iw * ih), .inr (.inr (.inr (.inl e2))))), (ro3, .inl (cD, (iw * ih), .inr (.inr (.inr (.inl e3))))), (aK, .inr (1, [.ref aP, .ref kQ, .ref kS, .ref kR, .ref kT, .int (nI ik)])), (kQ, .inl (cQ, 4, .inr (.inr (.inr (.inr (zq4 ko0 ko1 ko2 ko3)))))), (kS, .inl (cD, 4, .inr (.inr (.inr (.inl ksq))))), (kR, .inl (cD, 4, .inr (.inr (.inr (.inl ksr))))), (kT, .inl (cD, 4, .inr (.inr (.inr (.inl kst))))), (ko0, .inl (cD, (iw * ih), .inr (.inr (.inr (.inl ke0))))), (ko1, .inl (cD, (iw * ih), .inr (.inr (.inr (.inl ke1))))), (ko2, .inl (cD, (iw * ih), .inr (.inr (.inr (.inl ke2))))), (ko3, .inl (cD, (iw * ih), .inr (.inr (.inr (.inl ke3))))), (aW, .inr (3, [.ref pW, .ref pX, .int (nI iq)])), (pW, .inl (cI, 4, .inl tW)), (pX, .inl (cD, 4, .inr (.inr (.inr (.inl tX))))), (oL, .inl (cL, 1, .inr (.inl ol))), (oD, .inl (cD, 1, .inr (.inr (.inr (.inl od)))))]) (w1 := (w5 r0 rT rE rG rR rN rS rQ rW rX cD cI (nI 0) iw ih fa fb fd nb mk i5 iq fT fE fG fR fN fS fQ fW fX)) hP hD [31, 32, 33, 34, 35, 36, 37, 38, 39, 40] [0, 1, 2, 3, 4, 5, 6, 7, 8, 9, 10, 11, 12, 13, 14, 15, 16, 17, 18, 19, 20, 21, 22, 23, 24, 25, 26, 27, 28, 29, 30, 41, 42] rfl rfl (by decide) (by decide) hk1 hFc hP1 hD1
  generalize H1 = H at hP hS ⊢
  have hP : va_P (dC, dI) vwCl (w9 aC aP pT pR pN pB bP bF bL bH aM aQ mS mR mT ro0 ro1 ro2 ro3 aK kQ kS kR kT ko0 ko1 ko2 ko3 aW pW pX r0 rT rE rG rR rN rS rQ rW rX oL oD cD cI cQ cL iw ih al ac de nb im ik iq tT tR tN uP uF uL uH e0 e1 e2 e3 qS qU qO ke0 ke1 ke2 ke3 ksq ksr kst tW tX (nI 0) fa fb fd nb mk i5 iq fT fE fG fR fN fS fQ fW fX ol od) H := hP.sub (ws' := (w9 aC aP pT pR pN pB bP bF bL bH aM aQ mS mR mT ro0 ro1 ro2 ro3 aK kQ kS kR kT ko0 ko1 ko2 ko3 aW pW pX r0 rT rE rG rR rN rS rQ rW rX oL oD cD cI cQ cL iw ih al ac de nb im ik iq tT tR tN uP uF uL uH e0 e1 e2 e3 qS qU qO ke0 ke1 ke2 ke3 ksq ksr kst tW tX (nI 0) fa fb fd nb mk i5 iq fT fE fG fR fN fS fQ fW fX ol od)) [0, 1, 2, 3, 4, 5, 6, 7, 8, 9, 10, 11, 12, 13, 14, 15, 16, 17, 18, 19, 20, 21, 22, 23, 24, 25, 26, 27, 28, 29, 30, 33, 34, 35, 36, 37, 38, 39, 40, 41, 42, 31, 32] rfl
  have hD : va_D (zAn s) (w9 aC aP pT pR pN pB bP bF bL bH aM aQ mS mR mT ro0 ro1 ro2 ro3 aK kQ kS kR kT ko0 ko1 ko2 ko3 aW pW pX r0 rT rE rG rR rN rS rQ rW rX oL oD cD cI cQ cL iw ih al ac de nb im ik iq tT tR tN uP uF uL uH e0 e1 e2 e3 qS qU qO ke0 ke1 ke2 ke3 ksq ksr kst tW tX (nI 0) fa fb fd nb mk i5 iq fT fE fG fR fN fS fQ fW fX ol od) := hD.sub (ws' := (w9 aC aP pT pR pN pB bP bF bL bH aM aQ mS mR mT ro0 ro1 ro2 ro3 aK kQ kS kR kT ko0 ko1 ko2 ko3 aW pW pX r0 rT rE rG rR rN rS rQ rW rX oL oD cD cI cQ cL iw ih al ac de nb im ik iq tT tR tN uP uF uL uH e0 e1 e2 e3 qS qU qO ke0 ke1 ke2 ke3 ksq ksr kst tW tX (nI 0) fa fb fd nb mk i5 iq fT fE fG fR fN fS fQ fW fX ol od)) [0, 1, 2, 3, 4, 5, 6, 7, 8, 9, 10, 11, 12, 13, 14, 15, 16, 17, 18, 19, 20, 21, 22, 23, 24, 25, 26, 27, 28, 29, 30, 33, 34, 35, 36, 37, 38, 39, 40, 41, 42, 31, 32] (by decide) rfl
  have hend := zq_end (show zq (zv r963) (zv r969) from by rw [hr963, hp5, rD]; exact zq_rf _)
  have hfin : zSt dC dI cD cI cQ cL aC r0 oL oD (zAn s) s.heap H locs := ⟨aP, pT, pR, pN, pB, bP, bF, bL, bH, aM, aQ, mS, mR, mT, ro0, ro1, ro2, ro3, aK, kQ, kS, kR, kT, ko0, ko1, ko2, ko3, aW, pW, pX, rT, rE, rG, rR, rN, rS, rQ, rW, rX, iw, ih, al, ac, de, nb, im, ik, iq, tT, tR, tN, uP, uF, uL, uH, e0, e1, e2, e3, qS, qU, qO, ke0, ke1, ke2, ke3, ksq, ksr, kst, tW, tX, (nI 0), fa, fb, fd, nb, mk, i5, iq, fT, fE, fG, fR, fN, fS, fQ, fW, fX, ol, od, T, bx0, by0, bx1, by1, bg, wn, ws, ⟨rfl, rfl⟩, hI, hP, hD, hS⟩
  refine lv_dstore (lv' := [(8, .double r969), (6, .double r963), (5, .int (nI i)), (4, .ref oD), (3, .ref oL), (2, .ref r0), (1, .ref aC), (0, .ref b)]) hx hb dL_law_972 hl (by decide) rfl (fun ls hl => ?_)
  refine lv_dload hx hb dL_law_974 (lv_at hl 1 rfl) ?_
  refine lv_dload hx hb dL_law_976 (lv_at hl 0 rfl) ?_
  refine z_cmp_l_eq (tgt := 1000) hx hb (a := zv r963) (b := zv r969) rfl rfl dL_law_978 dL_law_979 (by decide) (fun cx1 => ?_) (fun cx2 => ?_)
  · skip
    refine lv_goto (tgt := 1357) hx hb dL_law_1000 (by decide) ?_
    refine W.widen (k := cells + 4) (n := slots + 24) (by omega) (by omega) ?_
    exact kk _ _ _ _ hd969 hfin (lv_sub hl [2, 3, 4, 5, 6, 7] rfl)
  · skip
    have hab := cx2
    refine lv_dload hx hb dL_law_982 (lv_at hl 1 rfl) ?_
    refine lv_dload hx hb dL_law_984 (lv_at hl 1 rfl) ?_
    refine z_cmp_l_eq (tgt := 998) hx hb (a := zv r963) (b := zv r963) rfl rfl dL_law_986 dL_law_987 (by decide) (fun cx3 => ?_) (fun cx4 => ?_)
    · skip
      exact absurd (hend.elim (fun q => by rw [q] at hab; cases hab) (fun q => by rw [q.1] at cx3; cases cx3)) not_false
    · skip
      refine lv_dload hx hb dL_law_990 (lv_at hl 0 rfl) ?_
      refine lv_dload hx hb dL_law_992 (lv_at hl 0 rfl) ?_
      refine z_cmp_l_ne (tgt := 1000) hx hb (a := zv r969) (b := zv r969) rfl rfl dL_law_994 dL_law_995 (by decide) (fun cx5 => ?_) (fun cx6 => ?_)
      · skip
        refine lv_goto (tgt := 1357) hx hb dL_law_1000 (by decide) ?_
        refine W.widen (k := cells + 4) (n := slots + 24) (by omega) (by omega) ?_
        exact kk _ _ _ _ hd969 hfin (lv_sub hl [2, 3, 4, 5, 6, 7] rfl)
      · skip
        exact absurd (hend.elim (fun q => by rw [q] at hab; cases hab) (fun q => by rw [q.2] at cx6; cases cx6)) not_false
