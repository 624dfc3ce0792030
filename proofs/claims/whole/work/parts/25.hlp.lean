/-! 25: the law's helpers -/
def zXN (U : State) : Prop := va_Nc zIA zIO U ∧ va_Nc zIS zIO U ∧ va_Nc zIS zIA U
theorem zXN.warm {s U : State} (hW : s.WarmedH U.vm) (h : zXN s) : zXN U := ⟨va_Nc.moved hW.alike h.1, va_Nc.moved hW.alike h.2.1, va_Nc.moved hW.alike h.2.2⟩
theorem zXN.sd {s : State} {d : Drawn} (h : zXN s) : zXN (s.setDrawn d) := ⟨va_Nc.moved (Vm.Alike.refl _) h.1, va_Nc.moved (Vm.Alike.refl _) h.2.1, va_Nc.moved (Vm.Alike.refl _) h.2.2⟩
theorem zcW_le {iw ih : Nat} {x y : Int32} {v : ZD} : zcW iw ih x y v ≤ 2 := by
  unfold zcW
  repeat' split
  all_goals omega
theorem zcR_le {a b d : ZD} : zcR a b d ≤ 1 := by
  unfold zcR
  repeat' split
  all_goals omega
theorem zcB_le {iw ih nb : Nat} {x0 y0 x1 y1 : Int32} {v : ZD} : zcB iw ih nb x0 y0 x1 y1 v ≤ 3 := by
  unfold zcB
  repeat' split
  all_goals omega
theorem zcMs_le {n : Int32} : zcMs n ≤ 1 := by
  unfold zcMs
  repeat' split
  all_goals omega
theorem zcC_le {M : Nat} {k : Int32} {q g : ZD} : zcC M k q g ≤ 3 := by
  unfold zcC
  repeat' split
  all_goals omega
theorem zcT_le {iw ih M : Nat} {k x y : Int32} {v : ZD} : zcT iw ih M k x y v ≤ 3 := by
  unfold zcT
  repeat' split
  all_goals omega
theorem zcWt_le {nq : Nat} {k : Int32} {v : ZD} : zcWt nq k v ≤ 3 := by
  unfold zcWt
  repeat' split
  all_goals omega
theorem zcTh_le {st lo : ZD} {a b : Nat} : zcTh st lo a b ≤ 2 := by
  unfold zcTh
  repeat' split
  all_goals omega
theorem zcS_le {a b d : Nat} : zcS a b d ≤ 1 := by
  unfold zcS
  repeat' split
  all_goals omega
/-- the cells of the class, and a row of one long; of one double -/
abbrev w4L (oL aC aP pT pR pN pB bP bF bL bH aM aQ mS mR mT ro0 ro1 ro2 ro3 aK kQ kS kR kT ko0 ko1 ko2 ko3 aW pW pX : Nat) (cD cI cQ cL : ClassId) (iw ih : Nat) (al ac de : UInt64) (nb im ik iq : Nat) (tT tR tN : Nat → UInt64) (uP uF uL : Nat → Int32) (uH e0 e1 e2 e3 qS qU qO ke0 ke1 ke2 ke3 ksq ksr kst : Nat → UInt64) (tW : Nat → Int32) (tX : Nat → UInt64) (ol : Nat → Int64) : va_W :=
  [(aC, .inr (4, [.ref aP, .ref aM, .ref aK, .ref aW])), (aP, .inr (2, [.int (nI iw), .int (nI ih), .ref pT, .ref pR, .ref pN, .ref pB, .double al, .double ac, .double de])), (pT, .inl (cD, (iw * ih), .inr (.inr (.inr (.inl tT))))), (pR, .inl (cD, (iw * ih), .inr (.inr (.inr (.inl tR))))), (pN, .inl (cD, (iw * ih), .inr (.inr (.inr (.inl tN))))), (pB, .inr (0, [.ref bP, .ref bF, .ref bL, .ref bH, .int (nI nb)])), (bP, .inl (cI, 12, .inl uP)), (bF, .inl (cI, 12, .inl uF)), (bL, .inl (cI, 12, .inl uL)), (bH, .inl (cD, 12, .inr (.inr (.inr (.inl uH))))), (aM, .inr (1, [.ref aP, .ref aQ, .ref mS, .ref mR, .ref mT, .int (nI im)])), (aQ, .inl (cQ, 4, .inr (.inr (.inr (.inr (zq4 ro0 ro1 ro2 ro3)))))), (mS, .inl (cD, 4, .inr (.inr (.inr (.inl qS))))), (mR, .inl (cD, 4, .inr (.inr (.inr (.inl qU))))), (mT, .inl (cD, 4, .inr (.inr (.inr (.inl qO))))), (ro0, .inl (cD, (iw * ih), .inr (.inr (.inr (.inl e0))))), (ro1, .inl (cD, (iw * ih), .inr (.inr (.inr (.inl e1))))), (ro2, .inl (cD, (iw * ih), .inr (.inr (.inr (.inl e2))))), (ro3, .inl (cD, (iw * ih), .inr (.inr (.inr (.inl e3))))), (aK, .inr (1, [.ref aP, .ref kQ, .ref kS, .ref kR, .ref kT, .int (nI ik)])), (kQ, .inl (cQ, 4, .inr (.inr (.inr (.inr (zq4 ko0 ko1 ko2 ko3)))))), (kS, .inl (cD, 4, .inr (.inr (.inr (.inl ksq))))), (kR, .inl (cD, 4, .inr (.inr (.inr (.inl ksr))))), (kT, .inl (cD, 4, .inr (.inr (.inr (.inl kst))))), (ko0, .inl (cD, (iw * ih), .inr (.inr (.inr (.inl ke0))))), (ko1, .inl (cD, (iw * ih), .inr (.inr (.inr (.inl ke1))))), (ko2, .inl (cD, (iw * ih), .inr (.inr (.inr (.inl ke2))))), (ko3, .inl (cD, (iw * ih), .inr (.inr (.inr (.inl ke3))))), (aW, .inr (3, [.ref pW, .ref pX, .int (nI iq)])), (pW, .inl (cI, 4, .inl tW)), (pX, .inl (cD, 4, .inr (.inr (.inr (.inl tX))))), (oL, .inl (cL, 1, .inr (.inl ol)))]
abbrev w4d (oD aC aP pT pR pN pB bP bF bL bH aM aQ mS mR mT ro0 ro1 ro2 ro3 aK kQ kS kR kT ko0 ko1 ko2 ko3 aW pW pX : Nat) (cD cI cQ : ClassId) (iw ih : Nat) (al ac de : UInt64) (nb im ik iq : Nat) (tT tR tN : Nat → UInt64) (uP uF uL : Nat → Int32) (uH e0 e1 e2 e3 qS qU qO ke0 ke1 ke2 ke3 ksq ksr kst : Nat → UInt64) (tW : Nat → Int32) (tX : Nat → UInt64) (od : Nat → UInt64) : va_W :=
  [(aC, .inr (4, [.ref aP, .ref aM, .ref aK, .ref aW])), (aP, .inr (2, [.int (nI iw), .int (nI ih), .ref pT, .ref pR, .ref pN, .ref pB, .double al, .double ac, .double de])), (pT, .inl (cD, (iw * ih), .inr (.inr (.inr (.inl tT))))), (pR, .inl (cD, (iw * ih), .inr (.inr (.inr (.inl tR))))), (pN, .inl (cD, (iw * ih), .inr (.inr (.inr (.inl tN))))), (pB, .inr (0, [.ref bP, .ref bF, .ref bL, .ref bH, .int (nI nb)])), (bP, .inl (cI, 12, .inl uP)), (bF, .inl (cI, 12, .inl uF)), (bL, .inl (cI, 12, .inl uL)), (bH, .inl (cD, 12, .inr (.inr (.inr (.inl uH))))), (aM, .inr (1, [.ref aP, .ref aQ, .ref mS, .ref mR, .ref mT, .int (nI im)])), (aQ, .inl (cQ, 4, .inr (.inr (.inr (.inr (zq4 ro0 ro1 ro2 ro3)))))), (mS, .inl (cD, 4, .inr (.inr (.inr (.inl qS))))), (mR, .inl (cD, 4, .inr (.inr (.inr (.inl qU))))), (mT, .inl (cD, 4, .inr (.inr (.inr (.inl qO))))), (ro0, .inl (cD, (iw * ih), .inr (.inr (.inr (.inl e0))))), (ro1, .inl (cD, (iw * ih), .inr (.inr (.inr (.inl e1))))), (ro2, .inl (cD, (iw * ih), .inr (.inr (.inr (.inl e2))))), (ro3, .inl (cD, (iw * ih), .inr (.inr (.inr (.inl e3))))), (aK, .inr (1, [.ref aP, .ref kQ, .ref kS, .ref kR, .ref kT, .int (nI ik)])), (kQ, .inl (cQ, 4, .inr (.inr (.inr (.inr (zq4 ko0 ko1 ko2 ko3)))))), (kS, .inl (cD, 4, .inr (.inr (.inr (.inl ksq))))), (kR, .inl (cD, 4, .inr (.inr (.inr (.inl ksr))))), (kT, .inl (cD, 4, .inr (.inr (.inr (.inl kst))))), (ko0, .inl (cD, (iw * ih), .inr (.inr (.inr (.inl ke0))))), (ko1, .inl (cD, (iw * ih), .inr (.inr (.inr (.inl ke1))))), (ko2, .inl (cD, (iw * ih), .inr (.inr (.inr (.inl ke2))))), (ko3, .inl (cD, (iw * ih), .inr (.inr (.inr (.inl ke3))))), (aW, .inr (3, [.ref pW, .ref pX, .int (nI iq)])), (pW, .inl (cI, 4, .inl tW)), (pX, .inl (cD, 4, .inr (.inr (.inr (.inl tX))))), (oD, .inl (cD, 1, .inr (.inr (.inr (.inl od)))))]
theorem zfbwH {av : List Value} {D : va_G} {cl : List vw_C} {ws : va_W} {tys : List (ClassId × FieldType)} {sz : Nat} {A B : Nat → Prop} : FrameBlind (va_Pc av (fun U => U.heap.size = sz ∧ va_P D cl ws U.heap ∧ va_K D cl tys U ∧ zNw U ∧ zXE B U U.heap ∧ zXN U ∧ va_D A ws)) := fun a U g mk q => by
  obtain ⟨q0, q1, qP, qK, qN, qE, qX, qD⟩ := q
  exact ⟨q0, q1, qP, va_K.moved (u := U) (U := U.calling g mk a) (Vm.Alike.refl U.vm) qK, ⟨va_Nw.same rfl rfl qN.1, va_Nw.same rfl rfl qN.2⟩, zXE.same (u := U) (U := U.calling g mk a) rfl qE, ⟨va_Nc.moved (u := U) (U := U.calling g mk a) (Vm.Alike.refl U.vm) qX.1, va_Nc.moved (u := U) (U := U.calling g mk a) (Vm.Alike.refl U.vm) qX.2.1, va_Nc.moved (u := U) (U := U.calling g mk a) (Vm.Alike.refl U.vm) qX.2.2⟩, qD⟩
theorem zprewH {av : List Value} {D : va_G} {cl : List vw_C} {ws : va_W} {tys : List (ClassId × FieldType)} {A0 A : Nat → Prop} {H : Heap} {locs : List Loc} {s : State} (hP : va_P D cl ws H) (hK : va_K D cl tys s) (hD : va_D A ws) (hN : zNw s) (hE : zXE A0 s s.heap) (hX : zXN s) (hS : va_S A0 s.heap H locs) (hF : ∀ q, va_A ws H.size q → A0 q) : ∀ U : State, U.heap = H → s.WarmedH U.vm → va_Pc av (fun U => U.heap.size = H.size ∧ va_P D cl ws U.heap ∧ va_K D cl tys U ∧ zNw U ∧ zXE (va_A ws H.size) U U.heap ∧ zXN U ∧ va_D (fun _ => True) ws) av.toArray U := fun U hU hW => by
  obtain ⟨h0, h1, h2, h3, h4, h5, h6⟩ := zprewX (av := av) hP hK hD hN hE hS hF U hU hW
  exact ⟨h0, h1, h2, h3, h4, h5, hX.warm hW, h6⟩
section ZLA
variable {p : Program} {l : Launch} {e : Env} {R : Room} {s : State} {m : MethodId} {args : Array Value} {below : List Frame} {meth : Method} {c : Code} {H : Heap} {locs : List Loc} {cells slots : Nat} {Q : State → Prop}
variable {cc : ByteArray} {pc : Nat} {ls : Array Slot} {rest : List Value}
theorem z_last {D : va_G} {cl : List vw_C} {tys : List (ClassId × FieldType)} {ws : va_W} {a : Nat} {A : Nat → Prop} {H0 : Heap} (hx : p.tables.exec = Jvm.exec) (hb : c.code = cc) (hK : va_K D cl tys s) (hP : va_P D cl ws H) (hD : va_D A ws) (hS : va_S A H0 H locs) (q0 t0 : Nat) {cA : ClassId} {n : Nat} {f : Nat → Int64} (ha : ws[q0]? = some (a, .inl (cA, n, .inr (.inl f)))) (ht : tys[t0]? = some (cA, .long)) {i : Nat} {x : Int64} (hi : i < n) (hn : n < 2 ^ 31) (hdg : decode cc pc = .ok (.lastore, 1))
    (k : ∀ (H1 : Heap) (locs1 : List Loc), va_P D cl (ws.set q0 (a, .inl (cA, n, .inr (.inl (zu f i x))))) H1 → va_D A (ws.set q0 (a, .inl (cA, n, .inr (.inl (zu f i x))))) → va_S A H0 H1 locs1 → W p l e R s m args below meth c H1 locs1 cells slots Q (F0 m (pc + 1) ls rest)) : W p l e R s m args below meth c H locs cells slots Q (F0 m pc ls (.long x :: .int (nI i) :: .ref a :: rest)) := by
  refine va_last hx hb hK hP hD hS q0 t0 ha ht (vp_in_nI hi hn) hdg (fun H1 locs1 h1 h2 h3 => ?_)
  rw [nI_clamp (Nat.lt_trans hi hn)] at h1 h2
  exact k H1 locs1 h1 h2 h3
theorem z_lald {D : va_G} {cl : List vw_C} {tys : List (ClassId × FieldType)} {ws : va_W} {a : Nat} (hx : p.tables.exec = Jvm.exec) (hb : c.code = cc) (hK : va_K D cl tys s) (hP : va_P D cl ws H) (q0 t0 : Nat) {cA : ClassId} {n : Nat} {f : Nat → Int64} (ha : ws[q0]? = some (a, .inl (cA, n, .inr (.inl f)))) (ht : tys[t0]? = some (cA, .long)) {i : Nat} (hi : i < n) (hn : n < 2 ^ 31) (hdg : decode cc pc = .ok (.laload, 1))
    (k : W p l e R s m args below meth c H locs cells slots Q (F0 m (pc + 1) ls (.long (f i) :: rest))) : W p l e R s m args below meth c H locs cells slots Q (F0 m pc ls (.int (nI i) :: .ref a :: rest)) := by
  refine va_lald hx hb hK hP q0 t0 ha ht (vp_in_nI hi hn) hdg ?_
  rw [nI_clamp (Nat.lt_trans hi hn)]
  exact k
end ZLA
set_option maxHeartbeats 4000000 in
set_option maxRecDepth 100000 in
/-- wood: the helper -/
theorem cL_wood_c (l : Launch) (hst : l.stackTraces = false) (dC : Nat → ClassId) (dI : Nat → Nat → Nat) (aC aP pT pR pN pB bP bF bL bH aM aQ mS mR mT ro0 ro1 ro2 ro3 aK kQ kS kR kT ko0 ko1 ko2 ko3 aW pW pX : Nat) (cD cI cQ cL : ClassId) (iw ih : Nat) (al ac de : UInt64) (nb im ik iq : Nat) (tT tR tN : Nat → UInt64) (uP uF uL : Nat → Int32) (uH e0 e1 e2 e3 qS qU qO ke0 ke1 ke2 ke3 ksq ksr kst : Nat → UInt64) (tW : Nat → Int32) (tX : Nat → UInt64) (oL : Nat) (ol : Nat → Int64) (hw6 : iw ≤ 6) (hh6 : ih ≤ 6) (x y : Int32) (v : UInt64) (sz : Nat) : MetD lw_cs l yL_wood wsL_wood ({ frames := 8, cells := 2, slots := 12, locals := 140 } : Room) (va_Pc [.ref aC, .int x, .int y, .double v, .ref oL] (fun U => U.heap.size = sz ∧ va_P (dC, dI) vwCl (w4L oL aC aP pT pR pN pB bP bF bL bH aM aQ mS mR mT ro0 ro1 ro2 ro3 aK kQ kS kR kT ko0 ko1 ko2 ko3 aW pW pX cD cI cQ cL iw ih al ac de nb im ik iq tT tR tN uP uF uL uH e0 e1 e2 e3 qS qU qO ke0 ke1 ke2 ke3 ksq ksr kst tW tX ol) U.heap ∧ va_K (dC, dI) vwCl [(cD, .double), (cI, .int), (cQ, .array .double), (cL, .long)] U ∧ zNw U ∧ zXE (va_A (w4L oL aC aP pT pR pN pB bP bF bL bH aM aQ mS mR mT ro0 ro1 ro2 ro3 aK kQ kS kR kT ko0 ko1 ko2 ko3 aW pW pX cD cI cQ cL iw ih al ac de nb im ik iq tT tR tN uP uF uL uH e0 e1 e2 e3 qS qU qO ke0 ke1 ke2 ke3 ksq ksr kst tW tX ol) sz) U U.heap ∧ zXN U ∧ va_D (fun _ => True) (w4L oL aC aP pT pR pN pB bP bF bL bH aM aQ mS mR mT ro0 ro1 ro2 ro3 aK kQ kS kR kT ko0 ko1 ko2 ko3 aW pW pX cD cI cQ cL iw ih al ac de nb im ik iq tT tR tN uP uF uL uH e0 e1 e2 e3 qS qU qO ke0 ke1 ke2 ke3 ksq ksr kst tW tX ol))) (va_Qi (fun (r : Int32) (u : (Nat → UInt64) × Nat × (Nat → Int64)) => r = nI (zcW iw ih x y (zv v)) ∧ (zcW iw ih x y (zv v) = 0 → u.2.2 = zu ol 0 (if zeq (zv (tT (zn y * iw + zn x))) (zv v) = true then 0 else 1) ∧ (zeq (zv (tT (zn y * iw + zn x))) (zv v) = true → u.1 = tT ∧ u.2.1 = im) ∧ (zeq (zv (tT (zn y * iw + zn x))) (zv v) = false → u.1 = zu tT (zn y * iw + zn x) v ∧ u.2.1 = 0)) ∧ (¬ zcW iw ih x y (zv v) = 0 → u.1 = tT ∧ u.2.1 = im ∧ u.2.2 = ol)) (fun u t => (va_P (dC, dI) vwCl (w4L oL aC aP pT pR pN pB bP bF bL bH aM aQ mS mR mT ro0 ro1 ro2 ro3 aK kQ kS kR kT ko0 ko1 ko2 ko3 aW pW pX cD cI cQ cL iw ih al ac de nb u.2.1 ik iq u.1 tR tN uP uF uL uH e0 e1 e2 e3 qS qU qO ke0 ke1 ke2 ke3 ksq ksr kst tW tX u.2.2) t.heap ∧ va_K (dC, dI) vwCl [(cD, .double), (cI, .int), (cQ, .array .double), (cL, .long)] t ∧ va_D (va_A (w4L oL aC aP pT pR pN pB bP bF bL bH aM aQ mS mR mT ro0 ro1 ro2 ro3 aK kQ kS kR kT ko0 ko1 ko2 ko3 aW pW pX cD cI cQ cL iw ih al ac de nb im ik iq tT tR tN uP uF uL uH e0 e1 e2 e3 qS qU qO ke0 ke1 ke2 ke3 ksq ksr kst tW tX ol) sz) (w4L oL aC aP pT pR pN pB bP bF bL bH aM aQ mS mR mT ro0 ro1 ro2 ro3 aK kQ kS kR kT ko0 ko1 ko2 ko3 aW pW pX cD cI cQ cL iw ih al ac de nb u.2.1 ik iq u.1 tR tN uP uF uL uH e0 e1 e2 e3 qS qU qO ke0 ke1 ke2 ke3 ksq ksr kst tW tX u.2.2))) (va_A (w4L oL aC aP pT pR pN pB bP bF bL bH aM aQ mS mR mT ro0 ro1 ro2 ro3 aK kQ kS kR kT ko0 ko1 ko2 ko3 aW pW pX cD cI cQ cL iw ih al ac de nb im ik iq tT tR tN uP uF uL uH e0 e1 e2 e3 qS qU qO ke0 ke1 ke2 ke3 ksq ksr kst tW tX ol) sz)) 2 12 (va_A (w4L oL aC aP pT pR pN pB bP bF bL bH aM aQ mS mR mT ro0 ro1 ro2 ro3 aK kQ kS kR kT ko0 ko1 ko2 ko3 aW pW pX cD cI cQ cL iw ih al ac de nb im ik iq tT tR tN uP uF uL uH e0 e1 e2 e3 qS qU qO ke0 ke1 ke2 ke3 ksq ksr kst tW tX ol) sz) := by
  refine zy_ofWHD (cc := cL_wood) (maxL := 7) (ret := (some .int)) (hh := [(0, 19, 22, 13), (0, 19, 26, 15)]) (by decide) rfl ?_
  intro p e s m args below meth c s₁ B hml htab hv hd0
  obtain ⟨rfl, hsz, hP, hK, hN, hE, hXN, hD0⟩ := hv
  have hx := B.exec
  have hb := B.bytes
  have hr := B.returns
  have hts := atoms_spec (ws := wsL_wood) B.pre
  have hown : s.vm.findClass RL = some m.cls := findClass_of_methodNamed B.named
  have hlocks := B.notSynchronized
  subst hsz
  have hD := hD0.self (sz := s.heap.size)
  generalize hAe : va_A (w4L oL aC aP pT pR pN pB bP bF bL bH aM aQ mS mR mT ro0 ro1 ro2 ro3 aK kQ kS kR kT ko0 ko1 ko2 ko3 aW pW pX cD cI cQ cL iw ih al ac de nb im ik iq tT tR tN uP uF uL uH e0 e1 e2 e3 qS qU qO ke0 ke1 ke2 ke3 ksq ksr kst tW tX ol) s.heap.size = A at hD hE ⊢
  have hA : ∀ q : Nat, s.heap.size ≤ q → A q := fun q h => by rw [← hAe]; exact Or.inr h
  have hS : va_S A s.heap s.heap [] := va_S.rf
  have hl := lv_entry ([.ref aC, .int x, .int y, .double v, .ref oL]) (n := 7) (Nat.le_of_ble_eq_true rfl)
  rw [lg_entry_eq]
  generalize (lg_sl ([.ref aC, .int x, .int y, .double v, .ref oL]) ++ List.replicate (7 - (lg_sl ([.ref aC, .int x, .int y, .double v, .ref oL])).length) Slot.unset).toArray = ls at hl ⊢
  have hl : lv_has ls 7 [(0, .ref aC), (1, .int x), (2, .int y), (3, .double v), (5, .ref oL)] := hl
  refine lv_aload hx hb dL_wood_0 (lv_at hl 4 rfl) ?_
  refine lv_iconst (v := (nI 0)) hx hb dL_wood_2 (by decide) ?_
  refine lv_aload_n hx hb dL_wood_3 rfl (lv_at hl 0 rfl) ?_
  refine lv_iload_n hx hb dL_wood_4 rfl (lv_at hl 1 rfl) ?_
  refine lv_iload_n hx hb dL_wood_5 rfl (lv_at hl 2 rfl) ?_
  refine lv_dload_n hx hb dL_wood_6 rfl (lv_at hl 3 rfl) ?_
  have hPc := hP.sub (ws' := (w4 aC aP pT pR pN pB bP bF bL bH aM aQ mS mR mT ro0 ro1 ro2 ro3 aK kQ kS kR kT ko0 ko1 ko2 ko3 aW pW pX cD cI cQ iw ih al ac de nb im ik iq tT tR tN uP uF uL uH e0 e1 e2 e3 qS qU qO ke0 ke1 ke2 ke3 ksq ksr kst tW tX)) [0, 1, 2, 3, 4, 5, 6, 7, 8, 9, 10, 11, 12, 13, 14, 15, 16, 17, 18, 19, 20, 21, 22, 23, 24, 25, 26, 27, 28, 29, 30] rfl
  have hK3 := hK.sub (tys' := [(cD, .double), (cI, .int), (cQ, .array .double)]) [0, 1, 2] rfl
  have hDc := hD.sub (ws' := (w4 aC aP pT pR pN pB bP bF bL bH aM aQ mS mR mT ro0 ro1 ro2 ro3 aK kQ kS kR kT ko0 ko1 ko2 ko3 aW pW pX cD cI cQ iw ih al ac de nb im ik iq tT tR tN uP uF uL uH e0 e1 e2 e3 qS qU qO ke0 ke1 ke2 ke3 ksq ksr kst tW tX)) [0, 1, 2, 3, 4, 5, 6, 7, 8, 9, 10, 11, 12, 13, 14, 15, 16, 17, 18, 19, 20, 21, 22, 23, 24, 25, 26, 27, 28, 29, 30] (by decide) rfl
  have hFc := va_free (wc := (w4 aC aP pT pR pN pB bP bF bL bH aM aQ mS mR mT ro0 ro1 ro2 ro3 aK kQ kS kR kT ko0 ko1 ko2 ko3 aW pW pX cD cI cQ iw ih al ac de nb im ik iq tT tR tN uP uF uL uH e0 e1 e2 e3 qS qU qO ke0 ke1 ke2 ke3 ksq ksr kst tW tX)) hD hS hA [0, 1, 2, 3, 4, 5, 6, 7, 8, 9, 10, 11, 12, 13, 14, 15, 16, 17, 18, 19, 20, 21, 22, 23, 24, 25, 26, 27, 28, 29, 30] rfl
  refine vx_calli (vx_runV (As := [.int x, .int y, .double v]) (rest := [.int (nI 0), .ref oL]) ⟨hx, hb, hml, hown, (dr_words hts s.drawn)⟩ (c4_wood l hst dC dI aC aP pT pR pN pB bP bF bL bH aM aQ mS mR mT ro0 ro1 ro2 ro3 aK kQ kS kR kT ko0 ko1 ko2 ko3 aW pW pX cD cI cQ iw ih al ac de nb im ik iq tT tR tN uP uF uL uH e0 e1 e2 e3 qS qU qO ke0 ke1 ke2 ke3 ksq ksr kst tW tX hw6 hh6 x y v _) (cwV 3 (dr_words hts s.drawn) gL_wood_X4_wood rfl rfl rfl (by decide +kernel) ⟨(Nat.le_of_ble_eq_true rfl), (Nat.le_of_ble_eq_true rfl)⟩) ⟨zfbwX, va_recv hK3 hPc (ci := 4) (q0 := 0) rfl rfl, zprewX hPc hK3 hDc (by first | exact hN | exact hN.sd) (by first | exact hE | exact hE.sd) hS hFc⟩ rfl rfl hl.1 rfl (lv_room (Nat.le_of_ble_eq_true rfl)) dL_wood_7 ⟨(Nat.le_of_ble_eq_true rfl), (Nat.le_of_ble_eq_true rfl)⟩) hS (fun q _ h => hFc q h) hFc (fun q _ h => hFc q h) (fun E9 ce9 q9 u9 t9 H1 locs1 ht9 hvm9 hpx hBX hz9 hk1 hS1 hce hcv hcl => ?_) (fun r9 u9 t9 H1 locs1 ht9 hvm9 hpost hB9 hz9 hk1 hS1 => ?_)
  · skip
    have hS := hS1
    have hu9 : u9 = 1 ∨ u9 = 2 := by have h1 := hpx.1; have h2 := hpx.2; have h3 := zcW_le (iw := iw) (ih := ih) (x := x) (y := y) (v := zv v); omega
    obtain ⟨hE9, hP1, hK1, hD1⟩ := hBX
    rcases hu9 with hu9 | hu9
    · skip
      obtain rfl : E9 = zIO := by rw [hE9, hu9]; rfl
      refine vx_catch (own := RL) (name := zIO) (E := zIO) (ce := ce9) hown [] ⟨0, 19, 22, 13⟩ [⟨0, 19, 26, 15⟩] (by rw [htab]; rfl) (fun _ h => absurd h List.not_mem_nil) rfl (by decide) (dr_words hts s.drawn (.classLink RL 13 "java/lang/IndexOutOfBoundsException") (by decide +kernel)) (va_Nw.use rfl (hE.sd.2.2.1 zIO (by decide))) hce hcv hcl ?_
      rw [ht9] at hP1
      obtain ⟨hP, hD⟩ := va_join (wr := [(oL, .inl (cL, 1, .inr (.inl ol)))]) (w1 := (w4 aC aP pT pR pN pB bP bF bL bH aM aQ mS mR mT ro0 ro1 ro2 ro3 aK kQ kS kR kT ko0 ko1 ko2 ko3 aW pW pX cD cI cQ iw ih al ac de nb im ik iq tT tR tN uP uF uL uH e0 e1 e2 e3 qS qU qO ke0 ke1 ke2 ke3 ksq ksr kst tW tX)) hP hD [0, 1, 2, 3, 4, 5, 6, 7, 8, 9, 10, 11, 12, 13, 14, 15, 16, 17, 18, 19, 20, 21, 22, 23, 24, 25, 26, 27, 28, 29, 30] [31] rfl rfl (by decide) (by decide) hk1 hFc hP1 hD1
      generalize H1 = H at hP hS ⊢
      have hP : va_P (dC, dI) vwCl (w4L oL aC aP pT pR pN pB bP bF bL bH aM aQ mS mR mT ro0 ro1 ro2 ro3 aK kQ kS kR kT ko0 ko1 ko2 ko3 aW pW pX cD cI cQ cL iw ih al ac de nb im ik iq tT tR tN uP uF uL uH e0 e1 e2 e3 qS qU qO ke0 ke1 ke2 ke3 ksq ksr kst tW tX ol) H := hP.sub (ws' := (w4L oL aC aP pT pR pN pB bP bF bL bH aM aQ mS mR mT ro0 ro1 ro2 ro3 aK kQ kS kR kT ko0 ko1 ko2 ko3 aW pW pX cD cI cQ cL iw ih al ac de nb im ik iq tT tR tN uP uF uL uH e0 e1 e2 e3 qS qU qO ke0 ke1 ke2 ke3 ksq ksr kst tW tX ol)) [1, 2, 3, 4, 5, 6, 7, 8, 9, 10, 11, 12, 13, 14, 15, 16, 17, 18, 19, 20, 21, 22, 23, 24, 25, 26, 27, 28, 29, 30, 31, 0] rfl
      have hD : va_D A (w4L oL aC aP pT pR pN pB bP bF bL bH aM aQ mS mR mT ro0 ro1 ro2 ro3 aK kQ kS kR kT ko0 ko1 ko2 ko3 aW pW pX cD cI cQ cL iw ih al ac de nb im ik iq tT tR tN uP uF uL uH e0 e1 e2 e3 qS qU qO ke0 ke1 ke2 ke3 ksq ksr kst tW tX ol) := hD.sub (ws' := (w4L oL aC aP pT pR pN pB bP bF bL bH aM aQ mS mR mT ro0 ro1 ro2 ro3 aK kQ kS kR kT ko0 ko1 ko2 ko3 aW pW pX cD cI cQ cL iw ih al ac de nb im ik iq tT tR tN uP uF uL uH e0 e1 e2 e3 qS qU qO ke0 ke1 ke2 ke3 ksq ksr kst tW tX ol)) [1, 2, 3, 4, 5, 6, 7, 8, 9, 10, 11, 12, 13, 14, 15, 16, 17, 18, 19, 20, 21, 22, 23, 24, 25, 26, 27, 28, 29, 30, 31, 0] (by decide) rfl
      refine lv_astore (lv' := [(6, .ref q9), (0, .ref aC), (1, .int x), (2, .int y), (3, .double v), (5, .ref oL)]) hx hb dL_wood_22 hl (by decide) rfl (fun ls hl => ?_)
      refine lv_iconst (v := (nI 1)) hx hb dL_wood_24 (by decide) ?_
      refine W.endD hd0 ?_
      refine W.widen (k := 2) (n := 12) (Nat.le_of_ble_eq_true rfl) (Nat.le_of_ble_eq_true rfl) ?_
      exact W.iret (v := (nI 1)) hx hb hr (fun t ht hW => ⟨⟨(nI 1), (tT, im, ol), rfl, ⟨by rw [show (zcW iw ih x y (zv v)) = 1 from hpx.1.symm.trans hu9] <;> rfl, fun q => absurd (hpx.1.trans q) hpx.2, fun _ => ⟨rfl, rfl, rfl⟩⟩, by rw [ht]; exact hP, va_K.moved hW.alike hK, hD⟩, hS.F ht⟩) hS.2.2 dL_wood_25
    · skip
      obtain rfl : E9 = zIA := by rw [hE9, hu9]; rfl
      refine vx_catch (own := RL) (name := zIA) (E := zIA) (ce := ce9) hown [⟨0, 19, 22, 13⟩] ⟨0, 19, 26, 15⟩ [] (by rw [htab]; rfl) (List.forall_mem_cons.mpr ⟨Or.inr ⟨by decide, zIO, (dr_words hts s.drawn (.classLink RL 13 "java/lang/IndexOutOfBoundsException") (by decide +kernel)), hXN.sd.1⟩, (fun _ h => absurd h List.not_mem_nil)⟩) rfl (by decide) (dr_words hts s.drawn (.classLink RL 15 "java/lang/IllegalArgumentException") (by decide +kernel)) (va_Nw.use rfl (hE.sd.2.2.1 zIA (by decide))) hce hcv hcl ?_
      rw [ht9] at hP1
      obtain ⟨hP, hD⟩ := va_join (wr := [(oL, .inl (cL, 1, .inr (.inl ol)))]) (w1 := (w4 aC aP pT pR pN pB bP bF bL bH aM aQ mS mR mT ro0 ro1 ro2 ro3 aK kQ kS kR kT ko0 ko1 ko2 ko3 aW pW pX cD cI cQ iw ih al ac de nb im ik iq tT tR tN uP uF uL uH e0 e1 e2 e3 qS qU qO ke0 ke1 ke2 ke3 ksq ksr kst tW tX)) hP hD [0, 1, 2, 3, 4, 5, 6, 7, 8, 9, 10, 11, 12, 13, 14, 15, 16, 17, 18, 19, 20, 21, 22, 23, 24, 25, 26, 27, 28, 29, 30] [31] rfl rfl (by decide) (by decide) hk1 hFc hP1 hD1
      generalize H1 = H at hP hS ⊢
      have hP : va_P (dC, dI) vwCl (w4L oL aC aP pT pR pN pB bP bF bL bH aM aQ mS mR mT ro0 ro1 ro2 ro3 aK kQ kS kR kT ko0 ko1 ko2 ko3 aW pW pX cD cI cQ cL iw ih al ac de nb im ik iq tT tR tN uP uF uL uH e0 e1 e2 e3 qS qU qO ke0 ke1 ke2 ke3 ksq ksr kst tW tX ol) H := hP.sub (ws' := (w4L oL aC aP pT pR pN pB bP bF bL bH aM aQ mS mR mT ro0 ro1 ro2 ro3 aK kQ kS kR kT ko0 ko1 ko2 ko3 aW pW pX cD cI cQ cL iw ih al ac de nb im ik iq tT tR tN uP uF uL uH e0 e1 e2 e3 qS qU qO ke0 ke1 ke2 ke3 ksq ksr kst tW tX ol)) [1, 2, 3, 4, 5, 6, 7, 8, 9, 10, 11, 12, 13, 14, 15, 16, 17, 18, 19, 20, 21, 22, 23, 24, 25, 26, 27, 28, 29, 30, 31, 0] rfl
      have hD : va_D A (w4L oL aC aP pT pR pN pB bP bF bL bH aM aQ mS mR mT ro0 ro1 ro2 ro3 aK kQ kS kR kT ko0 ko1 ko2 ko3 aW pW pX cD cI cQ cL iw ih al ac de nb im ik iq tT tR tN uP uF uL uH e0 e1 e2 e3 qS qU qO ke0 ke1 ke2 ke3 ksq ksr kst tW tX ol) := hD.sub (ws' := (w4L oL aC aP pT pR pN pB bP bF bL bH aM aQ mS mR mT ro0 ro1 ro2 ro3 aK kQ kS kR kT ko0 ko1 ko2 ko3 aW pW pX cD cI cQ cL iw ih al ac de nb im ik iq tT tR tN uP uF uL uH e0 e1 e2 e3 qS qU qO ke0 ke1 ke2 ke3 ksq ksr kst tW tX ol)) [1, 2, 3, 4, 5, 6, 7, 8, 9, 10, 11, 12, 13, 14, 15, 16, 17, 18, 19, 20, 21, 22, 23, 24, 25, 26, 27, 28, 29, 30, 31, 0] (by decide) rfl
      refine lv_astore (lv' := [(6, .ref q9), (0, .ref aC), (1, .int x), (2, .int y), (3, .double v), (5, .ref oL)]) hx hb dL_wood_26 hl (by decide) rfl (fun ls hl => ?_)
      refine lv_iconst (v := (nI 2)) hx hb dL_wood_28 (by decide) ?_
      refine W.endD hd0 ?_
      refine W.widen (k := 2) (n := 12) (Nat.le_of_ble_eq_true rfl) (Nat.le_of_ble_eq_true rfl) ?_
      exact W.iret (v := (nI 2)) hx hb hr (fun t ht hW => ⟨⟨(nI 2), (tT, im, ol), rfl, ⟨by rw [show (zcW iw ih x y (zv v)) = 2 from hpx.1.symm.trans hu9] <;> rfl, fun q => absurd (hpx.1.trans q) hpx.2, fun _ => ⟨rfl, rfl, rfl⟩⟩, by rw [ht]; exact hP, va_K.moved hW.alike hK, hD⟩, hS.F ht⟩) hS.2.2 dL_wood_29
  · skip
    have hS := hS1
    obtain ⟨hP1, hK1, hD1⟩ := hB9
    rw [ht9] at hP1
    obtain ⟨hP, hD⟩ := va_join (wr := [(oL, .inl (cL, 1, .inr (.inl ol)))]) (w1 := (w4 aC aP pT pR pN pB bP bF bL bH aM aQ mS mR mT ro0 ro1 ro2 ro3 aK kQ kS kR kT ko0 ko1 ko2 ko3 aW pW pX cD cI cQ iw ih al ac de nb u9.2 ik iq u9.1 tR tN uP uF uL uH e0 e1 e2 e3 qS qU qO ke0 ke1 ke2 ke3 ksq ksr kst tW tX)) hP hD [0, 1, 2, 3, 4, 5, 6, 7, 8, 9, 10, 11, 12, 13, 14, 15, 16, 17, 18, 19, 20, 21, 22, 23, 24, 25, 26, 27, 28, 29, 30] [31] rfl rfl (by decide) (by decide) hk1 hFc hP1 hD1
    generalize H1 = H at hP hS ⊢
    have hP : va_P (dC, dI) vwCl (w4L oL aC aP pT pR pN pB bP bF bL bH aM aQ mS mR mT ro0 ro1 ro2 ro3 aK kQ kS kR kT ko0 ko1 ko2 ko3 aW pW pX cD cI cQ cL iw ih al ac de nb u9.2 ik iq u9.1 tR tN uP uF uL uH e0 e1 e2 e3 qS qU qO ke0 ke1 ke2 ke3 ksq ksr kst tW tX ol) H := hP.sub (ws' := (w4L oL aC aP pT pR pN pB bP bF bL bH aM aQ mS mR mT ro0 ro1 ro2 ro3 aK kQ kS kR kT ko0 ko1 ko2 ko3 aW pW pX cD cI cQ cL iw ih al ac de nb u9.2 ik iq u9.1 tR tN uP uF uL uH e0 e1 e2 e3 qS qU qO ke0 ke1 ke2 ke3 ksq ksr kst tW tX ol)) [1, 2, 3, 4, 5, 6, 7, 8, 9, 10, 11, 12, 13, 14, 15, 16, 17, 18, 19, 20, 21, 22, 23, 24, 25, 26, 27, 28, 29, 30, 31, 0] rfl
    have hD : va_D A (w4L oL aC aP pT pR pN pB bP bF bL bH aM aQ mS mR mT ro0 ro1 ro2 ro3 aK kQ kS kR kT ko0 ko1 ko2 ko3 aW pW pX cD cI cQ cL iw ih al ac de nb u9.2 ik iq u9.1 tR tN uP uF uL uH e0 e1 e2 e3 qS qU qO ke0 ke1 ke2 ke3 ksq ksr kst tW tX ol) := hD.sub (ws' := (w4L oL aC aP pT pR pN pB bP bF bL bH aM aQ mS mR mT ro0 ro1 ro2 ro3 aK kQ kS kR kT ko0 ko1 ko2 ko3 aW pW pX cD cI cQ cL iw ih al ac de nb u9.2 ik iq u9.1 tR tN uP uF uL uH e0 e1 e2 e3 qS qU qO ke0 ke1 ke2 ke3 ksq ksr kst tW tX ol)) [1, 2, 3, 4, 5, 6, 7, 8, 9, 10, 11, 12, 13, 14, 15, 16, 17, 18, 19, 20, 21, 22, 23, 24, 25, 26, 27, 28, 29, 30, 31, 0] (by decide) rfl
    obtain ⟨hcode, hr9, heq1, heq0⟩ := hpost
    subst hr9
    refine z_if_eq_b (tgt := 17) hx hb dL_wood_10 (by decide) (fun cx1 => ?_) (fun cx2 => ?_)
    · skip
      have hbr := cx1
      refine lv_lconst (v := 0) hx hb dL_wood_17 (by decide) ?_
      refine z_last (s := s.setDrawn s.drawn) (n := 1) (i := 0) hx hb hK hP hD hS 31 3 rfl rfl (by decide) (by decide) dL_wood_18 (fun H locs hP hD hS => ?_)
      have hP : va_P (dC, dI) vwCl (w4L oL aC aP pT pR pN pB bP bF bL bH aM aQ mS mR mT ro0 ro1 ro2 ro3 aK kQ kS kR kT ko0 ko1 ko2 ko3 aW pW pX cD cI cQ cL iw ih al ac de nb u9.2 ik iq u9.1 tR tN uP uF uL uH e0 e1 e2 e3 qS qU qO ke0 ke1 ke2 ke3 ksq ksr kst tW tX (zu ol 0 0)) H := hP
      have hD : va_D A (w4L oL aC aP pT pR pN pB bP bF bL bH aM aQ mS mR mT ro0 ro1 ro2 ro3 aK kQ kS kR kT ko0 ko1 ko2 ko3 aW pW pX cD cI cQ cL iw ih al ac de nb u9.2 ik iq u9.1 tR tN uP uF uL uH e0 e1 e2 e3 qS qU qO ke0 ke1 ke2 ke3 ksq ksr kst tW tX (zu ol 0 0)) := hD
      refine lv_goto (tgt := 30) hx hb dL_wood_19 (by decide) ?_
      refine lv_iconst (v := (nI 0)) hx hb dL_wood_30 (by decide) ?_
      refine W.endD hd0 ?_
      refine W.widen (k := 2) (n := 12) (Nat.le_of_ble_eq_true rfl) (Nat.le_of_ble_eq_true rfl) ?_
      exact W.iret (v := (nI 0)) hx hb hr (fun t ht hW => ⟨⟨(nI 0), (u9.1, u9.2, zu ol 0 0), rfl, ⟨by rw [hcode] <;> rfl, fun _ => ⟨by rw [znot_f hbr] <;> rfl, heq1, heq0⟩, fun q => absurd hcode q⟩, by rw [ht]; exact hP, va_K.moved hW.alike hK, hD⟩, hS.F ht⟩) hS.2.2 dL_wood_31
    · skip
      have hbr := cx2
      refine lv_lconst (v := 1) hx hb dL_wood_13 (by decide) ?_
      refine lv_goto (tgt := 18) hx hb dL_wood_14 (by decide) ?_
      refine z_last (s := s.setDrawn s.drawn) (n := 1) (i := 0) hx hb hK hP hD hS 31 3 rfl rfl (by decide) (by decide) dL_wood_18 (fun H locs hP hD hS => ?_)
      have hP : va_P (dC, dI) vwCl (w4L oL aC aP pT pR pN pB bP bF bL bH aM aQ mS mR mT ro0 ro1 ro2 ro3 aK kQ kS kR kT ko0 ko1 ko2 ko3 aW pW pX cD cI cQ cL iw ih al ac de nb u9.2 ik iq u9.1 tR tN uP uF uL uH e0 e1 e2 e3 qS qU qO ke0 ke1 ke2 ke3 ksq ksr kst tW tX (zu ol 0 1)) H := hP
      have hD : va_D A (w4L oL aC aP pT pR pN pB bP bF bL bH aM aQ mS mR mT ro0 ro1 ro2 ro3 aK kQ kS kR kT ko0 ko1 ko2 ko3 aW pW pX cD cI cQ cL iw ih al ac de nb u9.2 ik iq u9.1 tR tN uP uF uL uH e0 e1 e2 e3 qS qU qO ke0 ke1 ke2 ke3 ksq ksr kst tW tX (zu ol 0 1)) := hD
      refine lv_goto (tgt := 30) hx hb dL_wood_19 (by decide) ?_
      refine lv_iconst (v := (nI 0)) hx hb dL_wood_30 (by decide) ?_
      refine W.endD hd0 ?_
      refine W.widen (k := 2) (n := 12) (Nat.le_of_ble_eq_true rfl) (Nat.le_of_ble_eq_true rfl) ?_
      exact W.iret (v := (nI 0)) hx hb hr (fun t ht hW => ⟨⟨(nI 0), (u9.1, u9.2, zu ol 0 1), rfl, ⟨by rw [hcode] <;> rfl, fun _ => ⟨by rw [znot_t hbr] <;> rfl, heq1, heq0⟩, fun q => absurd hcode q⟩, by rw [ht]; exact hP, va_K.moved hW.alike hK, hD⟩, hS.F ht⟩) hS.2.2 dL_wood_31
set_option maxHeartbeats 4000000 in
set_option maxRecDepth 100000 in
/-- rates: the helper -/
theorem cL_rates_c (l : Launch) (hst : l.stackTraces = false) (dC : Nat → ClassId) (dI : Nat → Nat → Nat) (aC aP pT pR pN pB bP bF bL bH aM aQ mS mR mT ro0 ro1 ro2 ro3 aK kQ kS kR kT ko0 ko1 ko2 ko3 aW pW pX : Nat) (cD cI cQ cL : ClassId) (iw ih : Nat) (al ac de : UInt64) (nb im ik iq : Nat) (tT tR tN : Nat → UInt64) (uP uF uL : Nat → Int32) (uH e0 e1 e2 e3 qS qU qO ke0 ke1 ke2 ke3 ksq ksr kst : Nat → UInt64) (tW : Nat → Int32) (tX : Nat → UInt64) (va vb vd : UInt64) (sz : Nat) : MetD lw_cs l yL_rates wsL_rates ({ frames := 8, cells := 3, slots := 18, locals := 141 } : Room) (va_Pc [.ref aC, .double va, .double vb, .double vd] (fun U => U.heap.size = sz ∧ va_P (dC, dI) vwCl (w4 aC aP pT pR pN pB bP bF bL bH aM aQ mS mR mT ro0 ro1 ro2 ro3 aK kQ kS kR kT ko0 ko1 ko2 ko3 aW pW pX cD cI cQ iw ih al ac de nb im ik iq tT tR tN uP uF uL uH e0 e1 e2 e3 qS qU qO ke0 ke1 ke2 ke3 ksq ksr kst tW tX) U.heap ∧ va_K (dC, dI) vwCl [(cD, .double), (cI, .int), (cQ, .array .double), (cL, .long)] U ∧ zNw U ∧ zXE (va_A (w4 aC aP pT pR pN pB bP bF bL bH aM aQ mS mR mT ro0 ro1 ro2 ro3 aK kQ kS kR kT ko0 ko1 ko2 ko3 aW pW pX cD cI cQ iw ih al ac de nb im ik iq tT tR tN uP uF uL uH e0 e1 e2 e3 qS qU qO ke0 ke1 ke2 ke3 ksq ksr kst tW tX) sz) U U.heap ∧ zXN U ∧ va_D (fun _ => True) (w4 aC aP pT pR pN pB bP bF bL bH aM aQ mS mR mT ro0 ro1 ro2 ro3 aK kQ kS kR kT ko0 ko1 ko2 ko3 aW pW pX cD cI cQ iw ih al ac de nb im ik iq tT tR tN uP uF uL uH e0 e1 e2 e3 qS qU qO ke0 ke1 ke2 ke3 ksq ksr kst tW tX))) (va_Qi (fun (r : Int32) (u : UInt64 × UInt64 × UInt64 × Nat) => r = nI (zcR (zv va) (zv vb) (zv vd)) ∧ (zcR (zv va) (zv vb) (zv vd) = 0 → u.1 = va ∧ u.2.1 = vb ∧ u.2.2.1 = vd ∧ u.2.2.2 = 0) ∧ (¬ zcR (zv va) (zv vb) (zv vd) = 0 → u.1 = al ∧ u.2.1 = ac ∧ u.2.2.1 = de ∧ u.2.2.2 = im)) (fun u t => (va_P (dC, dI) vwCl (w4 aC aP pT pR pN pB bP bF bL bH aM aQ mS mR mT ro0 ro1 ro2 ro3 aK kQ kS kR kT ko0 ko1 ko2 ko3 aW pW pX cD cI cQ iw ih u.1 u.2.1 u.2.2.1 nb u.2.2.2 ik iq tT tR tN uP uF uL uH e0 e1 e2 e3 qS qU qO ke0 ke1 ke2 ke3 ksq ksr kst tW tX) t.heap ∧ va_K (dC, dI) vwCl [(cD, .double), (cI, .int), (cQ, .array .double), (cL, .long)] t ∧ va_D (va_A (w4 aC aP pT pR pN pB bP bF bL bH aM aQ mS mR mT ro0 ro1 ro2 ro3 aK kQ kS kR kT ko0 ko1 ko2 ko3 aW pW pX cD cI cQ iw ih al ac de nb im ik iq tT tR tN uP uF uL uH e0 e1 e2 e3 qS qU qO ke0 ke1 ke2 ke3 ksq ksr kst tW tX) sz) (w4 aC aP pT pR pN pB bP bF bL bH aM aQ mS mR mT ro0 ro1 ro2 ro3 aK kQ kS kR kT ko0 ko1 ko2 ko3 aW pW pX cD cI cQ iw ih u.1 u.2.1 u.2.2.1 nb u.2.2.2 ik iq tT tR tN uP uF uL uH e0 e1 e2 e3 qS qU qO ke0 ke1 ke2 ke3 ksq ksr kst tW tX))) (va_A (w4 aC aP pT pR pN pB bP bF bL bH aM aQ mS mR mT ro0 ro1 ro2 ro3 aK kQ kS kR kT ko0 ko1 ko2 ko3 aW pW pX cD cI cQ iw ih al ac de nb im ik iq tT tR tN uP uF uL uH e0 e1 e2 e3 qS qU qO ke0 ke1 ke2 ke3 ksq ksr kst tW tX) sz)) 3 18 (va_A (w4 aC aP pT pR pN pB bP bF bL bH aM aQ mS mR mT ro0 ro1 ro2 ro3 aK kQ kS kR kT ko0 ko1 ko2 ko3 aW pW pX cD cI cQ iw ih al ac de nb im ik iq tT tR tN uP uF uL uH e0 e1 e2 e3 qS qU qO ke0 ke1 ke2 ke3 ksq ksr kst tW tX) sz) := by
  refine zy_ofWHD (cc := cL_rates) (maxL := 8) (ret := (some .int)) (hh := [(0, 8, 11, 15)]) (by decide) rfl ?_
  intro p e s m args below meth c s₁ B hml htab hv hd0
  obtain ⟨rfl, hsz, hP, hK, hN, hE, hXN, hD0⟩ := hv
  have hx := B.exec
  have hb := B.bytes
  have hr := B.returns
  have hts := atoms_spec (ws := wsL_rates) B.pre
  have hown : s.vm.findClass RL = some m.cls := findClass_of_methodNamed B.named
  have hlocks := B.notSynchronized
  subst hsz
  have hD := hD0.self (sz := s.heap.size)
  generalize hAe : va_A (w4 aC aP pT pR pN pB bP bF bL bH aM aQ mS mR mT ro0 ro1 ro2 ro3 aK kQ kS kR kT ko0 ko1 ko2 ko3 aW pW pX cD cI cQ iw ih al ac de nb im ik iq tT tR tN uP uF uL uH e0 e1 e2 e3 qS qU qO ke0 ke1 ke2 ke3 ksq ksr kst tW tX) s.heap.size = A at hD hE ⊢
  have hA : ∀ q : Nat, s.heap.size ≤ q → A q := fun q h => by rw [← hAe]; exact Or.inr h
  have hS : va_S A s.heap s.heap [] := va_S.rf
  have hl := lv_entry ([.ref aC, .double va, .double vb, .double vd]) (n := 8) (Nat.le_of_ble_eq_true rfl)
  rw [lg_entry_eq]
  generalize (lg_sl ([.ref aC, .double va, .double vb, .double vd]) ++ List.replicate (8 - (lg_sl ([.ref aC, .double va, .double vb, .double vd])).length) Slot.unset).toArray = ls at hl ⊢
  have hl : lv_has ls 8 [(0, .ref aC), (1, .double va), (3, .double vb), (5, .double vd)] := hl
  refine lv_aload_n hx hb dL_rates_0 rfl (lv_at hl 0 rfl) ?_
  refine lv_dload_n hx hb dL_rates_1 rfl (lv_at hl 1 rfl) ?_
  refine lv_dload_n hx hb dL_rates_2 rfl (lv_at hl 2 rfl) ?_
  refine lv_dload hx hb dL_rates_3 (lv_at hl 3 rfl) ?_
  have hPc := hP.sub (ws' := (w4 aC aP pT pR pN pB bP bF bL bH aM aQ mS mR mT ro0 ro1 ro2 ro3 aK kQ kS kR kT ko0 ko1 ko2 ko3 aW pW pX cD cI cQ iw ih al ac de nb im ik iq tT tR tN uP uF uL uH e0 e1 e2 e3 qS qU qO ke0 ke1 ke2 ke3 ksq ksr kst tW tX)) [0, 1, 2, 3, 4, 5, 6, 7, 8, 9, 10, 11, 12, 13, 14, 15, 16, 17, 18, 19, 20, 21, 22, 23, 24, 25, 26, 27, 28, 29, 30] rfl
  have hK3 := hK.sub (tys' := [(cD, .double), (cI, .int), (cQ, .array .double)]) [0, 1, 2] rfl
  have hDc := hD.sub (ws' := (w4 aC aP pT pR pN pB bP bF bL bH aM aQ mS mR mT ro0 ro1 ro2 ro3 aK kQ kS kR kT ko0 ko1 ko2 ko3 aW pW pX cD cI cQ iw ih al ac de nb im ik iq tT tR tN uP uF uL uH e0 e1 e2 e3 qS qU qO ke0 ke1 ke2 ke3 ksq ksr kst tW tX)) [0, 1, 2, 3, 4, 5, 6, 7, 8, 9, 10, 11, 12, 13, 14, 15, 16, 17, 18, 19, 20, 21, 22, 23, 24, 25, 26, 27, 28, 29, 30] (by decide) rfl
  have hFc := va_free (wc := (w4 aC aP pT pR pN pB bP bF bL bH aM aQ mS mR mT ro0 ro1 ro2 ro3 aK kQ kS kR kT ko0 ko1 ko2 ko3 aW pW pX cD cI cQ iw ih al ac de nb im ik iq tT tR tN uP uF uL uH e0 e1 e2 e3 qS qU qO ke0 ke1 ke2 ke3 ksq ksr kst tW tX)) hD hS hA [0, 1, 2, 3, 4, 5, 6, 7, 8, 9, 10, 11, 12, 13, 14, 15, 16, 17, 18, 19, 20, 21, 22, 23, 24, 25, 26, 27, 28, 29, 30] rfl
  refine vx_callv (vx_runV (As := [.double va, .double vb, .double vd]) (rest := []) ⟨hx, hb, hml, hown, (dr_words hts s.drawn)⟩ (c4_rates l hst dC dI aC aP pT pR pN pB bP bF bL bH aM aQ mS mR mT ro0 ro1 ro2 ro3 aK kQ kS kR kT ko0 ko1 ko2 ko3 aW pW pX cD cI cQ iw ih al ac de nb im ik iq tT tR tN uP uF uL uH e0 e1 e2 e3 qS qU qO ke0 ke1 ke2 ke3 ksq ksr kst tW tX va vb vd _) (cwV 3 (dr_words hts s.drawn) gL_rates_X4_rates rfl rfl rfl (by decide +kernel) ⟨(Nat.le_of_ble_eq_true rfl), (Nat.le_of_ble_eq_true rfl)⟩) ⟨zfbwX, va_recv hK3 hPc (ci := 4) (q0 := 0) rfl rfl, zprewX hPc hK3 hDc (by first | exact hN | exact hN.sd) (by first | exact hE | exact hE.sd) hS hFc⟩ rfl rfl hl.1 rfl (lv_room (Nat.le_of_ble_eq_true rfl)) dL_rates_5 ⟨(Nat.le_of_ble_eq_true rfl), (Nat.le_of_ble_eq_true rfl)⟩) hS (fun q _ h => hFc q h) hFc (fun q _ h => hFc q h) (fun E9 ce9 q9 u9 t9 H1 locs1 ht9 hvm9 hpx hBX hz9 hk1 hS1 hce hcv hcl => ?_) (fun u9 t9 H1 locs1 ht9 hvm9 hpost hB9 hz9 hk1 hS1 => ?_)
  · skip
    have hS := hS1
    have hu9 : u9 = 1 := by have h1 := hpx.1; have h2 := hpx.2; have h3 := zcR_le (a := zv va) (b := zv vb) (d := zv vd); omega
    obtain ⟨hE9, hP1, hK1, hD1⟩ := hBX
    obtain rfl : E9 = zIA := by rw [hE9, hu9]; rfl
    refine vx_catch (own := RL) (name := zIA) (E := zIA) (ce := ce9) hown [] ⟨0, 8, 11, 15⟩ [] (by rw [htab]; rfl) (fun _ h => absurd h List.not_mem_nil) rfl (by decide) (dr_words hts s.drawn (.classLink RL 15 "java/lang/IllegalArgumentException") (by decide +kernel)) (va_Nw.use rfl (hE.sd.2.2.1 zIA (by decide))) hce hcv hcl ?_
    rw [ht9] at hP1
    obtain ⟨hP, hD⟩ := va_join (wr := []) (w1 := (w4 aC aP pT pR pN pB bP bF bL bH aM aQ mS mR mT ro0 ro1 ro2 ro3 aK kQ kS kR kT ko0 ko1 ko2 ko3 aW pW pX cD cI cQ iw ih al ac de nb im ik iq tT tR tN uP uF uL uH e0 e1 e2 e3 qS qU qO ke0 ke1 ke2 ke3 ksq ksr kst tW tX)) hP hD [0, 1, 2, 3, 4, 5, 6, 7, 8, 9, 10, 11, 12, 13, 14, 15, 16, 17, 18, 19, 20, 21, 22, 23, 24, 25, 26, 27, 28, 29, 30] [] rfl rfl (by decide) (by decide) hk1 hFc hP1 hD1
    generalize H1 = H at hP hS ⊢
    have hP : va_P (dC, dI) vwCl (w4 aC aP pT pR pN pB bP bF bL bH aM aQ mS mR mT ro0 ro1 ro2 ro3 aK kQ kS kR kT ko0 ko1 ko2 ko3 aW pW pX cD cI cQ iw ih al ac de nb im ik iq tT tR tN uP uF uL uH e0 e1 e2 e3 qS qU qO ke0 ke1 ke2 ke3 ksq ksr kst tW tX) H := hP.sub (ws' := (w4 aC aP pT pR pN pB bP bF bL bH aM aQ mS mR mT ro0 ro1 ro2 ro3 aK kQ kS kR kT ko0 ko1 ko2 ko3 aW pW pX cD cI cQ iw ih al ac de nb im ik iq tT tR tN uP uF uL uH e0 e1 e2 e3 qS qU qO ke0 ke1 ke2 ke3 ksq ksr kst tW tX)) [0, 1, 2, 3, 4, 5, 6, 7, 8, 9, 10, 11, 12, 13, 14, 15, 16, 17, 18, 19, 20, 21, 22, 23, 24, 25, 26, 27, 28, 29, 30] rfl
    have hD : va_D A (w4 aC aP pT pR pN pB bP bF bL bH aM aQ mS mR mT ro0 ro1 ro2 ro3 aK kQ kS kR kT ko0 ko1 ko2 ko3 aW pW pX cD cI cQ iw ih al ac de nb im ik iq tT tR tN uP uF uL uH e0 e1 e2 e3 qS qU qO ke0 ke1 ke2 ke3 ksq ksr kst tW tX) := hD.sub (ws' := (w4 aC aP pT pR pN pB bP bF bL bH aM aQ mS mR mT ro0 ro1 ro2 ro3 aK kQ kS kR kT ko0 ko1 ko2 ko3 aW pW pX cD cI cQ iw ih al ac de nb im ik iq tT tR tN uP uF uL uH e0 e1 e2 e3 qS qU qO ke0 ke1 ke2 ke3 ksq ksr kst tW tX)) [0, 1, 2, 3, 4, 5, 6, 7, 8, 9, 10, 11, 12, 13, 14, 15, 16, 17, 18, 19, 20, 21, 22, 23, 24, 25, 26, 27, 28, 29, 30] (by decide) rfl
    refine lv_astore (lv' := [(7, .ref q9), (0, .ref aC), (1, .double va), (3, .double vb), (5, .double vd)]) hx hb dL_rates_11 hl (by decide) rfl (fun ls hl => ?_)
    refine lv_iconst (v := (nI 1)) hx hb dL_rates_13 (by decide) ?_
    refine W.endD hd0 ?_
    refine W.widen (k := 3) (n := 18) (Nat.le_of_ble_eq_true rfl) (Nat.le_of_ble_eq_true rfl) ?_
    exact W.iret (v := (nI 1)) hx hb hr (fun t ht hW => ⟨⟨(nI 1), (al, ac, de, im), rfl, ⟨by rw [show (zcR (zv va) (zv vb) (zv vd)) = 1 from hpx.1.symm.trans hu9] <;> rfl, fun q => absurd (hpx.1.trans q) hpx.2, fun _ => ⟨rfl, rfl, rfl, rfl⟩⟩, by rw [ht]; exact hP, va_K.moved hW.alike hK, hD⟩, hS.F ht⟩) hS.2.2 dL_rates_14
  · skip
    have hS := hS1
    obtain ⟨hP1, hK1, hD1⟩ := hB9
    rw [ht9] at hP1
    obtain ⟨hP, hD⟩ := va_join (wr := []) (w1 := (w4 aC aP pT pR pN pB bP bF bL bH aM aQ mS mR mT ro0 ro1 ro2 ro3 aK kQ kS kR kT ko0 ko1 ko2 ko3 aW pW pX cD cI cQ iw ih va vb vd nb 0 ik iq tT tR tN uP uF uL uH e0 e1 e2 e3 qS qU qO ke0 ke1 ke2 ke3 ksq ksr kst tW tX)) hP hD [0, 1, 2, 3, 4, 5, 6, 7, 8, 9, 10, 11, 12, 13, 14, 15, 16, 17, 18, 19, 20, 21, 22, 23, 24, 25, 26, 27, 28, 29, 30] [] rfl rfl (by decide) (by decide) hk1 hFc hP1 hD1
    generalize H1 = H at hP hS ⊢
    have hP : va_P (dC, dI) vwCl (w4 aC aP pT pR pN pB bP bF bL bH aM aQ mS mR mT ro0 ro1 ro2 ro3 aK kQ kS kR kT ko0 ko1 ko2 ko3 aW pW pX cD cI cQ iw ih va vb vd nb 0 ik iq tT tR tN uP uF uL uH e0 e1 e2 e3 qS qU qO ke0 ke1 ke2 ke3 ksq ksr kst tW tX) H := hP.sub (ws' := (w4 aC aP pT pR pN pB bP bF bL bH aM aQ mS mR mT ro0 ro1 ro2 ro3 aK kQ kS kR kT ko0 ko1 ko2 ko3 aW pW pX cD cI cQ iw ih va vb vd nb 0 ik iq tT tR tN uP uF uL uH e0 e1 e2 e3 qS qU qO ke0 ke1 ke2 ke3 ksq ksr kst tW tX)) [0, 1, 2, 3, 4, 5, 6, 7, 8, 9, 10, 11, 12, 13, 14, 15, 16, 17, 18, 19, 20, 21, 22, 23, 24, 25, 26, 27, 28, 29, 30] rfl
    have hD : va_D A (w4 aC aP pT pR pN pB bP bF bL bH aM aQ mS mR mT ro0 ro1 ro2 ro3 aK kQ kS kR kT ko0 ko1 ko2 ko3 aW pW pX cD cI cQ iw ih va vb vd nb 0 ik iq tT tR tN uP uF uL uH e0 e1 e2 e3 qS qU qO ke0 ke1 ke2 ke3 ksq ksr kst tW tX) := hD.sub (ws' := (w4 aC aP pT pR pN pB bP bF bL bH aM aQ mS mR mT ro0 ro1 ro2 ro3 aK kQ kS kR kT ko0 ko1 ko2 ko3 aW pW pX cD cI cQ iw ih va vb vd nb 0 ik iq tT tR tN uP uF uL uH e0 e1 e2 e3 qS qU qO ke0 ke1 ke2 ke3 ksq ksr kst tW tX)) [0, 1, 2, 3, 4, 5, 6, 7, 8, 9, 10, 11, 12, 13, 14, 15, 16, 17, 18, 19, 20, 21, 22, 23, 24, 25, 26, 27, 28, 29, 30] (by decide) rfl
    have hcode := hpost
    refine lv_goto (tgt := 15) hx hb dL_rates_8 (by decide) ?_
    refine lv_iconst (v := (nI 0)) hx hb dL_rates_15 (by decide) ?_
    refine W.endD hd0 ?_
    refine W.widen (k := 3) (n := 18) (Nat.le_of_ble_eq_true rfl) (Nat.le_of_ble_eq_true rfl) ?_
    exact W.iret (v := (nI 0)) hx hb hr (fun t ht hW => ⟨⟨(nI 0), (va, vb, vd, 0), rfl, ⟨by rw [hcode] <;> rfl, fun _ => ⟨rfl, rfl, rfl, rfl⟩, fun q => absurd hcode q⟩, by rw [ht]; exact hP, va_K.moved hW.alike hK, hD⟩, hS.F ht⟩) hS.2.2 dL_rates_16
set_option maxHeartbeats 4000000 in
set_option maxRecDepth 100000 in
/-- brace: the helper -/
theorem cL_brace_c (l : Launch) (hst : l.stackTraces = false) (dC : Nat → ClassId) (dI : Nat → Nat → Nat) (aC aP pT pR pN pB bP bF bL bH aM aQ mS mR mT ro0 ro1 ro2 ro3 aK kQ kS kR kT ko0 ko1 ko2 ko3 aW pW pX : Nat) (cD cI cQ cL : ClassId) (iw ih : Nat) (al ac de : UInt64) (nb im ik iq : Nat) (tT tR tN : Nat → UInt64) (uP uF uL : Nat → Int32) (uH e0 e1 e2 e3 qS qU qO ke0 ke1 ke2 ke3 ksq ksr kst : Nat → UInt64) (tW : Nat → Int32) (tX : Nat → UInt64) (oL : Nat) (ol : Nat → Int64) (hw6 : iw ≤ 6) (hh6 : ih ≤ 6) (hn12 : nb ≤ 12) (x0 y0 x1 y1 : Int32) (v : UInt64) (sz : Nat) : MetD lw_cs l yL_brace wsL_brace ({ frames := 8, cells := 4, slots := 24, locals := 145 } : Room) (va_Pc [.ref aC, .int x0, .int y0, .int x1, .int y1, .double v, .ref oL] (fun U => U.heap.size = sz ∧ va_P (dC, dI) vwCl (w4L oL aC aP pT pR pN pB bP bF bL bH aM aQ mS mR mT ro0 ro1 ro2 ro3 aK kQ kS kR kT ko0 ko1 ko2 ko3 aW pW pX cD cI cQ cL iw ih al ac de nb im ik iq tT tR tN uP uF uL uH e0 e1 e2 e3 qS qU qO ke0 ke1 ke2 ke3 ksq ksr kst tW tX ol) U.heap ∧ va_K (dC, dI) vwCl [(cD, .double), (cI, .int), (cQ, .array .double), (cL, .long)] U ∧ zNw U ∧ zXE (va_A (w4L oL aC aP pT pR pN pB bP bF bL bH aM aQ mS mR mT ro0 ro1 ro2 ro3 aK kQ kS kR kT ko0 ko1 ko2 ko3 aW pW pX cD cI cQ cL iw ih al ac de nb im ik iq tT tR tN uP uF uL uH e0 e1 e2 e3 qS qU qO ke0 ke1 ke2 ke3 ksq ksr kst tW tX ol) sz) U U.heap ∧ zXN U ∧ va_D (fun _ => True) (w4L oL aC aP pT pR pN pB bP bF bL bH aM aQ mS mR mT ro0 ro1 ro2 ro3 aK kQ kS kR kT ko0 ko1 ko2 ko3 aW pW pX cD cI cQ cL iw ih al ac de nb im ik iq tT tR tN uP uF uL uH e0 e1 e2 e3 qS qU qO ke0 ke1 ke2 ke3 ksq ksr kst tW tX ol))) (va_Qi (fun (r : Int32) (u : (Nat → Int32) × (Nat → Int32) × (Nat → Int32) × (Nat → UInt64) × Nat × Nat × (Nat → Int64)) => r = nI (zcB iw ih nb x0 y0 x1 y1 (zv v)) ∧ (zcB iw ih nb x0 y0 x1 y1 (zv v) = 0 → u.2.2.2.2.2.2 = zu ol 0 (nI (nb + 1)).toInt64 ∧ u.2.2.2.2.1 = nb + 1 ∧ u.2.2.2.2.2.1 = 0 ∧ u.1 = zu uP nb (if y0 = y1 then nI 1 else nI iw) ∧ u.2.1 = zu uF nb (nI (zmin (zn y0) (zn y1) * iw + zmin (zn x0) (zn x1))) ∧ u.2.2.1 = zu uL nb (nI (zmax (zn y0) (zn y1) * iw + zmax (zn x0) (zn x1))) ∧ u.2.2.2.1 = zu uH nb v) ∧ (¬ zcB iw ih nb x0 y0 x1 y1 (zv v) = 0 → u.1 = uP ∧ u.2.1 = uF ∧ u.2.2.1 = uL ∧ u.2.2.2.1 = uH ∧ u.2.2.2.2.1 = nb ∧ u.2.2.2.2.2.1 = im ∧ u.2.2.2.2.2.2 = ol)) (fun u t => (va_P (dC, dI) vwCl (w4L oL aC aP pT pR pN pB bP bF bL bH aM aQ mS mR mT ro0 ro1 ro2 ro3 aK kQ kS kR kT ko0 ko1 ko2 ko3 aW pW pX cD cI cQ cL iw ih al ac de u.2.2.2.2.1 u.2.2.2.2.2.1 ik iq tT tR tN u.1 u.2.1 u.2.2.1 u.2.2.2.1 e0 e1 e2 e3 qS qU qO ke0 ke1 ke2 ke3 ksq ksr kst tW tX u.2.2.2.2.2.2) t.heap ∧ va_K (dC, dI) vwCl [(cD, .double), (cI, .int), (cQ, .array .double), (cL, .long)] t ∧ va_D (va_A (w4L oL aC aP pT pR pN pB bP bF bL bH aM aQ mS mR mT ro0 ro1 ro2 ro3 aK kQ kS kR kT ko0 ko1 ko2 ko3 aW pW pX cD cI cQ cL iw ih al ac de nb im ik iq tT tR tN uP uF uL uH e0 e1 e2 e3 qS qU qO ke0 ke1 ke2 ke3 ksq ksr kst tW tX ol) sz) (w4L oL aC aP pT pR pN pB bP bF bL bH aM aQ mS mR mT ro0 ro1 ro2 ro3 aK kQ kS kR kT ko0 ko1 ko2 ko3 aW pW pX cD cI cQ cL iw ih al ac de u.2.2.2.2.1 u.2.2.2.2.2.1 ik iq tT tR tN u.1 u.2.1 u.2.2.1 u.2.2.2.1 e0 e1 e2 e3 qS qU qO ke0 ke1 ke2 ke3 ksq ksr kst tW tX u.2.2.2.2.2.2))) (va_A (w4L oL aC aP pT pR pN pB bP bF bL bH aM aQ mS mR mT ro0 ro1 ro2 ro3 aK kQ kS kR kT ko0 ko1 ko2 ko3 aW pW pX cD cI cQ cL iw ih al ac de nb im ik iq tT tR tN uP uF uL uH e0 e1 e2 e3 qS qU qO ke0 ke1 ke2 ke3 ksq ksr kst tW tX ol) sz)) 4 24 (va_A (w4L oL aC aP pT pR pN pB bP bF bL bH aM aQ mS mR mT ro0 ro1 ro2 ro3 aK kQ kS kR kT ko0 ko1 ko2 ko3 aW pW pX cD cI cQ cL iw ih al ac de nb im ik iq tT tR tN uP uF uL uH e0 e1 e2 e3 qS qU qO ke0 ke1 ke2 ke3 ksq ksr kst tW tX ol) sz) := by
  refine zy_ofWHD (cc := cL_brace) (maxL := 9) (ret := (some .int)) (hh := [(0, 16, 19, 13), (0, 16, 23, 15), (0, 16, 27, 25)]) (by decide) rfl ?_
  intro p e s m args below meth c s₁ B hml htab hv hd0
  obtain ⟨rfl, hsz, hP, hK, hN, hE, hXN, hD0⟩ := hv
  have hx := B.exec
  have hb := B.bytes
  have hr := B.returns
  have hts := atoms_spec (ws := wsL_brace) B.pre
  have hown : s.vm.findClass RL = some m.cls := findClass_of_methodNamed B.named
  have hlocks := B.notSynchronized
  subst hsz
  have hD := hD0.self (sz := s.heap.size)
  generalize hAe : va_A (w4L oL aC aP pT pR pN pB bP bF bL bH aM aQ mS mR mT ro0 ro1 ro2 ro3 aK kQ kS kR kT ko0 ko1 ko2 ko3 aW pW pX cD cI cQ cL iw ih al ac de nb im ik iq tT tR tN uP uF uL uH e0 e1 e2 e3 qS qU qO ke0 ke1 ke2 ke3 ksq ksr kst tW tX ol) s.heap.size = A at hD hE ⊢
  have hA : ∀ q : Nat, s.heap.size ≤ q → A q := fun q h => by rw [← hAe]; exact Or.inr h
  have hS : va_S A s.heap s.heap [] := va_S.rf
  have hl := lv_entry ([.ref aC, .int x0, .int y0, .int x1, .int y1, .double v, .ref oL]) (n := 9) (Nat.le_of_ble_eq_true rfl)
  rw [lg_entry_eq]
  generalize (lg_sl ([.ref aC, .int x0, .int y0, .int x1, .int y1, .double v, .ref oL]) ++ List.replicate (9 - (lg_sl ([.ref aC, .int x0, .int y0, .int x1, .int y1, .double v, .ref oL])).length) Slot.unset).toArray = ls at hl ⊢
  have hl : lv_has ls 9 [(0, .ref aC), (1, .int x0), (2, .int y0), (3, .int x1), (4, .int y1), (5, .double v), (7, .ref oL)] := hl
  refine lv_aload hx hb dL_brace_0 (lv_at hl 6 rfl) ?_
  refine lv_iconst (v := (nI 0)) hx hb dL_brace_2 (by decide) ?_
  refine lv_aload_n hx hb dL_brace_3 rfl (lv_at hl 0 rfl) ?_
  refine lv_iload_n hx hb dL_brace_4 rfl (lv_at hl 1 rfl) ?_
  refine lv_iload_n hx hb dL_brace_5 rfl (lv_at hl 2 rfl) ?_
  refine lv_iload_n hx hb dL_brace_6 rfl (lv_at hl 3 rfl) ?_
  refine lv_iload hx hb dL_brace_7 (lv_at hl 4 rfl) ?_
  refine lv_dload hx hb dL_brace_9 (lv_at hl 5 rfl) ?_
  have hPc := hP.sub (ws' := (w4 aC aP pT pR pN pB bP bF bL bH aM aQ mS mR mT ro0 ro1 ro2 ro3 aK kQ kS kR kT ko0 ko1 ko2 ko3 aW pW pX cD cI cQ iw ih al ac de nb im ik iq tT tR tN uP uF uL uH e0 e1 e2 e3 qS qU qO ke0 ke1 ke2 ke3 ksq ksr kst tW tX)) [0, 1, 2, 3, 4, 5, 6, 7, 8, 9, 10, 11, 12, 13, 14, 15, 16, 17, 18, 19, 20, 21, 22, 23, 24, 25, 26, 27, 28, 29, 30] rfl
  have hK3 := hK.sub (tys' := [(cD, .double), (cI, .int), (cQ, .array .double)]) [0, 1, 2] rfl
  have hDc := hD.sub (ws' := (w4 aC aP pT pR pN pB bP bF bL bH aM aQ mS mR mT ro0 ro1 ro2 ro3 aK kQ kS kR kT ko0 ko1 ko2 ko3 aW pW pX cD cI cQ iw ih al ac de nb im ik iq tT tR tN uP uF uL uH e0 e1 e2 e3 qS qU qO ke0 ke1 ke2 ke3 ksq ksr kst tW tX)) [0, 1, 2, 3, 4, 5, 6, 7, 8, 9, 10, 11, 12, 13, 14, 15, 16, 17, 18, 19, 20, 21, 22, 23, 24, 25, 26, 27, 28, 29, 30] (by decide) rfl
  have hFc := va_free (wc := (w4 aC aP pT pR pN pB bP bF bL bH aM aQ mS mR mT ro0 ro1 ro2 ro3 aK kQ kS kR kT ko0 ko1 ko2 ko3 aW pW pX cD cI cQ iw ih al ac de nb im ik iq tT tR tN uP uF uL uH e0 e1 e2 e3 qS qU qO ke0 ke1 ke2 ke3 ksq ksr kst tW tX)) hD hS hA [0, 1, 2, 3, 4, 5, 6, 7, 8, 9, 10, 11, 12, 13, 14, 15, 16, 17, 18, 19, 20, 21, 22, 23, 24, 25, 26, 27, 28, 29, 30] rfl
  refine vx_calli (vx_runV (As := [.int x0, .int y0, .int x1, .int y1, .double v]) (rest := [.int (nI 0), .ref oL]) ⟨hx, hb, hml, hown, (dr_words hts s.drawn)⟩ (c4_brace l hst dC dI aC aP pT pR pN pB bP bF bL bH aM aQ mS mR mT ro0 ro1 ro2 ro3 aK kQ kS kR kT ko0 ko1 ko2 ko3 aW pW pX cD cI cQ iw ih al ac de nb im ik iq tT tR tN uP uF uL uH e0 e1 e2 e3 qS qU qO ke0 ke1 ke2 ke3 ksq ksr kst tW tX hw6 hh6 hn12 x0 y0 x1 y1 v _) (cwV 5 (dr_words hts s.drawn) gL_brace_X4_brace rfl rfl rfl (by decide +kernel) ⟨(Nat.le_of_ble_eq_true rfl), (Nat.le_of_ble_eq_true rfl)⟩) ⟨zfbwX, va_recv hK3 hPc (ci := 4) (q0 := 0) rfl rfl, zprewX hPc hK3 hDc (by first | exact hN | exact hN.sd) (by first | exact hE | exact hE.sd) hS hFc⟩ rfl rfl hl.1 rfl (lv_room (Nat.le_of_ble_eq_true rfl)) dL_brace_11 ⟨(Nat.le_of_ble_eq_true rfl), (Nat.le_of_ble_eq_true rfl)⟩) hS (fun q _ h => hFc q h) hFc (fun q _ h => hFc q h) (fun E9 ce9 q9 u9 t9 H1 locs1 ht9 hvm9 hpx hBX hz9 hk1 hS1 hce hcv hcl => ?_) (fun r9 u9 t9 H1 locs1 ht9 hvm9 hpost hB9 hz9 hk1 hS1 => ?_)
  · skip
    have hS := hS1
    have hu9 : u9 = 1 ∨ u9 = 2 ∨ u9 = 3 := by have h1 := hpx.1; have h2 := hpx.2; have h3 := zcB_le (iw := iw) (ih := ih) (nb := nb) (x0 := x0) (y0 := y0) (x1 := x1) (y1 := y1) (v := zv v); omega
    obtain ⟨hE9, hP1, hK1, hD1⟩ := hBX
    rcases hu9 with hu9 | hu9 | hu9
    · skip
      obtain rfl : E9 = zIO := by rw [hE9, hu9]; rfl
      refine vx_catch (own := RL) (name := zIO) (E := zIO) (ce := ce9) hown [] ⟨0, 16, 19, 13⟩ [⟨0, 16, 23, 15⟩, ⟨0, 16, 27, 25⟩] (by rw [htab]; rfl) (fun _ h => absurd h List.not_mem_nil) rfl (by decide) (dr_words hts s.drawn (.classLink RL 13 "java/lang/IndexOutOfBoundsException") (by decide +kernel)) (va_Nw.use rfl (hE.sd.2.2.1 zIO (by decide))) hce hcv hcl ?_
      rw [ht9] at hP1
      obtain ⟨hP, hD⟩ := va_join (wr := [(oL, .inl (cL, 1, .inr (.inl ol)))]) (w1 := (w4 aC aP pT pR pN pB bP bF bL bH aM aQ mS mR mT ro0 ro1 ro2 ro3 aK kQ kS kR kT ko0 ko1 ko2 ko3 aW pW pX cD cI cQ iw ih al ac de nb im ik iq tT tR tN uP uF uL uH e0 e1 e2 e3 qS qU qO ke0 ke1 ke2 ke3 ksq ksr kst tW tX)) hP hD [0, 1, 2, 3, 4, 5, 6, 7, 8, 9, 10, 11, 12, 13, 14, 15, 16, 17, 18, 19, 20, 21, 22, 23, 24, 25, 26, 27, 28, 29, 30] [31] rfl rfl (by decide) (by decide) hk1 hFc hP1 hD1
      generalize H1 = H at hP hS ⊢
      have hP : va_P (dC, dI) vwCl (w4L oL aC aP pT pR pN pB bP bF bL bH aM aQ mS mR mT ro0 ro1 ro2 ro3 aK kQ kS kR kT ko0 ko1 ko2 ko3 aW pW pX cD cI cQ cL iw ih al ac de nb im ik iq tT tR tN uP uF uL uH e0 e1 e2 e3 qS qU qO ke0 ke1 ke2 ke3 ksq ksr kst tW tX ol) H := hP.sub (ws' := (w4L oL aC aP pT pR pN pB bP bF bL bH aM aQ mS mR mT ro0 ro1 ro2 ro3 aK kQ kS kR kT ko0 ko1 ko2 ko3 aW pW pX cD cI cQ cL iw ih al ac de nb im ik iq tT tR tN uP uF uL uH e0 e1 e2 e3 qS qU qO ke0 ke1 ke2 ke3 ksq ksr kst tW tX ol)) [1, 2, 3, 4, 5, 6, 7, 8, 9, 10, 11, 12, 13, 14, 15, 16, 17, 18, 19, 20, 21, 22, 23, 24, 25, 26, 27, 28, 29, 30, 31, 0] rfl
      have hD : va_D A (w4L oL aC aP pT pR pN pB bP bF bL bH aM aQ mS mR mT ro0 ro1 ro2 ro3 aK kQ kS kR kT ko0 ko1 ko2 ko3 aW pW pX cD cI cQ cL iw ih al ac de nb im ik iq tT tR tN uP uF uL uH e0 e1 e2 e3 qS qU qO ke0 ke1 ke2 ke3 ksq ksr kst tW tX ol) := hD.sub (ws' := (w4L oL aC aP pT pR pN pB bP bF bL bH aM aQ mS mR mT ro0 ro1 ro2 ro3 aK kQ kS kR kT ko0 ko1 ko2 ko3 aW pW pX cD cI cQ cL iw ih al ac de nb im ik iq tT tR tN uP uF uL uH e0 e1 e2 e3 qS qU qO ke0 ke1 ke2 ke3 ksq ksr kst tW tX ol)) [1, 2, 3, 4, 5, 6, 7, 8, 9, 10, 11, 12, 13, 14, 15, 16, 17, 18, 19, 20, 21, 22, 23, 24, 25, 26, 27, 28, 29, 30, 31, 0] (by decide) rfl
      refine lv_astore (lv' := [(8, .ref q9), (0, .ref aC), (1, .int x0), (2, .int y0), (3, .int x1), (4, .int y1), (5, .double v), (7, .ref oL)]) hx hb dL_brace_19 hl (by decide) rfl (fun ls hl => ?_)
      refine lv_iconst (v := (nI 1)) hx hb dL_brace_21 (by decide) ?_
      refine W.endD hd0 ?_
      refine W.widen (k := 4) (n := 24) (Nat.le_of_ble_eq_true rfl) (Nat.le_of_ble_eq_true rfl) ?_
      exact W.iret (v := (nI 1)) hx hb hr (fun t ht hW => ⟨⟨(nI 1), (uP, uF, uL, uH, nb, im, ol), rfl, ⟨by rw [show (zcB iw ih nb x0 y0 x1 y1 (zv v)) = 1 from hpx.1.symm.trans hu9] <;> rfl, fun q => absurd (hpx.1.trans q) hpx.2, fun _ => ⟨rfl, rfl, rfl, rfl, rfl, rfl, rfl⟩⟩, by rw [ht]; exact hP, va_K.moved hW.alike hK, hD⟩, hS.F ht⟩) hS.2.2 dL_brace_22
    · skip
      obtain rfl : E9 = zIA := by rw [hE9, hu9]; rfl
      refine vx_catch (own := RL) (name := zIA) (E := zIA) (ce := ce9) hown [⟨0, 16, 19, 13⟩] ⟨0, 16, 23, 15⟩ [⟨0, 16, 27, 25⟩] (by rw [htab]; rfl) (List.forall_mem_cons.mpr ⟨Or.inr ⟨by decide, zIO, (dr_words hts s.drawn (.classLink RL 13 "java/lang/IndexOutOfBoundsException") (by decide +kernel)), hXN.sd.1⟩, (fun _ h => absurd h List.not_mem_nil)⟩) rfl (by decide) (dr_words hts s.drawn (.classLink RL 15 "java/lang/IllegalArgumentException") (by decide +kernel)) (va_Nw.use rfl (hE.sd.2.2.1 zIA (by decide))) hce hcv hcl ?_
      rw [ht9] at hP1
      obtain ⟨hP, hD⟩ := va_join (wr := [(oL, .inl (cL, 1, .inr (.inl ol)))]) (w1 := (w4 aC aP pT pR pN pB bP bF bL bH aM aQ mS mR mT ro0 ro1 ro2 ro3 aK kQ kS kR kT ko0 ko1 ko2 ko3 aW pW pX cD cI cQ iw ih al ac de nb im ik iq tT tR tN uP uF uL uH e0 e1 e2 e3 qS qU qO ke0 ke1 ke2 ke3 ksq ksr kst tW tX)) hP hD [0, 1, 2, 3, 4, 5, 6, 7, 8, 9, 10, 11, 12, 13, 14, 15, 16, 17, 18, 19, 20, 21, 22, 23, 24, 25, 26, 27, 28, 29, 30] [31] rfl rfl (by decide) (by decide) hk1 hFc hP1 hD1
      generalize H1 = H at hP hS ⊢
      have hP : va_P (dC, dI) vwCl (w4L oL aC aP pT pR pN pB bP bF bL bH aM aQ mS mR mT ro0 ro1 ro2 ro3 aK kQ kS kR kT ko0 ko1 ko2 ko3 aW pW pX cD cI cQ cL iw ih al ac de nb im ik iq tT tR tN uP uF uL uH e0 e1 e2 e3 qS qU qO ke0 ke1 ke2 ke3 ksq ksr kst tW tX ol) H := hP.sub (ws' := (w4L oL aC aP pT pR pN pB bP bF bL bH aM aQ mS mR mT ro0 ro1 ro2 ro3 aK kQ kS kR kT ko0 ko1 ko2 ko3 aW pW pX cD cI cQ cL iw ih al ac de nb im ik iq tT tR tN uP uF uL uH e0 e1 e2 e3 qS qU qO ke0 ke1 ke2 ke3 ksq ksr kst tW tX ol)) [1, 2, 3, 4, 5, 6, 7, 8, 9, 10, 11, 12, 13, 14, 15, 16, 17, 18, 19, 20, 21, 22, 23, 24, 25, 26, 27, 28, 29, 30, 31, 0] rfl
      have hD : va_D A (w4L oL aC aP pT pR pN pB bP bF bL bH aM aQ mS mR mT ro0 ro1 ro2 ro3 aK kQ kS kR kT ko0 ko1 ko2 ko3 aW pW pX cD cI cQ cL iw ih al ac de nb im ik iq tT tR tN uP uF uL uH e0 e1 e2 e3 qS qU qO ke0 ke1 ke2 ke3 ksq ksr kst tW tX ol) := hD.sub (ws' := (w4L oL aC aP pT pR pN pB bP bF bL bH aM aQ mS mR mT ro0 ro1 ro2 ro3 aK kQ kS kR kT ko0 ko1 ko2 ko3 aW pW pX cD cI cQ cL iw ih al ac de nb im ik iq tT tR tN uP uF uL uH e0 e1 e2 e3 qS qU qO ke0 ke1 ke2 ke3 ksq ksr kst tW tX ol)) [1, 2, 3, 4, 5, 6, 7, 8, 9, 10, 11, 12, 13, 14, 15, 16, 17, 18, 19, 20, 21, 22, 23, 24, 25, 26, 27, 28, 29, 30, 31, 0] (by decide) rfl
      refine lv_astore (lv' := [(8, .ref q9), (0, .ref aC), (1, .int x0), (2, .int y0), (3, .int x1), (4, .int y1), (5, .double v), (7, .ref oL)]) hx hb dL_brace_23 hl (by decide) rfl (fun ls hl => ?_)
      refine lv_iconst (v := (nI 2)) hx hb dL_brace_25 (by decide) ?_
      refine W.endD hd0 ?_
      refine W.widen (k := 4) (n := 24) (Nat.le_of_ble_eq_true rfl) (Nat.le_of_ble_eq_true rfl) ?_
      exact W.iret (v := (nI 2)) hx hb hr (fun t ht hW => ⟨⟨(nI 2), (uP, uF, uL, uH, nb, im, ol), rfl, ⟨by rw [show (zcB iw ih nb x0 y0 x1 y1 (zv v)) = 2 from hpx.1.symm.trans hu9] <;> rfl, fun q => absurd (hpx.1.trans q) hpx.2, fun _ => ⟨rfl, rfl, rfl, rfl, rfl, rfl, rfl⟩⟩, by rw [ht]; exact hP, va_K.moved hW.alike hK, hD⟩, hS.F ht⟩) hS.2.2 dL_brace_26
    · skip
      obtain rfl : E9 = zIS := by rw [hE9, hu9]; rfl
      refine vx_catch (own := RL) (name := zIS) (E := zIS) (ce := ce9) hown [⟨0, 16, 19, 13⟩, ⟨0, 16, 23, 15⟩] ⟨0, 16, 27, 25⟩ [] (by rw [htab]; rfl) (List.forall_mem_cons.mpr ⟨Or.inr ⟨by decide, zIO, (dr_words hts s.drawn (.classLink RL 13 "java/lang/IndexOutOfBoundsException") (by decide +kernel)), hXN.sd.2.1⟩, (List.forall_mem_cons.mpr ⟨Or.inr ⟨by decide, zIA, (dr_words hts s.drawn (.classLink RL 15 "java/lang/IllegalArgumentException") (by decide +kernel)), hXN.sd.2.2⟩, (fun _ h => absurd h List.not_mem_nil)⟩)⟩) rfl (by decide) (dr_words hts s.drawn (.classLink RL 25 "java/lang/IllegalStateException") (by decide +kernel)) (va_Nw.use rfl (hE.sd.2.2.1 zIS (by decide))) hce hcv hcl ?_
      rw [ht9] at hP1
      obtain ⟨hP, hD⟩ := va_join (wr := [(oL, .inl (cL, 1, .inr (.inl ol)))]) (w1 := (w4 aC aP pT pR pN pB bP bF bL bH aM aQ mS mR mT ro0 ro1 ro2 ro3 aK kQ kS kR kT ko0 ko1 ko2 ko3 aW pW pX cD cI cQ iw ih al ac de nb im ik iq tT tR tN uP uF uL uH e0 e1 e2 e3 qS qU qO ke0 ke1 ke2 ke3 ksq ksr kst tW tX)) hP hD [0, 1, 2, 3, 4, 5, 6, 7, 8, 9, 10, 11, 12, 13, 14, 15, 16, 17, 18, 19, 20, 21, 22, 23, 24, 25, 26, 27, 28, 29, 30] [31] rfl rfl (by decide) (by decide) hk1 hFc hP1 hD1
      generalize H1 = H at hP hS ⊢
      have hP : va_P (dC, dI) vwCl (w4L oL aC aP pT pR pN pB bP bF bL bH aM aQ mS mR mT ro0 ro1 ro2 ro3 aK kQ kS kR kT ko0 ko1 ko2 ko3 aW pW pX cD cI cQ cL iw ih al ac de nb im ik iq tT tR tN uP uF uL uH e0 e1 e2 e3 qS qU qO ke0 ke1 ke2 ke3 ksq ksr kst tW tX ol) H := hP.sub (ws' := (w4L oL aC aP pT pR pN pB bP bF bL bH aM aQ mS mR mT ro0 ro1 ro2 ro3 aK kQ kS kR kT ko0 ko1 ko2 ko3 aW pW pX cD cI cQ cL iw ih al ac de nb im ik iq tT tR tN uP uF uL uH e0 e1 e2 e3 qS qU qO ke0 ke1 ke2 ke3 ksq ksr kst tW tX ol)) [1, 2, 3, 4, 5, 6, 7, 8, 9, 10, 11, 12, 13, 14, 15, 16, 17, 18, 19, 20, 21, 22, 23, 24, 25, 26, 27, 28, 29, 30, 31, 0] rfl
      have hD : va_D A (w4L oL aC aP pT pR pN pB bP bF bL bH aM aQ mS mR mT ro0 ro1 ro2 ro3 aK kQ kS kR kT ko0 ko1 ko2 ko3 aW pW pX cD cI cQ cL iw ih al ac de nb im ik iq tT tR tN uP uF uL uH e0 e1 e2 e3 qS qU qO ke0 ke1 ke2 ke3 ksq ksr kst tW tX ol) := hD.sub (ws' := (w4L oL aC aP pT pR pN pB bP bF bL bH aM aQ mS mR mT ro0 ro1 ro2 ro3 aK kQ kS kR kT ko0 ko1 ko2 ko3 aW pW pX cD cI cQ cL iw ih al ac de nb im ik iq tT tR tN uP uF uL uH e0 e1 e2 e3 qS qU qO ke0 ke1 ke2 ke3 ksq ksr kst tW tX ol)) [1, 2, 3, 4, 5, 6, 7, 8, 9, 10, 11, 12, 13, 14, 15, 16, 17, 18, 19, 20, 21, 22, 23, 24, 25, 26, 27, 28, 29, 30, 31, 0] (by decide) rfl
      refine lv_astore (lv' := [(8, .ref q9), (0, .ref aC), (1, .int x0), (2, .int y0), (3, .int x1), (4, .int y1), (5, .double v), (7, .ref oL)]) hx hb dL_brace_27 hl (by decide) rfl (fun ls hl => ?_)
      refine lv_iconst (v := (nI 3)) hx hb dL_brace_29 (by decide) ?_
      refine W.endD hd0 ?_
      refine W.widen (k := 4) (n := 24) (Nat.le_of_ble_eq_true rfl) (Nat.le_of_ble_eq_true rfl) ?_
      exact W.iret (v := (nI 3)) hx hb hr (fun t ht hW => ⟨⟨(nI 3), (uP, uF, uL, uH, nb, im, ol), rfl, ⟨by rw [show (zcB iw ih nb x0 y0 x1 y1 (zv v)) = 3 from hpx.1.symm.trans hu9] <;> rfl, fun q => absurd (hpx.1.trans q) hpx.2, fun _ => ⟨rfl, rfl, rfl, rfl, rfl, rfl, rfl⟩⟩, by rw [ht]; exact hP, va_K.moved hW.alike hK, hD⟩, hS.F ht⟩) hS.2.2 dL_brace_30
  · skip
    have hS := hS1
    obtain ⟨hP1, hK1, hD1⟩ := hB9
    rw [ht9] at hP1
    obtain ⟨hP, hD⟩ := va_join (wr := [(oL, .inl (cL, 1, .inr (.inl ol)))]) (w1 := (w4 aC aP pT pR pN pB bP bF bL bH aM aQ mS mR mT ro0 ro1 ro2 ro3 aK kQ kS kR kT ko0 ko1 ko2 ko3 aW pW pX cD cI cQ iw ih al ac de (nb + 1) 0 ik iq tT tR tN (zu uP nb u9.1) (zu uF nb u9.2.1) (zu uL nb u9.2.2) (zu uH nb v) e0 e1 e2 e3 qS qU qO ke0 ke1 ke2 ke3 ksq ksr kst tW tX)) hP hD [0, 1, 2, 3, 4, 5, 6, 7, 8, 9, 10, 11, 12, 13, 14, 15, 16, 17, 18, 19, 20, 21, 22, 23, 24, 25, 26, 27, 28, 29, 30] [31] rfl rfl (by decide) (by decide) hk1 hFc hP1 hD1
    generalize H1 = H at hP hS ⊢
    have hP : va_P (dC, dI) vwCl (w4L oL aC aP pT pR pN pB bP bF bL bH aM aQ mS mR mT ro0 ro1 ro2 ro3 aK kQ kS kR kT ko0 ko1 ko2 ko3 aW pW pX cD cI cQ cL iw ih al ac de (nb + 1) 0 ik iq tT tR tN (zu uP nb u9.1) (zu uF nb u9.2.1) (zu uL nb u9.2.2) (zu uH nb v) e0 e1 e2 e3 qS qU qO ke0 ke1 ke2 ke3 ksq ksr kst tW tX ol) H := hP.sub (ws' := (w4L oL aC aP pT pR pN pB bP bF bL bH aM aQ mS mR mT ro0 ro1 ro2 ro3 aK kQ kS kR kT ko0 ko1 ko2 ko3 aW pW pX cD cI cQ cL iw ih al ac de (nb + 1) 0 ik iq tT tR tN (zu uP nb u9.1) (zu uF nb u9.2.1) (zu uL nb u9.2.2) (zu uH nb v) e0 e1 e2 e3 qS qU qO ke0 ke1 ke2 ke3 ksq ksr kst tW tX ol)) [1, 2, 3, 4, 5, 6, 7, 8, 9, 10, 11, 12, 13, 14, 15, 16, 17, 18, 19, 20, 21, 22, 23, 24, 25, 26, 27, 28, 29, 30, 31, 0] rfl
    have hD : va_D A (w4L oL aC aP pT pR pN pB bP bF bL bH aM aQ mS mR mT ro0 ro1 ro2 ro3 aK kQ kS kR kT ko0 ko1 ko2 ko3 aW pW pX cD cI cQ cL iw ih al ac de (nb + 1) 0 ik iq tT tR tN (zu uP nb u9.1) (zu uF nb u9.2.1) (zu uL nb u9.2.2) (zu uH nb v) e0 e1 e2 e3 qS qU qO ke0 ke1 ke2 ke3 ksq ksr kst tW tX ol) := hD.sub (ws' := (w4L oL aC aP pT pR pN pB bP bF bL bH aM aQ mS mR mT ro0 ro1 ro2 ro3 aK kQ kS kR kT ko0 ko1 ko2 ko3 aW pW pX cD cI cQ cL iw ih al ac de (nb + 1) 0 ik iq tT tR tN (zu uP nb u9.1) (zu uF nb u9.2.1) (zu uL nb u9.2.2) (zu uH nb v) e0 e1 e2 e3 qS qU qO ke0 ke1 ke2 ke3 ksq ksr kst tW tX ol)) [1, 2, 3, 4, 5, 6, 7, 8, 9, 10, 11, 12, 13, 14, 15, 16, 17, 18, 19, 20, 21, 22, 23, 24, 25, 26, 27, 28, 29, 30, 31, 0] (by decide) rfl
    obtain ⟨hcode, hr9, hg1, hg2, hg3⟩ := hpost
    subst hr9
    refine lv_i2l hx hb dL_brace_14 rfl ?_
    refine z_last (s := s.setDrawn s.drawn) (n := 1) (i := 0) hx hb hK hP hD hS 31 3 rfl rfl (by decide) (by decide) dL_brace_15 (fun H locs hP hD hS => ?_)
    have hP : va_P (dC, dI) vwCl (w4L oL aC aP pT pR pN pB bP bF bL bH aM aQ mS mR mT ro0 ro1 ro2 ro3 aK kQ kS kR kT ko0 ko1 ko2 ko3 aW pW pX cD cI cQ cL iw ih al ac de (nb + 1) 0 ik iq tT tR tN (zu uP nb u9.1) (zu uF nb u9.2.1) (zu uL nb u9.2.2) (zu uH nb v) e0 e1 e2 e3 qS qU qO ke0 ke1 ke2 ke3 ksq ksr kst tW tX (zu ol 0 (((nI (nb + 1))).toInt64))) H := hP
    have hD : va_D A (w4L oL aC aP pT pR pN pB bP bF bL bH aM aQ mS mR mT ro0 ro1 ro2 ro3 aK kQ kS kR kT ko0 ko1 ko2 ko3 aW pW pX cD cI cQ cL iw ih al ac de (nb + 1) 0 ik iq tT tR tN (zu uP nb u9.1) (zu uF nb u9.2.1) (zu uL nb u9.2.2) (zu uH nb v) e0 e1 e2 e3 qS qU qO ke0 ke1 ke2 ke3 ksq ksr kst tW tX (zu ol 0 (((nI (nb + 1))).toInt64))) := hD
    refine lv_goto (tgt := 31) hx hb dL_brace_16 (by decide) ?_
    refine lv_iconst (v := (nI 0)) hx hb dL_brace_31 (by decide) ?_
    refine W.endD hd0 ?_
    refine W.widen (k := 4) (n := 24) (Nat.le_of_ble_eq_true rfl) (Nat.le_of_ble_eq_true rfl) ?_
    exact W.iret (v := (nI 0)) hx hb hr (fun t ht hW => ⟨⟨(nI 0), (zu uP nb u9.1, zu uF nb u9.2.1, zu uL nb u9.2.2, zu uH nb v, nb + 1, 0, zu ol 0 (((nI (nb + 1))).toInt64)), rfl, ⟨by rw [hcode] <;> rfl, fun _ => ⟨rfl, rfl, rfl, by rw [hg1], by rw [hg2], by rw [hg3], rfl⟩, fun q => absurd hcode q⟩, by rw [ht]; exact hP, va_K.moved hW.alike hK, hD⟩, hS.F ht⟩) hS.2.2 dL_brace_32
set_option maxHeartbeats 4000000 in
set_option maxRecDepth 100000 in
/-- modes: the helper -/
theorem cL_modes_c (l : Launch) (hst : l.stackTraces = false) (dC : Nat → ClassId) (dI : Nat → Nat → Nat) (aC aP pT pR pN pB bP bF bL bH aM aQ mS mR mT ro0 ro1 ro2 ro3 aK kQ kS kR kT ko0 ko1 ko2 ko3 aW pW pX : Nat) (cD cI cQ cL : ClassId) (iw ih : Nat) (al ac de : UInt64) (nb im ik iq : Nat) (tT tR tN : Nat → UInt64) (uP uF uL : Nat → Int32) (uH e0 e1 e2 e3 qS qU qO ke0 ke1 ke2 ke3 ksq ksr kst : Nat → UInt64) (tW : Nat → Int32) (tX : Nat → UInt64) (oL : Nat) (ol : Nat → Int64) (hw6 : iw ≤ 6) (hh6 : ih ≤ 6) (T : Nat → ZD) (gT : zcr tT (iw * ih) T) (bx0 by0 bx1 by1 : Nat → Nat) (bg : Nat → ZD) (hb12 : nb ≤ 12) (hw2 : 2 ≤ iw) (gBr : ∀ k, k < nb → zbr iw uP uF uL bx0 by0 bx1 by1 k) (gB : ∀ k, k < nb → bx0 k ≤ bx1 k ∧ bx1 k < iw ∧ by0 k ≤ by1 k ∧ by1 k < ih) (gG : ∀ k, k < nb → zv (uH k) = bg k) (hOK : zOK iw ih T (zRB iw T (zv al) bx0 by0 bx1 bg nb) (zNB iw ih T (zv ac) bx0 by0 by1 bg nb) (zv de)) (n : Int32) (sz : Nat) : MetD lw_cs l yL_modes wsL_modes ({ frames := 7, cells := 1, slots := 6, locals := 147 } : Room) (va_Pc [.ref aC, .int n, .ref oL] (fun U => U.heap.size = sz ∧ va_P (dC, dI) vwCl (w4L oL aC aP pT pR pN pB bP bF bL bH aM aQ mS mR mT ro0 ro1 ro2 ro3 aK kQ kS kR kT ko0 ko1 ko2 ko3 aW pW pX cD cI cQ cL iw ih al ac de nb im ik iq tT tR tN uP uF uL uH e0 e1 e2 e3 qS qU qO ke0 ke1 ke2 ke3 ksq ksr kst tW tX ol) U.heap ∧ va_K (dC, dI) vwCl [(cD, .double), (cI, .int), (cQ, .array .double), (cL, .long)] U ∧ zNw U ∧ zXE (va_A (w4L oL aC aP pT pR pN pB bP bF bL bH aM aQ mS mR mT ro0 ro1 ro2 ro3 aK kQ kS kR kT ko0 ko1 ko2 ko3 aW pW pX cD cI cQ cL iw ih al ac de nb im ik iq tT tR tN uP uF uL uH e0 e1 e2 e3 qS qU qO ke0 ke1 ke2 ke3 ksq ksr kst tW tX ol) sz) U U.heap ∧ zXN U ∧ va_D (fun _ => True) (w4L oL aC aP pT pR pN pB bP bF bL bH aM aQ mS mR mT ro0 ro1 ro2 ro3 aK kQ kS kR kT ko0 ko1 ko2 ko3 aW pW pX cD cI cQ cL iw ih al ac de nb im ik iq tT tR tN uP uF uL uH e0 e1 e2 e3 qS qU qO ke0 ke1 ke2 ke3 ksq ksr kst tW tX ol))) (va_Qi (fun (r : Int32) (u : ((Nat → UInt64) × (Nat → UInt64) × (Nat → UInt64) × (Nat → UInt64) × (Nat → UInt64) × (Nat → UInt64) × (Nat → UInt64) × (Nat → UInt64) × (Nat → UInt64)) × Nat × (Nat → Int64)) => r = nI (zcMs n) ∧ (zcMs n = 0 → u.2.2 = zu ol 0 (nI u.2.1).toInt64 ∧ u.2.1 = zcnt iw ih T (zRB iw T (zv al) bx0 by0 bx1 bg nb) (zNB iw ih T (zv ac) bx0 by0 by1 bg nb) (zv de) (zn n) ∧ qCm iw ih u.2.1 T (zRB iw T (zv al) bx0 by0 bx1 bg nb) (zNB iw ih T (zv ac) bx0 by0 by1 bg nb) (zv de) u.1.2.2.1 u.1.2.2.2.1 u.1.2.2.2.2.1 u.1.2.2.2.2.2.1 u.1.2.2.2.2.2.2.1 u.1.2.2.2.2.2.2.2.1 u.1.2.2.2.2.2.2.2.2) ∧ (¬ zcMs n = 0 → u.1 = (tR, tN, e0, e1, e2, e3, qS, qU, qO) ∧ u.2.1 = im ∧ u.2.2 = ol)) (fun u t => (va_P (dC, dI) vwCl (w4L oL aC aP pT pR pN pB bP bF bL bH aM aQ mS mR mT ro0 ro1 ro2 ro3 aK kQ kS kR kT ko0 ko1 ko2 ko3 aW pW pX cD cI cQ cL iw ih al ac de nb u.2.1 ik iq tT u.1.1 u.1.2.1 uP uF uL uH u.1.2.2.1 u.1.2.2.2.1 u.1.2.2.2.2.1 u.1.2.2.2.2.2.1 u.1.2.2.2.2.2.2.1 u.1.2.2.2.2.2.2.2.1 u.1.2.2.2.2.2.2.2.2 ke0 ke1 ke2 ke3 ksq ksr kst tW tX u.2.2) t.heap ∧ va_K (dC, dI) vwCl [(cD, .double), (cI, .int), (cQ, .array .double), (cL, .long)] t ∧ va_D (va_A (w4L oL aC aP pT pR pN pB bP bF bL bH aM aQ mS mR mT ro0 ro1 ro2 ro3 aK kQ kS kR kT ko0 ko1 ko2 ko3 aW pW pX cD cI cQ cL iw ih al ac de nb im ik iq tT tR tN uP uF uL uH e0 e1 e2 e3 qS qU qO ke0 ke1 ke2 ke3 ksq ksr kst tW tX ol) sz) (w4L oL aC aP pT pR pN pB bP bF bL bH aM aQ mS mR mT ro0 ro1 ro2 ro3 aK kQ kS kR kT ko0 ko1 ko2 ko3 aW pW pX cD cI cQ cL iw ih al ac de nb u.2.1 ik iq tT u.1.1 u.1.2.1 uP uF uL uH u.1.2.2.1 u.1.2.2.2.1 u.1.2.2.2.2.1 u.1.2.2.2.2.2.1 u.1.2.2.2.2.2.2.1 u.1.2.2.2.2.2.2.2.1 u.1.2.2.2.2.2.2.2.2 ke0 ke1 ke2 ke3 ksq ksr kst tW tX u.2.2))) (va_A (w4L oL aC aP pT pR pN pB bP bF bL bH aM aQ mS mR mT ro0 ro1 ro2 ro3 aK kQ kS kR kT ko0 ko1 ko2 ko3 aW pW pX cD cI cQ cL iw ih al ac de nb im ik iq tT tR tN uP uF uL uH e0 e1 e2 e3 qS qU qO ke0 ke1 ke2 ke3 ksq ksr kst tW tX ol) sz)) 1 6 (va_A (w4L oL aC aP pT pR pN pB bP bF bL bH aM aQ mS mR mT ro0 ro1 ro2 ro3 aK kQ kS kR kT ko0 ko1 ko2 ko3 aW pW pX cD cI cQ cL iw ih al ac de nb im ik iq tT tR tN uP uF uL uH e0 e1 e2 e3 qS qU qO ke0 ke1 ke2 ke3 ksq ksr kst tW tX ol) sz) := by
  refine zy_ofWHD (cc := cL_modes) (maxL := 4) (ret := (some .int)) (hh := [(0, 9, 12, 15)]) (by decide) rfl ?_
  intro p e s m args below meth c s₁ B hml htab hv hd0
  obtain ⟨rfl, hsz, hP, hK, hN, hE, hXN, hD0⟩ := hv
  have hx := B.exec
  have hb := B.bytes
  have hr := B.returns
  have hts := atoms_spec (ws := wsL_modes) B.pre
  have hown : s.vm.findClass RL = some m.cls := findClass_of_methodNamed B.named
  have hlocks := B.notSynchronized
  subst hsz
  have hD := hD0.self (sz := s.heap.size)
  generalize hAe : va_A (w4L oL aC aP pT pR pN pB bP bF bL bH aM aQ mS mR mT ro0 ro1 ro2 ro3 aK kQ kS kR kT ko0 ko1 ko2 ko3 aW pW pX cD cI cQ cL iw ih al ac de nb im ik iq tT tR tN uP uF uL uH e0 e1 e2 e3 qS qU qO ke0 ke1 ke2 ke3 ksq ksr kst tW tX ol) s.heap.size = A at hD hE ⊢
  have hA : ∀ q : Nat, s.heap.size ≤ q → A q := fun q h => by rw [← hAe]; exact Or.inr h
  have hS : va_S A s.heap s.heap [] := va_S.rf
  have hl := lv_entry ([.ref aC, .int n, .ref oL]) (n := 4) (Nat.le_of_ble_eq_true rfl)
  rw [lg_entry_eq]
  generalize (lg_sl ([.ref aC, .int n, .ref oL]) ++ List.replicate (4 - (lg_sl ([.ref aC, .int n, .ref oL])).length) Slot.unset).toArray = ls at hl ⊢
  have hl : lv_has ls 4 [(0, .ref aC), (1, .int n), (2, .ref oL)] := hl
  have hn36 : iw * ih ≤ 36 := Nat.mul_le_mul hw6 hh6
  refine lv_aload_n hx hb dL_modes_0 rfl (lv_at hl 2 rfl) ?_
  refine lv_iconst (v := (nI 0)) hx hb dL_modes_1 (by decide) ?_
  refine lv_aload_n hx hb dL_modes_2 rfl (lv_at hl 0 rfl) ?_
  refine lv_iload_n hx hb dL_modes_3 rfl (lv_at hl 1 rfl) ?_
  have hPc := hP.sub (ws' := (w4 aC aP pT pR pN pB bP bF bL bH aM aQ mS mR mT ro0 ro1 ro2 ro3 aK kQ kS kR kT ko0 ko1 ko2 ko3 aW pW pX cD cI cQ iw ih al ac de nb im ik iq tT tR tN uP uF uL uH e0 e1 e2 e3 qS qU qO ke0 ke1 ke2 ke3 ksq ksr kst tW tX)) [0, 1, 2, 3, 4, 5, 6, 7, 8, 9, 10, 11, 12, 13, 14, 15, 16, 17, 18, 19, 20, 21, 22, 23, 24, 25, 26, 27, 28, 29, 30] rfl
  have hK3 := hK.sub (tys' := [(cD, .double), (cI, .int), (cQ, .array .double)]) [0, 1, 2] rfl
  have hDc := hD.sub (ws' := (w4 aC aP pT pR pN pB bP bF bL bH aM aQ mS mR mT ro0 ro1 ro2 ro3 aK kQ kS kR kT ko0 ko1 ko2 ko3 aW pW pX cD cI cQ iw ih al ac de nb im ik iq tT tR tN uP uF uL uH e0 e1 e2 e3 qS qU qO ke0 ke1 ke2 ke3 ksq ksr kst tW tX)) [0, 1, 2, 3, 4, 5, 6, 7, 8, 9, 10, 11, 12, 13, 14, 15, 16, 17, 18, 19, 20, 21, 22, 23, 24, 25, 26, 27, 28, 29, 30] (by decide) rfl
  have hFc := va_free (wc := (w4 aC aP pT pR pN pB bP bF bL bH aM aQ mS mR mT ro0 ro1 ro2 ro3 aK kQ kS kR kT ko0 ko1 ko2 ko3 aW pW pX cD cI cQ iw ih al ac de nb im ik iq tT tR tN uP uF uL uH e0 e1 e2 e3 qS qU qO ke0 ke1 ke2 ke3 ksq ksr kst tW tX)) hD hS hA [0, 1, 2, 3, 4, 5, 6, 7, 8, 9, 10, 11, 12, 13, 14, 15, 16, 17, 18, 19, 20, 21, 22, 23, 24, 25, 26, 27, 28, 29, 30] rfl
  refine zx_calliD hd0 (zx_runVD (As := [.int n]) (rest := [.int (nI 0), .ref oL]) ⟨hx, hb, hml, hown, (dr_words hts s.drawn)⟩ (c4_modes l hst dC dI aC aP pT pR pN pB bP bF bL bH aM aQ mS mR mT ro0 ro1 ro2 ro3 aK kQ kS kR kT ko0 ko1 ko2 ko3 aW pW pX cD cI cQ iw ih al ac de nb im ik iq tT tR tN uP uF uL uH e0 e1 e2 e3 qS qU qO ke0 ke1 ke2 ke3 ksq ksr kst tW tX hw6 hh6 T gT bx0 by0 bx1 by1 bg hb12 hw2 gBr gB gG hOK n _) (cwV 1 (dr_words hts s.drawn) gL_modes_X4_modes rfl rfl rfl (by decide +kernel) ⟨(Nat.le_of_ble_eq_true rfl), (Nat.le_of_ble_eq_true rfl)⟩) ⟨zfbwX, va_recv hK3 hPc (ci := 4) (q0 := 0) rfl rfl, zprewX hPc hK3 hDc (by first | exact hN | exact hN.sd) (by first | exact hE | exact hE.sd) hS hFc⟩ rfl rfl hl.1 rfl (lv_room (Nat.le_of_ble_eq_true rfl)) dL_modes_4 ⟨(Nat.le_of_ble_eq_true rfl), (Nat.le_of_ble_eq_true rfl)⟩) hS (fun q _ h => hFc q h) hFc (fun q _ h => hFc q h) (fun E9 ce9 q9 u9 t9 H1 locs1 d1 hd1 ht9 hvm9 hpx hBX hz9 hk1 hS1 hce hcv hcl => ?_) (fun r9 u9 t9 H1 locs1 d1 hd1 ht9 hvm9 hpost hB9 hz9 hk1 hS1 => ?_)
  · skip
    have hS := hS1
    have hu9 : u9 = 1 := by have h1 := hpx.1; have h2 := hpx.2; have h3 := zcMs_le (n := n); omega
    obtain ⟨hE9, hP1, hK1, hD1⟩ := hBX
    obtain rfl : E9 = zIA := by rw [hE9, hu9]; rfl
    refine vx_catch (own := RL) (name := zIA) (E := zIA) (ce := ce9) hown [] ⟨0, 9, 12, 15⟩ [] (by rw [htab]; rfl) (fun _ h => absurd h List.not_mem_nil) rfl (by decide) (dr_words hts d1 (.classLink RL 15 "java/lang/IllegalArgumentException") (by decide +kernel)) (va_Nw.use rfl (hE.sd.2.2.1 zIA (by decide))) hce hcv hcl ?_
    rw [ht9] at hP1
    obtain ⟨hP, hD⟩ := va_join (wr := [(oL, .inl (cL, 1, .inr (.inl ol)))]) (w1 := (w4 aC aP pT pR pN pB bP bF bL bH aM aQ mS mR mT ro0 ro1 ro2 ro3 aK kQ kS kR kT ko0 ko1 ko2 ko3 aW pW pX cD cI cQ iw ih al ac de nb im ik iq tT tR tN uP uF uL uH e0 e1 e2 e3 qS qU qO ke0 ke1 ke2 ke3 ksq ksr kst tW tX)) hP hD [0, 1, 2, 3, 4, 5, 6, 7, 8, 9, 10, 11, 12, 13, 14, 15, 16, 17, 18, 19, 20, 21, 22, 23, 24, 25, 26, 27, 28, 29, 30] [31] rfl rfl (by decide) (by decide) hk1 hFc hP1 hD1
    generalize H1 = H at hP hS ⊢
    have hP : va_P (dC, dI) vwCl (w4L oL aC aP pT pR pN pB bP bF bL bH aM aQ mS mR mT ro0 ro1 ro2 ro3 aK kQ kS kR kT ko0 ko1 ko2 ko3 aW pW pX cD cI cQ cL iw ih al ac de nb im ik iq tT tR tN uP uF uL uH e0 e1 e2 e3 qS qU qO ke0 ke1 ke2 ke3 ksq ksr kst tW tX ol) H := hP.sub (ws' := (w4L oL aC aP pT pR pN pB bP bF bL bH aM aQ mS mR mT ro0 ro1 ro2 ro3 aK kQ kS kR kT ko0 ko1 ko2 ko3 aW pW pX cD cI cQ cL iw ih al ac de nb im ik iq tT tR tN uP uF uL uH e0 e1 e2 e3 qS qU qO ke0 ke1 ke2 ke3 ksq ksr kst tW tX ol)) [1, 2, 3, 4, 5, 6, 7, 8, 9, 10, 11, 12, 13, 14, 15, 16, 17, 18, 19, 20, 21, 22, 23, 24, 25, 26, 27, 28, 29, 30, 31, 0] rfl
    have hD : va_D A (w4L oL aC aP pT pR pN pB bP bF bL bH aM aQ mS mR mT ro0 ro1 ro2 ro3 aK kQ kS kR kT ko0 ko1 ko2 ko3 aW pW pX cD cI cQ cL iw ih al ac de nb im ik iq tT tR tN uP uF uL uH e0 e1 e2 e3 qS qU qO ke0 ke1 ke2 ke3 ksq ksr kst tW tX ol) := hD.sub (ws' := (w4L oL aC aP pT pR pN pB bP bF bL bH aM aQ mS mR mT ro0 ro1 ro2 ro3 aK kQ kS kR kT ko0 ko1 ko2 ko3 aW pW pX cD cI cQ cL iw ih al ac de nb im ik iq tT tR tN uP uF uL uH e0 e1 e2 e3 qS qU qO ke0 ke1 ke2 ke3 ksq ksr kst tW tX ol)) [1, 2, 3, 4, 5, 6, 7, 8, 9, 10, 11, 12, 13, 14, 15, 16, 17, 18, 19, 20, 21, 22, 23, 24, 25, 26, 27, 28, 29, 30, 31, 0] (by decide) rfl
    refine lv_astore_n (lv' := [(3, .ref q9), (0, .ref aC), (1, .int n), (2, .ref oL)]) hx hb dL_modes_12 rfl hl (by decide) rfl (fun ls hl => ?_)
    refine lv_iconst (v := (nI 1)) hx hb dL_modes_13 (by decide) ?_
    refine W.endD hd1 ?_
    refine W.widen (k := 1) (n := 6) (Nat.le_of_ble_eq_true rfl) (Nat.le_of_ble_eq_true rfl) ?_
    exact W.iret (v := (nI 1)) hx hb hr (fun t ht hW => ⟨⟨(nI 1), ((tR, tN, e0, e1, e2, e3, qS, qU, qO), im, ol), rfl, ⟨by rw [show (zcMs n) = 1 from hpx.1.symm.trans hu9] <;> rfl, fun q => absurd (hpx.1.trans q) hpx.2, fun _ => ⟨rfl, rfl, rfl⟩⟩, by rw [ht]; exact hP, va_K.moved hW.alike hK, hD⟩, hS.F ht⟩) hS.2.2 dL_modes_14
  · skip
    have hS := hS1
    obtain ⟨hP1, hK1, hD1⟩ := hB9
    rw [ht9] at hP1
    obtain ⟨hP, hD⟩ := va_join (wr := [(oL, .inl (cL, 1, .inr (.inl ol)))]) (w1 := (w4 aC aP pT pR pN pB bP bF bL bH aM aQ mS mR mT ro0 ro1 ro2 ro3 aK kQ kS kR kT ko0 ko1 ko2 ko3 aW pW pX cD cI cQ iw ih al ac de nb u9.2 ik iq tT u9.1.1 u9.1.2.1 uP uF uL uH u9.1.2.2.1 u9.1.2.2.2.1 u9.1.2.2.2.2.1 u9.1.2.2.2.2.2.1 u9.1.2.2.2.2.2.2.1 u9.1.2.2.2.2.2.2.2.1 u9.1.2.2.2.2.2.2.2.2 ke0 ke1 ke2 ke3 ksq ksr kst tW tX)) hP hD [0, 1, 2, 3, 4, 5, 6, 7, 8, 9, 10, 11, 12, 13, 14, 15, 16, 17, 18, 19, 20, 21, 22, 23, 24, 25, 26, 27, 28, 29, 30] [31] rfl rfl (by decide) (by decide) hk1 hFc hP1 hD1
    generalize H1 = H at hP hS ⊢
    have hP : va_P (dC, dI) vwCl (w4L oL aC aP pT pR pN pB bP bF bL bH aM aQ mS mR mT ro0 ro1 ro2 ro3 aK kQ kS kR kT ko0 ko1 ko2 ko3 aW pW pX cD cI cQ cL iw ih al ac de nb u9.2 ik iq tT u9.1.1 u9.1.2.1 uP uF uL uH u9.1.2.2.1 u9.1.2.2.2.1 u9.1.2.2.2.2.1 u9.1.2.2.2.2.2.1 u9.1.2.2.2.2.2.2.1 u9.1.2.2.2.2.2.2.2.1 u9.1.2.2.2.2.2.2.2.2 ke0 ke1 ke2 ke3 ksq ksr kst tW tX ol) H := hP.sub (ws' := (w4L oL aC aP pT pR pN pB bP bF bL bH aM aQ mS mR mT ro0 ro1 ro2 ro3 aK kQ kS kR kT ko0 ko1 ko2 ko3 aW pW pX cD cI cQ cL iw ih al ac de nb u9.2 ik iq tT u9.1.1 u9.1.2.1 uP uF uL uH u9.1.2.2.1 u9.1.2.2.2.1 u9.1.2.2.2.2.1 u9.1.2.2.2.2.2.1 u9.1.2.2.2.2.2.2.1 u9.1.2.2.2.2.2.2.2.1 u9.1.2.2.2.2.2.2.2.2 ke0 ke1 ke2 ke3 ksq ksr kst tW tX ol)) [1, 2, 3, 4, 5, 6, 7, 8, 9, 10, 11, 12, 13, 14, 15, 16, 17, 18, 19, 20, 21, 22, 23, 24, 25, 26, 27, 28, 29, 30, 31, 0] rfl
    have hD : va_D A (w4L oL aC aP pT pR pN pB bP bF bL bH aM aQ mS mR mT ro0 ro1 ro2 ro3 aK kQ kS kR kT ko0 ko1 ko2 ko3 aW pW pX cD cI cQ cL iw ih al ac de nb u9.2 ik iq tT u9.1.1 u9.1.2.1 uP uF uL uH u9.1.2.2.1 u9.1.2.2.2.1 u9.1.2.2.2.2.1 u9.1.2.2.2.2.2.1 u9.1.2.2.2.2.2.2.1 u9.1.2.2.2.2.2.2.2.1 u9.1.2.2.2.2.2.2.2.2 ke0 ke1 ke2 ke3 ksq ksr kst tW tX ol) := hD.sub (ws' := (w4L oL aC aP pT pR pN pB bP bF bL bH aM aQ mS mR mT ro0 ro1 ro2 ro3 aK kQ kS kR kT ko0 ko1 ko2 ko3 aW pW pX cD cI cQ cL iw ih al ac de nb u9.2 ik iq tT u9.1.1 u9.1.2.1 uP uF uL uH u9.1.2.2.1 u9.1.2.2.2.1 u9.1.2.2.2.2.1 u9.1.2.2.2.2.2.1 u9.1.2.2.2.2.2.2.1 u9.1.2.2.2.2.2.2.2.1 u9.1.2.2.2.2.2.2.2.2 ke0 ke1 ke2 ke3 ksq ksr kst tW tX ol)) [1, 2, 3, 4, 5, 6, 7, 8, 9, 10, 11, 12, 13, 14, 15, 16, 17, 18, 19, 20, 21, 22, 23, 24, 25, 26, 27, 28, 29, 30, 31, 0] (by decide) rfl
    obtain ⟨hcode, hr9, hm9, hq9⟩ := hpost
    subst hr9
    refine lv_i2l hx hb dL_modes_7 rfl ?_
    refine z_last (s := s.setDrawn d1) (n := 1) (i := 0) hx hb hK hP hD hS 31 3 rfl rfl (by decide) (by decide) dL_modes_8 (fun H locs hP hD hS => ?_)
    have hP : va_P (dC, dI) vwCl (w4L oL aC aP pT pR pN pB bP bF bL bH aM aQ mS mR mT ro0 ro1 ro2 ro3 aK kQ kS kR kT ko0 ko1 ko2 ko3 aW pW pX cD cI cQ cL iw ih al ac de nb u9.2 ik iq tT u9.1.1 u9.1.2.1 uP uF uL uH u9.1.2.2.1 u9.1.2.2.2.1 u9.1.2.2.2.2.1 u9.1.2.2.2.2.2.1 u9.1.2.2.2.2.2.2.1 u9.1.2.2.2.2.2.2.2.1 u9.1.2.2.2.2.2.2.2.2 ke0 ke1 ke2 ke3 ksq ksr kst tW tX (zu ol 0 (((nI u9.2)).toInt64))) H := hP
    have hD : va_D A (w4L oL aC aP pT pR pN pB bP bF bL bH aM aQ mS mR mT ro0 ro1 ro2 ro3 aK kQ kS kR kT ko0 ko1 ko2 ko3 aW pW pX cD cI cQ cL iw ih al ac de nb u9.2 ik iq tT u9.1.1 u9.1.2.1 uP uF uL uH u9.1.2.2.1 u9.1.2.2.2.1 u9.1.2.2.2.2.1 u9.1.2.2.2.2.2.1 u9.1.2.2.2.2.2.2.1 u9.1.2.2.2.2.2.2.2.1 u9.1.2.2.2.2.2.2.2.2 ke0 ke1 ke2 ke3 ksq ksr kst tW tX (zu ol 0 (((nI u9.2)).toInt64))) := hD
    refine lv_goto (tgt := 15) hx hb dL_modes_9 (by decide) ?_
    refine lv_iconst (v := (nI 0)) hx hb dL_modes_15 (by decide) ?_
    refine W.endD hd1 ?_
    refine W.widen (k := 1) (n := 6) (Nat.le_of_ble_eq_true rfl) (Nat.le_of_ble_eq_true rfl) ?_
    exact W.iret (v := (nI 0)) hx hb hr (fun t ht hW => ⟨⟨(nI 0), (u9.1, u9.2, zu ol 0 (((nI u9.2)).toInt64)), rfl, ⟨by rw [hcode] <;> rfl, fun _ => ⟨rfl, hm9, hq9⟩, fun q => absurd hcode q⟩, by rw [ht]; exact hP, va_K.moved hW.alike hK, hD⟩, hS.F ht⟩) hS.2.2 dL_modes_16
set_option maxHeartbeats 4000000 in
set_option maxRecDepth 100000 in
/-- want: the helper -/
theorem cL_want_c (l : Launch) (hst : l.stackTraces = false) (dC : Nat → ClassId) (dI : Nat → Nat → Nat) (aC aP pT pR pN pB bP bF bL bH aM aQ mS mR mT ro0 ro1 ro2 ro3 aK kQ kS kR kT ko0 ko1 ko2 ko3 aW pW pX : Nat) (cD cI cQ cL : ClassId) (iw ih : Nat) (al ac de : UInt64) (nb im ik iq : Nat) (tT tR tN : Nat → UInt64) (uP uF uL : Nat → Int32) (uH e0 e1 e2 e3 qS qU qO ke0 ke1 ke2 ke3 ksq ksr kst : Nat → UInt64) (tW : Nat → Int32) (tX : Nat → UInt64) (oL : Nat) (ol : Nat → Int64) (hq4 : iq ≤ 4) (k : Int32) (v : UInt64) (sz : Nat) : MetD lw_cs l yL_want wsL_want ({ frames := 8, cells := 3, slots := 18, locals := 138 } : Room) (va_Pc [.ref aC, .int k, .double v, .ref oL] (fun U => U.heap.size = sz ∧ va_P (dC, dI) vwCl (w4L oL aC aP pT pR pN pB bP bF bL bH aM aQ mS mR mT ro0 ro1 ro2 ro3 aK kQ kS kR kT ko0 ko1 ko2 ko3 aW pW pX cD cI cQ cL iw ih al ac de nb im ik iq tT tR tN uP uF uL uH e0 e1 e2 e3 qS qU qO ke0 ke1 ke2 ke3 ksq ksr kst tW tX ol) U.heap ∧ va_K (dC, dI) vwCl [(cD, .double), (cI, .int), (cQ, .array .double), (cL, .long)] U ∧ zNw U ∧ zXE (va_A (w4L oL aC aP pT pR pN pB bP bF bL bH aM aQ mS mR mT ro0 ro1 ro2 ro3 aK kQ kS kR kT ko0 ko1 ko2 ko3 aW pW pX cD cI cQ cL iw ih al ac de nb im ik iq tT tR tN uP uF uL uH e0 e1 e2 e3 qS qU qO ke0 ke1 ke2 ke3 ksq ksr kst tW tX ol) sz) U U.heap ∧ zXN U ∧ va_D (fun _ => True) (w4L oL aC aP pT pR pN pB bP bF bL bH aM aQ mS mR mT ro0 ro1 ro2 ro3 aK kQ kS kR kT ko0 ko1 ko2 ko3 aW pW pX cD cI cQ cL iw ih al ac de nb im ik iq tT tR tN uP uF uL uH e0 e1 e2 e3 qS qU qO ke0 ke1 ke2 ke3 ksq ksr kst tW tX ol))) (va_Qi (fun (r : Int32) (u : (Nat → Int32) × (Nat → UInt64) × Nat × (Nat → Int64)) => r = nI (zcWt iq k (zv v)) ∧ (zcWt iq k (zv v) = 0 → u.2.2.2 = zu ol 0 (nI (iq + 1)).toInt64 ∧ u.1 = zu tW iq k ∧ u.2.1 = zu tX iq v ∧ u.2.2.1 = iq + 1) ∧ (¬ zcWt iq k (zv v) = 0 → u.1 = tW ∧ u.2.1 = tX ∧ u.2.2.1 = iq ∧ u.2.2.2 = ol)) (fun u t => (va_P (dC, dI) vwCl (w4L oL aC aP pT pR pN pB bP bF bL bH aM aQ mS mR mT ro0 ro1 ro2 ro3 aK kQ kS kR kT ko0 ko1 ko2 ko3 aW pW pX cD cI cQ cL iw ih al ac de nb im ik u.2.2.1 tT tR tN uP uF uL uH e0 e1 e2 e3 qS qU qO ke0 ke1 ke2 ke3 ksq ksr kst u.1 u.2.1 u.2.2.2) t.heap ∧ va_K (dC, dI) vwCl [(cD, .double), (cI, .int), (cQ, .array .double), (cL, .long)] t ∧ va_D (va_A (w4L oL aC aP pT pR pN pB bP bF bL bH aM aQ mS mR mT ro0 ro1 ro2 ro3 aK kQ kS kR kT ko0 ko1 ko2 ko3 aW pW pX cD cI cQ cL iw ih al ac de nb im ik iq tT tR tN uP uF uL uH e0 e1 e2 e3 qS qU qO ke0 ke1 ke2 ke3 ksq ksr kst tW tX ol) sz) (w4L oL aC aP pT pR pN pB bP bF bL bH aM aQ mS mR mT ro0 ro1 ro2 ro3 aK kQ kS kR kT ko0 ko1 ko2 ko3 aW pW pX cD cI cQ cL iw ih al ac de nb im ik u.2.2.1 tT tR tN uP uF uL uH e0 e1 e2 e3 qS qU qO ke0 ke1 ke2 ke3 ksq ksr kst u.1 u.2.1 u.2.2.2))) (va_A (w4L oL aC aP pT pR pN pB bP bF bL bH aM aQ mS mR mT ro0 ro1 ro2 ro3 aK kQ kS kR kT ko0 ko1 ko2 ko3 aW pW pX cD cI cQ cL iw ih al ac de nb im ik iq tT tR tN uP uF uL uH e0 e1 e2 e3 qS qU qO ke0 ke1 ke2 ke3 ksq ksr kst tW tX ol) sz)) 3 18 (va_A (w4L oL aC aP pT pR pN pB bP bF bL bH aM aQ mS mR mT ro0 ro1 ro2 ro3 aK kQ kS kR kT ko0 ko1 ko2 ko3 aW pW pX cD cI cQ cL iw ih al ac de nb im ik iq tT tR tN uP uF uL uH e0 e1 e2 e3 qS qU qO ke0 ke1 ke2 ke3 ksq ksr kst tW tX ol) sz) := by
  refine zy_ofWHD (cc := cL_want) (maxL := 6) (ret := (some .int)) (hh := [(0, 11, 14, 13), (0, 11, 18, 15), (0, 11, 22, 25)]) (by decide) rfl ?_
  intro p e s m args below meth c s₁ B hml htab hv hd0
  obtain ⟨rfl, hsz, hP, hK, hN, hE, hXN, hD0⟩ := hv
  have hx := B.exec
  have hb := B.bytes
  have hr := B.returns
  have hts := atoms_spec (ws := wsL_want) B.pre
  have hown : s.vm.findClass RL = some m.cls := findClass_of_methodNamed B.named
  have hlocks := B.notSynchronized
  subst hsz
  have hD := hD0.self (sz := s.heap.size)
  generalize hAe : va_A (w4L oL aC aP pT pR pN pB bP bF bL bH aM aQ mS mR mT ro0 ro1 ro2 ro3 aK kQ kS kR kT ko0 ko1 ko2 ko3 aW pW pX cD cI cQ cL iw ih al ac de nb im ik iq tT tR tN uP uF uL uH e0 e1 e2 e3 qS qU qO ke0 ke1 ke2 ke3 ksq ksr kst tW tX ol) s.heap.size = A at hD hE ⊢
  have hA : ∀ q : Nat, s.heap.size ≤ q → A q := fun q h => by rw [← hAe]; exact Or.inr h
  have hS : va_S A s.heap s.heap [] := va_S.rf
  have hl := lv_entry ([.ref aC, .int k, .double v, .ref oL]) (n := 6) (Nat.le_of_ble_eq_true rfl)
  rw [lg_entry_eq]
  generalize (lg_sl ([.ref aC, .int k, .double v, .ref oL]) ++ List.replicate (6 - (lg_sl ([.ref aC, .int k, .double v, .ref oL])).length) Slot.unset).toArray = ls at hl ⊢
  have hl : lv_has ls 6 [(0, .ref aC), (1, .int k), (2, .double v), (4, .ref oL)] := hl
  refine lv_aload hx hb dL_want_0 (lv_at hl 3 rfl) ?_
  refine lv_iconst (v := (nI 0)) hx hb dL_want_2 (by decide) ?_
  refine lv_aload_n hx hb dL_want_3 rfl (lv_at hl 0 rfl) ?_
  refine lv_iload_n hx hb dL_want_4 rfl (lv_at hl 1 rfl) ?_
  refine lv_dload_n hx hb dL_want_5 rfl (lv_at hl 2 rfl) ?_
  have hPc := hP.sub (ws' := (w4 aC aP pT pR pN pB bP bF bL bH aM aQ mS mR mT ro0 ro1 ro2 ro3 aK kQ kS kR kT ko0 ko1 ko2 ko3 aW pW pX cD cI cQ iw ih al ac de nb im ik iq tT tR tN uP uF uL uH e0 e1 e2 e3 qS qU qO ke0 ke1 ke2 ke3 ksq ksr kst tW tX)) [0, 1, 2, 3, 4, 5, 6, 7, 8, 9, 10, 11, 12, 13, 14, 15, 16, 17, 18, 19, 20, 21, 22, 23, 24, 25, 26, 27, 28, 29, 30] rfl
  have hK3 := hK.sub (tys' := [(cD, .double), (cI, .int), (cQ, .array .double)]) [0, 1, 2] rfl
  have hDc := hD.sub (ws' := (w4 aC aP pT pR pN pB bP bF bL bH aM aQ mS mR mT ro0 ro1 ro2 ro3 aK kQ kS kR kT ko0 ko1 ko2 ko3 aW pW pX cD cI cQ iw ih al ac de nb im ik iq tT tR tN uP uF uL uH e0 e1 e2 e3 qS qU qO ke0 ke1 ke2 ke3 ksq ksr kst tW tX)) [0, 1, 2, 3, 4, 5, 6, 7, 8, 9, 10, 11, 12, 13, 14, 15, 16, 17, 18, 19, 20, 21, 22, 23, 24, 25, 26, 27, 28, 29, 30] (by decide) rfl
  have hFc := va_free (wc := (w4 aC aP pT pR pN pB bP bF bL bH aM aQ mS mR mT ro0 ro1 ro2 ro3 aK kQ kS kR kT ko0 ko1 ko2 ko3 aW pW pX cD cI cQ iw ih al ac de nb im ik iq tT tR tN uP uF uL uH e0 e1 e2 e3 qS qU qO ke0 ke1 ke2 ke3 ksq ksr kst tW tX)) hD hS hA [0, 1, 2, 3, 4, 5, 6, 7, 8, 9, 10, 11, 12, 13, 14, 15, 16, 17, 18, 19, 20, 21, 22, 23, 24, 25, 26, 27, 28, 29, 30] rfl
  refine vx_calli (vx_runV (As := [.int k, .double v]) (rest := [.int (nI 0), .ref oL]) ⟨hx, hb, hml, hown, (dr_words hts s.drawn)⟩ (c4_want l hst dC dI aC aP pT pR pN pB bP bF bL bH aM aQ mS mR mT ro0 ro1 ro2 ro3 aK kQ kS kR kT ko0 ko1 ko2 ko3 aW pW pX cD cI cQ iw ih al ac de nb im ik iq tT tR tN uP uF uL uH e0 e1 e2 e3 qS qU qO ke0 ke1 ke2 ke3 ksq ksr kst tW tX hq4 k v _) (cwV 2 (dr_words hts s.drawn) gL_want_X4_want rfl rfl rfl (by decide +kernel) ⟨(Nat.le_of_ble_eq_true rfl), (Nat.le_of_ble_eq_true rfl)⟩) ⟨zfbwX, va_recv hK3 hPc (ci := 4) (q0 := 0) rfl rfl, zprewX hPc hK3 hDc (by first | exact hN | exact hN.sd) (by first | exact hE | exact hE.sd) hS hFc⟩ rfl rfl hl.1 rfl (lv_room (Nat.le_of_ble_eq_true rfl)) dL_want_6 ⟨(Nat.le_of_ble_eq_true rfl), (Nat.le_of_ble_eq_true rfl)⟩) hS (fun q _ h => hFc q h) hFc (fun q _ h => hFc q h) (fun E9 ce9 q9 u9 t9 H1 locs1 ht9 hvm9 hpx hBX hz9 hk1 hS1 hce hcv hcl => ?_) (fun r9 u9 t9 H1 locs1 ht9 hvm9 hpost hB9 hz9 hk1 hS1 => ?_)
  · skip
    have hS := hS1
    have hu9 : u9 = 1 ∨ u9 = 2 ∨ u9 = 3 := by have h1 := hpx.1; have h2 := hpx.2; have h3 := zcWt_le (nq := iq) (k := k) (v := zv v); omega
    obtain ⟨hE9, hP1, hK1, hD1⟩ := hBX
    rcases hu9 with hu9 | hu9 | hu9
    · skip
      obtain rfl : E9 = zIO := by rw [hE9, hu9]; rfl
      refine vx_catch (own := RL) (name := zIO) (E := zIO) (ce := ce9) hown [] ⟨0, 11, 14, 13⟩ [⟨0, 11, 18, 15⟩, ⟨0, 11, 22, 25⟩] (by rw [htab]; rfl) (fun _ h => absurd h List.not_mem_nil) rfl (by decide) (dr_words hts s.drawn (.classLink RL 13 "java/lang/IndexOutOfBoundsException") (by decide +kernel)) (va_Nw.use rfl (hE.sd.2.2.1 zIO (by decide))) hce hcv hcl ?_
      rw [ht9] at hP1
      obtain ⟨hP, hD⟩ := va_join (wr := [(oL, .inl (cL, 1, .inr (.inl ol)))]) (w1 := (w4 aC aP pT pR pN pB bP bF bL bH aM aQ mS mR mT ro0 ro1 ro2 ro3 aK kQ kS kR kT ko0 ko1 ko2 ko3 aW pW pX cD cI cQ iw ih al ac de nb im ik iq tT tR tN uP uF uL uH e0 e1 e2 e3 qS qU qO ke0 ke1 ke2 ke3 ksq ksr kst tW tX)) hP hD [0, 1, 2, 3, 4, 5, 6, 7, 8, 9, 10, 11, 12, 13, 14, 15, 16, 17, 18, 19, 20, 21, 22, 23, 24, 25, 26, 27, 28, 29, 30] [31] rfl rfl (by decide) (by decide) hk1 hFc hP1 hD1
      generalize H1 = H at hP hS ⊢
      have hP : va_P (dC, dI) vwCl (w4L oL aC aP pT pR pN pB bP bF bL bH aM aQ mS mR mT ro0 ro1 ro2 ro3 aK kQ kS kR kT ko0 ko1 ko2 ko3 aW pW pX cD cI cQ cL iw ih al ac de nb im ik iq tT tR tN uP uF uL uH e0 e1 e2 e3 qS qU qO ke0 ke1 ke2 ke3 ksq ksr kst tW tX ol) H := hP.sub (ws' := (w4L oL aC aP pT pR pN pB bP bF bL bH aM aQ mS mR mT ro0 ro1 ro2 ro3 aK kQ kS kR kT ko0 ko1 ko2 ko3 aW pW pX cD cI cQ cL iw ih al ac de nb im ik iq tT tR tN uP uF uL uH e0 e1 e2 e3 qS qU qO ke0 ke1 ke2 ke3 ksq ksr kst tW tX ol)) [1, 2, 3, 4, 5, 6, 7, 8, 9, 10, 11, 12, 13, 14, 15, 16, 17, 18, 19, 20, 21, 22, 23, 24, 25, 26, 27, 28, 29, 30, 31, 0] rfl
      have hD : va_D A (w4L oL aC aP pT pR pN pB bP bF bL bH aM aQ mS mR mT ro0 ro1 ro2 ro3 aK kQ kS kR kT ko0 ko1 ko2 ko3 aW pW pX cD cI cQ cL iw ih al ac de nb im ik iq tT tR tN uP uF uL uH e0 e1 e2 e3 qS qU qO ke0 ke1 ke2 ke3 ksq ksr kst tW tX ol) := hD.sub (ws' := (w4L oL aC aP pT pR pN pB bP bF bL bH aM aQ mS mR mT ro0 ro1 ro2 ro3 aK kQ kS kR kT ko0 ko1 ko2 ko3 aW pW pX cD cI cQ cL iw ih al ac de nb im ik iq tT tR tN uP uF uL uH e0 e1 e2 e3 qS qU qO ke0 ke1 ke2 ke3 ksq ksr kst tW tX ol)) [1, 2, 3, 4, 5, 6, 7, 8, 9, 10, 11, 12, 13, 14, 15, 16, 17, 18, 19, 20, 21, 22, 23, 24, 25, 26, 27, 28, 29, 30, 31, 0] (by decide) rfl
      refine lv_astore (lv' := [(5, .ref q9), (0, .ref aC), (1, .int k), (2, .double v), (4, .ref oL)]) hx hb dL_want_14 hl (by decide) rfl (fun ls hl => ?_)
      refine lv_iconst (v := (nI 1)) hx hb dL_want_16 (by decide) ?_
      refine W.endD hd0 ?_
      refine W.widen (k := 3) (n := 18) (Nat.le_of_ble_eq_true rfl) (Nat.le_of_ble_eq_true rfl) ?_
      exact W.iret (v := (nI 1)) hx hb hr (fun t ht hW => ⟨⟨(nI 1), (tW, tX, iq, ol), rfl, ⟨by rw [show (zcWt iq k (zv v)) = 1 from hpx.1.symm.trans hu9] <;> rfl, fun q => absurd (hpx.1.trans q) hpx.2, fun _ => ⟨rfl, rfl, rfl, rfl⟩⟩, by rw [ht]; exact hP, va_K.moved hW.alike hK, hD⟩, hS.F ht⟩) hS.2.2 dL_want_17
    · skip
      obtain rfl : E9 = zIA := by rw [hE9, hu9]; rfl
      refine vx_catch (own := RL) (name := zIA) (E := zIA) (ce := ce9) hown [⟨0, 11, 14, 13⟩] ⟨0, 11, 18, 15⟩ [⟨0, 11, 22, 25⟩] (by rw [htab]; rfl) (List.forall_mem_cons.mpr ⟨Or.inr ⟨by decide, zIO, (dr_words hts s.drawn (.classLink RL 13 "java/lang/IndexOutOfBoundsException") (by decide +kernel)), hXN.sd.1⟩, (fun _ h => absurd h List.not_mem_nil)⟩) rfl (by decide) (dr_words hts s.drawn (.classLink RL 15 "java/lang/IllegalArgumentException") (by decide +kernel)) (va_Nw.use rfl (hE.sd.2.2.1 zIA (by decide))) hce hcv hcl ?_
      rw [ht9] at hP1
      obtain ⟨hP, hD⟩ := va_join (wr := [(oL, .inl (cL, 1, .inr (.inl ol)))]) (w1 := (w4 aC aP pT pR pN pB bP bF bL bH aM aQ mS mR mT ro0 ro1 ro2 ro3 aK kQ kS kR kT ko0 ko1 ko2 ko3 aW pW pX cD cI cQ iw ih al ac de nb im ik iq tT tR tN uP uF uL uH e0 e1 e2 e3 qS qU qO ke0 ke1 ke2 ke3 ksq ksr kst tW tX)) hP hD [0, 1, 2, 3, 4, 5, 6, 7, 8, 9, 10, 11, 12, 13, 14, 15, 16, 17, 18, 19, 20, 21, 22, 23, 24, 25, 26, 27, 28, 29, 30] [31] rfl rfl (by decide) (by decide) hk1 hFc hP1 hD1
      generalize H1 = H at hP hS ⊢
      have hP : va_P (dC, dI) vwCl (w4L oL aC aP pT pR pN pB bP bF bL bH aM aQ mS mR mT ro0 ro1 ro2 ro3 aK kQ kS kR kT ko0 ko1 ko2 ko3 aW pW pX cD cI cQ cL iw ih al ac de nb im ik iq tT tR tN uP uF uL uH e0 e1 e2 e3 qS qU qO ke0 ke1 ke2 ke3 ksq ksr kst tW tX ol) H := hP.sub (ws' := (w4L oL aC aP pT pR pN pB bP bF bL bH aM aQ mS mR mT ro0 ro1 ro2 ro3 aK kQ kS kR kT ko0 ko1 ko2 ko3 aW pW pX cD cI cQ cL iw ih al ac de nb im ik iq tT tR tN uP uF uL uH e0 e1 e2 e3 qS qU qO ke0 ke1 ke2 ke3 ksq ksr kst tW tX ol)) [1, 2, 3, 4, 5, 6, 7, 8, 9, 10, 11, 12, 13, 14, 15, 16, 17, 18, 19, 20, 21, 22, 23, 24, 25, 26, 27, 28, 29, 30, 31, 0] rfl
      have hD : va_D A (w4L oL aC aP pT pR pN pB bP bF bL bH aM aQ mS mR mT ro0 ro1 ro2 ro3 aK kQ kS kR kT ko0 ko1 ko2 ko3 aW pW pX cD cI cQ cL iw ih al ac de nb im ik iq tT tR tN uP uF uL uH e0 e1 e2 e3 qS qU qO ke0 ke1 ke2 ke3 ksq ksr kst tW tX ol) := hD.sub (ws' := (w4L oL aC aP pT pR pN pB bP bF bL bH aM aQ mS mR mT ro0 ro1 ro2 ro3 aK kQ kS kR kT ko0 ko1 ko2 ko3 aW pW pX cD cI cQ cL iw ih al ac de nb im ik iq tT tR tN uP uF uL uH e0 e1 e2 e3 qS qU qO ke0 ke1 ke2 ke3 ksq ksr kst tW tX ol)) [1, 2, 3, 4, 5, 6, 7, 8, 9, 10, 11, 12, 13, 14, 15, 16, 17, 18, 19, 20, 21, 22, 23, 24, 25, 26, 27, 28, 29, 30, 31, 0] (by decide) rfl
      refine lv_astore (lv' := [(5, .ref q9), (0, .ref aC), (1, .int k), (2, .double v), (4, .ref oL)]) hx hb dL_want_18 hl (by decide) rfl (fun ls hl => ?_)
      refine lv_iconst (v := (nI 2)) hx hb dL_want_20 (by decide) ?_
      refine W.endD hd0 ?_
      refine W.widen (k := 3) (n := 18) (Nat.le_of_ble_eq_true rfl) (Nat.le_of_ble_eq_true rfl) ?_
      exact W.iret (v := (nI 2)) hx hb hr (fun t ht hW => ⟨⟨(nI 2), (tW, tX, iq, ol), rfl, ⟨by rw [show (zcWt iq k (zv v)) = 2 from hpx.1.symm.trans hu9] <;> rfl, fun q => absurd (hpx.1.trans q) hpx.2, fun _ => ⟨rfl, rfl, rfl, rfl⟩⟩, by rw [ht]; exact hP, va_K.moved hW.alike hK, hD⟩, hS.F ht⟩) hS.2.2 dL_want_21
    · skip
      obtain rfl : E9 = zIS := by rw [hE9, hu9]; rfl
      refine vx_catch (own := RL) (name := zIS) (E := zIS) (ce := ce9) hown [⟨0, 11, 14, 13⟩, ⟨0, 11, 18, 15⟩] ⟨0, 11, 22, 25⟩ [] (by rw [htab]; rfl) (List.forall_mem_cons.mpr ⟨Or.inr ⟨by decide, zIO, (dr_words hts s.drawn (.classLink RL 13 "java/lang/IndexOutOfBoundsException") (by decide +kernel)), hXN.sd.2.1⟩, (List.forall_mem_cons.mpr ⟨Or.inr ⟨by decide, zIA, (dr_words hts s.drawn (.classLink RL 15 "java/lang/IllegalArgumentException") (by decide +kernel)), hXN.sd.2.2⟩, (fun _ h => absurd h List.not_mem_nil)⟩)⟩) rfl (by decide) (dr_words hts s.drawn (.classLink RL 25 "java/lang/IllegalStateException") (by decide +kernel)) (va_Nw.use rfl (hE.sd.2.2.1 zIS (by decide))) hce hcv hcl ?_
      rw [ht9] at hP1
      obtain ⟨hP, hD⟩ := va_join (wr := [(oL, .inl (cL, 1, .inr (.inl ol)))]) (w1 := (w4 aC aP pT pR pN pB bP bF bL bH aM aQ mS mR mT ro0 ro1 ro2 ro3 aK kQ kS kR kT ko0 ko1 ko2 ko3 aW pW pX cD cI cQ iw ih al ac de nb im ik iq tT tR tN uP uF uL uH e0 e1 e2 e3 qS qU qO ke0 ke1 ke2 ke3 ksq ksr kst tW tX)) hP hD [0, 1, 2, 3, 4, 5, 6, 7, 8, 9, 10, 11, 12, 13, 14, 15, 16, 17, 18, 19, 20, 21, 22, 23, 24, 25, 26, 27, 28, 29, 30] [31] rfl rfl (by decide) (by decide) hk1 hFc hP1 hD1
      generalize H1 = H at hP hS ⊢
      have hP : va_P (dC, dI) vwCl (w4L oL aC aP pT pR pN pB bP bF bL bH aM aQ mS mR mT ro0 ro1 ro2 ro3 aK kQ kS kR kT ko0 ko1 ko2 ko3 aW pW pX cD cI cQ cL iw ih al ac de nb im ik iq tT tR tN uP uF uL uH e0 e1 e2 e3 qS qU qO ke0 ke1 ke2 ke3 ksq ksr kst tW tX ol) H := hP.sub (ws' := (w4L oL aC aP pT pR pN pB bP bF bL bH aM aQ mS mR mT ro0 ro1 ro2 ro3 aK kQ kS kR kT ko0 ko1 ko2 ko3 aW pW pX cD cI cQ cL iw ih al ac de nb im ik iq tT tR tN uP uF uL uH e0 e1 e2 e3 qS qU qO ke0 ke1 ke2 ke3 ksq ksr kst tW tX ol)) [1, 2, 3, 4, 5, 6, 7, 8, 9, 10, 11, 12, 13, 14, 15, 16, 17, 18, 19, 20, 21, 22, 23, 24, 25, 26, 27, 28, 29, 30, 31, 0] rfl
      have hD : va_D A (w4L oL aC aP pT pR pN pB bP bF bL bH aM aQ mS mR mT ro0 ro1 ro2 ro3 aK kQ kS kR kT ko0 ko1 ko2 ko3 aW pW pX cD cI cQ cL iw ih al ac de nb im ik iq tT tR tN uP uF uL uH e0 e1 e2 e3 qS qU qO ke0 ke1 ke2 ke3 ksq ksr kst tW tX ol) := hD.sub (ws' := (w4L oL aC aP pT pR pN pB bP bF bL bH aM aQ mS mR mT ro0 ro1 ro2 ro3 aK kQ kS kR kT ko0 ko1 ko2 ko3 aW pW pX cD cI cQ cL iw ih al ac de nb im ik iq tT tR tN uP uF uL uH e0 e1 e2 e3 qS qU qO ke0 ke1 ke2 ke3 ksq ksr kst tW tX ol)) [1, 2, 3, 4, 5, 6, 7, 8, 9, 10, 11, 12, 13, 14, 15, 16, 17, 18, 19, 20, 21, 22, 23, 24, 25, 26, 27, 28, 29, 30, 31, 0] (by decide) rfl
      refine lv_astore (lv' := [(5, .ref q9), (0, .ref aC), (1, .int k), (2, .double v), (4, .ref oL)]) hx hb dL_want_22 hl (by decide) rfl (fun ls hl => ?_)
      refine lv_iconst (v := (nI 3)) hx hb dL_want_24 (by decide) ?_
      refine W.endD hd0 ?_
      refine W.widen (k := 3) (n := 18) (Nat.le_of_ble_eq_true rfl) (Nat.le_of_ble_eq_true rfl) ?_
      exact W.iret (v := (nI 3)) hx hb hr (fun t ht hW => ⟨⟨(nI 3), (tW, tX, iq, ol), rfl, ⟨by rw [show (zcWt iq k (zv v)) = 3 from hpx.1.symm.trans hu9] <;> rfl, fun q => absurd (hpx.1.trans q) hpx.2, fun _ => ⟨rfl, rfl, rfl, rfl⟩⟩, by rw [ht]; exact hP, va_K.moved hW.alike hK, hD⟩, hS.F ht⟩) hS.2.2 dL_want_25
  · skip
    have hS := hS1
    obtain ⟨hP1, hK1, hD1⟩ := hB9
    rw [ht9] at hP1
    obtain ⟨hP, hD⟩ := va_join (wr := [(oL, .inl (cL, 1, .inr (.inl ol)))]) (w1 := (w4 aC aP pT pR pN pB bP bF bL bH aM aQ mS mR mT ro0 ro1 ro2 ro3 aK kQ kS kR kT ko0 ko1 ko2 ko3 aW pW pX cD cI cQ iw ih al ac de nb im ik (iq + 1) tT tR tN uP uF uL uH e0 e1 e2 e3 qS qU qO ke0 ke1 ke2 ke3 ksq ksr kst (zu tW iq k) (zu tX iq v))) hP hD [0, 1, 2, 3, 4, 5, 6, 7, 8, 9, 10, 11, 12, 13, 14, 15, 16, 17, 18, 19, 20, 21, 22, 23, 24, 25, 26, 27, 28, 29, 30] [31] rfl rfl (by decide) (by decide) hk1 hFc hP1 hD1
    generalize H1 = H at hP hS ⊢
    have hP : va_P (dC, dI) vwCl (w4L oL aC aP pT pR pN pB bP bF bL bH aM aQ mS mR mT ro0 ro1 ro2 ro3 aK kQ kS kR kT ko0 ko1 ko2 ko3 aW pW pX cD cI cQ cL iw ih al ac de nb im ik (iq + 1) tT tR tN uP uF uL uH e0 e1 e2 e3 qS qU qO ke0 ke1 ke2 ke3 ksq ksr kst (zu tW iq k) (zu tX iq v) ol) H := hP.sub (ws' := (w4L oL aC aP pT pR pN pB bP bF bL bH aM aQ mS mR mT ro0 ro1 ro2 ro3 aK kQ kS kR kT ko0 ko1 ko2 ko3 aW pW pX cD cI cQ cL iw ih al ac de nb im ik (iq + 1) tT tR tN uP uF uL uH e0 e1 e2 e3 qS qU qO ke0 ke1 ke2 ke3 ksq ksr kst (zu tW iq k) (zu tX iq v) ol)) [1, 2, 3, 4, 5, 6, 7, 8, 9, 10, 11, 12, 13, 14, 15, 16, 17, 18, 19, 20, 21, 22, 23, 24, 25, 26, 27, 28, 29, 30, 31, 0] rfl
    have hD : va_D A (w4L oL aC aP pT pR pN pB bP bF bL bH aM aQ mS mR mT ro0 ro1 ro2 ro3 aK kQ kS kR kT ko0 ko1 ko2 ko3 aW pW pX cD cI cQ cL iw ih al ac de nb im ik (iq + 1) tT tR tN uP uF uL uH e0 e1 e2 e3 qS qU qO ke0 ke1 ke2 ke3 ksq ksr kst (zu tW iq k) (zu tX iq v) ol) := hD.sub (ws' := (w4L oL aC aP pT pR pN pB bP bF bL bH aM aQ mS mR mT ro0 ro1 ro2 ro3 aK kQ kS kR kT ko0 ko1 ko2 ko3 aW pW pX cD cI cQ cL iw ih al ac de nb im ik (iq + 1) tT tR tN uP uF uL uH e0 e1 e2 e3 qS qU qO ke0 ke1 ke2 ke3 ksq ksr kst (zu tW iq k) (zu tX iq v) ol)) [1, 2, 3, 4, 5, 6, 7, 8, 9, 10, 11, 12, 13, 14, 15, 16, 17, 18, 19, 20, 21, 22, 23, 24, 25, 26, 27, 28, 29, 30, 31, 0] (by decide) rfl
    obtain ⟨hcode, hr9⟩ := hpost
    subst hr9
    refine lv_i2l hx hb dL_want_9 rfl ?_
    refine z_last (s := s.setDrawn s.drawn) (n := 1) (i := 0) hx hb hK hP hD hS 31 3 rfl rfl (by decide) (by decide) dL_want_10 (fun H locs hP hD hS => ?_)
    have hP : va_P (dC, dI) vwCl (w4L oL aC aP pT pR pN pB bP bF bL bH aM aQ mS mR mT ro0 ro1 ro2 ro3 aK kQ kS kR kT ko0 ko1 ko2 ko3 aW pW pX cD cI cQ cL iw ih al ac de nb im ik (iq + 1) tT tR tN uP uF uL uH e0 e1 e2 e3 qS qU qO ke0 ke1 ke2 ke3 ksq ksr kst (zu tW iq k) (zu tX iq v) (zu ol 0 (((nI (iq + 1))).toInt64))) H := hP
    have hD : va_D A (w4L oL aC aP pT pR pN pB bP bF bL bH aM aQ mS mR mT ro0 ro1 ro2 ro3 aK kQ kS kR kT ko0 ko1 ko2 ko3 aW pW pX cD cI cQ cL iw ih al ac de nb im ik (iq + 1) tT tR tN uP uF uL uH e0 e1 e2 e3 qS qU qO ke0 ke1 ke2 ke3 ksq ksr kst (zu tW iq k) (zu tX iq v) (zu ol 0 (((nI (iq + 1))).toInt64))) := hD
    refine lv_goto (tgt := 26) hx hb dL_want_11 (by decide) ?_
    refine lv_iconst (v := (nI 0)) hx hb dL_want_26 (by decide) ?_
    refine W.endD hd0 ?_
    refine W.widen (k := 3) (n := 18) (Nat.le_of_ble_eq_true rfl) (Nat.le_of_ble_eq_true rfl) ?_
    exact W.iret (v := (nI 0)) hx hb hr (fun t ht hW => ⟨⟨(nI 0), (zu tW iq k, zu tX iq v, iq + 1, zu ol 0 (((nI (iq + 1))).toInt64)), rfl, ⟨by rw [hcode] <;> rfl, fun _ => ⟨rfl, rfl, rfl, rfl⟩, fun q => absurd hcode q⟩, by rw [ht]; exact hP, va_K.moved hW.alike hK, hD⟩, hS.F ht⟩) hS.2.2 dL_want_27
set_option maxHeartbeats 4000000 in
set_option maxRecDepth 100000 in
/-- thin: the helper -/
theorem cL_thin_c (l : Launch) (hst : l.stackTraces = false) (dC : Nat → ClassId) (dI : Nat → Nat → Nat) (aC aP pT pR pN pB bP bF bL bH aM aQ mS mR mT ro0 ro1 ro2 ro3 aK kQ kS kR kT ko0 ko1 ko2 ko3 aW pW pX : Nat) (cD cI cQ cL : ClassId) (iw ih : Nat) (al ac de : UInt64) (nb im ik iq : Nat) (tT tR tN : Nat → UInt64) (uP uF uL : Nat → Int32) (uH e0 e1 e2 e3 qS qU qO ke0 ke1 ke2 ke3 ksq ksr kst : Nat → UInt64) (tW : Nat → Int32) (tX : Nat → UInt64) (oL : Nat) (ol : Nat → Int64) (hw6 : iw ≤ 6) (hh6 : ih ≤ 6) (T : Nat → ZD) (gT : zcr tT (iw * ih) T) (bx0 by0 bx1 by1 : Nat → Nat) (bg : Nat → ZD) (hb12 : nb ≤ 12) (hw2 : 2 ≤ iw) (gBr : ∀ k, k < nb → zbr iw uP uF uL bx0 by0 bx1 by1 k) (gB : ∀ k, k < nb → bx0 k ≤ bx1 k ∧ bx1 k < iw ∧ by0 k ≤ by1 k ∧ by1 k < ih) (gG : ∀ k, k < nb → zv (uH k) = bg k) (wn : Nat → Nat) (hq4 : iq ≤ 4) (gW : ∀ i, i < iq → tW i = nI (wn i)) (gw4 : ∀ i, i < iq → wn i < 4) (ws : Nat → ZD) (gX : ∀ i, i < iq → zv (tX i) = ws i) (hG : zeG T (iw * ih)) (hOK : ∀ Tq : Nat → ZD, zeG Tq (iw * ih) → zOK iw ih Tq (zRB iw Tq (zv al) bx0 by0 bx1 bg nb) (zNB iw ih Tq (zv ac) bx0 by0 by1 bg nb) (zv de)) (st lo : UInt64) (sz : Nat) : MetD lw_cs l yL_thin wsL_thin ({ frames := 8, cells := 3, slots := 18, locals := 187 } : Room) (va_Pc [.ref aC, .double st, .double lo, .ref oL] (fun U => U.heap.size = sz ∧ va_P (dC, dI) vwCl (w4L oL aC aP pT pR pN pB bP bF bL bH aM aQ mS mR mT ro0 ro1 ro2 ro3 aK kQ kS kR kT ko0 ko1 ko2 ko3 aW pW pX cD cI cQ cL iw ih al ac de nb im ik iq tT tR tN uP uF uL uH e0 e1 e2 e3 qS qU qO ke0 ke1 ke2 ke3 ksq ksr kst tW tX ol) U.heap ∧ va_K (dC, dI) vwCl [(cD, .double), (cI, .int), (cQ, .array .double), (cL, .long)] U ∧ zNw U ∧ zXE (va_A (w4L oL aC aP pT pR pN pB bP bF bL bH aM aQ mS mR mT ro0 ro1 ro2 ro3 aK kQ kS kR kT ko0 ko1 ko2 ko3 aW pW pX cD cI cQ cL iw ih al ac de nb im ik iq tT tR tN uP uF uL uH e0 e1 e2 e3 qS qU qO ke0 ke1 ke2 ke3 ksq ksr kst tW tX ol) sz) U U.heap ∧ zXN U ∧ va_D (fun _ => True) (w4L oL aC aP pT pR pN pB bP bF bL bH aM aQ mS mR mT ro0 ro1 ro2 ro3 aK kQ kS kR kT ko0 ko1 ko2 ko3 aW pW pX cD cI cQ cL iw ih al ac de nb im ik iq tT tR tN uP uF uL uH e0 e1 e2 e3 qS qU qO ke0 ke1 ke2 ke3 ksq ksr kst tW tX ol))) (va_Qi (fun (r : Int32) (u : (Nat → UInt64) × ((Nat → UInt64) × (Nat → UInt64) × (Nat → UInt64) × (Nat → UInt64) × (Nat → UInt64) × (Nat → UInt64) × (Nat → UInt64) × (Nat → UInt64) × (Nat → UInt64)) × Nat × ((Nat → UInt64) × (Nat → UInt64) × (Nat → UInt64) × (Nat → UInt64) × (Nat → UInt64) × (Nat → UInt64) × (Nat → UInt64)) × Nat × (Nat → Int64)) => r = nI (zcTh (zv st) (zv lo) (zneed wn iq) (zcnt iw ih T (zRB iw T (zv al) bx0 by0 bx1 bg nb) (zNB iw ih T (zv ac) bx0 by0 by1 bg nb) (zv de) (zneed wn iq))) ∧ (zcTh (zv st) (zv lo) (zneed wn iq) (zcnt iw ih T (zRB iw T (zv al) bx0 by0 bx1 bg nb) (zNB iw ih T (zv ac) bx0 by0 by1 bg nb) (zv de) (zneed wn iq)) = 0 → u.2.2.2.2.2 = zu ol 0 (nI (zthin (zCN iw ih (zv al) (zv ac) (zv de) bx0 by0 bx1 by1 bg nb (zneed wn iq)) (zTOc iw ih (zv al) (zv ac) (zv de) bx0 by0 bx1 by1 bg nb wn ws iq) (zneed wn iq) (zv st) (zv lo) T (iw * ih)).2.2).toInt64 ∧ zeG (zthin (zCN iw ih (zv al) (zv ac) (zv de) bx0 by0 bx1 by1 bg nb (zneed wn iq)) (zTOc iw ih (zv al) (zv ac) (zv de) bx0 by0 bx1 by1 bg nb wn ws iq) (zneed wn iq) (zv st) (zv lo) T (iw * ih)).1 (iw * ih) ∧ zcr u.1 (iw * ih) (zthin (zCN iw ih (zv al) (zv ac) (zv de) bx0 by0 bx1 by1 bg nb (zneed wn iq)) (zTOc iw ih (zv al) (zv ac) (zv de) bx0 by0 bx1 by1 bg nb wn ws iq) (zneed wn iq) (zv st) (zv lo) T (iw * ih)).1 ∧ u.2.2.1 = zcnt iw ih (zthin (zCN iw ih (zv al) (zv ac) (zv de) bx0 by0 bx1 by1 bg nb (zneed wn iq)) (zTOc iw ih (zv al) (zv ac) (zv de) bx0 by0 bx1 by1 bg nb wn ws iq) (zneed wn iq) (zv st) (zv lo) T (iw * ih)).1 (zRB iw (zthin (zCN iw ih (zv al) (zv ac) (zv de) bx0 by0 bx1 by1 bg nb (zneed wn iq)) (zTOc iw ih (zv al) (zv ac) (zv de) bx0 by0 bx1 by1 bg nb wn ws iq) (zneed wn iq) (zv st) (zv lo) T (iw * ih)).1 (zv al) bx0 by0 bx1 bg nb) (zNB iw ih (zthin (zCN iw ih (zv al) (zv ac) (zv de) bx0 by0 bx1 by1 bg nb (zneed wn iq)) (zTOc iw ih (zv al) (zv ac) (zv de) bx0 by0 bx1 by1 bg nb wn ws iq) (zneed wn iq) (zv st) (zv lo) T (iw * ih)).1 (zv ac) bx0 by0 by1 bg nb) (zv de) (zneed wn iq) ∧ qCm iw ih u.2.2.1 (zthin (zCN iw ih (zv al) (zv ac) (zv de) bx0 by0 bx1 by1 bg nb (zneed wn iq)) (zTOc iw ih (zv al) (zv ac) (zv de) bx0 by0 bx1 by1 bg nb wn ws iq) (zneed wn iq) (zv st) (zv lo) T (iw * ih)).1 (zRB iw (zthin (zCN iw ih (zv al) (zv ac) (zv de) bx0 by0 bx1 by1 bg nb (zneed wn iq)) (zTOc iw ih (zv al) (zv ac) (zv de) bx0 by0 bx1 by1 bg nb wn ws iq) (zneed wn iq) (zv st) (zv lo) T (iw * ih)).1 (zv al) bx0 by0 bx1 bg nb) (zNB iw ih (zthin (zCN iw ih (zv al) (zv ac) (zv de) bx0 by0 bx1 by1 bg nb (zneed wn iq)) (zTOc iw ih (zv al) (zv ac) (zv de) bx0 by0 bx1 by1 bg nb wn ws iq) (zneed wn iq) (zv st) (zv lo) T (iw * ih)).1 (zv ac) bx0 by0 by1 bg nb) (zv de) u.2.1.2.2.1 u.2.1.2.2.2.1 u.2.1.2.2.2.2.1 u.2.1.2.2.2.2.2.1 u.2.1.2.2.2.2.2.2.1 u.2.1.2.2.2.2.2.2.2.1 u.2.1.2.2.2.2.2.2.2.2) ∧ (¬ zcTh (zv st) (zv lo) (zneed wn iq) (zcnt iw ih T (zRB iw T (zv al) bx0 by0 bx1 bg nb) (zNB iw ih T (zv ac) bx0 by0 by1 bg nb) (zv de) (zneed wn iq)) = 0 → u.1 = tT ∧ u.2.2.1 = im ∧ u.2.2.2.2.2 = ol ∧ u.2.1.2.2.1 = e0 ∧ u.2.1.2.2.2.1 = e1 ∧ u.2.1.2.2.2.2.1 = e2 ∧ u.2.1.2.2.2.2.2.1 = e3 ∧ u.2.1.2.2.2.2.2.2.1 = qS ∧ u.2.1.2.2.2.2.2.2.2.1 = qU ∧ u.2.1.2.2.2.2.2.2.2.2 = qO)) (fun u t => (va_P (dC, dI) vwCl (w4L oL aC aP pT pR pN pB bP bF bL bH aM aQ mS mR mT ro0 ro1 ro2 ro3 aK kQ kS kR kT ko0 ko1 ko2 ko3 aW pW pX cD cI cQ cL iw ih al ac de nb u.2.2.1 u.2.2.2.2.1 iq u.1 u.2.1.1 u.2.1.2.1 uP uF uL uH u.2.1.2.2.1 u.2.1.2.2.2.1 u.2.1.2.2.2.2.1 u.2.1.2.2.2.2.2.1 u.2.1.2.2.2.2.2.2.1 u.2.1.2.2.2.2.2.2.2.1 u.2.1.2.2.2.2.2.2.2.2 u.2.2.2.1.1 u.2.2.2.1.2.1 u.2.2.2.1.2.2.1 u.2.2.2.1.2.2.2.1 u.2.2.2.1.2.2.2.2.1 u.2.2.2.1.2.2.2.2.2.1 u.2.2.2.1.2.2.2.2.2.2 tW tX u.2.2.2.2.2) t.heap ∧ va_K (dC, dI) vwCl [(cD, .double), (cI, .int), (cQ, .array .double), (cL, .long)] t ∧ va_D (va_A (w4L oL aC aP pT pR pN pB bP bF bL bH aM aQ mS mR mT ro0 ro1 ro2 ro3 aK kQ kS kR kT ko0 ko1 ko2 ko3 aW pW pX cD cI cQ cL iw ih al ac de nb im ik iq tT tR tN uP uF uL uH e0 e1 e2 e3 qS qU qO ke0 ke1 ke2 ke3 ksq ksr kst tW tX ol) sz) (w4L oL aC aP pT pR pN pB bP bF bL bH aM aQ mS mR mT ro0 ro1 ro2 ro3 aK kQ kS kR kT ko0 ko1 ko2 ko3 aW pW pX cD cI cQ cL iw ih al ac de nb u.2.2.1 u.2.2.2.2.1 iq u.1 u.2.1.1 u.2.1.2.1 uP uF uL uH u.2.1.2.2.1 u.2.1.2.2.2.1 u.2.1.2.2.2.2.1 u.2.1.2.2.2.2.2.1 u.2.1.2.2.2.2.2.2.1 u.2.1.2.2.2.2.2.2.2.1 u.2.1.2.2.2.2.2.2.2.2 u.2.2.2.1.1 u.2.2.2.1.2.1 u.2.2.2.1.2.2.1 u.2.2.2.1.2.2.2.1 u.2.2.2.1.2.2.2.2.1 u.2.2.2.1.2.2.2.2.2.1 u.2.2.2.1.2.2.2.2.2.2 tW tX u.2.2.2.2.2))) (va_A (w4L oL aC aP pT pR pN pB bP bF bL bH aM aQ mS mR mT ro0 ro1 ro2 ro3 aK kQ kS kR kT ko0 ko1 ko2 ko3 aW pW pX cD cI cQ cL iw ih al ac de nb im ik iq tT tR tN uP uF uL uH e0 e1 e2 e3 qS qU qO ke0 ke1 ke2 ke3 ksq ksr kst tW tX ol) sz)) 3 18 (va_A (w4L oL aC aP pT pR pN pB bP bF bL bH aM aQ mS mR mT ro0 ro1 ro2 ro3 aK kQ kS kR kT ko0 ko1 ko2 ko3 aW pW pX cD cI cQ cL iw ih al ac de nb im ik iq tT tR tN uP uF uL uH e0 e1 e2 e3 qS qU qO ke0 ke1 ke2 ke3 ksq ksr kst tW tX ol) sz) := by
  refine zy_ofWHD (cc := cL_thin) (maxL := 7) (ret := (some .int)) (hh := [(0, 11, 14, 15), (0, 11, 18, 25)]) (by decide) rfl ?_
  intro p e s m args below meth c s₁ B hml htab hv hd0
  obtain ⟨rfl, hsz, hP, hK, hN, hE, hXN, hD0⟩ := hv
  have hx := B.exec
  have hb := B.bytes
  have hr := B.returns
  have hts := atoms_spec (ws := wsL_thin) B.pre
  have hown : s.vm.findClass RL = some m.cls := findClass_of_methodNamed B.named
  have hlocks := B.notSynchronized
  subst hsz
  have hD := hD0.self (sz := s.heap.size)
  generalize hAe : va_A (w4L oL aC aP pT pR pN pB bP bF bL bH aM aQ mS mR mT ro0 ro1 ro2 ro3 aK kQ kS kR kT ko0 ko1 ko2 ko3 aW pW pX cD cI cQ cL iw ih al ac de nb im ik iq tT tR tN uP uF uL uH e0 e1 e2 e3 qS qU qO ke0 ke1 ke2 ke3 ksq ksr kst tW tX ol) s.heap.size = A at hD hE ⊢
  have hA : ∀ q : Nat, s.heap.size ≤ q → A q := fun q h => by rw [← hAe]; exact Or.inr h
  have hS : va_S A s.heap s.heap [] := va_S.rf
  have hl := lv_entry ([.ref aC, .double st, .double lo, .ref oL]) (n := 7) (Nat.le_of_ble_eq_true rfl)
  rw [lg_entry_eq]
  generalize (lg_sl ([.ref aC, .double st, .double lo, .ref oL]) ++ List.replicate (7 - (lg_sl ([.ref aC, .double st, .double lo, .ref oL])).length) Slot.unset).toArray = ls at hl ⊢
  have hl : lv_has ls 7 [(0, .ref aC), (1, .double st), (3, .double lo), (5, .ref oL)] := hl
  have hn36 : iw * ih ≤ 36 := Nat.mul_le_mul hw6 hh6
  refine lv_aload hx hb dL_thin_0 (lv_at hl 3 rfl) ?_
  refine lv_iconst (v := (nI 0)) hx hb dL_thin_2 (by decide) ?_
  refine lv_aload_n hx hb dL_thin_3 rfl (lv_at hl 0 rfl) ?_
  refine lv_dload_n hx hb dL_thin_4 rfl (lv_at hl 1 rfl) ?_
  refine lv_dload_n hx hb dL_thin_5 rfl (lv_at hl 2 rfl) ?_
  have hPc := hP.sub (ws' := (w4 aC aP pT pR pN pB bP bF bL bH aM aQ mS mR mT ro0 ro1 ro2 ro3 aK kQ kS kR kT ko0 ko1 ko2 ko3 aW pW pX cD cI cQ iw ih al ac de nb im ik iq tT tR tN uP uF uL uH e0 e1 e2 e3 qS qU qO ke0 ke1 ke2 ke3 ksq ksr kst tW tX)) [0, 1, 2, 3, 4, 5, 6, 7, 8, 9, 10, 11, 12, 13, 14, 15, 16, 17, 18, 19, 20, 21, 22, 23, 24, 25, 26, 27, 28, 29, 30] rfl
  have hK3 := hK.sub (tys' := [(cD, .double), (cI, .int), (cQ, .array .double)]) [0, 1, 2] rfl
  have hDc := hD.sub (ws' := (w4 aC aP pT pR pN pB bP bF bL bH aM aQ mS mR mT ro0 ro1 ro2 ro3 aK kQ kS kR kT ko0 ko1 ko2 ko3 aW pW pX cD cI cQ iw ih al ac de nb im ik iq tT tR tN uP uF uL uH e0 e1 e2 e3 qS qU qO ke0 ke1 ke2 ke3 ksq ksr kst tW tX)) [0, 1, 2, 3, 4, 5, 6, 7, 8, 9, 10, 11, 12, 13, 14, 15, 16, 17, 18, 19, 20, 21, 22, 23, 24, 25, 26, 27, 28, 29, 30] (by decide) rfl
  have hFc := va_free (wc := (w4 aC aP pT pR pN pB bP bF bL bH aM aQ mS mR mT ro0 ro1 ro2 ro3 aK kQ kS kR kT ko0 ko1 ko2 ko3 aW pW pX cD cI cQ iw ih al ac de nb im ik iq tT tR tN uP uF uL uH e0 e1 e2 e3 qS qU qO ke0 ke1 ke2 ke3 ksq ksr kst tW tX)) hD hS hA [0, 1, 2, 3, 4, 5, 6, 7, 8, 9, 10, 11, 12, 13, 14, 15, 16, 17, 18, 19, 20, 21, 22, 23, 24, 25, 26, 27, 28, 29, 30] rfl
  refine zx_calliD hd0 (zx_runVD (As := [.double st, .double lo]) (rest := [.int (nI 0), .ref oL]) ⟨hx, hb, hml, hown, (dr_words hts s.drawn)⟩ (c4_thin l hst dC dI aC aP pT pR pN pB bP bF bL bH aM aQ mS mR mT ro0 ro1 ro2 ro3 aK kQ kS kR kT ko0 ko1 ko2 ko3 aW pW pX cD cI cQ iw ih al ac de nb im ik iq tT tR tN uP uF uL uH e0 e1 e2 e3 qS qU qO ke0 ke1 ke2 ke3 ksq ksr kst tW tX hw6 hh6 T gT bx0 by0 bx1 by1 bg hb12 hw2 gBr gB gG wn hq4 gW gw4 ws gX hG hOK st lo _) (cwV 2 (dr_words hts s.drawn) gL_thin_X4_thin rfl rfl rfl (by decide +kernel) ⟨(Nat.le_of_ble_eq_true rfl), (Nat.le_of_ble_eq_true rfl)⟩) ⟨zfbwX, va_recv hK3 hPc (ci := 4) (q0 := 0) rfl rfl, zprewX hPc hK3 hDc (by first | exact hN | exact hN.sd) (by first | exact hE | exact hE.sd) hS hFc⟩ rfl rfl hl.1 rfl (lv_room (Nat.le_of_ble_eq_true rfl)) dL_thin_6 ⟨(Nat.le_of_ble_eq_true rfl), (Nat.le_of_ble_eq_true rfl)⟩) hS (fun q _ h => hFc q h) hFc (fun q _ h => hFc q h) (fun E9 ce9 q9 u9 t9 H1 locs1 d1 hd1 ht9 hvm9 hpx hBX hz9 hk1 hS1 hce hcv hcl => ?_) (fun r9 u9 t9 H1 locs1 d1 hd1 ht9 hvm9 hpost hB9 hz9 hk1 hS1 => ?_)
  · skip
    have hS := hS1
    have hu9 : u9.1 = 1 ∨ u9.1 = 2 := by have h1 := hpx.1; have h2 := hpx.2; have h3 := zcTh_le (st := zv st) (lo := zv lo) (a := (zneed wn iq)) (b := zcnt iw ih T (zRB iw T (zv al) bx0 by0 bx1 bg nb) (zNB iw ih T (zv ac) bx0 by0 by1 bg nb) (zv de) (zneed wn iq)); omega
    obtain ⟨hE9, hP1, hK1, hD1⟩ := hBX
    rcases hu9 with hu9 | hu9
    · skip
      obtain rfl : E9 = zIA := by rw [hE9, hu9]; rfl
      refine vx_catch (own := RL) (name := zIA) (E := zIA) (ce := ce9) hown [] ⟨0, 11, 14, 15⟩ [⟨0, 11, 18, 25⟩] (by rw [htab]; rfl) (fun _ h => absurd h List.not_mem_nil) rfl (by decide) (dr_words hts d1 (.classLink RL 15 "java/lang/IllegalArgumentException") (by decide +kernel)) (va_Nw.use rfl (hE.sd.2.2.1 zIA (by decide))) hce hcv hcl ?_
      rw [ht9] at hP1
      obtain ⟨hP, hD⟩ := va_join (wr := [(oL, .inl (cL, 1, .inr (.inl ol)))]) (w1 := (w4 aC aP pT pR pN pB bP bF bL bH aM aQ mS mR mT ro0 ro1 ro2 ro3 aK kQ kS kR kT ko0 ko1 ko2 ko3 aW pW pX cD cI cQ iw ih al ac de nb im u9.2.2 iq tT u9.2.1.1 u9.2.1.2.1 uP uF uL uH e0 e1 e2 e3 qS qU qO u9.2.1.2.2.1 u9.2.1.2.2.2.1 u9.2.1.2.2.2.2.1 u9.2.1.2.2.2.2.2.1 u9.2.1.2.2.2.2.2.2.1 u9.2.1.2.2.2.2.2.2.2.1 u9.2.1.2.2.2.2.2.2.2.2 tW tX)) hP hD [0, 1, 2, 3, 4, 5, 6, 7, 8, 9, 10, 11, 12, 13, 14, 15, 16, 17, 18, 19, 20, 21, 22, 23, 24, 25, 26, 27, 28, 29, 30] [31] rfl rfl (by decide) (by decide) hk1 hFc hP1 hD1
      generalize H1 = H at hP hS ⊢
      have hP : va_P (dC, dI) vwCl (w4L oL aC aP pT pR pN pB bP bF bL bH aM aQ mS mR mT ro0 ro1 ro2 ro3 aK kQ kS kR kT ko0 ko1 ko2 ko3 aW pW pX cD cI cQ cL iw ih al ac de nb im u9.2.2 iq tT u9.2.1.1 u9.2.1.2.1 uP uF uL uH e0 e1 e2 e3 qS qU qO u9.2.1.2.2.1 u9.2.1.2.2.2.1 u9.2.1.2.2.2.2.1 u9.2.1.2.2.2.2.2.1 u9.2.1.2.2.2.2.2.2.1 u9.2.1.2.2.2.2.2.2.2.1 u9.2.1.2.2.2.2.2.2.2.2 tW tX ol) H := hP.sub (ws' := (w4L oL aC aP pT pR pN pB bP bF bL bH aM aQ mS mR mT ro0 ro1 ro2 ro3 aK kQ kS kR kT ko0 ko1 ko2 ko3 aW pW pX cD cI cQ cL iw ih al ac de nb im u9.2.2 iq tT u9.2.1.1 u9.2.1.2.1 uP uF uL uH e0 e1 e2 e3 qS qU qO u9.2.1.2.2.1 u9.2.1.2.2.2.1 u9.2.1.2.2.2.2.1 u9.2.1.2.2.2.2.2.1 u9.2.1.2.2.2.2.2.2.1 u9.2.1.2.2.2.2.2.2.2.1 u9.2.1.2.2.2.2.2.2.2.2 tW tX ol)) [1, 2, 3, 4, 5, 6, 7, 8, 9, 10, 11, 12, 13, 14, 15, 16, 17, 18, 19, 20, 21, 22, 23, 24, 25, 26, 27, 28, 29, 30, 31, 0] rfl
      have hD : va_D A (w4L oL aC aP pT pR pN pB bP bF bL bH aM aQ mS mR mT ro0 ro1 ro2 ro3 aK kQ kS kR kT ko0 ko1 ko2 ko3 aW pW pX cD cI cQ cL iw ih al ac de nb im u9.2.2 iq tT u9.2.1.1 u9.2.1.2.1 uP uF uL uH e0 e1 e2 e3 qS qU qO u9.2.1.2.2.1 u9.2.1.2.2.2.1 u9.2.1.2.2.2.2.1 u9.2.1.2.2.2.2.2.1 u9.2.1.2.2.2.2.2.2.1 u9.2.1.2.2.2.2.2.2.2.1 u9.2.1.2.2.2.2.2.2.2.2 tW tX ol) := hD.sub (ws' := (w4L oL aC aP pT pR pN pB bP bF bL bH aM aQ mS mR mT ro0 ro1 ro2 ro3 aK kQ kS kR kT ko0 ko1 ko2 ko3 aW pW pX cD cI cQ cL iw ih al ac de nb im u9.2.2 iq tT u9.2.1.1 u9.2.1.2.1 uP uF uL uH e0 e1 e2 e3 qS qU qO u9.2.1.2.2.1 u9.2.1.2.2.2.1 u9.2.1.2.2.2.2.1 u9.2.1.2.2.2.2.2.1 u9.2.1.2.2.2.2.2.2.1 u9.2.1.2.2.2.2.2.2.2.1 u9.2.1.2.2.2.2.2.2.2.2 tW tX ol)) [1, 2, 3, 4, 5, 6, 7, 8, 9, 10, 11, 12, 13, 14, 15, 16, 17, 18, 19, 20, 21, 22, 23, 24, 25, 26, 27, 28, 29, 30, 31, 0] (by decide) rfl
      refine lv_astore (lv' := [(6, .ref q9), (0, .ref aC), (1, .double st), (3, .double lo), (5, .ref oL)]) hx hb dL_thin_14 hl (by decide) rfl (fun ls hl => ?_)
      refine lv_iconst (v := (nI 1)) hx hb dL_thin_16 (by decide) ?_
      refine W.endD hd1 ?_
      refine W.widen (k := 3) (n := 18) (Nat.le_of_ble_eq_true rfl) (Nat.le_of_ble_eq_true rfl) ?_
      exact W.iret (v := (nI 1)) hx hb hr (fun t ht hW => ⟨⟨(nI 1), (tT, (u9.2.1.1, u9.2.1.2.1, e0, e1, e2, e3, qS, qU, qO), im, (u9.2.1.2.2.1, u9.2.1.2.2.2.1, u9.2.1.2.2.2.2.1, u9.2.1.2.2.2.2.2.1, u9.2.1.2.2.2.2.2.2.1, u9.2.1.2.2.2.2.2.2.2.1, u9.2.1.2.2.2.2.2.2.2.2), u9.2.2, ol), rfl, ⟨by rw [show (zcTh (zv st) (zv lo) (zneed wn iq) (zcnt iw ih T (zRB iw T (zv al) bx0 by0 bx1 bg nb) (zNB iw ih T (zv ac) bx0 by0 by1 bg nb) (zv de) (zneed wn iq))) = 1 from hpx.1.symm.trans hu9] <;> rfl, fun q => absurd (hpx.1.trans q) hpx.2, fun _ => ⟨rfl, rfl, rfl, rfl, rfl, rfl, rfl, rfl, rfl, rfl⟩⟩, by rw [ht]; exact hP, va_K.moved hW.alike hK, hD⟩, hS.F ht⟩) hS.2.2 dL_thin_17
    · skip
      obtain rfl : E9 = zIS := by rw [hE9, hu9]; rfl
      refine vx_catch (own := RL) (name := zIS) (E := zIS) (ce := ce9) hown [⟨0, 11, 14, 15⟩] ⟨0, 11, 18, 25⟩ [] (by rw [htab]; rfl) (List.forall_mem_cons.mpr ⟨Or.inr ⟨by decide, zIA, (dr_words hts d1 (.classLink RL 15 "java/lang/IllegalArgumentException") (by decide +kernel)), hXN.sd.2.2⟩, (fun _ h => absurd h List.not_mem_nil)⟩) rfl (by decide) (dr_words hts d1 (.classLink RL 25 "java/lang/IllegalStateException") (by decide +kernel)) (va_Nw.use rfl (hE.sd.2.2.1 zIS (by decide))) hce hcv hcl ?_
      rw [ht9] at hP1
      obtain ⟨hP, hD⟩ := va_join (wr := [(oL, .inl (cL, 1, .inr (.inl ol)))]) (w1 := (w4 aC aP pT pR pN pB bP bF bL bH aM aQ mS mR mT ro0 ro1 ro2 ro3 aK kQ kS kR kT ko0 ko1 ko2 ko3 aW pW pX cD cI cQ iw ih al ac de nb im u9.2.2 iq tT u9.2.1.1 u9.2.1.2.1 uP uF uL uH e0 e1 e2 e3 qS qU qO u9.2.1.2.2.1 u9.2.1.2.2.2.1 u9.2.1.2.2.2.2.1 u9.2.1.2.2.2.2.2.1 u9.2.1.2.2.2.2.2.2.1 u9.2.1.2.2.2.2.2.2.2.1 u9.2.1.2.2.2.2.2.2.2.2 tW tX)) hP hD [0, 1, 2, 3, 4, 5, 6, 7, 8, 9, 10, 11, 12, 13, 14, 15, 16, 17, 18, 19, 20, 21, 22, 23, 24, 25, 26, 27, 28, 29, 30] [31] rfl rfl (by decide) (by decide) hk1 hFc hP1 hD1
      generalize H1 = H at hP hS ⊢
      have hP : va_P (dC, dI) vwCl (w4L oL aC aP pT pR pN pB bP bF bL bH aM aQ mS mR mT ro0 ro1 ro2 ro3 aK kQ kS kR kT ko0 ko1 ko2 ko3 aW pW pX cD cI cQ cL iw ih al ac de nb im u9.2.2 iq tT u9.2.1.1 u9.2.1.2.1 uP uF uL uH e0 e1 e2 e3 qS qU qO u9.2.1.2.2.1 u9.2.1.2.2.2.1 u9.2.1.2.2.2.2.1 u9.2.1.2.2.2.2.2.1 u9.2.1.2.2.2.2.2.2.1 u9.2.1.2.2.2.2.2.2.2.1 u9.2.1.2.2.2.2.2.2.2.2 tW tX ol) H := hP.sub (ws' := (w4L oL aC aP pT pR pN pB bP bF bL bH aM aQ mS mR mT ro0 ro1 ro2 ro3 aK kQ kS kR kT ko0 ko1 ko2 ko3 aW pW pX cD cI cQ cL iw ih al ac de nb im u9.2.2 iq tT u9.2.1.1 u9.2.1.2.1 uP uF uL uH e0 e1 e2 e3 qS qU qO u9.2.1.2.2.1 u9.2.1.2.2.2.1 u9.2.1.2.2.2.2.1 u9.2.1.2.2.2.2.2.1 u9.2.1.2.2.2.2.2.2.1 u9.2.1.2.2.2.2.2.2.2.1 u9.2.1.2.2.2.2.2.2.2.2 tW tX ol)) [1, 2, 3, 4, 5, 6, 7, 8, 9, 10, 11, 12, 13, 14, 15, 16, 17, 18, 19, 20, 21, 22, 23, 24, 25, 26, 27, 28, 29, 30, 31, 0] rfl
      have hD : va_D A (w4L oL aC aP pT pR pN pB bP bF bL bH aM aQ mS mR mT ro0 ro1 ro2 ro3 aK kQ kS kR kT ko0 ko1 ko2 ko3 aW pW pX cD cI cQ cL iw ih al ac de nb im u9.2.2 iq tT u9.2.1.1 u9.2.1.2.1 uP uF uL uH e0 e1 e2 e3 qS qU qO u9.2.1.2.2.1 u9.2.1.2.2.2.1 u9.2.1.2.2.2.2.1 u9.2.1.2.2.2.2.2.1 u9.2.1.2.2.2.2.2.2.1 u9.2.1.2.2.2.2.2.2.2.1 u9.2.1.2.2.2.2.2.2.2.2 tW tX ol) := hD.sub (ws' := (w4L oL aC aP pT pR pN pB bP bF bL bH aM aQ mS mR mT ro0 ro1 ro2 ro3 aK kQ kS kR kT ko0 ko1 ko2 ko3 aW pW pX cD cI cQ cL iw ih al ac de nb im u9.2.2 iq tT u9.2.1.1 u9.2.1.2.1 uP uF uL uH e0 e1 e2 e3 qS qU qO u9.2.1.2.2.1 u9.2.1.2.2.2.1 u9.2.1.2.2.2.2.1 u9.2.1.2.2.2.2.2.1 u9.2.1.2.2.2.2.2.2.1 u9.2.1.2.2.2.2.2.2.2.1 u9.2.1.2.2.2.2.2.2.2.2 tW tX ol)) [1, 2, 3, 4, 5, 6, 7, 8, 9, 10, 11, 12, 13, 14, 15, 16, 17, 18, 19, 20, 21, 22, 23, 24, 25, 26, 27, 28, 29, 30, 31, 0] (by decide) rfl
      refine lv_astore (lv' := [(6, .ref q9), (0, .ref aC), (1, .double st), (3, .double lo), (5, .ref oL)]) hx hb dL_thin_18 hl (by decide) rfl (fun ls hl => ?_)
      refine lv_iconst (v := (nI 2)) hx hb dL_thin_20 (by decide) ?_
      refine W.endD hd1 ?_
      refine W.widen (k := 3) (n := 18) (Nat.le_of_ble_eq_true rfl) (Nat.le_of_ble_eq_true rfl) ?_
      exact W.iret (v := (nI 2)) hx hb hr (fun t ht hW => ⟨⟨(nI 2), (tT, (u9.2.1.1, u9.2.1.2.1, e0, e1, e2, e3, qS, qU, qO), im, (u9.2.1.2.2.1, u9.2.1.2.2.2.1, u9.2.1.2.2.2.2.1, u9.2.1.2.2.2.2.2.1, u9.2.1.2.2.2.2.2.2.1, u9.2.1.2.2.2.2.2.2.2.1, u9.2.1.2.2.2.2.2.2.2.2), u9.2.2, ol), rfl, ⟨by rw [show (zcTh (zv st) (zv lo) (zneed wn iq) (zcnt iw ih T (zRB iw T (zv al) bx0 by0 bx1 bg nb) (zNB iw ih T (zv ac) bx0 by0 by1 bg nb) (zv de) (zneed wn iq))) = 2 from hpx.1.symm.trans hu9] <;> rfl, fun q => absurd (hpx.1.trans q) hpx.2, fun _ => ⟨rfl, rfl, rfl, rfl, rfl, rfl, rfl, rfl, rfl, rfl⟩⟩, by rw [ht]; exact hP, va_K.moved hW.alike hK, hD⟩, hS.F ht⟩) hS.2.2 dL_thin_21
  · skip
    have hS := hS1
    obtain ⟨hP1, hK1, hD1⟩ := hB9
    rw [ht9] at hP1
    obtain ⟨hP, hD⟩ := va_join (wr := [(oL, .inl (cL, 1, .inr (.inl ol)))]) (w1 := (w4 aC aP pT pR pN pB bP bF bL bH aM aQ mS mR mT ro0 ro1 ro2 ro3 aK kQ kS kR kT ko0 ko1 ko2 ko3 aW pW pX cD cI cQ iw ih al ac de nb u9.2.2.1 u9.2.2.2.2 iq u9.1 u9.2.1.1 u9.2.1.2.1 uP uF uL uH u9.2.1.2.2.1 u9.2.1.2.2.2.1 u9.2.1.2.2.2.2.1 u9.2.1.2.2.2.2.2.1 u9.2.1.2.2.2.2.2.2.1 u9.2.1.2.2.2.2.2.2.2.1 u9.2.1.2.2.2.2.2.2.2.2 u9.2.2.2.1.1 u9.2.2.2.1.2.1 u9.2.2.2.1.2.2.1 u9.2.2.2.1.2.2.2.1 u9.2.2.2.1.2.2.2.2.1 u9.2.2.2.1.2.2.2.2.2.1 u9.2.2.2.1.2.2.2.2.2.2 tW tX)) hP hD [0, 1, 2, 3, 4, 5, 6, 7, 8, 9, 10, 11, 12, 13, 14, 15, 16, 17, 18, 19, 20, 21, 22, 23, 24, 25, 26, 27, 28, 29, 30] [31] rfl rfl (by decide) (by decide) hk1 hFc hP1 hD1
    generalize H1 = H at hP hS ⊢
    have hP : va_P (dC, dI) vwCl (w4L oL aC aP pT pR pN pB bP bF bL bH aM aQ mS mR mT ro0 ro1 ro2 ro3 aK kQ kS kR kT ko0 ko1 ko2 ko3 aW pW pX cD cI cQ cL iw ih al ac de nb u9.2.2.1 u9.2.2.2.2 iq u9.1 u9.2.1.1 u9.2.1.2.1 uP uF uL uH u9.2.1.2.2.1 u9.2.1.2.2.2.1 u9.2.1.2.2.2.2.1 u9.2.1.2.2.2.2.2.1 u9.2.1.2.2.2.2.2.2.1 u9.2.1.2.2.2.2.2.2.2.1 u9.2.1.2.2.2.2.2.2.2.2 u9.2.2.2.1.1 u9.2.2.2.1.2.1 u9.2.2.2.1.2.2.1 u9.2.2.2.1.2.2.2.1 u9.2.2.2.1.2.2.2.2.1 u9.2.2.2.1.2.2.2.2.2.1 u9.2.2.2.1.2.2.2.2.2.2 tW tX ol) H := hP.sub (ws' := (w4L oL aC aP pT pR pN pB bP bF bL bH aM aQ mS mR mT ro0 ro1 ro2 ro3 aK kQ kS kR kT ko0 ko1 ko2 ko3 aW pW pX cD cI cQ cL iw ih al ac de nb u9.2.2.1 u9.2.2.2.2 iq u9.1 u9.2.1.1 u9.2.1.2.1 uP uF uL uH u9.2.1.2.2.1 u9.2.1.2.2.2.1 u9.2.1.2.2.2.2.1 u9.2.1.2.2.2.2.2.1 u9.2.1.2.2.2.2.2.2.1 u9.2.1.2.2.2.2.2.2.2.1 u9.2.1.2.2.2.2.2.2.2.2 u9.2.2.2.1.1 u9.2.2.2.1.2.1 u9.2.2.2.1.2.2.1 u9.2.2.2.1.2.2.2.1 u9.2.2.2.1.2.2.2.2.1 u9.2.2.2.1.2.2.2.2.2.1 u9.2.2.2.1.2.2.2.2.2.2 tW tX ol)) [1, 2, 3, 4, 5, 6, 7, 8, 9, 10, 11, 12, 13, 14, 15, 16, 17, 18, 19, 20, 21, 22, 23, 24, 25, 26, 27, 28, 29, 30, 31, 0] rfl
    have hD : va_D A (w4L oL aC aP pT pR pN pB bP bF bL bH aM aQ mS mR mT ro0 ro1 ro2 ro3 aK kQ kS kR kT ko0 ko1 ko2 ko3 aW pW pX cD cI cQ cL iw ih al ac de nb u9.2.2.1 u9.2.2.2.2 iq u9.1 u9.2.1.1 u9.2.1.2.1 uP uF uL uH u9.2.1.2.2.1 u9.2.1.2.2.2.1 u9.2.1.2.2.2.2.1 u9.2.1.2.2.2.2.2.1 u9.2.1.2.2.2.2.2.2.1 u9.2.1.2.2.2.2.2.2.2.1 u9.2.1.2.2.2.2.2.2.2.2 u9.2.2.2.1.1 u9.2.2.2.1.2.1 u9.2.2.2.1.2.2.1 u9.2.2.2.1.2.2.2.1 u9.2.2.2.1.2.2.2.2.1 u9.2.2.2.1.2.2.2.2.2.1 u9.2.2.2.1.2.2.2.2.2.2 tW tX ol) := hD.sub (ws' := (w4L oL aC aP pT pR pN pB bP bF bL bH aM aQ mS mR mT ro0 ro1 ro2 ro3 aK kQ kS kR kT ko0 ko1 ko2 ko3 aW pW pX cD cI cQ cL iw ih al ac de nb u9.2.2.1 u9.2.2.2.2 iq u9.1 u9.2.1.1 u9.2.1.2.1 uP uF uL uH u9.2.1.2.2.1 u9.2.1.2.2.2.1 u9.2.1.2.2.2.2.1 u9.2.1.2.2.2.2.2.1 u9.2.1.2.2.2.2.2.2.1 u9.2.1.2.2.2.2.2.2.2.1 u9.2.1.2.2.2.2.2.2.2.2 u9.2.2.2.1.1 u9.2.2.2.1.2.1 u9.2.2.2.1.2.2.1 u9.2.2.2.1.2.2.2.1 u9.2.2.2.1.2.2.2.2.1 u9.2.2.2.1.2.2.2.2.2.1 u9.2.2.2.1.2.2.2.2.2.2 tW tX ol)) [1, 2, 3, 4, 5, 6, 7, 8, 9, 10, 11, 12, 13, 14, 15, 16, 17, 18, 19, 20, 21, 22, 23, 24, 25, 26, 27, 28, 29, 30, 31, 0] (by decide) rfl
    obtain ⟨hcode, hr9, hg9, ht9b, hm9, hq9⟩ := hpost
    subst hr9
    refine lv_i2l hx hb dL_thin_9 rfl ?_
    refine z_last (s := s.setDrawn d1) (n := 1) (i := 0) hx hb hK hP hD hS 31 3 rfl rfl (by decide) (by decide) dL_thin_10 (fun H locs hP hD hS => ?_)
    have hP : va_P (dC, dI) vwCl (w4L oL aC aP pT pR pN pB bP bF bL bH aM aQ mS mR mT ro0 ro1 ro2 ro3 aK kQ kS kR kT ko0 ko1 ko2 ko3 aW pW pX cD cI cQ cL iw ih al ac de nb u9.2.2.1 u9.2.2.2.2 iq u9.1 u9.2.1.1 u9.2.1.2.1 uP uF uL uH u9.2.1.2.2.1 u9.2.1.2.2.2.1 u9.2.1.2.2.2.2.1 u9.2.1.2.2.2.2.2.1 u9.2.1.2.2.2.2.2.2.1 u9.2.1.2.2.2.2.2.2.2.1 u9.2.1.2.2.2.2.2.2.2.2 u9.2.2.2.1.1 u9.2.2.2.1.2.1 u9.2.2.2.1.2.2.1 u9.2.2.2.1.2.2.2.1 u9.2.2.2.1.2.2.2.2.1 u9.2.2.2.1.2.2.2.2.2.1 u9.2.2.2.1.2.2.2.2.2.2 tW tX (zu ol 0 (((nI (((zthin (zCN iw ih (zv al) (zv ac) (zv de) bx0 by0 bx1 by1 bg nb (zneed wn iq)) (zTOc iw ih (zv al) (zv ac) (zv de) bx0 by0 bx1 by1 bg nb wn ws iq) (zneed wn iq) (zv st) (zv lo) T (iw * ih)).2.2)))).toInt64))) H := hP
    have hD : va_D A (w4L oL aC aP pT pR pN pB bP bF bL bH aM aQ mS mR mT ro0 ro1 ro2 ro3 aK kQ kS kR kT ko0 ko1 ko2 ko3 aW pW pX cD cI cQ cL iw ih al ac de nb u9.2.2.1 u9.2.2.2.2 iq u9.1 u9.2.1.1 u9.2.1.2.1 uP uF uL uH u9.2.1.2.2.1 u9.2.1.2.2.2.1 u9.2.1.2.2.2.2.1 u9.2.1.2.2.2.2.2.1 u9.2.1.2.2.2.2.2.2.1 u9.2.1.2.2.2.2.2.2.2.1 u9.2.1.2.2.2.2.2.2.2.2 u9.2.2.2.1.1 u9.2.2.2.1.2.1 u9.2.2.2.1.2.2.1 u9.2.2.2.1.2.2.2.1 u9.2.2.2.1.2.2.2.2.1 u9.2.2.2.1.2.2.2.2.2.1 u9.2.2.2.1.2.2.2.2.2.2 tW tX (zu ol 0 (((nI (((zthin (zCN iw ih (zv al) (zv ac) (zv de) bx0 by0 bx1 by1 bg nb (zneed wn iq)) (zTOc iw ih (zv al) (zv ac) (zv de) bx0 by0 bx1 by1 bg nb wn ws iq) (zneed wn iq) (zv st) (zv lo) T (iw * ih)).2.2)))).toInt64))) := hD
    refine lv_goto (tgt := 22) hx hb dL_thin_11 (by decide) ?_
    refine lv_iconst (v := (nI 0)) hx hb dL_thin_22 (by decide) ?_
    refine W.endD hd1 ?_
    refine W.widen (k := 3) (n := 18) (Nat.le_of_ble_eq_true rfl) (Nat.le_of_ble_eq_true rfl) ?_
    exact W.iret (v := (nI 0)) hx hb hr (fun t ht hW => ⟨⟨(nI 0), (u9.1, u9.2.1, u9.2.2.1, u9.2.2.2.1, u9.2.2.2.2, zu ol 0 (((nI (((zthin (zCN iw ih (zv al) (zv ac) (zv de) bx0 by0 bx1 by1 bg nb (zneed wn iq)) (zTOc iw ih (zv al) (zv ac) (zv de) bx0 by0 bx1 by1 bg nb wn ws iq) (zneed wn iq) (zv st) (zv lo) T (iw * ih)).2.2)))).toInt64)), rfl, ⟨by rw [hcode] <;> rfl, fun _ => ⟨rfl, hg9, ht9b, hm9, hq9⟩, fun q => absurd hcode q⟩, by rw [ht]; exact hP, va_K.moved hW.alike hK, hD⟩, hS.F ht⟩) hS.2.2 dL_thin_23
set_option maxHeartbeats 4000000 in
set_option maxRecDepth 100000 in
/-- mode: the helper -/
theorem cL_mode_c (l : Launch) (hst : l.stackTraces = false) (dC : Nat → ClassId) (dI : Nat → Nat → Nat) (aC aP pT pR pN pB bP bF bL bH aM aQ mS mR mT ro0 ro1 ro2 ro3 aK kQ kS kR kT ko0 ko1 ko2 ko3 aW pW pX : Nat) (cD cI cQ cL : ClassId) (iw ih : Nat) (al ac de : UInt64) (nb im ik iq : Nat) (tT tR tN : Nat → UInt64) (uP uF uL : Nat → Int32) (uH e0 e1 e2 e3 qS qU qO ke0 ke1 ke2 ke3 ksq ksr kst : Nat → UInt64) (tW : Nat → Int32) (tX : Nat → UInt64) (oD : Nat) (od : Nat → UInt64) (k what : Int32) (sz : Nat) : MetD lw_cs l yL_mode wsL_mode ({ frames := 8, cells := 3, slots := 18, locals := 133 } : Room) (va_Pc [.ref aC, .int k, .int what, .ref oD] (fun U => U.heap.size = sz ∧ va_P (dC, dI) vwCl (w4d oD aC aP pT pR pN pB bP bF bL bH aM aQ mS mR mT ro0 ro1 ro2 ro3 aK kQ kS kR kT ko0 ko1 ko2 ko3 aW pW pX cD cI cQ iw ih al ac de nb im ik iq tT tR tN uP uF uL uH e0 e1 e2 e3 qS qU qO ke0 ke1 ke2 ke3 ksq ksr kst tW tX od) U.heap ∧ va_K (dC, dI) vwCl [(cD, .double), (cI, .int), (cQ, .array .double), (cL, .long)] U ∧ zNw U ∧ zXE (va_A (w4d oD aC aP pT pR pN pB bP bF bL bH aM aQ mS mR mT ro0 ro1 ro2 ro3 aK kQ kS kR kT ko0 ko1 ko2 ko3 aW pW pX cD cI cQ iw ih al ac de nb im ik iq tT tR tN uP uF uL uH e0 e1 e2 e3 qS qU qO ke0 ke1 ke2 ke3 ksq ksr kst tW tX od) sz) U U.heap ∧ zXN U ∧ va_D (fun _ => True) (w4d oD aC aP pT pR pN pB bP bF bL bH aM aQ mS mR mT ro0 ro1 ro2 ro3 aK kQ kS kR kT ko0 ko1 ko2 ko3 aW pW pX cD cI cQ iw ih al ac de nb im ik iq tT tR tN uP uF uL uH e0 e1 e2 e3 qS qU qO ke0 ke1 ke2 ke3 ksq ksr kst tW tX od))) (va_Qi (fun (r : Int32) (u : Nat → UInt64) => r = nI (zckM (decide (¬ znmd k ∧ ¬ what < 0 ∧ ¬ nI 2 < what)) im k) ∧ (zckM (decide (¬ znmd k ∧ ¬ what < 0 ∧ ¬ nI 2 < what)) im k = 0 → u 0 = if what = 0 then qS (zn k) else if what = nI 1 then qU (zn k) else qO (zn k)) ∧ (¬ zckM (decide (¬ znmd k ∧ ¬ what < 0 ∧ ¬ nI 2 < what)) im k = 0 → u = od)) (fun u t => (va_P (dC, dI) vwCl (w4d oD aC aP pT pR pN pB bP bF bL bH aM aQ mS mR mT ro0 ro1 ro2 ro3 aK kQ kS kR kT ko0 ko1 ko2 ko3 aW pW pX cD cI cQ iw ih al ac de nb im ik iq tT tR tN uP uF uL uH e0 e1 e2 e3 qS qU qO ke0 ke1 ke2 ke3 ksq ksr kst tW tX u) t.heap ∧ va_K (dC, dI) vwCl [(cD, .double), (cI, .int), (cQ, .array .double), (cL, .long)] t ∧ va_D (va_A (w4d oD aC aP pT pR pN pB bP bF bL bH aM aQ mS mR mT ro0 ro1 ro2 ro3 aK kQ kS kR kT ko0 ko1 ko2 ko3 aW pW pX cD cI cQ iw ih al ac de nb im ik iq tT tR tN uP uF uL uH e0 e1 e2 e3 qS qU qO ke0 ke1 ke2 ke3 ksq ksr kst tW tX od) sz) (w4d oD aC aP pT pR pN pB bP bF bL bH aM aQ mS mR mT ro0 ro1 ro2 ro3 aK kQ kS kR kT ko0 ko1 ko2 ko3 aW pW pX cD cI cQ iw ih al ac de nb im ik iq tT tR tN uP uF uL uH e0 e1 e2 e3 qS qU qO ke0 ke1 ke2 ke3 ksq ksr kst tW tX u))) (va_A (w4d oD aC aP pT pR pN pB bP bF bL bH aM aQ mS mR mT ro0 ro1 ro2 ro3 aK kQ kS kR kT ko0 ko1 ko2 ko3 aW pW pX cD cI cQ iw ih al ac de nb im ik iq tT tR tN uP uF uL uH e0 e1 e2 e3 qS qU qO ke0 ke1 ke2 ke3 ksq ksr kst tW tX od) sz)) 3 18 (va_A (w4d oD aC aP pT pR pN pB bP bF bL bH aM aQ mS mR mT ro0 ro1 ro2 ro3 aK kQ kS kR kT ko0 ko1 ko2 ko3 aW pW pX cD cI cQ iw ih al ac de nb im ik iq tT tR tN uP uF uL uH e0 e1 e2 e3 qS qU qO ke0 ke1 ke2 ke3 ksq ksr kst tW tX od) sz) := by
  refine zy_ofWHD (cc := cL_mode) (maxL := 5) (ret := (some .int)) (hh := [(0, 9, 12, 13), (0, 9, 16, 25)]) (by decide) rfl ?_
  intro p e s m args below meth c s₁ B hml htab hv hd0
  obtain ⟨rfl, hsz, hP, hK, hN, hE, hXN, hD0⟩ := hv
  have hx := B.exec
  have hb := B.bytes
  have hr := B.returns
  have hts := atoms_spec (ws := wsL_mode) B.pre
  have hown : s.vm.findClass RL = some m.cls := findClass_of_methodNamed B.named
  have hlocks := B.notSynchronized
  subst hsz
  have hD := hD0.self (sz := s.heap.size)
  generalize hAe : va_A (w4d oD aC aP pT pR pN pB bP bF bL bH aM aQ mS mR mT ro0 ro1 ro2 ro3 aK kQ kS kR kT ko0 ko1 ko2 ko3 aW pW pX cD cI cQ iw ih al ac de nb im ik iq tT tR tN uP uF uL uH e0 e1 e2 e3 qS qU qO ke0 ke1 ke2 ke3 ksq ksr kst tW tX od) s.heap.size = A at hD hE ⊢
  have hA : ∀ q : Nat, s.heap.size ≤ q → A q := fun q h => by rw [← hAe]; exact Or.inr h
  have hS : va_S A s.heap s.heap [] := va_S.rf
  have hl := lv_entry ([.ref aC, .int k, .int what, .ref oD]) (n := 5) (Nat.le_of_ble_eq_true rfl)
  rw [lg_entry_eq]
  generalize (lg_sl ([.ref aC, .int k, .int what, .ref oD]) ++ List.replicate (5 - (lg_sl ([.ref aC, .int k, .int what, .ref oD])).length) Slot.unset).toArray = ls at hl ⊢
  have hl : lv_has ls 5 [(0, .ref aC), (1, .int k), (2, .int what), (3, .ref oD)] := hl
  refine lv_aload_n hx hb dL_mode_0 rfl (lv_at hl 3 rfl) ?_
  refine lv_iconst (v := (nI 0)) hx hb dL_mode_1 (by decide) ?_
  refine lv_aload_n hx hb dL_mode_2 rfl (lv_at hl 0 rfl) ?_
  refine lv_iload_n hx hb dL_mode_3 rfl (lv_at hl 1 rfl) ?_
  refine lv_iload_n hx hb dL_mode_4 rfl (lv_at hl 2 rfl) ?_
  have hPc := hP.sub (ws' := (w4 aC aP pT pR pN pB bP bF bL bH aM aQ mS mR mT ro0 ro1 ro2 ro3 aK kQ kS kR kT ko0 ko1 ko2 ko3 aW pW pX cD cI cQ iw ih al ac de nb im ik iq tT tR tN uP uF uL uH e0 e1 e2 e3 qS qU qO ke0 ke1 ke2 ke3 ksq ksr kst tW tX)) [0, 1, 2, 3, 4, 5, 6, 7, 8, 9, 10, 11, 12, 13, 14, 15, 16, 17, 18, 19, 20, 21, 22, 23, 24, 25, 26, 27, 28, 29, 30] rfl
  have hK3 := hK.sub (tys' := [(cD, .double), (cI, .int), (cQ, .array .double)]) [0, 1, 2] rfl
  refine vx_calld (vx_runV (As := [.int k, .int what]) (rest := [.int (nI 0), .ref oD]) ⟨hx, hb, hml, hown, (dr_words hts s.drawn)⟩ (c4_mode l hst dC dI aC aP pT pR pN pB bP bF bL bH aM aQ mS mR mT ro0 ro1 ro2 ro3 aK kQ kS kR kT ko0 ko1 ko2 ko3 aW pW pX cD cI cQ iw ih al ac de nb im ik iq tT tR tN uP uF uL uH e0 e1 e2 e3 qS qU qO ke0 ke1 ke2 ke3 ksq ksr kst tW tX k what) (cwV 2 (dr_words hts s.drawn) gL_mode_X4_mode rfl rfl rfl (by decide +kernel) ⟨(Nat.le_of_ble_eq_true rfl), (Nat.le_of_ble_eq_true rfl)⟩) ⟨zfbX, va_recv hK3 hPc (ci := 4) (q0 := 0) rfl rfl, zpreX hPc hK3 (by first | exact hN | exact hN.sd) (by first | exact hE | exact hE.sd) hS⟩ rfl rfl hl.1 rfl (lv_room (Nat.le_of_ble_eq_true rfl)) dL_mode_5 ⟨(Nat.le_of_ble_eq_true rfl), (Nat.le_of_ble_eq_true rfl)⟩) hS (fun q _ h => h.elim) (fun q h => h.elim) (fun q _ h => h.elim) (fun E9 ce9 q9 u9 t9 H1 locs1 ht9 hvm9 hpx hBX hz9 hk1 hS1 hce hcv hcl => ?_) (fun r9 u9 t9 H1 locs1 ht9 hvm9 hpost hB9 hz9 hk1 hS1 => ?_)
  · skip
    have hS := hS1
    have hu9 : u9 = 1 ∨ u9 = 2 := by have h1 := hpx.1; have h2 := hpx.2; have h3 := zckM_le (decide (¬ znmd k ∧ ¬ what < 0 ∧ ¬ nI 2 < what)) im k; omega
    have hE9 := hBX
    rcases hu9 with hu9 | hu9
    · skip
      obtain rfl : E9 = zIO := by rw [hE9, hu9]; rfl
      refine vx_catch (own := RL) (name := zIO) (E := zIO) (ce := ce9) hown [] ⟨0, 9, 12, 13⟩ [⟨0, 9, 16, 25⟩] (by rw [htab]; rfl) (fun _ h => absurd h List.not_mem_nil) rfl (by decide) (dr_words hts s.drawn (.classLink RL 13 "java/lang/IndexOutOfBoundsException") (by decide +kernel)) (va_Nw.use rfl (hE.sd.2.2.1 zIO (by decide))) hce hcv hcl ?_
      have hP := zro1 hP hk1
      generalize H1 = H at hP hS ⊢
      refine lv_astore (lv' := [(4, .ref q9), (0, .ref aC), (1, .int k), (2, .int what), (3, .ref oD)]) hx hb dL_mode_12 hl (by decide) rfl (fun ls hl => ?_)
      refine lv_iconst (v := (nI 1)) hx hb dL_mode_14 (by decide) ?_
      refine W.endD hd0 ?_
      refine W.widen (k := 3) (n := 18) (Nat.le_of_ble_eq_true rfl) (Nat.le_of_ble_eq_true rfl) ?_
      exact W.iret (v := (nI 1)) hx hb hr (fun t ht hW => ⟨⟨(nI 1), od, rfl, ⟨by rw [show (zckM (decide (¬ znmd k ∧ ¬ what < 0 ∧ ¬ nI 2 < what)) im k) = 1 from hpx.1.symm.trans hu9] <;> rfl, fun q => absurd (hpx.1.trans q) hpx.2, fun _ => rfl⟩, by rw [ht]; exact hP, va_K.moved hW.alike hK, hD⟩, hS.F ht⟩) hS.2.2 dL_mode_15
    · skip
      obtain rfl : E9 = zIS := by rw [hE9, hu9]; rfl
      refine vx_catch (own := RL) (name := zIS) (E := zIS) (ce := ce9) hown [⟨0, 9, 12, 13⟩] ⟨0, 9, 16, 25⟩ [] (by rw [htab]; rfl) (List.forall_mem_cons.mpr ⟨Or.inr ⟨by decide, zIO, (dr_words hts s.drawn (.classLink RL 13 "java/lang/IndexOutOfBoundsException") (by decide +kernel)), hXN.sd.2.1⟩, (fun _ h => absurd h List.not_mem_nil)⟩) rfl (by decide) (dr_words hts s.drawn (.classLink RL 25 "java/lang/IllegalStateException") (by decide +kernel)) (va_Nw.use rfl (hE.sd.2.2.1 zIS (by decide))) hce hcv hcl ?_
      have hP := zro1 hP hk1
      generalize H1 = H at hP hS ⊢
      refine lv_astore (lv' := [(4, .ref q9), (0, .ref aC), (1, .int k), (2, .int what), (3, .ref oD)]) hx hb dL_mode_16 hl (by decide) rfl (fun ls hl => ?_)
      refine lv_iconst (v := (nI 2)) hx hb dL_mode_18 (by decide) ?_
      refine W.endD hd0 ?_
      refine W.widen (k := 3) (n := 18) (Nat.le_of_ble_eq_true rfl) (Nat.le_of_ble_eq_true rfl) ?_
      exact W.iret (v := (nI 2)) hx hb hr (fun t ht hW => ⟨⟨(nI 2), od, rfl, ⟨by rw [show (zckM (decide (¬ znmd k ∧ ¬ what < 0 ∧ ¬ nI 2 < what)) im k) = 2 from hpx.1.symm.trans hu9] <;> rfl, fun q => absurd (hpx.1.trans q) hpx.2, fun _ => rfl⟩, by rw [ht]; exact hP, va_K.moved hW.alike hK, hD⟩, hS.F ht⟩) hS.2.2 dL_mode_19
  · skip
    have hS := hS1
    have hP := zro1 hP hk1
    generalize H1 = H at hP hS ⊢
    obtain ⟨hcode, hr9⟩ := hpost
    refine z_dast (s := s.setDrawn s.drawn) (n := 1) (i := 0) hx hb hK hP hD hS 31 0 rfl rfl (by decide) (by decide) dL_mode_8 (fun H locs hP hD hS => ?_)
    have hP : va_P (dC, dI) vwCl (w4d oD aC aP pT pR pN pB bP bF bL bH aM aQ mS mR mT ro0 ro1 ro2 ro3 aK kQ kS kR kT ko0 ko1 ko2 ko3 aW pW pX cD cI cQ iw ih al ac de nb im ik iq tT tR tN uP uF uL uH e0 e1 e2 e3 qS qU qO ke0 ke1 ke2 ke3 ksq ksr kst tW tX (zu od 0 r9)) H := hP
    have hD : va_D A (w4d oD aC aP pT pR pN pB bP bF bL bH aM aQ mS mR mT ro0 ro1 ro2 ro3 aK kQ kS kR kT ko0 ko1 ko2 ko3 aW pW pX cD cI cQ iw ih al ac de nb im ik iq tT tR tN uP uF uL uH e0 e1 e2 e3 qS qU qO ke0 ke1 ke2 ke3 ksq ksr kst tW tX (zu od 0 r9)) := hD
    refine lv_goto (tgt := 20) hx hb dL_mode_9 (by decide) ?_
    refine lv_iconst (v := (nI 0)) hx hb dL_mode_20 (by decide) ?_
    refine W.endD hd0 ?_
    refine W.widen (k := 3) (n := 18) (Nat.le_of_ble_eq_true rfl) (Nat.le_of_ble_eq_true rfl) ?_
    exact W.iret (v := (nI 0)) hx hb hr (fun t ht hW => ⟨⟨(nI 0), zu od 0 r9, rfl, ⟨by rw [hcode] <;> rfl, fun _ => by rw [zu_s]; exact hr9, fun q => absurd hcode q⟩, by rw [ht]; exact hP, va_K.moved hW.alike hK, hD⟩, hS.F ht⟩) hS.2.2 dL_mode_21
set_option maxHeartbeats 4000000 in
set_option maxRecDepth 100000 in
/-- shape: the helper -/
theorem cL_shape_c (l : Launch) (hst : l.stackTraces = false) (dC : Nat → ClassId) (dI : Nat → Nat → Nat) (aC aP pT pR pN pB bP bF bL bH aM aQ mS mR mT ro0 ro1 ro2 ro3 aK kQ kS kR kT ko0 ko1 ko2 ko3 aW pW pX : Nat) (cD cI cQ cL : ClassId) (iw ih : Nat) (al ac de : UInt64) (nb im ik iq : Nat) (tT tR tN : Nat → UInt64) (uP uF uL : Nat → Int32) (uH e0 e1 e2 e3 qS qU qO ke0 ke1 ke2 ke3 ksq ksr kst : Nat → UInt64) (tW : Nat → Int32) (tX : Nat → UInt64) (oD : Nat) (od : Nat → UInt64) (hw6 : iw ≤ 6) (hh6 : ih ≤ 6) (k x y : Int32) (sz : Nat) : MetD lw_cs l yL_shape wsL_shape ({ frames := 8, cells := 3, slots := 18, locals := 135 } : Room) (va_Pc [.ref aC, .int k, .int x, .int y, .ref oD] (fun U => U.heap.size = sz ∧ va_P (dC, dI) vwCl (w4d oD aC aP pT pR pN pB bP bF bL bH aM aQ mS mR mT ro0 ro1 ro2 ro3 aK kQ kS kR kT ko0 ko1 ko2 ko3 aW pW pX cD cI cQ iw ih al ac de nb im ik iq tT tR tN uP uF uL uH e0 e1 e2 e3 qS qU qO ke0 ke1 ke2 ke3 ksq ksr kst tW tX od) U.heap ∧ va_K (dC, dI) vwCl [(cD, .double), (cI, .int), (cQ, .array .double), (cL, .long)] U ∧ zNw U ∧ zXE (va_A (w4d oD aC aP pT pR pN pB bP bF bL bH aM aQ mS mR mT ro0 ro1 ro2 ro3 aK kQ kS kR kT ko0 ko1 ko2 ko3 aW pW pX cD cI cQ iw ih al ac de nb im ik iq tT tR tN uP uF uL uH e0 e1 e2 e3 qS qU qO ke0 ke1 ke2 ke3 ksq ksr kst tW tX od) sz) U U.heap ∧ zXN U ∧ va_D (fun _ => True) (w4d oD aC aP pT pR pN pB bP bF bL bH aM aQ mS mR mT ro0 ro1 ro2 ro3 aK kQ kS kR kT ko0 ko1 ko2 ko3 aW pW pX cD cI cQ iw ih al ac de nb im ik iq tT tR tN uP uF uL uH e0 e1 e2 e3 qS qU qO ke0 ke1 ke2 ke3 ksq ksr kst tW tX od))) (va_Qi (fun (r : Int32) (u : Nat → UInt64) => r = nI (zckM (decide (¬ znmd k ∧ ¬ zncl iw ih x y)) im k) ∧ (zckM (decide (¬ znmd k ∧ ¬ zncl iw ih x y)) im k = 0 → u 0 = z4 e0 e1 e2 e3 (zn k) (zn y * iw + zn x)) ∧ (¬ zckM (decide (¬ znmd k ∧ ¬ zncl iw ih x y)) im k = 0 → u = od)) (fun u t => (va_P (dC, dI) vwCl (w4d oD aC aP pT pR pN pB bP bF bL bH aM aQ mS mR mT ro0 ro1 ro2 ro3 aK kQ kS kR kT ko0 ko1 ko2 ko3 aW pW pX cD cI cQ iw ih al ac de nb im ik iq tT tR tN uP uF uL uH e0 e1 e2 e3 qS qU qO ke0 ke1 ke2 ke3 ksq ksr kst tW tX u) t.heap ∧ va_K (dC, dI) vwCl [(cD, .double), (cI, .int), (cQ, .array .double), (cL, .long)] t ∧ va_D (va_A (w4d oD aC aP pT pR pN pB bP bF bL bH aM aQ mS mR mT ro0 ro1 ro2 ro3 aK kQ kS kR kT ko0 ko1 ko2 ko3 aW pW pX cD cI cQ iw ih al ac de nb im ik iq tT tR tN uP uF uL uH e0 e1 e2 e3 qS qU qO ke0 ke1 ke2 ke3 ksq ksr kst tW tX od) sz) (w4d oD aC aP pT pR pN pB bP bF bL bH aM aQ mS mR mT ro0 ro1 ro2 ro3 aK kQ kS kR kT ko0 ko1 ko2 ko3 aW pW pX cD cI cQ iw ih al ac de nb im ik iq tT tR tN uP uF uL uH e0 e1 e2 e3 qS qU qO ke0 ke1 ke2 ke3 ksq ksr kst tW tX u))) (va_A (w4d oD aC aP pT pR pN pB bP bF bL bH aM aQ mS mR mT ro0 ro1 ro2 ro3 aK kQ kS kR kT ko0 ko1 ko2 ko3 aW pW pX cD cI cQ iw ih al ac de nb im ik iq tT tR tN uP uF uL uH e0 e1 e2 e3 qS qU qO ke0 ke1 ke2 ke3 ksq ksr kst tW tX od) sz)) 3 18 (va_A (w4d oD aC aP pT pR pN pB bP bF bL bH aM aQ mS mR mT ro0 ro1 ro2 ro3 aK kQ kS kR kT ko0 ko1 ko2 ko3 aW pW pX cD cI cQ iw ih al ac de nb im ik iq tT tR tN uP uF uL uH e0 e1 e2 e3 qS qU qO ke0 ke1 ke2 ke3 ksq ksr kst tW tX od) sz) := by
  refine zy_ofWHD (cc := cL_shape) (maxL := 6) (ret := (some .int)) (hh := [(0, 11, 14, 13), (0, 11, 18, 25)]) (by decide) rfl ?_
  intro p e s m args below meth c s₁ B hml htab hv hd0
  obtain ⟨rfl, hsz, hP, hK, hN, hE, hXN, hD0⟩ := hv
  have hx := B.exec
  have hb := B.bytes
  have hr := B.returns
  have hts := atoms_spec (ws := wsL_shape) B.pre
  have hown : s.vm.findClass RL = some m.cls := findClass_of_methodNamed B.named
  have hlocks := B.notSynchronized
  subst hsz
  have hD := hD0.self (sz := s.heap.size)
  generalize hAe : va_A (w4d oD aC aP pT pR pN pB bP bF bL bH aM aQ mS mR mT ro0 ro1 ro2 ro3 aK kQ kS kR kT ko0 ko1 ko2 ko3 aW pW pX cD cI cQ iw ih al ac de nb im ik iq tT tR tN uP uF uL uH e0 e1 e2 e3 qS qU qO ke0 ke1 ke2 ke3 ksq ksr kst tW tX od) s.heap.size = A at hD hE ⊢
  have hA : ∀ q : Nat, s.heap.size ≤ q → A q := fun q h => by rw [← hAe]; exact Or.inr h
  have hS : va_S A s.heap s.heap [] := va_S.rf
  have hl := lv_entry ([.ref aC, .int k, .int x, .int y, .ref oD]) (n := 6) (Nat.le_of_ble_eq_true rfl)
  rw [lg_entry_eq]
  generalize (lg_sl ([.ref aC, .int k, .int x, .int y, .ref oD]) ++ List.replicate (6 - (lg_sl ([.ref aC, .int k, .int x, .int y, .ref oD])).length) Slot.unset).toArray = ls at hl ⊢
  have hl : lv_has ls 6 [(0, .ref aC), (1, .int k), (2, .int x), (3, .int y), (4, .ref oD)] := hl
  have hn36 : iw * ih ≤ 36 := Nat.mul_le_mul hw6 hh6
  refine lv_aload hx hb dL_shape_0 (lv_at hl 4 rfl) ?_
  refine lv_iconst (v := (nI 0)) hx hb dL_shape_2 (by decide) ?_
  refine lv_aload_n hx hb dL_shape_3 rfl (lv_at hl 0 rfl) ?_
  refine lv_iload_n hx hb dL_shape_4 rfl (lv_at hl 1 rfl) ?_
  refine lv_iload_n hx hb dL_shape_5 rfl (lv_at hl 2 rfl) ?_
  refine lv_iload_n hx hb dL_shape_6 rfl (lv_at hl 3 rfl) ?_
  have hPc := hP.sub (ws' := (w4 aC aP pT pR pN pB bP bF bL bH aM aQ mS mR mT ro0 ro1 ro2 ro3 aK kQ kS kR kT ko0 ko1 ko2 ko3 aW pW pX cD cI cQ iw ih al ac de nb im ik iq tT tR tN uP uF uL uH e0 e1 e2 e3 qS qU qO ke0 ke1 ke2 ke3 ksq ksr kst tW tX)) [0, 1, 2, 3, 4, 5, 6, 7, 8, 9, 10, 11, 12, 13, 14, 15, 16, 17, 18, 19, 20, 21, 22, 23, 24, 25, 26, 27, 28, 29, 30] rfl
  have hK3 := hK.sub (tys' := [(cD, .double), (cI, .int), (cQ, .array .double)]) [0, 1, 2] rfl
  refine vx_calld (vx_runV (As := [.int k, .int x, .int y]) (rest := [.int (nI 0), .ref oD]) ⟨hx, hb, hml, hown, (dr_words hts s.drawn)⟩ (c4_shape l hst dC dI aC aP pT pR pN pB bP bF bL bH aM aQ mS mR mT ro0 ro1 ro2 ro3 aK kQ kS kR kT ko0 ko1 ko2 ko3 aW pW pX cD cI cQ iw ih al ac de nb im ik iq tT tR tN uP uF uL uH e0 e1 e2 e3 qS qU qO ke0 ke1 ke2 ke3 ksq ksr kst tW tX hw6 hh6 k x y) (cwV 3 (dr_words hts s.drawn) gL_shape_X4_shape rfl rfl rfl (by decide +kernel) ⟨(Nat.le_of_ble_eq_true rfl), (Nat.le_of_ble_eq_true rfl)⟩) ⟨zfbX, va_recv hK3 hPc (ci := 4) (q0 := 0) rfl rfl, zpreX hPc hK3 (by first | exact hN | exact hN.sd) (by first | exact hE | exact hE.sd) hS⟩ rfl rfl hl.1 rfl (lv_room (Nat.le_of_ble_eq_true rfl)) dL_shape_7 ⟨(Nat.le_of_ble_eq_true rfl), (Nat.le_of_ble_eq_true rfl)⟩) hS (fun q _ h => h.elim) (fun q h => h.elim) (fun q _ h => h.elim) (fun E9 ce9 q9 u9 t9 H1 locs1 ht9 hvm9 hpx hBX hz9 hk1 hS1 hce hcv hcl => ?_) (fun r9 u9 t9 H1 locs1 ht9 hvm9 hpost hB9 hz9 hk1 hS1 => ?_)
  · skip
    have hS := hS1
    have hu9 : u9 = 1 ∨ u9 = 2 := by have h1 := hpx.1; have h2 := hpx.2; have h3 := zckM_le (decide (¬ znmd k ∧ ¬ zncl iw ih x y)) im k; omega
    have hE9 := hBX
    rcases hu9 with hu9 | hu9
    · skip
      obtain rfl : E9 = zIO := by rw [hE9, hu9]; rfl
      refine vx_catch (own := RL) (name := zIO) (E := zIO) (ce := ce9) hown [] ⟨0, 11, 14, 13⟩ [⟨0, 11, 18, 25⟩] (by rw [htab]; rfl) (fun _ h => absurd h List.not_mem_nil) rfl (by decide) (dr_words hts s.drawn (.classLink RL 13 "java/lang/IndexOutOfBoundsException") (by decide +kernel)) (va_Nw.use rfl (hE.sd.2.2.1 zIO (by decide))) hce hcv hcl ?_
      have hP := zro1 hP hk1
      generalize H1 = H at hP hS ⊢
      refine lv_astore (lv' := [(5, .ref q9), (0, .ref aC), (1, .int k), (2, .int x), (3, .int y), (4, .ref oD)]) hx hb dL_shape_14 hl (by decide) rfl (fun ls hl => ?_)
      refine lv_iconst (v := (nI 1)) hx hb dL_shape_16 (by decide) ?_
      refine W.endD hd0 ?_
      refine W.widen (k := 3) (n := 18) (Nat.le_of_ble_eq_true rfl) (Nat.le_of_ble_eq_true rfl) ?_
      exact W.iret (v := (nI 1)) hx hb hr (fun t ht hW => ⟨⟨(nI 1), od, rfl, ⟨by rw [show (zckM (decide (¬ znmd k ∧ ¬ zncl iw ih x y)) im k) = 1 from hpx.1.symm.trans hu9] <;> rfl, fun q => absurd (hpx.1.trans q) hpx.2, fun _ => rfl⟩, by rw [ht]; exact hP, va_K.moved hW.alike hK, hD⟩, hS.F ht⟩) hS.2.2 dL_shape_17
    · skip
      obtain rfl : E9 = zIS := by rw [hE9, hu9]; rfl
      refine vx_catch (own := RL) (name := zIS) (E := zIS) (ce := ce9) hown [⟨0, 11, 14, 13⟩] ⟨0, 11, 18, 25⟩ [] (by rw [htab]; rfl) (List.forall_mem_cons.mpr ⟨Or.inr ⟨by decide, zIO, (dr_words hts s.drawn (.classLink RL 13 "java/lang/IndexOutOfBoundsException") (by decide +kernel)), hXN.sd.2.1⟩, (fun _ h => absurd h List.not_mem_nil)⟩) rfl (by decide) (dr_words hts s.drawn (.classLink RL 25 "java/lang/IllegalStateException") (by decide +kernel)) (va_Nw.use rfl (hE.sd.2.2.1 zIS (by decide))) hce hcv hcl ?_
      have hP := zro1 hP hk1
      generalize H1 = H at hP hS ⊢
      refine lv_astore (lv' := [(5, .ref q9), (0, .ref aC), (1, .int k), (2, .int x), (3, .int y), (4, .ref oD)]) hx hb dL_shape_18 hl (by decide) rfl (fun ls hl => ?_)
      refine lv_iconst (v := (nI 2)) hx hb dL_shape_20 (by decide) ?_
      refine W.endD hd0 ?_
      refine W.widen (k := 3) (n := 18) (Nat.le_of_ble_eq_true rfl) (Nat.le_of_ble_eq_true rfl) ?_
      exact W.iret (v := (nI 2)) hx hb hr (fun t ht hW => ⟨⟨(nI 2), od, rfl, ⟨by rw [show (zckM (decide (¬ znmd k ∧ ¬ zncl iw ih x y)) im k) = 2 from hpx.1.symm.trans hu9] <;> rfl, fun q => absurd (hpx.1.trans q) hpx.2, fun _ => rfl⟩, by rw [ht]; exact hP, va_K.moved hW.alike hK, hD⟩, hS.F ht⟩) hS.2.2 dL_shape_21
  · skip
    have hS := hS1
    have hP := zro1 hP hk1
    generalize H1 = H at hP hS ⊢
    obtain ⟨hcode, hr9⟩ := hpost
    refine z_dast (s := s.setDrawn s.drawn) (n := 1) (i := 0) hx hb hK hP hD hS 31 0 rfl rfl (by decide) (by decide) dL_shape_10 (fun H locs hP hD hS => ?_)
    have hP : va_P (dC, dI) vwCl (w4d oD aC aP pT pR pN pB bP bF bL bH aM aQ mS mR mT ro0 ro1 ro2 ro3 aK kQ kS kR kT ko0 ko1 ko2 ko3 aW pW pX cD cI cQ iw ih al ac de nb im ik iq tT tR tN uP uF uL uH e0 e1 e2 e3 qS qU qO ke0 ke1 ke2 ke3 ksq ksr kst tW tX (zu od 0 r9)) H := hP
    have hD : va_D A (w4d oD aC aP pT pR pN pB bP bF bL bH aM aQ mS mR mT ro0 ro1 ro2 ro3 aK kQ kS kR kT ko0 ko1 ko2 ko3 aW pW pX cD cI cQ iw ih al ac de nb im ik iq tT tR tN uP uF uL uH e0 e1 e2 e3 qS qU qO ke0 ke1 ke2 ke3 ksq ksr kst tW tX (zu od 0 r9)) := hD
    refine lv_goto (tgt := 22) hx hb dL_shape_11 (by decide) ?_
    refine lv_iconst (v := (nI 0)) hx hb dL_shape_22 (by decide) ?_
    refine W.endD hd0 ?_
    refine W.widen (k := 3) (n := 18) (Nat.le_of_ble_eq_true rfl) (Nat.le_of_ble_eq_true rfl) ?_
    exact W.iret (v := (nI 0)) hx hb hr (fun t ht hW => ⟨⟨(nI 0), zu od 0 r9, rfl, ⟨by rw [hcode] <;> rfl, fun _ => by rw [zu_s]; exact hr9, fun q => absurd hcode q⟩, by rw [ht]; exact hP, va_K.moved hW.alike hK, hD⟩, hS.F ht⟩) hS.2.2 dL_shape_23
set_option maxHeartbeats 4000000 in
set_option maxRecDepth 100000 in
/-- product: the helper -/
theorem cL_product_c (l : Launch) (hst : l.stackTraces = false) (dC : Nat → ClassId) (dI : Nat → Nat → Nat) (aC aP pT pR pN pB bP bF bL bH aM aQ mS mR mT ro0 ro1 ro2 ro3 aK kQ kS kR kT ko0 ko1 ko2 ko3 aW pW pX : Nat) (cD cI cQ cL : ClassId) (iw ih : Nat) (al ac de : UInt64) (nb im ik iq : Nat) (tT tR tN : Nat → UInt64) (uP uF uL : Nat → Int32) (uH e0 e1 e2 e3 qS qU qO ke0 ke1 ke2 ke3 ksq ksr kst : Nat → UInt64) (tW : Nat → Int32) (tX : Nat → UInt64) (oD : Nat) (od : Nat → UInt64) (hw6 : iw ≤ 6) (hh6 : ih ≤ 6) (T RX NX : Nat → ZD) (gT : zcr tT (iw * ih) T) (hq : qCm iw ih im T RX NX (zv de) e0 e1 e2 e3 qS qU qO) (k o : Int32) (sz : Nat) : MetD lw_cs l yL_product wsL_product ({ frames := 8, cells := 4, slots := 24, locals := 133 } : Room) (va_Pc [.ref aC, .int k, .int o, .ref oD] (fun U => U.heap.size = sz ∧ va_P (dC, dI) vwCl (w4d oD aC aP pT pR pN pB bP bF bL bH aM aQ mS mR mT ro0 ro1 ro2 ro3 aK kQ kS kR kT ko0 ko1 ko2 ko3 aW pW pX cD cI cQ iw ih al ac de nb im ik iq tT tR tN uP uF uL uH e0 e1 e2 e3 qS qU qO ke0 ke1 ke2 ke3 ksq ksr kst tW tX od) U.heap ∧ va_K (dC, dI) vwCl [(cD, .double), (cI, .int), (cQ, .array .double), (cL, .long)] U ∧ zNw U ∧ zXE (va_A (w4d oD aC aP pT pR pN pB bP bF bL bH aM aQ mS mR mT ro0 ro1 ro2 ro3 aK kQ kS kR kT ko0 ko1 ko2 ko3 aW pW pX cD cI cQ iw ih al ac de nb im ik iq tT tR tN uP uF uL uH e0 e1 e2 e3 qS qU qO ke0 ke1 ke2 ke3 ksq ksr kst tW tX od) sz) U U.heap ∧ zXN U ∧ va_D (fun _ => True) (w4d oD aC aP pT pR pN pB bP bF bL bH aM aQ mS mR mT ro0 ro1 ro2 ro3 aK kQ kS kR kT ko0 ko1 ko2 ko3 aW pW pX cD cI cQ iw ih al ac de nb im ik iq tT tR tN uP uF uL uH e0 e1 e2 e3 qS qU qO ke0 ke1 ke2 ke3 ksq ksr kst tW tX od))) (va_Qi (fun (r : Int32) (u : Nat → UInt64) => r = nI (zckM (decide (¬ znmd k ∧ ¬ znmd o)) im (zmx k o)) ∧ (zckM (decide (¬ znmd k ∧ ¬ znmd o)) im (zmx k o) = 0 → zv (u 0) = zprod T (zshp iw ih T RX NX (zv de) (zn k)) (zshp iw ih T RX NX (zv de) (zn o)) (zv de) (iw * ih)) ∧ (¬ zckM (decide (¬ znmd k ∧ ¬ znmd o)) im (zmx k o) = 0 → u = od)) (fun u t => (va_P (dC, dI) vwCl (w4d oD aC aP pT pR pN pB bP bF bL bH aM aQ mS mR mT ro0 ro1 ro2 ro3 aK kQ kS kR kT ko0 ko1 ko2 ko3 aW pW pX cD cI cQ iw ih al ac de nb im ik iq tT tR tN uP uF uL uH e0 e1 e2 e3 qS qU qO ke0 ke1 ke2 ke3 ksq ksr kst tW tX u) t.heap ∧ va_K (dC, dI) vwCl [(cD, .double), (cI, .int), (cQ, .array .double), (cL, .long)] t ∧ va_D (va_A (w4d oD aC aP pT pR pN pB bP bF bL bH aM aQ mS mR mT ro0 ro1 ro2 ro3 aK kQ kS kR kT ko0 ko1 ko2 ko3 aW pW pX cD cI cQ iw ih al ac de nb im ik iq tT tR tN uP uF uL uH e0 e1 e2 e3 qS qU qO ke0 ke1 ke2 ke3 ksq ksr kst tW tX od) sz) (w4d oD aC aP pT pR pN pB bP bF bL bH aM aQ mS mR mT ro0 ro1 ro2 ro3 aK kQ kS kR kT ko0 ko1 ko2 ko3 aW pW pX cD cI cQ iw ih al ac de nb im ik iq tT tR tN uP uF uL uH e0 e1 e2 e3 qS qU qO ke0 ke1 ke2 ke3 ksq ksr kst tW tX u))) (va_A (w4d oD aC aP pT pR pN pB bP bF bL bH aM aQ mS mR mT ro0 ro1 ro2 ro3 aK kQ kS kR kT ko0 ko1 ko2 ko3 aW pW pX cD cI cQ iw ih al ac de nb im ik iq tT tR tN uP uF uL uH e0 e1 e2 e3 qS qU qO ke0 ke1 ke2 ke3 ksq ksr kst tW tX od) sz)) 4 24 (va_A (w4d oD aC aP pT pR pN pB bP bF bL bH aM aQ mS mR mT ro0 ro1 ro2 ro3 aK kQ kS kR kT ko0 ko1 ko2 ko3 aW pW pX cD cI cQ iw ih al ac de nb im ik iq tT tR tN uP uF uL uH e0 e1 e2 e3 qS qU qO ke0 ke1 ke2 ke3 ksq ksr kst tW tX od) sz) := by
  refine zy_ofWHD (cc := cL_product) (maxL := 5) (ret := (some .int)) (hh := [(0, 9, 12, 13), (0, 9, 16, 25)]) (by decide) rfl ?_
  intro p e s m args below meth c s₁ B hml htab hv hd0
  obtain ⟨rfl, hsz, hP, hK, hN, hE, hXN, hD0⟩ := hv
  have hx := B.exec
  have hb := B.bytes
  have hr := B.returns
  have hts := atoms_spec (ws := wsL_product) B.pre
  have hown : s.vm.findClass RL = some m.cls := findClass_of_methodNamed B.named
  have hlocks := B.notSynchronized
  subst hsz
  have hD := hD0.self (sz := s.heap.size)
  generalize hAe : va_A (w4d oD aC aP pT pR pN pB bP bF bL bH aM aQ mS mR mT ro0 ro1 ro2 ro3 aK kQ kS kR kT ko0 ko1 ko2 ko3 aW pW pX cD cI cQ iw ih al ac de nb im ik iq tT tR tN uP uF uL uH e0 e1 e2 e3 qS qU qO ke0 ke1 ke2 ke3 ksq ksr kst tW tX od) s.heap.size = A at hD hE ⊢
  have hA : ∀ q : Nat, s.heap.size ≤ q → A q := fun q h => by rw [← hAe]; exact Or.inr h
  have hS : va_S A s.heap s.heap [] := va_S.rf
  have hl := lv_entry ([.ref aC, .int k, .int o, .ref oD]) (n := 5) (Nat.le_of_ble_eq_true rfl)
  rw [lg_entry_eq]
  generalize (lg_sl ([.ref aC, .int k, .int o, .ref oD]) ++ List.replicate (5 - (lg_sl ([.ref aC, .int k, .int o, .ref oD])).length) Slot.unset).toArray = ls at hl ⊢
  have hl : lv_has ls 5 [(0, .ref aC), (1, .int k), (2, .int o), (3, .ref oD)] := hl
  have hn36 : iw * ih ≤ 36 := Nat.mul_le_mul hw6 hh6
  refine lv_aload_n hx hb dL_product_0 rfl (lv_at hl 3 rfl) ?_
  refine lv_iconst (v := (nI 0)) hx hb dL_product_1 (by decide) ?_
  refine lv_aload_n hx hb dL_product_2 rfl (lv_at hl 0 rfl) ?_
  refine lv_iload_n hx hb dL_product_3 rfl (lv_at hl 1 rfl) ?_
  refine lv_iload_n hx hb dL_product_4 rfl (lv_at hl 2 rfl) ?_
  have hPc := hP.sub (ws' := (w4 aC aP pT pR pN pB bP bF bL bH aM aQ mS mR mT ro0 ro1 ro2 ro3 aK kQ kS kR kT ko0 ko1 ko2 ko3 aW pW pX cD cI cQ iw ih al ac de nb im ik iq tT tR tN uP uF uL uH e0 e1 e2 e3 qS qU qO ke0 ke1 ke2 ke3 ksq ksr kst tW tX)) [0, 1, 2, 3, 4, 5, 6, 7, 8, 9, 10, 11, 12, 13, 14, 15, 16, 17, 18, 19, 20, 21, 22, 23, 24, 25, 26, 27, 28, 29, 30] rfl
  have hK3 := hK.sub (tys' := [(cD, .double), (cI, .int), (cQ, .array .double)]) [0, 1, 2] rfl
  refine zx_calldD hd0 (zx_runVD (As := [.int k, .int o]) (rest := [.int (nI 0), .ref oD]) ⟨hx, hb, hml, hown, (dr_words hts s.drawn)⟩ (c4_product l hst dC dI aC aP pT pR pN pB bP bF bL bH aM aQ mS mR mT ro0 ro1 ro2 ro3 aK kQ kS kR kT ko0 ko1 ko2 ko3 aW pW pX cD cI cQ iw ih al ac de nb im ik iq tT tR tN uP uF uL uH e0 e1 e2 e3 qS qU qO ke0 ke1 ke2 ke3 ksq ksr kst tW tX hw6 hh6 T RX NX gT hq k o) (cwV 2 (dr_words hts s.drawn) gL_product_X4_product rfl rfl rfl (by decide +kernel) ⟨(Nat.le_of_ble_eq_true rfl), (Nat.le_of_ble_eq_true rfl)⟩) ⟨zfbX, va_recv hK3 hPc (ci := 4) (q0 := 0) rfl rfl, zpreX hPc hK3 (by first | exact hN | exact hN.sd) (by first | exact hE | exact hE.sd) hS⟩ rfl rfl hl.1 rfl (lv_room (Nat.le_of_ble_eq_true rfl)) dL_product_5 ⟨(Nat.le_of_ble_eq_true rfl), (Nat.le_of_ble_eq_true rfl)⟩) hS (fun q _ h => h.elim) (fun q h => h.elim) (fun q _ h => h.elim) (fun E9 ce9 q9 u9 t9 H1 locs1 d1 hd1 ht9 hvm9 hpx hBX hz9 hk1 hS1 hce hcv hcl => ?_) (fun r9 u9 t9 H1 locs1 d1 hd1 ht9 hvm9 hpost hB9 hz9 hk1 hS1 => ?_)
  · skip
    have hS := hS1
    have hu9 : u9 = 1 ∨ u9 = 2 := by have h1 := hpx.1; have h2 := hpx.2; have h3 := zckM_le (decide (¬ znmd k ∧ ¬ znmd o)) im (zmx k o); omega
    have hE9 := hBX
    rcases hu9 with hu9 | hu9
    · skip
      obtain rfl : E9 = zIO := by rw [hE9, hu9]; rfl
      refine vx_catch (own := RL) (name := zIO) (E := zIO) (ce := ce9) hown [] ⟨0, 9, 12, 13⟩ [⟨0, 9, 16, 25⟩] (by rw [htab]; rfl) (fun _ h => absurd h List.not_mem_nil) rfl (by decide) (dr_words hts d1 (.classLink RL 13 "java/lang/IndexOutOfBoundsException") (by decide +kernel)) (va_Nw.use rfl (hE.sd.2.2.1 zIO (by decide))) hce hcv hcl ?_
      have hP := zro1 hP hk1
      generalize H1 = H at hP hS ⊢
      refine lv_astore (lv' := [(4, .ref q9), (0, .ref aC), (1, .int k), (2, .int o), (3, .ref oD)]) hx hb dL_product_12 hl (by decide) rfl (fun ls hl => ?_)
      refine lv_iconst (v := (nI 1)) hx hb dL_product_14 (by decide) ?_
      refine W.endD hd1 ?_
      refine W.widen (k := 4) (n := 24) (Nat.le_of_ble_eq_true rfl) (Nat.le_of_ble_eq_true rfl) ?_
      exact W.iret (v := (nI 1)) hx hb hr (fun t ht hW => ⟨⟨(nI 1), od, rfl, ⟨by rw [show (zckM (decide (¬ znmd k ∧ ¬ znmd o)) im (zmx k o)) = 1 from hpx.1.symm.trans hu9] <;> rfl, fun q => absurd (hpx.1.trans q) hpx.2, fun _ => rfl⟩, by rw [ht]; exact hP, va_K.moved hW.alike hK, hD⟩, hS.F ht⟩) hS.2.2 dL_product_15
    · skip
      obtain rfl : E9 = zIS := by rw [hE9, hu9]; rfl
      refine vx_catch (own := RL) (name := zIS) (E := zIS) (ce := ce9) hown [⟨0, 9, 12, 13⟩] ⟨0, 9, 16, 25⟩ [] (by rw [htab]; rfl) (List.forall_mem_cons.mpr ⟨Or.inr ⟨by decide, zIO, (dr_words hts d1 (.classLink RL 13 "java/lang/IndexOutOfBoundsException") (by decide +kernel)), hXN.sd.2.1⟩, (fun _ h => absurd h List.not_mem_nil)⟩) rfl (by decide) (dr_words hts d1 (.classLink RL 25 "java/lang/IllegalStateException") (by decide +kernel)) (va_Nw.use rfl (hE.sd.2.2.1 zIS (by decide))) hce hcv hcl ?_
      have hP := zro1 hP hk1
      generalize H1 = H at hP hS ⊢
      refine lv_astore (lv' := [(4, .ref q9), (0, .ref aC), (1, .int k), (2, .int o), (3, .ref oD)]) hx hb dL_product_16 hl (by decide) rfl (fun ls hl => ?_)
      refine lv_iconst (v := (nI 2)) hx hb dL_product_18 (by decide) ?_
      refine W.endD hd1 ?_
      refine W.widen (k := 4) (n := 24) (Nat.le_of_ble_eq_true rfl) (Nat.le_of_ble_eq_true rfl) ?_
      exact W.iret (v := (nI 2)) hx hb hr (fun t ht hW => ⟨⟨(nI 2), od, rfl, ⟨by rw [show (zckM (decide (¬ znmd k ∧ ¬ znmd o)) im (zmx k o)) = 2 from hpx.1.symm.trans hu9] <;> rfl, fun q => absurd (hpx.1.trans q) hpx.2, fun _ => rfl⟩, by rw [ht]; exact hP, va_K.moved hW.alike hK, hD⟩, hS.F ht⟩) hS.2.2 dL_product_19
  · skip
    have hS := hS1
    have hP := zro1 hP hk1
    generalize H1 = H at hP hS ⊢
    obtain ⟨hcode, hr9⟩ := hpost
    refine z_dast (s := s.setDrawn d1) (n := 1) (i := 0) hx hb hK hP hD hS 31 0 rfl rfl (by decide) (by decide) dL_product_8 (fun H locs hP hD hS => ?_)
    have hP : va_P (dC, dI) vwCl (w4d oD aC aP pT pR pN pB bP bF bL bH aM aQ mS mR mT ro0 ro1 ro2 ro3 aK kQ kS kR kT ko0 ko1 ko2 ko3 aW pW pX cD cI cQ iw ih al ac de nb im ik iq tT tR tN uP uF uL uH e0 e1 e2 e3 qS qU qO ke0 ke1 ke2 ke3 ksq ksr kst tW tX (zu od 0 r9)) H := hP
    have hD : va_D A (w4d oD aC aP pT pR pN pB bP bF bL bH aM aQ mS mR mT ro0 ro1 ro2 ro3 aK kQ kS kR kT ko0 ko1 ko2 ko3 aW pW pX cD cI cQ iw ih al ac de nb im ik iq tT tR tN uP uF uL uH e0 e1 e2 e3 qS qU qO ke0 ke1 ke2 ke3 ksq ksr kst tW tX (zu od 0 r9)) := hD
    refine lv_goto (tgt := 20) hx hb dL_product_9 (by decide) ?_
    refine lv_iconst (v := (nI 0)) hx hb dL_product_20 (by decide) ?_
    refine W.endD hd1 ?_
    refine W.widen (k := 4) (n := 24) (Nat.le_of_ble_eq_true rfl) (Nat.le_of_ble_eq_true rfl) ?_
    exact W.iret (v := (nI 0)) hx hb hr (fun t ht hW => ⟨⟨(nI 0), zu od 0 r9, rfl, ⟨by rw [hcode] <;> rfl, fun _ => by rw [zu_s]; exact hr9, fun q => absurd hcode q⟩, by rw [ht]; exact hP, va_K.moved hW.alike hK, hD⟩, hS.F ht⟩) hS.2.2 dL_product_21
set_option maxHeartbeats 4000000 in
set_option maxRecDepth 100000 in
/-- sum: the helper -/
theorem cL_sum_c (l : Launch) (hst : l.stackTraces = false) (dC : Nat → ClassId) (dI : Nat → Nat → Nat) (aC aP pT pR pN pB bP bF bL bH aM aQ mS mR mT ro0 ro1 ro2 ro3 aK kQ kS kR kT ko0 ko1 ko2 ko3 aW pW pX : Nat) (cD cI cQ cL : ClassId) (iw ih : Nat) (al ac de : UInt64) (nb im ik iq : Nat) (tT tR tN : Nat → UInt64) (uP uF uL : Nat → Int32) (uH e0 e1 e2 e3 qS qU qO ke0 ke1 ke2 ke3 ksq ksr kst : Nat → UInt64) (tW : Nat → Int32) (tX : Nat → UInt64) (oD : Nat) (od : Nat → UInt64) (hw6 : iw ≤ 6) (hh6 : ih ≤ 6) (T RX NX : Nat → ZD) (gT : zcr tT (iw * ih) T) (hq : qCm iw ih im T RX NX (zv de) e0 e1 e2 e3 qS qU qO) (wn : Nat → Nat) (hq4 : iq ≤ 4) (gW : ∀ i, i < iq → tW i = nI (wn i)) (gw4 : ∀ i, i < iq → wn i < 4) (ws : Nat → ZD) (gX : ∀ i, i < iq → zv (tX i) = ws i) (sz : Nat) : MetD lw_cs l yL_sum wsL_sum ({ frames := 7, cells := 1, slots := 6, locals := 111 } : Room) (va_Pc [.ref aC, .ref oD] (fun U => U.heap.size = sz ∧ va_P (dC, dI) vwCl (w4d oD aC aP pT pR pN pB bP bF bL bH aM aQ mS mR mT ro0 ro1 ro2 ro3 aK kQ kS kR kT ko0 ko1 ko2 ko3 aW pW pX cD cI cQ iw ih al ac de nb im ik iq tT tR tN uP uF uL uH e0 e1 e2 e3 qS qU qO ke0 ke1 ke2 ke3 ksq ksr kst tW tX od) U.heap ∧ va_K (dC, dI) vwCl [(cD, .double), (cI, .int), (cQ, .array .double), (cL, .long)] U ∧ zNw U ∧ zXE (va_A (w4d oD aC aP pT pR pN pB bP bF bL bH aM aQ mS mR mT ro0 ro1 ro2 ro3 aK kQ kS kR kT ko0 ko1 ko2 ko3 aW pW pX cD cI cQ iw ih al ac de nb im ik iq tT tR tN uP uF uL uH e0 e1 e2 e3 qS qU qO ke0 ke1 ke2 ke3 ksq ksr kst tW tX od) sz) U U.heap ∧ zXN U ∧ va_D (fun _ => True) (w4d oD aC aP pT pR pN pB bP bF bL bH aM aQ mS mR mT ro0 ro1 ro2 ro3 aK kQ kS kR kT ko0 ko1 ko2 ko3 aW pW pX cD cI cQ iw ih al ac de nb im ik iq tT tR tN uP uF uL uH e0 e1 e2 e3 qS qU qO ke0 ke1 ke2 ke3 ksq ksr kst tW tX od))) (va_Qi (fun (r : Int32) (u : Nat → UInt64) => r = nI (zcS iq im (zneed wn iq)) ∧ (zcS iq im (zneed wn iq) = 0 → zv (u 0) = ztot (fun i => zN (zsq iw ih T RX NX (zshp iw ih T RX NX (zv de) (wn i)) (iw * ih))) ws iq) ∧ (¬ zcS iq im (zneed wn iq) = 0 → u = od)) (fun u t => (va_P (dC, dI) vwCl (w4d oD aC aP pT pR pN pB bP bF bL bH aM aQ mS mR mT ro0 ro1 ro2 ro3 aK kQ kS kR kT ko0 ko1 ko2 ko3 aW pW pX cD cI cQ iw ih al ac de nb im ik iq tT tR tN uP uF uL uH e0 e1 e2 e3 qS qU qO ke0 ke1 ke2 ke3 ksq ksr kst tW tX u) t.heap ∧ va_K (dC, dI) vwCl [(cD, .double), (cI, .int), (cQ, .array .double), (cL, .long)] t ∧ va_D (va_A (w4d oD aC aP pT pR pN pB bP bF bL bH aM aQ mS mR mT ro0 ro1 ro2 ro3 aK kQ kS kR kT ko0 ko1 ko2 ko3 aW pW pX cD cI cQ iw ih al ac de nb im ik iq tT tR tN uP uF uL uH e0 e1 e2 e3 qS qU qO ke0 ke1 ke2 ke3 ksq ksr kst tW tX od) sz) (w4d oD aC aP pT pR pN pB bP bF bL bH aM aQ mS mR mT ro0 ro1 ro2 ro3 aK kQ kS kR kT ko0 ko1 ko2 ko3 aW pW pX cD cI cQ iw ih al ac de nb im ik iq tT tR tN uP uF uL uH e0 e1 e2 e3 qS qU qO ke0 ke1 ke2 ke3 ksq ksr kst tW tX u))) (va_A (w4d oD aC aP pT pR pN pB bP bF bL bH aM aQ mS mR mT ro0 ro1 ro2 ro3 aK kQ kS kR kT ko0 ko1 ko2 ko3 aW pW pX cD cI cQ iw ih al ac de nb im ik iq tT tR tN uP uF uL uH e0 e1 e2 e3 qS qU qO ke0 ke1 ke2 ke3 ksq ksr kst tW tX od) sz)) 1 6 (va_A (w4d oD aC aP pT pR pN pB bP bF bL bH aM aQ mS mR mT ro0 ro1 ro2 ro3 aK kQ kS kR kT ko0 ko1 ko2 ko3 aW pW pX cD cI cQ iw ih al ac de nb im ik iq tT tR tN uP uF uL uH e0 e1 e2 e3 qS qU qO ke0 ke1 ke2 ke3 ksq ksr kst tW tX od) sz) := by
  refine zy_ofWHD (cc := cL_sum) (maxL := 3) (ret := (some .int)) (hh := [(0, 7, 10, 25)]) (by decide) rfl ?_
  intro p e s m args below meth c s₁ B hml htab hv hd0
  obtain ⟨rfl, hsz, hP, hK, hN, hE, hXN, hD0⟩ := hv
  have hx := B.exec
  have hb := B.bytes
  have hr := B.returns
  have hts := atoms_spec (ws := wsL_sum) B.pre
  have hown : s.vm.findClass RL = some m.cls := findClass_of_methodNamed B.named
  have hlocks := B.notSynchronized
  subst hsz
  have hD := hD0.self (sz := s.heap.size)
  generalize hAe : va_A (w4d oD aC aP pT pR pN pB bP bF bL bH aM aQ mS mR mT ro0 ro1 ro2 ro3 aK kQ kS kR kT ko0 ko1 ko2 ko3 aW pW pX cD cI cQ iw ih al ac de nb im ik iq tT tR tN uP uF uL uH e0 e1 e2 e3 qS qU qO ke0 ke1 ke2 ke3 ksq ksr kst tW tX od) s.heap.size = A at hD hE ⊢
  have hA : ∀ q : Nat, s.heap.size ≤ q → A q := fun q h => by rw [← hAe]; exact Or.inr h
  have hS : va_S A s.heap s.heap [] := va_S.rf
  have hl := lv_entry ([.ref aC, .ref oD]) (n := 3) (Nat.le_of_ble_eq_true rfl)
  rw [lg_entry_eq]
  generalize (lg_sl ([.ref aC, .ref oD]) ++ List.replicate (3 - (lg_sl ([.ref aC, .ref oD])).length) Slot.unset).toArray = ls at hl ⊢
  have hl : lv_has ls 3 [(0, .ref aC), (1, .ref oD)] := hl
  have hn36 : iw * ih ≤ 36 := Nat.mul_le_mul hw6 hh6
  refine lv_aload_n hx hb dL_sum_0 rfl (lv_at hl 1 rfl) ?_
  refine lv_iconst (v := (nI 0)) hx hb dL_sum_1 (by decide) ?_
  refine lv_aload_n hx hb dL_sum_2 rfl (lv_at hl 0 rfl) ?_
  have hPc := hP.sub (ws' := (w4 aC aP pT pR pN pB bP bF bL bH aM aQ mS mR mT ro0 ro1 ro2 ro3 aK kQ kS kR kT ko0 ko1 ko2 ko3 aW pW pX cD cI cQ iw ih al ac de nb im ik iq tT tR tN uP uF uL uH e0 e1 e2 e3 qS qU qO ke0 ke1 ke2 ke3 ksq ksr kst tW tX)) [0, 1, 2, 3, 4, 5, 6, 7, 8, 9, 10, 11, 12, 13, 14, 15, 16, 17, 18, 19, 20, 21, 22, 23, 24, 25, 26, 27, 28, 29, 30] rfl
  have hK3 := hK.sub (tys' := [(cD, .double), (cI, .int), (cQ, .array .double)]) [0, 1, 2] rfl
  refine zx_calldD hd0 (zx_runVD (As := []) (rest := [.int (nI 0), .ref oD]) ⟨hx, hb, hml, hown, (dr_words hts s.drawn)⟩ (c4_sum l hst dC dI aC aP pT pR pN pB bP bF bL bH aM aQ mS mR mT ro0 ro1 ro2 ro3 aK kQ kS kR kT ko0 ko1 ko2 ko3 aW pW pX cD cI cQ iw ih al ac de nb im ik iq tT tR tN uP uF uL uH e0 e1 e2 e3 qS qU qO ke0 ke1 ke2 ke3 ksq ksr kst tW tX hw6 hh6 T RX NX gT hq wn hq4 gW gw4 ws gX) (cwV 0 (dr_words hts s.drawn) gL_sum_X4_sum rfl rfl rfl (by decide +kernel) ⟨(Nat.le_of_ble_eq_true rfl), (Nat.le_of_ble_eq_true rfl)⟩) ⟨zfbX, va_recv hK3 hPc (ci := 4) (q0 := 0) rfl rfl, zpreX hPc hK3 (by first | exact hN | exact hN.sd) (by first | exact hE | exact hE.sd) hS⟩ rfl rfl hl.1 rfl (lv_room (Nat.le_of_ble_eq_true rfl)) dL_sum_3 ⟨(Nat.le_of_ble_eq_true rfl), (Nat.le_of_ble_eq_true rfl)⟩) hS (fun q _ h => h.elim) (fun q h => h.elim) (fun q _ h => h.elim) (fun E9 ce9 q9 u9 t9 H1 locs1 d1 hd1 ht9 hvm9 hpx hBX hz9 hk1 hS1 hce hcv hcl => ?_) (fun r9 u9 t9 H1 locs1 d1 hd1 ht9 hvm9 hpost hB9 hz9 hk1 hS1 => ?_)
  · skip
    have hS := hS1
    have hu9 : u9 = 1 := by have h1 := hpx.1; have h2 := hpx.2; have h3 := zcS_le (a := iq) (b := im) (d := (zneed wn iq)); omega
    have hE9 := hBX
    obtain rfl : E9 = zIS := by rw [hE9, hu9]; rfl
    refine vx_catch (own := RL) (name := zIS) (E := zIS) (ce := ce9) hown [] ⟨0, 7, 10, 25⟩ [] (by rw [htab]; rfl) (fun _ h => absurd h List.not_mem_nil) rfl (by decide) (dr_words hts d1 (.classLink RL 25 "java/lang/IllegalStateException") (by decide +kernel)) (va_Nw.use rfl (hE.sd.2.2.1 zIS (by decide))) hce hcv hcl ?_
    have hP := zro1 hP hk1
    generalize H1 = H at hP hS ⊢
    refine lv_astore_n (lv' := [(2, .ref q9), (0, .ref aC), (1, .ref oD)]) hx hb dL_sum_10 rfl hl (by decide) rfl (fun ls hl => ?_)
    refine lv_iconst (v := (nI 1)) hx hb dL_sum_11 (by decide) ?_
    refine W.endD hd1 ?_
    refine W.widen (k := 1) (n := 6) (Nat.le_of_ble_eq_true rfl) (Nat.le_of_ble_eq_true rfl) ?_
    exact W.iret (v := (nI 1)) hx hb hr (fun t ht hW => ⟨⟨(nI 1), od, rfl, ⟨by rw [show (zcS iq im (zneed wn iq)) = 1 from hpx.1.symm.trans hu9] <;> rfl, fun q => absurd (hpx.1.trans q) hpx.2, fun _ => rfl⟩, by rw [ht]; exact hP, va_K.moved hW.alike hK, hD⟩, hS.F ht⟩) hS.2.2 dL_sum_12
  · skip
    have hS := hS1
    have hP := zro1 hP hk1
    generalize H1 = H at hP hS ⊢
    obtain ⟨hcode, hr9⟩ := hpost
    refine z_dast (s := s.setDrawn d1) (n := 1) (i := 0) hx hb hK hP hD hS 31 0 rfl rfl (by decide) (by decide) dL_sum_6 (fun H locs hP hD hS => ?_)
    have hP : va_P (dC, dI) vwCl (w4d oD aC aP pT pR pN pB bP bF bL bH aM aQ mS mR mT ro0 ro1 ro2 ro3 aK kQ kS kR kT ko0 ko1 ko2 ko3 aW pW pX cD cI cQ iw ih al ac de nb im ik iq tT tR tN uP uF uL uH e0 e1 e2 e3 qS qU qO ke0 ke1 ke2 ke3 ksq ksr kst tW tX (zu od 0 r9)) H := hP
    have hD : va_D A (w4d oD aC aP pT pR pN pB bP bF bL bH aM aQ mS mR mT ro0 ro1 ro2 ro3 aK kQ kS kR kT ko0 ko1 ko2 ko3 aW pW pX cD cI cQ iw ih al ac de nb im ik iq tT tR tN uP uF uL uH e0 e1 e2 e3 qS qU qO ke0 ke1 ke2 ke3 ksq ksr kst tW tX (zu od 0 r9)) := hD
    refine lv_goto (tgt := 13) hx hb dL_sum_7 (by decide) ?_
    refine lv_iconst (v := (nI 0)) hx hb dL_sum_13 (by decide) ?_
    refine W.endD hd1 ?_
    refine W.widen (k := 1) (n := 6) (Nat.le_of_ble_eq_true rfl) (Nat.le_of_ble_eq_true rfl) ?_
    exact W.iret (v := (nI 0)) hx hb hr (fun t ht hW => ⟨⟨(nI 0), zu od 0 r9, rfl, ⟨by rw [hcode] <;> rfl, fun _ => by rw [zu_s]; exact hr9, fun q => absurd hcode q⟩, by rw [ht]; exact hP, va_K.moved hW.alike hK, hD⟩, hS.F ht⟩) hS.2.2 dL_sum_14
set_option maxHeartbeats 4000000 in
set_option maxRecDepth 100000 in
/-- coupled: the helper -/
theorem cL_coupled_c (l : Launch) (hst : l.stackTraces = false) (dC : Nat → ClassId) (dI : Nat → Nat → Nat) (aC aP pT pR pN pB bP bF bL bH aM aQ mS mR mT ro0 ro1 ro2 ro3 aK kQ kS kR kT ko0 ko1 ko2 ko3 aW pW pX : Nat) (cD cI cQ cL : ClassId) (iw ih : Nat) (al ac de : UInt64) (nb im ik iq : Nat) (tT tR tN : Nat → UInt64) (uP uF uL : Nat → Int32) (uH e0 e1 e2 e3 qS qU qO ke0 ke1 ke2 ke3 ksq ksr kst : Nat → UInt64) (tW : Nat → Int32) (tX : Nat → UInt64) (oD : Nat) (od : Nat → UInt64) (hw6 : iw ≤ 6) (hh6 : ih ≤ 6) (T RX NX : Nat → ZD) (gT : zcr tT (iw * ih) T) (hq : qCm iw ih im T RX NX (zv de) e0 e1 e2 e3 qS qU qO) (k : Int32) (va vb : UInt64) (gr : Bool) (sz : Nat) : MetD lw_cs l yL_coupled wsL_coupled ({ frames := 8, cells := 4, slots := 24, locals := 149 } : Room) (va_Pc [.ref aC, .int k, .double va, .double vb, .int (zb gr), .ref oD] (fun U => U.heap.size = sz ∧ va_P (dC, dI) vwCl (w4d oD aC aP pT pR pN pB bP bF bL bH aM aQ mS mR mT ro0 ro1 ro2 ro3 aK kQ kS kR kT ko0 ko1 ko2 ko3 aW pW pX cD cI cQ iw ih al ac de nb im ik iq tT tR tN uP uF uL uH e0 e1 e2 e3 qS qU qO ke0 ke1 ke2 ke3 ksq ksr kst tW tX od) U.heap ∧ va_K (dC, dI) vwCl [(cD, .double), (cI, .int), (cQ, .array .double), (cL, .long)] U ∧ zNw U ∧ zXE (va_A (w4d oD aC aP pT pR pN pB bP bF bL bH aM aQ mS mR mT ro0 ro1 ro2 ro3 aK kQ kS kR kT ko0 ko1 ko2 ko3 aW pW pX cD cI cQ iw ih al ac de nb im ik iq tT tR tN uP uF uL uH e0 e1 e2 e3 qS qU qO ke0 ke1 ke2 ke3 ksq ksr kst tW tX od) sz) U U.heap ∧ zXN U ∧ va_D (fun _ => True) (w4d oD aC aP pT pR pN pB bP bF bL bH aM aQ mS mR mT ro0 ro1 ro2 ro3 aK kQ kS kR kT ko0 ko1 ko2 ko3 aW pW pX cD cI cQ iw ih al ac de nb im ik iq tT tR tN uP uF uL uH e0 e1 e2 e3 qS qU qO ke0 ke1 ke2 ke3 ksq ksr kst tW tX od))) (va_Qi (fun (r : Int32) (u : Nat → UInt64) => r = nI (zcC im k (zv va) (zv vb)) ∧ (zcC im k (zv va) (zv vb) = 0 → zv (u 0) = zcpV (zN (zsq iw ih T RX NX (zshp iw ih T RX NX (zv de) (zn k)) (iw * ih))) (zsum T (zshp iw ih T RX NX (zv de) (zn k)) (iw * ih)) (zv va) (zv vb) gr) ∧ (¬ zcC im k (zv va) (zv vb) = 0 → u = od)) (fun u t => (va_P (dC, dI) vwCl (w4d oD aC aP pT pR pN pB bP bF bL bH aM aQ mS mR mT ro0 ro1 ro2 ro3 aK kQ kS kR kT ko0 ko1 ko2 ko3 aW pW pX cD cI cQ iw ih al ac de nb im ik iq tT tR tN uP uF uL uH e0 e1 e2 e3 qS qU qO ke0 ke1 ke2 ke3 ksq ksr kst tW tX u) t.heap ∧ va_K (dC, dI) vwCl [(cD, .double), (cI, .int), (cQ, .array .double), (cL, .long)] t ∧ va_D (va_A (w4d oD aC aP pT pR pN pB bP bF bL bH aM aQ mS mR mT ro0 ro1 ro2 ro3 aK kQ kS kR kT ko0 ko1 ko2 ko3 aW pW pX cD cI cQ iw ih al ac de nb im ik iq tT tR tN uP uF uL uH e0 e1 e2 e3 qS qU qO ke0 ke1 ke2 ke3 ksq ksr kst tW tX od) sz) (w4d oD aC aP pT pR pN pB bP bF bL bH aM aQ mS mR mT ro0 ro1 ro2 ro3 aK kQ kS kR kT ko0 ko1 ko2 ko3 aW pW pX cD cI cQ iw ih al ac de nb im ik iq tT tR tN uP uF uL uH e0 e1 e2 e3 qS qU qO ke0 ke1 ke2 ke3 ksq ksr kst tW tX u))) (va_A (w4d oD aC aP pT pR pN pB bP bF bL bH aM aQ mS mR mT ro0 ro1 ro2 ro3 aK kQ kS kR kT ko0 ko1 ko2 ko3 aW pW pX cD cI cQ iw ih al ac de nb im ik iq tT tR tN uP uF uL uH e0 e1 e2 e3 qS qU qO ke0 ke1 ke2 ke3 ksq ksr kst tW tX od) sz)) 4 24 (va_A (w4d oD aC aP pT pR pN pB bP bF bL bH aM aQ mS mR mT ro0 ro1 ro2 ro3 aK kQ kS kR kT ko0 ko1 ko2 ko3 aW pW pX cD cI cQ iw ih al ac de nb im ik iq tT tR tN uP uF uL uH e0 e1 e2 e3 qS qU qO ke0 ke1 ke2 ke3 ksq ksr kst tW tX od) sz) := by
  refine zy_ofWHD (cc := cL_coupled) (maxL := 9) (ret := (some .int)) (hh := [(0, 14, 17, 13), (0, 14, 21, 15), (0, 14, 25, 25)]) (by decide) rfl ?_
  intro p e s m args below meth c s₁ B hml htab hv hd0
  obtain ⟨rfl, hsz, hP, hK, hN, hE, hXN, hD0⟩ := hv
  have hx := B.exec
  have hb := B.bytes
  have hr := B.returns
  have hts := atoms_spec (ws := wsL_coupled) B.pre
  have hown : s.vm.findClass RL = some m.cls := findClass_of_methodNamed B.named
  have hlocks := B.notSynchronized
  subst hsz
  have hD := hD0.self (sz := s.heap.size)
  generalize hAe : va_A (w4d oD aC aP pT pR pN pB bP bF bL bH aM aQ mS mR mT ro0 ro1 ro2 ro3 aK kQ kS kR kT ko0 ko1 ko2 ko3 aW pW pX cD cI cQ iw ih al ac de nb im ik iq tT tR tN uP uF uL uH e0 e1 e2 e3 qS qU qO ke0 ke1 ke2 ke3 ksq ksr kst tW tX od) s.heap.size = A at hD hE ⊢
  have hA : ∀ q : Nat, s.heap.size ≤ q → A q := fun q h => by rw [← hAe]; exact Or.inr h
  have hS : va_S A s.heap s.heap [] := va_S.rf
  have hl := lv_entry ([.ref aC, .int k, .double va, .double vb, .int (zb gr), .ref oD]) (n := 9) (Nat.le_of_ble_eq_true rfl)
  rw [lg_entry_eq]
  generalize (lg_sl ([.ref aC, .int k, .double va, .double vb, .int (zb gr), .ref oD]) ++ List.replicate (9 - (lg_sl ([.ref aC, .int k, .double va, .double vb, .int (zb gr), .ref oD])).length) Slot.unset).toArray = ls at hl ⊢
  have hl : lv_has ls 9 [(0, .ref aC), (1, .int k), (2, .double va), (4, .double vb), (6, .int (zb gr)), (7, .ref oD)] := hl
  have hn36 : iw * ih ≤ 36 := Nat.mul_le_mul hw6 hh6
  refine lv_aload hx hb dL_coupled_0 (lv_at hl 5 rfl) ?_
  refine lv_iconst (v := (nI 0)) hx hb dL_coupled_2 (by decide) ?_
  refine lv_aload_n hx hb dL_coupled_3 rfl (lv_at hl 0 rfl) ?_
  refine lv_iload_n hx hb dL_coupled_4 rfl (lv_at hl 1 rfl) ?_
  refine lv_dload_n hx hb dL_coupled_5 rfl (lv_at hl 2 rfl) ?_
  refine lv_dload hx hb dL_coupled_6 (lv_at hl 3 rfl) ?_
  refine lv_iload hx hb dL_coupled_8 (lv_at hl 4 rfl) ?_
  have hPc := hP.sub (ws' := (w4 aC aP pT pR pN pB bP bF bL bH aM aQ mS mR mT ro0 ro1 ro2 ro3 aK kQ kS kR kT ko0 ko1 ko2 ko3 aW pW pX cD cI cQ iw ih al ac de nb im ik iq tT tR tN uP uF uL uH e0 e1 e2 e3 qS qU qO ke0 ke1 ke2 ke3 ksq ksr kst tW tX)) [0, 1, 2, 3, 4, 5, 6, 7, 8, 9, 10, 11, 12, 13, 14, 15, 16, 17, 18, 19, 20, 21, 22, 23, 24, 25, 26, 27, 28, 29, 30] rfl
  have hK3 := hK.sub (tys' := [(cD, .double), (cI, .int), (cQ, .array .double)]) [0, 1, 2] rfl
  refine zx_calldD hd0 (zx_runVD (As := [.int k, .double va, .double vb, .int (zb gr)]) (rest := [.int (nI 0), .ref oD]) ⟨hx, hb, hml, hown, (dr_words hts s.drawn)⟩ (c4_coupled l hst dC dI aC aP pT pR pN pB bP bF bL bH aM aQ mS mR mT ro0 ro1 ro2 ro3 aK kQ kS kR kT ko0 ko1 ko2 ko3 aW pW pX cD cI cQ iw ih al ac de nb im ik iq tT tR tN uP uF uL uH e0 e1 e2 e3 qS qU qO ke0 ke1 ke2 ke3 ksq ksr kst tW tX hw6 hh6 T RX NX gT hq k va vb gr) (cwV 4 (dr_words hts s.drawn) gL_coupled_X4_coupled rfl rfl rfl (by decide +kernel) ⟨(Nat.le_of_ble_eq_true rfl), (Nat.le_of_ble_eq_true rfl)⟩) ⟨zfbX, va_recv hK3 hPc (ci := 4) (q0 := 0) rfl rfl, zpreX hPc hK3 (by first | exact hN | exact hN.sd) (by first | exact hE | exact hE.sd) hS⟩ rfl rfl hl.1 rfl (lv_room (Nat.le_of_ble_eq_true rfl)) dL_coupled_10 ⟨(Nat.le_of_ble_eq_true rfl), (Nat.le_of_ble_eq_true rfl)⟩) hS (fun q _ h => h.elim) (fun q h => h.elim) (fun q _ h => h.elim) (fun E9 ce9 q9 u9 t9 H1 locs1 d1 hd1 ht9 hvm9 hpx hBX hz9 hk1 hS1 hce hcv hcl => ?_) (fun r9 u9 t9 H1 locs1 d1 hd1 ht9 hvm9 hpost hB9 hz9 hk1 hS1 => ?_)
  · skip
    have hS := hS1
    have hu9 : u9 = 1 ∨ u9 = 2 ∨ u9 = 3 := by have h1 := hpx.1; have h2 := hpx.2; have h3 := zcC_le (M := im) (k := k) (q := zv va) (g := zv vb); omega
    have hE9 := hBX
    rcases hu9 with hu9 | hu9 | hu9
    · skip
      obtain rfl : E9 = zIO := by rw [hE9, hu9]; rfl
      refine vx_catch (own := RL) (name := zIO) (E := zIO) (ce := ce9) hown [] ⟨0, 14, 17, 13⟩ [⟨0, 14, 21, 15⟩, ⟨0, 14, 25, 25⟩] (by rw [htab]; rfl) (fun _ h => absurd h List.not_mem_nil) rfl (by decide) (dr_words hts d1 (.classLink RL 13 "java/lang/IndexOutOfBoundsException") (by decide +kernel)) (va_Nw.use rfl (hE.sd.2.2.1 zIO (by decide))) hce hcv hcl ?_
      have hP := zro1 hP hk1
      generalize H1 = H at hP hS ⊢
      refine lv_astore (lv' := [(8, .ref q9), (0, .ref aC), (1, .int k), (2, .double va), (4, .double vb), (6, .int (zb gr)), (7, .ref oD)]) hx hb dL_coupled_17 hl (by decide) rfl (fun ls hl => ?_)
      refine lv_iconst (v := (nI 1)) hx hb dL_coupled_19 (by decide) ?_
      refine W.endD hd1 ?_
      refine W.widen (k := 4) (n := 24) (Nat.le_of_ble_eq_true rfl) (Nat.le_of_ble_eq_true rfl) ?_
      exact W.iret (v := (nI 1)) hx hb hr (fun t ht hW => ⟨⟨(nI 1), od, rfl, ⟨by rw [show (zcC im k (zv va) (zv vb)) = 1 from hpx.1.symm.trans hu9] <;> rfl, fun q => absurd (hpx.1.trans q) hpx.2, fun _ => rfl⟩, by rw [ht]; exact hP, va_K.moved hW.alike hK, hD⟩, hS.F ht⟩) hS.2.2 dL_coupled_20
    · skip
      obtain rfl : E9 = zIA := by rw [hE9, hu9]; rfl
      refine vx_catch (own := RL) (name := zIA) (E := zIA) (ce := ce9) hown [⟨0, 14, 17, 13⟩] ⟨0, 14, 21, 15⟩ [⟨0, 14, 25, 25⟩] (by rw [htab]; rfl) (List.forall_mem_cons.mpr ⟨Or.inr ⟨by decide, zIO, (dr_words hts d1 (.classLink RL 13 "java/lang/IndexOutOfBoundsException") (by decide +kernel)), hXN.sd.1⟩, (fun _ h => absurd h List.not_mem_nil)⟩) rfl (by decide) (dr_words hts d1 (.classLink RL 15 "java/lang/IllegalArgumentException") (by decide +kernel)) (va_Nw.use rfl (hE.sd.2.2.1 zIA (by decide))) hce hcv hcl ?_
      have hP := zro1 hP hk1
      generalize H1 = H at hP hS ⊢
      refine lv_astore (lv' := [(8, .ref q9), (0, .ref aC), (1, .int k), (2, .double va), (4, .double vb), (6, .int (zb gr)), (7, .ref oD)]) hx hb dL_coupled_21 hl (by decide) rfl (fun ls hl => ?_)
      refine lv_iconst (v := (nI 2)) hx hb dL_coupled_23 (by decide) ?_
      refine W.endD hd1 ?_
      refine W.widen (k := 4) (n := 24) (Nat.le_of_ble_eq_true rfl) (Nat.le_of_ble_eq_true rfl) ?_
      exact W.iret (v := (nI 2)) hx hb hr (fun t ht hW => ⟨⟨(nI 2), od, rfl, ⟨by rw [show (zcC im k (zv va) (zv vb)) = 2 from hpx.1.symm.trans hu9] <;> rfl, fun q => absurd (hpx.1.trans q) hpx.2, fun _ => rfl⟩, by rw [ht]; exact hP, va_K.moved hW.alike hK, hD⟩, hS.F ht⟩) hS.2.2 dL_coupled_24
    · skip
      obtain rfl : E9 = zIS := by rw [hE9, hu9]; rfl
      refine vx_catch (own := RL) (name := zIS) (E := zIS) (ce := ce9) hown [⟨0, 14, 17, 13⟩, ⟨0, 14, 21, 15⟩] ⟨0, 14, 25, 25⟩ [] (by rw [htab]; rfl) (List.forall_mem_cons.mpr ⟨Or.inr ⟨by decide, zIO, (dr_words hts d1 (.classLink RL 13 "java/lang/IndexOutOfBoundsException") (by decide +kernel)), hXN.sd.2.1⟩, (List.forall_mem_cons.mpr ⟨Or.inr ⟨by decide, zIA, (dr_words hts d1 (.classLink RL 15 "java/lang/IllegalArgumentException") (by decide +kernel)), hXN.sd.2.2⟩, (fun _ h => absurd h List.not_mem_nil)⟩)⟩) rfl (by decide) (dr_words hts d1 (.classLink RL 25 "java/lang/IllegalStateException") (by decide +kernel)) (va_Nw.use rfl (hE.sd.2.2.1 zIS (by decide))) hce hcv hcl ?_
      have hP := zro1 hP hk1
      generalize H1 = H at hP hS ⊢
      refine lv_astore (lv' := [(8, .ref q9), (0, .ref aC), (1, .int k), (2, .double va), (4, .double vb), (6, .int (zb gr)), (7, .ref oD)]) hx hb dL_coupled_25 hl (by decide) rfl (fun ls hl => ?_)
      refine lv_iconst (v := (nI 3)) hx hb dL_coupled_27 (by decide) ?_
      refine W.endD hd1 ?_
      refine W.widen (k := 4) (n := 24) (Nat.le_of_ble_eq_true rfl) (Nat.le_of_ble_eq_true rfl) ?_
      exact W.iret (v := (nI 3)) hx hb hr (fun t ht hW => ⟨⟨(nI 3), od, rfl, ⟨by rw [show (zcC im k (zv va) (zv vb)) = 3 from hpx.1.symm.trans hu9] <;> rfl, fun q => absurd (hpx.1.trans q) hpx.2, fun _ => rfl⟩, by rw [ht]; exact hP, va_K.moved hW.alike hK, hD⟩, hS.F ht⟩) hS.2.2 dL_coupled_28
  · skip
    have hS := hS1
    have hP := zro1 hP hk1
    generalize H1 = H at hP hS ⊢
    obtain ⟨hcode, hr9⟩ := hpost
    refine z_dast (s := s.setDrawn d1) (n := 1) (i := 0) hx hb hK hP hD hS 31 0 rfl rfl (by decide) (by decide) dL_coupled_13 (fun H locs hP hD hS => ?_)
    have hP : va_P (dC, dI) vwCl (w4d oD aC aP pT pR pN pB bP bF bL bH aM aQ mS mR mT ro0 ro1 ro2 ro3 aK kQ kS kR kT ko0 ko1 ko2 ko3 aW pW pX cD cI cQ iw ih al ac de nb im ik iq tT tR tN uP uF uL uH e0 e1 e2 e3 qS qU qO ke0 ke1 ke2 ke3 ksq ksr kst tW tX (zu od 0 r9)) H := hP
    have hD : va_D A (w4d oD aC aP pT pR pN pB bP bF bL bH aM aQ mS mR mT ro0 ro1 ro2 ro3 aK kQ kS kR kT ko0 ko1 ko2 ko3 aW pW pX cD cI cQ iw ih al ac de nb im ik iq tT tR tN uP uF uL uH e0 e1 e2 e3 qS qU qO ke0 ke1 ke2 ke3 ksq ksr kst tW tX (zu od 0 r9)) := hD
    refine lv_goto (tgt := 29) hx hb dL_coupled_14 (by decide) ?_
    refine lv_iconst (v := (nI 0)) hx hb dL_coupled_29 (by decide) ?_
    refine W.endD hd1 ?_
    refine W.widen (k := 4) (n := 24) (Nat.le_of_ble_eq_true rfl) (Nat.le_of_ble_eq_true rfl) ?_
    exact W.iret (v := (nI 0)) hx hb hr (fun t ht hW => ⟨⟨(nI 0), zu od 0 r9, rfl, ⟨by rw [hcode] <;> rfl, fun _ => by rw [zu_s]; exact hr9, fun q => absurd hcode q⟩, by rw [ht]; exact hP, va_K.moved hW.alike hK, hD⟩, hS.F ht⟩) hS.2.2 dL_coupled_30
set_option maxHeartbeats 4000000 in
set_option maxRecDepth 100000 in
/-- tap: the helper -/
theorem cL_tap_c (l : Launch) (hst : l.stackTraces = false) (dC : Nat → ClassId) (dI : Nat → Nat → Nat) (aC aP pT pR pN pB bP bF bL bH aM aQ mS mR mT ro0 ro1 ro2 ro3 aK kQ kS kR kT ko0 ko1 ko2 ko3 aW pW pX : Nat) (cD cI cQ cL : ClassId) (iw ih : Nat) (al ac de : UInt64) (nb im ik iq : Nat) (tT tR tN : Nat → UInt64) (uP uF uL : Nat → Int32) (uH e0 e1 e2 e3 qS qU qO ke0 ke1 ke2 ke3 ksq ksr kst : Nat → UInt64) (tW : Nat → Int32) (tX : Nat → UInt64) (oD : Nat) (od : Nat → UInt64) (hw6 : iw ≤ 6) (hh6 : ih ≤ 6) (T RX NX : Nat → ZD) (gT : zcr tT (iw * ih) T) (hq : qCm iw ih im T RX NX (zv de) e0 e1 e2 e3 qS qU qO) (k x y : Int32) (va : UInt64) (sz : Nat) : MetD lw_cs l yL_tap wsL_tap ({ frames := 8, cells := 4, slots := 24, locals := 144 } : Room) (va_Pc [.ref aC, .int k, .int x, .int y, .double va, .ref oD] (fun U => U.heap.size = sz ∧ va_P (dC, dI) vwCl (w4d oD aC aP pT pR pN pB bP bF bL bH aM aQ mS mR mT ro0 ro1 ro2 ro3 aK kQ kS kR kT ko0 ko1 ko2 ko3 aW pW pX cD cI cQ iw ih al ac de nb im ik iq tT tR tN uP uF uL uH e0 e1 e2 e3 qS qU qO ke0 ke1 ke2 ke3 ksq ksr kst tW tX od) U.heap ∧ va_K (dC, dI) vwCl [(cD, .double), (cI, .int), (cQ, .array .double), (cL, .long)] U ∧ zNw U ∧ zXE (va_A (w4d oD aC aP pT pR pN pB bP bF bL bH aM aQ mS mR mT ro0 ro1 ro2 ro3 aK kQ kS kR kT ko0 ko1 ko2 ko3 aW pW pX cD cI cQ iw ih al ac de nb im ik iq tT tR tN uP uF uL uH e0 e1 e2 e3 qS qU qO ke0 ke1 ke2 ke3 ksq ksr kst tW tX od) sz) U U.heap ∧ zXN U ∧ va_D (fun _ => True) (w4d oD aC aP pT pR pN pB bP bF bL bH aM aQ mS mR mT ro0 ro1 ro2 ro3 aK kQ kS kR kT ko0 ko1 ko2 ko3 aW pW pX cD cI cQ iw ih al ac de nb im ik iq tT tR tN uP uF uL uH e0 e1 e2 e3 qS qU qO ke0 ke1 ke2 ke3 ksq ksr kst tW tX od))) (va_Qi (fun (r : Int32) (u : Nat → UInt64) => r = nI (zcT iw ih im k x y (zv va)) ∧ (zcT iw ih im k x y (zv va) = 0 → zv (u 0) = ztapV ((zshp iw ih T RX NX (zv de) (zn k)) (zn y * iw + zn x)) (zv va) (zN (zsq iw ih T RX NX (zshp iw ih T RX NX (zv de) (zn k)) (iw * ih)))) ∧ (¬ zcT iw ih im k x y (zv va) = 0 → u = od)) (fun u t => (va_P (dC, dI) vwCl (w4d oD aC aP pT pR pN pB bP bF bL bH aM aQ mS mR mT ro0 ro1 ro2 ro3 aK kQ kS kR kT ko0 ko1 ko2 ko3 aW pW pX cD cI cQ iw ih al ac de nb im ik iq tT tR tN uP uF uL uH e0 e1 e2 e3 qS qU qO ke0 ke1 ke2 ke3 ksq ksr kst tW tX u) t.heap ∧ va_K (dC, dI) vwCl [(cD, .double), (cI, .int), (cQ, .array .double), (cL, .long)] t ∧ va_D (va_A (w4d oD aC aP pT pR pN pB bP bF bL bH aM aQ mS mR mT ro0 ro1 ro2 ro3 aK kQ kS kR kT ko0 ko1 ko2 ko3 aW pW pX cD cI cQ iw ih al ac de nb im ik iq tT tR tN uP uF uL uH e0 e1 e2 e3 qS qU qO ke0 ke1 ke2 ke3 ksq ksr kst tW tX od) sz) (w4d oD aC aP pT pR pN pB bP bF bL bH aM aQ mS mR mT ro0 ro1 ro2 ro3 aK kQ kS kR kT ko0 ko1 ko2 ko3 aW pW pX cD cI cQ iw ih al ac de nb im ik iq tT tR tN uP uF uL uH e0 e1 e2 e3 qS qU qO ke0 ke1 ke2 ke3 ksq ksr kst tW tX u))) (va_A (w4d oD aC aP pT pR pN pB bP bF bL bH aM aQ mS mR mT ro0 ro1 ro2 ro3 aK kQ kS kR kT ko0 ko1 ko2 ko3 aW pW pX cD cI cQ iw ih al ac de nb im ik iq tT tR tN uP uF uL uH e0 e1 e2 e3 qS qU qO ke0 ke1 ke2 ke3 ksq ksr kst tW tX od) sz)) 4 24 (va_A (w4d oD aC aP pT pR pN pB bP bF bL bH aM aQ mS mR mT ro0 ro1 ro2 ro3 aK kQ kS kR kT ko0 ko1 ko2 ko3 aW pW pX cD cI cQ iw ih al ac de nb im ik iq tT tR tN uP uF uL uH e0 e1 e2 e3 qS qU qO ke0 ke1 ke2 ke3 ksq ksr kst tW tX od) sz) := by
  refine zy_ofWHD (cc := cL_tap) (maxL := 8) (ret := (some .int)) (hh := [(0, 13, 16, 13), (0, 13, 20, 15), (0, 13, 24, 25)]) (by decide) rfl ?_
  intro p e s m args below meth c s₁ B hml htab hv hd0
  obtain ⟨rfl, hsz, hP, hK, hN, hE, hXN, hD0⟩ := hv
  have hx := B.exec
  have hb := B.bytes
  have hr := B.returns
  have hts := atoms_spec (ws := wsL_tap) B.pre
  have hown : s.vm.findClass RL = some m.cls := findClass_of_methodNamed B.named
  have hlocks := B.notSynchronized
  subst hsz
  have hD := hD0.self (sz := s.heap.size)
  generalize hAe : va_A (w4d oD aC aP pT pR pN pB bP bF bL bH aM aQ mS mR mT ro0 ro1 ro2 ro3 aK kQ kS kR kT ko0 ko1 ko2 ko3 aW pW pX cD cI cQ iw ih al ac de nb im ik iq tT tR tN uP uF uL uH e0 e1 e2 e3 qS qU qO ke0 ke1 ke2 ke3 ksq ksr kst tW tX od) s.heap.size = A at hD hE ⊢
  have hA : ∀ q : Nat, s.heap.size ≤ q → A q := fun q h => by rw [← hAe]; exact Or.inr h
  have hS : va_S A s.heap s.heap [] := va_S.rf
  have hl := lv_entry ([.ref aC, .int k, .int x, .int y, .double va, .ref oD]) (n := 8) (Nat.le_of_ble_eq_true rfl)
  rw [lg_entry_eq]
  generalize (lg_sl ([.ref aC, .int k, .int x, .int y, .double va, .ref oD]) ++ List.replicate (8 - (lg_sl ([.ref aC, .int k, .int x, .int y, .double va, .ref oD])).length) Slot.unset).toArray = ls at hl ⊢
  have hl : lv_has ls 8 [(0, .ref aC), (1, .int k), (2, .int x), (3, .int y), (4, .double va), (6, .ref oD)] := hl
  have hn36 : iw * ih ≤ 36 := Nat.mul_le_mul hw6 hh6
  refine lv_aload hx hb dL_tap_0 (lv_at hl 5 rfl) ?_
  refine lv_iconst (v := (nI 0)) hx hb dL_tap_2 (by decide) ?_
  refine lv_aload_n hx hb dL_tap_3 rfl (lv_at hl 0 rfl) ?_
  refine lv_iload_n hx hb dL_tap_4 rfl (lv_at hl 1 rfl) ?_
  refine lv_iload_n hx hb dL_tap_5 rfl (lv_at hl 2 rfl) ?_
  refine lv_iload_n hx hb dL_tap_6 rfl (lv_at hl 3 rfl) ?_
  refine lv_dload hx hb dL_tap_7 (lv_at hl 4 rfl) ?_
  have hPc := hP.sub (ws' := (w4 aC aP pT pR pN pB bP bF bL bH aM aQ mS mR mT ro0 ro1 ro2 ro3 aK kQ kS kR kT ko0 ko1 ko2 ko3 aW pW pX cD cI cQ iw ih al ac de nb im ik iq tT tR tN uP uF uL uH e0 e1 e2 e3 qS qU qO ke0 ke1 ke2 ke3 ksq ksr kst tW tX)) [0, 1, 2, 3, 4, 5, 6, 7, 8, 9, 10, 11, 12, 13, 14, 15, 16, 17, 18, 19, 20, 21, 22, 23, 24, 25, 26, 27, 28, 29, 30] rfl
  have hK3 := hK.sub (tys' := [(cD, .double), (cI, .int), (cQ, .array .double)]) [0, 1, 2] rfl
  refine zx_calldD hd0 (zx_runVD (As := [.int k, .int x, .int y, .double va]) (rest := [.int (nI 0), .ref oD]) ⟨hx, hb, hml, hown, (dr_words hts s.drawn)⟩ (c4_tap l hst dC dI aC aP pT pR pN pB bP bF bL bH aM aQ mS mR mT ro0 ro1 ro2 ro3 aK kQ kS kR kT ko0 ko1 ko2 ko3 aW pW pX cD cI cQ iw ih al ac de nb im ik iq tT tR tN uP uF uL uH e0 e1 e2 e3 qS qU qO ke0 ke1 ke2 ke3 ksq ksr kst tW tX hw6 hh6 T RX NX gT hq k x y va) (cwV 4 (dr_words hts s.drawn) gL_tap_X4_tap rfl rfl rfl (by decide +kernel) ⟨(Nat.le_of_ble_eq_true rfl), (Nat.le_of_ble_eq_true rfl)⟩) ⟨zfbX, va_recv hK3 hPc (ci := 4) (q0 := 0) rfl rfl, zpreX hPc hK3 (by first | exact hN | exact hN.sd) (by first | exact hE | exact hE.sd) hS⟩ rfl rfl hl.1 rfl (lv_room (Nat.le_of_ble_eq_true rfl)) dL_tap_9 ⟨(Nat.le_of_ble_eq_true rfl), (Nat.le_of_ble_eq_true rfl)⟩) hS (fun q _ h => h.elim) (fun q h => h.elim) (fun q _ h => h.elim) (fun E9 ce9 q9 u9 t9 H1 locs1 d1 hd1 ht9 hvm9 hpx hBX hz9 hk1 hS1 hce hcv hcl => ?_) (fun r9 u9 t9 H1 locs1 d1 hd1 ht9 hvm9 hpost hB9 hz9 hk1 hS1 => ?_)
  · skip
    have hS := hS1
    have hu9 : u9 = 1 ∨ u9 = 2 ∨ u9 = 3 := by have h1 := hpx.1; have h2 := hpx.2; have h3 := zcT_le (iw := iw) (ih := ih) (M := im) (k := k) (x := x) (y := y) (v := zv va); omega
    have hE9 := hBX
    rcases hu9 with hu9 | hu9 | hu9
    · skip
      obtain rfl : E9 = zIO := by rw [hE9, hu9]; rfl
      refine vx_catch (own := RL) (name := zIO) (E := zIO) (ce := ce9) hown [] ⟨0, 13, 16, 13⟩ [⟨0, 13, 20, 15⟩, ⟨0, 13, 24, 25⟩] (by rw [htab]; rfl) (fun _ h => absurd h List.not_mem_nil) rfl (by decide) (dr_words hts d1 (.classLink RL 13 "java/lang/IndexOutOfBoundsException") (by decide +kernel)) (va_Nw.use rfl (hE.sd.2.2.1 zIO (by decide))) hce hcv hcl ?_
      have hP := zro1 hP hk1
      generalize H1 = H at hP hS ⊢
      refine lv_astore (lv' := [(7, .ref q9), (0, .ref aC), (1, .int k), (2, .int x), (3, .int y), (4, .double va), (6, .ref oD)]) hx hb dL_tap_16 hl (by decide) rfl (fun ls hl => ?_)
      refine lv_iconst (v := (nI 1)) hx hb dL_tap_18 (by decide) ?_
      refine W.endD hd1 ?_
      refine W.widen (k := 4) (n := 24) (Nat.le_of_ble_eq_true rfl) (Nat.le_of_ble_eq_true rfl) ?_
      exact W.iret (v := (nI 1)) hx hb hr (fun t ht hW => ⟨⟨(nI 1), od, rfl, ⟨by rw [show (zcT iw ih im k x y (zv va)) = 1 from hpx.1.symm.trans hu9] <;> rfl, fun q => absurd (hpx.1.trans q) hpx.2, fun _ => rfl⟩, by rw [ht]; exact hP, va_K.moved hW.alike hK, hD⟩, hS.F ht⟩) hS.2.2 dL_tap_19
    · skip
      obtain rfl : E9 = zIA := by rw [hE9, hu9]; rfl
      refine vx_catch (own := RL) (name := zIA) (E := zIA) (ce := ce9) hown [⟨0, 13, 16, 13⟩] ⟨0, 13, 20, 15⟩ [⟨0, 13, 24, 25⟩] (by rw [htab]; rfl) (List.forall_mem_cons.mpr ⟨Or.inr ⟨by decide, zIO, (dr_words hts d1 (.classLink RL 13 "java/lang/IndexOutOfBoundsException") (by decide +kernel)), hXN.sd.1⟩, (fun _ h => absurd h List.not_mem_nil)⟩) rfl (by decide) (dr_words hts d1 (.classLink RL 15 "java/lang/IllegalArgumentException") (by decide +kernel)) (va_Nw.use rfl (hE.sd.2.2.1 zIA (by decide))) hce hcv hcl ?_
      have hP := zro1 hP hk1
      generalize H1 = H at hP hS ⊢
      refine lv_astore (lv' := [(7, .ref q9), (0, .ref aC), (1, .int k), (2, .int x), (3, .int y), (4, .double va), (6, .ref oD)]) hx hb dL_tap_20 hl (by decide) rfl (fun ls hl => ?_)
      refine lv_iconst (v := (nI 2)) hx hb dL_tap_22 (by decide) ?_
      refine W.endD hd1 ?_
      refine W.widen (k := 4) (n := 24) (Nat.le_of_ble_eq_true rfl) (Nat.le_of_ble_eq_true rfl) ?_
      exact W.iret (v := (nI 2)) hx hb hr (fun t ht hW => ⟨⟨(nI 2), od, rfl, ⟨by rw [show (zcT iw ih im k x y (zv va)) = 2 from hpx.1.symm.trans hu9] <;> rfl, fun q => absurd (hpx.1.trans q) hpx.2, fun _ => rfl⟩, by rw [ht]; exact hP, va_K.moved hW.alike hK, hD⟩, hS.F ht⟩) hS.2.2 dL_tap_23
    · skip
      obtain rfl : E9 = zIS := by rw [hE9, hu9]; rfl
      refine vx_catch (own := RL) (name := zIS) (E := zIS) (ce := ce9) hown [⟨0, 13, 16, 13⟩, ⟨0, 13, 20, 15⟩] ⟨0, 13, 24, 25⟩ [] (by rw [htab]; rfl) (List.forall_mem_cons.mpr ⟨Or.inr ⟨by decide, zIO, (dr_words hts d1 (.classLink RL 13 "java/lang/IndexOutOfBoundsException") (by decide +kernel)), hXN.sd.2.1⟩, (List.forall_mem_cons.mpr ⟨Or.inr ⟨by decide, zIA, (dr_words hts d1 (.classLink RL 15 "java/lang/IllegalArgumentException") (by decide +kernel)), hXN.sd.2.2⟩, (fun _ h => absurd h List.not_mem_nil)⟩)⟩) rfl (by decide) (dr_words hts d1 (.classLink RL 25 "java/lang/IllegalStateException") (by decide +kernel)) (va_Nw.use rfl (hE.sd.2.2.1 zIS (by decide))) hce hcv hcl ?_
      have hP := zro1 hP hk1
      generalize H1 = H at hP hS ⊢
      refine lv_astore (lv' := [(7, .ref q9), (0, .ref aC), (1, .int k), (2, .int x), (3, .int y), (4, .double va), (6, .ref oD)]) hx hb dL_tap_24 hl (by decide) rfl (fun ls hl => ?_)
      refine lv_iconst (v := (nI 3)) hx hb dL_tap_26 (by decide) ?_
      refine W.endD hd1 ?_
      refine W.widen (k := 4) (n := 24) (Nat.le_of_ble_eq_true rfl) (Nat.le_of_ble_eq_true rfl) ?_
      exact W.iret (v := (nI 3)) hx hb hr (fun t ht hW => ⟨⟨(nI 3), od, rfl, ⟨by rw [show (zcT iw ih im k x y (zv va)) = 3 from hpx.1.symm.trans hu9] <;> rfl, fun q => absurd (hpx.1.trans q) hpx.2, fun _ => rfl⟩, by rw [ht]; exact hP, va_K.moved hW.alike hK, hD⟩, hS.F ht⟩) hS.2.2 dL_tap_27
  · skip
    have hS := hS1
    have hP := zro1 hP hk1
    generalize H1 = H at hP hS ⊢
    obtain ⟨hcode, hr9⟩ := hpost
    refine z_dast (s := s.setDrawn d1) (n := 1) (i := 0) hx hb hK hP hD hS 31 0 rfl rfl (by decide) (by decide) dL_tap_12 (fun H locs hP hD hS => ?_)
    have hP : va_P (dC, dI) vwCl (w4d oD aC aP pT pR pN pB bP bF bL bH aM aQ mS mR mT ro0 ro1 ro2 ro3 aK kQ kS kR kT ko0 ko1 ko2 ko3 aW pW pX cD cI cQ iw ih al ac de nb im ik iq tT tR tN uP uF uL uH e0 e1 e2 e3 qS qU qO ke0 ke1 ke2 ke3 ksq ksr kst tW tX (zu od 0 r9)) H := hP
    have hD : va_D A (w4d oD aC aP pT pR pN pB bP bF bL bH aM aQ mS mR mT ro0 ro1 ro2 ro3 aK kQ kS kR kT ko0 ko1 ko2 ko3 aW pW pX cD cI cQ iw ih al ac de nb im ik iq tT tR tN uP uF uL uH e0 e1 e2 e3 qS qU qO ke0 ke1 ke2 ke3 ksq ksr kst tW tX (zu od 0 r9)) := hD
    refine lv_goto (tgt := 28) hx hb dL_tap_13 (by decide) ?_
    refine lv_iconst (v := (nI 0)) hx hb dL_tap_28 (by decide) ?_
    refine W.endD hd1 ?_
    refine W.widen (k := 4) (n := 24) (Nat.le_of_ble_eq_true rfl) (Nat.le_of_ble_eq_true rfl) ?_
    exact W.iret (v := (nI 0)) hx hb hr (fun t ht hW => ⟨⟨(nI 0), zu od 0 r9, rfl, ⟨by rw [hcode] <;> rfl, fun _ => by rw [zu_s]; exact hr9, fun q => absurd hcode q⟩, by rw [ht]; exact hP, va_K.moved hW.alike hK, hD⟩, hS.F ht⟩) hS.2.2 dL_tap_29
