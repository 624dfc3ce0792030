/-! 89: the law: its start -/
theorem st_N {b : Nat} {s : State} (htb : ∀ w ∈ lw_tbl, w.before #[Value.ref b] s = true) : zNw s := ⟨va_Nw.of rfl (htb _ (by decide +kernel)), va_Nw.of rfl (htb _ (by decide +kernel))⟩
theorem st_str1 : ∀ q ∈ zstr, Cond.stringRef RX4 q.1 q.2 ∈ lw_tbl := by decide +kernel
theorem st_str2 : ∀ q ∈ zstr, Cond.exactly (.string RX4 q.1) "java/lang/String" ∈ flatC (Jvm.Cond.and given_1 narrow_1) := by decide +kernel
theorem st_cls : ∀ X ∈ zcls3, Cond.castable X X ∈ lw_tbl := by decide +kernel
theorem st_E {b : Nat} {s : State} (htb : ∀ w ∈ lw_tbl, w.before #[Value.ref b] s = true) (hgv : (Jvm.Cond.and given_1 narrow_1).before #[Value.ref b] s = true) : zXE (zAn s) s s.heap := by
  have hs := flat_of_before _ hgv
  have hA : ∀ a : Nat, a < s.heap.size → ¬ zAn s a := fun a h => Nat.not_le.mpr h
  refine ⟨⟨vx_Zqof (htb _ (by decide +kernel)) (htb _ (by decide +kernel)) (hs _ (by decide +kernel)) hA, vx_Zqof (htb _ (by decide +kernel)) (htb _ (by decide +kernel)) (hs _ (by decide +kernel)) hA⟩, ⟨va_Nw.of rfl (htb _ (by decide +kernel)), va_Nw.of rfl (htb _ (by decide +kernel)), va_Nw.of rfl (htb _ (by decide +kernel))⟩, fun X hX => va_Nw.of rfl (htb _ (st_cls X hX)), fun q hq => ?_⟩
  obtain ⟨a, c, cA, kA, q1, -⟩ := Cond.exactly_spec (args := #[Value.ref b]) (first := s) (o := none) (s := s) (idx := []) (t := .string RX4 q.1) (cls := "java/lang/String") (hs _ (st_str2 q hq))
  exact ⟨a, vk_R.of (htb _ (st_str1 q hq)) q1⟩
theorem st_X {b : Nat} {s : State} (hgv : (Jvm.Cond.and given_1 narrow_1).before #[Value.ref b] s = true) : zXN s := by
  have hs := flat_of_before _ hgv
  exact ⟨va_Nc.of (hs _ (by decide +kernel)), va_Nc.of (hs _ (by decide +kernel)), va_Nc.of (hs _ (by decide +kernel))⟩
theorem st_arr {U : State} {ty : FieldType} {args : Array Value} (h : (Cond.arrayClass ty).before args U = true) : ∃ cA, ArrOfT U cA ty ∧ U.vm.findClass ("[" ++ ty.toString) = some cA := by
  obtain ⟨cA, k, comp, h1, h2, h3⟩ := Cond.arrayClass_spec h
  exact ⟨cA, fun n z => ⟨fun k h => (by cases h), k, h2, comp, h3⟩, h1⟩
theorem st_arr2 {U : State} {ty : FieldType} {args : Array Value} (h : (Cond.arrayOver (.array ty)).before args U = true) : ∃ cA, ArrOfT U cA (.array ty) ∧ U.vm.findClass ("[" ++ (FieldType.array ty).toString) = some cA := by
  obtain ⟨comp, cA, k, h1, h2, h3, h4⟩ := Cond.arrayOver_specA h
  exact ⟨cA, fun n z => ⟨fun k h => (by cases h), k, h2, comp, h3⟩, h4⟩
theorem st_tys {b : Nat} {s : State} (htb : ∀ w ∈ lw_tbl, w.before #[Value.ref b] s = true) : ∃ cD cI cQ cL : ClassId, ∀ (k : Nat) (q : ClassId × FieldType), [(cD, .double), (cI, .int), (cQ, .array .double), (cL, .long)][k]? = some q → ArrOfT s q.1 q.2 ∧ va_RA s q.1 q.2 := by
  obtain ⟨cD, d1, d2⟩ := st_arr (htb (.arrayClass .double) (by decide +kernel))
  obtain ⟨cI, i1, i2⟩ := st_arr (htb (.arrayClass .int) (by decide +kernel))
  obtain ⟨cQ, q1, q2⟩ := st_arr2 (htb (.arrayOver (.array .double)) (by decide +kernel))
  obtain ⟨cL, l1, l2⟩ := st_arr (htb (.arrayClass .long) (by decide +kernel))
  refine ⟨cD, cI, cQ, cL, fun k q hq => ?_⟩
  match k, hq with
  | 0, hq => cases hq; exact ⟨d1, d2⟩
  | 1, hq => cases hq; exact ⟨i1, i2⟩
  | 2, hq => cases hq; exact ⟨q1, q2⟩
  | 3, hq => cases hq; exact ⟨l1, l2⟩
  | k + 4, hq => simp at hq
theorem st_cls6 {b : Nat} {s : State} (htb : ∀ w ∈ lw_tbl, w.before #[Value.ref b] s = true) : ∃ (dC : Nat → ClassId) (dI : Nat → Nat → Nat), ∀ (k : Nat) (q : vw_C), vwCl[k]? = some q → u_Kn s q.1 q.2.1 q.2.2 (dC k) (dI k) := by
  obtain ⟨c0, i0, k0⟩ := u_known (C := RX0) (T := TX0) (N := 5) (n := 5) htb inX0 (htb (.instantiable RX0 5) (by decide +kernel))
  obtain ⟨c1, i1, k1⟩ := u_known (C := RX1) (T := TX1) (N := 6) (n := 6) htb inX1 (htb (.instantiable RX1 6) (by decide +kernel))
  obtain ⟨c2, i2, k2⟩ := u_known (C := RX2) (T := TX2) (N := 9) (n := 9) htb inX2 (htb (.instantiable RX2 9) (by decide +kernel))
  obtain ⟨c3, i3, k3⟩ := u_known (C := RX3) (T := TX3) (N := 3) (n := 3) htb inX3 (htb (.instantiable RX3 3) (by decide +kernel))
  obtain ⟨c4, i4, k4⟩ := u_known (C := RX4) (T := TX4) (N := 4) (n := 4) htb inX4 (htb (.instantiable RX4 4) (by decide +kernel))
  obtain ⟨c5, i5, k5⟩ := u_known (C := RX5) (T := TX5) (N := 19) (n := 19) htb inX5 (htb (.instantiable RX5 19) (by decide +kernel))
  refine ⟨fun k => if k = 0 then c0 else if k = 1 then c1 else if k = 2 then c2 else if k = 3 then c3 else if k = 4 then c4 else c5, fun k => if k = 0 then i0 else if k = 1 then i1 else if k = 2 then i2 else if k = 3 then i3 else if k = 4 then i4 else i5, ?_⟩
  intro k q hq
  match k, hq with
  | 0, hq => cases hq; exact k0
  | 1, hq => cases hq; exact k1
  | 2, hq => cases hq; exact k2
  | 3, hq => cases hq; exact k3
  | 4, hq => cases hq; exact k4
  | 5, hq => cases hq; exact k5
  | k + 6, hq => simp at hq
theorem zeR_1 : zeR (zv FP.dconst1) := zeR_of (FP.Core.val64_fits _) (by decide +kernel)
/-- the int at a place of the script, 0 behind its end -/
theorem cL_cell_c (l : Launch) (b L : Nat) (xs : Nat → Int32) (k : Nat) (hk : k < 2 ^ 30) (hL : L < 2 ^ 30) : Met l yL_cell wsL_cell ({ frames := 0, cells := 0, slots := 0, locals := 0 } : Room) (va_Pc [.ref b, .int (nI k)] (fun U => va_X b L xs U U.heap ∧ b < U.heap.size)) (va_Qi (fun (r : Int32) (_ : Unit) => r = if k < L then xs k else 0) (fun _ _ => True) (fun _ => False)) 0 0 (fun _ => False) := by
  refine Met.ofW (cc := cL_cell) (maxL := 2) (ret := (some .int)) (by decide) rfl ?_
  intro p e s m args below meth c s₁ B hml hv
  obtain ⟨rfl, hX, hbl⟩ := hv
  have hx := B.exec
  have hb := B.bytes
  have hr := B.returns
  have hS : va_S (fun _ => False) s.heap s.heap [] := va_S.rf
  have hl := lv_entry ([.ref b, .int (nI k)]) (n := 2) (Nat.le_of_ble_eq_true rfl)
  rw [lg_entry_eq]
  generalize (lg_sl ([.ref b, .int (nI k)]) ++ List.replicate (2 - (lg_sl ([.ref b, .int (nI k)])).length) Slot.unset).toArray = ls at hl ⊢
  have hl : lv_has ls 2 [(0, .ref b), (1, .int (nI k))] := hl
  refine lv_iload_n hx hb dL_cell_0 rfl (lv_at hl 1 rfl) ?_
  refine lv_aload_n hx hb dL_cell_1 rfl (lv_at hl 0 rfl) ?_
  refine va_slen hx hb hX hbl (fun h => h) hS dL_cell_2 ?_
  refine lv_icmp_ge (tgt := 12) hx hb dL_cell_3 (by decide) (fun hg => ?_) (fun hg => ?_)
  · have hg2 : ¬ k < L := fun h => absurd (nI_lt h (by omega)) (Int32.not_lt.mpr hg)
    refine lv_iconst (v := 0) hx hb dL_cell_12 (by decide) ?_
    exact W.iret hx hb hr (fun t ht hW => ⟨⟨_, (), rfl, ⟨by rw [if_neg hg2], trivial⟩⟩, hS.F ht⟩) hS.2.2 dL_cell_13
  · have hg2 : k < L := (nI_ltI (by omega) (by omega)).mp (Int32.not_le.mp hg)
    refine lv_aload_n hx hb dL_cell_6 rfl (lv_at hl 0 rfl) ?_
    refine lv_iload_n hx hb dL_cell_7 rfl (lv_at hl 1 rfl) ?_
    refine z_sld hx hb hX hbl (fun h => h) hS hg2 (by omega) dL_cell_8 ?_
    refine lv_goto (tgt := 13) hx hb dL_cell_9 (by decide) ?_
    exact W.iret hx hb hr (fun t ht hW => ⟨⟨_, (), rfl, ⟨by rw [if_pos hg2], trivial⟩⟩, hS.F ht⟩) hS.2.2 dL_cell_13
theorem zfbC {av : List Value} {b L : Nat} {xs : Nat → Int32} : FrameBlind (va_Pc av (fun U => va_X b L xs U U.heap ∧ b < U.heap.size)) := fun a U g mk q => ⟨q.1, va_X.moved (u := U) (U := U.calling g mk a) (Vm.Alike.refl U.vm) q.2.1, q.2.2⟩
theorem zpreC {av : List Value} {b L : Nat} {xs : Nat → Int32} {A : Nat → Prop} {H : Heap} {locs : List Loc} {s : State} (hX : va_X b L xs s s.heap) (hbl : b < s.heap.size) (hbA : ¬ A b) (hS : va_S A s.heap H locs) : ∀ U : State, U.heap = H → s.WarmedH U.vm → va_Pc av (fun U => va_X b L xs U U.heap ∧ b < U.heap.size) av.toArray U := fun U hU hW => ⟨rfl, by rw [hU]; exact va_X.moved hW.alike (va_X.kept hX (hS.2.1 b hbl hbA)), by rw [hU]; exact Nat.lt_of_lt_of_le hbl hS.1⟩
set_option maxHeartbeats 4000000 in
set_option maxRecDepth 100000 in
/-- THE LAW, from its entry: it comes to its end with true -/
theorem whole_start {p : Program} {e : Env} {s : State} {m : MethodId} {below : List Frame} {meth : Method} {c : Code} (l : Launch) (hflags : l.flags = flags0) {b L : Nat} {xs : Nat → Int32} (hL : L ≤ 3074) (C0 : lw_At p s m meth c b L xs) : W p l e room_1 s m #[Value.ref b] below meth c s.heap [] 0 0 (lw_Z below #[Value.ref b] s) (entryFrame m ([Value.ref b] : List Value).toArray 10) := by
  obtain ⟨hx, hb, hr, hml, hown, htb, hX, hbl, hlocks, hgv⟩ := id C0
  have hts : ∀ w ∈ wsL_law, w.before #[Value.ref b] s = true := fun w h => htb w (wsL_law_in w h)
  have hst : l.stackTraces = false := by unfold Launch.stackTraces; rw [hflags]; decide
  have hA : ∀ q : Nat, s.heap.size ≤ q → zAn s q := fun _ h => h
  have hbA : ¬ zAn s b := Nat.not_le.mpr hbl
  have hN := st_N htb
  have hE := st_E htb hgv
  have hXN := st_X hgv
  obtain ⟨dC, dI, hKc⟩ := st_cls6 htb
  obtain ⟨cD, cI, cQ, cL, hKt⟩ := st_tys htb
  have hK : va_K (dC, dI) vwCl [(cD, .double), (cI, .int), (cQ, .array .double), (cL, .long)] s := ⟨hKc, hKt⟩
  have hK3 := hK.sub (tys' := [(cD, .double), (cI, .int), (cQ, .array .double)]) [0, 1, 2] rfl
  have hK2 := hK.sub (tys' := [(cD, .double), (cI, .int)]) [0, 1] rfl
  have hAO : va_AOA .double s := va_AOA.of (htb (.arrayOver (.array .double)) (by decide +kernel))
  have hS : va_S (zAn s) s.heap s.heap [] := va_S.rf
  have hP : va_P (dC, dI) vwCl [] s.heap := fun k q h => by simp at h
  have hD : va_D (zAn s) [] := ⟨fun i j p q h => by simp at h, fun k q h => by simp at h⟩
  have hl := lv_entry ([.ref b]) (n := 10) (Nat.le_of_ble_eq_true rfl)
  rw [lg_entry_eq]
  generalize (lg_sl ([.ref b]) ++ List.replicate (10 - (lg_sl ([.ref b])).length) Slot.unset).toArray = ls at hl ⊢
  have hl : lv_has ls 10 [(0, .ref b)] := hl
  refine va_new (ci := 4) (fs := [.null, .null, .null, .null]) (C := RX4) (T := TX4) (N := 4) hx hb htb inX4 tyX4 tyX4_ok hown (htb (.classLink RL 8 RX4) (by decide +kernel)) (htb (.instantiable RX4 4) (by decide +kernel)) (htb (.initialized RX4) (by decide +kernel)) hK hP hD hS hA rfl (fun j hj => by rcases (show j = 0 ∨ j = 1 ∨ j = 2 ∨ j = 3 by omega) with rfl | rfl | rfl | rfl <;> rfl) (Nat.le_of_ble_eq_true rfl) (Nat.le_of_ble_eq_true rfl) dL_law_0 (fun aC H hP hD hS => ?_)
  have hP : va_P (dC, dI) vwCl [(aC, .inr (4, [.null, .null, .null, .null]))] H := hP
  have hD : va_D (zAn s) [(aC, .inr (4, [.null, .null, .null, .null]))] := hD
  refine lv_dup hx hb dL_law_3 rfl ?_
  refine lv_aload_n hx hb dL_law_4 rfl (lv_at hl 0 rfl) ?_
  refine lv_iconst (v := nI 0) hx hb dL_law_5 (by decide) ?_
  refine va_calli (va_runS (As := [.ref b, .int (nI 0)]) (rest := [.ref aC, .ref aC]) ⟨hx, hb, hml, hown, hts⟩ (cL_cell_c l b L xs 0 (by decide) (by omega)) (va_cwS 2 hts gL_law_L_cell rfl rfl rfl (by decide +kernel) ⟨(Nat.le_of_ble_eq_true rfl), (Nat.le_of_ble_eq_true rfl)⟩) ⟨zfbC, zpreC hX hbl hbA hS⟩ rfl rfl hl.1 rfl (lv_room (Nat.le_of_ble_eq_true rfl)) dL_law_6 ⟨(Nat.le_of_ble_eq_true rfl), (Nat.le_of_ble_eq_true rfl)⟩) hS (fun q _ h => h.elim) (fun q h => h.elim) (fun r6 u9 t9 H locs ht9 hvm9 hr6 hB9 hz9 hk1 hS => ?_)
  have hP := zro1 hP hk1
  subst hr6
  refine lv_aload_n hx hb dL_law_9 rfl (lv_at hl 0 rfl) ?_
  refine lv_iconst (v := nI 1) hx hb dL_law_10 (by decide) ?_
  refine va_calli (va_runS (As := [.ref b, .int (nI 1)]) (rest := [.int (if 0 < L then xs 0 else 0), .ref aC, .ref aC]) ⟨hx, hb, hml, hown, hts⟩ (cL_cell_c l b L xs 1 (by decide) (by omega)) (va_cwS 2 hts gL_law_L_cell rfl rfl rfl (by decide +kernel) ⟨(Nat.le_of_ble_eq_true rfl), (Nat.le_of_ble_eq_true rfl)⟩) ⟨zfbC, zpreC hX hbl hbA hS⟩ rfl rfl hl.1 rfl (lv_room (Nat.le_of_ble_eq_true rfl)) dL_law_11 ⟨(Nat.le_of_ble_eq_true rfl), (Nat.le_of_ble_eq_true rfl)⟩) hS (fun q _ h => h.elim) (fun q h => h.elim) (fun r11 u9 t9 H locs ht9 hvm9 hr11 hB9 hz9 hk1 hS => ?_)
  have hP := zro1 hP hk1
  subst hr11
  have hPc := hP.sub (ws' := [(aC, .inr (4, [.null, .null, .null, .null]))]) [0] rfl
  have hDc := hD.sub (ws' := [(aC, .inr (4, [.null, .null, .null, .null]))]) [0] (by decide) rfl
  have hFc := va_free (wc := [(aC, .inr (4, [.null, .null, .null, .null]))]) hD hS hA [0] rfl
  refine va_callv (va_runI (As := [.int (if 0 < L then xs 0 else 0), .int (if 1 < L then xs 1 else 0)]) (rest := [.ref aC]) ⟨hx, hb, hml, hown, hts⟩ (c4_init l dC dI aC cD cI cQ (if 0 < L then xs 0 else 0) (if 1 < L then xs 1 else 0) _) (cwI 2 hts gL_law_X4_init rfl rfl rfl (htb (.initialized RX4) (by decide +kernel)) (htb (.methodLink RL 68 yX4_init) (by decide +kernel)) (htb (.instanceMethod yX4_init) (by decide +kernel)) rfl (by decide +kernel) ⟨(Nat.le_of_ble_eq_true rfl), (Nat.le_of_ble_eq_true rfl)⟩) ⟨zfbwA, zprewA hPc hK3 hDc hAO⟩ rfl rfl hl.1 rfl (lv_room (Nat.le_of_ble_eq_true rfl)) dL_law_14 ⟨(Nat.le_of_ble_eq_true rfl), (Nat.le_of_ble_eq_true rfl)⟩) hS (fun q _ h => hFc q h) hFc (fun u9 t9 H1 locs ht9 hvm9 hr9 hB9 hz9 hk1 hS => ?_)
  obtain ⟨aP, pT, pR, pN, pB, bP, bF, bL, bH, aM, aQ, mS, mR, mT, ro0, ro1, ro2, ro3, aK, kQ, kS, kR, kT, ko0, ko1, ko2, ko3, aW, pW, pX, tT, gT, hP1, hK1, hD1⟩ := hB9
  rw [ht9] at hP1
  obtain ⟨hP, hD⟩ := va_join (wr := []) (w1 := _) hP hD [0] [] rfl rfl (by decide) (by decide) hk1 hFc hP1 hD1
  generalize H1 = H at hP hS ⊢
  have hw0 := zside_in (if 0 < L then xs 0 else 0)
  have hh0 := zside_in (if 1 < L then xs 1 else 0)
  generalize hziw : zside (if 0 < L then xs 0 else 0) = iw at hP hD gT hw0
  generalize hzih : zside (if 1 < L then xs 1 else 0) = ih at hP hD gT hh0
  have hP : va_P (dC, dI) vwCl (w4 aC aP pT pR pN pB bP bF bL bH aM aQ mS mR mT ro0 ro1 ro2 ro3 aK kQ kS kR kT ko0 ko1 ko2 ko3 aW pW pX cD cI cQ iw ih FP.dconst1 FP.dconst1 FP.dconst1 0 0 0 0 tT (fun _ => 0) (fun _ => 0) (fun _ => 0) (fun _ => 0) (fun _ => 0) (fun _ => 0) (fun _ => 0) (fun _ => 0) (fun _ => 0) (fun _ => 0) (fun _ => 0) (fun _ => 0) (fun _ => 0) (fun _ => 0) (fun _ => 0) (fun _ => 0) (fun _ => 0) (fun _ => 0) (fun _ => 0) (fun _ => 0) (fun _ => 0) (fun _ => 0)) H := hP
  have hD : va_D (zAn s) (w4 aC aP pT pR pN pB bP bF bL bH aM aQ mS mR mT ro0 ro1 ro2 ro3 aK kQ kS kR kT ko0 ko1 ko2 ko3 aW pW pX cD cI cQ iw ih FP.dconst1 FP.dconst1 FP.dconst1 0 0 0 0 tT (fun _ => 0) (fun _ => 0) (fun _ => 0) (fun _ => 0) (fun _ => 0) (fun _ => 0) (fun _ => 0) (fun _ => 0) (fun _ => 0) (fun _ => 0) (fun _ => 0) (fun _ => 0) (fun _ => 0) (fun _ => 0) (fun _ => 0) (fun _ => 0) (fun _ => 0) (fun _ => 0) (fun _ => 0) (fun _ => 0) (fun _ => 0) (fun _ => 0)) := hD
  refine lv_astore_n (lv' := [(1, .ref aC), (0, .ref b)]) hx hb dL_law_17 rfl hl (by decide) rfl (fun ls hl => ?_)
  refine va_new (ci := 5) (fs := [.int 0, .int 0, .int 0, .null, .double 0, .double 0, .double 0, .int 0, .null, .null, .null, .null, .int 0, .int 0, .null, .null, .int 0, .null, .null]) (C := RX5) (T := TX5) (N := 19) hx hb htb inX5 tyX5 tyX5_ok hown (htb (.classLink RL 71 RX5) (by decide +kernel)) (htb (.instantiable RX5 19) (by decide +kernel)) (htb (.initialized RX5) (by decide +kernel)) hK hP hD hS hA rfl (fun j hj => by rcases (show j = 0 ∨ j = 1 ∨ j = 2 ∨ j = 3 ∨ j = 4 ∨ j = 5 ∨ j = 6 ∨ j = 7 ∨ j = 8 ∨ j = 9 ∨ j = 10 ∨ j = 11 ∨ j = 12 ∨ j = 13 ∨ j = 14 ∨ j = 15 ∨ j = 16 ∨ j = 17 ∨ j = 18 by omega) with rfl | rfl | rfl | rfl | rfl | rfl | rfl | rfl | rfl | rfl | rfl | rfl | rfl | rfl | rfl | rfl | rfl | rfl | rfl <;> rfl) (Nat.le_of_ble_eq_true rfl) (Nat.le_of_ble_eq_true rfl) dL_law_18 (fun r0 H hP hD hS => ?_)
  have hP : va_P (dC, dI) vwCl ((w4 aC aP pT pR pN pB bP bF bL bH aM aQ mS mR mT ro0 ro1 ro2 ro3 aK kQ kS kR kT ko0 ko1 ko2 ko3 aW pW pX cD cI cQ iw ih FP.dconst1 FP.dconst1 FP.dconst1 0 0 0 0 tT (fun _ => 0) (fun _ => 0) (fun _ => 0) (fun _ => 0) (fun _ => 0) (fun _ => 0) (fun _ => 0) (fun _ => 0) (fun _ => 0) (fun _ => 0) (fun _ => 0) (fun _ => 0) (fun _ => 0) (fun _ => 0) (fun _ => 0) (fun _ => 0) (fun _ => 0) (fun _ => 0) (fun _ => 0) (fun _ => 0) (fun _ => 0) (fun _ => 0)) ++ [(r0, .inr (5, [.int 0, .int 0, .int 0, .null, .double 0, .double 0, .double 0, .int 0, .null, .null, .null, .null, .int 0, .int 0, .null, .null, .int 0, .null, .null]))]) H := hP
  have hD : va_D (zAn s) ((w4 aC aP pT pR pN pB bP bF bL bH aM aQ mS mR mT ro0 ro1 ro2 ro3 aK kQ kS kR kT ko0 ko1 ko2 ko3 aW pW pX cD cI cQ iw ih FP.dconst1 FP.dconst1 FP.dconst1 0 0 0 0 tT (fun _ => 0) (fun _ => 0) (fun _ => 0) (fun _ => 0) (fun _ => 0) (fun _ => 0) (fun _ => 0) (fun _ => 0) (fun _ => 0) (fun _ => 0) (fun _ => 0) (fun _ => 0) (fun _ => 0) (fun _ => 0) (fun _ => 0) (fun _ => 0) (fun _ => 0) (fun _ => 0) (fun _ => 0) (fun _ => 0) (fun _ => 0) (fun _ => 0)) ++ [(r0, .inr (5, [.int 0, .int 0, .int 0, .null, .double 0, .double 0, .double 0, .int 0, .null, .null, .null, .null, .int 0, .int 0, .null, .null, .int 0, .null, .null]))]) := hD
  refine lv_dup hx hb dL_law_21 rfl ?_
  refine lv_aload_n hx hb dL_law_22 rfl (lv_at hl 1 rfl) ?_
  refine lv_iconst (v := nI 0) hx hb dL_law_23 (by decide) ?_
  refine va_calli (va_runS (As := [.ref b, .int (nI 0)]) (rest := [.ref r0, .ref r0]) ⟨hx, hb, hml, hown, hts⟩ (cL_cell_c l b L xs 0 (by decide) (by omega)) (va_cwS 2 hts gL_law_L_cell rfl rfl rfl (by decide +kernel) ⟨(Nat.le_of_ble_eq_true rfl), (Nat.le_of_ble_eq_true rfl)⟩) ⟨zfbC, zpreC hX hbl hbA hS⟩ rfl rfl hl.1 rfl (lv_room (Nat.le_of_ble_eq_true rfl)) dL_law_24 ⟨(Nat.le_of_ble_eq_true rfl), (Nat.le_of_ble_eq_true rfl)⟩) hS (fun q _ h => h.elim) (fun q h => h.elim) (fun r24 u9 t9 H locs ht9 hvm9 hr24 hB9 hz9 hk1 hS => ?_)
  have hP := zro1 hP hk1
  subst hr24
  refine lv_aload_n hx hb dL_law_27 rfl (lv_at hl 1 rfl) ?_
  refine lv_iconst (v := nI 1) hx hb dL_law_28 (by decide) ?_
  refine va_calli (va_runS (As := [.ref b, .int (nI 1)]) (rest := [.int (if 0 < L then xs 0 else 0), .ref r0, .ref r0]) ⟨hx, hb, hml, hown, hts⟩ (cL_cell_c l b L xs 1 (by decide) (by omega)) (va_cwS 2 hts gL_law_L_cell rfl rfl rfl (by decide +kernel) ⟨(Nat.le_of_ble_eq_true rfl), (Nat.le_of_ble_eq_true rfl)⟩) ⟨zfbC, zpreC hX hbl hbA hS⟩ rfl rfl hl.1 rfl (lv_room (Nat.le_of_ble_eq_true rfl)) dL_law_29 ⟨(Nat.le_of_ble_eq_true rfl), (Nat.le_of_ble_eq_true rfl)⟩) hS (fun q _ h => h.elim) (fun q h => h.elim) (fun r29 u9 t9 H locs ht9 hvm9 hr29 hB9 hz9 hk1 hS => ?_)
  have hP := zro1 hP hk1
  subst hr29
  have hPc := hP.sub (ws' := [(r0, .inr (5, [.int 0, .int 0, .int 0, .null, .double 0, .double 0, .double 0, .int 0, .null, .null, .null, .null, .int 0, .int 0, .null, .null, .int 0, .null, .null]))]) [31] rfl
  have hDc := hD.sub (ws' := [(r0, .inr (5, [.int 0, .int 0, .int 0, .null, .double 0, .double 0, .double 0, .int 0, .null, .null, .null, .null, .int 0, .int 0, .null, .null, .int 0, .null, .null]))]) [31] (by decide) rfl
  have hFc := va_free (wc := [(r0, .inr (5, [.int 0, .int 0, .int 0, .null, .double 0, .double 0, .double 0, .int 0, .null, .null, .null, .null, .int 0, .int 0, .null, .null, .int 0, .null, .null]))]) hD hS hA [31] rfl
  refine va_callv (va_runI (As := [.int (if 0 < L then xs 0 else 0), .int (if 1 < L then xs 1 else 0)]) (rest := [.ref r0]) ⟨hx, hb, hml, hown, hts⟩ (c5_init l dC dI r0 cD cI (if 0 < L then xs 0 else 0) (if 1 < L then xs 1 else 0) _) (cwI 2 hts gL_law_X5_init rfl rfl rfl (htb (.initialized RX5) (by decide +kernel)) (htb (.methodLink RL 73 yX5_init) (by decide +kernel)) (htb (.instanceMethod yX5_init) (by decide +kernel)) rfl (by decide +kernel) ⟨(Nat.le_of_ble_eq_true rfl), (Nat.le_of_ble_eq_true rfl)⟩) ⟨zfbw, zprew hPc hK2 hDc⟩ rfl rfl hl.1 rfl (lv_room (Nat.le_of_ble_eq_true rfl)) dL_law_32 ⟨(Nat.le_of_ble_eq_true rfl), (Nat.le_of_ble_eq_true rfl)⟩) hS (fun q _ h => hFc q h) hFc (fun u9 t9 H1 locs ht9 hvm9 hr9 hB9 hz9 hk1 hS => ?_)
  obtain ⟨rT, rE, rG, rR, rN, rS, rQ, rW, rX, fT, g5T, hP1, hK1, hD1⟩ := hB9
  rw [ht9] at hP1
  obtain ⟨hP, hD⟩ := va_join (wr := (w4 aC aP pT pR pN pB bP bF bL bH aM aQ mS mR mT ro0 ro1 ro2 ro3 aK kQ kS kR kT ko0 ko1 ko2 ko3 aW pW pX cD cI cQ iw ih FP.dconst1 FP.dconst1 FP.dconst1 0 0 0 0 tT (fun _ => 0) (fun _ => 0) (fun _ => 0) (fun _ => 0) (fun _ => 0) (fun _ => 0) (fun _ => 0) (fun _ => 0) (fun _ => 0) (fun _ => 0) (fun _ => 0) (fun _ => 0) (fun _ => 0) (fun _ => 0) (fun _ => 0) (fun _ => 0) (fun _ => 0) (fun _ => 0) (fun _ => 0) (fun _ => 0) (fun _ => 0) (fun _ => 0))) (w1 := _) hP hD [31] [0, 1, 2, 3, 4, 5, 6, 7, 8, 9, 10, 11, 12, 13, 14, 15, 16, 17, 18, 19, 20, 21, 22, 23, 24, 25, 26, 27, 28, 29, 30] rfl rfl (by decide) (by decide) hk1 hFc hP1 hD1
  generalize H1 = H at hP hS ⊢
  rw [hziw, hzih] at hP hD
  have hP : va_P (dC, dI) vwCl ((w4 aC aP pT pR pN pB bP bF bL bH aM aQ mS mR mT ro0 ro1 ro2 ro3 aK kQ kS kR kT ko0 ko1 ko2 ko3 aW pW pX cD cI cQ iw ih FP.dconst1 FP.dconst1 FP.dconst1 0 0 0 0 tT (fun _ => 0) (fun _ => 0) (fun _ => 0) (fun _ => 0) (fun _ => 0) (fun _ => 0) (fun _ => 0) (fun _ => 0) (fun _ => 0) (fun _ => 0) (fun _ => 0) (fun _ => 0) (fun _ => 0) (fun _ => 0) (fun _ => 0) (fun _ => 0) (fun _ => 0) (fun _ => 0) (fun _ => 0) (fun _ => 0) (fun _ => 0) (fun _ => 0)) ++ (w5 r0 rT rE rG rR rN rS rQ rW rX cD cI 0 iw ih FP.dconst1 FP.dconst1 FP.dconst1 0 false 0 0 fT (fun _ => 0) (fun _ => 0) (fun _ => 0) (fun _ => 0) (fun _ => 0) (fun _ => 0) (fun _ => 0) (fun _ => 0))) H := hP
  have hD : va_D (zAn s) ((w4 aC aP pT pR pN pB bP bF bL bH aM aQ mS mR mT ro0 ro1 ro2 ro3 aK kQ kS kR kT ko0 ko1 ko2 ko3 aW pW pX cD cI cQ iw ih FP.dconst1 FP.dconst1 FP.dconst1 0 0 0 0 tT (fun _ => 0) (fun _ => 0) (fun _ => 0) (fun _ => 0) (fun _ => 0) (fun _ => 0) (fun _ => 0) (fun _ => 0) (fun _ => 0) (fun _ => 0) (fun _ => 0) (fun _ => 0) (fun _ => 0) (fun _ => 0) (fun _ => 0) (fun _ => 0) (fun _ => 0) (fun _ => 0) (fun _ => 0) (fun _ => 0) (fun _ => 0) (fun _ => 0)) ++ (w5 r0 rT rE rG rR rN rS rQ rW rX cD cI 0 iw ih FP.dconst1 FP.dconst1 FP.dconst1 0 false 0 0 fT (fun _ => 0) (fun _ => 0) (fun _ => 0) (fun _ => 0) (fun _ => 0) (fun _ => 0) (fun _ => 0) (fun _ => 0))) := hD
  refine lv_astore_n (lv' := [(2, .ref r0), (1, .ref aC), (0, .ref b)]) hx hb dL_law_35 rfl hl (by decide) rfl (fun ls hl => ?_)
  refine lv_iconst (v := nI 1) hx hb dL_law_36 (by decide) ?_
  refine va_newa (atype := .long) (ty := .long) hx hb (htb (.arrayClass .long) (by decide +kernel)) rfl hK hP hD hS hA (N' := 1) (a0 := (1, .inr (.inl (fun _ => 0)))) (fun _ => rfl) (by decide) (nI_clamp (by decide)) (by decide) (Nat.le_of_ble_eq_true rfl) (Nat.le_of_ble_eq_true rfl) dL_law_37 (fun oL cA9 H hK9 hP hD hS => ?_)
  obtain rfl : cL = cA9 := zK_eq (ty := .long) hK9 3 4 rfl rfl
  have hP : va_P (dC, dI) vwCl ((w4 aC aP pT pR pN pB bP bF bL bH aM aQ mS mR mT ro0 ro1 ro2 ro3 aK kQ kS kR kT ko0 ko1 ko2 ko3 aW pW pX cD cI cQ iw ih FP.dconst1 FP.dconst1 FP.dconst1 0 0 0 0 tT (fun _ => 0) (fun _ => 0) (fun _ => 0) (fun _ => 0) (fun _ => 0) (fun _ => 0) (fun _ => 0) (fun _ => 0) (fun _ => 0) (fun _ => 0) (fun _ => 0) (fun _ => 0) (fun _ => 0) (fun _ => 0) (fun _ => 0) (fun _ => 0) (fun _ => 0) (fun _ => 0) (fun _ => 0) (fun _ => 0) (fun _ => 0) (fun _ => 0)) ++ (w5 r0 rT rE rG rR rN rS rQ rW rX cD cI 0 iw ih FP.dconst1 FP.dconst1 FP.dconst1 0 false 0 0 fT (fun _ => 0) (fun _ => 0) (fun _ => 0) (fun _ => 0) (fun _ => 0) (fun _ => 0) (fun _ => 0) (fun _ => 0)) ++ [(oL, .inl (cL, 1, .inr (.inl (fun _ => 0))))]) H := hP
  have hD : va_D (zAn s) ((w4 aC aP pT pR pN pB bP bF bL bH aM aQ mS mR mT ro0 ro1 ro2 ro3 aK kQ kS kR kT ko0 ko1 ko2 ko3 aW pW pX cD cI cQ iw ih FP.dconst1 FP.dconst1 FP.dconst1 0 0 0 0 tT (fun _ => 0) (fun _ => 0) (fun _ => 0) (fun _ => 0) (fun _ => 0) (fun _ => 0) (fun _ => 0) (fun _ => 0) (fun _ => 0) (fun _ => 0) (fun _ => 0) (fun _ => 0) (fun _ => 0) (fun _ => 0) (fun _ => 0) (fun _ => 0) (fun _ => 0) (fun _ => 0) (fun _ => 0) (fun _ => 0) (fun _ => 0) (fun _ => 0)) ++ (w5 r0 rT rE rG rR rN rS rQ rW rX cD cI 0 iw ih FP.dconst1 FP.dconst1 FP.dconst1 0 false 0 0 fT (fun _ => 0) (fun _ => 0) (fun _ => 0) (fun _ => 0) (fun _ => 0) (fun _ => 0) (fun _ => 0) (fun _ => 0)) ++ [(oL, .inl (cL, 1, .inr (.inl (fun _ => 0))))]) := hD
  refine lv_astore_n (lv' := [(3, .ref oL), (2, .ref r0), (1, .ref aC), (0, .ref b)]) hx hb dL_law_39 rfl hl (by decide) rfl (fun ls hl => ?_)
  refine lv_iconst (v := nI 1) hx hb dL_law_40 (by decide) ?_
  refine va_newa (atype := .double) (ty := .double) hx hb (htb (.arrayClass .double) (by decide +kernel)) rfl hK hP hD hS hA (N' := 1) (a0 := (1, .inr (.inr (.inr (.inl (fun _ => 0)))))) (fun _ => rfl) (by decide) (nI_clamp (by decide)) (by decide) (Nat.le_of_ble_eq_true rfl) (Nat.le_of_ble_eq_true rfl) dL_law_41 (fun oD cA9 H hK9 hP hD hS => ?_)
  obtain rfl : cD = cA9 := zK_eq (ty := .double) hK9 0 4 rfl rfl
  have hP : va_P (dC, dI) vwCl (w9 aC aP pT pR pN pB bP bF bL bH aM aQ mS mR mT ro0 ro1 ro2 ro3 aK kQ kS kR kT ko0 ko1 ko2 ko3 aW pW pX r0 rT rE rG rR rN rS rQ rW rX oL oD cD cI cQ cL iw ih FP.dconst1 FP.dconst1 FP.dconst1 0 0 0 0 tT (fun _ => 0) (fun _ => 0) (fun _ => 0) (fun _ => 0) (fun _ => 0) (fun _ => 0) (fun _ => 0) (fun _ => 0) (fun _ => 0) (fun _ => 0) (fun _ => 0) (fun _ => 0) (fun _ => 0) (fun _ => 0) (fun _ => 0) (fun _ => 0) (fun _ => 0) (fun _ => 0) (fun _ => 0) (fun _ => 0) (fun _ => 0) (fun _ => 0) 0 FP.dconst1 FP.dconst1 FP.dconst1 0 false 0 0 fT (fun _ => 0) (fun _ => 0) (fun _ => 0) (fun _ => 0) (fun _ => 0) (fun _ => 0) (fun _ => 0) (fun _ => 0) (fun _ => 0) (fun _ => 0)) H := hP
  have hD : va_D (zAn s) (w9 aC aP pT pR pN pB bP bF bL bH aM aQ mS mR mT ro0 ro1 ro2 ro3 aK kQ kS kR kT ko0 ko1 ko2 ko3 aW pW pX r0 rT rE rG rR rN rS rQ rW rX oL oD cD cI cQ cL iw ih FP.dconst1 FP.dconst1 FP.dconst1 0 0 0 0 tT (fun _ => 0) (fun _ => 0) (fun _ => 0) (fun _ => 0) (fun _ => 0) (fun _ => 0) (fun _ => 0) (fun _ => 0) (fun _ => 0) (fun _ => 0) (fun _ => 0) (fun _ => 0) (fun _ => 0) (fun _ => 0) (fun _ => 0) (fun _ => 0) (fun _ => 0) (fun _ => 0) (fun _ => 0) (fun _ => 0) (fun _ => 0) (fun _ => 0) 0 FP.dconst1 FP.dconst1 FP.dconst1 0 false 0 0 fT (fun _ => 0) (fun _ => 0) (fun _ => 0) (fun _ => 0) (fun _ => 0) (fun _ => 0) (fun _ => 0) (fun _ => 0) (fun _ => 0) (fun _ => 0)) := hD
  refine lv_astore (lv' := [(4, .ref oD), (3, .ref oL), (2, .ref r0), (1, .ref aC), (0, .ref b)]) hx hb dL_law_43 hl (by decide) rfl (fun ls hl => ?_)
  refine lv_iconst (v := nI 2) hx hb dL_law_45 (by decide) ?_
  refine lv_istore (lv' := [(5, .int (nI 2)), (4, .ref oD), (3, .ref oL), (2, .ref r0), (1, .ref aC), (0, .ref b)]) hx hb dL_law_46 hl (by decide) rfl (fun ls hl => ?_)
  have hI : zI iw ih (FP.dconst1) (FP.dconst1) (FP.dconst1) 0 0 0 tT ((fun _ => 0)) ((fun _ => 0)) ((fun _ => 0)) ((fun _ => 0)) ((fun _ => 0)) ((fun _ => 0)) ((fun _ => 0)) ((fun _ => 0)) ((fun _ => 0)) ((fun _ => 0)) ((fun _ => 0)) ((fun _ => 0)) ((fun _ => 0)) (FP.dconst1) (FP.dconst1) (FP.dconst1) false 0 fT ((fun _ => 0)) ((fun _ => 0)) ((fun _ => 0)) ((fun _ => 0)) ((fun _ => 0)) ((fun _ => 0)) ((fun _ => 0)) ((fun _ => 0)) ((fun _ => z1)) ((fun _ => 0)) ((fun _ => 0)) ((fun _ => 0)) ((fun _ => 0)) ((fun _ => z0)) ((fun _ => 0)) ((fun _ => z0)) := ⟨⟨hw0.1, hw0.2, hh0.1, hh0.2⟩, ⟨gT, fun x y hx9 hy9 => g5T _ (by omega), fun _ _ => Or.inr zeR_1⟩, ⟨rfl, rfl, rfl, zeR_1, zeR_1, zeR_1⟩, ⟨by decide, (fun k h => absurd h (Nat.not_lt_zero k)), (fun k h => absurd h (Nat.not_lt_zero k)), (fun k h => absurd h (Nat.not_lt_zero k)), (fun k h => absurd h (Nat.not_lt_zero k)), (fun k h => absurd h (Nat.not_lt_zero k)), (fun k h => absurd h (Nat.not_lt_zero k))⟩, ⟨by decide, (fun k h => absurd h (Nat.not_lt_zero k)), (fun k h => absurd h (Nat.not_lt_zero k)), (fun k h => absurd h (Nat.not_lt_zero k)), (fun k h => absurd h (Nat.not_lt_zero k)), (fun k h => absurd h (Nat.not_lt_zero k))⟩, qCm_0, q5m_f (by decide), rfl⟩
  have hSt : zSt dC dI cD cI cQ cL aC r0 oL oD (zAn s) s.heap H locs := ⟨aP, pT, pR, pN, pB, bP, bF, bL, bH, aM, aQ, mS, mR, mT, ro0, ro1, ro2, ro3, aK, kQ, kS, kR, kT, ko0, ko1, ko2, ko3, aW, pW, pX, rT, rE, rG, rR, rN, rS, rQ, rW, rX, iw, ih, FP.dconst1, FP.dconst1, FP.dconst1, 0, 0, 0, 0, tT, (fun _ => 0), (fun _ => 0), (fun _ => 0), (fun _ => 0), (fun _ => 0), (fun _ => 0), (fun _ => 0), (fun _ => 0), (fun _ => 0), (fun _ => 0), (fun _ => 0), (fun _ => 0), (fun _ => 0), (fun _ => 0), (fun _ => 0), (fun _ => 0), (fun _ => 0), (fun _ => 0), (fun _ => 0), (fun _ => 0), (fun _ => 0), (fun _ => 0), 0, FP.dconst1, FP.dconst1, FP.dconst1, 0, false, 0, 0, fT, (fun _ => 0), (fun _ => 0), (fun _ => 0), (fun _ => 0), (fun _ => 0), (fun _ => 0), (fun _ => 0), (fun _ => 0), (fun _ => 0), (fun _ => 0), (fun _ => z1), (fun _ => 0), (fun _ => 0), (fun _ => 0), (fun _ => 0), (fun _ => z0), (fun _ => 0), (fun _ => z0), ⟨rfl, rfl⟩, hI, hP, hD, hS⟩
  refine W.base ?_
  have hd0 := Drawn.sameBut.refl s.drawn lw_cs
  refine law_loop ⟨hx, hb, hml, hown, hts, hX, hbl, hL, hst, hK, hN, hE, hXN⟩ hr hlocks 512 2 hd0 (by omega) (by decide) (by decide) (by decide) hSt hl
