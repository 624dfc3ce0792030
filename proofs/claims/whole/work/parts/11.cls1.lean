/-! 11: the class: Braces; Plate's small methods -/
def zcr (f : Nat → UInt64) (n : Nat) (F : Nat → ZD) : Prop := ∀ i, i < n → zv (f i) = F i
theorem zidx_up (y w x : Nat) : y * w + x + w = (y + 1) * w + x := by rw [Nat.add_mul, Nat.one_mul]; omega
theorem zidx_dn {y : Nat} (h : 0 < y) (w x : Nat) : y * w + x - w = (y - 1) * w + x := by
  obtain ⟨z, rfl⟩ : ∃ z, y = z + 1 := ⟨y - 1, by omega⟩
  rw [Nat.add_mul, Nat.one_mul, Nat.add_sub_cancel]
  omega
theorem zcr_put {f : Nat → UInt64} {n : Nat} {F : Nat → ZD} {i : Nat} {v : UInt64} {V : ZD} (g : zcr f n F) (hv : zv v = V) : zcr (zu f i v) n (zu F i V) := by
  intro j hj
  by_cases e : j = i
  · subst e; rw [zu_s, zu_s]; exact hv
  · rw [zu_n e, zu_n e]; exact g j hj
theorem zcr_c {f : Nat → UInt64} {n : Nat} {F G : Nat → ZD} (e : F = G) (g : zcr f n F) : zcr f n G := e ▸ g
/-- a row of doubles, its first m new -/
def zcp2 (f : Nat → UInt64) (n m : Nat) (F : Nat → ZD) : Prop := ∀ i, i < n → i < m → zv (f i) = F i
theorem zcp2_0 {f : Nat → UInt64} {n : Nat} {F : Nat → ZD} : zcp2 f n 0 F := fun _ _ h => absurd h (Nat.not_lt_zero _)
theorem zcp2_put {f : Nat → UInt64} {n m : Nat} {F : Nat → ZD} {v : UInt64} (g : zcp2 f n m F) (hv : zv v = F m) : zcp2 (zu f m v) n (m + 1) F := by
  intro j hj hm
  by_cases e : j = m
  · subst e; rw [zu_s]; exact hv
  · rw [zu_n e]; exact g j hj (by omega)
theorem zcp2_all {f : Nat → UInt64} {n m : Nat} {F : Nat → ZD} (g : zcp2 f n m F) (h : n ≤ m) : zcr f n F := fun i hi => g i hi (by omega)
theorem zcp2_n {f : Nat → UInt64} {n m m' : Nat} {F : Nat → ZD} (g : zcp2 f n m F) (e : m = m') : zcp2 f n m' F := e ▸ g
/-- a row of doubles, its first m new, the others old -/
def zcp3 (f : Nat → UInt64) (n m : Nat) (G F : Nat → ZD) : Prop := ∀ i, i < n → zv (f i) = if i < m then G i else F i
theorem zcp3_0 {f : Nat → UInt64} {n : Nat} {G F : Nat → ZD} (g : zcr f n F) : zcp3 f n 0 G F := fun i hi => by rw [if_neg (Nat.not_lt_zero _)]; exact g i hi
theorem zcp3_put {f : Nat → UInt64} {n m : Nat} {G F : Nat → ZD} {v : UInt64} (g : zcp3 f n m G F) (hv : zv v = G m) : zcp3 (zu f m v) n (m + 1) G F := by
  intro j hj
  by_cases e : j = m
  · subst e; rw [zu_s, if_pos (Nat.lt_succ_self _)]; exact hv
  · rw [zu_n e, g j hj]
    by_cases e2 : j < m
    · rw [if_pos e2, if_pos (by omega)]
    · rw [if_neg e2, if_neg (by omega)]
theorem zcp3_at {f : Nat → UInt64} {n m : Nat} {G F : Nat → ZD} (g : zcp3 f n m G F) (h : m < n) : zv (f m) = F m := by
  rw [g m h, if_neg (Nat.lt_irrefl _)]
theorem zcp3_all {f : Nat → UInt64} {n m : Nat} {G F : Nat → ZD} (g : zcp3 f n m G F) (h : n ≤ m) : zcr f n G := fun i hi => by rw [g i hi, if_pos (by omega)]
section ZQ9
variable {p : Program} {l : Launch} {e : Env} {R : Room} {s : State} {m : MethodId} {args : Array Value} {below : List Frame} {meth : Method} {c : Code} {H : Heap} {locs : List Loc} {cells slots : Nat} {Q : State → Prop}
variable {cc : ByteArray} {pc : Nat} {ls : Array Slot} {rest : List Value}
/-- a row of a grid of doubles -/
theorem z_aald {D : va_G} {cl : List vw_C} {tys : List (ClassId × FieldType)} {ws : va_W} {a : Nat} (hx : p.tables.exec = Jvm.exec) (hb : c.code = cc) (hK : va_K D cl tys s) (hP : va_P D cl ws H) (q0 t0 : Nat) {cA : ClassId} {n : Nat} {f : Nat → Option Nat} (ha : ws[q0]? = some (a, .inl (cA, n, .inr (.inr (.inr (.inr f)))))) (ht : tys[t0]? = some (cA, .array .double)) {i r : Nat} (hi : i < n) (hn : n < 2 ^ 31) (hr : f i = some r) (hdg : decode cc pc = .ok (.aaload, 1))
    (k : W p l e R s m args below meth c H locs cells slots Q (F0 m (pc + 1) ls (.ref r :: rest))) : W p l e R s m args below meth c H locs cells slots Q (F0 m pc ls (.int (nI i) :: .ref a :: rest)) := by
  have hin : vp_in (nI i) n := vp_in_nI hi hn
  have hc : (nI i).toNatClampNeg = i := nI_clamp (Nat.lt_trans hi hn)
  refine W.aald (v := va_rf (f (nI i).toNatClampNeg)) (ty := .array .double) hx hb (hP q0 _ ha) ((hK.2 t0 _ ht).1 n (fun j => va_rf (f j))) rfl (fun q => by cases q) (by show ¬ (nI i < 0 ∨ (arrV _ _ _).slots.size ≤ _); rw [arrV_size]; exact hin) ?_ rfl rfl hdg ?_
  · have hlt : (nI i).toNatClampNeg < n := Nat.not_le.mp fun q => hin (Or.inr q)
    show (arrV _ _ _).slots[_]? = _
    rw [arrV_read _ _ hlt]
  · rw [hc, hr]; exact k
end ZQ9
theorem in_X0_full_X0 : ∀ w ∈ wsX00, w ∈ wsX0_full := by intro w h; unfold wsX0_full; simp only [List.mem_cons, List.mem_append]; first | exact Or.inr (Or.inr h) | exact Or.inr (Or.inl (Or.inr h)) | exact Or.inr (Or.inl (Or.inl (Or.inr h))) | exact Or.inr (Or.inr (Or.inl h)) | exact Or.inr (Or.inr (Or.inr h))
set_option maxHeartbeats 4000000 in
set_option maxRecDepth 100000 in
/-- full -/
theorem c0_full (l : Launch) (dC : Nat → ClassId) (dI : Nat → Nat → Nat) (pB bP bF bL bH : Nat) (cD cI cQ : ClassId) (nb : Nat) (uP uF uL : Nat → Int32) (uH : Nat → UInt64) (hn12 : nb ≤ 12) : Met l yX0_full wsX0_full ({ frames := 0, cells := 0, slots := 0, locals := 0 } : Room) (va_Pc [.ref pB] (fun U => va_P (dC, dI) vwCl [(pB, .inr (0, [.ref bP, .ref bF, .ref bL, .ref bH, .int (nI nb)])), (bP, .inl (cI, 12, .inl uP)), (bF, .inl (cI, 12, .inl uF)), (bL, .inl (cI, 12, .inl uL)), (bH, .inl (cD, 12, .inr (.inr (.inr (.inl uH)))))] U.heap ∧ va_K (dC, dI) vwCl [(cD, .double), (cI, .int), (cQ, .array .double)] U)) (va_Qi (fun (r : Int32) (_ : Unit) => r = zb (decide (12 ≤ nb))) (fun _ _ => True) (fun _ => False)) 0 0 (fun _ => False) := by
  refine Met.ofW (cc := cX0_full) (maxL := 1) (ret := (some .boolean)) (by decide) rfl ?_
  intro p e s m args below meth c s₁ B hml hv
  obtain ⟨rfl, hP0, hK⟩ := hv
  have hx := B.exec
  have hb := B.bytes
  have hr := B.returns
  have hts := atoms_spec (ws := wsX0_full) B.pre
  have hown : s.vm.findClass RX0 = some m.cls := findClass_of_methodNamed B.named
  have hlocks := B.notSynchronized
  have hS : va_S (fun _ => False) s.heap s.heap [] := va_S.rf
  have hP := hP0
  have hl := lv_entry ([.ref pB]) (n := 1) (Nat.le_of_ble_eq_true rfl)
  rw [lg_entry_eq]
  generalize (lg_sl ([.ref pB]) ++ List.replicate (1 - (lg_sl ([.ref pB])).length) Slot.unset).toArray = ls at hl ⊢
  have hl : lv_has ls 1 [(0, .ref pB)] := hl
  refine lv_aload_n hx hb dX0_full_0 rfl (lv_at hl 0 rfl) ?_
  refine va_get (D := (dC, dI)) (ci := 0) (v := .int (nI nb)) (C := RX0) (T := TX0) (N := 5) hx hb hts (in_X0_full_X0) hown hK hP 0 rfl rfl 4 (by decide) (hts (.fieldLink RX0 25 "PlateModes$Braces" "count" "I") (by decide +kernel)) (fun _ h9 => h9) rfl dX0_full_1 ?_
  refine lv_bipush (v := (nI 12)) hx hb dX0_full_4 (by decide) ?_
  refine z_icmp_lt (a := nb) (b := 12) (tgt := 13) hx hb (by omega) (by omega) dX0_full_6 (by decide) (fun c1 => ?_) (fun c2 => ?_)
  · skip
    refine lv_iconst (v := (nI 0)) hx hb dX0_full_13 (by decide) ?_
    exact W.zret (v := (nI 0)) hx hb hr rfl (fun t ht hW => ⟨⟨(nI 0), (), rfl, ⟨congrArg zb (decide_eq_false (show ¬ 12 ≤ nb from by omega)).symm, trivial⟩⟩, hS.F ht⟩) hS.2.2 dX0_full_14
  · skip
    refine lv_iconst (v := (nI 1)) hx hb dX0_full_9 (by decide) ?_
    refine lv_goto (tgt := 14) hx hb dX0_full_10 (by decide) ?_
    exact W.zret (v := (nI 1)) hx hb hr rfl (fun t ht hW => ⟨⟨(nI 1), (), rfl, ⟨congrArg zb (decide_eq_true (show 12 ≤ nb from by omega)).symm, trivial⟩⟩, hS.F ht⟩) hS.2.2 dX0_full_14
theorem in_X0_count_X0 : ∀ w ∈ wsX00, w ∈ wsX0_count := by intro w h; unfold wsX0_count; simp only [List.mem_cons, List.mem_append]; first | exact Or.inr (Or.inr h) | exact Or.inr (Or.inl (Or.inr h)) | exact Or.inr (Or.inl (Or.inl (Or.inr h))) | exact Or.inr (Or.inr (Or.inl h)) | exact Or.inr (Or.inr (Or.inr h))
set_option maxHeartbeats 4000000 in
set_option maxRecDepth 100000 in
/-- count -/
theorem c0_count (l : Launch) (dC : Nat → ClassId) (dI : Nat → Nat → Nat) (pB bP bF bL bH : Nat) (cD cI cQ : ClassId) (nb : Nat) (uP uF uL : Nat → Int32) (uH : Nat → UInt64) : Met l yX0_count wsX0_count ({ frames := 0, cells := 0, slots := 0, locals := 0 } : Room) (va_Pc [.ref pB] (fun U => va_P (dC, dI) vwCl [(pB, .inr (0, [.ref bP, .ref bF, .ref bL, .ref bH, .int (nI nb)])), (bP, .inl (cI, 12, .inl uP)), (bF, .inl (cI, 12, .inl uF)), (bL, .inl (cI, 12, .inl uL)), (bH, .inl (cD, 12, .inr (.inr (.inr (.inl uH)))))] U.heap ∧ va_K (dC, dI) vwCl [(cD, .double), (cI, .int), (cQ, .array .double)] U)) (va_Qi (fun (r : Int32) (_ : Unit) => r = nI nb) (fun _ _ => True) (fun _ => False)) 0 0 (fun _ => False) := by
  refine Met.ofW (cc := cX0_count) (maxL := 1) (ret := (some .int)) (by decide) rfl ?_
  intro p e s m args below meth c s₁ B hml hv
  obtain ⟨rfl, hP0, hK⟩ := hv
  have hx := B.exec
  have hb := B.bytes
  have hr := B.returns
  have hts := atoms_spec (ws := wsX0_count) B.pre
  have hown : s.vm.findClass RX0 = some m.cls := findClass_of_methodNamed B.named
  have hlocks := B.notSynchronized
  have hS : va_S (fun _ => False) s.heap s.heap [] := va_S.rf
  have hP := hP0
  have hl := lv_entry ([.ref pB]) (n := 1) (Nat.le_of_ble_eq_true rfl)
  rw [lg_entry_eq]
  generalize (lg_sl ([.ref pB]) ++ List.replicate (1 - (lg_sl ([.ref pB])).length) Slot.unset).toArray = ls at hl ⊢
  have hl : lv_has ls 1 [(0, .ref pB)] := hl
  refine lv_aload_n hx hb dX0_count_0 rfl (lv_at hl 0 rfl) ?_
  refine va_get (D := (dC, dI)) (ci := 0) (v := .int (nI nb)) (C := RX0) (T := TX0) (N := 5) hx hb hts (in_X0_count_X0) hown hK hP 0 rfl rfl 4 (by decide) (hts (.fieldLink RX0 25 "PlateModes$Braces" "count" "I") (by decide +kernel)) (fun _ h9 => h9) rfl dX0_count_1 ?_
  exact W.iret (v := (nI nb)) hx hb hr (fun t ht hW => ⟨⟨(nI nb), (), rfl, ⟨rfl, trivial⟩⟩, hS.F ht⟩) hS.2.2 dX0_count_4
theorem in_X0_paceOf_X0 : ∀ w ∈ wsX00, w ∈ wsX0_paceOf := by intro w h; unfold wsX0_paceOf; simp only [List.mem_cons, List.mem_append]; first | exact Or.inr (Or.inr h) | exact Or.inr (Or.inl (Or.inr h)) | exact Or.inr (Or.inl (Or.inl (Or.inr h))) | exact Or.inr (Or.inr (Or.inl h)) | exact Or.inr (Or.inr (Or.inr h))
set_option maxHeartbeats 4000000 in
set_option maxRecDepth 100000 in
/-- paceOf -/
theorem c0_paceOf (l : Launch) (dC : Nat → ClassId) (dI : Nat → Nat → Nat) (pB bP bF bL bH : Nat) (cD cI cQ : ClassId) (nb : Nat) (uP uF uL : Nat → Int32) (uH : Nat → UInt64) (k : Nat) (hk : k < 12) : Met l yX0_paceOf wsX0_paceOf ({ frames := 0, cells := 0, slots := 0, locals := 0 } : Room) (va_Pc [.ref pB, .int (nI k)] (fun U => va_P (dC, dI) vwCl [(pB, .inr (0, [.ref bP, .ref bF, .ref bL, .ref bH, .int (nI nb)])), (bP, .inl (cI, 12, .inl uP)), (bF, .inl (cI, 12, .inl uF)), (bL, .inl (cI, 12, .inl uL)), (bH, .inl (cD, 12, .inr (.inr (.inr (.inl uH)))))] U.heap ∧ va_K (dC, dI) vwCl [(cD, .double), (cI, .int), (cQ, .array .double)] U)) (va_Qi (fun (r : Int32) (_ : Unit) => r = uP k) (fun _ _ => True) (fun _ => False)) 0 0 (fun _ => False) := by
  refine Met.ofW (cc := cX0_paceOf) (maxL := 2) (ret := (some .int)) (by decide) rfl ?_
  intro p e s m args below meth c s₁ B hml hv
  obtain ⟨rfl, hP0, hK⟩ := hv
  have hx := B.exec
  have hb := B.bytes
  have hr := B.returns
  have hts := atoms_spec (ws := wsX0_paceOf) B.pre
  have hown : s.vm.findClass RX0 = some m.cls := findClass_of_methodNamed B.named
  have hlocks := B.notSynchronized
  have hS : va_S (fun _ => False) s.heap s.heap [] := va_S.rf
  have hP := hP0
  have hl := lv_entry ([.ref pB, .int (nI k)]) (n := 2) (Nat.le_of_ble_eq_true rfl)
  rw [lg_entry_eq]
  generalize (lg_sl ([.ref pB, .int (nI k)]) ++ List.replicate (2 - (lg_sl ([.ref pB, .int (nI k)])).length) Slot.unset).toArray = ls at hl ⊢
  have hl : lv_has ls 2 [(0, .ref pB), (1, .int (nI k))] := hl
  refine lv_aload_n hx hb dX0_paceOf_0 rfl (lv_at hl 0 rfl) ?_
  refine va_get (D := (dC, dI)) (ci := 0) (v := .ref bP) (C := RX0) (T := TX0) (N := 5) hx hb hts (in_X0_paceOf_X0) hown hK hP 0 rfl rfl 0 (by decide) (hts (.fieldLink RX0 9 "PlateModes$Braces" "paces" "[I") (by decide +kernel)) (fun _ h9 => h9) rfl dX0_paceOf_1 ?_
  refine lv_iload_n hx hb dX0_paceOf_4 rfl (lv_at hl 1 rfl) ?_
  refine z_iald (n := 12) (i := k) hx hb hK hP 1 1 rfl rfl (by omega) (by decide) dX0_paceOf_5 ?_
  exact W.iret (v := (uP k)) hx hb hr (fun t ht hW => ⟨⟨(uP k), (), rfl, ⟨rfl, trivial⟩⟩, hS.F ht⟩) hS.2.2 dX0_paceOf_6
theorem in_X0_firstOf_X0 : ∀ w ∈ wsX00, w ∈ wsX0_firstOf := by intro w h; unfold wsX0_firstOf; simp only [List.mem_cons, List.mem_append]; first | exact Or.inr (Or.inr h) | exact Or.inr (Or.inl (Or.inr h)) | exact Or.inr (Or.inl (Or.inl (Or.inr h))) | exact Or.inr (Or.inr (Or.inl h)) | exact Or.inr (Or.inr (Or.inr h))
set_option maxHeartbeats 4000000 in
set_option maxRecDepth 100000 in
/-- firstOf -/
theorem c0_firstOf (l : Launch) (dC : Nat → ClassId) (dI : Nat → Nat → Nat) (pB bP bF bL bH : Nat) (cD cI cQ : ClassId) (nb : Nat) (uP uF uL : Nat → Int32) (uH : Nat → UInt64) (k : Nat) (hk : k < 12) : Met l yX0_firstOf wsX0_firstOf ({ frames := 0, cells := 0, slots := 0, locals := 0 } : Room) (va_Pc [.ref pB, .int (nI k)] (fun U => va_P (dC, dI) vwCl [(pB, .inr (0, [.ref bP, .ref bF, .ref bL, .ref bH, .int (nI nb)])), (bP, .inl (cI, 12, .inl uP)), (bF, .inl (cI, 12, .inl uF)), (bL, .inl (cI, 12, .inl uL)), (bH, .inl (cD, 12, .inr (.inr (.inr (.inl uH)))))] U.heap ∧ va_K (dC, dI) vwCl [(cD, .double), (cI, .int), (cQ, .array .double)] U)) (va_Qi (fun (r : Int32) (_ : Unit) => r = uF k) (fun _ _ => True) (fun _ => False)) 0 0 (fun _ => False) := by
  refine Met.ofW (cc := cX0_firstOf) (maxL := 2) (ret := (some .int)) (by decide) rfl ?_
  intro p e s m args below meth c s₁ B hml hv
  obtain ⟨rfl, hP0, hK⟩ := hv
  have hx := B.exec
  have hb := B.bytes
  have hr := B.returns
  have hts := atoms_spec (ws := wsX0_firstOf) B.pre
  have hown : s.vm.findClass RX0 = some m.cls := findClass_of_methodNamed B.named
  have hlocks := B.notSynchronized
  have hS : va_S (fun _ => False) s.heap s.heap [] := va_S.rf
  have hP := hP0
  have hl := lv_entry ([.ref pB, .int (nI k)]) (n := 2) (Nat.le_of_ble_eq_true rfl)
  rw [lg_entry_eq]
  generalize (lg_sl ([.ref pB, .int (nI k)]) ++ List.replicate (2 - (lg_sl ([.ref pB, .int (nI k)])).length) Slot.unset).toArray = ls at hl ⊢
  have hl : lv_has ls 2 [(0, .ref pB), (1, .int (nI k))] := hl
  refine lv_aload_n hx hb dX0_firstOf_0 rfl (lv_at hl 0 rfl) ?_
  refine va_get (D := (dC, dI)) (ci := 0) (v := .ref bF) (C := RX0) (T := TX0) (N := 5) hx hb hts (in_X0_firstOf_X0) hown hK hP 0 rfl rfl 1 (by decide) (hts (.fieldLink RX0 15 "PlateModes$Braces" "firsts" "[I") (by decide +kernel)) (fun _ h9 => h9) rfl dX0_firstOf_1 ?_
  refine lv_iload_n hx hb dX0_firstOf_4 rfl (lv_at hl 1 rfl) ?_
  refine z_iald (n := 12) (i := k) hx hb hK hP 2 1 rfl rfl (by omega) (by decide) dX0_firstOf_5 ?_
  exact W.iret (v := (uF k)) hx hb hr (fun t ht hW => ⟨⟨(uF k), (), rfl, ⟨rfl, trivial⟩⟩, hS.F ht⟩) hS.2.2 dX0_firstOf_6
theorem in_X0_lastOf_X0 : ∀ w ∈ wsX00, w ∈ wsX0_lastOf := by intro w h; unfold wsX0_lastOf; simp only [List.mem_cons, List.mem_append]; first | exact Or.inr (Or.inr h) | exact Or.inr (Or.inl (Or.inr h)) | exact Or.inr (Or.inl (Or.inl (Or.inr h))) | exact Or.inr (Or.inr (Or.inl h)) | exact Or.inr (Or.inr (Or.inr h))
set_option maxHeartbeats 4000000 in
set_option maxRecDepth 100000 in
/-- lastOf -/
theorem c0_lastOf (l : Launch) (dC : Nat → ClassId) (dI : Nat → Nat → Nat) (pB bP bF bL bH : Nat) (cD cI cQ : ClassId) (nb : Nat) (uP uF uL : Nat → Int32) (uH : Nat → UInt64) (k : Nat) (hk : k < 12) : Met l yX0_lastOf wsX0_lastOf ({ frames := 0, cells := 0, slots := 0, locals := 0 } : Room) (va_Pc [.ref pB, .int (nI k)] (fun U => va_P (dC, dI) vwCl [(pB, .inr (0, [.ref bP, .ref bF, .ref bL, .ref bH, .int (nI nb)])), (bP, .inl (cI, 12, .inl uP)), (bF, .inl (cI, 12, .inl uF)), (bL, .inl (cI, 12, .inl uL)), (bH, .inl (cD, 12, .inr (.inr (.inr (.inl uH)))))] U.heap ∧ va_K (dC, dI) vwCl [(cD, .double), (cI, .int), (cQ, .array .double)] U)) (va_Qi (fun (r : Int32) (_ : Unit) => r = uL k) (fun _ _ => True) (fun _ => False)) 0 0 (fun _ => False) := by
  refine Met.ofW (cc := cX0_lastOf) (maxL := 2) (ret := (some .int)) (by decide) rfl ?_
  intro p e s m args below meth c s₁ B hml hv
  obtain ⟨rfl, hP0, hK⟩ := hv
  have hx := B.exec
  have hb := B.bytes
  have hr := B.returns
  have hts := atoms_spec (ws := wsX0_lastOf) B.pre
  have hown : s.vm.findClass RX0 = some m.cls := findClass_of_methodNamed B.named
  have hlocks := B.notSynchronized
  have hS : va_S (fun _ => False) s.heap s.heap [] := va_S.rf
  have hP := hP0
  have hl := lv_entry ([.ref pB, .int (nI k)]) (n := 2) (Nat.le_of_ble_eq_true rfl)
  rw [lg_entry_eq]
  generalize (lg_sl ([.ref pB, .int (nI k)]) ++ List.replicate (2 - (lg_sl ([.ref pB, .int (nI k)])).length) Slot.unset).toArray = ls at hl ⊢
  have hl : lv_has ls 2 [(0, .ref pB), (1, .int (nI k))] := hl
  refine lv_aload_n hx hb dX0_lastOf_0 rfl (lv_at hl 0 rfl) ?_
  refine va_get (D := (dC, dI)) (ci := 0) (v := .ref bL) (C := RX0) (T := TX0) (N := 5) hx hb hts (in_X0_lastOf_X0) hown hK hP 0 rfl rfl 2 (by decide) (hts (.fieldLink RX0 18 "PlateModes$Braces" "lasts" "[I") (by decide +kernel)) (fun _ h9 => h9) rfl dX0_lastOf_1 ?_
  refine lv_iload_n hx hb dX0_lastOf_4 rfl (lv_at hl 1 rfl) ?_
  refine z_iald (n := 12) (i := k) hx hb hK hP 3 1 rfl rfl (by omega) (by decide) dX0_lastOf_5 ?_
  exact W.iret (v := (uL k)) hx hb hr (fun t ht hW => ⟨⟨(uL k), (), rfl, ⟨rfl, trivial⟩⟩, hS.F ht⟩) hS.2.2 dX0_lastOf_6
theorem in_X0_heightOf_X0 : ∀ w ∈ wsX00, w ∈ wsX0_heightOf := by intro w h; unfold wsX0_heightOf; simp only [List.mem_cons, List.mem_append]; first | exact Or.inr (Or.inr h) | exact Or.inr (Or.inl (Or.inr h)) | exact Or.inr (Or.inl (Or.inl (Or.inr h))) | exact Or.inr (Or.inr (Or.inl h)) | exact Or.inr (Or.inr (Or.inr h))
set_option maxHeartbeats 4000000 in
set_option maxRecDepth 100000 in
/-- heightOf -/
theorem c0_heightOf (l : Launch) (dC : Nat → ClassId) (dI : Nat → Nat → Nat) (pB bP bF bL bH : Nat) (cD cI cQ : ClassId) (nb : Nat) (uP uF uL : Nat → Int32) (uH : Nat → UInt64) (k : Nat) (hk : k < 12) : Met l yX0_heightOf wsX0_heightOf ({ frames := 0, cells := 0, slots := 0, locals := 0 } : Room) (va_Pc [.ref pB, .int (nI k)] (fun U => va_P (dC, dI) vwCl [(pB, .inr (0, [.ref bP, .ref bF, .ref bL, .ref bH, .int (nI nb)])), (bP, .inl (cI, 12, .inl uP)), (bF, .inl (cI, 12, .inl uF)), (bL, .inl (cI, 12, .inl uL)), (bH, .inl (cD, 12, .inr (.inr (.inr (.inl uH)))))] U.heap ∧ va_K (dC, dI) vwCl [(cD, .double), (cI, .int), (cQ, .array .double)] U)) (va_Qd (fun (r : UInt64) (_ : Unit) => r = uH k) (fun _ _ => True) (fun _ => False)) 0 0 (fun _ => False) := by
  refine Met.ofW (cc := cX0_heightOf) (maxL := 2) (ret := (some .double)) (by decide) rfl ?_
  intro p e s m args below meth c s₁ B hml hv
  obtain ⟨rfl, hP0, hK⟩ := hv
  have hx := B.exec
  have hb := B.bytes
  have hr := B.returns
  have hts := atoms_spec (ws := wsX0_heightOf) B.pre
  have hown : s.vm.findClass RX0 = some m.cls := findClass_of_methodNamed B.named
  have hlocks := B.notSynchronized
  have hS : va_S (fun _ => False) s.heap s.heap [] := va_S.rf
  have hP := hP0
  have hl := lv_entry ([.ref pB, .int (nI k)]) (n := 2) (Nat.le_of_ble_eq_true rfl)
  rw [lg_entry_eq]
  generalize (lg_sl ([.ref pB, .int (nI k)]) ++ List.replicate (2 - (lg_sl ([.ref pB, .int (nI k)])).length) Slot.unset).toArray = ls at hl ⊢
  have hl : lv_has ls 2 [(0, .ref pB), (1, .int (nI k))] := hl
  refine lv_aload_n hx hb dX0_heightOf_0 rfl (lv_at hl 0 rfl) ?_
  refine va_get (D := (dC, dI)) (ci := 0) (v := .ref bH) (C := RX0) (T := TX0) (N := 5) hx hb hts (in_X0_heightOf_X0) hown hK hP 0 rfl rfl 3 (by decide) (hts (.fieldLink RX0 21 "PlateModes$Braces" "heights" "[D") (by decide +kernel)) (fun _ h9 => h9) rfl dX0_heightOf_1 ?_
  refine lv_iload_n hx hb dX0_heightOf_4 rfl (lv_at hl 1 rfl) ?_
  refine z_dald (n := 12) (i := k) hx hb hK hP 4 0 rfl rfl (by omega) (by decide) dX0_heightOf_5 ?_
  exact W.dret (v := uH k) hx hb hr (fun t ht hW => ⟨⟨uH k, (), rfl, ⟨rfl, trivial⟩⟩, hS.F ht⟩) hS.2.2 dX0_heightOf_6
theorem in_X0_add_X0 : ∀ w ∈ wsX00, w ∈ wsX0_add := by intro w h; unfold wsX0_add; simp only [List.mem_cons, List.mem_append]; first | exact Or.inr (Or.inr h) | exact Or.inr (Or.inl (Or.inr h)) | exact Or.inr (Or.inl (Or.inl (Or.inr h))) | exact Or.inr (Or.inr (Or.inl h)) | exact Or.inr (Or.inr (Or.inr h))
set_option maxHeartbeats 4000000 in
set_option maxRecDepth 100000 in
/-- add -/
theorem c0_add (l : Launch) (dC : Nat → ClassId) (dI : Nat → Nat → Nat) (pB bP bF bL bH : Nat) (cD cI cQ : ClassId) (nb : Nat) (uP uF uL : Nat → Int32) (uH : Nat → UInt64) (pa fi la : Int32) (v : UInt64) (hn12 : nb < 12) (sz : Nat) : Met l yX0_add wsX0_add ({ frames := 1, cells := 0, slots := 0, locals := 20 } : Room) (va_Pc [.ref pB, .int pa, .int fi, .int la, .double v] (fun U => U.heap.size = sz ∧ va_P (dC, dI) vwCl [(pB, .inr (0, [.ref bP, .ref bF, .ref bL, .ref bH, .int (nI nb)])), (bP, .inl (cI, 12, .inl uP)), (bF, .inl (cI, 12, .inl uF)), (bL, .inl (cI, 12, .inl uL)), (bH, .inl (cD, 12, .inr (.inr (.inr (.inl uH)))))] U.heap ∧ va_K (dC, dI) vwCl [(cD, .double), (cI, .int), (cQ, .array .double)] U ∧ va_D (fun _ => True) [(pB, .inr (0, [.ref bP, .ref bF, .ref bL, .ref bH, .int (nI nb)])), (bP, .inl (cI, 12, .inl uP)), (bF, .inl (cI, 12, .inl uF)), (bL, .inl (cI, 12, .inl uL)), (bH, .inl (cD, 12, .inr (.inr (.inr (.inl uH)))))])) (va_Qi (fun (r : Int32) (_ : Unit) => r = nI (nb + 1)) (fun _ t => (va_P (dC, dI) vwCl [(pB, .inr (0, [.ref bP, .ref bF, .ref bL, .ref bH, .int (nI (nb + 1))])), (bP, .inl (cI, 12, .inl (zu uP nb pa))), (bF, .inl (cI, 12, .inl (zu uF nb fi))), (bL, .inl (cI, 12, .inl (zu uL nb la))), (bH, .inl (cD, 12, .inr (.inr (.inr (.inl (zu uH nb v))))))] t.heap ∧ va_K (dC, dI) vwCl [(cD, .double), (cI, .int), (cQ, .array .double)] t ∧ va_D (va_A [(pB, .inr (0, [.ref bP, .ref bF, .ref bL, .ref bH, .int (nI nb)])), (bP, .inl (cI, 12, .inl uP)), (bF, .inl (cI, 12, .inl uF)), (bL, .inl (cI, 12, .inl uL)), (bH, .inl (cD, 12, .inr (.inr (.inr (.inl uH)))))] sz) [(pB, .inr (0, [.ref bP, .ref bF, .ref bL, .ref bH, .int (nI (nb + 1))])), (bP, .inl (cI, 12, .inl (zu uP nb pa))), (bF, .inl (cI, 12, .inl (zu uF nb fi))), (bL, .inl (cI, 12, .inl (zu uL nb la))), (bH, .inl (cD, 12, .inr (.inr (.inr (.inl (zu uH nb v))))))])) (va_A [(pB, .inr (0, [.ref bP, .ref bF, .ref bL, .ref bH, .int (nI nb)])), (bP, .inl (cI, 12, .inl uP)), (bF, .inl (cI, 12, .inl uF)), (bL, .inl (cI, 12, .inl uL)), (bH, .inl (cD, 12, .inr (.inr (.inr (.inl uH)))))] sz)) 0 0 (va_A [(pB, .inr (0, [.ref bP, .ref bF, .ref bL, .ref bH, .int (nI nb)])), (bP, .inl (cI, 12, .inl uP)), (bF, .inl (cI, 12, .inl uF)), (bL, .inl (cI, 12, .inl uL)), (bH, .inl (cD, 12, .inr (.inr (.inr (.inl uH)))))] sz) := by
  refine Met.ofW (cc := cX0_add) (maxL := 6) (ret := (some .int)) (by decide) rfl ?_
  intro p e s m args below meth c s₁ B hml hv
  obtain ⟨rfl, hsz, hP, hK, hD0⟩ := hv
  have hx := B.exec
  have hb := B.bytes
  have hr := B.returns
  have hts := atoms_spec (ws := wsX0_add) B.pre
  have hown : s.vm.findClass RX0 = some m.cls := findClass_of_methodNamed B.named
  have hlocks := B.notSynchronized
  subst hsz
  have hD := hD0.self (sz := s.heap.size)
  generalize hAe : va_A [(pB, .inr (0, [.ref bP, .ref bF, .ref bL, .ref bH, .int (nI nb)])), (bP, .inl (cI, 12, .inl uP)), (bF, .inl (cI, 12, .inl uF)), (bL, .inl (cI, 12, .inl uL)), (bH, .inl (cD, 12, .inr (.inr (.inr (.inl uH)))))] s.heap.size = A at hD ⊢
  have hA : ∀ q : Nat, s.heap.size ≤ q → A q := fun q h => by rw [← hAe]; exact Or.inr h
  have hS : va_S A s.heap s.heap [] := va_S.rf
  have hl := lv_entry ([.ref pB, .int pa, .int fi, .int la, .double v]) (n := 6) (Nat.le_of_ble_eq_true rfl)
  rw [lg_entry_eq]
  generalize (lg_sl ([.ref pB, .int pa, .int fi, .int la, .double v]) ++ List.replicate (6 - (lg_sl ([.ref pB, .int pa, .int fi, .int la, .double v])).length) Slot.unset).toArray = ls at hl ⊢
  have hl : lv_has ls 6 [(0, .ref pB), (1, .int pa), (2, .int fi), (3, .int la), (4, .double v)] := hl
  refine lv_aload_n hx hb dX0_add_0 rfl (lv_at hl 0 rfl) ?_
  have hPc := hP
  refine va_calli (va_runV (As := []) (rest := []) ⟨hx, hb, hml, hown, hts⟩ (c0_full l dC dI pB bP bF bL bH cD cI cQ nb uP uF uL uH (by omega)) (cwV 0 hts gX0_add_X0_full rfl rfl rfl (by decide +kernel) ⟨Nat.le_of_ble_eq_true rfl, Nat.le_of_ble_eq_true rfl⟩) ⟨zfb, va_recv hK hP (ci := 0) (q0 := 0) rfl rfl, zpre hPc hK⟩ rfl rfl hl.1 rfl (lv_room (Nat.le_of_ble_eq_true rfl)) dX0_add_1 ⟨Nat.le_of_ble_eq_true rfl, Nat.le_of_ble_eq_true rfl⟩) hS (fun q _ h => h.elim) (fun q h => h.elim) (fun r1 u9 t9 H locs ht9 hvm9 hr1 hB9 hz9 hk1 hS => ?_)
  have hP := zro1 hP hk1
  subst hr1
  refine z_if_ne_b (tgt := 58) hx hb dX0_add_4 (by decide) (fun c2 => ?_) (fun c3 => ?_)
  · skip
    exact absurd (of_decide_eq_true c2) (by omega)
  · skip
    refine lv_aload_n hx hb dX0_add_7 rfl (lv_at hl 0 rfl) ?_
    refine va_get (D := (dC, dI)) (ci := 0) (v := .ref bP) (C := RX0) (T := TX0) (N := 5) hx hb hts (in_X0_add_X0) hown hK hP 0 rfl rfl 0 (by decide) (hts (.fieldLink RX0 9 "PlateModes$Braces" "paces" "[I") (by decide +kernel)) (fun _ h9 => h9) rfl dX0_add_8 ?_
    refine lv_aload_n hx hb dX0_add_11 rfl (lv_at hl 0 rfl) ?_
    refine va_get (D := (dC, dI)) (ci := 0) (v := .int (nI nb)) (C := RX0) (T := TX0) (N := 5) hx hb hts (in_X0_add_X0) hown hK hP 0 rfl rfl 4 (by decide) (hts (.fieldLink RX0 25 "PlateModes$Braces" "count" "I") (by decide +kernel)) (fun _ h9 => h9) rfl dX0_add_12 ?_
    refine lv_iload_n hx hb dX0_add_15 rfl (lv_at hl 1 rfl) ?_
    refine z_iast (n := 12) (i := nb) hx hb hK hP hD hS 1 1 rfl rfl (by omega) (by decide) dX0_add_16 (fun H locs hP hD hS => ?_)
    have hP : va_P (dC, dI) vwCl [(pB, .inr (0, [.ref bP, .ref bF, .ref bL, .ref bH, .int (nI nb)])), (bP, .inl (cI, 12, .inl (zu uP nb pa))), (bF, .inl (cI, 12, .inl uF)), (bL, .inl (cI, 12, .inl uL)), (bH, .inl (cD, 12, .inr (.inr (.inr (.inl uH)))))] H := hP
    have hD : va_D A [(pB, .inr (0, [.ref bP, .ref bF, .ref bL, .ref bH, .int (nI nb)])), (bP, .inl (cI, 12, .inl (zu uP nb pa))), (bF, .inl (cI, 12, .inl uF)), (bL, .inl (cI, 12, .inl uL)), (bH, .inl (cD, 12, .inr (.inr (.inr (.inl uH)))))] := hD
    refine lv_aload_n hx hb dX0_add_17 rfl (lv_at hl 0 rfl) ?_
    refine va_get (D := (dC, dI)) (ci := 0) (v := .ref bF) (C := RX0) (T := TX0) (N := 5) hx hb hts (in_X0_add_X0) hown hK hP 0 rfl rfl 1 (by decide) (hts (.fieldLink RX0 15 "PlateModes$Braces" "firsts" "[I") (by decide +kernel)) (fun _ h9 => h9) rfl dX0_add_18 ?_
    refine lv_aload_n hx hb dX0_add_21 rfl (lv_at hl 0 rfl) ?_
    refine va_get (D := (dC, dI)) (ci := 0) (v := .int (nI nb)) (C := RX0) (T := TX0) (N := 5) hx hb hts (in_X0_add_X0) hown hK hP 0 rfl rfl 4 (by decide) (hts (.fieldLink RX0 25 "PlateModes$Braces" "count" "I") (by decide +kernel)) (fun _ h9 => h9) rfl dX0_add_22 ?_
    refine lv_iload_n hx hb dX0_add_25 rfl (lv_at hl 2 rfl) ?_
    refine z_iast (n := 12) (i := nb) hx hb hK hP hD hS 2 1 rfl rfl (by omega) (by decide) dX0_add_26 (fun H locs hP hD hS => ?_)
    have hP : va_P (dC, dI) vwCl [(pB, .inr (0, [.ref bP, .ref bF, .ref bL, .ref bH, .int (nI nb)])), (bP, .inl (cI, 12, .inl (zu uP nb pa))), (bF, .inl (cI, 12, .inl (zu uF nb fi))), (bL, .inl (cI, 12, .inl uL)), (bH, .inl (cD, 12, .inr (.inr (.inr (.inl uH)))))] H := hP
    have hD : va_D A [(pB, .inr (0, [.ref bP, .ref bF, .ref bL, .ref bH, .int (nI nb)])), (bP, .inl (cI, 12, .inl (zu uP nb pa))), (bF, .inl (cI, 12, .inl (zu uF nb fi))), (bL, .inl (cI, 12, .inl uL)), (bH, .inl (cD, 12, .inr (.inr (.inr (.inl uH)))))] := hD
    refine lv_aload_n hx hb dX0_add_27 rfl (lv_at hl 0 rfl) ?_
    refine va_get (D := (dC, dI)) (ci := 0) (v := .ref bL) (C := RX0) (T := TX0) (N := 5) hx hb hts (in_X0_add_X0) hown hK hP 0 rfl rfl 2 (by decide) (hts (.fieldLink RX0 18 "PlateModes$Braces" "lasts" "[I") (by decide +kernel)) (fun _ h9 => h9) rfl dX0_add_28 ?_
    refine lv_aload_n hx hb dX0_add_31 rfl (lv_at hl 0 rfl) ?_
    refine va_get (D := (dC, dI)) (ci := 0) (v := .int (nI nb)) (C := RX0) (T := TX0) (N := 5) hx hb hts (in_X0_add_X0) hown hK hP 0 rfl rfl 4 (by decide) (hts (.fieldLink RX0 25 "PlateModes$Braces" "count" "I") (by decide +kernel)) (fun _ h9 => h9) rfl dX0_add_32 ?_
    refine lv_iload_n hx hb dX0_add_35 rfl (lv_at hl 3 rfl) ?_
    refine z_iast (n := 12) (i := nb) hx hb hK hP hD hS 3 1 rfl rfl (by omega) (by decide) dX0_add_36 (fun H locs hP hD hS => ?_)
    have hP : va_P (dC, dI) vwCl [(pB, .inr (0, [.ref bP, .ref bF, .ref bL, .ref bH, .int (nI nb)])), (bP, .inl (cI, 12, .inl (zu uP nb pa))), (bF, .inl (cI, 12, .inl (zu uF nb fi))), (bL, .inl (cI, 12, .inl (zu uL nb la))), (bH, .inl (cD, 12, .inr (.inr (.inr (.inl uH)))))] H := hP
    have hD : va_D A [(pB, .inr (0, [.ref bP, .ref bF, .ref bL, .ref bH, .int (nI nb)])), (bP, .inl (cI, 12, .inl (zu uP nb pa))), (bF, .inl (cI, 12, .inl (zu uF nb fi))), (bL, .inl (cI, 12, .inl (zu uL nb la))), (bH, .inl (cD, 12, .inr (.inr (.inr (.inl uH)))))] := hD
    refine lv_aload_n hx hb dX0_add_37 rfl (lv_at hl 0 rfl) ?_
    refine va_get (D := (dC, dI)) (ci := 0) (v := .ref bH) (C := RX0) (T := TX0) (N := 5) hx hb hts (in_X0_add_X0) hown hK hP 0 rfl rfl 3 (by decide) (hts (.fieldLink RX0 21 "PlateModes$Braces" "heights" "[D") (by decide +kernel)) (fun _ h9 => h9) rfl dX0_add_38 ?_
    refine lv_aload_n hx hb dX0_add_41 rfl (lv_at hl 0 rfl) ?_
    refine va_get (D := (dC, dI)) (ci := 0) (v := .int (nI nb)) (C := RX0) (T := TX0) (N := 5) hx hb hts (in_X0_add_X0) hown hK hP 0 rfl rfl 4 (by decide) (hts (.fieldLink RX0 25 "PlateModes$Braces" "count" "I") (by decide +kernel)) (fun _ h9 => h9) rfl dX0_add_42 ?_
    refine lv_dload hx hb dX0_add_45 (lv_at hl 4 rfl) ?_
    refine z_dast (n := 12) (i := nb) hx hb hK hP hD hS 4 0 rfl rfl (by omega) (by decide) dX0_add_47 (fun H locs hP hD hS => ?_)
    have hP : va_P (dC, dI) vwCl [(pB, .inr (0, [.ref bP, .ref bF, .ref bL, .ref bH, .int (nI nb)])), (bP, .inl (cI, 12, .inl (zu uP nb pa))), (bF, .inl (cI, 12, .inl (zu uF nb fi))), (bL, .inl (cI, 12, .inl (zu uL nb la))), (bH, .inl (cD, 12, .inr (.inr (.inr (.inl (zu uH nb v))))))] H := hP
    have hD : va_D A [(pB, .inr (0, [.ref bP, .ref bF, .ref bL, .ref bH, .int (nI nb)])), (bP, .inl (cI, 12, .inl (zu uP nb pa))), (bF, .inl (cI, 12, .inl (zu uF nb fi))), (bL, .inl (cI, 12, .inl (zu uL nb la))), (bH, .inl (cD, 12, .inr (.inr (.inr (.inl (zu uH nb v))))))] := hD
    refine lv_aload_n hx hb dX0_add_48 rfl (lv_at hl 0 rfl) ?_
    refine lv_dup hx hb dX0_add_49 rfl ?_
    refine va_get (D := (dC, dI)) (ci := 0) (v := .int (nI nb)) (C := RX0) (T := TX0) (N := 5) hx hb hts (in_X0_add_X0) hown hK hP 0 rfl rfl 4 (by decide) (hts (.fieldLink RX0 25 "PlateModes$Braces" "count" "I") (by decide +kernel)) (fun _ h9 => h9) rfl dX0_add_50 ?_
    refine lv_iconst (v := (nI 1)) hx hb dX0_add_53 (by decide) ?_
    refine t_iadd hx hb dX0_add_54 (v := nI (nb + 1)) (zi_add (by omega)) ?_
    refine va_put (D := (dC, dI)) (ci := 0) (v := .int (nI (nb + 1))) (ty := .int) (C := RX0) (T := TX0) (N := 5) hx hb hts (in_X0_add_X0) tyX0 tyX0_ok nmX0 hown hK hP hD hS 0 rfl rfl 4 (by decide) (hts (.fieldLink RX0 25 "PlateModes$Braces" "count" "I") (by decide +kernel)) (fun _ h9 => h9) rfl (by decide +kernel) rfl rfl (Nat.le_of_ble_eq_true rfl) dX0_add_55 (fun H locs hP hD hS => ?_)
    have hP : va_P (dC, dI) vwCl [(pB, .inr (0, [.ref bP, .ref bF, .ref bL, .ref bH, .int (nI (nb + 1))])), (bP, .inl (cI, 12, .inl (zu uP nb pa))), (bF, .inl (cI, 12, .inl (zu uF nb fi))), (bL, .inl (cI, 12, .inl (zu uL nb la))), (bH, .inl (cD, 12, .inr (.inr (.inr (.inl (zu uH nb v))))))] H := hP
    have hD : va_D A [(pB, .inr (0, [.ref bP, .ref bF, .ref bL, .ref bH, .int (nI (nb + 1))])), (bP, .inl (cI, 12, .inl (zu uP nb pa))), (bF, .inl (cI, 12, .inl (zu uF nb fi))), (bL, .inl (cI, 12, .inl (zu uL nb la))), (bH, .inl (cD, 12, .inr (.inr (.inr (.inl (zu uH nb v))))))] := hD
    refine lv_aload_n hx hb dX0_add_58 rfl (lv_at hl 0 rfl) ?_
    refine va_get (D := (dC, dI)) (ci := 0) (v := .int (nI (nb + 1))) (C := RX0) (T := TX0) (N := 5) hx hb hts (in_X0_add_X0) hown hK hP 0 rfl rfl 4 (by decide) (hts (.fieldLink RX0 25 "PlateModes$Braces" "count" "I") (by decide +kernel)) (fun _ h9 => h9) rfl dX0_add_59 ?_
    exact W.iret (v := (nI (nb + 1))) hx hb hr (fun t ht hW => ⟨⟨(nI (nb + 1)), (), rfl, rfl, by rw [ht]; exact hP, va_K.moved hW.alike hK, hD⟩, hS.F ht⟩) hS.2.2 dX0_add_62
theorem in_X2_cells_X2 : ∀ w ∈ wsX20, w ∈ wsX2_cells := by intro w h; unfold wsX2_cells; simp only [List.mem_cons, List.mem_append]; first | exact Or.inr (Or.inr h) | exact Or.inr (Or.inl (Or.inr h)) | exact Or.inr (Or.inl (Or.inl (Or.inr h))) | exact Or.inr (Or.inr (Or.inl h)) | exact Or.inr (Or.inr (Or.inr h))
set_option maxHeartbeats 4000000 in
set_option maxRecDepth 100000 in
/-- cells() -/
theorem c2_cells (l : Launch) (dC : Nat → ClassId) (dI : Nat → Nat → Nat) (aP pT pR pN pB bP bF bL bH : Nat) (cD cI cQ : ClassId) (iw ih : Nat) (al ac de : UInt64) (nb : Nat) (tT tR tN : Nat → UInt64) (uP uF uL : Nat → Int32) (uH : Nat → UInt64) (hw6 : iw ≤ 6) (hh6 : ih ≤ 6) : Met l yX2_cells wsX2_cells ({ frames := 0, cells := 0, slots := 0, locals := 0 } : Room) (va_Pc [.ref aP] (fun U => va_P (dC, dI) vwCl [(aP, .inr (2, [.int (nI iw), .int (nI ih), .ref pT, .ref pR, .ref pN, .ref pB, .double al, .double ac, .double de])), (pT, .inl (cD, (iw * ih), .inr (.inr (.inr (.inl tT))))), (pR, .inl (cD, (iw * ih), .inr (.inr (.inr (.inl tR))))), (pN, .inl (cD, (iw * ih), .inr (.inr (.inr (.inl tN))))), (pB, .inr (0, [.ref bP, .ref bF, .ref bL, .ref bH, .int (nI nb)])), (bP, .inl (cI, 12, .inl uP)), (bF, .inl (cI, 12, .inl uF)), (bL, .inl (cI, 12, .inl uL)), (bH, .inl (cD, 12, .inr (.inr (.inr (.inl uH)))))] U.heap ∧ va_K (dC, dI) vwCl [(cD, .double), (cI, .int), (cQ, .array .double)] U)) (va_Qi (fun (r : Int32) (_ : Unit) => r = nI (iw * ih)) (fun _ _ => True) (fun _ => False)) 0 0 (fun _ => False) := by
  refine Met.ofW (cc := cX2_cells) (maxL := 1) (ret := (some .int)) (by decide) rfl ?_
  intro p e s m args below meth c s₁ B hml hv
  obtain ⟨rfl, hP0, hK⟩ := hv
  have hx := B.exec
  have hb := B.bytes
  have hr := B.returns
  have hts := atoms_spec (ws := wsX2_cells) B.pre
  have hown : s.vm.findClass RX2 = some m.cls := findClass_of_methodNamed B.named
  have hlocks := B.notSynchronized
  have hS : va_S (fun _ => False) s.heap s.heap [] := va_S.rf
  have hP := hP0
  have hl := lv_entry ([.ref aP]) (n := 1) (Nat.le_of_ble_eq_true rfl)
  rw [lg_entry_eq]
  generalize (lg_sl ([.ref aP]) ++ List.replicate (1 - (lg_sl ([.ref aP])).length) Slot.unset).toArray = ls at hl ⊢
  have hl : lv_has ls 1 [(0, .ref aP)] := hl
  have hn36 : iw * ih ≤ 36 := Nat.mul_le_mul hw6 hh6
  refine lv_aload_n hx hb dX2_cells_0 rfl (lv_at hl 0 rfl) ?_
  refine va_get (D := (dC, dI)) (ci := 2) (v := .ref pT) (C := RX2) (T := TX2) (N := 9) hx hb hts (in_X2_cells_X2) hown hK hP 0 rfl rfl 2 (by decide) (hts (.fieldLink RX2 18 "PlateModes$Plate" "thick" "[D") (by decide +kernel)) (fun _ h9 => h9) rfl dX2_cells_1 ?_
  refine va_alen hx hb hK hP 1 0 rfl (v := nI (iw * ih)) rfl rfl dX2_cells_4 ?_
  exact W.iret (v := (nI (iw * ih))) hx hb hr (fun t ht hW => ⟨⟨(nI (iw * ih)), (), rfl, ⟨rfl, trivial⟩⟩, hS.F ht⟩) hS.2.2 dX2_cells_5
theorem in_X2_hasCell_X2 : ∀ w ∈ wsX20, w ∈ wsX2_hasCell := by intro w h; unfold wsX2_hasCell; simp only [List.mem_cons, List.mem_append]; first | exact Or.inr (Or.inr h) | exact Or.inr (Or.inl (Or.inr h)) | exact Or.inr (Or.inl (Or.inl (Or.inr h))) | exact Or.inr (Or.inr (Or.inl h)) | exact Or.inr (Or.inr (Or.inr h))
set_option maxHeartbeats 4000000 in
set_option maxRecDepth 100000 in
/-- hasCell -/
theorem c2_hasCell (l : Launch) (dC : Nat → ClassId) (dI : Nat → Nat → Nat) (aP pT pR pN pB bP bF bL bH : Nat) (cD cI cQ : ClassId) (iw ih : Nat) (al ac de : UInt64) (nb : Nat) (tT tR tN : Nat → UInt64) (uP uF uL : Nat → Int32) (uH : Nat → UInt64) (x y : Int32) : Met l yX2_hasCell wsX2_hasCell ({ frames := 0, cells := 0, slots := 0, locals := 0 } : Room) (va_Pc [.ref aP, .int x, .int y] (fun U => va_P (dC, dI) vwCl [(aP, .inr (2, [.int (nI iw), .int (nI ih), .ref pT, .ref pR, .ref pN, .ref pB, .double al, .double ac, .double de])), (pT, .inl (cD, (iw * ih), .inr (.inr (.inr (.inl tT))))), (pR, .inl (cD, (iw * ih), .inr (.inr (.inr (.inl tR))))), (pN, .inl (cD, (iw * ih), .inr (.inr (.inr (.inl tN))))), (pB, .inr (0, [.ref bP, .ref bF, .ref bL, .ref bH, .int (nI nb)])), (bP, .inl (cI, 12, .inl uP)), (bF, .inl (cI, 12, .inl uF)), (bL, .inl (cI, 12, .inl uL)), (bH, .inl (cD, 12, .inr (.inr (.inr (.inl uH)))))] U.heap ∧ va_K (dC, dI) vwCl [(cD, .double), (cI, .int), (cQ, .array .double)] U)) (va_Qi (fun (r : Int32) (_ : Unit) => r = zp (¬ zncl iw ih x y)) (fun _ _ => True) (fun _ => False)) 0 0 (fun _ => False) := by
  refine Met.ofW (cc := cX2_hasCell) (maxL := 3) (ret := (some .boolean)) (by decide) rfl ?_
  intro p e s m args below meth c s₁ B hml hv
  obtain ⟨rfl, hP0, hK⟩ := hv
  have hx := B.exec
  have hb := B.bytes
  have hr := B.returns
  have hts := atoms_spec (ws := wsX2_hasCell) B.pre
  have hown : s.vm.findClass RX2 = some m.cls := findClass_of_methodNamed B.named
  have hlocks := B.notSynchronized
  have hS : va_S (fun _ => False) s.heap s.heap [] := va_S.rf
  have hP := hP0
  have hl := lv_entry ([.ref aP, .int x, .int y]) (n := 3) (Nat.le_of_ble_eq_true rfl)
  rw [lg_entry_eq]
  generalize (lg_sl ([.ref aP, .int x, .int y]) ++ List.replicate (3 - (lg_sl ([.ref aP, .int x, .int y])).length) Slot.unset).toArray = ls at hl ⊢
  have hl : lv_has ls 3 [(0, .ref aP), (1, .int x), (2, .int y)] := hl
  refine lv_iload_n hx hb dX2_hasCell_0 rfl (lv_at hl 1 rfl) ?_
  refine lv_if_lt (tgt := 28) hx hb dX2_hasCell_1 (by decide) (fun c1 => ?_) (fun c2 => ?_)
  · skip
    refine lv_iconst (v := (nI 0)) hx hb dX2_hasCell_28 (by decide) ?_
    exact W.zret (v := (nI 0)) hx hb hr rfl (fun t ht hW => ⟨⟨(nI 0), (), rfl, ⟨znc_f _ (by simp [*]), trivial⟩⟩, hS.F ht⟩) hS.2.2 dX2_hasCell_29
  · skip
    refine lv_iload_n hx hb dX2_hasCell_4 rfl (lv_at hl 1 rfl) ?_
    refine lv_aload_n hx hb dX2_hasCell_5 rfl (lv_at hl 0 rfl) ?_
    refine va_get (D := (dC, dI)) (ci := 2) (v := .int (nI iw)) (C := RX2) (T := TX2) (N := 9) hx hb hts (in_X2_hasCell_X2) hown hK hP 0 rfl rfl 0 (by decide) (hts (.fieldLink RX2 9 "PlateModes$Plate" "width" "I") (by decide +kernel)) (fun _ h9 => h9) rfl dX2_hasCell_6 ?_
    refine lv_icmp_ge (tgt := 28) hx hb dX2_hasCell_9 (by decide) (fun c3 => ?_) (fun c4 => ?_)
    · skip
      refine lv_iconst (v := (nI 0)) hx hb dX2_hasCell_28 (by decide) ?_
      exact W.zret (v := (nI 0)) hx hb hr rfl (fun t ht hW => ⟨⟨(nI 0), (), rfl, ⟨znc_f _ (by simp [*]), trivial⟩⟩, hS.F ht⟩) hS.2.2 dX2_hasCell_29
    · skip
      refine lv_iload_n hx hb dX2_hasCell_12 rfl (lv_at hl 2 rfl) ?_
      refine lv_if_lt (tgt := 28) hx hb dX2_hasCell_13 (by decide) (fun c5 => ?_) (fun c6 => ?_)
      · skip
        refine lv_iconst (v := (nI 0)) hx hb dX2_hasCell_28 (by decide) ?_
        exact W.zret (v := (nI 0)) hx hb hr rfl (fun t ht hW => ⟨⟨(nI 0), (), rfl, ⟨znc_f _ (by simp [*]), trivial⟩⟩, hS.F ht⟩) hS.2.2 dX2_hasCell_29
      · skip
        refine lv_iload_n hx hb dX2_hasCell_16 rfl (lv_at hl 2 rfl) ?_
        refine lv_aload_n hx hb dX2_hasCell_17 rfl (lv_at hl 0 rfl) ?_
        refine va_get (D := (dC, dI)) (ci := 2) (v := .int (nI ih)) (C := RX2) (T := TX2) (N := 9) hx hb hts (in_X2_hasCell_X2) hown hK hP 0 rfl rfl 1 (by decide) (hts (.fieldLink RX2 15 "PlateModes$Plate" "height" "I") (by decide +kernel)) (fun _ h9 => h9) rfl dX2_hasCell_18 ?_
        refine lv_icmp_ge (tgt := 28) hx hb dX2_hasCell_21 (by decide) (fun c7 => ?_) (fun c8 => ?_)
        · skip
          have cz := Int32.not_lt.mp (fun q => absurd q (Int32.not_lt.mpr c7))
          refine lv_iconst (v := (nI 0)) hx hb dX2_hasCell_28 (by decide) ?_
          exact W.zret (v := (nI 0)) hx hb hr rfl (fun t ht hW => ⟨⟨(nI 0), (), rfl, ⟨znc_f _ (by simp [*]), trivial⟩⟩, hS.F ht⟩) hS.2.2 dX2_hasCell_29
        · skip
          refine lv_iconst (v := (nI 1)) hx hb dX2_hasCell_24 (by decide) ?_
          refine lv_goto (tgt := 29) hx hb dX2_hasCell_25 (by decide) ?_
          exact W.zret (v := (nI 1)) hx hb hr rfl (fun t ht hW => ⟨⟨(nI 1), (), rfl, ⟨znc_t _ (by simp [*]), trivial⟩⟩, hS.F ht⟩) hS.2.2 dX2_hasCell_29
theorem in_X2_cellAt_X2 : ∀ w ∈ wsX20, w ∈ wsX2_cellAt := by intro w h; unfold wsX2_cellAt; simp only [List.mem_cons, List.mem_append]; first | exact Or.inr (Or.inr h) | exact Or.inr (Or.inl (Or.inr h)) | exact Or.inr (Or.inl (Or.inl (Or.inr h))) | exact Or.inr (Or.inr (Or.inl h)) | exact Or.inr (Or.inr (Or.inr h))
set_option maxHeartbeats 4000000 in
set_option maxRecDepth 100000 in
/-- cellAt -/
theorem c2_cellAt (l : Launch) (dC : Nat → ClassId) (dI : Nat → Nat → Nat) (aP pT pR pN pB bP bF bL bH : Nat) (cD cI cQ : ClassId) (iw ih : Nat) (al ac de : UInt64) (nb : Nat) (tT tR tN : Nat → UInt64) (uP uF uL : Nat → Int32) (uH : Nat → UInt64) (x y : Nat) : Met l yX2_cellAt wsX2_cellAt ({ frames := 0, cells := 0, slots := 0, locals := 0 } : Room) (va_Pc [.ref aP, .int (nI x), .int (nI y)] (fun U => va_P (dC, dI) vwCl [(aP, .inr (2, [.int (nI iw), .int (nI ih), .ref pT, .ref pR, .ref pN, .ref pB, .double al, .double ac, .double de])), (pT, .inl (cD, (iw * ih), .inr (.inr (.inr (.inl tT))))), (pR, .inl (cD, (iw * ih), .inr (.inr (.inr (.inl tR))))), (pN, .inl (cD, (iw * ih), .inr (.inr (.inr (.inl tN))))), (pB, .inr (0, [.ref bP, .ref bF, .ref bL, .ref bH, .int (nI nb)])), (bP, .inl (cI, 12, .inl uP)), (bF, .inl (cI, 12, .inl uF)), (bL, .inl (cI, 12, .inl uL)), (bH, .inl (cD, 12, .inr (.inr (.inr (.inl uH)))))] U.heap ∧ va_K (dC, dI) vwCl [(cD, .double), (cI, .int), (cQ, .array .double)] U)) (va_Qi (fun (r : Int32) (_ : Unit) => r = nI (y * iw + x)) (fun _ _ => True) (fun _ => False)) 0 0 (fun _ => False) := by
  refine Met.ofW (cc := cX2_cellAt) (maxL := 3) (ret := (some .int)) (by decide) rfl ?_
  intro p e s m args below meth c s₁ B hml hv
  obtain ⟨rfl, hP0, hK⟩ := hv
  have hx := B.exec
  have hb := B.bytes
  have hr := B.returns
  have hts := atoms_spec (ws := wsX2_cellAt) B.pre
  have hown : s.vm.findClass RX2 = some m.cls := findClass_of_methodNamed B.named
  have hlocks := B.notSynchronized
  have hS : va_S (fun _ => False) s.heap s.heap [] := va_S.rf
  have hP := hP0
  have hl := lv_entry ([.ref aP, .int (nI x), .int (nI y)]) (n := 3) (Nat.le_of_ble_eq_true rfl)
  rw [lg_entry_eq]
  generalize (lg_sl ([.ref aP, .int (nI x), .int (nI y)]) ++ List.replicate (3 - (lg_sl ([.ref aP, .int (nI x), .int (nI y)])).length) Slot.unset).toArray = ls at hl ⊢
  have hl : lv_has ls 3 [(0, .ref aP), (1, .int (nI x)), (2, .int (nI y))] := hl
  refine lv_iload_n hx hb dX2_cellAt_0 rfl (lv_at hl 2 rfl) ?_
  refine lv_aload_n hx hb dX2_cellAt_1 rfl (lv_at hl 0 rfl) ?_
  refine va_get (D := (dC, dI)) (ci := 2) (v := .int (nI iw)) (C := RX2) (T := TX2) (N := 9) hx hb hts (in_X2_cellAt_X2) hown hK hP 0 rfl rfl 0 (by decide) (hts (.fieldLink RX2 9 "PlateModes$Plate" "width" "I") (by decide +kernel)) (fun _ h9 => h9) rfl dX2_cellAt_2 ?_
  refine t_imul hx hb dX2_cellAt_5 (v := nI (y * iw)) (zi_mul rfl) ?_
  refine lv_iload_n hx hb dX2_cellAt_6 rfl (lv_at hl 1 rfl) ?_
  refine t_iadd hx hb dX2_cellAt_7 (v := nI (y * iw + x)) (zi_add (by omega)) ?_
  exact W.iret (v := (nI (y * iw + x))) hx hb hr (fun t ht hW => ⟨⟨(nI (y * iw + x)), (), rfl, ⟨rfl, trivial⟩⟩, hS.F ht⟩) hS.2.2 dX2_cellAt_8
theorem in_X2_thicknessOf_X2 : ∀ w ∈ wsX20, w ∈ wsX2_thicknessOf := by intro w h; unfold wsX2_thicknessOf; simp only [List.mem_cons, List.mem_append]; first | exact Or.inr (Or.inr h) | exact Or.inr (Or.inl (Or.inr h)) | exact Or.inr (Or.inl (Or.inl (Or.inr h))) | exact Or.inr (Or.inr (Or.inl h)) | exact Or.inr (Or.inr (Or.inr h))
set_option maxHeartbeats 4000000 in
set_option maxRecDepth 100000 in
/-- thicknessOf -/
theorem c2_thicknessOf (l : Launch) (dC : Nat → ClassId) (dI : Nat → Nat → Nat) (aP pT pR pN pB bP bF bL bH : Nat) (cD cI cQ : ClassId) (iw ih : Nat) (al ac de : UInt64) (nb : Nat) (tT tR tN : Nat → UInt64) (uP uF uL : Nat → Int32) (uH : Nat → UInt64) (hw6 : iw ≤ 6) (hh6 : ih ≤ 6) (k : Nat) (hk : k < iw * ih) : Met l yX2_thicknessOf wsX2_thicknessOf ({ frames := 0, cells := 0, slots := 0, locals := 0 } : Room) (va_Pc [.ref aP, .int (nI k)] (fun U => va_P (dC, dI) vwCl [(aP, .inr (2, [.int (nI iw), .int (nI ih), .ref pT, .ref pR, .ref pN, .ref pB, .double al, .double ac, .double de])), (pT, .inl (cD, (iw * ih), .inr (.inr (.inr (.inl tT))))), (pR, .inl (cD, (iw * ih), .inr (.inr (.inr (.inl tR))))), (pN, .inl (cD, (iw * ih), .inr (.inr (.inr (.inl tN))))), (pB, .inr (0, [.ref bP, .ref bF, .ref bL, .ref bH, .int (nI nb)])), (bP, .inl (cI, 12, .inl uP)), (bF, .inl (cI, 12, .inl uF)), (bL, .inl (cI, 12, .inl uL)), (bH, .inl (cD, 12, .inr (.inr (.inr (.inl uH)))))] U.heap ∧ va_K (dC, dI) vwCl [(cD, .double), (cI, .int), (cQ, .array .double)] U)) (va_Qd (fun (r : UInt64) (_ : Unit) => r = tT k) (fun _ _ => True) (fun _ => False)) 0 0 (fun _ => False) := by
  refine Met.ofW (cc := cX2_thicknessOf) (maxL := 2) (ret := (some .double)) (by decide) rfl ?_
  intro p e s m args below meth c s₁ B hml hv
  obtain ⟨rfl, hP0, hK⟩ := hv
  have hx := B.exec
  have hb := B.bytes
  have hr := B.returns
  have hts := atoms_spec (ws := wsX2_thicknessOf) B.pre
  have hown : s.vm.findClass RX2 = some m.cls := findClass_of_methodNamed B.named
  have hlocks := B.notSynchronized
  have hS : va_S (fun _ => False) s.heap s.heap [] := va_S.rf
  have hP := hP0
  have hl := lv_entry ([.ref aP, .int (nI k)]) (n := 2) (Nat.le_of_ble_eq_true rfl)
  rw [lg_entry_eq]
  generalize (lg_sl ([.ref aP, .int (nI k)]) ++ List.replicate (2 - (lg_sl ([.ref aP, .int (nI k)])).length) Slot.unset).toArray = ls at hl ⊢
  have hl : lv_has ls 2 [(0, .ref aP), (1, .int (nI k))] := hl
  have hn36 : iw * ih ≤ 36 := Nat.mul_le_mul hw6 hh6
  refine lv_aload_n hx hb dX2_thicknessOf_0 rfl (lv_at hl 0 rfl) ?_
  refine va_get (D := (dC, dI)) (ci := 2) (v := .ref pT) (C := RX2) (T := TX2) (N := 9) hx hb hts (in_X2_thicknessOf_X2) hown hK hP 0 rfl rfl 2 (by decide) (hts (.fieldLink RX2 18 "PlateModes$Plate" "thick" "[D") (by decide +kernel)) (fun _ h9 => h9) rfl dX2_thicknessOf_1 ?_
  refine lv_iload_n hx hb dX2_thicknessOf_4 rfl (lv_at hl 1 rfl) ?_
  refine z_dald (n := (iw * ih)) (i := k) hx hb hK hP 1 0 rfl rfl (by omega) (by omega) dX2_thicknessOf_5 ?_
  exact W.dret (v := tT k) hx hb hr (fun t ht hW => ⟨⟨tT k, (), rfl, ⟨rfl, trivial⟩⟩, hS.F ht⟩) hS.2.2 dX2_thicknessOf_6
theorem in_X2_hasWood_X2 : ∀ w ∈ wsX20, w ∈ wsX2_hasWood := by intro w h; unfold wsX2_hasWood; simp only [List.mem_cons, List.mem_append]; first | exact Or.inr (Or.inr h) | exact Or.inr (Or.inl (Or.inr h)) | exact Or.inr (Or.inl (Or.inl (Or.inr h))) | exact Or.inr (Or.inr (Or.inl h)) | exact Or.inr (Or.inr (Or.inr h))
set_option maxHeartbeats 4000000 in
set_option maxRecDepth 100000 in
/-- hasWood -/
theorem c2_hasWood (l : Launch) (dC : Nat → ClassId) (dI : Nat → Nat → Nat) (aP pT pR pN pB bP bF bL bH : Nat) (cD cI cQ : ClassId) (iw ih : Nat) (al ac de : UInt64) (nb : Nat) (tT tR tN : Nat → UInt64) (uP uF uL : Nat → Int32) (uH : Nat → UInt64) (hw6 : iw ≤ 6) (hh6 : ih ≤ 6) (k : Nat) (hk : k < iw * ih) : Met l yX2_hasWood wsX2_hasWood ({ frames := 0, cells := 0, slots := 0, locals := 0 } : Room) (va_Pc [.ref aP, .int (nI k)] (fun U => va_P (dC, dI) vwCl [(aP, .inr (2, [.int (nI iw), .int (nI ih), .ref pT, .ref pR, .ref pN, .ref pB, .double al, .double ac, .double de])), (pT, .inl (cD, (iw * ih), .inr (.inr (.inr (.inl tT))))), (pR, .inl (cD, (iw * ih), .inr (.inr (.inr (.inl tR))))), (pN, .inl (cD, (iw * ih), .inr (.inr (.inr (.inl tN))))), (pB, .inr (0, [.ref bP, .ref bF, .ref bL, .ref bH, .int (nI nb)])), (bP, .inl (cI, 12, .inl uP)), (bF, .inl (cI, 12, .inl uF)), (bL, .inl (cI, 12, .inl uL)), (bH, .inl (cD, 12, .inr (.inr (.inr (.inl uH)))))] U.heap ∧ va_K (dC, dI) vwCl [(cD, .double), (cI, .int), (cQ, .array .double)] U)) (va_Qi (fun (r : Int32) (_ : Unit) => r = zb (zgt (zv (tT k)) z0)) (fun _ _ => True) (fun _ => False)) 0 0 (fun _ => False) := by
  refine Met.ofW (cc := cX2_hasWood) (maxL := 2) (ret := (some .boolean)) (by decide) rfl ?_
  intro p e s m args below meth c s₁ B hml hv
  obtain ⟨rfl, hP0, hK⟩ := hv
  have hx := B.exec
  have hb := B.bytes
  have hr := B.returns
  have hts := atoms_spec (ws := wsX2_hasWood) B.pre
  have hown : s.vm.findClass RX2 = some m.cls := findClass_of_methodNamed B.named
  have hlocks := B.notSynchronized
  have hS : va_S (fun _ => False) s.heap s.heap [] := va_S.rf
  have hP := hP0
  have hl := lv_entry ([.ref aP, .int (nI k)]) (n := 2) (Nat.le_of_ble_eq_true rfl)
  rw [lg_entry_eq]
  generalize (lg_sl ([.ref aP, .int (nI k)]) ++ List.replicate (2 - (lg_sl ([.ref aP, .int (nI k)])).length) Slot.unset).toArray = ls at hl ⊢
  have hl : lv_has ls 2 [(0, .ref aP), (1, .int (nI k))] := hl
  have hn36 : iw * ih ≤ 36 := Nat.mul_le_mul hw6 hh6
  refine lv_aload_n hx hb dX2_hasWood_0 rfl (lv_at hl 0 rfl) ?_
  refine va_get (D := (dC, dI)) (ci := 2) (v := .ref pT) (C := RX2) (T := TX2) (N := 9) hx hb hts (in_X2_hasWood_X2) hown hK hP 0 rfl rfl 2 (by decide) (hts (.fieldLink RX2 18 "PlateModes$Plate" "thick" "[D") (by decide +kernel)) (fun _ h9 => h9) rfl dX2_hasWood_1 ?_
  refine lv_iload_n hx hb dX2_hasWood_4 rfl (lv_at hl 1 rfl) ?_
  refine z_dald (n := (iw * ih)) (i := k) hx hb hK hP 1 0 rfl rfl (by omega) (by omega) dX2_hasWood_5 ?_
  refine lv_dconst0 hx hb dX2_hasWood_6 ?_
  refine z_cmp_l_le (tgt := 15) hx hb (a := zv (tT k)) (b := z0) rfl rfl dX2_hasWood_7 dX2_hasWood_8 (by decide) (fun c1 => ?_) (fun c2 => ?_)
  · skip
    have c_gt := c1
    refine lv_iconst (v := (nI 0)) hx hb dX2_hasWood_15 (by decide) ?_
    exact W.zret (v := (nI 0)) hx hb hr rfl (fun t ht hW => ⟨⟨(nI 0), (), rfl, ⟨by rw [c_gt]; rfl, trivial⟩⟩, hS.F ht⟩) hS.2.2 dX2_hasWood_16
  · skip
    have c_gt := c2
    refine lv_iconst (v := (nI 1)) hx hb dX2_hasWood_11 (by decide) ?_
    refine lv_goto (tgt := 16) hx hb dX2_hasWood_12 (by decide) ?_
    exact W.zret (v := (nI 1)) hx hb hr rfl (fun t ht hW => ⟨⟨(nI 1), (), rfl, ⟨by rw [c_gt]; rfl, trivial⟩⟩, hS.F ht⟩) hS.2.2 dX2_hasWood_16
theorem in_X2_massOf_X2 : ∀ w ∈ wsX20, w ∈ wsX2_massOf := by intro w h; unfold wsX2_massOf; simp only [List.mem_cons, List.mem_append]; first | exact Or.inr (Or.inr h) | exact Or.inr (Or.inl (Or.inr h)) | exact Or.inr (Or.inl (Or.inl (Or.inr h))) | exact Or.inr (Or.inr (Or.inl h)) | exact Or.inr (Or.inr (Or.inr h))
set_option maxHeartbeats 4000000 in
set_option maxRecDepth 100000 in
/-- massOf -/
theorem c2_massOf (l : Launch) (dC : Nat → ClassId) (dI : Nat → Nat → Nat) (aP pT pR pN pB bP bF bL bH : Nat) (cD cI cQ : ClassId) (iw ih : Nat) (al ac de : UInt64) (nb : Nat) (tT tR tN : Nat → UInt64) (uP uF uL : Nat → Int32) (uH : Nat → UInt64) (hw6 : iw ≤ 6) (hh6 : ih ≤ 6) (k : Nat) (hk : k < iw * ih) : MetD lw_cs l yX2_massOf wsX2_massOf ({ frames := 0, cells := 0, slots := 0, locals := 0 } : Room) (va_Pc [.ref aP, .int (nI k)] (fun U => va_P (dC, dI) vwCl [(aP, .inr (2, [.int (nI iw), .int (nI ih), .ref pT, .ref pR, .ref pN, .ref pB, .double al, .double ac, .double de])), (pT, .inl (cD, (iw * ih), .inr (.inr (.inr (.inl tT))))), (pR, .inl (cD, (iw * ih), .inr (.inr (.inr (.inl tR))))), (pN, .inl (cD, (iw * ih), .inr (.inr (.inr (.inl tN))))), (pB, .inr (0, [.ref bP, .ref bF, .ref bL, .ref bH, .int (nI nb)])), (bP, .inl (cI, 12, .inl uP)), (bF, .inl (cI, 12, .inl uF)), (bL, .inl (cI, 12, .inl uL)), (bH, .inl (cD, 12, .inr (.inr (.inr (.inl uH)))))] U.heap ∧ va_K (dC, dI) vwCl [(cD, .double), (cI, .int), (cQ, .array .double)] U)) (va_Qd (fun (r : UInt64) (_ : Unit) => zv r = zM (zv (tT k)) (zv de)) (fun _ _ => True) (fun _ => False)) 0 0 (fun _ => False) := by
  refine MetD.ofW (cc := cX2_massOf) (maxL := 2) (ret := (some .double)) (by decide) rfl ?_
  intro p e s m args below meth c s₁ B hml hv hd0
  obtain ⟨rfl, hP0, hK⟩ := hv
  have hx := B.exec
  have hb := B.bytes
  have hr := B.returns
  have hts := atoms_spec (ws := wsX2_massOf) B.pre
  have hown : s.vm.findClass RX2 = some m.cls := findClass_of_methodNamed B.named
  have hlocks := B.notSynchronized
  have hS : va_S (fun _ => False) s.heap s.heap [] := va_S.rf
  have hP := hP0
  have hl := lv_entry ([.ref aP, .int (nI k)]) (n := 2) (Nat.le_of_ble_eq_true rfl)
  rw [lg_entry_eq]
  generalize (lg_sl ([.ref aP, .int (nI k)]) ++ List.replicate (2 - (lg_sl ([.ref aP, .int (nI k)])).length) Slot.unset).toArray = ls at hl ⊢
  have hl : lv_has ls 2 [(0, .ref aP), (1, .int (nI k))] := hl
  have hn36 : iw * ih ≤ 36 := Nat.mul_le_mul hw6 hh6
  refine lv_aload_n hx hb dX2_massOf_0 rfl (lv_at hl 0 rfl) ?_
  refine va_get (D := (dC, dI)) (ci := 2) (v := .ref pT) (C := RX2) (T := TX2) (N := 9) hx hb (dr_words hts s.drawn) (in_X2_massOf_X2) hown hK hP 0 rfl rfl 2 (by decide) (dr_words hts s.drawn (.fieldLink RX2 18 "PlateModes$Plate" "thick" "[D") (by decide +kernel)) (fun _ h9 => h9) rfl dX2_massOf_1 ?_
  refine lv_iload_n hx hb dX2_massOf_4 rfl (lv_at hl 1 rfl) ?_
  refine z_dald (s := s.setDrawn s.drawn) (n := (iw * ih)) (i := k) hx hb hK hP 1 0 rfl rfl (by omega) (by omega) dX2_massOf_5 ?_
  refine lv_aload_n hx hb dX2_massOf_6 rfl (lv_at hl 0 rfl) ?_
  refine va_get (D := (dC, dI)) (ci := 2) (v := .double de) (C := RX2) (T := TX2) (N := 9) hx hb (dr_words hts s.drawn) (in_X2_massOf_X2) hown hK hP 0 rfl rfl 8 (by decide) (dr_words hts s.drawn (.fieldLink RX2 42 "PlateModes$Plate" "density" "D") (by decide +kernel)) (fun _ h9 => h9) rfl dX2_massOf_7 ?_
  refine zr_dmul hd0 hx hb (a := zv (tT k)) (b := zv de) rfl rfl dX2_massOf_10 (fun r1 d2 hr1 hd2 => ?_)
  refine W.endD hd2 ?_
  exact W.dret (v := r1) hx hb hr (fun t ht hW => ⟨⟨r1, (), rfl, ⟨hr1, trivial⟩⟩, hS.F ht⟩) hS.2.2 dX2_massOf_11
theorem in_X2_setThickness_X2 : ∀ w ∈ wsX20, w ∈ wsX2_setThickness := by intro w h; unfold wsX2_setThickness; simp only [List.mem_cons, List.mem_append]; first | exact Or.inr (Or.inr h) | exact Or.inr (Or.inl (Or.inr h)) | exact Or.inr (Or.inl (Or.inl (Or.inr h))) | exact Or.inr (Or.inr (Or.inl h)) | exact Or.inr (Or.inr (Or.inr h))
set_option maxHeartbeats 4000000 in
set_option maxRecDepth 100000 in
/-- setThickness -/
theorem c2_setThickness (l : Launch) (dC : Nat → ClassId) (dI : Nat → Nat → Nat) (aP pT pR pN pB bP bF bL bH : Nat) (cD cI cQ : ClassId) (iw ih : Nat) (al ac de : UInt64) (nb : Nat) (tT tR tN : Nat → UInt64) (uP uF uL : Nat → Int32) (uH : Nat → UInt64) (hw6 : iw ≤ 6) (hh6 : ih ≤ 6) (k : Nat) (hk : k < iw * ih) (v : UInt64) (sz : Nat) : Met l yX2_setThickness wsX2_setThickness ({ frames := 0, cells := 0, slots := 0, locals := 0 } : Room) (va_Pc [.ref aP, .int (nI k), .double v] (fun U => U.heap.size = sz ∧ va_P (dC, dI) vwCl [(aP, .inr (2, [.int (nI iw), .int (nI ih), .ref pT, .ref pR, .ref pN, .ref pB, .double al, .double ac, .double de])), (pT, .inl (cD, (iw * ih), .inr (.inr (.inr (.inl tT))))), (pR, .inl (cD, (iw * ih), .inr (.inr (.inr (.inl tR))))), (pN, .inl (cD, (iw * ih), .inr (.inr (.inr (.inl tN))))), (pB, .inr (0, [.ref bP, .ref bF, .ref bL, .ref bH, .int (nI nb)])), (bP, .inl (cI, 12, .inl uP)), (bF, .inl (cI, 12, .inl uF)), (bL, .inl (cI, 12, .inl uL)), (bH, .inl (cD, 12, .inr (.inr (.inr (.inl uH)))))] U.heap ∧ va_K (dC, dI) vwCl [(cD, .double), (cI, .int), (cQ, .array .double)] U ∧ va_D (fun _ => True) [(aP, .inr (2, [.int (nI iw), .int (nI ih), .ref pT, .ref pR, .ref pN, .ref pB, .double al, .double ac, .double de])), (pT, .inl (cD, (iw * ih), .inr (.inr (.inr (.inl tT))))), (pR, .inl (cD, (iw * ih), .inr (.inr (.inr (.inl tR))))), (pN, .inl (cD, (iw * ih), .inr (.inr (.inr (.inl tN))))), (pB, .inr (0, [.ref bP, .ref bF, .ref bL, .ref bH, .int (nI nb)])), (bP, .inl (cI, 12, .inl uP)), (bF, .inl (cI, 12, .inl uF)), (bL, .inl (cI, 12, .inl uL)), (bH, .inl (cD, 12, .inr (.inr (.inr (.inl uH)))))])) (va_Qv (fun _ : Unit => True) (fun _ t => (va_P (dC, dI) vwCl [(aP, .inr (2, [.int (nI iw), .int (nI ih), .ref pT, .ref pR, .ref pN, .ref pB, .double al, .double ac, .double de])), (pT, .inl (cD, (iw * ih), .inr (.inr (.inr (.inl (zu tT k v)))))), (pR, .inl (cD, (iw * ih), .inr (.inr (.inr (.inl tR))))), (pN, .inl (cD, (iw * ih), .inr (.inr (.inr (.inl tN))))), (pB, .inr (0, [.ref bP, .ref bF, .ref bL, .ref bH, .int (nI nb)])), (bP, .inl (cI, 12, .inl uP)), (bF, .inl (cI, 12, .inl uF)), (bL, .inl (cI, 12, .inl uL)), (bH, .inl (cD, 12, .inr (.inr (.inr (.inl uH)))))] t.heap ∧ va_K (dC, dI) vwCl [(cD, .double), (cI, .int), (cQ, .array .double)] t ∧ va_D (va_A [(aP, .inr (2, [.int (nI iw), .int (nI ih), .ref pT, .ref pR, .ref pN, .ref pB, .double al, .double ac, .double de])), (pT, .inl (cD, (iw * ih), .inr (.inr (.inr (.inl tT))))), (pR, .inl (cD, (iw * ih), .inr (.inr (.inr (.inl tR))))), (pN, .inl (cD, (iw * ih), .inr (.inr (.inr (.inl tN))))), (pB, .inr (0, [.ref bP, .ref bF, .ref bL, .ref bH, .int (nI nb)])), (bP, .inl (cI, 12, .inl uP)), (bF, .inl (cI, 12, .inl uF)), (bL, .inl (cI, 12, .inl uL)), (bH, .inl (cD, 12, .inr (.inr (.inr (.inl uH)))))] sz) [(aP, .inr (2, [.int (nI iw), .int (nI ih), .ref pT, .ref pR, .ref pN, .ref pB, .double al, .double ac, .double de])), (pT, .inl (cD, (iw * ih), .inr (.inr (.inr (.inl (zu tT k v)))))), (pR, .inl (cD, (iw * ih), .inr (.inr (.inr (.inl tR))))), (pN, .inl (cD, (iw * ih), .inr (.inr (.inr (.inl tN))))), (pB, .inr (0, [.ref bP, .ref bF, .ref bL, .ref bH, .int (nI nb)])), (bP, .inl (cI, 12, .inl uP)), (bF, .inl (cI, 12, .inl uF)), (bL, .inl (cI, 12, .inl uL)), (bH, .inl (cD, 12, .inr (.inr (.inr (.inl uH)))))])) (va_A [(aP, .inr (2, [.int (nI iw), .int (nI ih), .ref pT, .ref pR, .ref pN, .ref pB, .double al, .double ac, .double de])), (pT, .inl (cD, (iw * ih), .inr (.inr (.inr (.inl tT))))), (pR, .inl (cD, (iw * ih), .inr (.inr (.inr (.inl tR))))), (pN, .inl (cD, (iw * ih), .inr (.inr (.inr (.inl tN))))), (pB, .inr (0, [.ref bP, .ref bF, .ref bL, .ref bH, .int (nI nb)])), (bP, .inl (cI, 12, .inl uP)), (bF, .inl (cI, 12, .inl uF)), (bL, .inl (cI, 12, .inl uL)), (bH, .inl (cD, 12, .inr (.inr (.inr (.inl uH)))))] sz)) 0 0 (va_A [(aP, .inr (2, [.int (nI iw), .int (nI ih), .ref pT, .ref pR, .ref pN, .ref pB, .double al, .double ac, .double de])), (pT, .inl (cD, (iw * ih), .inr (.inr (.inr (.inl tT))))), (pR, .inl (cD, (iw * ih), .inr (.inr (.inr (.inl tR))))), (pN, .inl (cD, (iw * ih), .inr (.inr (.inr (.inl tN))))), (pB, .inr (0, [.ref bP, .ref bF, .ref bL, .ref bH, .int (nI nb)])), (bP, .inl (cI, 12, .inl uP)), (bF, .inl (cI, 12, .inl uF)), (bL, .inl (cI, 12, .inl uL)), (bH, .inl (cD, 12, .inr (.inr (.inr (.inl uH)))))] sz) := by
  refine Met.ofW (cc := cX2_setThickness) (maxL := 4) (ret := none) (by decide) rfl ?_
  intro p e s m args below meth c s₁ B hml hv
  obtain ⟨rfl, hsz, hP, hK, hD0⟩ := hv
  have hx := B.exec
  have hb := B.bytes
  have hr := B.returns
  have hts := atoms_spec (ws := wsX2_setThickness) B.pre
  have hown : s.vm.findClass RX2 = some m.cls := findClass_of_methodNamed B.named
  have hlocks := B.notSynchronized
  subst hsz
  have hD := hD0.self (sz := s.heap.size)
  generalize hAe : va_A [(aP, .inr (2, [.int (nI iw), .int (nI ih), .ref pT, .ref pR, .ref pN, .ref pB, .double al, .double ac, .double de])), (pT, .inl (cD, (iw * ih), .inr (.inr (.inr (.inl tT))))), (pR, .inl (cD, (iw * ih), .inr (.inr (.inr (.inl tR))))), (pN, .inl (cD, (iw * ih), .inr (.inr (.inr (.inl tN))))), (pB, .inr (0, [.ref bP, .ref bF, .ref bL, .ref bH, .int (nI nb)])), (bP, .inl (cI, 12, .inl uP)), (bF, .inl (cI, 12, .inl uF)), (bL, .inl (cI, 12, .inl uL)), (bH, .inl (cD, 12, .inr (.inr (.inr (.inl uH)))))] s.heap.size = A at hD ⊢
  have hA : ∀ q : Nat, s.heap.size ≤ q → A q := fun q h => by rw [← hAe]; exact Or.inr h
  have hS : va_S A s.heap s.heap [] := va_S.rf
  have hl := lv_entry ([.ref aP, .int (nI k), .double v]) (n := 4) (Nat.le_of_ble_eq_true rfl)
  rw [lg_entry_eq]
  generalize (lg_sl ([.ref aP, .int (nI k), .double v]) ++ List.replicate (4 - (lg_sl ([.ref aP, .int (nI k), .double v])).length) Slot.unset).toArray = ls at hl ⊢
  have hl : lv_has ls 4 [(0, .ref aP), (1, .int (nI k)), (2, .double v)] := hl
  have hn36 : iw * ih ≤ 36 := Nat.mul_le_mul hw6 hh6
  refine lv_aload_n hx hb dX2_setThickness_0 rfl (lv_at hl 0 rfl) ?_
  refine va_get (D := (dC, dI)) (ci := 2) (v := .ref pT) (C := RX2) (T := TX2) (N := 9) hx hb hts (in_X2_setThickness_X2) hown hK hP 0 rfl rfl 2 (by decide) (hts (.fieldLink RX2 18 "PlateModes$Plate" "thick" "[D") (by decide +kernel)) (fun _ h9 => h9) rfl dX2_setThickness_1 ?_
  refine lv_iload_n hx hb dX2_setThickness_4 rfl (lv_at hl 1 rfl) ?_
  refine lv_dload_n hx hb dX2_setThickness_5 rfl (lv_at hl 2 rfl) ?_
  refine z_dast (n := (iw * ih)) (i := k) hx hb hK hP hD hS 1 0 rfl rfl (by omega) (by omega) dX2_setThickness_6 (fun H locs hP hD hS => ?_)
  have hP : va_P (dC, dI) vwCl [(aP, .inr (2, [.int (nI iw), .int (nI ih), .ref pT, .ref pR, .ref pN, .ref pB, .double al, .double ac, .double de])), (pT, .inl (cD, (iw * ih), .inr (.inr (.inr (.inl (zu tT k v)))))), (pR, .inl (cD, (iw * ih), .inr (.inr (.inr (.inl tR))))), (pN, .inl (cD, (iw * ih), .inr (.inr (.inr (.inl tN))))), (pB, .inr (0, [.ref bP, .ref bF, .ref bL, .ref bH, .int (nI nb)])), (bP, .inl (cI, 12, .inl uP)), (bF, .inl (cI, 12, .inl uF)), (bL, .inl (cI, 12, .inl uL)), (bH, .inl (cD, 12, .inr (.inr (.inr (.inl uH)))))] H := hP
  have hD : va_D A [(aP, .inr (2, [.int (nI iw), .int (nI ih), .ref pT, .ref pR, .ref pN, .ref pB, .double al, .double ac, .double de])), (pT, .inl (cD, (iw * ih), .inr (.inr (.inr (.inl (zu tT k v)))))), (pR, .inl (cD, (iw * ih), .inr (.inr (.inr (.inl tR))))), (pN, .inl (cD, (iw * ih), .inr (.inr (.inr (.inl tN))))), (pB, .inr (0, [.ref bP, .ref bF, .ref bL, .ref bH, .int (nI nb)])), (bP, .inl (cI, 12, .inl uP)), (bF, .inl (cI, 12, .inl uF)), (bL, .inl (cI, 12, .inl uL)), (bH, .inl (cD, 12, .inr (.inr (.inr (.inl uH)))))] := hD
  exact W.vret hx hb hr (fun t ht hW => ⟨⟨(), rfl, trivial, by rw [ht]; exact hP, va_K.moved hW.alike hK, hD⟩, hS.F ht⟩) hS.2.2 dX2_setThickness_7
theorem in_X2_setRates_X2 : ∀ w ∈ wsX20, w ∈ wsX2_setRates := by intro w h; unfold wsX2_setRates; simp only [List.mem_cons, List.mem_append]; first | exact Or.inr (Or.inr h) | exact Or.inr (Or.inl (Or.inr h)) | exact Or.inr (Or.inl (Or.inl (Or.inr h))) | exact Or.inr (Or.inr (Or.inl h)) | exact Or.inr (Or.inr (Or.inr h))
set_option maxHeartbeats 4000000 in
set_option maxRecDepth 100000 in
/-- setRates -/
theorem c2_setRates (l : Launch) (dC : Nat → ClassId) (dI : Nat → Nat → Nat) (aP pT pR pN pB bP bF bL bH : Nat) (cD cI cQ : ClassId) (iw ih : Nat) (al ac de : UInt64) (nb : Nat) (tT tR tN : Nat → UInt64) (uP uF uL : Nat → Int32) (uH : Nat → UInt64) (va vb vd : UInt64) (sz : Nat) : Met l yX2_setRates wsX2_setRates ({ frames := 0, cells := 0, slots := 0, locals := 0 } : Room) (va_Pc [.ref aP, .double va, .double vb, .double vd] (fun U => U.heap.size = sz ∧ va_P (dC, dI) vwCl [(aP, .inr (2, [.int (nI iw), .int (nI ih), .ref pT, .ref pR, .ref pN, .ref pB, .double al, .double ac, .double de])), (pT, .inl (cD, (iw * ih), .inr (.inr (.inr (.inl tT))))), (pR, .inl (cD, (iw * ih), .inr (.inr (.inr (.inl tR))))), (pN, .inl (cD, (iw * ih), .inr (.inr (.inr (.inl tN))))), (pB, .inr (0, [.ref bP, .ref bF, .ref bL, .ref bH, .int (nI nb)])), (bP, .inl (cI, 12, .inl uP)), (bF, .inl (cI, 12, .inl uF)), (bL, .inl (cI, 12, .inl uL)), (bH, .inl (cD, 12, .inr (.inr (.inr (.inl uH)))))] U.heap ∧ va_K (dC, dI) vwCl [(cD, .double), (cI, .int), (cQ, .array .double)] U ∧ va_D (fun _ => True) [(aP, .inr (2, [.int (nI iw), .int (nI ih), .ref pT, .ref pR, .ref pN, .ref pB, .double al, .double ac, .double de])), (pT, .inl (cD, (iw * ih), .inr (.inr (.inr (.inl tT))))), (pR, .inl (cD, (iw * ih), .inr (.inr (.inr (.inl tR))))), (pN, .inl (cD, (iw * ih), .inr (.inr (.inr (.inl tN))))), (pB, .inr (0, [.ref bP, .ref bF, .ref bL, .ref bH, .int (nI nb)])), (bP, .inl (cI, 12, .inl uP)), (bF, .inl (cI, 12, .inl uF)), (bL, .inl (cI, 12, .inl uL)), (bH, .inl (cD, 12, .inr (.inr (.inr (.inl uH)))))])) (va_Qv (fun _ : Unit => True) (fun _ t => (va_P (dC, dI) vwCl [(aP, .inr (2, [.int (nI iw), .int (nI ih), .ref pT, .ref pR, .ref pN, .ref pB, .double va, .double vb, .double vd])), (pT, .inl (cD, (iw * ih), .inr (.inr (.inr (.inl tT))))), (pR, .inl (cD, (iw * ih), .inr (.inr (.inr (.inl tR))))), (pN, .inl (cD, (iw * ih), .inr (.inr (.inr (.inl tN))))), (pB, .inr (0, [.ref bP, .ref bF, .ref bL, .ref bH, .int (nI nb)])), (bP, .inl (cI, 12, .inl uP)), (bF, .inl (cI, 12, .inl uF)), (bL, .inl (cI, 12, .inl uL)), (bH, .inl (cD, 12, .inr (.inr (.inr (.inl uH)))))] t.heap ∧ va_K (dC, dI) vwCl [(cD, .double), (cI, .int), (cQ, .array .double)] t ∧ va_D (va_A [(aP, .inr (2, [.int (nI iw), .int (nI ih), .ref pT, .ref pR, .ref pN, .ref pB, .double al, .double ac, .double de])), (pT, .inl (cD, (iw * ih), .inr (.inr (.inr (.inl tT))))), (pR, .inl (cD, (iw * ih), .inr (.inr (.inr (.inl tR))))), (pN, .inl (cD, (iw * ih), .inr (.inr (.inr (.inl tN))))), (pB, .inr (0, [.ref bP, .ref bF, .ref bL, .ref bH, .int (nI nb)])), (bP, .inl (cI, 12, .inl uP)), (bF, .inl (cI, 12, .inl uF)), (bL, .inl (cI, 12, .inl uL)), (bH, .inl (cD, 12, .inr (.inr (.inr (.inl uH)))))] sz) [(aP, .inr (2, [.int (nI iw), .int (nI ih), .ref pT, .ref pR, .ref pN, .ref pB, .double va, .double vb, .double vd])), (pT, .inl (cD, (iw * ih), .inr (.inr (.inr (.inl tT))))), (pR, .inl (cD, (iw * ih), .inr (.inr (.inr (.inl tR))))), (pN, .inl (cD, (iw * ih), .inr (.inr (.inr (.inl tN))))), (pB, .inr (0, [.ref bP, .ref bF, .ref bL, .ref bH, .int (nI nb)])), (bP, .inl (cI, 12, .inl uP)), (bF, .inl (cI, 12, .inl uF)), (bL, .inl (cI, 12, .inl uL)), (bH, .inl (cD, 12, .inr (.inr (.inr (.inl uH)))))])) (va_A [(aP, .inr (2, [.int (nI iw), .int (nI ih), .ref pT, .ref pR, .ref pN, .ref pB, .double al, .double ac, .double de])), (pT, .inl (cD, (iw * ih), .inr (.inr (.inr (.inl tT))))), (pR, .inl (cD, (iw * ih), .inr (.inr (.inr (.inl tR))))), (pN, .inl (cD, (iw * ih), .inr (.inr (.inr (.inl tN))))), (pB, .inr (0, [.ref bP, .ref bF, .ref bL, .ref bH, .int (nI nb)])), (bP, .inl (cI, 12, .inl uP)), (bF, .inl (cI, 12, .inl uF)), (bL, .inl (cI, 12, .inl uL)), (bH, .inl (cD, 12, .inr (.inr (.inr (.inl uH)))))] sz)) 0 0 (va_A [(aP, .inr (2, [.int (nI iw), .int (nI ih), .ref pT, .ref pR, .ref pN, .ref pB, .double al, .double ac, .double de])), (pT, .inl (cD, (iw * ih), .inr (.inr (.inr (.inl tT))))), (pR, .inl (cD, (iw * ih), .inr (.inr (.inr (.inl tR))))), (pN, .inl (cD, (iw * ih), .inr (.inr (.inr (.inl tN))))), (pB, .inr (0, [.ref bP, .ref bF, .ref bL, .ref bH, .int (nI nb)])), (bP, .inl (cI, 12, .inl uP)), (bF, .inl (cI, 12, .inl uF)), (bL, .inl (cI, 12, .inl uL)), (bH, .inl (cD, 12, .inr (.inr (.inr (.inl uH)))))] sz) := by
  refine Met.ofW (cc := cX2_setRates) (maxL := 7) (ret := none) (by decide) rfl ?_
  intro p e s m args below meth c s₁ B hml hv
  obtain ⟨rfl, hsz, hP, hK, hD0⟩ := hv
  have hx := B.exec
  have hb := B.bytes
  have hr := B.returns
  have hts := atoms_spec (ws := wsX2_setRates) B.pre
  have hown : s.vm.findClass RX2 = some m.cls := findClass_of_methodNamed B.named
  have hlocks := B.notSynchronized
  subst hsz
  have hD := hD0.self (sz := s.heap.size)
  generalize hAe : va_A [(aP, .inr (2, [.int (nI iw), .int (nI ih), .ref pT, .ref pR, .ref pN, .ref pB, .double al, .double ac, .double de])), (pT, .inl (cD, (iw * ih), .inr (.inr (.inr (.inl tT))))), (pR, .inl (cD, (iw * ih), .inr (.inr (.inr (.inl tR))))), (pN, .inl (cD, (iw * ih), .inr (.inr (.inr (.inl tN))))), (pB, .inr (0, [.ref bP, .ref bF, .ref bL, .ref bH, .int (nI nb)])), (bP, .inl (cI, 12, .inl uP)), (bF, .inl (cI, 12, .inl uF)), (bL, .inl (cI, 12, .inl uL)), (bH, .inl (cD, 12, .inr (.inr (.inr (.inl uH)))))] s.heap.size = A at hD ⊢
  have hA : ∀ q : Nat, s.heap.size ≤ q → A q := fun q h => by rw [← hAe]; exact Or.inr h
  have hS : va_S A s.heap s.heap [] := va_S.rf
  have hl := lv_entry ([.ref aP, .double va, .double vb, .double vd]) (n := 7) (Nat.le_of_ble_eq_true rfl)
  rw [lg_entry_eq]
  generalize (lg_sl ([.ref aP, .double va, .double vb, .double vd]) ++ List.replicate (7 - (lg_sl ([.ref aP, .double va, .double vb, .double vd])).length) Slot.unset).toArray = ls at hl ⊢
  have hl : lv_has ls 7 [(0, .ref aP), (1, .double va), (3, .double vb), (5, .double vd)] := hl
  refine lv_aload_n hx hb dX2_setRates_0 rfl (lv_at hl 0 rfl) ?_
  refine lv_dload_n hx hb dX2_setRates_1 rfl (lv_at hl 1 rfl) ?_
  refine va_put (D := (dC, dI)) (ci := 2) (v := .double va) (ty := .double) (C := RX2) (T := TX2) (N := 9) hx hb hts (in_X2_setRates_X2) tyX2 tyX2_ok nmX2 hown hK hP hD hS 0 rfl rfl 6 (by decide) (hts (.fieldLink RX2 35 "PlateModes$Plate" "along" "D") (by decide +kernel)) (fun _ h9 => h9) rfl (by decide +kernel) rfl rfl (Nat.le_of_ble_eq_true rfl) dX2_setRates_2 (fun H locs hP hD hS => ?_)
  have hP : va_P (dC, dI) vwCl [(aP, .inr (2, [.int (nI iw), .int (nI ih), .ref pT, .ref pR, .ref pN, .ref pB, .double va, .double ac, .double de])), (pT, .inl (cD, (iw * ih), .inr (.inr (.inr (.inl tT))))), (pR, .inl (cD, (iw * ih), .inr (.inr (.inr (.inl tR))))), (pN, .inl (cD, (iw * ih), .inr (.inr (.inr (.inl tN))))), (pB, .inr (0, [.ref bP, .ref bF, .ref bL, .ref bH, .int (nI nb)])), (bP, .inl (cI, 12, .inl uP)), (bF, .inl (cI, 12, .inl uF)), (bL, .inl (cI, 12, .inl uL)), (bH, .inl (cD, 12, .inr (.inr (.inr (.inl uH)))))] H := hP
  have hD : va_D A [(aP, .inr (2, [.int (nI iw), .int (nI ih), .ref pT, .ref pR, .ref pN, .ref pB, .double va, .double ac, .double de])), (pT, .inl (cD, (iw * ih), .inr (.inr (.inr (.inl tT))))), (pR, .inl (cD, (iw * ih), .inr (.inr (.inr (.inl tR))))), (pN, .inl (cD, (iw * ih), .inr (.inr (.inr (.inl tN))))), (pB, .inr (0, [.ref bP, .ref bF, .ref bL, .ref bH, .int (nI nb)])), (bP, .inl (cI, 12, .inl uP)), (bF, .inl (cI, 12, .inl uF)), (bL, .inl (cI, 12, .inl uL)), (bH, .inl (cD, 12, .inr (.inr (.inr (.inl uH)))))] := hD
  refine lv_aload_n hx hb dX2_setRates_5 rfl (lv_at hl 0 rfl) ?_
  refine lv_dload_n hx hb dX2_setRates_6 rfl (lv_at hl 2 rfl) ?_
  refine va_put (D := (dC, dI)) (ci := 2) (v := .double vb) (ty := .double) (C := RX2) (T := TX2) (N := 9) hx hb hts (in_X2_setRates_X2) tyX2 tyX2_ok nmX2 hown hK hP hD hS 0 rfl rfl 7 (by decide) (hts (.fieldLink RX2 39 "PlateModes$Plate" "across" "D") (by decide +kernel)) (fun _ h9 => h9) rfl (by decide +kernel) rfl rfl (Nat.le_of_ble_eq_true rfl) dX2_setRates_7 (fun H locs hP hD hS => ?_)
  have hP : va_P (dC, dI) vwCl [(aP, .inr (2, [.int (nI iw), .int (nI ih), .ref pT, .ref pR, .ref pN, .ref pB, .double va, .double vb, .double de])), (pT, .inl (cD, (iw * ih), .inr (.inr (.inr (.inl tT))))), (pR, .inl (cD, (iw * ih), .inr (.inr (.inr (.inl tR))))), (pN, .inl (cD, (iw * ih), .inr (.inr (.inr (.inl tN))))), (pB, .inr (0, [.ref bP, .ref bF, .ref bL, .ref bH, .int (nI nb)])), (bP, .inl (cI, 12, .inl uP)), (bF, .inl (cI, 12, .inl uF)), (bL, .inl (cI, 12, .inl uL)), (bH, .inl (cD, 12, .inr (.inr (.inr (.inl uH)))))] H := hP
  have hD : va_D A [(aP, .inr (2, [.int (nI iw), .int (nI ih), .ref pT, .ref pR, .ref pN, .ref pB, .double va, .double vb, .double de])), (pT, .inl (cD, (iw * ih), .inr (.inr (.inr (.inl tT))))), (pR, .inl (cD, (iw * ih), .inr (.inr (.inr (.inl tR))))), (pN, .inl (cD, (iw * ih), .inr (.inr (.inr (.inl tN))))), (pB, .inr (0, [.ref bP, .ref bF, .ref bL, .ref bH, .int (nI nb)])), (bP, .inl (cI, 12, .inl uP)), (bF, .inl (cI, 12, .inl uF)), (bL, .inl (cI, 12, .inl uL)), (bH, .inl (cD, 12, .inr (.inr (.inr (.inl uH)))))] := hD
  refine lv_aload_n hx hb dX2_setRates_10 rfl (lv_at hl 0 rfl) ?_
  refine lv_dload hx hb dX2_setRates_11 (lv_at hl 3 rfl) ?_
  refine va_put (D := (dC, dI)) (ci := 2) (v := .double vd) (ty := .double) (C := RX2) (T := TX2) (N := 9) hx hb hts (in_X2_setRates_X2) tyX2 tyX2_ok nmX2 hown hK hP hD hS 0 rfl rfl 8 (by decide) (hts (.fieldLink RX2 42 "PlateModes$Plate" "density" "D") (by decide +kernel)) (fun _ h9 => h9) rfl (by decide +kernel) rfl rfl (Nat.le_of_ble_eq_true rfl) dX2_setRates_13 (fun H locs hP hD hS => ?_)
  have hP : va_P (dC, dI) vwCl [(aP, .inr (2, [.int (nI iw), .int (nI ih), .ref pT, .ref pR, .ref pN, .ref pB, .double va, .double vb, .double vd])), (pT, .inl (cD, (iw * ih), .inr (.inr (.inr (.inl tT))))), (pR, .inl (cD, (iw * ih), .inr (.inr (.inr (.inl tR))))), (pN, .inl (cD, (iw * ih), .inr (.inr (.inr (.inl tN))))), (pB, .inr (0, [.ref bP, .ref bF, .ref bL, .ref bH, .int (nI nb)])), (bP, .inl (cI, 12, .inl uP)), (bF, .inl (cI, 12, .inl uF)), (bL, .inl (cI, 12, .inl uL)), (bH, .inl (cD, 12, .inr (.inr (.inr (.inl uH)))))] H := hP
  have hD : va_D A [(aP, .inr (2, [.int (nI iw), .int (nI ih), .ref pT, .ref pR, .ref pN, .ref pB, .double va, .double vb, .double vd])), (pT, .inl (cD, (iw * ih), .inr (.inr (.inr (.inl tT))))), (pR, .inl (cD, (iw * ih), .inr (.inr (.inr (.inl tR))))), (pN, .inl (cD, (iw * ih), .inr (.inr (.inr (.inl tN))))), (pB, .inr (0, [.ref bP, .ref bF, .ref bL, .ref bH, .int (nI nb)])), (bP, .inl (cI, 12, .inl uP)), (bF, .inl (cI, 12, .inl uF)), (bL, .inl (cI, 12, .inl uL)), (bH, .inl (cD, 12, .inr (.inr (.inr (.inl uH)))))] := hD
  exact W.vret hx hb hr (fun t ht hW => ⟨⟨(), rfl, trivial, by rw [ht]; exact hP, va_K.moved hW.alike hK, hD⟩, hS.F ht⟩) hS.2.2 dX2_setRates_16
theorem in_X2_bracesFull_X2 : ∀ w ∈ wsX20, w ∈ wsX2_bracesFull := by intro w h; unfold wsX2_bracesFull; simp only [List.mem_cons, List.mem_append]; first | exact Or.inr (Or.inr h) | exact Or.inr (Or.inl (Or.inr h)) | exact Or.inr (Or.inl (Or.inl (Or.inr h))) | exact Or.inr (Or.inr (Or.inl h)) | exact Or.inr (Or.inr (Or.inr h))
set_option maxHeartbeats 4000000 in
set_option maxRecDepth 100000 in
/-- bracesFull -/
theorem c2_bracesFull (l : Launch) (dC : Nat → ClassId) (dI : Nat → Nat → Nat) (aP pT pR pN pB bP bF bL bH : Nat) (cD cI cQ : ClassId) (iw ih : Nat) (al ac de : UInt64) (nb : Nat) (tT tR tN : Nat → UInt64) (uP uF uL : Nat → Int32) (uH : Nat → UInt64) (hn12 : nb ≤ 12) : Met l yX2_bracesFull wsX2_bracesFull ({ frames := 1, cells := 0, slots := 0, locals := 20 } : Room) (va_Pc [.ref aP] (fun U => va_P (dC, dI) vwCl [(aP, .inr (2, [.int (nI iw), .int (nI ih), .ref pT, .ref pR, .ref pN, .ref pB, .double al, .double ac, .double de])), (pT, .inl (cD, (iw * ih), .inr (.inr (.inr (.inl tT))))), (pR, .inl (cD, (iw * ih), .inr (.inr (.inr (.inl tR))))), (pN, .inl (cD, (iw * ih), .inr (.inr (.inr (.inl tN))))), (pB, .inr (0, [.ref bP, .ref bF, .ref bL, .ref bH, .int (nI nb)])), (bP, .inl (cI, 12, .inl uP)), (bF, .inl (cI, 12, .inl uF)), (bL, .inl (cI, 12, .inl uL)), (bH, .inl (cD, 12, .inr (.inr (.inr (.inl uH)))))] U.heap ∧ va_K (dC, dI) vwCl [(cD, .double), (cI, .int), (cQ, .array .double)] U)) (va_Qi (fun (r : Int32) (_ : Unit) => r = zb (decide (12 ≤ nb))) (fun _ _ => True) (fun _ => False)) 0 0 (fun _ => False) := by
  refine Met.ofW (cc := cX2_bracesFull) (maxL := 1) (ret := (some .boolean)) (by decide) rfl ?_
  intro p e s m args below meth c s₁ B hml hv
  obtain ⟨rfl, hP0, hK⟩ := hv
  have hx := B.exec
  have hb := B.bytes
  have hr := B.returns
  have hts := atoms_spec (ws := wsX2_bracesFull) B.pre
  have hown : s.vm.findClass RX2 = some m.cls := findClass_of_methodNamed B.named
  have hlocks := B.notSynchronized
  have hS : va_S (fun _ => False) s.heap s.heap [] := va_S.rf
  have hP := hP0
  have hl := lv_entry ([.ref aP]) (n := 1) (Nat.le_of_ble_eq_true rfl)
  rw [lg_entry_eq]
  generalize (lg_sl ([.ref aP]) ++ List.replicate (1 - (lg_sl ([.ref aP])).length) Slot.unset).toArray = ls at hl ⊢
  have hl : lv_has ls 1 [(0, .ref aP)] := hl
  refine lv_aload_n hx hb dX2_bracesFull_0 rfl (lv_at hl 0 rfl) ?_
  refine va_get (D := (dC, dI)) (ci := 2) (v := .ref pB) (C := RX2) (T := TX2) (N := 9) hx hb hts (in_X2_bracesFull_X2) hown hK hP 0 rfl rfl 5 (by decide) (hts (.fieldLink RX2 31 "PlateModes$Plate" "braces" "LPlateModes$Braces;") (by decide +kernel)) (fun _ h9 => h9) rfl dX2_bracesFull_1 ?_
  have hPc := hP.sub (ws' := [(pB, .inr (0, [.ref bP, .ref bF, .ref bL, .ref bH, .int (nI nb)])), (bP, .inl (cI, 12, .inl uP)), (bF, .inl (cI, 12, .inl uF)), (bL, .inl (cI, 12, .inl uL)), (bH, .inl (cD, 12, .inr (.inr (.inr (.inl uH)))))]) [4, 5, 6, 7, 8] rfl
  refine va_calli (va_runV (As := []) (rest := []) ⟨hx, hb, hml, hown, hts⟩ (c0_full l dC dI pB bP bF bL bH cD cI cQ nb uP uF uL uH hn12) (cwV 0 hts gX2_bracesFull_X0_full rfl rfl rfl (by decide +kernel) ⟨Nat.le_of_ble_eq_true rfl, Nat.le_of_ble_eq_true rfl⟩) ⟨zfb, va_recv hK hP (ci := 0) (q0 := 4) rfl rfl, zpre hPc hK⟩ rfl rfl hl.1 rfl (lv_room (Nat.le_of_ble_eq_true rfl)) dX2_bracesFull_4 ⟨Nat.le_of_ble_eq_true rfl, Nat.le_of_ble_eq_true rfl⟩) hS (fun q _ h => h.elim) (fun q h => h.elim) (fun r1 u9 t9 H locs ht9 hvm9 hr1 hB9 hz9 hk1 hS => ?_)
  have hP := zro1 hP hk1
  subst hr1
  exact W.zret (v := (zb (decide (12 ≤ nb)))) hx hb hr (zb_nar _) (fun t ht hW => ⟨⟨(zb (decide (12 ≤ nb))), (), rfl, ⟨rfl, trivial⟩⟩, hS.F ht⟩) hS.2.2 dX2_bracesFull_7
theorem in_X2_addBrace_X2 : ∀ w ∈ wsX20, w ∈ wsX2_addBrace := by intro w h; unfold wsX2_addBrace; simp only [List.mem_cons, List.mem_append]; first | exact Or.inr (Or.inr h) | exact Or.inr (Or.inl (Or.inr h)) | exact Or.inr (Or.inl (Or.inl (Or.inr h))) | exact Or.inr (Or.inr (Or.inl h)) | exact Or.inr (Or.inr (Or.inr h))
set_option maxHeartbeats 4000000 in
set_option maxRecDepth 100000 in
/-- addBrace -/
theorem c2_addBrace (l : Launch) (dC : Nat → ClassId) (dI : Nat → Nat → Nat) (aP pT pR pN pB bP bF bL bH : Nat) (cD cI cQ : ClassId) (iw ih : Nat) (al ac de : UInt64) (nb : Nat) (tT tR tN : Nat → UInt64) (uP uF uL : Nat → Int32) (uH : Nat → UInt64) (ax : Bool) (fi la : Int32) (v : UInt64) (hn12 : nb < 12) (sz : Nat) : Met l yX2_addBrace wsX2_addBrace ({ frames := 2, cells := 0, slots := 0, locals := 45 } : Room) (va_Pc [.ref aP, .int (zb ax), .int fi, .int la, .double v] (fun U => U.heap.size = sz ∧ va_P (dC, dI) vwCl [(aP, .inr (2, [.int (nI iw), .int (nI ih), .ref pT, .ref pR, .ref pN, .ref pB, .double al, .double ac, .double de])), (pT, .inl (cD, (iw * ih), .inr (.inr (.inr (.inl tT))))), (pR, .inl (cD, (iw * ih), .inr (.inr (.inr (.inl tR))))), (pN, .inl (cD, (iw * ih), .inr (.inr (.inr (.inl tN))))), (pB, .inr (0, [.ref bP, .ref bF, .ref bL, .ref bH, .int (nI nb)])), (bP, .inl (cI, 12, .inl uP)), (bF, .inl (cI, 12, .inl uF)), (bL, .inl (cI, 12, .inl uL)), (bH, .inl (cD, 12, .inr (.inr (.inr (.inl uH)))))] U.heap ∧ va_K (dC, dI) vwCl [(cD, .double), (cI, .int), (cQ, .array .double)] U ∧ va_D (fun _ => True) [(aP, .inr (2, [.int (nI iw), .int (nI ih), .ref pT, .ref pR, .ref pN, .ref pB, .double al, .double ac, .double de])), (pT, .inl (cD, (iw * ih), .inr (.inr (.inr (.inl tT))))), (pR, .inl (cD, (iw * ih), .inr (.inr (.inr (.inl tR))))), (pN, .inl (cD, (iw * ih), .inr (.inr (.inr (.inl tN))))), (pB, .inr (0, [.ref bP, .ref bF, .ref bL, .ref bH, .int (nI nb)])), (bP, .inl (cI, 12, .inl uP)), (bF, .inl (cI, 12, .inl uF)), (bL, .inl (cI, 12, .inl uL)), (bH, .inl (cD, 12, .inr (.inr (.inr (.inl uH)))))])) (va_Qi (fun (r : Int32) (_ : Unit) => r = nI (nb + 1)) (fun _ t => (va_P (dC, dI) vwCl [(aP, .inr (2, [.int (nI iw), .int (nI ih), .ref pT, .ref pR, .ref pN, .ref pB, .double al, .double ac, .double de])), (pT, .inl (cD, (iw * ih), .inr (.inr (.inr (.inl tT))))), (pR, .inl (cD, (iw * ih), .inr (.inr (.inr (.inl tR))))), (pN, .inl (cD, (iw * ih), .inr (.inr (.inr (.inl tN))))), (pB, .inr (0, [.ref bP, .ref bF, .ref bL, .ref bH, .int (nI ((nb + 1)))])), (bP, .inl (cI, 12, .inl (zu uP nb (if ax = true then nI 1 else nI iw)))), (bF, .inl (cI, 12, .inl (zu uF nb fi))), (bL, .inl (cI, 12, .inl (zu uL nb la))), (bH, .inl (cD, 12, .inr (.inr (.inr (.inl (zu uH nb v))))))] t.heap ∧ va_K (dC, dI) vwCl [(cD, .double), (cI, .int), (cQ, .array .double)] t ∧ va_D (va_A [(aP, .inr (2, [.int (nI iw), .int (nI ih), .ref pT, .ref pR, .ref pN, .ref pB, .double al, .double ac, .double de])), (pT, .inl (cD, (iw * ih), .inr (.inr (.inr (.inl tT))))), (pR, .inl (cD, (iw * ih), .inr (.inr (.inr (.inl tR))))), (pN, .inl (cD, (iw * ih), .inr (.inr (.inr (.inl tN))))), (pB, .inr (0, [.ref bP, .ref bF, .ref bL, .ref bH, .int (nI nb)])), (bP, .inl (cI, 12, .inl uP)), (bF, .inl (cI, 12, .inl uF)), (bL, .inl (cI, 12, .inl uL)), (bH, .inl (cD, 12, .inr (.inr (.inr (.inl uH)))))] sz) [(aP, .inr (2, [.int (nI iw), .int (nI ih), .ref pT, .ref pR, .ref pN, .ref pB, .double al, .double ac, .double de])), (pT, .inl (cD, (iw * ih), .inr (.inr (.inr (.inl tT))))), (pR, .inl (cD, (iw * ih), .inr (.inr (.inr (.inl tR))))), (pN, .inl (cD, (iw * ih), .inr (.inr (.inr (.inl tN))))), (pB, .inr (0, [.ref bP, .ref bF, .ref bL, .ref bH, .int (nI ((nb + 1)))])), (bP, .inl (cI, 12, .inl (zu uP nb (if ax = true then nI 1 else nI iw)))), (bF, .inl (cI, 12, .inl (zu uF nb fi))), (bL, .inl (cI, 12, .inl (zu uL nb la))), (bH, .inl (cD, 12, .inr (.inr (.inr (.inl (zu uH nb v))))))])) (va_A [(aP, .inr (2, [.int (nI iw), .int (nI ih), .ref pT, .ref pR, .ref pN, .ref pB, .double al, .double ac, .double de])), (pT, .inl (cD, (iw * ih), .inr (.inr (.inr (.inl tT))))), (pR, .inl (cD, (iw * ih), .inr (.inr (.inr (.inl tR))))), (pN, .inl (cD, (iw * ih), .inr (.inr (.inr (.inl tN))))), (pB, .inr (0, [.ref bP, .ref bF, .ref bL, .ref bH, .int (nI nb)])), (bP, .inl (cI, 12, .inl uP)), (bF, .inl (cI, 12, .inl uF)), (bL, .inl (cI, 12, .inl uL)), (bH, .inl (cD, 12, .inr (.inr (.inr (.inl uH)))))] sz)) 0 0 (va_A [(aP, .inr (2, [.int (nI iw), .int (nI ih), .ref pT, .ref pR, .ref pN, .ref pB, .double al, .double ac, .double de])), (pT, .inl (cD, (iw * ih), .inr (.inr (.inr (.inl tT))))), (pR, .inl (cD, (iw * ih), .inr (.inr (.inr (.inl tR))))), (pN, .inl (cD, (iw * ih), .inr (.inr (.inr (.inl tN))))), (pB, .inr (0, [.ref bP, .ref bF, .ref bL, .ref bH, .int (nI nb)])), (bP, .inl (cI, 12, .inl uP)), (bF, .inl (cI, 12, .inl uF)), (bL, .inl (cI, 12, .inl uL)), (bH, .inl (cD, 12, .inr (.inr (.inr (.inl uH)))))] sz) := by
  refine Met.ofW (cc := cX2_addBrace) (maxL := 6) (ret := (some .int)) (by decide) rfl ?_
  intro p e s m args below meth c s₁ B hml hv
  obtain ⟨rfl, hsz, hP, hK, hD0⟩ := hv
  have hx := B.exec
  have hb := B.bytes
  have hr := B.returns
  have hts := atoms_spec (ws := wsX2_addBrace) B.pre
  have hown : s.vm.findClass RX2 = some m.cls := findClass_of_methodNamed B.named
  have hlocks := B.notSynchronized
  subst hsz
  have hD := hD0.self (sz := s.heap.size)
  generalize hAe : va_A [(aP, .inr (2, [.int (nI iw), .int (nI ih), .ref pT, .ref pR, .ref pN, .ref pB, .double al, .double ac, .double de])), (pT, .inl (cD, (iw * ih), .inr (.inr (.inr (.inl tT))))), (pR, .inl (cD, (iw * ih), .inr (.inr (.inr (.inl tR))))), (pN, .inl (cD, (iw * ih), .inr (.inr (.inr (.inl tN))))), (pB, .inr (0, [.ref bP, .ref bF, .ref bL, .ref bH, .int (nI nb)])), (bP, .inl (cI, 12, .inl uP)), (bF, .inl (cI, 12, .inl uF)), (bL, .inl (cI, 12, .inl uL)), (bH, .inl (cD, 12, .inr (.inr (.inr (.inl uH)))))] s.heap.size = A at hD ⊢
  have hA : ∀ q : Nat, s.heap.size ≤ q → A q := fun q h => by rw [← hAe]; exact Or.inr h
  have hS : va_S A s.heap s.heap [] := va_S.rf
  have hl := lv_entry ([.ref aP, .int (zb ax), .int fi, .int la, .double v]) (n := 6) (Nat.le_of_ble_eq_true rfl)
  rw [lg_entry_eq]
  generalize (lg_sl ([.ref aP, .int (zb ax), .int fi, .int la, .double v]) ++ List.replicate (6 - (lg_sl ([.ref aP, .int (zb ax), .int fi, .int la, .double v])).length) Slot.unset).toArray = ls at hl ⊢
  have hl : lv_has ls 6 [(0, .ref aP), (1, .int (zb ax)), (2, .int fi), (3, .int la), (4, .double v)] := hl
  refine lv_aload_n hx hb dX2_addBrace_0 rfl (lv_at hl 0 rfl) ?_
  refine va_get (D := (dC, dI)) (ci := 2) (v := .ref pB) (C := RX2) (T := TX2) (N := 9) hx hb hts (in_X2_addBrace_X2) hown hK hP 0 rfl rfl 5 (by decide) (hts (.fieldLink RX2 31 "PlateModes$Plate" "braces" "LPlateModes$Braces;") (by decide +kernel)) (fun _ h9 => h9) rfl dX2_addBrace_1 ?_
  refine lv_iload_n hx hb dX2_addBrace_4 rfl (lv_at hl 1 rfl) ?_
  refine z_if_eq_b (tgt := 12) hx hb dX2_addBrace_5 (by decide) (fun c1 => ?_) (fun c2 => ?_)
  · skip
    have c_5 := c1
    refine lv_aload_n hx hb dX2_addBrace_12 rfl (lv_at hl 0 rfl) ?_
    refine va_get (D := (dC, dI)) (ci := 2) (v := .int (nI iw)) (C := RX2) (T := TX2) (N := 9) hx hb hts (in_X2_addBrace_X2) hown hK hP 0 rfl rfl 0 (by decide) (hts (.fieldLink RX2 9 "PlateModes$Plate" "width" "I") (by decide +kernel)) (fun _ h9 => h9) rfl dX2_addBrace_13 ?_
    refine lv_iload_n hx hb dX2_addBrace_16 rfl (lv_at hl 2 rfl) ?_
    refine lv_iload_n hx hb dX2_addBrace_17 rfl (lv_at hl 3 rfl) ?_
    refine lv_dload hx hb dX2_addBrace_18 (lv_at hl 4 rfl) ?_
    have hPc := hP.sub (ws' := [(pB, .inr (0, [.ref bP, .ref bF, .ref bL, .ref bH, .int (nI nb)])), (bP, .inl (cI, 12, .inl uP)), (bF, .inl (cI, 12, .inl uF)), (bL, .inl (cI, 12, .inl uL)), (bH, .inl (cD, 12, .inr (.inr (.inr (.inl uH)))))]) [4, 5, 6, 7, 8] rfl
    have hDc := hD.sub (ws' := [(pB, .inr (0, [.ref bP, .ref bF, .ref bL, .ref bH, .int (nI nb)])), (bP, .inl (cI, 12, .inl uP)), (bF, .inl (cI, 12, .inl uF)), (bL, .inl (cI, 12, .inl uL)), (bH, .inl (cD, 12, .inr (.inr (.inr (.inl uH)))))]) [4, 5, 6, 7, 8] (by decide) rfl
    have hFc := va_free (wc := [(pB, .inr (0, [.ref bP, .ref bF, .ref bL, .ref bH, .int (nI nb)])), (bP, .inl (cI, 12, .inl uP)), (bF, .inl (cI, 12, .inl uF)), (bL, .inl (cI, 12, .inl uL)), (bH, .inl (cD, 12, .inr (.inr (.inr (.inl uH)))))]) hD hS hA [4, 5, 6, 7, 8] rfl
    refine va_calli (va_runV (As := [.int (nI iw), .int fi, .int la, .double v]) (rest := []) ⟨hx, hb, hml, hown, hts⟩ (c0_add l dC dI pB bP bF bL bH cD cI cQ nb uP uF uL uH (nI iw) fi la v hn12 _) (cwV 4 hts gX2_addBrace_X0_add rfl rfl rfl (by decide +kernel) ⟨Nat.le_of_ble_eq_true rfl, Nat.le_of_ble_eq_true rfl⟩) ⟨zfbw, va_recv hK hPc (ci := 0) (q0 := 0) rfl rfl, zprew hPc hK hDc⟩ rfl rfl hl.1 rfl (lv_room (Nat.le_of_ble_eq_true rfl)) dX2_addBrace_20 ⟨(Nat.le_of_ble_eq_true rfl), (Nat.le_of_ble_eq_true rfl)⟩) hS (fun q _ h => hFc q h) hFc (fun r3 u4 t9 H1 locs ht9 hvm9 hr3 hB9 hz9 hk1 hS => ?_)
    obtain ⟨hP1, hK1, hD1⟩ := hB9
    rw [ht9] at hP1
    obtain ⟨hP, hD⟩ := va_join (wr := [(aP, .inr (2, [.int (nI iw), .int (nI ih), .ref pT, .ref pR, .ref pN, .ref pB, .double al, .double ac, .double de])), (pT, .inl (cD, (iw * ih), .inr (.inr (.inr (.inl tT))))), (pR, .inl (cD, (iw * ih), .inr (.inr (.inr (.inl tR))))), (pN, .inl (cD, (iw * ih), .inr (.inr (.inr (.inl tN)))))]) (w1 := [(pB, .inr (0, [.ref bP, .ref bF, .ref bL, .ref bH, .int (nI ((nb + 1)))])), (bP, .inl (cI, 12, .inl (zu uP nb (nI iw)))), (bF, .inl (cI, 12, .inl (zu uF nb fi))), (bL, .inl (cI, 12, .inl (zu uL nb la))), (bH, .inl (cD, 12, .inr (.inr (.inr (.inl (zu uH nb v))))))]) hP hD [4, 5, 6, 7, 8] [0, 1, 2, 3] rfl rfl (by decide) (by decide) hk1 hFc hP1 hD1
    generalize H1 = H at hP hS ⊢
    have hP : va_P (dC, dI) vwCl [(aP, .inr (2, [.int (nI iw), .int (nI ih), .ref pT, .ref pR, .ref pN, .ref pB, .double al, .double ac, .double de])), (pT, .inl (cD, (iw * ih), .inr (.inr (.inr (.inl tT))))), (pR, .inl (cD, (iw * ih), .inr (.inr (.inr (.inl tR))))), (pN, .inl (cD, (iw * ih), .inr (.inr (.inr (.inl tN))))), (pB, .inr (0, [.ref bP, .ref bF, .ref bL, .ref bH, .int (nI ((nb + 1)))])), (bP, .inl (cI, 12, .inl (zu uP nb (nI iw)))), (bF, .inl (cI, 12, .inl (zu uF nb fi))), (bL, .inl (cI, 12, .inl (zu uL nb la))), (bH, .inl (cD, 12, .inr (.inr (.inr (.inl (zu uH nb v))))))] H := hP.sub (ws' := [(aP, .inr (2, [.int (nI iw), .int (nI ih), .ref pT, .ref pR, .ref pN, .ref pB, .double al, .double ac, .double de])), (pT, .inl (cD, (iw * ih), .inr (.inr (.inr (.inl tT))))), (pR, .inl (cD, (iw * ih), .inr (.inr (.inr (.inl tR))))), (pN, .inl (cD, (iw * ih), .inr (.inr (.inr (.inl tN))))), (pB, .inr (0, [.ref bP, .ref bF, .ref bL, .ref bH, .int (nI ((nb + 1)))])), (bP, .inl (cI, 12, .inl (zu uP nb (nI iw)))), (bF, .inl (cI, 12, .inl (zu uF nb fi))), (bL, .inl (cI, 12, .inl (zu uL nb la))), (bH, .inl (cD, 12, .inr (.inr (.inr (.inl (zu uH nb v))))))]) [0, 1, 2, 3, 4, 5, 6, 7, 8] rfl
    have hD : va_D A [(aP, .inr (2, [.int (nI iw), .int (nI ih), .ref pT, .ref pR, .ref pN, .ref pB, .double al, .double ac, .double de])), (pT, .inl (cD, (iw * ih), .inr (.inr (.inr (.inl tT))))), (pR, .inl (cD, (iw * ih), .inr (.inr (.inr (.inl tR))))), (pN, .inl (cD, (iw * ih), .inr (.inr (.inr (.inl tN))))), (pB, .inr (0, [.ref bP, .ref bF, .ref bL, .ref bH, .int (nI ((nb + 1)))])), (bP, .inl (cI, 12, .inl (zu uP nb (nI iw)))), (bF, .inl (cI, 12, .inl (zu uF nb fi))), (bL, .inl (cI, 12, .inl (zu uL nb la))), (bH, .inl (cD, 12, .inr (.inr (.inr (.inl (zu uH nb v))))))] := hD.sub (ws' := [(aP, .inr (2, [.int (nI iw), .int (nI ih), .ref pT, .ref pR, .ref pN, .ref pB, .double al, .double ac, .double de])), (pT, .inl (cD, (iw * ih), .inr (.inr (.inr (.inl tT))))), (pR, .inl (cD, (iw * ih), .inr (.inr (.inr (.inl tR))))), (pN, .inl (cD, (iw * ih), .inr (.inr (.inr (.inl tN))))), (pB, .inr (0, [.ref bP, .ref bF, .ref bL, .ref bH, .int (nI ((nb + 1)))])), (bP, .inl (cI, 12, .inl (zu uP nb (nI iw)))), (bF, .inl (cI, 12, .inl (zu uF nb fi))), (bL, .inl (cI, 12, .inl (zu uL nb la))), (bH, .inl (cD, 12, .inr (.inr (.inr (.inl (zu uH nb v))))))]) [0, 1, 2, 3, 4, 5, 6, 7, 8] (by decide) rfl
    subst hr3
    exact W.iret (v := (nI (nb + 1))) hx hb hr (fun t ht hW => ⟨⟨(nI (nb + 1)), (), rfl, rfl, by rw [ht]; simp only [c_5, if_true, Bool.false_eq_true, if_false] ; exact hP, va_K.moved hW.alike hK, by simp only [c_5, if_true, Bool.false_eq_true, if_false]; exact hD⟩, hS.F ht⟩) hS.2.2 dX2_addBrace_23
  · skip
    have c_5 := c2
    refine lv_iconst (v := (nI 1)) hx hb dX2_addBrace_8 (by decide) ?_
    refine lv_goto (tgt := 16) hx hb dX2_addBrace_9 (by decide) ?_
    refine lv_iload_n hx hb dX2_addBrace_16 rfl (lv_at hl 2 rfl) ?_
    refine lv_iload_n hx hb dX2_addBrace_17 rfl (lv_at hl 3 rfl) ?_
    refine lv_dload hx hb dX2_addBrace_18 (lv_at hl 4 rfl) ?_
    have hPc := hP.sub (ws' := [(pB, .inr (0, [.ref bP, .ref bF, .ref bL, .ref bH, .int (nI nb)])), (bP, .inl (cI, 12, .inl uP)), (bF, .inl (cI, 12, .inl uF)), (bL, .inl (cI, 12, .inl uL)), (bH, .inl (cD, 12, .inr (.inr (.inr (.inl uH)))))]) [4, 5, 6, 7, 8] rfl
    have hDc := hD.sub (ws' := [(pB, .inr (0, [.ref bP, .ref bF, .ref bL, .ref bH, .int (nI nb)])), (bP, .inl (cI, 12, .inl uP)), (bF, .inl (cI, 12, .inl uF)), (bL, .inl (cI, 12, .inl uL)), (bH, .inl (cD, 12, .inr (.inr (.inr (.inl uH)))))]) [4, 5, 6, 7, 8] (by decide) rfl
    have hFc := va_free (wc := [(pB, .inr (0, [.ref bP, .ref bF, .ref bL, .ref bH, .int (nI nb)])), (bP, .inl (cI, 12, .inl uP)), (bF, .inl (cI, 12, .inl uF)), (bL, .inl (cI, 12, .inl uL)), (bH, .inl (cD, 12, .inr (.inr (.inr (.inl uH)))))]) hD hS hA [4, 5, 6, 7, 8] rfl
    refine va_calli (va_runV (As := [.int (nI 1), .int fi, .int la, .double v]) (rest := []) ⟨hx, hb, hml, hown, hts⟩ (c0_add l dC dI pB bP bF bL bH cD cI cQ nb uP uF uL uH (nI 1) fi la v hn12 _) (cwV 4 hts gX2_addBrace_X0_add rfl rfl rfl (by decide +kernel) ⟨Nat.le_of_ble_eq_true rfl, Nat.le_of_ble_eq_true rfl⟩) ⟨zfbw, va_recv hK hPc (ci := 0) (q0 := 0) rfl rfl, zprew hPc hK hDc⟩ rfl rfl hl.1 rfl (lv_room (Nat.le_of_ble_eq_true rfl)) dX2_addBrace_20 ⟨(Nat.le_of_ble_eq_true rfl), (Nat.le_of_ble_eq_true rfl)⟩) hS (fun q _ h => hFc q h) hFc (fun r5 u6 t9 H1 locs ht9 hvm9 hr5 hB9 hz9 hk1 hS => ?_)
    obtain ⟨hP1, hK1, hD1⟩ := hB9
    rw [ht9] at hP1
    obtain ⟨hP, hD⟩ := va_join (wr := [(aP, .inr (2, [.int (nI iw), .int (nI ih), .ref pT, .ref pR, .ref pN, .ref pB, .double al, .double ac, .double de])), (pT, .inl (cD, (iw * ih), .inr (.inr (.inr (.inl tT))))), (pR, .inl (cD, (iw * ih), .inr (.inr (.inr (.inl tR))))), (pN, .inl (cD, (iw * ih), .inr (.inr (.inr (.inl tN)))))]) (w1 := [(pB, .inr (0, [.ref bP, .ref bF, .ref bL, .ref bH, .int (nI ((nb + 1)))])), (bP, .inl (cI, 12, .inl (zu uP nb (nI 1)))), (bF, .inl (cI, 12, .inl (zu uF nb fi))), (bL, .inl (cI, 12, .inl (zu uL nb la))), (bH, .inl (cD, 12, .inr (.inr (.inr (.inl (zu uH nb v))))))]) hP hD [4, 5, 6, 7, 8] [0, 1, 2, 3] rfl rfl (by decide) (by decide) hk1 hFc hP1 hD1
    generalize H1 = H at hP hS ⊢
    have hP : va_P (dC, dI) vwCl [(aP, .inr (2, [.int (nI iw), .int (nI ih), .ref pT, .ref pR, .ref pN, .ref pB, .double al, .double ac, .double de])), (pT, .inl (cD, (iw * ih), .inr (.inr (.inr (.inl tT))))), (pR, .inl (cD, (iw * ih), .inr (.inr (.inr (.inl tR))))), (pN, .inl (cD, (iw * ih), .inr (.inr (.inr (.inl tN))))), (pB, .inr (0, [.ref bP, .ref bF, .ref bL, .ref bH, .int (nI ((nb + 1)))])), (bP, .inl (cI, 12, .inl (zu uP nb (nI 1)))), (bF, .inl (cI, 12, .inl (zu uF nb fi))), (bL, .inl (cI, 12, .inl (zu uL nb la))), (bH, .inl (cD, 12, .inr (.inr (.inr (.inl (zu uH nb v))))))] H := hP.sub (ws' := [(aP, .inr (2, [.int (nI iw), .int (nI ih), .ref pT, .ref pR, .ref pN, .ref pB, .double al, .double ac, .double de])), (pT, .inl (cD, (iw * ih), .inr (.inr (.inr (.inl tT))))), (pR, .inl (cD, (iw * ih), .inr (.inr (.inr (.inl tR))))), (pN, .inl (cD, (iw * ih), .inr (.inr (.inr (.inl tN))))), (pB, .inr (0, [.ref bP, .ref bF, .ref bL, .ref bH, .int (nI ((nb + 1)))])), (bP, .inl (cI, 12, .inl (zu uP nb (nI 1)))), (bF, .inl (cI, 12, .inl (zu uF nb fi))), (bL, .inl (cI, 12, .inl (zu uL nb la))), (bH, .inl (cD, 12, .inr (.inr (.inr (.inl (zu uH nb v))))))]) [0, 1, 2, 3, 4, 5, 6, 7, 8] rfl
    have hD : va_D A [(aP, .inr (2, [.int (nI iw), .int (nI ih), .ref pT, .ref pR, .ref pN, .ref pB, .double al, .double ac, .double de])), (pT, .inl (cD, (iw * ih), .inr (.inr (.inr (.inl tT))))), (pR, .inl (cD, (iw * ih), .inr (.inr (.inr (.inl tR))))), (pN, .inl (cD, (iw * ih), .inr (.inr (.inr (.inl tN))))), (pB, .inr (0, [.ref bP, .ref bF, .ref bL, .ref bH, .int (nI ((nb + 1)))])), (bP, .inl (cI, 12, .inl (zu uP nb (nI 1)))), (bF, .inl (cI, 12, .inl (zu uF nb fi))), (bL, .inl (cI, 12, .inl (zu uL nb la))), (bH, .inl (cD, 12, .inr (.inr (.inr (.inl (zu uH nb v))))))] := hD.sub (ws' := [(aP, .inr (2, [.int (nI iw), .int (nI ih), .ref pT, .ref pR, .ref pN, .ref pB, .double al, .double ac, .double de])), (pT, .inl (cD, (iw * ih), .inr (.inr (.inr (.inl tT))))), (pR, .inl (cD, (iw * ih), .inr (.inr (.inr (.inl tR))))), (pN, .inl (cD, (iw * ih), .inr (.inr (.inr (.inl tN))))), (pB, .inr (0, [.ref bP, .ref bF, .ref bL, .ref bH, .int (nI ((nb + 1)))])), (bP, .inl (cI, 12, .inl (zu uP nb (nI 1)))), (bF, .inl (cI, 12, .inl (zu uF nb fi))), (bL, .inl (cI, 12, .inl (zu uL nb la))), (bH, .inl (cD, 12, .inr (.inr (.inr (.inl (zu uH nb v))))))]) [0, 1, 2, 3, 4, 5, 6, 7, 8] (by decide) rfl
    subst hr5
    exact W.iret (v := (nI (nb + 1))) hx hb hr (fun t ht hW => ⟨⟨(nI (nb + 1)), (), rfl, rfl, by rw [ht]; simp only [c_5, if_true, Bool.false_eq_true, if_false] ; exact hP, va_K.moved hW.alike hK, by simp only [c_5, if_true, Bool.false_eq_true, if_false]; exact hD⟩, hS.F ht⟩) hS.2.2 dX2_addBrace_23
