/-! 14: the class: wishes; constructors -/
def va_AOA (t : FieldType) (U : State) : Prop := (Cond.arrayOver (.array t)).before #[] U = true
theorem va_AOA.use {t : FieldType} {A : Array Value} {U : State} (h : va_AOA t U) : (Cond.arrayOver (.array t)).before A U = true := Jvm.Stand.arrayOver_alikeB (Vm.Alike.refl U.vm) h
theorem va_AOA.of {t : FieldType} {A : Array Value} {U : State} (h : (Cond.arrayOver (.array t)).before A U = true) : va_AOA t U := Jvm.Stand.arrayOver_alikeB (Vm.Alike.refl U.vm) h
theorem va_AOA.moved {t : FieldType} {u U : State} (hvm : u.vm.Alike U.vm) (h : va_AOA t u) : va_AOA t U := Jvm.Stand.arrayOver_alikeB hvm h

section VGM
variable {p : Program} {l : Launch} {e : Env} {R : Room} {s : State} {m : MethodId} {args : Array Value} {below : List Frame} {meth : Method} {c : Code} {H : Heap} {locs : List Loc} {cells slots : Nat} {Q : State → Prop}
variable {cc : ByteArray} {pc : Nat} {ls : Array Slot} {rest : List Value} {D : va_G} {cl : List vw_C} {A : Nat → Prop} {a : Nat} {tys : List (ClassId × FieldType)} {ws : va_W} {H0 : Heap}
theorem va_mna {X : va_W} {L : List Nat} {f : Nat → va_E} {cc : ByteArray} (hexec : p.tables.exec = Jvm.exec) (hb : c.code = cc) {own : String} {index : Nat} {ty : FieldType} {cy : ClassId} (hown : s.vm.findClass own = some m.cls) (hclink : (Cond.classLink own index ("[" ++ (FieldType.array ty).toString)).before args s = true) (hover : va_AOA ty s) (harr : (Cond.arrayClass ty).before args s = true) (hcy : s.vm.findClass (FieldType.array ty).toString = some cy)
    (hK : va_K D cl tys s) (hP : va_P D cl (X ++ va_pl L f) H) (hD : va_D A (X ++ va_pl L f)) (hS : va_S A H0 H locs) (hA : ∀ q, H0.size ≤ q → A q) {n k : Int32} {N' K' : Nat} {z : vp_A} (hn : ¬ n < 0) (hk : ¬ k < 0) (hN : n.toNatClampNeg = N') (hM : k.toNatClampNeg = K')
    (hb1 : N' * 4 ≤ 536870912) (hb2 : K' * componentBytes ty ≤ 536870912) (hb3 : K' ≤ 536870912) (hdf : fits ty (defaultValue ty) = true) (hdd : (defaultValue ty).isDefault = true) (hcells : cells + (1 + N') ≤ R.cells) (hslots : slots + (N' + N' * K') ≤ R.slots) (hz : ∀ c : ClassId, Jvm.Free.Multi.innerC c K' (defaultValue ty) = vp_cell c z) (hdg : decode cc pc = .ok (.multianewarray index 2, 4))
    (kk : ∀ (q : Nat) (r : Nat → Nat) (cA : ClassId) (H1 : Heap), (∀ i j : Nat, i < N' → j < N' → r i = r j → i = j) → (∀ i : Nat, i < N' → r i ∉ L) → va_K D cl (tys ++ [(cA, .array ty)]) s →
      va_P D cl ((X ++ [(q, .inl (cA, N', .inr (.inr (.inr (.inr (fun i => if i < N' then some (r i) else none))))))]) ++ va_pl (L ++ (List.range N').map r) (vr_up f ((List.range N').map r) (.inl (cy, z)))) H1 → va_D A ((X ++ [(q, .inl (cA, N', .inr (.inr (.inr (.inr (fun i => if i < N' then some (r i) else none))))))]) ++ va_pl (L ++ (List.range N').map r) (vr_up f ((List.range N').map r) (.inl (cy, z)))) → va_S A H0 H1 locs →
      W p l e R s m args below meth c H1 locs (cells + 1 + N') (slots + N' + N' * K') Q (F0 m (pc + 4) ls (.ref q :: rest))) : W p l e R s m args below meth c H locs cells slots Q (F0 m pc ls (.int k :: .int n :: rest)) := by
  subst hN
  subst hM
  intro T hT Xs
  obtain ⟨vm₁, cA, comp, -, fA, fC, hO, -, X', step⟩ := Xs.multianewarray2F hexec hown hclink (va_AOA.use hover) harr (g := F0 m pc ls (.int k :: .int n :: rest)) rfl (by rw [hb]; exact hdg) rfl hn hk hb1 hb2 hb3 hdf hdd hcells hslots
  have ec : some cy = some comp := hcy.symm.trans fC
  cases ec
  generalize hF : Jvm.Free.Multi.fill (T.setVm vm₁) cA cy n.toNatClampNeg k.toNatClampNeg (defaultValue ty) n.toNatClampNeg = F at X' step
  have hTh : (T.setVm vm₁).heap = H := hT
  obtain ⟨f1, f2, -, -⟩ := Jvm.Free.Multi.fill_facts (T.setVm vm₁) cA cy n.toNatClampNeg k.toNatClampNeg (defaultValue ty) n.toNatClampNeg
  rw [hF, hTh] at f1 f2
  have hold : ∀ x : Nat, x < H.size → F.heap[x]? = H[x]? := fun x hx => by
    have := Jvm.Free.Multi.fill_old (T.setVm vm₁) cA cy n.toNatClampNeg k.toNatClampNeg (defaultValue ty) (a := x) (by rw [hTh]; exact hx) n.toNatClampNeg
    rw [hF, hTh] at this
    exact this
  have hrow : ∀ j : Nat, j < n.toNatClampNeg → F.heap[H.size + 1 + j]? = some (vp_cell cy z) := fun j hj => by
    have := Jvm.Free.Multi.fill_inner (T.setVm vm₁) cA cy n.toNatClampNeg k.toNatClampNeg (defaultValue ty) n.toNatClampNeg j hj
    rw [hF, hTh, hz] at this
    exact this
  have hout : Jvm.Free.Multi.outerC cA n.toNatClampNeg H.size n.toNatClampNeg = vp_cell cA (n.toNatClampNeg, .inr (.inr (.inr (.inr (fun i => if i < n.toNatClampNeg then some (H.size + 1 + i) else none))))) := by
    rw [vp_cell_q]
    exact vr_outer cA n.toNatClampNeg H.size n.toNatClampNeg
  rw [hout] at f2
  have hlt : ∀ a, a ∈ L → a < H.size := fun a ha => by
    obtain ⟨k9, hk9⟩ := va_pl_get (X := X) (f := f) ha
    exact (hP k9 _ hk9).lt
  have hnl : ∀ i : Nat, i < n.toNatClampNeg → H.size + 1 + i ∉ L := fun i _ h => by
    have := hlt _ h
    omega
  have hnm : ∀ a, a ∈ (List.range n.toNatClampNeg).map (fun i => H.size + 1 + i) → a ∉ L := fun a ha h => by
    obtain ⟨i, -, rfl⟩ := List.mem_map.mp ha
    have := hlt _ h
    omega
  have hP0 : va_P D cl (X ++ va_pl L f) F.heap := hP.kept (fun k9 x hx => hold x.1 ((hP k9 x hx).lt))
  have hP1 : va_P D cl ((X ++ va_pl L f) ++ [(H.size, .inl (cA, n.toNatClampNeg, .inr (.inr (.inr (.inr (fun i => if i < n.toNatClampNeg then some (H.size + 1 + i) else none))))))]) F.heap := hP0.app (fun k9 x hx => by
    have h0 : k9 < 1 := (List.getElem?_eq_some_iff.mp hx).1
    rw [show k9 = 0 by omega] at hx
    cases hx
    exact f2)
  have hP2 : va_P D cl (((X ++ va_pl L f) ++ [(H.size, .inl (cA, n.toNatClampNeg, .inr (.inr (.inr (.inr (fun i => if i < n.toNatClampNeg then some (H.size + 1 + i) else none))))))]) ++ ((List.range n.toNatClampNeg).map (fun i => H.size + 1 + i)).map (fun a => (a, .inl (cy, z)))) F.heap := hP1.app (fun k9 x hx => by
    obtain ⟨a, ha, rfl⟩ := List.mem_map.mp (List.mem_of_getElem? hx)
    obtain ⟨i, hi, rfl⟩ := List.mem_map.mp ha
    exact hrow i (List.mem_range.mp hi))
  have hD2 : va_D A (((X ++ va_pl L f) ++ [(H.size, .inl (cA, n.toNatClampNeg, .inr (.inr (.inr (.inr (fun i => if i < n.toNatClampNeg then some (H.size + 1 + i) else none))))))]) ++ ((List.range n.toNatClampNeg).map (fun i => H.size + 1 + i)).map (fun a => (a, .inl (cy, z)))) := by
    have hD1 := hD.push (e := .inl (cA, n.toNatClampNeg, .inr (.inr (.inr (.inr (fun i => if i < n.toNatClampNeg then some (H.size + 1 + i) else none)))))) hP rfl (hA _ hS.1)
    generalize hW1 : (X ++ va_pl L f) ++ [(H.size, .inl (cA, n.toNatClampNeg, .inr (.inr (.inr (.inr (fun i => if i < n.toNatClampNeg then some (H.size + 1 + i) else none))))))] = W1 at hD1 hP1 ⊢
    have hle : ∀ (k9 : Nat) (x : Nat × va_E), W1[k9]? = some x → x.1 ≤ H.size := fun k9 x hx => by
      rw [← hW1] at hx
      by_cases hl : k9 < (X ++ va_pl L f).length
      · rw [List.getElem?_append_left hl] at hx
        exact Nat.le_of_lt ((hP k9 x hx).lt)
      · rw [List.getElem?_append_right (by omega)] at hx
        have h0 : k9 - (X ++ va_pl L f).length < 1 := (List.getElem?_eq_some_iff.mp hx).1
        rw [show k9 - (X ++ va_pl L f).length = 0 by omega] at hx
        cases hx
        exact Nat.le_refl _
    have hr : ∀ (k9 : Nat) (x : Nat × va_E), (((List.range n.toNatClampNeg).map (fun i => H.size + 1 + i)).map (fun a => ((a, .inl (cy, z)) : Nat × va_E)))[k9]? = some x → x.1 = H.size + 1 + k9 := fun k9 x hx => by
      rw [List.getElem?_map, List.getElem?_map] at hx
      by_cases h9 : k9 < n.toNatClampNeg
      · rw [List.getElem?_range h9] at hx
        cases hx
        rfl
      · have hn0 : (List.range n.toNatClampNeg)[k9]? = none := List.getElem?_eq_none (by rw [List.length_range]; omega)
        rw [hn0] at hx
        cases hx
    refine ⟨fun i j x y hi hj hxy => ?_, fun k9 x hx => ?_⟩
    · by_cases h1 : i < W1.length <;> by_cases h2 : j < W1.length
      · rw [List.getElem?_append_left h1] at hi
        rw [List.getElem?_append_left h2] at hj
        exact hD1.1 i j x y hi hj hxy
      · rw [List.getElem?_append_left h1] at hi
        rw [List.getElem?_append_right (by omega)] at hj
        have := hle _ _ hi
        have := hr _ _ hj
        omega
      · rw [List.getElem?_append_right (by omega)] at hi
        rw [List.getElem?_append_left h2] at hj
        have := hle _ _ hj
        have := hr _ _ hi
        omega
      · rw [List.getElem?_append_right (by omega)] at hi hj
        have := hr _ _ hi
        have := hr _ _ hj
        omega
    · by_cases h1 : k9 < W1.length
      · rw [List.getElem?_append_left h1] at hx
        exact hD1.2 k9 x hx
      · rw [List.getElem?_append_right (by omega)] at hx
        have := hr _ _ hx
        exact hA _ (by have := hS.1; omega)
  have hAr : ArrOfT s cA (.array ty) := fun N9 z9 => by
    obtain ⟨-, k9, hk9, cm9, hkk9⟩ := (hO 0 0 0).1
    exact ⟨(fun q hq => by cases hq), k9, hk9, cm9, hkk9⟩
  have hK2 : va_K D cl (tys ++ [(cA, .array ty)]) s := ⟨hK.1, fun k9 x hx => by
    by_cases hl : k9 < tys.length
    · rw [List.getElem?_append_left hl] at hx
      exact hK.2 k9 x hx
    · rw [List.getElem?_append_right (by omega)] at hx
      have h0 : k9 - tys.length < 1 := (List.getElem?_eq_some_iff.mp hx).1
      rw [show k9 - tys.length = 0 by omega] at hx
      cases hx
      exact ⟨hAr, fA⟩⟩
  obtain ⟨t, a1, b1⟩ := kk H.size (fun i => H.size + 1 + i) cA F.heap (fun i j _ _ h => by have h9 : H.size + 1 + i = H.size + 1 + j := h; omega) hnl hK2 (by rw [← vr_rows hnm]; exact vr_lay hP2) (by rw [← vr_rows hnm]; exact vr_layD hD2) ⟨by rw [f1]; have := hS.1; omega, fun x h1 h2 => (hold x (Nat.lt_of_lt_of_le h1 hS.1)).trans (hS.2.1 x h1 h2), hS.2.2⟩ F rfl X'
  refine ⟨t, step t ?_, b1⟩
  have e : T.heap.size = H.size := by rw [hT]
  rw [e]
  exact a1
end VGM
section ZM4
variable {p : Program} {l : Launch} {e : Env} {R : Room} {s : State} {m : MethodId} {args : Array Value} {below : List Frame} {meth : Method} {c : Code} {H : Heap} {locs : List Loc} {cells slots : Nat} {Q : State → Prop}
variable {cc : ByteArray} {pc : Nat} {ls : Array Slot} {rest : List Value}
/-- four rows of k doubles -/
theorem z_mna4 {D : va_G} {cl : List vw_C} {tys : List (ClassId × FieldType)} {ws : va_W} {A : Nat → Prop} {H0 : Heap} {cD : ClassId} {own : String} {index n : Nat} (hx : p.tables.exec = Jvm.exec) (hb : c.code = cc) (hown : s.vm.findClass own = some m.cls) (hcl : (Cond.classLink own index "[[D").before args s = true) (hAO : va_AOA .double s) (harr : (Cond.arrayClass .double).before args s = true) (hK : va_K D cl tys s) (ht : tys[0]? = some (cD, .double)) (hP : va_P D cl ws H) (hD : va_D A ws) (hS : va_S A H0 H locs) (hA : ∀ q, H0.size ≤ q → A q)
    (hn : n ≤ 36) (hcells : cells + 5 ≤ R.cells) (hslots : slots + 148 ≤ R.slots) (hdg : decode cc pc = .ok (.multianewarray index 2, 4))
    (kk : ∀ (q r0 r1 r2 r3 : Nat) (cA : ClassId) (H1 : Heap), va_K D cl (tys ++ [(cA, .array .double)]) s → va_P D cl (ws ++ [(q, .inl (cA, 4, .inr (.inr (.inr (.inr (zq4 r0 r1 r2 r3)))))), zrw cD n r0 (fun _ => 0), zrw cD n r1 (fun _ => 0), zrw cD n r2 (fun _ => 0), zrw cD n r3 (fun _ => 0)]) H1 → va_D A (ws ++ [(q, .inl (cA, 4, .inr (.inr (.inr (.inr (zq4 r0 r1 r2 r3)))))), zrw cD n r0 (fun _ => 0), zrw cD n r1 (fun _ => 0), zrw cD n r2 (fun _ => 0), zrw cD n r3 (fun _ => 0)]) → va_S A H0 H1 locs →
      W p l e R s m args below meth c H1 locs (cells + 5) (slots + 148) Q (F0 m (pc + 4) ls (.ref q :: rest))) : W p l e R s m args below meth c H locs cells slots Q (F0 m pc ls (.int (nI n) :: .int (nI 4) :: rest)) := by
  have hap : ws ++ va_pl [] (fun _ => (.inl (cD, n, .inr (.inr (.inr (.inl (fun _ => 0))))) : va_E)) = ws := List.append_nil ws
  have hS9 : slots + (4 + 4 * n) ≤ slots + 148 := by omega
  refine va_mna (X := ws) (L := []) (f := fun _ => .inl (cD, n, .inr (.inr (.inr (.inl (fun _ => 0)))))) (cy := cD) (ty := .double) (N' := 4) (K' := n) (z := (n, .inr (.inr (.inr (.inl (fun _ => 0)))))) hx hb hown (by rw [show ("[" ++ (FieldType.array .double).toString) = "[[D" from by decide +kernel]; exact hcl) hAO harr (hK.2 0 _ ht).2 hK (hap.symm ▸ hP) (hap.symm ▸ hD) hS hA (by decide) (nI_pos (by omega)) (by decide) (nI_clamp (by omega)) (by decide) (by show n * 8 ≤ 536870912; omega) (by omega) rfl rfl hcells (Nat.le_trans hS9 hslots) (fun c9 => ?_) hdg (fun q r cA H1 hi hni hK9 hP9 hD9 hS9 => ?_)
  · exact arrV_new c9 n (.double 0)
  · have e1 : (fun i => if i < 4 then some (r i) else none) = zq4 (r 0) (r 1) (r 2) (r 3) := by
      funext i
      match i with
      | 0 => rfl
      | 1 => rfl
      | 2 => rfl
      | 3 => rfl
      | k + 4 => exact if_neg (by omega)
    have hm : ∀ i, i < 4 → r i ∈ (List.range 4).map r := fun i hi => List.mem_map.mpr ⟨i, List.mem_range.mpr hi, rfl⟩
    have e2 : (ws ++ [(q, .inl (cA, 4, .inr (.inr (.inr (.inr (fun i => if i < 4 then some (r i) else none))))))]) ++ va_pl ([] ++ (List.range 4).map r) (vr_up (fun _ => .inl (cD, n, .inr (.inr (.inr (.inl (fun _ => 0)))))) ((List.range 4).map r) (.inl (cD, n, .inr (.inr (.inr (.inl (fun _ => 0))))))) = ws ++ [(q, .inl (cA, 4, .inr (.inr (.inr (.inr (zq4 (r 0) (r 1) (r 2) (r 3))))))), zrw cD n (r 0) (fun _ => 0), zrw cD n (r 1) (fun _ => 0), zrw cD n (r 2) (fun _ => 0), zrw cD n (r 3) (fun _ => 0)] := by
      rw [e1, List.append_assoc]
      refine congrArg (fun z => ws ++ z) ?_
      show (q, _) :: [(r 0, vr_up _ _ _ (r 0)), (r 1, vr_up _ _ _ (r 1)), (r 2, vr_up _ _ _ (r 2)), (r 3, vr_up _ _ _ (r 3))] = _
      rw [vr_up_in (hm 0 (by decide)), vr_up_in (hm 1 (by decide)), vr_up_in (hm 2 (by decide)), vr_up_in (hm 3 (by decide))]
    rw [e2] at hP9 hD9
    exact W.widen (k := cells + 5) (n := slots + 148) (by omega) (by omega) (kk q (r 0) (r 1) (r 2) (r 3) cA H1 hK9 hP9 hD9 hS9)
end ZM4
theorem zside_mm (x : Int32) : (if nI 2 < (if x < nI 6 then x else nI 6) then (if x < nI 6 then x else nI 6) else nI 2) = nI (zside x) := by
  unfold zside
  by_cases h1 : x < nI 2
  · have h6 : x < nI 6 := Int32.lt_trans h1 (by decide)
    rw [if_pos h6, if_pos h1, if_neg (fun q => absurd (Int32.lt_trans q h1) (by decide))]
  · rw [if_neg h1]
    by_cases h2 : nI 6 < x
    · have h6 : ¬ x < nI 6 := fun q => absurd (Int32.lt_trans h2 q) (by decide)
      rw [if_neg h6, if_pos h2]
      decide
    · rw [if_neg h2]
      obtain ⟨n, hn, rfl⟩ := nI_of (x := x) (fun q => h1 (Int32.lt_trans q (by decide)))
      rw [zn_nI hn]
      have h3 : 2 ≤ n := Nat.le_of_not_lt (fun q => h1 (nI_lt q (by decide)))
      have h4 : n ≤ 6 := Nat.le_of_not_lt (fun q => h2 (nI_lt q hn))
      have hh : n = 2 ∨ n = 3 ∨ n = 4 ∨ n = 5 ∨ n = 6 := by omega
      rcases hh with rfl | rfl | rfl | rfl | rfl <;> decide
theorem zmaxneed {f : Nat → Nat} {n : Nat} (h1 : f n < 4) (h2 : zneed f n ≤ 4) : (if nI (zneed f n) < nI (f n + 1) then nI (f n + 1) else nI (zneed f n)) = nI (zneed f (n + 1)) := by
  show _ = nI (if f n + 1 > zneed f n then f n + 1 else zneed f n)
  by_cases h : f n + 1 > zneed f n
  · rw [if_pos h, if_pos (nI_lt h (by omega))]
  · rw [if_neg h, if_neg (nI_nlt (by omega) (by omega))]
set_option maxHeartbeats 4000000 in
set_option maxRecDepth 100000 in
/-- nearestSide -/
theorem c4_nearestSide (l : Launch) (w : Int32) : Met l yX4_nearestSide wsX4_nearestSide ({ frames := 1, cells := 0, slots := 0, locals := 21 } : Room) (va_Pc [.int w] (fun _ => True)) (va_Qi (fun (r : Int32) (_ : Unit) => r = nI (zside w)) (fun _ _ => True) (fun _ => False)) 0 0 (fun _ => False) := by
  refine Met.ofW (cc := cX4_nearestSide) (maxL := 1) (ret := (some .int)) (by decide) rfl ?_
  intro p e s m args below meth c s₁ B hml hv
  obtain ⟨rfl, -⟩ := hv
  have hx := B.exec
  have hb := B.bytes
  have hr := B.returns
  have hts := atoms_spec (ws := wsX4_nearestSide) B.pre
  have hown : s.vm.findClass RX4 = some m.cls := findClass_of_methodNamed B.named
  have hlocks := B.notSynchronized
  have hS : va_S (fun _ => False) s.heap s.heap [] := va_S.rf
  have hl := lv_entry ([.int w]) (n := 1) (Nat.le_of_ble_eq_true rfl)
  rw [lg_entry_eq]
  generalize (lg_sl ([.int w]) ++ List.replicate (1 - (lg_sl ([.int w])).length) Slot.unset).toArray = ls at hl ⊢
  have hl : lv_has ls 1 [(0, .int w)] := hl
  refine lv_iconst (v := (nI 2)) hx hb dX4_nearestSide_0 (by decide) ?_
  refine lv_bipush (v := (nI 6)) hx hb dX4_nearestSide_1 (by decide) ?_
  refine lv_iload_n hx hb dX4_nearestSide_3 rfl (lv_at hl 0 rfl) ?_
  refine va_mmin hx hb (hml.trans hl.1.symm) hown (hts (.methodLink RX4 86 Lib.Math.min.name) (by decide +kernel)) (hts (.static Lib.Math.min.name) (by decide +kernel)) (hts (.initialized "java/lang/Math") (by decide +kernel)) (hts (.code Lib.Math.min.name Lib.Math.min.code 2 (some .int)) (by decide +kernel)) (Nat.le_of_ble_eq_true rfl) (Nat.le_of_ble_eq_true rfl) (Nat.le_of_ble_eq_true rfl) (Nat.le_of_ble_eq_true rfl) dX4_nearestSide_4 ?_
  refine va_mmax hx hb (hml.trans hl.1.symm) hown (hts (.methodLink RX4 91 Lib.Math.max.name) (by decide +kernel)) (hts (.static Lib.Math.max.name) (by decide +kernel)) (hts (.initialized "java/lang/Math") (by decide +kernel)) (hts (.code Lib.Math.max.name Lib.Math.max.code 2 (some .int)) (by decide +kernel)) (Nat.le_of_ble_eq_true rfl) (Nat.le_of_ble_eq_true rfl) (Nat.le_of_ble_eq_true rfl) (Nat.le_of_ble_eq_true rfl) dX4_nearestSide_7 ?_
  rw [show (if nI 2 < (if w < nI 6 then w else nI 6) then (if w < nI 6 then w else nI 6) else nI 2) = nI (zside w) from zside_mm w]
  exact W.iret (v := (nI ((zside w)))) hx hb hr (fun t ht hW => ⟨⟨(nI ((zside w))), (), rfl, ⟨rfl, trivial⟩⟩, hS.F ht⟩) hS.2.2 dX4_nearestSide_10
theorem in_X3_full_X3 : ∀ w ∈ wsX30, w ∈ wsX3_full := by intro w h; unfold wsX3_full; simp only [List.mem_cons, List.mem_append]; first | exact Or.inr (Or.inr h) | exact Or.inr (Or.inl (Or.inr h)) | exact Or.inr (Or.inl (Or.inl (Or.inr h))) | exact Or.inr (Or.inr (Or.inl h)) | exact Or.inr (Or.inr (Or.inr h))
set_option maxHeartbeats 4000000 in
set_option maxRecDepth 100000 in
/-- full -/
theorem c3_full (l : Launch) (dC : Nat → ClassId) (dI : Nat → Nat → Nat) (aW pW pX : Nat) (cD cI cQ : ClassId) (iq : Nat) (tW : Nat → Int32) (tX : Nat → UInt64) (hq4 : iq ≤ 4) : Met l yX3_full wsX3_full ({ frames := 0, cells := 0, slots := 0, locals := 0 } : Room) (va_Pc [.ref aW] (fun U => va_P (dC, dI) vwCl [(aW, .inr (3, [.ref pW, .ref pX, .int (nI iq)])), (pW, .inl (cI, 4, .inl tW)), (pX, .inl (cD, 4, .inr (.inr (.inr (.inl tX)))))] U.heap ∧ va_K (dC, dI) vwCl [(cD, .double), (cI, .int), (cQ, .array .double)] U)) (va_Qi (fun (r : Int32) (_ : Unit) => r = zb (decide (4 ≤ iq))) (fun _ _ => True) (fun _ => False)) 0 0 (fun _ => False) := by
  refine Met.ofW (cc := cX3_full) (maxL := 1) (ret := (some .boolean)) (by decide) rfl ?_
  intro p e s m args below meth c s₁ B hml hv
  obtain ⟨rfl, hP0, hK⟩ := hv
  have hx := B.exec
  have hb := B.bytes
  have hr := B.returns
  have hts := atoms_spec (ws := wsX3_full) B.pre
  have hown : s.vm.findClass RX3 = some m.cls := findClass_of_methodNamed B.named
  have hlocks := B.notSynchronized
  have hS : va_S (fun _ => False) s.heap s.heap [] := va_S.rf
  have hP := hP0
  have hl := lv_entry ([.ref aW]) (n := 1) (Nat.le_of_ble_eq_true rfl)
  rw [lg_entry_eq]
  generalize (lg_sl ([.ref aW]) ++ List.replicate (1 - (lg_sl ([.ref aW])).length) Slot.unset).toArray = ls at hl ⊢
  have hl : lv_has ls 1 [(0, .ref aW)] := hl
  refine lv_aload_n hx hb dX3_full_0 rfl (lv_at hl 0 rfl) ?_
  refine va_get (D := (dC, dI)) (ci := 3) (v := .int (nI iq)) (C := RX3) (T := TX3) (N := 3) hx hb hts (in_X3_full_X3) hown hK hP 0 rfl rfl 2 (by decide) (hts (.fieldLink RX3 19 "PlateModes$Wishes" "count" "I") (by decide +kernel)) (fun _ h9 => h9) rfl dX3_full_1 ?_
  refine lv_iconst (v := (nI 4)) hx hb dX3_full_4 (by decide) ?_
  refine z_icmp_lt (a := iq) (b := 4) (tgt := 12) hx hb (by omega) (by omega) dX3_full_5 (by decide) (fun c1 => ?_) (fun c2 => ?_)
  · skip
    refine lv_iconst (v := (nI 0)) hx hb dX3_full_12 (by decide) ?_
    exact W.zret (v := (nI 0)) hx hb hr rfl (fun t ht hW => ⟨⟨(nI 0), (), rfl, ⟨congrArg zb (decide_eq_false (show ¬ 4 ≤ iq from by omega)).symm, trivial⟩⟩, hS.F ht⟩) hS.2.2 dX3_full_13
  · skip
    refine lv_iconst (v := (nI 1)) hx hb dX3_full_8 (by decide) ?_
    refine lv_goto (tgt := 13) hx hb dX3_full_9 (by decide) ?_
    exact W.zret (v := (nI 1)) hx hb hr rfl (fun t ht hW => ⟨⟨(nI 1), (), rfl, ⟨congrArg zb (decide_eq_true (show 4 ≤ iq from by omega)).symm, trivial⟩⟩, hS.F ht⟩) hS.2.2 dX3_full_13
theorem in_X3_add_X3 : ∀ w ∈ wsX30, w ∈ wsX3_add := by intro w h; unfold wsX3_add; simp only [List.mem_cons, List.mem_append]; first | exact Or.inr (Or.inr h) | exact Or.inr (Or.inl (Or.inr h)) | exact Or.inr (Or.inl (Or.inl (Or.inr h))) | exact Or.inr (Or.inr (Or.inl h)) | exact Or.inr (Or.inr (Or.inr h))
set_option maxHeartbeats 4000000 in
set_option maxRecDepth 100000 in
/-- add -/
theorem c3_add (l : Launch) (dC : Nat → ClassId) (dI : Nat → Nat → Nat) (aW pW pX : Nat) (cD cI cQ : ClassId) (iq : Nat) (tW : Nat → Int32) (tX : Nat → UInt64) (k : Int32) (v : UInt64) (hq3 : iq < 4) (sz : Nat) : Met l yX3_add wsX3_add ({ frames := 1, cells := 0, slots := 0, locals := 20 } : Room) (va_Pc [.ref aW, .int k, .double v] (fun U => U.heap.size = sz ∧ va_P (dC, dI) vwCl [(aW, .inr (3, [.ref pW, .ref pX, .int (nI iq)])), (pW, .inl (cI, 4, .inl tW)), (pX, .inl (cD, 4, .inr (.inr (.inr (.inl tX)))))] U.heap ∧ va_K (dC, dI) vwCl [(cD, .double), (cI, .int), (cQ, .array .double)] U ∧ va_D (fun _ => True) [(aW, .inr (3, [.ref pW, .ref pX, .int (nI iq)])), (pW, .inl (cI, 4, .inl tW)), (pX, .inl (cD, 4, .inr (.inr (.inr (.inl tX)))))])) (va_Qi (fun (r : Int32) (_ : Unit) => r = nI (iq + 1)) (fun _ t => (va_P (dC, dI) vwCl [(aW, .inr (3, [.ref pW, .ref pX, .int (nI ((iq + 1)))])), (pW, .inl (cI, 4, .inl (zu tW iq k))), (pX, .inl (cD, 4, .inr (.inr (.inr (.inl (zu tX iq v))))))] t.heap ∧ va_K (dC, dI) vwCl [(cD, .double), (cI, .int), (cQ, .array .double)] t ∧ va_D (va_A [(aW, .inr (3, [.ref pW, .ref pX, .int (nI iq)])), (pW, .inl (cI, 4, .inl tW)), (pX, .inl (cD, 4, .inr (.inr (.inr (.inl tX)))))] sz) [(aW, .inr (3, [.ref pW, .ref pX, .int (nI ((iq + 1)))])), (pW, .inl (cI, 4, .inl (zu tW iq k))), (pX, .inl (cD, 4, .inr (.inr (.inr (.inl (zu tX iq v))))))])) (va_A [(aW, .inr (3, [.ref pW, .ref pX, .int (nI iq)])), (pW, .inl (cI, 4, .inl tW)), (pX, .inl (cD, 4, .inr (.inr (.inr (.inl tX)))))] sz)) 0 0 (va_A [(aW, .inr (3, [.ref pW, .ref pX, .int (nI iq)])), (pW, .inl (cI, 4, .inl tW)), (pX, .inl (cD, 4, .inr (.inr (.inr (.inl tX)))))] sz) := by
  refine Met.ofW (cc := cX3_add) (maxL := 4) (ret := (some .int)) (by decide) rfl ?_
  intro p e s m args below meth c s₁ B hml hv
  obtain ⟨rfl, hsz, hP, hK, hD0⟩ := hv
  have hx := B.exec
  have hb := B.bytes
  have hr := B.returns
  have hts := atoms_spec (ws := wsX3_add) B.pre
  have hown : s.vm.findClass RX3 = some m.cls := findClass_of_methodNamed B.named
  have hlocks := B.notSynchronized
  subst hsz
  have hD := hD0.self (sz := s.heap.size)
  generalize hAe : va_A [(aW, .inr (3, [.ref pW, .ref pX, .int (nI iq)])), (pW, .inl (cI, 4, .inl tW)), (pX, .inl (cD, 4, .inr (.inr (.inr (.inl tX)))))] s.heap.size = A at hD ⊢
  have hA : ∀ q : Nat, s.heap.size ≤ q → A q := fun q h => by rw [← hAe]; exact Or.inr h
  have hS : va_S A s.heap s.heap [] := va_S.rf
  have hl := lv_entry ([.ref aW, .int k, .double v]) (n := 4) (Nat.le_of_ble_eq_true rfl)
  rw [lg_entry_eq]
  generalize (lg_sl ([.ref aW, .int k, .double v]) ++ List.replicate (4 - (lg_sl ([.ref aW, .int k, .double v])).length) Slot.unset).toArray = ls at hl ⊢
  have hl : lv_has ls 4 [(0, .ref aW), (1, .int k), (2, .double v)] := hl
  refine lv_aload_n hx hb dX3_add_0 rfl (lv_at hl 0 rfl) ?_
  have hPc := hP
  refine va_calli (va_runV (As := []) (rest := []) ⟨hx, hb, hml, hown, hts⟩ (c3_full l dC dI aW pW pX cD cI cQ iq tW tX (by omega)) (cwV 0 hts gX3_add_X3_full rfl rfl rfl (by decide +kernel) ⟨Nat.le_of_ble_eq_true rfl, Nat.le_of_ble_eq_true rfl⟩) ⟨zfb, va_recv hK hP (ci := 3) (q0 := 0) rfl rfl, zpre hPc hK⟩ rfl rfl hl.1 rfl (lv_room (Nat.le_of_ble_eq_true rfl)) dX3_add_1 ⟨Nat.le_of_ble_eq_true rfl, Nat.le_of_ble_eq_true rfl⟩) hS (fun q _ h => h.elim) (fun q h => h.elim) (fun r1 u9 t9 H locs ht9 hvm9 hr1 hB9 hz9 hk1 hS => ?_)
  have hP := zro1 hP hk1
  subst hr1
  refine z_if_ne_b (tgt := 37) hx hb dX3_add_4 (by decide) (fun c2 => ?_) (fun c3 => ?_)
  · skip
    exact absurd (of_decide_eq_true c2) (by omega)
  · skip
    refine lv_aload_n hx hb dX3_add_7 rfl (lv_at hl 0 rfl) ?_
    refine va_get (D := (dC, dI)) (ci := 3) (v := .ref pW) (C := RX3) (T := TX3) (N := 3) hx hb hts (in_X3_add_X3) hown hK hP 0 rfl rfl 0 (by decide) (hts (.fieldLink RX3 9 "PlateModes$Wishes" "wanted" "[I") (by decide +kernel)) (fun _ h9 => h9) rfl dX3_add_8 ?_
    refine lv_aload_n hx hb dX3_add_11 rfl (lv_at hl 0 rfl) ?_
    refine va_get (D := (dC, dI)) (ci := 3) (v := .int (nI iq)) (C := RX3) (T := TX3) (N := 3) hx hb hts (in_X3_add_X3) hown hK hP 0 rfl rfl 2 (by decide) (hts (.fieldLink RX3 19 "PlateModes$Wishes" "count" "I") (by decide +kernel)) (fun _ h9 => h9) rfl dX3_add_12 ?_
    refine lv_iload_n hx hb dX3_add_15 rfl (lv_at hl 1 rfl) ?_
    refine z_iast (n := 4) (i := iq) hx hb hK hP hD hS 1 1 rfl rfl (by omega) (by decide) dX3_add_16 (fun H locs hP hD hS => ?_)
    have hP : va_P (dC, dI) vwCl [(aW, .inr (3, [.ref pW, .ref pX, .int (nI iq)])), (pW, .inl (cI, 4, .inl (zu tW iq k))), (pX, .inl (cD, 4, .inr (.inr (.inr (.inl tX)))))] H := hP
    have hD : va_D A [(aW, .inr (3, [.ref pW, .ref pX, .int (nI iq)])), (pW, .inl (cI, 4, .inl (zu tW iq k))), (pX, .inl (cD, 4, .inr (.inr (.inr (.inl tX)))))] := hD
    refine lv_aload_n hx hb dX3_add_17 rfl (lv_at hl 0 rfl) ?_
    refine va_get (D := (dC, dI)) (ci := 3) (v := .ref pX) (C := RX3) (T := TX3) (N := 3) hx hb hts (in_X3_add_X3) hown hK hP 0 rfl rfl 1 (by decide) (hts (.fieldLink RX3 15 "PlateModes$Wishes" "wishedSquares" "[D") (by decide +kernel)) (fun _ h9 => h9) rfl dX3_add_18 ?_
    refine lv_aload_n hx hb dX3_add_21 rfl (lv_at hl 0 rfl) ?_
    refine va_get (D := (dC, dI)) (ci := 3) (v := .int (nI iq)) (C := RX3) (T := TX3) (N := 3) hx hb hts (in_X3_add_X3) hown hK hP 0 rfl rfl 2 (by decide) (hts (.fieldLink RX3 19 "PlateModes$Wishes" "count" "I") (by decide +kernel)) (fun _ h9 => h9) rfl dX3_add_22 ?_
    refine lv_dload_n hx hb dX3_add_25 rfl (lv_at hl 2 rfl) ?_
    refine z_dast (n := 4) (i := iq) hx hb hK hP hD hS 2 0 rfl rfl (by omega) (by decide) dX3_add_26 (fun H locs hP hD hS => ?_)
    have hP : va_P (dC, dI) vwCl [(aW, .inr (3, [.ref pW, .ref pX, .int (nI iq)])), (pW, .inl (cI, 4, .inl (zu tW iq k))), (pX, .inl (cD, 4, .inr (.inr (.inr (.inl (zu tX iq v))))))] H := hP
    have hD : va_D A [(aW, .inr (3, [.ref pW, .ref pX, .int (nI iq)])), (pW, .inl (cI, 4, .inl (zu tW iq k))), (pX, .inl (cD, 4, .inr (.inr (.inr (.inl (zu tX iq v))))))] := hD
    refine lv_aload_n hx hb dX3_add_27 rfl (lv_at hl 0 rfl) ?_
    refine lv_dup hx hb dX3_add_28 rfl ?_
    refine va_get (D := (dC, dI)) (ci := 3) (v := .int (nI iq)) (C := RX3) (T := TX3) (N := 3) hx hb hts (in_X3_add_X3) hown hK hP 0 rfl rfl 2 (by decide) (hts (.fieldLink RX3 19 "PlateModes$Wishes" "count" "I") (by decide +kernel)) (fun _ h9 => h9) rfl dX3_add_29 ?_
    refine lv_iconst (v := (nI 1)) hx hb dX3_add_32 (by decide) ?_
    refine t_iadd hx hb dX3_add_33 (v := nI (iq + 1)) (zi_add (by omega)) ?_
    refine va_put (D := (dC, dI)) (ci := 3) (v := .int (nI (iq + 1))) (ty := .int) (C := RX3) (T := TX3) (N := 3) hx hb hts (in_X3_add_X3) tyX3 tyX3_ok nmX3 hown hK hP hD hS 0 rfl rfl 2 (by decide) (hts (.fieldLink RX3 19 "PlateModes$Wishes" "count" "I") (by decide +kernel)) (fun _ h9 => h9) rfl (by decide +kernel) rfl rfl (Nat.le_of_ble_eq_true rfl) dX3_add_34 (fun H locs hP hD hS => ?_)
    have hP : va_P (dC, dI) vwCl [(aW, .inr (3, [.ref pW, .ref pX, .int (nI (iq + 1))])), (pW, .inl (cI, 4, .inl (zu tW iq k))), (pX, .inl (cD, 4, .inr (.inr (.inr (.inl (zu tX iq v))))))] H := hP
    have hD : va_D A [(aW, .inr (3, [.ref pW, .ref pX, .int (nI (iq + 1))])), (pW, .inl (cI, 4, .inl (zu tW iq k))), (pX, .inl (cD, 4, .inr (.inr (.inr (.inl (zu tX iq v))))))] := hD
    refine lv_aload_n hx hb dX3_add_37 rfl (lv_at hl 0 rfl) ?_
    refine va_get (D := (dC, dI)) (ci := 3) (v := .int (nI (iq + 1))) (C := RX3) (T := TX3) (N := 3) hx hb hts (in_X3_add_X3) hown hK hP 0 rfl rfl 2 (by decide) (hts (.fieldLink RX3 19 "PlateModes$Wishes" "count" "I") (by decide +kernel)) (fun _ h9 => h9) rfl dX3_add_38 ?_
    exact W.iret (v := (nI (iq + 1))) hx hb hr (fun t ht hW => ⟨⟨(nI (iq + 1)), (), rfl, rfl, by rw [ht]; exact hP, va_K.moved hW.alike hK, hD⟩, hS.F ht⟩) hS.2.2 dX3_add_41
theorem in_X3_modesNeeded_X3 : ∀ w ∈ wsX30, w ∈ wsX3_modesNeeded := by intro w h; unfold wsX3_modesNeeded; simp only [List.mem_cons, List.mem_append]; first | exact Or.inr (Or.inr h) | exact Or.inr (Or.inl (Or.inr h)) | exact Or.inr (Or.inl (Or.inl (Or.inr h))) | exact Or.inr (Or.inr (Or.inl h)) | exact Or.inr (Or.inr (Or.inr h))
set_option maxHeartbeats 4000000 in
set_option maxRecDepth 100000 in
/-- modesNeeded -/
theorem c3_modesNeeded (l : Launch) (dC : Nat → ClassId) (dI : Nat → Nat → Nat) (aW pW pX : Nat) (cD cI cQ : ClassId) (iq : Nat) (tW : Nat → Int32) (tX : Nat → UInt64) (wn : Nat → Nat) (hq4 : iq ≤ 4) (gW : ∀ i, i < iq → tW i = nI (wn i)) (gw4 : ∀ i, i < iq → wn i < 4) : Met l yX3_modesNeeded wsX3_modesNeeded ({ frames := 1, cells := 0, slots := 0, locals := 21 } : Room) (va_Pc [.ref aW] (fun U => va_P (dC, dI) vwCl [(aW, .inr (3, [.ref pW, .ref pX, .int (nI iq)])), (pW, .inl (cI, 4, .inl tW)), (pX, .inl (cD, 4, .inr (.inr (.inr (.inl tX)))))] U.heap ∧ va_K (dC, dI) vwCl [(cD, .double), (cI, .int), (cQ, .array .double)] U)) (va_Qi (fun (r : Int32) (_ : Unit) => r = nI (zneed wn iq)) (fun _ _ => True) (fun _ => False)) 0 0 (fun _ => False) := by
  refine Met.ofW (cc := cX3_modesNeeded) (maxL := 3) (ret := (some .int)) (by decide) rfl ?_
  intro p e s m args below meth c s₁ B hml hv
  obtain ⟨rfl, hP0, hK⟩ := hv
  have hx := B.exec
  have hb := B.bytes
  have hr := B.returns
  have hts := atoms_spec (ws := wsX3_modesNeeded) B.pre
  have hown : s.vm.findClass RX3 = some m.cls := findClass_of_methodNamed B.named
  have hlocks := B.notSynchronized
  have hS : va_S (fun _ => False) s.heap s.heap [] := va_S.rf
  have hP := hP0
  have hl := lv_entry ([.ref aW]) (n := 3) (Nat.le_of_ble_eq_true rfl)
  rw [lg_entry_eq]
  generalize (lg_sl ([.ref aW]) ++ List.replicate (3 - (lg_sl ([.ref aW])).length) Slot.unset).toArray = ls at hl ⊢
  have hl : lv_has ls 3 [(0, .ref aW)] := hl
  refine lv_iconst (v := (nI 0)) hx hb dX3_modesNeeded_0 (by decide) ?_
  refine lv_istore_n (lv' := [(1, .int (nI 0)), (0, .ref aW)]) hx hb dX3_modesNeeded_1 rfl hl (by decide) rfl (fun ls hl => ?_)
  refine lv_iconst (v := (nI 0)) hx hb dX3_modesNeeded_2 (by decide) ?_
  refine lv_istore_n (lv' := [(2, .int (nI 0)), (1, .int (nI 0)), (0, .ref aW)]) hx hb dX3_modesNeeded_3 rfl hl (by decide) rfl (fun ls hl => ?_)
  have L_4 : ∀ (n : Nat) (i : Nat) (H : Heap) (locs : List Loc) (ls : Array Slot), iq - i < n → (i ≤ iq) → va_S (fun _ => False) s.heap H locs → lv_has ls 3 [(2, .int (nI i)), (1, .int (nI ((zneed wn i)))), (0, .ref aW)] → W p l e (headSpec wsX3_modesNeeded ({ frames := 1, cells := 0, slots := 0, locals := 21 } : Room)).room s m ([.ref aW] : List Value).toArray below meth c H locs 0 0 (MQ below (va_Qi (fun (r : Int32) (_ : Unit) => r = nI (zneed wn iq)) (fun _ _ => True) (fun _ => False)) ([.ref aW] : List Value).toArray s 0 0 (fun _ => False)) (F0 m 4 ls []) := by
    intro n
    induction n with
    | zero => intro i H locs ls hn; exact absurd hn (Nat.not_lt_zero _)
    | succ n ih_L_4 =>
      intro i H locs ls hn hi hS hl
      have hP := zro hP0 hS
      have hz4 := zneed_le gw4 i hi
      refine lv_iload_n hx hb dX3_modesNeeded_4 rfl (lv_at hl 0 rfl) ?_
      refine lv_aload_n hx hb dX3_modesNeeded_5 rfl (lv_at hl 2 rfl) ?_
      refine va_get (D := (dC, dI)) (ci := 3) (v := .int (nI iq)) (C := RX3) (T := TX3) (N := 3) hx hb hts (in_X3_modesNeeded_X3) hown hK hP 0 rfl rfl 2 (by decide) (hts (.fieldLink RX3 19 "PlateModes$Wishes" "count" "I") (by decide +kernel)) (fun _ h9 => h9) rfl dX3_modesNeeded_6 ?_
      refine z_icmp_ge (a := i) (b := iq) (tgt := 31) hx hb (by omega) (by omega) dX3_modesNeeded_9 (by decide) (fun c1 => ?_) (fun c2 => ?_)
      · skip
        refine lv_iload_n hx hb dX3_modesNeeded_31 rfl (lv_at hl 1 rfl) ?_
        exact W.iret (v := (nI ((zneed wn i)))) hx hb hr (fun t ht hW => ⟨⟨(nI ((zneed wn i))), (), rfl, ⟨by rw [show i = iq by omega], trivial⟩⟩, hS.F ht⟩) hS.2.2 dX3_modesNeeded_32
      · skip
        refine lv_iload_n hx hb dX3_modesNeeded_12 rfl (lv_at hl 1 rfl) ?_
        refine lv_aload_n hx hb dX3_modesNeeded_13 rfl (lv_at hl 2 rfl) ?_
        refine va_get (D := (dC, dI)) (ci := 3) (v := .ref pW) (C := RX3) (T := TX3) (N := 3) hx hb hts (in_X3_modesNeeded_X3) hown hK hP 0 rfl rfl 0 (by decide) (hts (.fieldLink RX3 9 "PlateModes$Wishes" "wanted" "[I") (by decide +kernel)) (fun _ h9 => h9) rfl dX3_modesNeeded_14 ?_
        refine lv_iload_n hx hb dX3_modesNeeded_17 rfl (lv_at hl 0 rfl) ?_
        refine z_iald (n := 4) (i := i) hx hb hK hP 1 1 rfl rfl (by omega) (by decide) dX3_modesNeeded_18 ?_
        rw [gW i (by omega)]
        have hwn := gw4 i (by omega)
        refine lv_iconst (v := (nI 1)) hx hb dX3_modesNeeded_19 (by decide) ?_
        refine t_iadd hx hb dX3_modesNeeded_20 (v := nI ((wn i) + 1)) (zi_add (by omega)) ?_
        refine va_mmax hx hb (hml.trans hl.1.symm) hown (hts (.methodLink RX3 27 Lib.Math.max.name) (by decide +kernel)) (hts (.static Lib.Math.max.name) (by decide +kernel)) (hts (.initialized "java/lang/Math") (by decide +kernel)) (hts (.code Lib.Math.max.name Lib.Math.max.code 2 (some .int)) (by decide +kernel)) (Nat.le_of_ble_eq_true rfl) (Nat.le_of_ble_eq_true rfl) (Nat.le_of_ble_eq_true rfl) (Nat.le_of_ble_eq_true rfl) dX3_modesNeeded_21 ?_
        rw [zmaxneed (gw4 i (by omega)) hz4]
        refine lv_istore_n (lv' := [(1, .int (nI ((zneed wn (i + 1))))), (2, .int (nI i)), (0, .ref aW)]) hx hb dX3_modesNeeded_24 rfl hl (by decide) rfl (fun ls hl => ?_)
        refine lv_iinc (v := nI (i + 1)) (lv' := [(2, .int (nI (i + 1))), (1, .int (nI ((zneed wn (i + 1))))), (0, .ref aW)]) hx hb dX3_modesNeeded_25 hl (k := 1) rfl (show nI i + nI 1 = _ from zi_add (by omega)) (by decide) rfl (fun ls hl => ?_)
        refine lv_goto (tgt := 4) hx hb dX3_modesNeeded_28 (by decide) ?_
        exact ih_L_4 (i + 1) _ _ _ (by omega) (by omega) hS hl
  exact L_4 _ 0 _ _ _ (Nat.lt_succ_self _) (by omega) hS hl
theorem in_X3_missedBy_X3 : ∀ w ∈ wsX30, w ∈ wsX3_missedBy := by intro w h; unfold wsX3_missedBy; simp only [List.mem_cons, List.mem_append]; first | exact Or.inr (Or.inr h) | exact Or.inr (Or.inl (Or.inr h)) | exact Or.inr (Or.inl (Or.inl (Or.inr h))) | exact Or.inr (Or.inr (Or.inl h)) | exact Or.inr (Or.inr (Or.inr h))
set_option maxHeartbeats 4000000 in
set_option maxRecDepth 100000 in
/-- missedBy -/
theorem c3_missedBy (l : Launch) (dC : Nat → ClassId) (dI : Nat → Nat → Nat) (aW pW pX aM aP aQ mS mR mT : Nat) (cD cI cQ : ClassId) (iq im : Nat) (tW : Nat → Int32) (tX qS : Nat → UInt64) (wn : Nat → Nat) (hq4 : iq ≤ 4) (gW : ∀ i, i < iq → tW i = nI (wn i)) (gw4 : ∀ i, i < iq → wn i < 4) (sq ws : Nat → ZD) (gq : ∀ i, i < iq → zv (qS (wn i)) = sq i) (gx : ∀ i, i < iq → zv (tX i) = ws i) : MetD lw_cs l yX3_missedBy wsX3_missedBy ({ frames := 1, cells := 0, slots := 0, locals := 21 } : Room) (va_Pc [.ref aW, .ref aM] (fun U => va_P (dC, dI) vwCl [(aW, .inr (3, [.ref pW, .ref pX, .int (nI iq)])), (pW, .inl (cI, 4, .inl tW)), (pX, .inl (cD, 4, .inr (.inr (.inr (.inl tX))))), (aM, .inr (1, [.ref aP, .ref aQ, .ref mS, .ref mR, .ref mT, .int (nI im)])), (mS, .inl (cD, 4, .inr (.inr (.inr (.inl qS)))))] U.heap ∧ va_K (dC, dI) vwCl [(cD, .double), (cI, .int), (cQ, .array .double)] U)) (va_Qd (fun (r : UInt64) (_ : Unit) => zv r = ztot sq ws iq) (fun _ _ => True) (fun _ => False)) 0 0 (fun _ => False) := by
  refine MetD.ofW (cc := cX3_missedBy) (maxL := 7) (ret := (some .double)) (by decide) rfl ?_
  intro p e s m args below meth c s₁ B hml hv hd0
  obtain ⟨rfl, hP0, hK⟩ := hv
  have hx := B.exec
  have hb := B.bytes
  have hr := B.returns
  have hts := atoms_spec (ws := wsX3_missedBy) B.pre
  have hown : s.vm.findClass RX3 = some m.cls := findClass_of_methodNamed B.named
  have hlocks := B.notSynchronized
  have hS : va_S (fun _ => False) s.heap s.heap [] := va_S.rf
  have hP := hP0
  have hl := lv_entry ([.ref aW, .ref aM]) (n := 7) (Nat.le_of_ble_eq_true rfl)
  rw [lg_entry_eq]
  generalize (lg_sl ([.ref aW, .ref aM]) ++ List.replicate (7 - (lg_sl ([.ref aW, .ref aM])).length) Slot.unset).toArray = ls at hl ⊢
  have hl : lv_has ls 7 [(0, .ref aW), (1, .ref aM)] := hl
  refine lv_dconst0 hx hb dX3_missedBy_0 ?_
  refine lv_dstore_n (lv' := [(2, .double FP.dconst0), (0, .ref aW), (1, .ref aM)]) hx hb dX3_missedBy_1 rfl hl (by decide) rfl (fun ls hl => ?_)
  refine lv_iconst (v := (nI 0)) hx hb dX3_missedBy_2 (by decide) ?_
  refine lv_istore (lv' := [(4, .int (nI 0)), (2, .double FP.dconst0), (0, .ref aW), (1, .ref aM)]) hx hb dX3_missedBy_3 hl (by decide) rfl (fun ls hl => ?_)
  have L_5 : ∀ (n : Nat) (i : Nat) (sx : UInt64) (d0 : Drawn) (H : Heap) (locs : List Loc) (ls : Array Slot), iq - i < n → (i ≤ iq) → (zv sx = ztot sq ws i) → s.drawn.sameBut d0 lw_cs → va_S (fun _ => False) s.heap H locs → lv_has ls 7 [(4, .int (nI i)), (2, .double sx), (0, .ref aW), (1, .ref aM)] → W p l e (headSpec wsX3_missedBy ({ frames := 1, cells := 0, slots := 0, locals := 21 } : Room)).room (s.setDrawn d0) m ([.ref aW, .ref aM] : List Value).toArray below meth c H locs 0 0 (MQD lw_cs below (va_Qd (fun (r : UInt64) (_ : Unit) => zv r = ztot sq ws iq) (fun _ _ => True) (fun _ => False)) ([.ref aW, .ref aM] : List Value).toArray s 0 0 (fun _ => False)) (F0 m 5 ls []) := by
    intro n
    induction n with
    | zero => intro i sx d0 H locs ls hn; exact absurd hn (Nat.not_lt_zero _)
    | succ n ih_L_5 =>
      intro i sx d0 H locs ls hn hi hsx hd0 hS hl
      have hP := zro hP0 hS
      refine lv_iload hx hb dX3_missedBy_5 (lv_at hl 0 rfl) ?_
      refine lv_aload_n hx hb dX3_missedBy_7 rfl (lv_at hl 2 rfl) ?_
      refine va_get (D := (dC, dI)) (ci := 3) (v := .int (nI iq)) (C := RX3) (T := TX3) (N := 3) hx hb (dr_words hts d0) (in_X3_missedBy_X3) hown hK hP 0 rfl rfl 2 (by decide) (dr_words hts d0 (.fieldLink RX3 19 "PlateModes$Wishes" "count" "I") (by decide +kernel)) (fun _ h9 => h9) rfl dX3_missedBy_8 ?_
      refine z_icmp_ge (a := i) (b := iq) (tgt := 49) hx hb (by omega) (by omega) dX3_missedBy_11 (by decide) (fun c1 => ?_) (fun c2 => ?_)
      · skip
        refine lv_dload_n hx hb dX3_missedBy_49 rfl (lv_at hl 1 rfl) ?_
        refine W.endD hd0 ?_
        exact W.dret (v := sx) hx hb hr (fun t ht hW => ⟨⟨sx, (), rfl, ⟨by dsimp only; rw [hsx, show i = iq by omega], trivial⟩⟩, hS.F ht⟩) hS.2.2 dX3_missedBy_50
      · skip
        refine lv_aload_n hx hb dX3_missedBy_14 rfl (lv_at hl 3 rfl) ?_
        refine lv_aload_n hx hb dX3_missedBy_15 rfl (lv_at hl 2 rfl) ?_
        refine va_get (D := (dC, dI)) (ci := 3) (v := .ref pW) (C := RX3) (T := TX3) (N := 3) hx hb (dr_words hts d0) (in_X3_missedBy_X3) hown hK hP 0 rfl rfl 0 (by decide) (dr_words hts d0 (.fieldLink RX3 9 "PlateModes$Wishes" "wanted" "[I") (by decide +kernel)) (fun _ h9 => h9) rfl dX3_missedBy_16 ?_
        refine lv_iload hx hb dX3_missedBy_19 (lv_at hl 0 rfl) ?_
        refine z_iald (s := s.setDrawn d0) (n := 4) (i := i) hx hb hK hP 1 1 rfl rfl (by omega) (by decide) dX3_missedBy_21 ?_
        rw [gW i (by omega)]
        have hwn := gw4 i (by omega)
        have hPc := hP.sub (ws' := [(aM, .inr (1, [.ref aP, .ref aQ, .ref mS, .ref mR, .ref mT, .int (nI im)])), (mS, .inl (cD, 4, .inr (.inr (.inr (.inl qS)))))]) [3, 4] rfl
        refine va_calld (va_runV (As := [.int (nI ((wn i)))]) (rest := []) ⟨hx, hb, hml, hown, (dr_words hts d0)⟩ (c1_squareOf l dC dI aM aP aQ mS mR mT cD cI cQ im qS ((wn i)) (by omega)) (cwV 1 (dr_words hts d0) gX3_missedBy_X1_squareOf rfl rfl rfl (by decide +kernel) ⟨Nat.le_of_ble_eq_true rfl, Nat.le_of_ble_eq_true rfl⟩) ⟨zfb, va_recv hK hP (ci := 1) (q0 := 3) rfl rfl, zpre hPc hK⟩ rfl rfl hl.1 rfl (lv_room (Nat.le_of_ble_eq_true rfl)) dX3_missedBy_22 ⟨Nat.le_of_ble_eq_true rfl, Nat.le_of_ble_eq_true rfl⟩) hS (fun q _ h => h.elim) (fun q h => h.elim) (fun r3 u9 t9 H locs ht9 hvm9 hr3 hB9 hz9 hk1 hS => ?_)
        have hP := zro1 hP hk1
        subst hr3
        refine lv_aload_n hx hb dX3_missedBy_25 rfl (lv_at hl 2 rfl) ?_
        refine va_get (D := (dC, dI)) (ci := 3) (v := .ref pX) (C := RX3) (T := TX3) (N := 3) hx hb (dr_words hts d0) (in_X3_missedBy_X3) hown hK hP 0 rfl rfl 1 (by decide) (dr_words hts d0 (.fieldLink RX3 15 "PlateModes$Wishes" "wishedSquares" "[D") (by decide +kernel)) (fun _ h9 => h9) rfl dX3_missedBy_26 ?_
        refine lv_iload hx hb dX3_missedBy_29 (lv_at hl 0 rfl) ?_
        refine z_dald (s := s.setDrawn d0) (n := 4) (i := i) hx hb hK hP 2 0 rfl rfl (by omega) (by decide) dX3_missedBy_31 ?_
        refine zr_dsub hd0 hx hb (a := sq i) (b := ws i) (gq i (by omega)) (gx i (by omega)) dX3_missedBy_32 (fun r4 d5 hr4 hd5 => ?_)
        refine lv_dstore (lv' := [(5, .double r4), (4, .int (nI i)), (2, .double sx), (0, .ref aW), (1, .ref aM)]) hx hb dX3_missedBy_33 hl (by decide) rfl (fun ls hl => ?_)
        refine lv_dload_n hx hb dX3_missedBy_35 rfl (lv_at hl 2 rfl) ?_
        refine lv_dload hx hb dX3_missedBy_36 (lv_at hl 0 rfl) ?_
        refine lv_dload hx hb dX3_missedBy_38 (lv_at hl 0 rfl) ?_
        refine zr_dmul hd5 hx hb (a := zS (sq i) (ws i)) (b := zS (sq i) (ws i)) hr4 hr4 dX3_missedBy_40 (fun r6 d7 hr6 hd7 => ?_)
        refine zr_dadd hd7 hx hb (a := ztot sq ws i) (b := zM (zS (sq i) (ws i)) (zS (sq i) (ws i))) hsx hr6 dX3_missedBy_41 (fun r8 d9 hr8 hd9 => ?_)
        refine lv_dstore_n (lv' := [(2, .double r8), (5, .double r4), (4, .int (nI i)), (0, .ref aW), (1, .ref aM)]) hx hb dX3_missedBy_42 rfl hl (by decide) rfl (fun ls hl => ?_)
        refine lv_iinc (v := nI (i + 1)) (lv' := [(4, .int (nI (i + 1))), (2, .double r8), (5, .double r4), (0, .ref aW), (1, .ref aM)]) hx hb dX3_missedBy_43 hl (k := 2) rfl (show nI i + nI 1 = _ from zi_add (by omega)) (by decide) rfl (fun ls hl => ?_)
        refine lv_goto (tgt := 5) hx hb dX3_missedBy_46 (by decide) ?_
        exact ih_L_5 (i + 1) r8 _ _ _ _ (by omega) (by omega) hr8 hd9 hS (lv_sub hl [0, 1, 3, 4] rfl)
  exact L_5 _ 0 FP.dconst0 _ _ _ _ (Nat.lt_succ_self _) (by omega) rfl hd0 hS hl
theorem in_X0_init_X0 : ∀ w ∈ wsX00, w ∈ wsX0_init := by intro w h; unfold wsX0_init; simp only [List.mem_cons, List.mem_append]; first | exact Or.inr (Or.inr h) | exact Or.inr (Or.inl (Or.inr h)) | exact Or.inr (Or.inl (Or.inl (Or.inr h))) | exact Or.inr (Or.inr (Or.inl h)) | exact Or.inr (Or.inr (Or.inr h))
set_option maxHeartbeats 4000000 in
set_option maxRecDepth 100000 in
/-- Braces() -/
theorem c0_init (l : Launch) (dC : Nat → ClassId) (dI : Nat → Nat → Nat) (pB : Nat) (cD cI cQ : ClassId) (sz : Nat) : Met l yX0_init wsX0_init ({ frames := 1, cells := 4, slots := 48, locals := 12 } : Room) (va_Pc [.ref pB] (fun U => U.heap.size = sz ∧ va_P (dC, dI) vwCl [(pB, .inr (0, [.null, .null, .null, .null, .int 0]))] U.heap ∧ va_K (dC, dI) vwCl [(cD, .double), (cI, .int), (cQ, .array .double)] U ∧ va_D (fun _ => True) [(pB, .inr (0, [.null, .null, .null, .null, .int 0]))])) (va_Qv (fun _ : Unit => True) (fun _ t => ∃ (bP bF bL bH : Nat), va_P (dC, dI) vwCl [(pB, .inr (0, [.ref bP, .ref bF, .ref bL, .ref bH, .int (nI 0)])), (bP, .inl (cI, 12, .inl (fun _ => 0))), (bF, .inl (cI, 12, .inl (fun _ => 0))), (bL, .inl (cI, 12, .inl (fun _ => 0))), (bH, .inl (cD, 12, .inr (.inr (.inr (.inl (fun _ => 0))))))] t.heap ∧ va_K (dC, dI) vwCl [(cD, .double), (cI, .int), (cQ, .array .double)] t ∧ va_D (va_A [(pB, .inr (0, [.null, .null, .null, .null, .int 0]))] sz) [(pB, .inr (0, [.ref bP, .ref bF, .ref bL, .ref bH, .int (nI 0)])), (bP, .inl (cI, 12, .inl (fun _ => 0))), (bF, .inl (cI, 12, .inl (fun _ => 0))), (bL, .inl (cI, 12, .inl (fun _ => 0))), (bH, .inl (cD, 12, .inr (.inr (.inr (.inl (fun _ => 0))))))]) (va_A [(pB, .inr (0, [.null, .null, .null, .null, .int 0]))] sz)) 4 48 (va_A [(pB, .inr (0, [.null, .null, .null, .null, .int 0]))] sz) := by
  refine Met.ofW (cc := cX0_init) (maxL := 1) (ret := none) (by decide) rfl ?_
  intro p e s m args below meth c s₁ B hml hv
  obtain ⟨rfl, hsz, hP, hK, hD0⟩ := hv
  have hx := B.exec
  have hb := B.bytes
  have hr := B.returns
  have hts := atoms_spec (ws := wsX0_init) B.pre
  have hown : s.vm.findClass RX0 = some m.cls := findClass_of_methodNamed B.named
  have hlocks := B.notSynchronized
  have hin : meth.name = "<init>" := (name_of_methodNamed B.named B.method).1
  subst hsz
  have hD := hD0.self (sz := s.heap.size)
  generalize hAe : va_A [(pB, .inr (0, [.null, .null, .null, .null, .int 0]))] s.heap.size = A at hD ⊢
  have hA : ∀ q : Nat, s.heap.size ≤ q → A q := fun q h => by rw [← hAe]; exact Or.inr h
  have hS : va_S A s.heap s.heap [] := va_S.rf
  have hl := lv_entry ([.ref pB]) (n := 1) (Nat.le_of_ble_eq_true rfl)
  rw [lg_entry_eq]
  generalize (lg_sl ([.ref pB]) ++ List.replicate (1 - (lg_sl ([.ref pB])).length) Slot.unset).toArray = ls at hl ⊢
  have hl : lv_has ls 1 [(0, .ref pB)] := hl
  refine lv_aload_n hx hb dX0_init_0 rfl (lv_at hl 0 rfl) ?_
  refine W.objInit hx hb hown (hts (.methodLink RX0 3 objectInit) (by decide +kernel)) (hts (.instanceMethod objectInit) (by decide +kernel)) (hts (.code objectInit ⟨#[0xb1]⟩ 1 none) (by decide +kernel)) rfl (by rw [hml]; exact hl.1) rfl dX0_init_1 (Nat.le_of_ble_eq_true rfl) (Nat.le_of_ble_eq_true rfl) ?_
  refine W.eq (g2 := F0 m 4 ls []) rfl ?_
  refine lv_aload_n hx hb dX0_init_4 rfl (lv_at hl 0 rfl) ?_
  refine lv_bipush (v := (nI 12)) hx hb dX0_init_5 (by decide) ?_
  refine va_newa (atype := .int) (ty := .int) hx hb (hts (.arrayClass .int) (by decide +kernel)) rfl hK hP hD hS hA (N' := 12) (a0 := (12, .inl (fun _ => 0))) (fun _ => rfl) (by decide) (nI_clamp (by decide)) (by decide) (Nat.le_of_ble_eq_true rfl) (Nat.le_of_ble_eq_true rfl) dX0_init_7 (fun q1 cA9 H hK9 hP hD hS => ?_)
  obtain rfl : cI = cA9 := zK_eq (ty := .int) hK9 1 3 rfl rfl
  have hK := hK9.sub (tys' := [(cD, .double), (cI, .int), (cQ, .array .double)]) [0, 1, 2] rfl
  have hP : va_P (dC, dI) vwCl [(pB, .inr (0, [.null, .null, .null, .null, .int 0])), (q1, .inl (cI, 12, .inl (fun _ => 0)))] H := hP
  have hD : va_D A [(pB, .inr (0, [.null, .null, .null, .null, .int 0])), (q1, .inl (cI, 12, .inl (fun _ => 0)))] := hD
  refine va_putF (D := (dC, dI)) (ci := 0) (v := .ref q1) (ty := .array .int) (C := RX0) (T := TX0) (N := 5) hx hb hts (in_X0_init_X0) tyX0 tyX0_ok nmX0 hown hK hP hD hS 0 rfl rfl 0 (by decide) (hts (.fieldLink RX0 9 "PlateModes$Braces" "paces" "[I") (by decide +kernel)) (fun _ h9 => h9) rfl hin rfl (by decide +kernel) rfl rfl (Nat.le_of_ble_eq_true rfl) dX0_init_9 (fun H locs hP hD hS => ?_)
  have hP : va_P (dC, dI) vwCl [(pB, .inr (0, [.ref q1, .null, .null, .null, .int 0])), (q1, .inl (cI, 12, .inl (fun _ => 0)))] H := hP
  have hD : va_D A [(pB, .inr (0, [.ref q1, .null, .null, .null, .int 0])), (q1, .inl (cI, 12, .inl (fun _ => 0)))] := hD
  refine lv_aload_n hx hb dX0_init_12 rfl (lv_at hl 0 rfl) ?_
  refine lv_bipush (v := (nI 12)) hx hb dX0_init_13 (by decide) ?_
  refine va_newa (atype := .int) (ty := .int) hx hb (hts (.arrayClass .int) (by decide +kernel)) rfl hK hP hD hS hA (N' := 12) (a0 := (12, .inl (fun _ => 0))) (fun _ => rfl) (by decide) (nI_clamp (by decide)) (by decide) (Nat.le_of_ble_eq_true rfl) (Nat.le_of_ble_eq_true rfl) dX0_init_15 (fun q2 cA9 H hK9 hP hD hS => ?_)
  obtain rfl : cI = cA9 := zK_eq (ty := .int) hK9 1 3 rfl rfl
  have hK := hK9.sub (tys' := [(cD, .double), (cI, .int), (cQ, .array .double)]) [0, 1, 2] rfl
  have hP : va_P (dC, dI) vwCl [(pB, .inr (0, [.ref q1, .null, .null, .null, .int 0])), (q1, .inl (cI, 12, .inl (fun _ => 0))), (q2, .inl (cI, 12, .inl (fun _ => 0)))] H := hP
  have hD : va_D A [(pB, .inr (0, [.ref q1, .null, .null, .null, .int 0])), (q1, .inl (cI, 12, .inl (fun _ => 0))), (q2, .inl (cI, 12, .inl (fun _ => 0)))] := hD
  refine va_putF (D := (dC, dI)) (ci := 0) (v := .ref q2) (ty := .array .int) (C := RX0) (T := TX0) (N := 5) hx hb hts (in_X0_init_X0) tyX0 tyX0_ok nmX0 hown hK hP hD hS 0 rfl rfl 1 (by decide) (hts (.fieldLink RX0 15 "PlateModes$Braces" "firsts" "[I") (by decide +kernel)) (fun _ h9 => h9) rfl hin rfl (by decide +kernel) rfl rfl (Nat.le_of_ble_eq_true rfl) dX0_init_17 (fun H locs hP hD hS => ?_)
  have hP : va_P (dC, dI) vwCl [(pB, .inr (0, [.ref q1, .ref q2, .null, .null, .int 0])), (q1, .inl (cI, 12, .inl (fun _ => 0))), (q2, .inl (cI, 12, .inl (fun _ => 0)))] H := hP
  have hD : va_D A [(pB, .inr (0, [.ref q1, .ref q2, .null, .null, .int 0])), (q1, .inl (cI, 12, .inl (fun _ => 0))), (q2, .inl (cI, 12, .inl (fun _ => 0)))] := hD
  refine lv_aload_n hx hb dX0_init_20 rfl (lv_at hl 0 rfl) ?_
  refine lv_bipush (v := (nI 12)) hx hb dX0_init_21 (by decide) ?_
  refine va_newa (atype := .int) (ty := .int) hx hb (hts (.arrayClass .int) (by decide +kernel)) rfl hK hP hD hS hA (N' := 12) (a0 := (12, .inl (fun _ => 0))) (fun _ => rfl) (by decide) (nI_clamp (by decide)) (by decide) (Nat.le_of_ble_eq_true rfl) (Nat.le_of_ble_eq_true rfl) dX0_init_23 (fun q3 cA9 H hK9 hP hD hS => ?_)
  obtain rfl : cI = cA9 := zK_eq (ty := .int) hK9 1 3 rfl rfl
  have hK := hK9.sub (tys' := [(cD, .double), (cI, .int), (cQ, .array .double)]) [0, 1, 2] rfl
  have hP : va_P (dC, dI) vwCl [(pB, .inr (0, [.ref q1, .ref q2, .null, .null, .int 0])), (q1, .inl (cI, 12, .inl (fun _ => 0))), (q2, .inl (cI, 12, .inl (fun _ => 0))), (q3, .inl (cI, 12, .inl (fun _ => 0)))] H := hP
  have hD : va_D A [(pB, .inr (0, [.ref q1, .ref q2, .null, .null, .int 0])), (q1, .inl (cI, 12, .inl (fun _ => 0))), (q2, .inl (cI, 12, .inl (fun _ => 0))), (q3, .inl (cI, 12, .inl (fun _ => 0)))] := hD
  refine va_putF (D := (dC, dI)) (ci := 0) (v := .ref q3) (ty := .array .int) (C := RX0) (T := TX0) (N := 5) hx hb hts (in_X0_init_X0) tyX0 tyX0_ok nmX0 hown hK hP hD hS 0 rfl rfl 2 (by decide) (hts (.fieldLink RX0 18 "PlateModes$Braces" "lasts" "[I") (by decide +kernel)) (fun _ h9 => h9) rfl hin rfl (by decide +kernel) rfl rfl (Nat.le_of_ble_eq_true rfl) dX0_init_25 (fun H locs hP hD hS => ?_)
  have hP : va_P (dC, dI) vwCl [(pB, .inr (0, [.ref q1, .ref q2, .ref q3, .null, .int 0])), (q1, .inl (cI, 12, .inl (fun _ => 0))), (q2, .inl (cI, 12, .inl (fun _ => 0))), (q3, .inl (cI, 12, .inl (fun _ => 0)))] H := hP
  have hD : va_D A [(pB, .inr (0, [.ref q1, .ref q2, .ref q3, .null, .int 0])), (q1, .inl (cI, 12, .inl (fun _ => 0))), (q2, .inl (cI, 12, .inl (fun _ => 0))), (q3, .inl (cI, 12, .inl (fun _ => 0)))] := hD
  refine lv_aload_n hx hb dX0_init_28 rfl (lv_at hl 0 rfl) ?_
  refine lv_bipush (v := (nI 12)) hx hb dX0_init_29 (by decide) ?_
  refine va_newa (atype := .double) (ty := .double) hx hb (hts (.arrayClass .double) (by decide +kernel)) rfl hK hP hD hS hA (N' := 12) (a0 := (12, .inr (.inr (.inr (.inl (fun _ => 0)))))) (fun _ => rfl) (by decide) (nI_clamp (by decide)) (by decide) (Nat.le_of_ble_eq_true rfl) (Nat.le_of_ble_eq_true rfl) dX0_init_31 (fun q4 cA9 H hK9 hP hD hS => ?_)
  obtain rfl : cD = cA9 := zK_eq (ty := .double) hK9 0 3 rfl rfl
  have hK := hK9.sub (tys' := [(cD, .double), (cI, .int), (cQ, .array .double)]) [0, 1, 2] rfl
  have hP : va_P (dC, dI) vwCl [(pB, .inr (0, [.ref q1, .ref q2, .ref q3, .null, .int 0])), (q1, .inl (cI, 12, .inl (fun _ => 0))), (q2, .inl (cI, 12, .inl (fun _ => 0))), (q3, .inl (cI, 12, .inl (fun _ => 0))), (q4, .inl (cD, 12, .inr (.inr (.inr (.inl (fun _ => 0))))))] H := hP
  have hD : va_D A [(pB, .inr (0, [.ref q1, .ref q2, .ref q3, .null, .int 0])), (q1, .inl (cI, 12, .inl (fun _ => 0))), (q2, .inl (cI, 12, .inl (fun _ => 0))), (q3, .inl (cI, 12, .inl (fun _ => 0))), (q4, .inl (cD, 12, .inr (.inr (.inr (.inl (fun _ => 0))))))] := hD
  refine va_putF (D := (dC, dI)) (ci := 0) (v := .ref q4) (ty := .array .double) (C := RX0) (T := TX0) (N := 5) hx hb hts (in_X0_init_X0) tyX0 tyX0_ok nmX0 hown hK hP hD hS 0 rfl rfl 3 (by decide) (hts (.fieldLink RX0 21 "PlateModes$Braces" "heights" "[D") (by decide +kernel)) (fun _ h9 => h9) rfl hin rfl (by decide +kernel) rfl rfl (Nat.le_of_ble_eq_true rfl) dX0_init_33 (fun H locs hP hD hS => ?_)
  have hP : va_P (dC, dI) vwCl [(pB, .inr (0, [.ref q1, .ref q2, .ref q3, .ref q4, .int 0])), (q1, .inl (cI, 12, .inl (fun _ => 0))), (q2, .inl (cI, 12, .inl (fun _ => 0))), (q3, .inl (cI, 12, .inl (fun _ => 0))), (q4, .inl (cD, 12, .inr (.inr (.inr (.inl (fun _ => 0))))))] H := hP
  have hD : va_D A [(pB, .inr (0, [.ref q1, .ref q2, .ref q3, .ref q4, .int 0])), (q1, .inl (cI, 12, .inl (fun _ => 0))), (q2, .inl (cI, 12, .inl (fun _ => 0))), (q3, .inl (cI, 12, .inl (fun _ => 0))), (q4, .inl (cD, 12, .inr (.inr (.inr (.inl (fun _ => 0))))))] := hD
  exact W.vret hx hb hr (fun t ht hW => ⟨⟨(), rfl, trivial, q1, q2, q3, q4, by rw [ht]; exact hP, va_K.moved hW.alike hK, hD⟩, hS.F ht⟩) hS.2.2 dX0_init_36
theorem in_X3_init_X3 : ∀ w ∈ wsX30, w ∈ wsX3_init := by intro w h; unfold wsX3_init; simp only [List.mem_cons, List.mem_append]; first | exact Or.inr (Or.inr h) | exact Or.inr (Or.inl (Or.inr h)) | exact Or.inr (Or.inl (Or.inl (Or.inr h))) | exact Or.inr (Or.inr (Or.inl h)) | exact Or.inr (Or.inr (Or.inr h))
set_option maxHeartbeats 4000000 in
set_option maxRecDepth 100000 in
/-- Wishes() -/
theorem c3_init (l : Launch) (dC : Nat → ClassId) (dI : Nat → Nat → Nat) (aW : Nat) (cD cI cQ : ClassId) (sz : Nat) : Met l yX3_init wsX3_init ({ frames := 1, cells := 2, slots := 8, locals := 12 } : Room) (va_Pc [.ref aW] (fun U => U.heap.size = sz ∧ va_P (dC, dI) vwCl [(aW, .inr (3, [.null, .null, .int 0]))] U.heap ∧ va_K (dC, dI) vwCl [(cD, .double), (cI, .int), (cQ, .array .double)] U ∧ va_D (fun _ => True) [(aW, .inr (3, [.null, .null, .int 0]))])) (va_Qv (fun _ : Unit => True) (fun _ t => ∃ (pW pX : Nat), va_P (dC, dI) vwCl [(aW, .inr (3, [.ref pW, .ref pX, .int (nI 0)])), (pW, .inl (cI, 4, .inl (fun _ => 0))), (pX, .inl (cD, 4, .inr (.inr (.inr (.inl (fun _ => 0))))))] t.heap ∧ va_K (dC, dI) vwCl [(cD, .double), (cI, .int), (cQ, .array .double)] t ∧ va_D (va_A [(aW, .inr (3, [.null, .null, .int 0]))] sz) [(aW, .inr (3, [.ref pW, .ref pX, .int (nI 0)])), (pW, .inl (cI, 4, .inl (fun _ => 0))), (pX, .inl (cD, 4, .inr (.inr (.inr (.inl (fun _ => 0))))))]) (va_A [(aW, .inr (3, [.null, .null, .int 0]))] sz)) 2 8 (va_A [(aW, .inr (3, [.null, .null, .int 0]))] sz) := by
  refine Met.ofW (cc := cX3_init) (maxL := 1) (ret := none) (by decide) rfl ?_
  intro p e s m args below meth c s₁ B hml hv
  obtain ⟨rfl, hsz, hP, hK, hD0⟩ := hv
  have hx := B.exec
  have hb := B.bytes
  have hr := B.returns
  have hts := atoms_spec (ws := wsX3_init) B.pre
  have hown : s.vm.findClass RX3 = some m.cls := findClass_of_methodNamed B.named
  have hlocks := B.notSynchronized
  have hin : meth.name = "<init>" := (name_of_methodNamed B.named B.method).1
  subst hsz
  have hD := hD0.self (sz := s.heap.size)
  generalize hAe : va_A [(aW, .inr (3, [.null, .null, .int 0]))] s.heap.size = A at hD ⊢
  have hA : ∀ q : Nat, s.heap.size ≤ q → A q := fun q h => by rw [← hAe]; exact Or.inr h
  have hS : va_S A s.heap s.heap [] := va_S.rf
  have hl := lv_entry ([.ref aW]) (n := 1) (Nat.le_of_ble_eq_true rfl)
  rw [lg_entry_eq]
  generalize (lg_sl ([.ref aW]) ++ List.replicate (1 - (lg_sl ([.ref aW])).length) Slot.unset).toArray = ls at hl ⊢
  have hl : lv_has ls 1 [(0, .ref aW)] := hl
  refine lv_aload_n hx hb dX3_init_0 rfl (lv_at hl 0 rfl) ?_
  refine W.objInit hx hb hown (hts (.methodLink RX3 3 objectInit) (by decide +kernel)) (hts (.instanceMethod objectInit) (by decide +kernel)) (hts (.code objectInit ⟨#[0xb1]⟩ 1 none) (by decide +kernel)) rfl (by rw [hml]; exact hl.1) rfl dX3_init_1 (Nat.le_of_ble_eq_true rfl) (Nat.le_of_ble_eq_true rfl) ?_
  refine W.eq (g2 := F0 m 4 ls []) rfl ?_
  refine lv_aload_n hx hb dX3_init_4 rfl (lv_at hl 0 rfl) ?_
  refine lv_iconst (v := (nI 4)) hx hb dX3_init_5 (by decide) ?_
  refine va_newa (atype := .int) (ty := .int) hx hb (hts (.arrayClass .int) (by decide +kernel)) rfl hK hP hD hS hA (N' := 4) (a0 := (4, .inl (fun _ => 0))) (fun _ => rfl) (by decide) (nI_clamp (by decide)) (by decide) (Nat.le_of_ble_eq_true rfl) (Nat.le_of_ble_eq_true rfl) dX3_init_6 (fun q1 cA9 H hK9 hP hD hS => ?_)
  obtain rfl : cI = cA9 := zK_eq (ty := .int) hK9 1 3 rfl rfl
  have hK := hK9.sub (tys' := [(cD, .double), (cI, .int), (cQ, .array .double)]) [0, 1, 2] rfl
  have hP : va_P (dC, dI) vwCl [(aW, .inr (3, [.null, .null, .int 0])), (q1, .inl (cI, 4, .inl (fun _ => 0)))] H := hP
  have hD : va_D A [(aW, .inr (3, [.null, .null, .int 0])), (q1, .inl (cI, 4, .inl (fun _ => 0)))] := hD
  refine va_putF (D := (dC, dI)) (ci := 3) (v := .ref q1) (ty := .array .int) (C := RX3) (T := TX3) (N := 3) hx hb hts (in_X3_init_X3) tyX3 tyX3_ok nmX3 hown hK hP hD hS 0 rfl rfl 0 (by decide) (hts (.fieldLink RX3 9 "PlateModes$Wishes" "wanted" "[I") (by decide +kernel)) (fun _ h9 => h9) rfl hin rfl (by decide +kernel) rfl rfl (Nat.le_of_ble_eq_true rfl) dX3_init_8 (fun H locs hP hD hS => ?_)
  have hP : va_P (dC, dI) vwCl [(aW, .inr (3, [.ref q1, .null, .int 0])), (q1, .inl (cI, 4, .inl (fun _ => 0)))] H := hP
  have hD : va_D A [(aW, .inr (3, [.ref q1, .null, .int 0])), (q1, .inl (cI, 4, .inl (fun _ => 0)))] := hD
  refine lv_aload_n hx hb dX3_init_11 rfl (lv_at hl 0 rfl) ?_
  refine lv_iconst (v := (nI 4)) hx hb dX3_init_12 (by decide) ?_
  refine va_newa (atype := .double) (ty := .double) hx hb (hts (.arrayClass .double) (by decide +kernel)) rfl hK hP hD hS hA (N' := 4) (a0 := (4, .inr (.inr (.inr (.inl (fun _ => 0)))))) (fun _ => rfl) (by decide) (nI_clamp (by decide)) (by decide) (Nat.le_of_ble_eq_true rfl) (Nat.le_of_ble_eq_true rfl) dX3_init_13 (fun q2 cA9 H hK9 hP hD hS => ?_)
  obtain rfl : cD = cA9 := zK_eq (ty := .double) hK9 0 3 rfl rfl
  have hK := hK9.sub (tys' := [(cD, .double), (cI, .int), (cQ, .array .double)]) [0, 1, 2] rfl
  have hP : va_P (dC, dI) vwCl [(aW, .inr (3, [.ref q1, .null, .int 0])), (q1, .inl (cI, 4, .inl (fun _ => 0))), (q2, .inl (cD, 4, .inr (.inr (.inr (.inl (fun _ => 0))))))] H := hP
  have hD : va_D A [(aW, .inr (3, [.ref q1, .null, .int 0])), (q1, .inl (cI, 4, .inl (fun _ => 0))), (q2, .inl (cD, 4, .inr (.inr (.inr (.inl (fun _ => 0))))))] := hD
  refine va_putF (D := (dC, dI)) (ci := 3) (v := .ref q2) (ty := .array .double) (C := RX3) (T := TX3) (N := 3) hx hb hts (in_X3_init_X3) tyX3 tyX3_ok nmX3 hown hK hP hD hS 0 rfl rfl 1 (by decide) (hts (.fieldLink RX3 15 "PlateModes$Wishes" "wishedSquares" "[D") (by decide +kernel)) (fun _ h9 => h9) rfl hin rfl (by decide +kernel) rfl rfl (Nat.le_of_ble_eq_true rfl) dX3_init_15 (fun H locs hP hD hS => ?_)
  have hP : va_P (dC, dI) vwCl [(aW, .inr (3, [.ref q1, .ref q2, .int 0])), (q1, .inl (cI, 4, .inl (fun _ => 0))), (q2, .inl (cD, 4, .inr (.inr (.inr (.inl (fun _ => 0))))))] H := hP
  have hD : va_D A [(aW, .inr (3, [.ref q1, .ref q2, .int 0])), (q1, .inl (cI, 4, .inl (fun _ => 0))), (q2, .inl (cD, 4, .inr (.inr (.inr (.inl (fun _ => 0))))))] := hD
  exact W.vret hx hb hr (fun t ht hW => ⟨⟨(), rfl, trivial, q1, q2, by rw [ht]; exact hP, va_K.moved hW.alike hK, hD⟩, hS.F ht⟩) hS.2.2 dX3_init_18
theorem in_X2_init_X2 : ∀ w ∈ wsX20, w ∈ wsX2_init := by intro w h; unfold wsX2_init; simp only [List.mem_cons, List.mem_append]; first | exact Or.inr (Or.inr h) | exact Or.inr (Or.inl (Or.inr h)) | exact Or.inr (Or.inl (Or.inl (Or.inr h))) | exact Or.inr (Or.inr (Or.inl h)) | exact Or.inr (Or.inr (Or.inr h))
theorem in_X2_init_X0 : ∀ w ∈ wsX00, w ∈ wsX2_init := by intro w h; unfold wsX2_init; simp only [List.mem_cons, List.mem_append]; first | exact Or.inr (Or.inr h) | exact Or.inr (Or.inl (Or.inr h)) | exact Or.inr (Or.inl (Or.inl (Or.inr h))) | exact Or.inr (Or.inr (Or.inl h)) | exact Or.inr (Or.inr (Or.inr h))
set_option maxHeartbeats 4000000 in
set_option maxRecDepth 100000 in
/-- Plate(width, height) -/
theorem c2_init (l : Launch) (dC : Nat → ClassId) (dI : Nat → Nat → Nat) (aP : Nat) (cD cI cQ : ClassId) (iw ih : Nat) (hw6 : iw ≤ 6) (hh6 : ih ≤ 6) (sz : Nat) : Met l yX2_init wsX2_init ({ frames := 2, cells := 8, slots := 161, locals := 32 } : Room) (va_Pc [.ref aP, .int (nI iw), .int (nI ih)] (fun U => U.heap.size = sz ∧ va_P (dC, dI) vwCl [(aP, .inr (2, [.int 0, .int 0, .null, .null, .null, .null, .double 0, .double 0, .double 0]))] U.heap ∧ va_K (dC, dI) vwCl [(cD, .double), (cI, .int), (cQ, .array .double)] U ∧ va_D (fun _ => True) [(aP, .inr (2, [.int 0, .int 0, .null, .null, .null, .null, .double 0, .double 0, .double 0]))])) (va_Qv (fun _ : Unit => True) (fun _ t => ∃ (pT pR pN pB bP bF bL bH : Nat) (tT : Nat → UInt64), zcr tT (iw * ih) (fun _ => z1) ∧ va_P (dC, dI) vwCl [(aP, .inr (2, [.int (nI iw), .int (nI ih), .ref pT, .ref pR, .ref pN, .ref pB, .double FP.dconst1, .double FP.dconst1, .double FP.dconst1])), (pT, .inl (cD, (iw * ih), .inr (.inr (.inr (.inl tT))))), (pR, .inl (cD, (iw * ih), .inr (.inr (.inr (.inl (fun _ => 0)))))), (pN, .inl (cD, (iw * ih), .inr (.inr (.inr (.inl (fun _ => 0)))))), (pB, .inr (0, [.ref bP, .ref bF, .ref bL, .ref bH, .int (nI 0)])), (bP, .inl (cI, 12, .inl (fun _ => 0))), (bF, .inl (cI, 12, .inl (fun _ => 0))), (bL, .inl (cI, 12, .inl (fun _ => 0))), (bH, .inl (cD, 12, .inr (.inr (.inr (.inl (fun _ => 0))))))] t.heap ∧ va_K (dC, dI) vwCl [(cD, .double), (cI, .int), (cQ, .array .double)] t ∧ va_D (va_A [(aP, .inr (2, [.int 0, .int 0, .null, .null, .null, .null, .double 0, .double 0, .double 0]))] sz) [(aP, .inr (2, [.int (nI iw), .int (nI ih), .ref pT, .ref pR, .ref pN, .ref pB, .double FP.dconst1, .double FP.dconst1, .double FP.dconst1])), (pT, .inl (cD, (iw * ih), .inr (.inr (.inr (.inl tT))))), (pR, .inl (cD, (iw * ih), .inr (.inr (.inr (.inl (fun _ => 0)))))), (pN, .inl (cD, (iw * ih), .inr (.inr (.inr (.inl (fun _ => 0)))))), (pB, .inr (0, [.ref bP, .ref bF, .ref bL, .ref bH, .int (nI 0)])), (bP, .inl (cI, 12, .inl (fun _ => 0))), (bF, .inl (cI, 12, .inl (fun _ => 0))), (bL, .inl (cI, 12, .inl (fun _ => 0))), (bH, .inl (cD, 12, .inr (.inr (.inr (.inl (fun _ => 0))))))]) (va_A [(aP, .inr (2, [.int 0, .int 0, .null, .null, .null, .null, .double 0, .double 0, .double 0]))] sz)) 8 161 (va_A [(aP, .inr (2, [.int 0, .int 0, .null, .null, .null, .null, .double 0, .double 0, .double 0]))] sz) := by
  refine Met.ofW (cc := cX2_init) (maxL := 4) (ret := none) (by decide) rfl ?_
  intro p e s m args below meth c s₁ B hml hv
  obtain ⟨rfl, hsz, hP, hK, hD0⟩ := hv
  have hx := B.exec
  have hb := B.bytes
  have hr := B.returns
  have hts := atoms_spec (ws := wsX2_init) B.pre
  have hown : s.vm.findClass RX2 = some m.cls := findClass_of_methodNamed B.named
  have hlocks := B.notSynchronized
  have hin : meth.name = "<init>" := (name_of_methodNamed B.named B.method).1
  subst hsz
  have hD := hD0.self (sz := s.heap.size)
  generalize hAe : va_A [(aP, .inr (2, [.int 0, .int 0, .null, .null, .null, .null, .double 0, .double 0, .double 0]))] s.heap.size = A at hD ⊢
  have hA : ∀ q : Nat, s.heap.size ≤ q → A q := fun q h => by rw [← hAe]; exact Or.inr h
  have hS : va_S A s.heap s.heap [] := va_S.rf
  have hl := lv_entry ([.ref aP, .int (nI iw), .int (nI ih)]) (n := 4) (Nat.le_of_ble_eq_true rfl)
  rw [lg_entry_eq]
  generalize (lg_sl ([.ref aP, .int (nI iw), .int (nI ih)]) ++ List.replicate (4 - (lg_sl ([.ref aP, .int (nI iw), .int (nI ih)])).length) Slot.unset).toArray = ls at hl ⊢
  have hl : lv_has ls 4 [(0, .ref aP), (1, .int (nI iw)), (2, .int (nI ih))] := hl
  have hn36 : iw * ih ≤ 36 := Nat.mul_le_mul hw6 hh6
  refine lv_aload_n hx hb dX2_init_0 rfl (lv_at hl 0 rfl) ?_
  refine W.objInit hx hb hown (hts (.methodLink RX2 3 objectInit) (by decide +kernel)) (hts (.instanceMethod objectInit) (by decide +kernel)) (hts (.code objectInit ⟨#[0xb1]⟩ 1 none) (by decide +kernel)) rfl (by rw [hml]; exact hl.1) rfl dX2_init_1 (Nat.le_of_ble_eq_true rfl) (Nat.le_of_ble_eq_true rfl) ?_
  refine W.eq (g2 := F0 m 4 ls []) rfl ?_
  refine lv_aload_n hx hb dX2_init_4 rfl (lv_at hl 0 rfl) ?_
  refine lv_iload_n hx hb dX2_init_5 rfl (lv_at hl 1 rfl) ?_
  refine va_putF (D := (dC, dI)) (ci := 2) (v := .int (nI iw)) (ty := .int) (C := RX2) (T := TX2) (N := 9) hx hb hts (in_X2_init_X2) tyX2 tyX2_ok nmX2 hown hK hP hD hS 0 rfl rfl 0 (by decide) (hts (.fieldLink RX2 9 "PlateModes$Plate" "width" "I") (by decide +kernel)) (fun _ h9 => h9) rfl hin rfl (by decide +kernel) rfl rfl (Nat.le_of_ble_eq_true rfl) dX2_init_6 (fun H locs hP hD hS => ?_)
  have hP : va_P (dC, dI) vwCl [(aP, .inr (2, [.int (nI iw), .int 0, .null, .null, .null, .null, .double 0, .double 0, .double 0]))] H := hP
  have hD : va_D A [(aP, .inr (2, [.int (nI iw), .int 0, .null, .null, .null, .null, .double 0, .double 0, .double 0]))] := hD
  refine lv_aload_n hx hb dX2_init_9 rfl (lv_at hl 0 rfl) ?_
  refine lv_iload_n hx hb dX2_init_10 rfl (lv_at hl 2 rfl) ?_
  refine va_putF (D := (dC, dI)) (ci := 2) (v := .int (nI ih)) (ty := .int) (C := RX2) (T := TX2) (N := 9) hx hb hts (in_X2_init_X2) tyX2 tyX2_ok nmX2 hown hK hP hD hS 0 rfl rfl 1 (by decide) (hts (.fieldLink RX2 15 "PlateModes$Plate" "height" "I") (by decide +kernel)) (fun _ h9 => h9) rfl hin rfl (by decide +kernel) rfl rfl (Nat.le_of_ble_eq_true rfl) dX2_init_11 (fun H locs hP hD hS => ?_)
  have hP : va_P (dC, dI) vwCl [(aP, .inr (2, [.int (nI iw), .int (nI ih), .null, .null, .null, .null, .double 0, .double 0, .double 0]))] H := hP
  have hD : va_D A [(aP, .inr (2, [.int (nI iw), .int (nI ih), .null, .null, .null, .null, .double 0, .double 0, .double 0]))] := hD
  refine lv_aload_n hx hb dX2_init_14 rfl (lv_at hl 0 rfl) ?_
  refine lv_iload_n hx hb dX2_init_15 rfl (lv_at hl 1 rfl) ?_
  refine lv_iload_n hx hb dX2_init_16 rfl (lv_at hl 2 rfl) ?_
  refine t_imul hx hb dX2_init_17 (v := nI (iw * ih)) (zi_mul rfl) ?_
  refine va_newa (atype := .double) (ty := .double) hx hb (hts (.arrayClass .double) (by decide +kernel)) rfl hK hP hD hS hA (N' := iw * ih) (a0 := (iw * ih, .inr (.inr (.inr (.inl (fun _ => 0)))))) (fun _ => rfl) (nI_pos (by omega)) (nI_clamp (by omega)) (by show iw * ih * 8 ≤ 536870912; omega) (Nat.le_of_ble_eq_true rfl) (Nat.le_trans (m := 0 + 36) (by omega) (Nat.le_of_ble_eq_true rfl)) dX2_init_18 (fun q1 cA9 H hK9 hP hD hS => ?_)
  obtain rfl : cD = cA9 := zK_eq (ty := .double) hK9 0 3 rfl rfl
  have hK := hK9.sub (tys' := [(cD, .double), (cI, .int), (cQ, .array .double)]) [0, 1, 2] rfl
  have hP : va_P (dC, dI) vwCl [(aP, .inr (2, [.int (nI iw), .int (nI ih), .null, .null, .null, .null, .double 0, .double 0, .double 0])), (q1, .inl (cD, iw * ih, .inr (.inr (.inr (.inl (fun _ => 0))))))] H := hP
  have hD : va_D A [(aP, .inr (2, [.int (nI iw), .int (nI ih), .null, .null, .null, .null, .double 0, .double 0, .double 0])), (q1, .inl (cD, iw * ih, .inr (.inr (.inr (.inl (fun _ => 0))))))] := hD
  refine W.widen (k := 1) (n := 36) (Nat.le_of_ble_eq_true rfl) (by show 0 + iw * ih ≤ 0 + 36; omega) ?_
  refine va_putF (D := (dC, dI)) (ci := 2) (v := .ref q1) (ty := .array .double) (C := RX2) (T := TX2) (N := 9) hx hb hts (in_X2_init_X2) tyX2 tyX2_ok nmX2 hown hK hP hD hS 0 rfl rfl 2 (by decide) (hts (.fieldLink RX2 18 "PlateModes$Plate" "thick" "[D") (by decide +kernel)) (fun _ h9 => h9) rfl hin rfl (by decide +kernel) rfl rfl (Nat.le_of_ble_eq_true rfl) dX2_init_20 (fun H locs hP hD hS => ?_)
  have hP : va_P (dC, dI) vwCl [(aP, .inr (2, [.int (nI iw), .int (nI ih), .ref q1, .null, .null, .null, .double 0, .double 0, .double 0])), (q1, .inl (cD, iw * ih, .inr (.inr (.inr (.inl (fun _ => 0))))))] H := hP
  have hD : va_D A [(aP, .inr (2, [.int (nI iw), .int (nI ih), .ref q1, .null, .null, .null, .double 0, .double 0, .double 0])), (q1, .inl (cD, iw * ih, .inr (.inr (.inr (.inl (fun _ => 0))))))] := hD
  refine lv_aload_n hx hb dX2_init_23 rfl (lv_at hl 0 rfl) ?_
  refine lv_iload_n hx hb dX2_init_24 rfl (lv_at hl 1 rfl) ?_
  refine lv_iload_n hx hb dX2_init_25 rfl (lv_at hl 2 rfl) ?_
  refine t_imul hx hb dX2_init_26 (v := nI (iw * ih)) (zi_mul rfl) ?_
  refine va_newa (atype := .double) (ty := .double) hx hb (hts (.arrayClass .double) (by decide +kernel)) rfl hK hP hD hS hA (N' := iw * ih) (a0 := (iw * ih, .inr (.inr (.inr (.inl (fun _ => 0)))))) (fun _ => rfl) (nI_pos (by omega)) (nI_clamp (by omega)) (by show iw * ih * 8 ≤ 536870912; omega) (Nat.le_of_ble_eq_true rfl) (Nat.le_trans (m := 36 + 36) (by omega) (Nat.le_of_ble_eq_true rfl)) dX2_init_27 (fun q2 cA9 H hK9 hP hD hS => ?_)
  obtain rfl : cD = cA9 := zK_eq (ty := .double) hK9 0 3 rfl rfl
  have hK := hK9.sub (tys' := [(cD, .double), (cI, .int), (cQ, .array .double)]) [0, 1, 2] rfl
  have hP : va_P (dC, dI) vwCl [(aP, .inr (2, [.int (nI iw), .int (nI ih), .ref q1, .null, .null, .null, .double 0, .double 0, .double 0])), (q1, .inl (cD, iw * ih, .inr (.inr (.inr (.inl (fun _ => 0)))))), (q2, .inl (cD, iw * ih, .inr (.inr (.inr (.inl (fun _ => 0))))))] H := hP
  have hD : va_D A [(aP, .inr (2, [.int (nI iw), .int (nI ih), .ref q1, .null, .null, .null, .double 0, .double 0, .double 0])), (q1, .inl (cD, iw * ih, .inr (.inr (.inr (.inl (fun _ => 0)))))), (q2, .inl (cD, iw * ih, .inr (.inr (.inr (.inl (fun _ => 0))))))] := hD
  refine W.widen (k := 2) (n := 72) (Nat.le_of_ble_eq_true rfl) (by show 36 + iw * ih ≤ 36 + 36; omega) ?_
  refine va_putF (D := (dC, dI)) (ci := 2) (v := .ref q2) (ty := .array .double) (C := RX2) (T := TX2) (N := 9) hx hb hts (in_X2_init_X2) tyX2 tyX2_ok nmX2 hown hK hP hD hS 0 rfl rfl 3 (by decide) (hts (.fieldLink RX2 22 "PlateModes$Plate" "toRight" "[D") (by decide +kernel)) (fun _ h9 => h9) rfl hin rfl (by decide +kernel) rfl rfl (Nat.le_of_ble_eq_true rfl) dX2_init_29 (fun H locs hP hD hS => ?_)
  have hP : va_P (dC, dI) vwCl [(aP, .inr (2, [.int (nI iw), .int (nI ih), .ref q1, .ref q2, .null, .null, .double 0, .double 0, .double 0])), (q1, .inl (cD, iw * ih, .inr (.inr (.inr (.inl (fun _ => 0)))))), (q2, .inl (cD, iw * ih, .inr (.inr (.inr (.inl (fun _ => 0))))))] H := hP
  have hD : va_D A [(aP, .inr (2, [.int (nI iw), .int (nI ih), .ref q1, .ref q2, .null, .null, .double 0, .double 0, .double 0])), (q1, .inl (cD, iw * ih, .inr (.inr (.inr (.inl (fun _ => 0)))))), (q2, .inl (cD, iw * ih, .inr (.inr (.inr (.inl (fun _ => 0))))))] := hD
  refine lv_aload_n hx hb dX2_init_32 rfl (lv_at hl 0 rfl) ?_
  refine lv_iload_n hx hb dX2_init_33 rfl (lv_at hl 1 rfl) ?_
  refine lv_iload_n hx hb dX2_init_34 rfl (lv_at hl 2 rfl) ?_
  refine t_imul hx hb dX2_init_35 (v := nI (iw * ih)) (zi_mul rfl) ?_
  refine va_newa (atype := .double) (ty := .double) hx hb (hts (.arrayClass .double) (by decide +kernel)) rfl hK hP hD hS hA (N' := iw * ih) (a0 := (iw * ih, .inr (.inr (.inr (.inl (fun _ => 0)))))) (fun _ => rfl) (nI_pos (by omega)) (nI_clamp (by omega)) (by show iw * ih * 8 ≤ 536870912; omega) (Nat.le_of_ble_eq_true rfl) (Nat.le_trans (m := 72 + 36) (by omega) (Nat.le_of_ble_eq_true rfl)) dX2_init_36 (fun q3 cA9 H hK9 hP hD hS => ?_)
  obtain rfl : cD = cA9 := zK_eq (ty := .double) hK9 0 3 rfl rfl
  have hK := hK9.sub (tys' := [(cD, .double), (cI, .int), (cQ, .array .double)]) [0, 1, 2] rfl
  have hP : va_P (dC, dI) vwCl [(aP, .inr (2, [.int (nI iw), .int (nI ih), .ref q1, .ref q2, .null, .null, .double 0, .double 0, .double 0])), (q1, .inl (cD, iw * ih, .inr (.inr (.inr (.inl (fun _ => 0)))))), (q2, .inl (cD, iw * ih, .inr (.inr (.inr (.inl (fun _ => 0)))))), (q3, .inl (cD, iw * ih, .inr (.inr (.inr (.inl (fun _ => 0))))))] H := hP
  have hD : va_D A [(aP, .inr (2, [.int (nI iw), .int (nI ih), .ref q1, .ref q2, .null, .null, .double 0, .double 0, .double 0])), (q1, .inl (cD, iw * ih, .inr (.inr (.inr (.inl (fun _ => 0)))))), (q2, .inl (cD, iw * ih, .inr (.inr (.inr (.inl (fun _ => 0)))))), (q3, .inl (cD, iw * ih, .inr (.inr (.inr (.inl (fun _ => 0))))))] := hD
  refine W.widen (k := 3) (n := 108) (Nat.le_of_ble_eq_true rfl) (by show 72 + iw * ih ≤ 72 + 36; omega) ?_
  refine va_putF (D := (dC, dI)) (ci := 2) (v := .ref q3) (ty := .array .double) (C := RX2) (T := TX2) (N := 9) hx hb hts (in_X2_init_X2) tyX2 tyX2_ok nmX2 hown hK hP hD hS 0 rfl rfl 4 (by decide) (hts (.fieldLink RX2 25 "PlateModes$Plate" "toBelow" "[D") (by decide +kernel)) (fun _ h9 => h9) rfl hin rfl (by decide +kernel) rfl rfl (Nat.le_of_ble_eq_true rfl) dX2_init_38 (fun H locs hP hD hS => ?_)
  have hP : va_P (dC, dI) vwCl [(aP, .inr (2, [.int (nI iw), .int (nI ih), .ref q1, .ref q2, .ref q3, .null, .double 0, .double 0, .double 0])), (q1, .inl (cD, iw * ih, .inr (.inr (.inr (.inl (fun _ => 0)))))), (q2, .inl (cD, iw * ih, .inr (.inr (.inr (.inl (fun _ => 0)))))), (q3, .inl (cD, iw * ih, .inr (.inr (.inr (.inl (fun _ => 0))))))] H := hP
  have hD : va_D A [(aP, .inr (2, [.int (nI iw), .int (nI ih), .ref q1, .ref q2, .ref q3, .null, .double 0, .double 0, .double 0])), (q1, .inl (cD, iw * ih, .inr (.inr (.inr (.inl (fun _ => 0)))))), (q2, .inl (cD, iw * ih, .inr (.inr (.inr (.inl (fun _ => 0)))))), (q3, .inl (cD, iw * ih, .inr (.inr (.inr (.inl (fun _ => 0))))))] := hD
  refine lv_aload_n hx hb dX2_init_41 rfl (lv_at hl 0 rfl) ?_
  refine va_new (ci := 0) (fs := [.null, .null, .null, .null, .int 0]) (C := RX0) (T := TX0) (N := 5) hx hb hts (in_X2_init_X0) tyX0 tyX0_ok hown (hts (.classLink RX2 28 RX0) (by decide +kernel)) (hts (.instantiable RX0 5) (by decide +kernel)) (hts (.initialized RX0) (by decide +kernel)) hK hP hD hS hA rfl (fun j hj => by rcases (show j = 0 ∨ j = 1 ∨ j = 2 ∨ j = 3 ∨ j = 4 by omega) with rfl | rfl | rfl | rfl | rfl <;> rfl) (Nat.le_of_ble_eq_true rfl) (Nat.le_of_ble_eq_true rfl) dX2_init_42 (fun q4 H hP hD hS => ?_)
  have hP : va_P (dC, dI) vwCl [(aP, .inr (2, [.int (nI iw), .int (nI ih), .ref q1, .ref q2, .ref q3, .null, .double 0, .double 0, .double 0])), (q1, .inl (cD, iw * ih, .inr (.inr (.inr (.inl (fun _ => 0)))))), (q2, .inl (cD, iw * ih, .inr (.inr (.inr (.inl (fun _ => 0)))))), (q3, .inl (cD, iw * ih, .inr (.inr (.inr (.inl (fun _ => 0)))))), (q4, .inr (0, [.null, .null, .null, .null, .int 0]))] H := hP
  have hD : va_D A [(aP, .inr (2, [.int (nI iw), .int (nI ih), .ref q1, .ref q2, .ref q3, .null, .double 0, .double 0, .double 0])), (q1, .inl (cD, iw * ih, .inr (.inr (.inr (.inl (fun _ => 0)))))), (q2, .inl (cD, iw * ih, .inr (.inr (.inr (.inl (fun _ => 0)))))), (q3, .inl (cD, iw * ih, .inr (.inr (.inr (.inl (fun _ => 0)))))), (q4, .inr (0, [.null, .null, .null, .null, .int 0]))] := hD
  refine lv_dup hx hb dX2_init_45 rfl ?_
  have hPc := hP.sub (ws' := [(q4, .inr (0, [.null, .null, .null, .null, .int 0]))]) [4] rfl
  have hDc := hD.sub (ws' := [(q4, .inr (0, [.null, .null, .null, .null, .int 0]))]) [4] (by decide) rfl
  have hFc := va_free (wc := [(q4, .inr (0, [.null, .null, .null, .null, .int 0]))]) hD hS hA [4] rfl
  refine va_callv (va_runI (As := []) (rest := [.ref q4, .ref aP]) ⟨hx, hb, hml, hown, hts⟩ (c0_init l dC dI q4 cD cI cQ _) (cwI 0 hts gX2_init_X0_init rfl rfl rfl (hts (.initialized RX0) (by decide +kernel)) (hts (.methodLink RX2 30 yX0_init) (by decide +kernel)) (hts (.instanceMethod yX0_init) (by decide +kernel)) rfl (by decide +kernel) ⟨Nat.le_of_ble_eq_true rfl, Nat.le_of_ble_eq_true rfl⟩) ⟨zfbw, zprew hPc hK hDc⟩ rfl rfl hl.1 rfl (lv_room (Nat.le_of_ble_eq_true rfl)) dX2_init_46 ⟨(Nat.le_of_ble_eq_true rfl), (Nat.le_of_ble_eq_true rfl)⟩) hS (fun q _ h => hFc q h) hFc (fun u6 t9 H1 locs ht9 hvm9 hr5 hB9 hz9 hk1 hS => ?_)
  obtain ⟨bP, bF, bL, bH, hP1, hK1, hD1⟩ := hB9
  rw [ht9] at hP1
  obtain ⟨hP, hD⟩ := va_join (wr := [(aP, .inr (2, [.int (nI iw), .int (nI ih), .ref q1, .ref q2, .ref q3, .null, .double 0, .double 0, .double 0])), (q1, .inl (cD, iw * ih, .inr (.inr (.inr (.inl (fun _ => 0)))))), (q2, .inl (cD, iw * ih, .inr (.inr (.inr (.inl (fun _ => 0)))))), (q3, .inl (cD, iw * ih, .inr (.inr (.inr (.inl (fun _ => 0))))))]) (w1 := [(q4, .inr (0, [.ref bP, .ref bF, .ref bL, .ref bH, .int (nI 0)])), (bP, .inl (cI, 12, .inl (fun _ => 0))), (bF, .inl (cI, 12, .inl (fun _ => 0))), (bL, .inl (cI, 12, .inl (fun _ => 0))), (bH, .inl (cD, 12, .inr (.inr (.inr (.inl (fun _ => 0))))))]) hP hD [4] [0, 1, 2, 3] rfl rfl (by decide) (by decide) hk1 hFc hP1 hD1
  generalize H1 = H at hP hS ⊢
  have hP : va_P (dC, dI) vwCl [(aP, .inr (2, [.int (nI iw), .int (nI ih), .ref q1, .ref q2, .ref q3, .null, .double 0, .double 0, .double 0])), (q1, .inl (cD, iw * ih, .inr (.inr (.inr (.inl (fun _ => 0)))))), (q2, .inl (cD, iw * ih, .inr (.inr (.inr (.inl (fun _ => 0)))))), (q3, .inl (cD, iw * ih, .inr (.inr (.inr (.inl (fun _ => 0)))))), (q4, .inr (0, [.ref bP, .ref bF, .ref bL, .ref bH, .int (nI 0)])), (bP, .inl (cI, 12, .inl (fun _ => 0))), (bF, .inl (cI, 12, .inl (fun _ => 0))), (bL, .inl (cI, 12, .inl (fun _ => 0))), (bH, .inl (cD, 12, .inr (.inr (.inr (.inl (fun _ => 0))))))] H := hP.sub (ws' := [(aP, .inr (2, [.int (nI iw), .int (nI ih), .ref q1, .ref q2, .ref q3, .null, .double 0, .double 0, .double 0])), (q1, .inl (cD, iw * ih, .inr (.inr (.inr (.inl (fun _ => 0)))))), (q2, .inl (cD, iw * ih, .inr (.inr (.inr (.inl (fun _ => 0)))))), (q3, .inl (cD, iw * ih, .inr (.inr (.inr (.inl (fun _ => 0)))))), (q4, .inr (0, [.ref bP, .ref bF, .ref bL, .ref bH, .int (nI 0)])), (bP, .inl (cI, 12, .inl (fun _ => 0))), (bF, .inl (cI, 12, .inl (fun _ => 0))), (bL, .inl (cI, 12, .inl (fun _ => 0))), (bH, .inl (cD, 12, .inr (.inr (.inr (.inl (fun _ => 0))))))]) [0, 1, 2, 3, 4, 5, 6, 7, 8] rfl
  have hD : va_D A [(aP, .inr (2, [.int (nI iw), .int (nI ih), .ref q1, .ref q2, .ref q3, .null, .double 0, .double 0, .double 0])), (q1, .inl (cD, iw * ih, .inr (.inr (.inr (.inl (fun _ => 0)))))), (q2, .inl (cD, iw * ih, .inr (.inr (.inr (.inl (fun _ => 0)))))), (q3, .inl (cD, iw * ih, .inr (.inr (.inr (.inl (fun _ => 0)))))), (q4, .inr (0, [.ref bP, .ref bF, .ref bL, .ref bH, .int (nI 0)])), (bP, .inl (cI, 12, .inl (fun _ => 0))), (bF, .inl (cI, 12, .inl (fun _ => 0))), (bL, .inl (cI, 12, .inl (fun _ => 0))), (bH, .inl (cD, 12, .inr (.inr (.inr (.inl (fun _ => 0))))))] := hD.sub (ws' := [(aP, .inr (2, [.int (nI iw), .int (nI ih), .ref q1, .ref q2, .ref q3, .null, .double 0, .double 0, .double 0])), (q1, .inl (cD, iw * ih, .inr (.inr (.inr (.inl (fun _ => 0)))))), (q2, .inl (cD, iw * ih, .inr (.inr (.inr (.inl (fun _ => 0)))))), (q3, .inl (cD, iw * ih, .inr (.inr (.inr (.inl (fun _ => 0)))))), (q4, .inr (0, [.ref bP, .ref bF, .ref bL, .ref bH, .int (nI 0)])), (bP, .inl (cI, 12, .inl (fun _ => 0))), (bF, .inl (cI, 12, .inl (fun _ => 0))), (bL, .inl (cI, 12, .inl (fun _ => 0))), (bH, .inl (cD, 12, .inr (.inr (.inr (.inl (fun _ => 0))))))]) [0, 1, 2, 3, 4, 5, 6, 7, 8] (by decide) rfl
  refine va_putF (D := (dC, dI)) (ci := 2) (v := .ref q4) (ty := .object "PlateModes$Braces") (C := RX2) (T := TX2) (N := 9) hx hb hts (in_X2_init_X2) tyX2 tyX2_ok nmX2 hown hK hP hD hS 0 rfl rfl 5 (by decide) (hts (.fieldLink RX2 31 "PlateModes$Plate" "braces" "LPlateModes$Braces;") (by decide +kernel)) (fun _ h9 => h9) rfl hin rfl (by decide +kernel) rfl rfl (Nat.le_of_ble_eq_true rfl) dX2_init_49 (fun H locs hP hD hS => ?_)
  have hP : va_P (dC, dI) vwCl [(aP, .inr (2, [.int (nI iw), .int (nI ih), .ref q1, .ref q2, .ref q3, .ref q4, .double 0, .double 0, .double 0])), (q1, .inl (cD, iw * ih, .inr (.inr (.inr (.inl (fun _ => 0)))))), (q2, .inl (cD, iw * ih, .inr (.inr (.inr (.inl (fun _ => 0)))))), (q3, .inl (cD, iw * ih, .inr (.inr (.inr (.inl (fun _ => 0)))))), (q4, .inr (0, [.ref bP, .ref bF, .ref bL, .ref bH, .int (nI 0)])), (bP, .inl (cI, 12, .inl (fun _ => 0))), (bF, .inl (cI, 12, .inl (fun _ => 0))), (bL, .inl (cI, 12, .inl (fun _ => 0))), (bH, .inl (cD, 12, .inr (.inr (.inr (.inl (fun _ => 0))))))] H := hP
  have hD : va_D A [(aP, .inr (2, [.int (nI iw), .int (nI ih), .ref q1, .ref q2, .ref q3, .ref q4, .double 0, .double 0, .double 0])), (q1, .inl (cD, iw * ih, .inr (.inr (.inr (.inl (fun _ => 0)))))), (q2, .inl (cD, iw * ih, .inr (.inr (.inr (.inl (fun _ => 0)))))), (q3, .inl (cD, iw * ih, .inr (.inr (.inr (.inl (fun _ => 0)))))), (q4, .inr (0, [.ref bP, .ref bF, .ref bL, .ref bH, .int (nI 0)])), (bP, .inl (cI, 12, .inl (fun _ => 0))), (bF, .inl (cI, 12, .inl (fun _ => 0))), (bL, .inl (cI, 12, .inl (fun _ => 0))), (bH, .inl (cD, 12, .inr (.inr (.inr (.inl (fun _ => 0))))))] := hD
  refine lv_aload_n hx hb dX2_init_52 rfl (lv_at hl 0 rfl) ?_
  refine lv_dconst1 hx hb dX2_init_53 ?_
  refine va_put (D := (dC, dI)) (ci := 2) (v := .double FP.dconst1) (ty := .double) (C := RX2) (T := TX2) (N := 9) hx hb hts (in_X2_init_X2) tyX2 tyX2_ok nmX2 hown hK hP hD hS 0 rfl rfl 6 (by decide) (hts (.fieldLink RX2 35 "PlateModes$Plate" "along" "D") (by decide +kernel)) (fun _ h9 => h9) rfl (by decide +kernel) rfl rfl (Nat.le_of_ble_eq_true rfl) dX2_init_54 (fun H locs hP hD hS => ?_)
  have hP : va_P (dC, dI) vwCl [(aP, .inr (2, [.int (nI iw), .int (nI ih), .ref q1, .ref q2, .ref q3, .ref q4, .double FP.dconst1, .double 0, .double 0])), (q1, .inl (cD, iw * ih, .inr (.inr (.inr (.inl (fun _ => 0)))))), (q2, .inl (cD, iw * ih, .inr (.inr (.inr (.inl (fun _ => 0)))))), (q3, .inl (cD, iw * ih, .inr (.inr (.inr (.inl (fun _ => 0)))))), (q4, .inr (0, [.ref bP, .ref bF, .ref bL, .ref bH, .int (nI 0)])), (bP, .inl (cI, 12, .inl (fun _ => 0))), (bF, .inl (cI, 12, .inl (fun _ => 0))), (bL, .inl (cI, 12, .inl (fun _ => 0))), (bH, .inl (cD, 12, .inr (.inr (.inr (.inl (fun _ => 0))))))] H := hP
  have hD : va_D A [(aP, .inr (2, [.int (nI iw), .int (nI ih), .ref q1, .ref q2, .ref q3, .ref q4, .double FP.dconst1, .double 0, .double 0])), (q1, .inl (cD, iw * ih, .inr (.inr (.inr (.inl (fun _ => 0)))))), (q2, .inl (cD, iw * ih, .inr (.inr (.inr (.inl (fun _ => 0)))))), (q3, .inl (cD, iw * ih, .inr (.inr (.inr (.inl (fun _ => 0)))))), (q4, .inr (0, [.ref bP, .ref bF, .ref bL, .ref bH, .int (nI 0)])), (bP, .inl (cI, 12, .inl (fun _ => 0))), (bF, .inl (cI, 12, .inl (fun _ => 0))), (bL, .inl (cI, 12, .inl (fun _ => 0))), (bH, .inl (cD, 12, .inr (.inr (.inr (.inl (fun _ => 0))))))] := hD
  refine lv_aload_n hx hb dX2_init_57 rfl (lv_at hl 0 rfl) ?_
  refine lv_dconst1 hx hb dX2_init_58 ?_
  refine va_put (D := (dC, dI)) (ci := 2) (v := .double FP.dconst1) (ty := .double) (C := RX2) (T := TX2) (N := 9) hx hb hts (in_X2_init_X2) tyX2 tyX2_ok nmX2 hown hK hP hD hS 0 rfl rfl 7 (by decide) (hts (.fieldLink RX2 39 "PlateModes$Plate" "across" "D") (by decide +kernel)) (fun _ h9 => h9) rfl (by decide +kernel) rfl rfl (Nat.le_of_ble_eq_true rfl) dX2_init_59 (fun H locs hP hD hS => ?_)
  have hP : va_P (dC, dI) vwCl [(aP, .inr (2, [.int (nI iw), .int (nI ih), .ref q1, .ref q2, .ref q3, .ref q4, .double FP.dconst1, .double FP.dconst1, .double 0])), (q1, .inl (cD, iw * ih, .inr (.inr (.inr (.inl (fun _ => 0)))))), (q2, .inl (cD, iw * ih, .inr (.inr (.inr (.inl (fun _ => 0)))))), (q3, .inl (cD, iw * ih, .inr (.inr (.inr (.inl (fun _ => 0)))))), (q4, .inr (0, [.ref bP, .ref bF, .ref bL, .ref bH, .int (nI 0)])), (bP, .inl (cI, 12, .inl (fun _ => 0))), (bF, .inl (cI, 12, .inl (fun _ => 0))), (bL, .inl (cI, 12, .inl (fun _ => 0))), (bH, .inl (cD, 12, .inr (.inr (.inr (.inl (fun _ => 0))))))] H := hP
  have hD : va_D A [(aP, .inr (2, [.int (nI iw), .int (nI ih), .ref q1, .ref q2, .ref q3, .ref q4, .double FP.dconst1, .double FP.dconst1, .double 0])), (q1, .inl (cD, iw * ih, .inr (.inr (.inr (.inl (fun _ => 0)))))), (q2, .inl (cD, iw * ih, .inr (.inr (.inr (.inl (fun _ => 0)))))), (q3, .inl (cD, iw * ih, .inr (.inr (.inr (.inl (fun _ => 0)))))), (q4, .inr (0, [.ref bP, .ref bF, .ref bL, .ref bH, .int (nI 0)])), (bP, .inl (cI, 12, .inl (fun _ => 0))), (bF, .inl (cI, 12, .inl (fun _ => 0))), (bL, .inl (cI, 12, .inl (fun _ => 0))), (bH, .inl (cD, 12, .inr (.inr (.inr (.inl (fun _ => 0))))))] := hD
  refine lv_aload_n hx hb dX2_init_62 rfl (lv_at hl 0 rfl) ?_
  refine lv_dconst1 hx hb dX2_init_63 ?_
  refine va_put (D := (dC, dI)) (ci := 2) (v := .double FP.dconst1) (ty := .double) (C := RX2) (T := TX2) (N := 9) hx hb hts (in_X2_init_X2) tyX2 tyX2_ok nmX2 hown hK hP hD hS 0 rfl rfl 8 (by decide) (hts (.fieldLink RX2 42 "PlateModes$Plate" "density" "D") (by decide +kernel)) (fun _ h9 => h9) rfl (by decide +kernel) rfl rfl (Nat.le_of_ble_eq_true rfl) dX2_init_64 (fun H locs hP hD hS => ?_)
  have hP : va_P (dC, dI) vwCl [(aP, .inr (2, [.int (nI iw), .int (nI ih), .ref q1, .ref q2, .ref q3, .ref q4, .double FP.dconst1, .double FP.dconst1, .double FP.dconst1])), (q1, .inl (cD, iw * ih, .inr (.inr (.inr (.inl (fun _ => 0)))))), (q2, .inl (cD, iw * ih, .inr (.inr (.inr (.inl (fun _ => 0)))))), (q3, .inl (cD, iw * ih, .inr (.inr (.inr (.inl (fun _ => 0)))))), (q4, .inr (0, [.ref bP, .ref bF, .ref bL, .ref bH, .int (nI 0)])), (bP, .inl (cI, 12, .inl (fun _ => 0))), (bF, .inl (cI, 12, .inl (fun _ => 0))), (bL, .inl (cI, 12, .inl (fun _ => 0))), (bH, .inl (cD, 12, .inr (.inr (.inr (.inl (fun _ => 0))))))] H := hP
  have hD : va_D A [(aP, .inr (2, [.int (nI iw), .int (nI ih), .ref q1, .ref q2, .ref q3, .ref q4, .double FP.dconst1, .double FP.dconst1, .double FP.dconst1])), (q1, .inl (cD, iw * ih, .inr (.inr (.inr (.inl (fun _ => 0)))))), (q2, .inl (cD, iw * ih, .inr (.inr (.inr (.inl (fun _ => 0)))))), (q3, .inl (cD, iw * ih, .inr (.inr (.inr (.inl (fun _ => 0)))))), (q4, .inr (0, [.ref bP, .ref bF, .ref bL, .ref bH, .int (nI 0)])), (bP, .inl (cI, 12, .inl (fun _ => 0))), (bF, .inl (cI, 12, .inl (fun _ => 0))), (bL, .inl (cI, 12, .inl (fun _ => 0))), (bH, .inl (cD, 12, .inr (.inr (.inr (.inl (fun _ => 0))))))] := hD
  refine lv_iconst (v := (nI 0)) hx hb dX2_init_67 (by decide) ?_
  refine lv_istore_n (lv' := [(3, .int (nI 0)), (0, .ref aP), (1, .int (nI iw)), (2, .int (nI ih))]) hx hb dX2_init_68 rfl hl (by decide) rfl (fun ls hl => ?_)
  have L_69 : ∀ (n : Nat) (i0 : Nat) (fT : Nat → UInt64) (H : Heap) (locs : List Loc) (ls : Array Slot), iw * ih - i0 < n → (i0 ≤ iw * ih) → (zcp2 fT (iw * ih) i0 (fun _ => z1)) → va_P (dC, dI) vwCl [(aP, .inr (2, [.int (nI iw), .int (nI ih), .ref q1, .ref q2, .ref q3, .ref q4, .double FP.dconst1, .double FP.dconst1, .double FP.dconst1])), (q1, .inl (cD, iw * ih, .inr (.inr (.inr (.inl fT))))), (q2, .inl (cD, iw * ih, .inr (.inr (.inr (.inl (fun _ => 0)))))), (q3, .inl (cD, iw * ih, .inr (.inr (.inr (.inl (fun _ => 0)))))), (q4, .inr (0, [.ref bP, .ref bF, .ref bL, .ref bH, .int (nI 0)])), (bP, .inl (cI, 12, .inl (fun _ => 0))), (bF, .inl (cI, 12, .inl (fun _ => 0))), (bL, .inl (cI, 12, .inl (fun _ => 0))), (bH, .inl (cD, 12, .inr (.inr (.inr (.inl (fun _ => 0))))))] H → va_D A [(aP, .inr (2, [.int (nI iw), .int (nI ih), .ref q1, .ref q2, .ref q3, .ref q4, .double FP.dconst1, .double FP.dconst1, .double FP.dconst1])), (q1, .inl (cD, iw * ih, .inr (.inr (.inr (.inl fT))))), (q2, .inl (cD, iw * ih, .inr (.inr (.inr (.inl (fun _ => 0)))))), (q3, .inl (cD, iw * ih, .inr (.inr (.inr (.inl (fun _ => 0)))))), (q4, .inr (0, [.ref bP, .ref bF, .ref bL, .ref bH, .int (nI 0)])), (bP, .inl (cI, 12, .inl (fun _ => 0))), (bF, .inl (cI, 12, .inl (fun _ => 0))), (bL, .inl (cI, 12, .inl (fun _ => 0))), (bH, .inl (cD, 12, .inr (.inr (.inr (.inl (fun _ => 0))))))] → va_S A s.heap H locs → lv_has ls 4 [(3, .int (nI i0)), (0, .ref aP), (1, .int (nI iw)), (2, .int (nI ih))] → W p l e (headSpec wsX2_init ({ frames := 2, cells := 8, slots := 161, locals := 32 } : Room)).room s m ([.ref aP, .int (nI iw), .int (nI ih)] : List Value).toArray below meth c H locs 8 161 (MQ below (va_Qv (fun _ : Unit => True) (fun _ t => ∃ (pT pR pN pB bP bF bL bH : Nat) (tT : Nat → UInt64), zcr tT (iw * ih) (fun _ => z1) ∧ va_P (dC, dI) vwCl [(aP, .inr (2, [.int (nI iw), .int (nI ih), .ref pT, .ref pR, .ref pN, .ref pB, .double FP.dconst1, .double FP.dconst1, .double FP.dconst1])), (pT, .inl (cD, (iw * ih), .inr (.inr (.inr (.inl tT))))), (pR, .inl (cD, (iw * ih), .inr (.inr (.inr (.inl (fun _ => 0)))))), (pN, .inl (cD, (iw * ih), .inr (.inr (.inr (.inl (fun _ => 0)))))), (pB, .inr (0, [.ref bP, .ref bF, .ref bL, .ref bH, .int (nI 0)])), (bP, .inl (cI, 12, .inl (fun _ => 0))), (bF, .inl (cI, 12, .inl (fun _ => 0))), (bL, .inl (cI, 12, .inl (fun _ => 0))), (bH, .inl (cD, 12, .inr (.inr (.inr (.inl (fun _ => 0))))))] t.heap ∧ va_K (dC, dI) vwCl [(cD, .double), (cI, .int), (cQ, .array .double)] t ∧ va_D A [(aP, .inr (2, [.int (nI iw), .int (nI ih), .ref pT, .ref pR, .ref pN, .ref pB, .double FP.dconst1, .double FP.dconst1, .double FP.dconst1])), (pT, .inl (cD, (iw * ih), .inr (.inr (.inr (.inl tT))))), (pR, .inl (cD, (iw * ih), .inr (.inr (.inr (.inl (fun _ => 0)))))), (pN, .inl (cD, (iw * ih), .inr (.inr (.inr (.inl (fun _ => 0)))))), (pB, .inr (0, [.ref bP, .ref bF, .ref bL, .ref bH, .int (nI 0)])), (bP, .inl (cI, 12, .inl (fun _ => 0))), (bF, .inl (cI, 12, .inl (fun _ => 0))), (bL, .inl (cI, 12, .inl (fun _ => 0))), (bH, .inl (cD, 12, .inr (.inr (.inr (.inl (fun _ => 0))))))]) A) ([.ref aP, .int (nI iw), .int (nI ih)] : List Value).toArray s 8 161 A) (F0 m 69 ls []) := by
    intro n
    induction n with
    | zero => intro i0 fT H locs ls hn; exact absurd hn (Nat.not_lt_zero _)
    | succ n ih_L_69 =>
      intro i0 fT H locs ls hn hi h2 hP hD hS hl
      refine lv_iload_n hx hb dX2_init_69 rfl (lv_at hl 0 rfl) ?_
      refine lv_aload_n hx hb dX2_init_70 rfl (lv_at hl 1 rfl) ?_
      refine va_get (D := (dC, dI)) (ci := 2) (v := .ref q1) (C := RX2) (T := TX2) (N := 9) hx hb hts (in_X2_init_X2) hown hK hP 0 rfl rfl 2 (by decide) (hts (.fieldLink RX2 18 "PlateModes$Plate" "thick" "[D") (by decide +kernel)) (fun _ h9 => h9) rfl dX2_init_71 ?_
      refine va_alen hx hb hK hP 1 0 rfl (v := nI (iw * ih)) rfl rfl dX2_init_74 ?_
      refine z_icmp_ge (a := i0) (b := iw * ih) (tgt := 91) hx hb (by omega) (by omega) dX2_init_75 (by decide) (fun c7 => ?_) (fun c8 => ?_)
      · skip
        exact W.vret hx hb hr (fun t ht hW => ⟨⟨(), rfl, trivial, q1, q2, q3, q4, bP, bF, bL, bH, fT, zcp2_all h2 (by omega), by rw [ht]; exact hP, va_K.moved hW.alike hK, hD⟩, hS.F ht⟩) hS.2.2 dX2_init_91
      · skip
        refine lv_aload_n hx hb dX2_init_78 rfl (lv_at hl 1 rfl) ?_
        refine va_get (D := (dC, dI)) (ci := 2) (v := .ref q1) (C := RX2) (T := TX2) (N := 9) hx hb hts (in_X2_init_X2) hown hK hP 0 rfl rfl 2 (by decide) (hts (.fieldLink RX2 18 "PlateModes$Plate" "thick" "[D") (by decide +kernel)) (fun _ h9 => h9) rfl dX2_init_79 ?_
        refine lv_iload_n hx hb dX2_init_82 rfl (lv_at hl 0 rfl) ?_
        refine lv_dconst1 hx hb dX2_init_83 ?_
        refine z_dast (n := iw * ih) (i := i0) hx hb hK hP hD hS 1 0 rfl rfl (by omega) (by omega) dX2_init_84 (fun H locs hP hD hS => ?_)
        have hP : va_P (dC, dI) vwCl [(aP, .inr (2, [.int (nI iw), .int (nI ih), .ref q1, .ref q2, .ref q3, .ref q4, .double FP.dconst1, .double FP.dconst1, .double FP.dconst1])), (q1, .inl (cD, iw * ih, .inr (.inr (.inr (.inl (zu fT i0 FP.dconst1)))))), (q2, .inl (cD, iw * ih, .inr (.inr (.inr (.inl (fun _ => 0)))))), (q3, .inl (cD, iw * ih, .inr (.inr (.inr (.inl (fun _ => 0)))))), (q4, .inr (0, [.ref bP, .ref bF, .ref bL, .ref bH, .int (nI 0)])), (bP, .inl (cI, 12, .inl (fun _ => 0))), (bF, .inl (cI, 12, .inl (fun _ => 0))), (bL, .inl (cI, 12, .inl (fun _ => 0))), (bH, .inl (cD, 12, .inr (.inr (.inr (.inl (fun _ => 0))))))] H := hP
        have hD : va_D A [(aP, .inr (2, [.int (nI iw), .int (nI ih), .ref q1, .ref q2, .ref q3, .ref q4, .double FP.dconst1, .double FP.dconst1, .double FP.dconst1])), (q1, .inl (cD, iw * ih, .inr (.inr (.inr (.inl (zu fT i0 FP.dconst1)))))), (q2, .inl (cD, iw * ih, .inr (.inr (.inr (.inl (fun _ => 0)))))), (q3, .inl (cD, iw * ih, .inr (.inr (.inr (.inl (fun _ => 0)))))), (q4, .inr (0, [.ref bP, .ref bF, .ref bL, .ref bH, .int (nI 0)])), (bP, .inl (cI, 12, .inl (fun _ => 0))), (bF, .inl (cI, 12, .inl (fun _ => 0))), (bL, .inl (cI, 12, .inl (fun _ => 0))), (bH, .inl (cD, 12, .inr (.inr (.inr (.inl (fun _ => 0))))))] := hD
        refine lv_iinc (v := nI (i0 + 1)) (lv' := [(3, .int (nI (i0 + 1))), (0, .ref aP), (1, .int (nI iw)), (2, .int (nI ih))]) hx hb dX2_init_85 hl (k := 0) rfl (show nI i0 + nI 1 = _ from zi_add (by omega)) (by decide) rfl (fun ls hl => ?_)
        refine lv_goto (tgt := 69) hx hb dX2_init_88 (by decide) ?_
        exact ih_L_69 (i0 + 1) (zu fT i0 FP.dconst1) _ _ _ (by omega) (by omega) (zcp2_put h2 rfl) hP hD hS hl
  exact L_69 _ 0 (fun _ => 0) _ _ _ (Nat.lt_succ_self _) (by omega) zcp2_0 hP hD hS hl
theorem in_X1_init_X1 : ∀ w ∈ wsX10, w ∈ wsX1_init := by intro w h; unfold wsX1_init; simp only [List.mem_cons, List.mem_append]; first | exact Or.inr (Or.inr h) | exact Or.inr (Or.inl (Or.inr h)) | exact Or.inr (Or.inl (Or.inl (Or.inr h))) | exact Or.inr (Or.inr (Or.inl h)) | exact Or.inr (Or.inr (Or.inr h))
set_option maxHeartbeats 4000000 in
set_option maxRecDepth 100000 in
/-- ModeSet(plate) -/
theorem c1_init (l : Launch) (dC : Nat → ClassId) (dI : Nat → Nat → Nat) (aM aP pT pR pN pB bP bF bL bH : Nat) (cD cI cQ : ClassId) (iw ih : Nat) (al ac de : UInt64) (nb : Nat) (tT tR tN : Nat → UInt64) (uP uF uL : Nat → Int32) (uH : Nat → UInt64) (hw6 : iw ≤ 6) (hh6 : ih ≤ 6) (sz : Nat) : Met l yX1_init wsX1_init ({ frames := 1, cells := 8, slots := 160, locals := 20 } : Room) (va_Pc [.ref aM, .ref aP] (fun U => U.heap.size = sz ∧ va_P (dC, dI) vwCl [(aP, .inr (2, [.int (nI iw), .int (nI ih), .ref pT, .ref pR, .ref pN, .ref pB, .double al, .double ac, .double de])), (pT, .inl (cD, (iw * ih), .inr (.inr (.inr (.inl tT))))), (pR, .inl (cD, (iw * ih), .inr (.inr (.inr (.inl tR))))), (pN, .inl (cD, (iw * ih), .inr (.inr (.inr (.inl tN))))), (pB, .inr (0, [.ref bP, .ref bF, .ref bL, .ref bH, .int (nI nb)])), (bP, .inl (cI, 12, .inl uP)), (bF, .inl (cI, 12, .inl uF)), (bL, .inl (cI, 12, .inl uL)), (bH, .inl (cD, 12, .inr (.inr (.inr (.inl uH))))), (aM, .inr (1, [.null, .null, .null, .null, .null, .int 0]))] U.heap ∧ va_K (dC, dI) vwCl [(cD, .double), (cI, .int), (cQ, .array .double)] U ∧ va_AOA .double U ∧ va_D (fun _ => True) [(aP, .inr (2, [.int (nI iw), .int (nI ih), .ref pT, .ref pR, .ref pN, .ref pB, .double al, .double ac, .double de])), (pT, .inl (cD, (iw * ih), .inr (.inr (.inr (.inl tT))))), (pR, .inl (cD, (iw * ih), .inr (.inr (.inr (.inl tR))))), (pN, .inl (cD, (iw * ih), .inr (.inr (.inr (.inl tN))))), (pB, .inr (0, [.ref bP, .ref bF, .ref bL, .ref bH, .int (nI nb)])), (bP, .inl (cI, 12, .inl uP)), (bF, .inl (cI, 12, .inl uF)), (bL, .inl (cI, 12, .inl uL)), (bH, .inl (cD, 12, .inr (.inr (.inr (.inl uH))))), (aM, .inr (1, [.null, .null, .null, .null, .null, .int 0]))])) (va_Qv (fun _ : Unit => True) (fun _ t => ∃ (aQ mS mR mT ro0 ro1 ro2 ro3 : Nat), va_P (dC, dI) vwCl [(aP, .inr (2, [.int (nI iw), .int (nI ih), .ref pT, .ref pR, .ref pN, .ref pB, .double al, .double ac, .double de])), (pT, .inl (cD, (iw * ih), .inr (.inr (.inr (.inl tT))))), (pR, .inl (cD, (iw * ih), .inr (.inr (.inr (.inl tR))))), (pN, .inl (cD, (iw * ih), .inr (.inr (.inr (.inl tN))))), (pB, .inr (0, [.ref bP, .ref bF, .ref bL, .ref bH, .int (nI nb)])), (bP, .inl (cI, 12, .inl uP)), (bF, .inl (cI, 12, .inl uF)), (bL, .inl (cI, 12, .inl uL)), (bH, .inl (cD, 12, .inr (.inr (.inr (.inl uH))))), (aM, .inr (1, [.ref aP, .ref aQ, .ref mS, .ref mR, .ref mT, .int (nI 0)])), (aQ, .inl (cQ, 4, .inr (.inr (.inr (.inr (zq4 ro0 ro1 ro2 ro3)))))), (mS, .inl (cD, 4, .inr (.inr (.inr (.inl (fun _ => 0)))))), (mR, .inl (cD, 4, .inr (.inr (.inr (.inl (fun _ => 0)))))), (mT, .inl (cD, 4, .inr (.inr (.inr (.inl (fun _ => 0)))))), (ro0, .inl (cD, (iw * ih), .inr (.inr (.inr (.inl (fun _ => 0)))))), (ro1, .inl (cD, (iw * ih), .inr (.inr (.inr (.inl (fun _ => 0)))))), (ro2, .inl (cD, (iw * ih), .inr (.inr (.inr (.inl (fun _ => 0)))))), (ro3, .inl (cD, (iw * ih), .inr (.inr (.inr (.inl (fun _ => 0))))))] t.heap ∧ va_K (dC, dI) vwCl [(cD, .double), (cI, .int), (cQ, .array .double)] t ∧ va_D (va_A [(aP, .inr (2, [.int (nI iw), .int (nI ih), .ref pT, .ref pR, .ref pN, .ref pB, .double al, .double ac, .double de])), (pT, .inl (cD, (iw * ih), .inr (.inr (.inr (.inl tT))))), (pR, .inl (cD, (iw * ih), .inr (.inr (.inr (.inl tR))))), (pN, .inl (cD, (iw * ih), .inr (.inr (.inr (.inl tN))))), (pB, .inr (0, [.ref bP, .ref bF, .ref bL, .ref bH, .int (nI nb)])), (bP, .inl (cI, 12, .inl uP)), (bF, .inl (cI, 12, .inl uF)), (bL, .inl (cI, 12, .inl uL)), (bH, .inl (cD, 12, .inr (.inr (.inr (.inl uH))))), (aM, .inr (1, [.null, .null, .null, .null, .null, .int 0]))] sz) [(aP, .inr (2, [.int (nI iw), .int (nI ih), .ref pT, .ref pR, .ref pN, .ref pB, .double al, .double ac, .double de])), (pT, .inl (cD, (iw * ih), .inr (.inr (.inr (.inl tT))))), (pR, .inl (cD, (iw * ih), .inr (.inr (.inr (.inl tR))))), (pN, .inl (cD, (iw * ih), .inr (.inr (.inr (.inl tN))))), (pB, .inr (0, [.ref bP, .ref bF, .ref bL, .ref bH, .int (nI nb)])), (bP, .inl (cI, 12, .inl uP)), (bF, .inl (cI, 12, .inl uF)), (bL, .inl (cI, 12, .inl uL)), (bH, .inl (cD, 12, .inr (.inr (.inr (.inl uH))))), (aM, .inr (1, [.ref aP, .ref aQ, .ref mS, .ref mR, .ref mT, .int (nI 0)])), (aQ, .inl (cQ, 4, .inr (.inr (.inr (.inr (zq4 ro0 ro1 ro2 ro3)))))), (mS, .inl (cD, 4, .inr (.inr (.inr (.inl (fun _ => 0)))))), (mR, .inl (cD, 4, .inr (.inr (.inr (.inl (fun _ => 0)))))), (mT, .inl (cD, 4, .inr (.inr (.inr (.inl (fun _ => 0)))))), (ro0, .inl (cD, (iw * ih), .inr (.inr (.inr (.inl (fun _ => 0)))))), (ro1, .inl (cD, (iw * ih), .inr (.inr (.inr (.inl (fun _ => 0)))))), (ro2, .inl (cD, (iw * ih), .inr (.inr (.inr (.inl (fun _ => 0)))))), (ro3, .inl (cD, (iw * ih), .inr (.inr (.inr (.inl (fun _ => 0))))))]) (va_A [(aP, .inr (2, [.int (nI iw), .int (nI ih), .ref pT, .ref pR, .ref pN, .ref pB, .double al, .double ac, .double de])), (pT, .inl (cD, (iw * ih), .inr (.inr (.inr (.inl tT))))), (pR, .inl (cD, (iw * ih), .inr (.inr (.inr (.inl tR))))), (pN, .inl (cD, (iw * ih), .inr (.inr (.inr (.inl tN))))), (pB, .inr (0, [.ref bP, .ref bF, .ref bL, .ref bH, .int (nI nb)])), (bP, .inl (cI, 12, .inl uP)), (bF, .inl (cI, 12, .inl uF)), (bL, .inl (cI, 12, .inl uL)), (bH, .inl (cD, 12, .inr (.inr (.inr (.inl uH))))), (aM, .inr (1, [.null, .null, .null, .null, .null, .int 0]))] sz)) 8 160 (va_A [(aP, .inr (2, [.int (nI iw), .int (nI ih), .ref pT, .ref pR, .ref pN, .ref pB, .double al, .double ac, .double de])), (pT, .inl (cD, (iw * ih), .inr (.inr (.inr (.inl tT))))), (pR, .inl (cD, (iw * ih), .inr (.inr (.inr (.inl tR))))), (pN, .inl (cD, (iw * ih), .inr (.inr (.inr (.inl tN))))), (pB, .inr (0, [.ref bP, .ref bF, .ref bL, .ref bH, .int (nI nb)])), (bP, .inl (cI, 12, .inl uP)), (bF, .inl (cI, 12, .inl uF)), (bL, .inl (cI, 12, .inl uL)), (bH, .inl (cD, 12, .inr (.inr (.inr (.inl uH))))), (aM, .inr (1, [.null, .null, .null, .null, .null, .int 0]))] sz) := by
  refine Met.ofW (cc := cX1_init) (maxL := 2) (ret := none) (by decide) rfl ?_
  intro p e s m args below meth c s₁ B hml hv
  obtain ⟨rfl, hsz, hP, hK, hAO, hD0⟩ := hv
  have hx := B.exec
  have hb := B.bytes
  have hr := B.returns
  have hts := atoms_spec (ws := wsX1_init) B.pre
  have hown : s.vm.findClass RX1 = some m.cls := findClass_of_methodNamed B.named
  have hlocks := B.notSynchronized
  have hin : meth.name = "<init>" := (name_of_methodNamed B.named B.method).1
  subst hsz
  have hD := hD0.self (sz := s.heap.size)
  generalize hAe : va_A [(aP, .inr (2, [.int (nI iw), .int (nI ih), .ref pT, .ref pR, .ref pN, .ref pB, .double al, .double ac, .double de])), (pT, .inl (cD, (iw * ih), .inr (.inr (.inr (.inl tT))))), (pR, .inl (cD, (iw * ih), .inr (.inr (.inr (.inl tR))))), (pN, .inl (cD, (iw * ih), .inr (.inr (.inr (.inl tN))))), (pB, .inr (0, [.ref bP, .ref bF, .ref bL, .ref bH, .int (nI nb)])), (bP, .inl (cI, 12, .inl uP)), (bF, .inl (cI, 12, .inl uF)), (bL, .inl (cI, 12, .inl uL)), (bH, .inl (cD, 12, .inr (.inr (.inr (.inl uH))))), (aM, .inr (1, [.null, .null, .null, .null, .null, .int 0]))] s.heap.size = A at hD ⊢
  have hA : ∀ q : Nat, s.heap.size ≤ q → A q := fun q h => by rw [← hAe]; exact Or.inr h
  have hS : va_S A s.heap s.heap [] := va_S.rf
  have hl := lv_entry ([.ref aM, .ref aP]) (n := 2) (Nat.le_of_ble_eq_true rfl)
  rw [lg_entry_eq]
  generalize (lg_sl ([.ref aM, .ref aP]) ++ List.replicate (2 - (lg_sl ([.ref aM, .ref aP])).length) Slot.unset).toArray = ls at hl ⊢
  have hl : lv_has ls 2 [(0, .ref aM), (1, .ref aP)] := hl
  have hn36 : iw * ih ≤ 36 := Nat.mul_le_mul hw6 hh6
  refine lv_aload_n hx hb dX1_init_0 rfl (lv_at hl 0 rfl) ?_
  refine W.objInit hx hb hown (hts (.methodLink RX1 3 objectInit) (by decide +kernel)) (hts (.instanceMethod objectInit) (by decide +kernel)) (hts (.code objectInit ⟨#[0xb1]⟩ 1 none) (by decide +kernel)) rfl (by rw [hml]; exact hl.1) rfl dX1_init_1 (Nat.le_of_ble_eq_true rfl) (Nat.le_of_ble_eq_true rfl) ?_
  refine W.eq (g2 := F0 m 4 ls []) rfl ?_
  refine lv_aload_n hx hb dX1_init_4 rfl (lv_at hl 0 rfl) ?_
  refine lv_aload_n hx hb dX1_init_5 rfl (lv_at hl 1 rfl) ?_
  refine va_putF (D := (dC, dI)) (ci := 1) (v := .ref aP) (ty := .object "PlateModes$Plate") (C := RX1) (T := TX1) (N := 6) hx hb hts (in_X1_init_X1) tyX1 tyX1_ok nmX1 hown hK hP hD hS 9 rfl rfl 0 (by decide) (hts (.fieldLink RX1 9 "PlateModes$ModeSet" "plate" "LPlateModes$Plate;") (by decide +kernel)) (fun _ h9 => h9) rfl hin rfl (by decide +kernel) rfl rfl (Nat.le_of_ble_eq_true rfl) dX1_init_6 (fun H locs hP hD hS => ?_)
  have hP : va_P (dC, dI) vwCl [(aP, .inr (2, [.int (nI iw), .int (nI ih), .ref pT, .ref pR, .ref pN, .ref pB, .double al, .double ac, .double de])), (pT, .inl (cD, (iw * ih), .inr (.inr (.inr (.inl tT))))), (pR, .inl (cD, (iw * ih), .inr (.inr (.inr (.inl tR))))), (pN, .inl (cD, (iw * ih), .inr (.inr (.inr (.inl tN))))), (pB, .inr (0, [.ref bP, .ref bF, .ref bL, .ref bH, .int (nI nb)])), (bP, .inl (cI, 12, .inl uP)), (bF, .inl (cI, 12, .inl uF)), (bL, .inl (cI, 12, .inl uL)), (bH, .inl (cD, 12, .inr (.inr (.inr (.inl uH))))), (aM, .inr (1, [.ref aP, .null, .null, .null, .null, .int 0]))] H := hP
  have hD : va_D A [(aP, .inr (2, [.int (nI iw), .int (nI ih), .ref pT, .ref pR, .ref pN, .ref pB, .double al, .double ac, .double de])), (pT, .inl (cD, (iw * ih), .inr (.inr (.inr (.inl tT))))), (pR, .inl (cD, (iw * ih), .inr (.inr (.inr (.inl tR))))), (pN, .inl (cD, (iw * ih), .inr (.inr (.inr (.inl tN))))), (pB, .inr (0, [.ref bP, .ref bF, .ref bL, .ref bH, .int (nI nb)])), (bP, .inl (cI, 12, .inl uP)), (bF, .inl (cI, 12, .inl uF)), (bL, .inl (cI, 12, .inl uL)), (bH, .inl (cD, 12, .inr (.inr (.inr (.inl uH))))), (aM, .inr (1, [.ref aP, .null, .null, .null, .null, .int 0]))] := hD
  refine lv_aload_n hx hb dX1_init_9 rfl (lv_at hl 0 rfl) ?_
  refine lv_iconst (v := (nI 4)) hx hb dX1_init_10 (by decide) ?_
  refine lv_aload_n hx hb dX1_init_11 rfl (lv_at hl 1 rfl) ?_
  have hPc := hP.sub (ws' := [(aP, .inr (2, [.int (nI iw), .int (nI ih), .ref pT, .ref pR, .ref pN, .ref pB, .double al, .double ac, .double de])), (pT, .inl (cD, (iw * ih), .inr (.inr (.inr (.inl tT))))), (pR, .inl (cD, (iw * ih), .inr (.inr (.inr (.inl tR))))), (pN, .inl (cD, (iw * ih), .inr (.inr (.inr (.inl tN))))), (pB, .inr (0, [.ref bP, .ref bF, .ref bL, .ref bH, .int (nI nb)])), (bP, .inl (cI, 12, .inl uP)), (bF, .inl (cI, 12, .inl uF)), (bL, .inl (cI, 12, .inl uL)), (bH, .inl (cD, 12, .inr (.inr (.inr (.inl uH)))))]) [0, 1, 2, 3, 4, 5, 6, 7, 8] rfl
  refine va_calli (va_runV (As := []) (rest := [.int (nI 4), .ref aM]) ⟨hx, hb, hml, hown, hts⟩ (c2_cells l dC dI aP pT pR pN pB bP bF bL bH cD cI cQ iw ih al ac de nb tT tR tN uP uF uL uH hw6 hh6) (cwV 0 hts gX1_init_X2_cells rfl rfl rfl (by decide +kernel) ⟨Nat.le_of_ble_eq_true rfl, Nat.le_of_ble_eq_true rfl⟩) ⟨zfb, va_recv hK hP (ci := 2) (q0 := 0) rfl rfl, zpre hPc hK⟩ rfl rfl hl.1 rfl (lv_room (Nat.le_of_ble_eq_true rfl)) dX1_init_12 ⟨Nat.le_of_ble_eq_true rfl, Nat.le_of_ble_eq_true rfl⟩) hS (fun q _ h => h.elim) (fun q h => h.elim) (fun r1 u9 t9 H locs ht9 hvm9 hr1 hB9 hz9 hk1 hS => ?_)
  have hP := zro1 hP hk1
  subst hr1
  refine z_mna4 (n := iw * ih) (cD := cD) hx hb hown (hts (.classLink RX1 21 "[[D") (by decide +kernel)) hAO (hts (.arrayClass .double) (by decide +kernel)) hK rfl hP hD hS hA hn36 (Nat.le_of_ble_eq_true rfl) (Nat.le_of_ble_eq_true rfl) dX1_init_15 (fun aQ ro0 ro1 ro2 ro3 cA9 H hK9 hP hD hS => ?_)
  obtain rfl : cQ = cA9 := zK_eq (ty := .array .double) hK9 2 3 rfl rfl
  have hP : va_P (dC, dI) vwCl [(aP, .inr (2, [.int (nI iw), .int (nI ih), .ref pT, .ref pR, .ref pN, .ref pB, .double al, .double ac, .double de])), (pT, .inl (cD, (iw * ih), .inr (.inr (.inr (.inl tT))))), (pR, .inl (cD, (iw * ih), .inr (.inr (.inr (.inl tR))))), (pN, .inl (cD, (iw * ih), .inr (.inr (.inr (.inl tN))))), (pB, .inr (0, [.ref bP, .ref bF, .ref bL, .ref bH, .int (nI nb)])), (bP, .inl (cI, 12, .inl uP)), (bF, .inl (cI, 12, .inl uF)), (bL, .inl (cI, 12, .inl uL)), (bH, .inl (cD, 12, .inr (.inr (.inr (.inl uH))))), (aM, .inr (1, [.ref aP, .null, .null, .null, .null, .int 0])), (aQ, .inl (cQ, 4, .inr (.inr (.inr (.inr (zq4 ro0 ro1 ro2 ro3)))))), (ro0, .inl (cD, (iw * ih), .inr (.inr (.inr (.inl (fun _ => 0)))))), (ro1, .inl (cD, (iw * ih), .inr (.inr (.inr (.inl (fun _ => 0)))))), (ro2, .inl (cD, (iw * ih), .inr (.inr (.inr (.inl (fun _ => 0)))))), (ro3, .inl (cD, (iw * ih), .inr (.inr (.inr (.inl (fun _ => 0))))))] H := hP
  have hD : va_D A [(aP, .inr (2, [.int (nI iw), .int (nI ih), .ref pT, .ref pR, .ref pN, .ref pB, .double al, .double ac, .double de])), (pT, .inl (cD, (iw * ih), .inr (.inr (.inr (.inl tT))))), (pR, .inl (cD, (iw * ih), .inr (.inr (.inr (.inl tR))))), (pN, .inl (cD, (iw * ih), .inr (.inr (.inr (.inl tN))))), (pB, .inr (0, [.ref bP, .ref bF, .ref bL, .ref bH, .int (nI nb)])), (bP, .inl (cI, 12, .inl uP)), (bF, .inl (cI, 12, .inl uF)), (bL, .inl (cI, 12, .inl uL)), (bH, .inl (cD, 12, .inr (.inr (.inr (.inl uH))))), (aM, .inr (1, [.ref aP, .null, .null, .null, .null, .int 0])), (aQ, .inl (cQ, 4, .inr (.inr (.inr (.inr (zq4 ro0 ro1 ro2 ro3)))))), (ro0, .inl (cD, (iw * ih), .inr (.inr (.inr (.inl (fun _ => 0)))))), (ro1, .inl (cD, (iw * ih), .inr (.inr (.inr (.inl (fun _ => 0)))))), (ro2, .inl (cD, (iw * ih), .inr (.inr (.inr (.inl (fun _ => 0)))))), (ro3, .inl (cD, (iw * ih), .inr (.inr (.inr (.inl (fun _ => 0))))))] := hD
  refine va_putF (D := (dC, dI)) (ci := 1) (v := .ref aQ) (ty := .array (.array .double)) (C := RX1) (T := TX1) (N := 6) hx hb hts (in_X1_init_X1) tyX1 tyX1_ok nmX1 hown hK hP hD hS 9 rfl rfl 1 (by decide) (hts (.fieldLink RX1 23 "PlateModes$ModeSet" "shapes" "[[D") (by decide +kernel)) (fun _ h9 => h9) rfl hin rfl (by decide +kernel) rfl rfl (Nat.le_of_ble_eq_true rfl) dX1_init_19 (fun H locs hP hD hS => ?_)
  have hP : va_P (dC, dI) vwCl [(aP, .inr (2, [.int (nI iw), .int (nI ih), .ref pT, .ref pR, .ref pN, .ref pB, .double al, .double ac, .double de])), (pT, .inl (cD, (iw * ih), .inr (.inr (.inr (.inl tT))))), (pR, .inl (cD, (iw * ih), .inr (.inr (.inr (.inl tR))))), (pN, .inl (cD, (iw * ih), .inr (.inr (.inr (.inl tN))))), (pB, .inr (0, [.ref bP, .ref bF, .ref bL, .ref bH, .int (nI nb)])), (bP, .inl (cI, 12, .inl uP)), (bF, .inl (cI, 12, .inl uF)), (bL, .inl (cI, 12, .inl uL)), (bH, .inl (cD, 12, .inr (.inr (.inr (.inl uH))))), (aM, .inr (1, [.ref aP, .ref aQ, .null, .null, .null, .int 0])), (aQ, .inl (cQ, 4, .inr (.inr (.inr (.inr (zq4 ro0 ro1 ro2 ro3)))))), (ro0, .inl (cD, (iw * ih), .inr (.inr (.inr (.inl (fun _ => 0)))))), (ro1, .inl (cD, (iw * ih), .inr (.inr (.inr (.inl (fun _ => 0)))))), (ro2, .inl (cD, (iw * ih), .inr (.inr (.inr (.inl (fun _ => 0)))))), (ro3, .inl (cD, (iw * ih), .inr (.inr (.inr (.inl (fun _ => 0))))))] H := hP
  have hD : va_D A [(aP, .inr (2, [.int (nI iw), .int (nI ih), .ref pT, .ref pR, .ref pN, .ref pB, .double al, .double ac, .double de])), (pT, .inl (cD, (iw * ih), .inr (.inr (.inr (.inl tT))))), (pR, .inl (cD, (iw * ih), .inr (.inr (.inr (.inl tR))))), (pN, .inl (cD, (iw * ih), .inr (.inr (.inr (.inl tN))))), (pB, .inr (0, [.ref bP, .ref bF, .ref bL, .ref bH, .int (nI nb)])), (bP, .inl (cI, 12, .inl uP)), (bF, .inl (cI, 12, .inl uF)), (bL, .inl (cI, 12, .inl uL)), (bH, .inl (cD, 12, .inr (.inr (.inr (.inl uH))))), (aM, .inr (1, [.ref aP, .ref aQ, .null, .null, .null, .int 0])), (aQ, .inl (cQ, 4, .inr (.inr (.inr (.inr (zq4 ro0 ro1 ro2 ro3)))))), (ro0, .inl (cD, (iw * ih), .inr (.inr (.inr (.inl (fun _ => 0)))))), (ro1, .inl (cD, (iw * ih), .inr (.inr (.inr (.inl (fun _ => 0)))))), (ro2, .inl (cD, (iw * ih), .inr (.inr (.inr (.inl (fun _ => 0)))))), (ro3, .inl (cD, (iw * ih), .inr (.inr (.inr (.inl (fun _ => 0))))))] := hD
  refine lv_aload_n hx hb dX1_init_22 rfl (lv_at hl 0 rfl) ?_
  refine lv_iconst (v := (nI 4)) hx hb dX1_init_23 (by decide) ?_
  refine va_newa (atype := .double) (ty := .double) hx hb (hts (.arrayClass .double) (by decide +kernel)) rfl hK hP hD hS hA (N' := 4) (a0 := (4, .inr (.inr (.inr (.inl (fun _ => 0)))))) (fun _ => rfl) (by decide) (nI_clamp (by decide)) (by decide) (Nat.le_of_ble_eq_true rfl) (Nat.le_of_ble_eq_true rfl) dX1_init_24 (fun q2 cA9 H hK9 hP hD hS => ?_)
  obtain rfl : cD = cA9 := zK_eq (ty := .double) hK9 0 3 rfl rfl
  have hK := hK9.sub (tys' := [(cD, .double), (cI, .int), (cQ, .array .double)]) [0, 1, 2] rfl
  have hP : va_P (dC, dI) vwCl [(aP, .inr (2, [.int (nI iw), .int (nI ih), .ref pT, .ref pR, .ref pN, .ref pB, .double al, .double ac, .double de])), (pT, .inl (cD, (iw * ih), .inr (.inr (.inr (.inl tT))))), (pR, .inl (cD, (iw * ih), .inr (.inr (.inr (.inl tR))))), (pN, .inl (cD, (iw * ih), .inr (.inr (.inr (.inl tN))))), (pB, .inr (0, [.ref bP, .ref bF, .ref bL, .ref bH, .int (nI nb)])), (bP, .inl (cI, 12, .inl uP)), (bF, .inl (cI, 12, .inl uF)), (bL, .inl (cI, 12, .inl uL)), (bH, .inl (cD, 12, .inr (.inr (.inr (.inl uH))))), (aM, .inr (1, [.ref aP, .ref aQ, .null, .null, .null, .int 0])), (aQ, .inl (cQ, 4, .inr (.inr (.inr (.inr (zq4 ro0 ro1 ro2 ro3)))))), (ro0, .inl (cD, (iw * ih), .inr (.inr (.inr (.inl (fun _ => 0)))))), (ro1, .inl (cD, (iw * ih), .inr (.inr (.inr (.inl (fun _ => 0)))))), (ro2, .inl (cD, (iw * ih), .inr (.inr (.inr (.inl (fun _ => 0)))))), (ro3, .inl (cD, (iw * ih), .inr (.inr (.inr (.inl (fun _ => 0)))))), (q2, .inl (cD, 4, .inr (.inr (.inr (.inl (fun _ => 0))))))] H := hP
  have hD : va_D A [(aP, .inr (2, [.int (nI iw), .int (nI ih), .ref pT, .ref pR, .ref pN, .ref pB, .double al, .double ac, .double de])), (pT, .inl (cD, (iw * ih), .inr (.inr (.inr (.inl tT))))), (pR, .inl (cD, (iw * ih), .inr (.inr (.inr (.inl tR))))), (pN, .inl (cD, (iw * ih), .inr (.inr (.inr (.inl tN))))), (pB, .inr (0, [.ref bP, .ref bF, .ref bL, .ref bH, .int (nI nb)])), (bP, .inl (cI, 12, .inl uP)), (bF, .inl (cI, 12, .inl uF)), (bL, .inl (cI, 12, .inl uL)), (bH, .inl (cD, 12, .inr (.inr (.inr (.inl uH))))), (aM, .inr (1, [.ref aP, .ref aQ, .null, .null, .null, .int 0])), (aQ, .inl (cQ, 4, .inr (.inr (.inr (.inr (zq4 ro0 ro1 ro2 ro3)))))), (ro0, .inl (cD, (iw * ih), .inr (.inr (.inr (.inl (fun _ => 0)))))), (ro1, .inl (cD, (iw * ih), .inr (.inr (.inr (.inl (fun _ => 0)))))), (ro2, .inl (cD, (iw * ih), .inr (.inr (.inr (.inl (fun _ => 0)))))), (ro3, .inl (cD, (iw * ih), .inr (.inr (.inr (.inl (fun _ => 0)))))), (q2, .inl (cD, 4, .inr (.inr (.inr (.inl (fun _ => 0))))))] := hD
  refine va_putF (D := (dC, dI)) (ci := 1) (v := .ref q2) (ty := .array .double) (C := RX1) (T := TX1) (N := 6) hx hb hts (in_X1_init_X1) tyX1 tyX1_ok nmX1 hown hK hP hD hS 9 rfl rfl 2 (by decide) (hts (.fieldLink RX1 26 "PlateModes$ModeSet" "squares" "[D") (by decide +kernel)) (fun _ h9 => h9) rfl hin rfl (by decide +kernel) rfl rfl (Nat.le_of_ble_eq_true rfl) dX1_init_26 (fun H locs hP hD hS => ?_)
  have hP : va_P (dC, dI) vwCl [(aP, .inr (2, [.int (nI iw), .int (nI ih), .ref pT, .ref pR, .ref pN, .ref pB, .double al, .double ac, .double de])), (pT, .inl (cD, (iw * ih), .inr (.inr (.inr (.inl tT))))), (pR, .inl (cD, (iw * ih), .inr (.inr (.inr (.inl tR))))), (pN, .inl (cD, (iw * ih), .inr (.inr (.inr (.inl tN))))), (pB, .inr (0, [.ref bP, .ref bF, .ref bL, .ref bH, .int (nI nb)])), (bP, .inl (cI, 12, .inl uP)), (bF, .inl (cI, 12, .inl uF)), (bL, .inl (cI, 12, .inl uL)), (bH, .inl (cD, 12, .inr (.inr (.inr (.inl uH))))), (aM, .inr (1, [.ref aP, .ref aQ, .ref q2, .null, .null, .int 0])), (aQ, .inl (cQ, 4, .inr (.inr (.inr (.inr (zq4 ro0 ro1 ro2 ro3)))))), (ro0, .inl (cD, (iw * ih), .inr (.inr (.inr (.inl (fun _ => 0)))))), (ro1, .inl (cD, (iw * ih), .inr (.inr (.inr (.inl (fun _ => 0)))))), (ro2, .inl (cD, (iw * ih), .inr (.inr (.inr (.inl (fun _ => 0)))))), (ro3, .inl (cD, (iw * ih), .inr (.inr (.inr (.inl (fun _ => 0)))))), (q2, .inl (cD, 4, .inr (.inr (.inr (.inl (fun _ => 0))))))] H := hP
  have hD : va_D A [(aP, .inr (2, [.int (nI iw), .int (nI ih), .ref pT, .ref pR, .ref pN, .ref pB, .double al, .double ac, .double de])), (pT, .inl (cD, (iw * ih), .inr (.inr (.inr (.inl tT))))), (pR, .inl (cD, (iw * ih), .inr (.inr (.inr (.inl tR))))), (pN, .inl (cD, (iw * ih), .inr (.inr (.inr (.inl tN))))), (pB, .inr (0, [.ref bP, .ref bF, .ref bL, .ref bH, .int (nI nb)])), (bP, .inl (cI, 12, .inl uP)), (bF, .inl (cI, 12, .inl uF)), (bL, .inl (cI, 12, .inl uL)), (bH, .inl (cD, 12, .inr (.inr (.inr (.inl uH))))), (aM, .inr (1, [.ref aP, .ref aQ, .ref q2, .null, .null, .int 0])), (aQ, .inl (cQ, 4, .inr (.inr (.inr (.inr (zq4 ro0 ro1 ro2 ro3)))))), (ro0, .inl (cD, (iw * ih), .inr (.inr (.inr (.inl (fun _ => 0)))))), (ro1, .inl (cD, (iw * ih), .inr (.inr (.inr (.inl (fun _ => 0)))))), (ro2, .inl (cD, (iw * ih), .inr (.inr (.inr (.inl (fun _ => 0)))))), (ro3, .inl (cD, (iw * ih), .inr (.inr (.inr (.inl (fun _ => 0)))))), (q2, .inl (cD, 4, .inr (.inr (.inr (.inl (fun _ => 0))))))] := hD
  refine lv_aload_n hx hb dX1_init_29 rfl (lv_at hl 0 rfl) ?_
  refine lv_iconst (v := (nI 4)) hx hb dX1_init_30 (by decide) ?_
  refine va_newa (atype := .double) (ty := .double) hx hb (hts (.arrayClass .double) (by decide +kernel)) rfl hK hP hD hS hA (N' := 4) (a0 := (4, .inr (.inr (.inr (.inl (fun _ => 0)))))) (fun _ => rfl) (by decide) (nI_clamp (by decide)) (by decide) (Nat.le_of_ble_eq_true rfl) (Nat.le_of_ble_eq_true rfl) dX1_init_31 (fun q3 cA9 H hK9 hP hD hS => ?_)
  obtain rfl : cD = cA9 := zK_eq (ty := .double) hK9 0 3 rfl rfl
  have hK := hK9.sub (tys' := [(cD, .double), (cI, .int), (cQ, .array .double)]) [0, 1, 2] rfl
  have hP : va_P (dC, dI) vwCl [(aP, .inr (2, [.int (nI iw), .int (nI ih), .ref pT, .ref pR, .ref pN, .ref pB, .double al, .double ac, .double de])), (pT, .inl (cD, (iw * ih), .inr (.inr (.inr (.inl tT))))), (pR, .inl (cD, (iw * ih), .inr (.inr (.inr (.inl tR))))), (pN, .inl (cD, (iw * ih), .inr (.inr (.inr (.inl tN))))), (pB, .inr (0, [.ref bP, .ref bF, .ref bL, .ref bH, .int (nI nb)])), (bP, .inl (cI, 12, .inl uP)), (bF, .inl (cI, 12, .inl uF)), (bL, .inl (cI, 12, .inl uL)), (bH, .inl (cD, 12, .inr (.inr (.inr (.inl uH))))), (aM, .inr (1, [.ref aP, .ref aQ, .ref q2, .null, .null, .int 0])), (aQ, .inl (cQ, 4, .inr (.inr (.inr (.inr (zq4 ro0 ro1 ro2 ro3)))))), (ro0, .inl (cD, (iw * ih), .inr (.inr (.inr (.inl (fun _ => 0)))))), (ro1, .inl (cD, (iw * ih), .inr (.inr (.inr (.inl (fun _ => 0)))))), (ro2, .inl (cD, (iw * ih), .inr (.inr (.inr (.inl (fun _ => 0)))))), (ro3, .inl (cD, (iw * ih), .inr (.inr (.inr (.inl (fun _ => 0)))))), (q2, .inl (cD, 4, .inr (.inr (.inr (.inl (fun _ => 0)))))), (q3, .inl (cD, 4, .inr (.inr (.inr (.inl (fun _ => 0))))))] H := hP
  have hD : va_D A [(aP, .inr (2, [.int (nI iw), .int (nI ih), .ref pT, .ref pR, .ref pN, .ref pB, .double al, .double ac, .double de])), (pT, .inl (cD, (iw * ih), .inr (.inr (.inr (.inl tT))))), (pR, .inl (cD, (iw * ih), .inr (.inr (.inr (.inl tR))))), (pN, .inl (cD, (iw * ih), .inr (.inr (.inr (.inl tN))))), (pB, .inr (0, [.ref bP, .ref bF, .ref bL, .ref bH, .int (nI nb)])), (bP, .inl (cI, 12, .inl uP)), (bF, .inl (cI, 12, .inl uF)), (bL, .inl (cI, 12, .inl uL)), (bH, .inl (cD, 12, .inr (.inr (.inr (.inl uH))))), (aM, .inr (1, [.ref aP, .ref aQ, .ref q2, .null, .null, .int 0])), (aQ, .inl (cQ, 4, .inr (.inr (.inr (.inr (zq4 ro0 ro1 ro2 ro3)))))), (ro0, .inl (cD, (iw * ih), .inr (.inr (.inr (.inl (fun _ => 0)))))), (ro1, .inl (cD, (iw * ih), .inr (.inr (.inr (.inl (fun _ => 0)))))), (ro2, .inl (cD, (iw * ih), .inr (.inr (.inr (.inl (fun _ => 0)))))), (ro3, .inl (cD, (iw * ih), .inr (.inr (.inr (.inl (fun _ => 0)))))), (q2, .inl (cD, 4, .inr (.inr (.inr (.inl (fun _ => 0)))))), (q3, .inl (cD, 4, .inr (.inr (.inr (.inl (fun _ => 0))))))] := hD
  refine va_putF (D := (dC, dI)) (ci := 1) (v := .ref q3) (ty := .array .double) (C := RX1) (T := TX1) (N := 6) hx hb hts (in_X1_init_X1) tyX1 tyX1_ok nmX1 hown hK hP hD hS 9 rfl rfl 3 (by decide) (hts (.fieldLink RX1 30 "PlateModes$ModeSet" "residues" "[D") (by decide +kernel)) (fun _ h9 => h9) rfl hin rfl (by decide +kernel) rfl rfl (Nat.le_of_ble_eq_true rfl) dX1_init_33 (fun H locs hP hD hS => ?_)
  have hP : va_P (dC, dI) vwCl [(aP, .inr (2, [.int (nI iw), .int (nI ih), .ref pT, .ref pR, .ref pN, .ref pB, .double al, .double ac, .double de])), (pT, .inl (cD, (iw * ih), .inr (.inr (.inr (.inl tT))))), (pR, .inl (cD, (iw * ih), .inr (.inr (.inr (.inl tR))))), (pN, .inl (cD, (iw * ih), .inr (.inr (.inr (.inl tN))))), (pB, .inr (0, [.ref bP, .ref bF, .ref bL, .ref bH, .int (nI nb)])), (bP, .inl (cI, 12, .inl uP)), (bF, .inl (cI, 12, .inl uF)), (bL, .inl (cI, 12, .inl uL)), (bH, .inl (cD, 12, .inr (.inr (.inr (.inl uH))))), (aM, .inr (1, [.ref aP, .ref aQ, .ref q2, .ref q3, .null, .int 0])), (aQ, .inl (cQ, 4, .inr (.inr (.inr (.inr (zq4 ro0 ro1 ro2 ro3)))))), (ro0, .inl (cD, (iw * ih), .inr (.inr (.inr (.inl (fun _ => 0)))))), (ro1, .inl (cD, (iw * ih), .inr (.inr (.inr (.inl (fun _ => 0)))))), (ro2, .inl (cD, (iw * ih), .inr (.inr (.inr (.inl (fun _ => 0)))))), (ro3, .inl (cD, (iw * ih), .inr (.inr (.inr (.inl (fun _ => 0)))))), (q2, .inl (cD, 4, .inr (.inr (.inr (.inl (fun _ => 0)))))), (q3, .inl (cD, 4, .inr (.inr (.inr (.inl (fun _ => 0))))))] H := hP
  have hD : va_D A [(aP, .inr (2, [.int (nI iw), .int (nI ih), .ref pT, .ref pR, .ref pN, .ref pB, .double al, .double ac, .double de])), (pT, .inl (cD, (iw * ih), .inr (.inr (.inr (.inl tT))))), (pR, .inl (cD, (iw * ih), .inr (.inr (.inr (.inl tR))))), (pN, .inl (cD, (iw * ih), .inr (.inr (.inr (.inl tN))))), (pB, .inr (0, [.ref bP, .ref bF, .ref bL, .ref bH, .int (nI nb)])), (bP, .inl (cI, 12, .inl uP)), (bF, .inl (cI, 12, .inl uF)), (bL, .inl (cI, 12, .inl uL)), (bH, .inl (cD, 12, .inr (.inr (.inr (.inl uH))))), (aM, .inr (1, [.ref aP, .ref aQ, .ref q2, .ref q3, .null, .int 0])), (aQ, .inl (cQ, 4, .inr (.inr (.inr (.inr (zq4 ro0 ro1 ro2 ro3)))))), (ro0, .inl (cD, (iw * ih), .inr (.inr (.inr (.inl (fun _ => 0)))))), (ro1, .inl (cD, (iw * ih), .inr (.inr (.inr (.inl (fun _ => 0)))))), (ro2, .inl (cD, (iw * ih), .inr (.inr (.inr (.inl (fun _ => 0)))))), (ro3, .inl (cD, (iw * ih), .inr (.inr (.inr (.inl (fun _ => 0)))))), (q2, .inl (cD, 4, .inr (.inr (.inr (.inl (fun _ => 0)))))), (q3, .inl (cD, 4, .inr (.inr (.inr (.inl (fun _ => 0))))))] := hD
  refine lv_aload_n hx hb dX1_init_36 rfl (lv_at hl 0 rfl) ?_
  refine lv_iconst (v := (nI 4)) hx hb dX1_init_37 (by decide) ?_
  refine va_newa (atype := .double) (ty := .double) hx hb (hts (.arrayClass .double) (by decide +kernel)) rfl hK hP hD hS hA (N' := 4) (a0 := (4, .inr (.inr (.inr (.inl (fun _ => 0)))))) (fun _ => rfl) (by decide) (nI_clamp (by decide)) (by decide) (Nat.le_of_ble_eq_true rfl) (Nat.le_of_ble_eq_true rfl) dX1_init_38 (fun q4 cA9 H hK9 hP hD hS => ?_)
  obtain rfl : cD = cA9 := zK_eq (ty := .double) hK9 0 3 rfl rfl
  have hK := hK9.sub (tys' := [(cD, .double), (cI, .int), (cQ, .array .double)]) [0, 1, 2] rfl
  have hP : va_P (dC, dI) vwCl [(aP, .inr (2, [.int (nI iw), .int (nI ih), .ref pT, .ref pR, .ref pN, .ref pB, .double al, .double ac, .double de])), (pT, .inl (cD, (iw * ih), .inr (.inr (.inr (.inl tT))))), (pR, .inl (cD, (iw * ih), .inr (.inr (.inr (.inl tR))))), (pN, .inl (cD, (iw * ih), .inr (.inr (.inr (.inl tN))))), (pB, .inr (0, [.ref bP, .ref bF, .ref bL, .ref bH, .int (nI nb)])), (bP, .inl (cI, 12, .inl uP)), (bF, .inl (cI, 12, .inl uF)), (bL, .inl (cI, 12, .inl uL)), (bH, .inl (cD, 12, .inr (.inr (.inr (.inl uH))))), (aM, .inr (1, [.ref aP, .ref aQ, .ref q2, .ref q3, .null, .int 0])), (aQ, .inl (cQ, 4, .inr (.inr (.inr (.inr (zq4 ro0 ro1 ro2 ro3)))))), (ro0, .inl (cD, (iw * ih), .inr (.inr (.inr (.inl (fun _ => 0)))))), (ro1, .inl (cD, (iw * ih), .inr (.inr (.inr (.inl (fun _ => 0)))))), (ro2, .inl (cD, (iw * ih), .inr (.inr (.inr (.inl (fun _ => 0)))))), (ro3, .inl (cD, (iw * ih), .inr (.inr (.inr (.inl (fun _ => 0)))))), (q2, .inl (cD, 4, .inr (.inr (.inr (.inl (fun _ => 0)))))), (q3, .inl (cD, 4, .inr (.inr (.inr (.inl (fun _ => 0)))))), (q4, .inl (cD, 4, .inr (.inr (.inr (.inl (fun _ => 0))))))] H := hP
  have hD : va_D A [(aP, .inr (2, [.int (nI iw), .int (nI ih), .ref pT, .ref pR, .ref pN, .ref pB, .double al, .double ac, .double de])), (pT, .inl (cD, (iw * ih), .inr (.inr (.inr (.inl tT))))), (pR, .inl (cD, (iw * ih), .inr (.inr (.inr (.inl tR))))), (pN, .inl (cD, (iw * ih), .inr (.inr (.inr (.inl tN))))), (pB, .inr (0, [.ref bP, .ref bF, .ref bL, .ref bH, .int (nI nb)])), (bP, .inl (cI, 12, .inl uP)), (bF, .inl (cI, 12, .inl uF)), (bL, .inl (cI, 12, .inl uL)), (bH, .inl (cD, 12, .inr (.inr (.inr (.inl uH))))), (aM, .inr (1, [.ref aP, .ref aQ, .ref q2, .ref q3, .null, .int 0])), (aQ, .inl (cQ, 4, .inr (.inr (.inr (.inr (zq4 ro0 ro1 ro2 ro3)))))), (ro0, .inl (cD, (iw * ih), .inr (.inr (.inr (.inl (fun _ => 0)))))), (ro1, .inl (cD, (iw * ih), .inr (.inr (.inr (.inl (fun _ => 0)))))), (ro2, .inl (cD, (iw * ih), .inr (.inr (.inr (.inl (fun _ => 0)))))), (ro3, .inl (cD, (iw * ih), .inr (.inr (.inr (.inl (fun _ => 0)))))), (q2, .inl (cD, 4, .inr (.inr (.inr (.inl (fun _ => 0)))))), (q3, .inl (cD, 4, .inr (.inr (.inr (.inl (fun _ => 0)))))), (q4, .inl (cD, 4, .inr (.inr (.inr (.inl (fun _ => 0))))))] := hD
  refine va_putF (D := (dC, dI)) (ci := 1) (v := .ref q4) (ty := .array .double) (C := RX1) (T := TX1) (N := 6) hx hb hts (in_X1_init_X1) tyX1 tyX1_ok nmX1 hown hK hP hD hS 9 rfl rfl 4 (by decide) (hts (.fieldLink RX1 33 "PlateModes$ModeSet" "totals" "[D") (by decide +kernel)) (fun _ h9 => h9) rfl hin rfl (by decide +kernel) rfl rfl (Nat.le_of_ble_eq_true rfl) dX1_init_40 (fun H locs hP hD hS => ?_)
  have hP : va_P (dC, dI) vwCl [(aP, .inr (2, [.int (nI iw), .int (nI ih), .ref pT, .ref pR, .ref pN, .ref pB, .double al, .double ac, .double de])), (pT, .inl (cD, (iw * ih), .inr (.inr (.inr (.inl tT))))), (pR, .inl (cD, (iw * ih), .inr (.inr (.inr (.inl tR))))), (pN, .inl (cD, (iw * ih), .inr (.inr (.inr (.inl tN))))), (pB, .inr (0, [.ref bP, .ref bF, .ref bL, .ref bH, .int (nI nb)])), (bP, .inl (cI, 12, .inl uP)), (bF, .inl (cI, 12, .inl uF)), (bL, .inl (cI, 12, .inl uL)), (bH, .inl (cD, 12, .inr (.inr (.inr (.inl uH))))), (aM, .inr (1, [.ref aP, .ref aQ, .ref q2, .ref q3, .ref q4, .int 0])), (aQ, .inl (cQ, 4, .inr (.inr (.inr (.inr (zq4 ro0 ro1 ro2 ro3)))))), (ro0, .inl (cD, (iw * ih), .inr (.inr (.inr (.inl (fun _ => 0)))))), (ro1, .inl (cD, (iw * ih), .inr (.inr (.inr (.inl (fun _ => 0)))))), (ro2, .inl (cD, (iw * ih), .inr (.inr (.inr (.inl (fun _ => 0)))))), (ro3, .inl (cD, (iw * ih), .inr (.inr (.inr (.inl (fun _ => 0)))))), (q2, .inl (cD, 4, .inr (.inr (.inr (.inl (fun _ => 0)))))), (q3, .inl (cD, 4, .inr (.inr (.inr (.inl (fun _ => 0)))))), (q4, .inl (cD, 4, .inr (.inr (.inr (.inl (fun _ => 0))))))] H := hP
  have hD : va_D A [(aP, .inr (2, [.int (nI iw), .int (nI ih), .ref pT, .ref pR, .ref pN, .ref pB, .double al, .double ac, .double de])), (pT, .inl (cD, (iw * ih), .inr (.inr (.inr (.inl tT))))), (pR, .inl (cD, (iw * ih), .inr (.inr (.inr (.inl tR))))), (pN, .inl (cD, (iw * ih), .inr (.inr (.inr (.inl tN))))), (pB, .inr (0, [.ref bP, .ref bF, .ref bL, .ref bH, .int (nI nb)])), (bP, .inl (cI, 12, .inl uP)), (bF, .inl (cI, 12, .inl uF)), (bL, .inl (cI, 12, .inl uL)), (bH, .inl (cD, 12, .inr (.inr (.inr (.inl uH))))), (aM, .inr (1, [.ref aP, .ref aQ, .ref q2, .ref q3, .ref q4, .int 0])), (aQ, .inl (cQ, 4, .inr (.inr (.inr (.inr (zq4 ro0 ro1 ro2 ro3)))))), (ro0, .inl (cD, (iw * ih), .inr (.inr (.inr (.inl (fun _ => 0)))))), (ro1, .inl (cD, (iw * ih), .inr (.inr (.inr (.inl (fun _ => 0)))))), (ro2, .inl (cD, (iw * ih), .inr (.inr (.inr (.inl (fun _ => 0)))))), (ro3, .inl (cD, (iw * ih), .inr (.inr (.inr (.inl (fun _ => 0)))))), (q2, .inl (cD, 4, .inr (.inr (.inr (.inl (fun _ => 0)))))), (q3, .inl (cD, 4, .inr (.inr (.inr (.inl (fun _ => 0)))))), (q4, .inl (cD, 4, .inr (.inr (.inr (.inl (fun _ => 0))))))] := hD
  exact W.vret hx hb hr (fun t ht hW => ⟨⟨(), rfl, trivial, aQ, q2, q3, q4, ro0, ro1, ro2, ro3, by rw [ht]; exact hP.sub [0, 1, 2, 3, 4, 5, 6, 7, 8, 9, 10, 15, 16, 17, 11, 12, 13, 14] rfl, va_K.moved hW.alike hK, hD.sub [0, 1, 2, 3, 4, 5, 6, 7, 8, 9, 10, 15, 16, 17, 11, 12, 13, 14] (by decide) rfl⟩, hS.F ht⟩) hS.2.2 dX1_init_43
