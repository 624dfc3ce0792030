/-! 88: the law: its dispatcher and its loop -/
theorem law_disp {p : Program} {l : Launch} {e : Env} {s : State} {m : MethodId} {below : List Frame} {meth : Method} {c : Code} {b L : Nat} {xs : Nat → Int32} {dC : Nat → ClassId} {dI : Nat → Nat → Nat} {cD cI cQ cL : ClassId} (C0 : zCx p l s m meth c b L xs dC dI cD cI cQ cL) {aC r0 oL oD i : Nat} (hi : i + 6 ≤ L) {d0 : Drawn} (hd0 : s.drawn.sameBut d0 lw_cs) {H : Heap} {locs : List Loc} {ls : Array Slot} {cells slots : Nat} (hc : cells + 8 ≤ 627331) (hn : slots + 48 ≤ 7214076) (hSt : zSt dC dI cD cI cQ cL aC r0 oL oD (zAn s) s.heap H locs) (hl : lv_has ls 10 [(5, .int (nI i)), (4, .ref oD), (3, .ref oL), (2, .ref r0), (1, .ref aC), (0, .ref b)])
    (kk : ∀ (d1 : Drawn) (H1 : Heap) (locs1 : List Loc) (ls1 : Array Slot), s.drawn.sameBut d1 lw_cs → zSt dC dI cD cI cQ cL aC r0 oL oD (zAn s) s.heap H1 locs1 → lv_has ls1 10 [(5, .int (nI i)), (4, .ref oD), (3, .ref oL), (2, .ref r0), (1, .ref aC), (0, .ref b)] → W p l e room_1 (s.setDrawn d1) m #[Value.ref b] below meth c H1 locs1 (cells + 4) (slots + 24) (lw_Z below #[Value.ref b] s) (F0 m 1357 ls1 [])) : W p l e room_1 (s.setDrawn d0) m #[Value.ref b] below meth c H locs cells slots (lw_Z below #[Value.ref b] s) (F0 m 58 ls []) := by
  have hS : va_S (zAn s) s.heap H locs := zSt_elim hSt (fun _ _ _ _ _ _ _ _ _ _ _ _ _ _ _ _ _ _ _ _ _ _ _ _ _ _ _ _ _ _ _ _ _ _ _ _ _ _ _ _ _ _ _ _ _ _ _ _ _ _ _ _ _ _ _ _ _ _ _ _ _ _ _ _ _ _ _ _ _ _ _ _ _ _ _ _ _ _ _ _ _ _ _ _ _ _ _ _ _ _ _ _ _ _ _ _ _ _ _ _ _ _ h9 => h9)
  obtain ⟨hx, hb, hml, hown, hts, hX, hbl, hL, hst, hK, hN, hE, hXN⟩ := id C0
  have hbA : ¬ zAn s b := Nat.not_le.mpr hbl
  refine lv_aload_n hx hb dL_law_58 rfl (lv_at hl 5 rfl) ?_
  refine lv_iload hx hb dL_law_59 (lv_at hl 0 rfl) ?_
  refine z_sld (s := s.setDrawn d0) (i := i) hx hb hX hbl hbA hS (by omega) (by omega) dL_law_61 ?_
  refine lv_bipush (v := 15) hx hb dL_law_62 (by decide) ?_
  refine lv_iand hx hb dL_law_64 ?_
  obtain ⟨j, hj, he⟩ := pk_andE (xs i) (m := 15) 4 (by decide)
  rw [he]
  have hj2 : j = 0 ∨ j = 1 ∨ j = 2 ∨ j = 3 ∨ j = 4 ∨ j = 5 ∨ j = 6 ∨ j = 7 ∨ j = 8 ∨ j = 9 ∨ j = 10 ∨ j = 11 ∨ j = 12 ∨ j = 13 ∨ j = 14 ∨ j = 15 := by omega
  rcases hj2 with rfl | rfl | rfl | rfl | rfl | rfl | rfl | rfl | rfl | rfl | rfl | rfl | rfl | rfl | rfl | rfl
  · refine lv_tableIn hx hb (off := 71) (tgt := 136) dL_law_65 (by decide) (by decide) rfl (by decide) ?_
    exact law_0 C0 hi hd0 hc hn hSt hl kk
  · refine lv_tableIn hx hb (off := 168) (tgt := 233) dL_law_65 (by decide) (by decide) rfl (by decide) ?_
    exact law_1 C0 hi hd0 hc hn hSt hl kk
  · refine lv_tableIn hx hb (off := 258) (tgt := 323) dL_law_65 (by decide) (by decide) rfl (by decide) ?_
    exact law_2 C0 hi hd0 hc hn hSt hl kk
  · refine lv_tableIn hx hb (off := 372) (tgt := 437) dL_law_65 (by decide) (by decide) rfl (by decide) ?_
    exact law_3 C0 hi hd0 hc hn hSt hl kk
  · refine lv_tableIn hx hb (off := 428) (tgt := 493) dL_law_65 (by decide) (by decide) rfl (by decide) ?_
    exact law_4 C0 hi hd0 hc hn hSt hl kk
  · refine lv_tableIn hx hb (off := 517) (tgt := 582) dL_law_65 (by decide) (by decide) rfl (by decide) ?_
    exact law_5 C0 hi hd0 hc hn hSt hl kk
  · refine lv_tableIn hx hb (off := 618) (tgt := 683) dL_law_65 (by decide) (by decide) rfl (by decide) ?_
    exact law_6 C0 hi hd0 hc hn hSt hl kk
  · refine lv_tableIn hx hb (off := 707) (tgt := 772) dL_law_65 (by decide) (by decide) rfl (by decide) ?_
    exact law_7 C0 hi hd0 hc hn hSt hl kk
  · refine lv_tableIn hx hb (off := 748) (tgt := 813) dL_law_65 (by decide) (by decide) rfl (by decide) ?_
    exact law_8 C0 hi hd0 hc hn hSt hl kk
  · refine lv_tableIn hx hb (off := 897) (tgt := 962) dL_law_65 (by decide) (by decide) rfl (by decide) ?_
    exact law_9 C0 hi hd0 hc hn hSt hl kk
  · refine lv_tableIn hx hb (off := 938) (tgt := 1003) dL_law_65 (by decide) (by decide) rfl (by decide) ?_
    exact law_10 C0 hi hd0 hc hn hSt hl kk
  · refine lv_tableIn hx hb (off := 1016) (tgt := 1081) dL_law_65 (by decide) (by decide) rfl (by decide) ?_
    exact law_11 C0 hi hd0 hc hn hSt hl kk
  · refine lv_tableIn hx hb (off := 1104) (tgt := 1169) dL_law_65 (by decide) (by decide) rfl (by decide) ?_
    exact law_12 C0 hi hd0 hc hn hSt hl kk
  · refine lv_tableIn hx hb (off := 1169) (tgt := 1234) dL_law_65 (by decide) (by decide) rfl (by decide) ?_
    exact law_13 C0 hi hd0 hc hn hSt hl kk
  · refine lv_tableOut hx hb (tgt := 1357) dL_law_65 (.inr (by decide)) (by decide) ?_
    refine W.widen (k := cells + 4) (n := slots + 24) (by omega) (by omega) ?_
    exact kk _ _ _ _ hd0 hSt hl
  · refine lv_tableOut hx hb (tgt := 1357) dL_law_65 (.inr (by decide)) (by decide) ?_
    refine W.widen (k := cells + 4) (n := slots + 24) (by omega) (by omega) ?_
    exact kk _ _ _ _ hd0 hSt hl
theorem law_head {p : Program} {l : Launch} {e : Env} {s : State} {m : MethodId} {below : List Frame} {meth : Method} {c : Code} {b L : Nat} {xs : Nat → Int32} {dC : Nat → ClassId} {dI : Nat → Nat → Nat} {cD cI cQ cL : ClassId} (C0 : zCx p l s m meth c b L xs dC dI cD cI cQ cL) {aC r0 oL oD i : Nat} (hr : meth.sig.returnType = ret) (hlocks : meth.locks = false) (hi : i ≤ 4096) {d0 : Drawn} (hd0 : s.drawn.sameBut d0 lw_cs) {H : Heap} {locs : List Loc} {ls : Array Slot} {cells slots : Nat} (hc : cells ≤ 627331) (hn : slots ≤ 7214076) (hSt : zSt dC dI cD cI cQ cL aC r0 oL oD (zAn s) s.heap H locs) (hl : lv_has ls 10 [(5, .int (nI i)), (4, .ref oD), (3, .ref oL), (2, .ref r0), (1, .ref aC), (0, .ref b)])
    (kk : i + 6 ≤ L → W p l e room_1 (s.setDrawn d0) m #[Value.ref b] below meth c H locs cells slots (lw_Z below #[Value.ref b] s) (F0 m 58 ls [])) : W p l e room_1 (s.setDrawn d0) m #[Value.ref b] below meth c H locs cells slots (lw_Z below #[Value.ref b] s) (F0 m 48 ls []) := by
  have hS : va_S (zAn s) s.heap H locs := zSt_elim hSt (fun _ _ _ _ _ _ _ _ _ _ _ _ _ _ _ _ _ _ _ _ _ _ _ _ _ _ _ _ _ _ _ _ _ _ _ _ _ _ _ _ _ _ _ _ _ _ _ _ _ _ _ _ _ _ _ _ _ _ _ _ _ _ _ _ _ _ _ _ _ _ _ _ _ _ _ _ _ _ _ _ _ _ _ _ _ _ _ _ _ _ _ _ _ _ _ _ _ _ _ _ _ _ h9 => h9)
  obtain ⟨hx, hb, hml, hown, hts, hX, hbl, hL, hst, hK, hN, hE, hXN⟩ := id C0
  have hbA : ¬ zAn s b := Nat.not_le.mpr hbl
  refine lv_iload hx hb dL_law_48 (lv_at hl 0 rfl) ?_
  refine lv_aload_n hx hb dL_law_50 rfl (lv_at hl 5 rfl) ?_
  refine va_slen (s := s.setDrawn d0) hx hb hX hbl hbA hS dL_law_51 ?_
  refine lv_bipush (v := nI 6) hx hb dL_law_52 (by decide) ?_
  refine lv_isub hx hb dL_law_54 ?_
  refine lv_icmp_gt (tgt := 1363) hx hb dL_law_55 (by decide) (fun hg => ?_) (fun hg => kk ?_)
  · refine va_forget (fun q hq => hS.2.2 q hq) ?_
    refine W.widen (k := 627331) (n := 7214076) hc hn ?_
    refine lv_iconst (v := 1) hx hb dL_law_1363 (by decide) ?_
    exact lw_ret hd0 hx hb hr hlocks dL_law_1364
  · apply Decidable.byContradiction
    intro h
    apply hg
    show nI L - nI 6 < nI i
    rw [Int32.lt_iff_toInt_lt, pk_sub_toInt (by omega) (by omega), nI_toInt (by omega)]
    omega
theorem law_loop {p : Program} {l : Launch} {e : Env} {s : State} {m : MethodId} {below : List Frame} {meth : Method} {c : Code} {b L : Nat} {xs : Nat → Int32} {dC : Nat → ClassId} {dI : Nat → Nat → Nat} {cD cI cQ cL : ClassId} (C0 : zCx p l s m meth c b L xs dC dI cD cI cQ cL) {aC r0 oL oD : Nat} (hr : meth.sig.returnType = ret) (hlocks : meth.locks = false) : ∀ (t i : Nat) {d0 : Drawn} (_ : s.drawn.sameBut d0 lw_cs)  {H : Heap} {locs : List Loc} {ls : Array Slot} {cells slots : Nat}, L < i + 6 * (t + 1) → i ≤ 3080 → cells + 4 * t + 8 ≤ 627331 → slots + 24 * t + 48 ≤ 7214076 → zSt dC dI cD cI cQ cL aC r0 oL oD (zAn s) s.heap H locs → lv_has ls 10 [(5, .int (nI i)), (4, .ref oD), (3, .ref oL), (2, .ref r0), (1, .ref aC), (0, .ref b)] →
    W p l e room_1 (s.setDrawn d0) m #[Value.ref b] below meth c H locs cells slots (lw_Z below #[Value.ref b] s) (F0 m 48 ls []) := by
  have hx := C0.1
  have hb := C0.2.1
  have hL := C0.2.2.2.2.2.2.2.1
  intro t
  induction t with
  | zero =>
    intro i d0 hd0 H locs ls cells slots hm hi hc hn hSt hl
    exact law_head C0 hr hlocks (by omega) hd0 (by omega) (by omega) hSt hl (fun h => absurd h (by omega))
  | succ t ih =>
    intro i d0 hd0 H locs ls cells slots hm hi hc hn hSt hl
    refine law_head C0 hr hlocks (by omega) hd0 (by omega) (by omega) hSt hl (fun h => ?_)
    refine law_disp C0 h hd0 (by omega) (by omega) hSt hl (fun d1 H1 locs1 ls1 hd1 hSt1 hl1 => ?_)
    refine lv_iinc (k := 0) (v := nI (i + 6)) hx hb dL_law_1357 hl1 rfl (zi_add rfl) (by decide) rfl (fun ls2 hl2 => ?_)
    refine lv_goto (tgt := 48) hx hb dL_law_1360 (by decide) ?_
    exact ih (i + 6) hd1 (by omega) (by omega) (by omega) (by omega) hSt1 hl2
