/-! 05: the reference: its methods that only read -/
/-- the reference's cells -/
abbrev w5 (a0 aT aE aG aR aN aS aQ aW aX : Nat) (cD cI : ClassId) (th : Int32) (iw ih : Nat) (fa fb fd : UInt64) (ib : Nat) (mk : Bool) (im iq : Nat) (tT : Nat → UInt64) (tE : Nat → Int32) (tG tR tN tS tQ : Nat → UInt64) (tW : Nat → Int32) (tX : Nat → UInt64) : va_W :=
  [(a0, .inr (5, [.int th, .int (nI iw), .int (nI ih), .ref aT, .double fa, .double fb, .double fd, .int (nI ib), .ref aE, .ref aG, .ref aR, .ref aN, .int (zb mk), .int (nI im), .ref aS, .ref aQ, .int (nI iq), .ref aW, .ref aX])), (aT, .inl (cD, 36, .inr (.inr (.inr (.inl tT))))), (aE, .inl (cI, 48, .inl tE)), (aG, .inl (cD, 12, .inr (.inr (.inr (.inl tG))))), (aR, .inl (cD, 36, .inr (.inr (.inr (.inl tR))))), (aN, .inl (cD, 36, .inr (.inr (.inr (.inl tN))))), (aS, .inl (cD, 144, .inr (.inr (.inr (.inl tS))))), (aQ, .inl (cD, 4, .inr (.inr (.inr (.inl tQ))))), (aW, .inl (cI, 4, .inl tW)), (aX, .inl (cD, 4, .inr (.inr (.inr (.inl tX)))))]
set_option maxHeartbeats 4000000 in
set_option maxRecDepth 100000 in
/-- from <= v <= to -/
theorem c5_between (l : Launch) (v v0 v1 : UInt64) : Met l yX5_between wsX5_between ({ frames := 0, cells := 0, slots := 0, locals := 0 } : Room) (va_Pc [.double v, .double v0, .double v1] (fun _ => True)) (va_Qi (fun (r : Int32) (_ : Unit) => r = zb (zge (zv v) (zv v0) && zle (zv v) (zv v1))) (fun _ _ => True) (fun _ => False)) 0 0 (fun _ => False) := by
  refine Met.ofW (cc := cX5_between) (maxL := 6) (ret := (some .boolean)) (by decide) rfl ?_
  intro p e s m args below meth c s₁ B hml hv
  obtain ⟨rfl, -⟩ := hv
  have hx := B.exec
  have hb := B.bytes
  have hr := B.returns
  have hts := atoms_spec (ws := wsX5_between) B.pre
  have hown : s.vm.findClass RX5 = some m.cls := findClass_of_methodNamed B.named
  have hlocks := B.notSynchronized
  have hS : va_S (fun _ => False) s.heap s.heap [] := va_S.rf
  have hl := lv_entry ([.double v, .double v0, .double v1]) (n := 6) (Nat.le_of_ble_eq_true rfl)
  rw [lg_entry_eq]
  generalize (lg_sl ([.double v, .double v0, .double v1]) ++ List.replicate (6 - (lg_sl ([.double v, .double v0, .double v1])).length) Slot.unset).toArray = ls at hl ⊢
  have hl : lv_has ls 6 [(0, .double v), (2, .double v0), (4, .double v1)] := hl
  refine lv_dload_n hx hb dX5_between_0 rfl (lv_at hl 0 rfl) ?_
  refine lv_dload_n hx hb dX5_between_1 rfl (lv_at hl 1 rfl) ?_
  refine z_cmp_l_lt (tgt := 17) hx hb (a := zv v) (b := zv v0) rfl rfl dX5_between_2 dX5_between_3 (by decide) (fun c1 => ?_) (fun c2 => ?_)
  · skip
    have c_ge := c1
    refine lv_iconst (v := (nI 0)) hx hb dX5_between_17 (by decide) ?_
    exact W.zret (v := (nI 0)) hx hb hr rfl (fun t ht hW => ⟨⟨(nI 0), (), rfl, ⟨by rw [c_ge]; rfl, trivial⟩⟩, hS.F ht⟩) hS.2.2 dX5_between_18
  · skip
    have c_ge := c2
    refine lv_dload_n hx hb dX5_between_6 rfl (lv_at hl 0 rfl) ?_
    refine lv_dload hx hb dX5_between_7 (lv_at hl 2 rfl) ?_
    refine z_cmp_g_gt (tgt := 17) hx hb (a := zv v) (b := zv v1) rfl rfl dX5_between_9 dX5_between_10 (by decide) (fun c3 => ?_) (fun c4 => ?_)
    · skip
      have c_le := c3
      refine lv_iconst (v := (nI 0)) hx hb dX5_between_17 (by decide) ?_
      exact W.zret (v := (nI 0)) hx hb hr rfl (fun t ht hW => ⟨⟨(nI 0), (), rfl, ⟨by rw [c_ge, c_le]; rfl, trivial⟩⟩, hS.F ht⟩) hS.2.2 dX5_between_18
    · skip
      have c_le := c4
      refine lv_iconst (v := (nI 1)) hx hb dX5_between_13 (by decide) ?_
      refine lv_goto (tgt := 18) hx hb dX5_between_14 (by decide) ?_
      exact W.zret (v := (nI 1)) hx hb hr rfl (fun t ht hW => ⟨⟨(nI 1), (), rfl, ⟨by rw [c_ge, c_le]; rfl, trivial⟩⟩, hS.F ht⟩) hS.2.2 dX5_between_18
/-- a truth value of ints -/
def zp (c : Prop) [Decidable c] : Int32 := if c then 1 else 0
theorem znc_t (c : Prop) [Decidable c] (h : c) : nI 1 = zp c := by rw [zp, if_pos h]; rfl
theorem znc_f (c : Prop) [Decidable c] (h : ¬ c) : nI 0 = zp c := by rw [zp, if_neg h]; rfl
theorem in_X5_noCell_X5 : ∀ w ∈ wsX50, w ∈ wsX5_noCell := fun w h => List.mem_cons_of_mem _ (List.mem_append_right _ h)
set_option maxHeartbeats 4000000 in
set_option maxRecDepth 100000 in
/-- whether there is no such cell -/
theorem c5_noCell (l : Launch) (dC : Nat → ClassId) (dI : Nat → Nat → Nat) (a0 aT aE aG aR aN aS aQ aW aX : Nat) (cD cI : ClassId) (th : Int32) (iw ih : Nat) (fa fb fd : UInt64) (ib : Nat) (mk : Bool) (im iq : Nat) (tT : Nat → UInt64) (tE : Nat → Int32) (tG tR tN tS tQ : Nat → UInt64) (tW : Nat → Int32) (tX : Nat → UInt64) (x y : Int32) : Met l yX5_noCell wsX5_noCell ({ frames := 0, cells := 0, slots := 0, locals := 0 } : Room) (va_Pc [.ref a0, .int x, .int y] (fun U => va_P (dC, dI) vwCl (w5 a0 aT aE aG aR aN aS aQ aW aX cD cI th iw ih fa fb fd ib mk im iq tT tE tG tR tN tS tQ tW tX) U.heap ∧ va_K (dC, dI) vwCl [(cD, .double), (cI, .int)] U)) (va_Qi (fun (r : Int32) (_ : Unit) => r = zp (x < 0 ∨ nI iw ≤ x ∨ y < 0 ∨ nI ih ≤ y)) (fun _ _ => True) (fun _ => False)) 0 0 (fun _ => False) := by
  refine Met.ofW (cc := cX5_noCell) (maxL := 3) (ret := (some .boolean)) (by decide) rfl ?_
  intro p e s m args below meth c s₁ B hml hv
  obtain ⟨rfl, hP0, hK⟩ := hv
  have hx := B.exec
  have hb := B.bytes
  have hr := B.returns
  have hts := atoms_spec (ws := wsX5_noCell) B.pre
  have hown : s.vm.findClass RX5 = some m.cls := findClass_of_methodNamed B.named
  have hlocks := B.notSynchronized
  have hS : va_S (fun _ => False) s.heap s.heap [] := va_S.rf
  have hP := hP0
  have hl := lv_entry ([.ref a0, .int x, .int y]) (n := 3) (Nat.le_of_ble_eq_true rfl)
  rw [lg_entry_eq]
  generalize (lg_sl ([.ref a0, .int x, .int y]) ++ List.replicate (3 - (lg_sl ([.ref a0, .int x, .int y])).length) Slot.unset).toArray = ls at hl ⊢
  have hl : lv_has ls 3 [(0, .ref a0), (1, .int x), (2, .int y)] := hl
  refine lv_iload_n hx hb dX5_noCell_0 rfl (lv_at hl 1 rfl) ?_
  refine lv_if_lt (tgt := 24) hx hb dX5_noCell_1 (by decide) (fun c1 => ?_) (fun c2 => ?_)
  · skip
    refine lv_iconst (v := (nI 1)) hx hb dX5_noCell_24 (by decide) ?_
    refine lv_goto (tgt := 29) hx hb dX5_noCell_25 (by decide) ?_
    exact W.zret (v := (nI 1)) hx hb hr rfl (fun t ht hW => ⟨⟨(nI 1), (), rfl, ⟨znc_t _ (by simp [*]), trivial⟩⟩, hS.F ht⟩) hS.2.2 dX5_noCell_29
  · skip
    refine lv_iload_n hx hb dX5_noCell_4 rfl (lv_at hl 1 rfl) ?_
    refine lv_aload_n hx hb dX5_noCell_5 rfl (lv_at hl 0 rfl) ?_
    refine va_get (D := (dC, dI)) (ci := 5) (v := .int (nI iw)) (C := RX5) (T := TX5) (N := 19) hx hb hts (in_X5_noCell_X5) hown hK hP 0 rfl rfl 1 (by decide) (hts (.fieldLink RX5 48 "PlateModesModel" "width" "I") (by decide +kernel)) (fun _ h9 => h9) rfl dX5_noCell_6 ?_
    refine lv_icmp_ge (tgt := 24) hx hb dX5_noCell_9 (by decide) (fun c3 => ?_) (fun c4 => ?_)
    · skip
      refine lv_iconst (v := (nI 1)) hx hb dX5_noCell_24 (by decide) ?_
      refine lv_goto (tgt := 29) hx hb dX5_noCell_25 (by decide) ?_
      exact W.zret (v := (nI 1)) hx hb hr rfl (fun t ht hW => ⟨⟨(nI 1), (), rfl, ⟨znc_t _ (by simp [*]), trivial⟩⟩, hS.F ht⟩) hS.2.2 dX5_noCell_29
    · skip
      refine lv_iload_n hx hb dX5_noCell_12 rfl (lv_at hl 2 rfl) ?_
      refine lv_if_lt (tgt := 24) hx hb dX5_noCell_13 (by decide) (fun c5 => ?_) (fun c6 => ?_)
      · skip
        refine lv_iconst (v := (nI 1)) hx hb dX5_noCell_24 (by decide) ?_
        refine lv_goto (tgt := 29) hx hb dX5_noCell_25 (by decide) ?_
        exact W.zret (v := (nI 1)) hx hb hr rfl (fun t ht hW => ⟨⟨(nI 1), (), rfl, ⟨znc_t _ (by simp [*]), trivial⟩⟩, hS.F ht⟩) hS.2.2 dX5_noCell_29
      · skip
        refine lv_iload_n hx hb dX5_noCell_16 rfl (lv_at hl 2 rfl) ?_
        refine lv_aload_n hx hb dX5_noCell_17 rfl (lv_at hl 0 rfl) ?_
        refine va_get (D := (dC, dI)) (ci := 5) (v := .int (nI ih)) (C := RX5) (T := TX5) (N := 19) hx hb hts (in_X5_noCell_X5) hown hK hP 0 rfl rfl 2 (by decide) (hts (.fieldLink RX5 52 "PlateModesModel" "height" "I") (by decide +kernel)) (fun _ h9 => h9) rfl dX5_noCell_18 ?_
        refine lv_icmp_lt (tgt := 28) hx hb dX5_noCell_21 (by decide) (fun c7 => ?_) (fun c8 => ?_)
        · skip
          refine lv_iconst (v := (nI 0)) hx hb dX5_noCell_28 (by decide) ?_
          exact W.zret (v := (nI 0)) hx hb hr rfl (fun t ht hW => ⟨⟨(nI 0), (), rfl, ⟨znc_f _ (by simp [*]), trivial⟩⟩, hS.F ht⟩) hS.2.2 dX5_noCell_29
        · skip
          have cz := Int32.not_lt.mp c8
          refine lv_iconst (v := (nI 1)) hx hb dX5_noCell_24 (by decide) ?_
          refine lv_goto (tgt := 29) hx hb dX5_noCell_25 (by decide) ?_
          exact W.zret (v := (nI 1)) hx hb hr rfl (fun t ht hW => ⟨⟨(nI 1), (), rfl, ⟨znc_t _ (by simp [*]), trivial⟩⟩, hS.F ht⟩) hS.2.2 dX5_noCell_29
set_option maxHeartbeats 4000000 in
set_option maxRecDepth 100000 in
/-- ROOT -/
theorem c5_root (l : Launch) (v : UInt64) : MetD lw_cs l yX5_root wsX5_root ({ frames := 0, cells := 0, slots := 0, locals := 0 } : Room) (va_Pc [.double v] (fun _ => True)) (va_Qd (fun (r : UInt64) (_ : Unit) => zv r = zroot (zv v)) (fun _ _ => True) (fun _ => False)) 0 0 (fun _ => False) := by
  refine MetD.ofW (cc := cX5_root) (maxL := 5) (ret := (some .double)) (by decide) rfl ?_
  intro p e s m args below meth c s₁ B hml hv hd0
  obtain ⟨rfl, -⟩ := hv
  have hx := B.exec
  have hb := B.bytes
  have hr := B.returns
  have hts := atoms_spec (ws := wsX5_root) B.pre
  have hown : s.vm.findClass RX5 = some m.cls := findClass_of_methodNamed B.named
  have hlocks := B.notSynchronized
  have hS : va_S (fun _ => False) s.heap s.heap [] := va_S.rf
  have hl := lv_entry ([.double v]) (n := 5) (Nat.le_of_ble_eq_true rfl)
  rw [lg_entry_eq]
  generalize (lg_sl ([.double v]) ++ List.replicate (5 - (lg_sl ([.double v])).length) Slot.unset).toArray = ls at hl ⊢
  have hl : lv_has ls 5 [(0, .double v)] := hl
  refine lv_dload_n hx hb dX5_root_0 rfl (lv_at hl 0 rfl) ?_
  refine lv_dconst0 hx hb dX5_root_1 ?_
  refine z_cmp_l_gt (tgt := 8) hx hb (a := zv v) (b := z0) rfl rfl dX5_root_2 dX5_root_3 (by decide) (fun c1 => ?_) (fun c2 => ?_)
  · skip
    have c_gt := c1
    refine lv_dconst1 hx hb dX5_root_8 ?_
    refine lv_dload_n hx hb dX5_root_9 rfl (lv_at hl 0 rfl) ?_
    refine zr_dadd hd0 hx hb (a := z1) (b := zv v) rfl rfl dX5_root_10 (fun r3 d4 hr3 hd4 => ?_)
    refine lv_dstore_n (lv' := [(2, .double r3), (0, .double v)]) hx hb dX5_root_11 rfl hl (by decide) rfl (fun ls hl => ?_)
    refine lv_iconst (v := (nI 0)) hx hb dX5_root_12 (by decide) ?_
    refine lv_istore (lv' := [(4, .int (nI 0)), (2, .double r3), (0, .double v)]) hx hb dX5_root_13 hl (by decide) rfl (fun ls hl => ?_)
    have L_15 : ∀ (n : Nat) (i : Nat) (r : UInt64) (d0 : Drawn) (H : Heap) (locs : List Loc) (ls : Array Slot), 30 - i < n → (i ≤ 30) → (zv r = zfold (zrootF (zv v)) i (zA z1 (zv v))) → s.drawn.sameBut d0 lw_cs → va_S (fun _ => False) s.heap H locs → lv_has ls 5 [(4, .int (nI i)), (2, .double r), (0, .double v)] → W p l e (headSpec wsX5_root ({ frames := 0, cells := 0, slots := 0, locals := 0 } : Room)).room (s.setDrawn d0) m ([.double v] : List Value).toArray below meth c H locs 0 0 (MQD lw_cs below (va_Qd (fun (r : UInt64) (_ : Unit) => zv r = zroot (zv v)) (fun _ _ => True) (fun _ => False)) ([.double v] : List Value).toArray s 0 0 (fun _ => False)) (F0 m 15 ls []) := by
      intro n
      induction n with
      | zero => intro i r d0 H locs ls hn; exact absurd hn (Nat.not_lt_zero _)
      | succ n ih_L_15 =>
        intro i r d0 H locs ls hn hi hr0 hd0 hS hl
        refine lv_iload hx hb dX5_root_15 (lv_at hl 0 rfl) ?_
        refine lv_bipush (v := (nI 30)) hx hb dX5_root_17 (by decide) ?_
        refine z_icmp_ge (a := i) (b := 30) (tgt := 38) hx hb (by omega) (by omega) dX5_root_19 (by decide) (fun c5 => ?_) (fun c6 => ?_)
        · skip
          refine lv_dload_n hx hb dX5_root_38 rfl (lv_at hl 1 rfl) ?_
          refine W.endD hd0 ?_
          exact W.dret (v := r) hx hb hr (fun t ht hW => ⟨⟨r, (), rfl, ⟨by dsimp only; rw [zroot_t c_gt, hr0, show i = 30 by omega], trivial⟩⟩, hS.F ht⟩) hS.2.2 dX5_root_39
        · skip
          refine lv_dload_n hx hb dX5_root_22 rfl (lv_at hl 1 rfl) ?_
          refine lv_dload_n hx hb dX5_root_23 rfl (lv_at hl 2 rfl) ?_
          refine lv_dload_n hx hb dX5_root_24 rfl (lv_at hl 1 rfl) ?_
          refine zr_ddiv hd0 hx hb (a := zv v) (b := zfold (zrootF (zv v)) i (zA z1 (zv v))) rfl hr0 dX5_root_25 (fun r7 d8 hr7 hd8 => ?_)
          refine zr_dadd hd8 hx hb (a := zfold (zrootF (zv v)) i (zA z1 (zv v))) (b := zQ (zv v) (zfold (zrootF (zv v)) i (zA z1 (zv v)))) hr0 hr7 dX5_root_26 (fun r9 d10 hr9 hd10 => ?_)
          refine lv_ldc2d (v := 4611686018427387904) hx hb hown (dr_words hts d10 (.constantDouble RX5 58 (4611686018427387904)) (by decide +kernel)) dX5_root_27 ?_
          refine zr_ddiv hd10 hx hb (a := zA (zfold (zrootF (zv v)) i (zA z1 (zv v))) (zQ (zv v) (zfold (zrootF (zv v)) i (zA z1 (zv v))))) (b := zv 4611686018427387904) hr9 rfl dX5_root_30 (fun r11 d12 hr11 hd12 => ?_)
          refine lv_dstore_n (lv' := [(2, .double r11), (4, .int (nI i)), (0, .double v)]) hx hb dX5_root_31 rfl hl (by decide) rfl (fun ls hl => ?_)
          refine lv_iinc (v := nI (i + 1)) (lv' := [(4, .int (nI (i + 1))), (2, .double r11), (0, .double v)]) hx hb dX5_root_32 hl (k := 1) rfl (show nI i + nI 1 = _ from zi_add (by omega)) (by decide) rfl (fun ls hl => ?_)
          refine lv_goto (tgt := 15) hx hb dX5_root_35 (by decide) ?_
          exact ih_L_15 (i + 1) r11 _ _ _ _ (by omega) (by omega) hr11 hd12 hS hl
    exact L_15 _ 0 r3 _ _ _ _ (Nat.lt_succ_self _) (by omega) hr3 hd4 hS hl
  · skip
    have c_gt := c2
    refine lv_dconst0 hx hb dX5_root_6 ?_
    refine W.endD hd0 ?_
    exact W.dret (v := FP.dconst0) hx hb hr (fun t ht hW => ⟨⟨FP.dconst0, (), rfl, ⟨(zroot_f c_gt).symm, trivial⟩⟩, hS.F ht⟩) hS.2.2 dX5_root_7
theorem in_X5_isWood_X5 : ∀ w ∈ wsX50, w ∈ wsX5_isWood := fun w h => List.mem_cons_of_mem _ (List.mem_append_right _ h)
set_option maxHeartbeats 4000000 in
set_option maxRecDepth 100000 in
/-- whether wood is there -/
theorem c5_isWood (l : Launch) (dC : Nat → ClassId) (dI : Nat → Nat → Nat) (a0 aT aE aG aR aN aS aQ aW aX : Nat) (cD cI : ClassId) (th : Int32) (iw ih : Nat) (fa fb fd : UInt64) (ib : Nat) (mk : Bool) (im iq : Nat) (tT : Nat → UInt64) (tE : Nat → Int32) (tG tR tN tS tQ : Nat → UInt64) (tW : Nat → Int32) (tX : Nat → UInt64) (k : Nat) (hk : k < 36) : Met l yX5_isWood wsX5_isWood ({ frames := 0, cells := 0, slots := 0, locals := 0 } : Room) (va_Pc [.ref a0, .int (nI k)] (fun U => va_P (dC, dI) vwCl (w5 a0 aT aE aG aR aN aS aQ aW aX cD cI th iw ih fa fb fd ib mk im iq tT tE tG tR tN tS tQ tW tX) U.heap ∧ va_K (dC, dI) vwCl [(cD, .double), (cI, .int)] U)) (va_Qi (fun (r : Int32) (_ : Unit) => r = zb (zgt (zv (tT k)) z0)) (fun _ _ => True) (fun _ => False)) 0 0 (fun _ => False) := by
  refine Met.ofW (cc := cX5_isWood) (maxL := 2) (ret := (some .boolean)) (by decide) rfl ?_
  intro p e s m args below meth c s₁ B hml hv
  obtain ⟨rfl, hP0, hK⟩ := hv
  have hx := B.exec
  have hb := B.bytes
  have hr := B.returns
  have hts := atoms_spec (ws := wsX5_isWood) B.pre
  have hown : s.vm.findClass RX5 = some m.cls := findClass_of_methodNamed B.named
  have hlocks := B.notSynchronized
  have hS : va_S (fun _ => False) s.heap s.heap [] := va_S.rf
  have hP := hP0
  have hl := lv_entry ([.ref a0, .int (nI k)]) (n := 2) (Nat.le_of_ble_eq_true rfl)
  rw [lg_entry_eq]
  generalize (lg_sl ([.ref a0, .int (nI k)]) ++ List.replicate (2 - (lg_sl ([.ref a0, .int (nI k)])).length) Slot.unset).toArray = ls at hl ⊢
  have hl : lv_has ls 2 [(0, .ref a0), (1, .int (nI k))] := hl
  refine lv_aload_n hx hb dX5_isWood_0 rfl (lv_at hl 0 rfl) ?_
  refine va_get (D := (dC, dI)) (ci := 5) (v := .ref aT) (C := RX5) (T := TX5) (N := 19) hx hb hts (in_X5_isWood_X5) hown hK hP 0 rfl rfl 3 (by decide) (hts (.fieldLink RX5 7 "PlateModesModel" "thicks" "[D") (by decide +kernel)) (fun _ h9 => h9) rfl dX5_isWood_1 ?_
  refine lv_iload_n hx hb dX5_isWood_4 rfl (lv_at hl 1 rfl) ?_
  refine z_dald (n := 36) (i := k) hx hb hK hP 1 0 rfl rfl (by omega) (by decide) dX5_isWood_5 ?_
  refine lv_dconst0 hx hb dX5_isWood_6 ?_
  refine z_cmp_l_le (tgt := 15) hx hb (a := zv (tT k)) (b := z0) rfl rfl dX5_isWood_7 dX5_isWood_8 (by decide) (fun c1 => ?_) (fun c2 => ?_)
  · skip
    have c_gt := c1
    refine lv_iconst (v := (nI 0)) hx hb dX5_isWood_15 (by decide) ?_
    exact W.zret (v := (nI 0)) hx hb hr rfl (fun t ht hW => ⟨⟨(nI 0), (), rfl, ⟨by rw [c_gt]; rfl, trivial⟩⟩, hS.F ht⟩) hS.2.2 dX5_isWood_16
  · skip
    have c_gt := c2
    refine lv_iconst (v := (nI 1)) hx hb dX5_isWood_11 (by decide) ?_
    refine lv_goto (tgt := 16) hx hb dX5_isWood_12 (by decide) ?_
    exact W.zret (v := (nI 1)) hx hb hr rfl (fun t ht hW => ⟨⟨(nI 1), (), rfl, ⟨by rw [c_gt]; rfl, trivial⟩⟩, hS.F ht⟩) hS.2.2 dX5_isWood_16
set_option maxHeartbeats 4000000 in
set_option maxRecDepth 100000 in
/-- a spring -/
theorem c5_spring (l : Launch) (ra v0 v1 : UInt64) : MetD lw_cs l yX5_spring wsX5_spring ({ frames := 0, cells := 0, slots := 0, locals := 0 } : Room) (va_Pc [.double ra, .double v0, .double v1] (fun _ => True)) (va_Qd (fun (r : UInt64) (_ : Unit) => zv r = zspring (zv ra) (zv v0) (zv v1)) (fun _ _ => True) (fun _ => False)) 0 0 (fun _ => False) := by
  refine MetD.ofW (cc := cX5_spring) (maxL := 8) (ret := (some .double)) (by decide) rfl ?_
  intro p e s m args below meth c s₁ B hml hv hd0
  obtain ⟨rfl, -⟩ := hv
  have hx := B.exec
  have hb := B.bytes
  have hr := B.returns
  have hts := atoms_spec (ws := wsX5_spring) B.pre
  have hown : s.vm.findClass RX5 = some m.cls := findClass_of_methodNamed B.named
  have hlocks := B.notSynchronized
  have hS : va_S (fun _ => False) s.heap s.heap [] := va_S.rf
  have hl := lv_entry ([.double ra, .double v0, .double v1]) (n := 8) (Nat.le_of_ble_eq_true rfl)
  rw [lg_entry_eq]
  generalize (lg_sl ([.double ra, .double v0, .double v1]) ++ List.replicate (8 - (lg_sl ([.double ra, .double v0, .double v1])).length) Slot.unset).toArray = ls at hl ⊢
  have hl : lv_has ls 8 [(0, .double ra), (2, .double v0), (4, .double v1)] := hl
  refine lv_dload_n hx hb dX5_spring_0 rfl (lv_at hl 1 rfl) ?_
  refine lv_dload hx hb dX5_spring_1 (lv_at hl 2 rfl) ?_
  refine zr_dadd hd0 hx hb (a := zv v0) (b := zv v1) rfl rfl dX5_spring_3 (fun r1 d2 hr1 hd2 => ?_)
  refine lv_ldc2d (v := 4611686018427387904) hx hb hown (dr_words hts d2 (.constantDouble RX5 58 (4611686018427387904)) (by decide +kernel)) dX5_spring_4 ?_
  refine zr_ddiv hd2 hx hb (a := zA (zv v0) (zv v1)) (b := zv 4611686018427387904) hr1 rfl dX5_spring_7 (fun r3 d4 hr3 hd4 => ?_)
  refine lv_dstore (lv' := [(6, .double r3), (0, .double ra), (2, .double v0), (4, .double v1)]) hx hb dX5_spring_8 hl (by decide) rfl (fun ls hl => ?_)
  refine lv_dload_n hx hb dX5_spring_10 rfl (lv_at hl 1 rfl) ?_
  refine lv_dload hx hb dX5_spring_11 (lv_at hl 0 rfl) ?_
  refine zr_dmul hd4 hx hb (a := zv ra) (b := zQ (zA (zv v0) (zv v1)) (zv 4611686018427387904)) rfl hr3 dX5_spring_13 (fun r5 d6 hr5 hd6 => ?_)
  refine lv_dload hx hb dX5_spring_14 (lv_at hl 0 rfl) ?_
  refine zr_dmul hd6 hx hb (a := zM (zv ra) (zQ (zA (zv v0) (zv v1)) (zv 4611686018427387904))) (b := zQ (zA (zv v0) (zv v1)) (zv 4611686018427387904)) hr5 hr3 dX5_spring_16 (fun r7 d8 hr7 hd8 => ?_)
  refine lv_dload hx hb dX5_spring_17 (lv_at hl 0 rfl) ?_
  refine zr_dmul hd8 hx hb (a := zM (zM (zv ra) (zQ (zA (zv v0) (zv v1)) (zv 4611686018427387904))) (zQ (zA (zv v0) (zv v1)) (zv 4611686018427387904))) (b := zQ (zA (zv v0) (zv v1)) (zv 4611686018427387904)) hr7 hr3 dX5_spring_19 (fun r9 d10 hr9 hd10 => ?_)
  refine W.endD hd10 ?_
  exact W.dret (v := r9) hx hb hr (fun t ht hW => ⟨⟨r9, (), rfl, ⟨hr9, trivial⟩⟩, hS.F ht⟩) hS.2.2 dX5_spring_20
theorem in_X5_mass_X5 : ∀ w ∈ wsX50, w ∈ wsX5_mass := fun w h => List.mem_cons_of_mem _ (List.mem_append_right _ h)
set_option maxHeartbeats 4000000 in
set_option maxRecDepth 100000 in
/-- a mass -/
theorem c5_mass (l : Launch) (dC : Nat → ClassId) (dI : Nat → Nat → Nat) (a0 aT aE aG aR aN aS aQ aW aX : Nat) (cD cI : ClassId) (th : Int32) (iw ih : Nat) (fa fb fd : UInt64) (ib : Nat) (mk : Bool) (im iq : Nat) (tT : Nat → UInt64) (tE : Nat → Int32) (tG tR tN tS tQ : Nat → UInt64) (tW : Nat → Int32) (tX : Nat → UInt64) (k : Nat) (hk : k < 36) : MetD lw_cs l yX5_mass wsX5_mass ({ frames := 0, cells := 0, slots := 0, locals := 0 } : Room) (va_Pc [.ref a0, .int (nI k)] (fun U => va_P (dC, dI) vwCl (w5 a0 aT aE aG aR aN aS aQ aW aX cD cI th iw ih fa fb fd ib mk im iq tT tE tG tR tN tS tQ tW tX) U.heap ∧ va_K (dC, dI) vwCl [(cD, .double), (cI, .int)] U)) (va_Qd (fun (r : UInt64) (_ : Unit) => zv r = zM (zv (tT k)) (zv fd)) (fun _ _ => True) (fun _ => False)) 0 0 (fun _ => False) := by
  refine MetD.ofW (cc := cX5_mass) (maxL := 2) (ret := (some .double)) (by decide) rfl ?_
  intro p e s m args below meth c s₁ B hml hv hd0
  obtain ⟨rfl, hP0, hK⟩ := hv
  have hx := B.exec
  have hb := B.bytes
  have hr := B.returns
  have hts := atoms_spec (ws := wsX5_mass) B.pre
  have hown : s.vm.findClass RX5 = some m.cls := findClass_of_methodNamed B.named
  have hlocks := B.notSynchronized
  have hS : va_S (fun _ => False) s.heap s.heap [] := va_S.rf
  have hP := hP0
  have hl := lv_entry ([.ref a0, .int (nI k)]) (n := 2) (Nat.le_of_ble_eq_true rfl)
  rw [lg_entry_eq]
  generalize (lg_sl ([.ref a0, .int (nI k)]) ++ List.replicate (2 - (lg_sl ([.ref a0, .int (nI k)])).length) Slot.unset).toArray = ls at hl ⊢
  have hl : lv_has ls 2 [(0, .ref a0), (1, .int (nI k))] := hl
  refine lv_aload_n hx hb dX5_mass_0 rfl (lv_at hl 0 rfl) ?_
  refine va_get (D := (dC, dI)) (ci := 5) (v := .ref aT) (C := RX5) (T := TX5) (N := 19) hx hb (dr_words hts s.drawn) (in_X5_mass_X5) hown hK hP 0 rfl rfl 3 (by decide) (dr_words hts s.drawn (.fieldLink RX5 7 "PlateModesModel" "thicks" "[D") (by decide +kernel)) (fun _ h9 => h9) rfl dX5_mass_1 ?_
  refine lv_iload_n hx hb dX5_mass_4 rfl (lv_at hl 1 rfl) ?_
  refine z_dald (s := s.setDrawn s.drawn) (n := 36) (i := k) hx hb hK hP 1 0 rfl rfl (by omega) (by decide) dX5_mass_5 ?_
  refine lv_aload_n hx hb dX5_mass_6 rfl (lv_at hl 0 rfl) ?_
  refine va_get (D := (dC, dI)) (ci := 5) (v := .double fd) (C := RX5) (T := TX5) (N := 19) hx hb (dr_words hts s.drawn) (in_X5_mass_X5) hown hK hP 0 rfl rfl 6 (by decide) (dr_words hts s.drawn (.fieldLink RX5 20 "PlateModesModel" "density" "D") (by decide +kernel)) (fun _ h9 => h9) rfl dX5_mass_7 ?_
  refine zr_dmul hd0 hx hb (a := zv (tT k)) (b := zv fd) rfl rfl dX5_mass_10 (fun r1 d2 hr1 hd2 => ?_)
  refine W.endD hd2 ?_
  exact W.dret (v := r1) hx hb hr (fun t ht hW => ⟨⟨r1, (), rfl, ⟨hr1, trivial⟩⟩, hS.F ht⟩) hS.2.2 dX5_mass_11
theorem in_X5_force_X5 : ∀ w ∈ wsX50, w ∈ wsX5_force := fun w h => List.mem_cons_of_mem _ (List.mem_append_right _ h)
set_option maxHeartbeats 4000000 in
set_option maxRecDepth 100000 in
/-- FORCE at a cell -/
theorem c5_force (l : Launch) (dC : Nat → ClassId) (dI : Nat → Nat → Nat) (a0 aT aE aG aR aN aS aQ aW aX : Nat) (cD cI : ClassId) (th : Int32) (iw ih : Nat) (fa fb fd : UInt64) (ib : Nat) (mk : Bool) (im iq : Nat) (tT : Nat → UInt64) (tE : Nat → Int32) (tG tR tN tS tQ : Nat → UInt64) (tW : Nat → Int32) (tX : Nat → UInt64) (k x y : Nat) (hk : k < 4) (hxw : x < iw) (hyh : y < ih) (hw6 : iw ≤ 6) (hh6 : ih ≤ 6) (R N S : Nat → ZD) (gR : zgr tR iw ih R) (gN : zgr tN iw ih N) (gS : zgs tS k iw ih S) : MetD lw_cs l yX5_force wsX5_force ({ frames := 0, cells := 0, slots := 0, locals := 0 } : Room) (va_Pc [.ref a0, .int (nI k), .int (nI x), .int (nI y)] (fun U => va_P (dC, dI) vwCl (w5 a0 aT aE aG aR aN aS aQ aW aX cD cI th iw ih fa fb fd ib mk im iq tT tE tG tR tN tS tQ tW tX) U.heap ∧ va_K (dC, dI) vwCl [(cD, .double), (cI, .int)] U)) (va_Qd (fun (r : UInt64) (_ : Unit) => zv r = zforce iw ih R N S x y) (fun _ _ => True) (fun _ => False)) 0 0 (fun _ => False) := by
  refine MetD.ofW (cc := cX5_force) (maxL := 8) (ret := (some .double)) (by decide) rfl ?_
  intro p e s m args below meth c s₁ B hml hv hd0
  obtain ⟨rfl, hP0, hK⟩ := hv
  have hx := B.exec
  have hb := B.bytes
  have hr := B.returns
  have hts := atoms_spec (ws := wsX5_force) B.pre
  have hown : s.vm.findClass RX5 = some m.cls := findClass_of_methodNamed B.named
  have hlocks := B.notSynchronized
  have hS : va_S (fun _ => False) s.heap s.heap [] := va_S.rf
  have hP := hP0
  have hl := lv_entry ([.ref a0, .int (nI k), .int (nI x), .int (nI y)]) (n := 8) (Nat.le_of_ble_eq_true rfl)
  rw [lg_entry_eq]
  generalize (lg_sl ([.ref a0, .int (nI k), .int (nI x), .int (nI y)]) ++ List.replicate (8 - (lg_sl ([.ref a0, .int (nI k), .int (nI x), .int (nI y)])).length) Slot.unset).toArray = ls at hl ⊢
  have hl : lv_has ls 8 [(0, .ref a0), (1, .int (nI k)), (2, .int (nI x)), (3, .int (nI y))] := hl
  refine lv_bipush (v := (nI 6)) hx hb dX5_force_0 (by decide) ?_
  refine lv_iload_n hx hb dX5_force_2 rfl (lv_at hl 3 rfl) ?_
  refine t_imul hx hb dX5_force_3 (v := nI (6 * y)) (zi_mul rfl) ?_
  refine lv_iload_n hx hb dX5_force_4 rfl (lv_at hl 2 rfl) ?_
  refine t_iadd hx hb dX5_force_5 (v := nI (6 * y + x)) (zi_add (by omega)) ?_
  refine lv_istore (lv' := [(4, .int (nI (6 * y + x))), (0, .ref a0), (1, .int (nI k)), (2, .int (nI x)), (3, .int (nI y))]) hx hb dX5_force_6 hl (by decide) rfl (fun ls hl => ?_)
  refine lv_bipush (v := (nI 36)) hx hb dX5_force_8 (by decide) ?_
  refine lv_iload_n hx hb dX5_force_10 rfl (lv_at hl 2 rfl) ?_
  refine t_imul hx hb dX5_force_11 (v := nI (36 * k)) (zi_mul rfl) ?_
  refine lv_iload hx hb dX5_force_12 (lv_at hl 0 rfl) ?_
  refine t_iadd hx hb dX5_force_14 (v := nI (36 * k + 6 * y + x)) (zi_add (by omega)) ?_
  refine lv_istore (lv' := [(5, .int (nI (36 * k + 6 * y + x))), (4, .int (nI (6 * y + x))), (0, .ref a0), (1, .int (nI k)), (2, .int (nI x)), (3, .int (nI y))]) hx hb dX5_force_15 hl (by decide) rfl (fun ls hl => ?_)
  refine lv_dconst0 hx hb dX5_force_17 ?_
  refine lv_dstore (lv' := [(6, .double FP.dconst0), (5, .int (nI (36 * k + 6 * y + x))), (4, .int (nI (6 * y + x))), (0, .ref a0), (1, .int (nI k)), (2, .int (nI x)), (3, .int (nI y))]) hx hb dX5_force_18 hl (by decide) rfl (fun ls hl => ?_)
  have J_63 : ∀ (f1 : UInt64) (d0 : Drawn) (H : Heap) (locs : List Loc) (ls : Array Slot), (zv f1 = zf1 iw R S x y) → s.drawn.sameBut d0 lw_cs → va_S (fun _ => False) s.heap H locs → lv_has ls 8 [(6, .double FP.dconst0), (5, .int (nI (36 * k + 6 * y + x))), (4, .int (nI (6 * y + x))), (0, .ref a0), (1, .int (nI k)), (2, .int (nI x)), (3, .int (nI y))] → W p l e (headSpec wsX5_force ({ frames := 0, cells := 0, slots := 0, locals := 0 } : Room)).room (s.setDrawn d0) m ([.ref a0, .int (nI k), .int (nI x), .int (nI y)] : List Value).toArray below meth c H locs 0 0 (MQD lw_cs below (va_Qd (fun (r : UInt64) (_ : Unit) => zv r = zforce iw ih R N S x y) (fun _ _ => True) (fun _ => False)) ([.ref a0, .int (nI k), .int (nI x), .int (nI y)] : List Value).toArray s 0 0 (fun _ => False)) (F0 m 63 ls [.double f1]) := by
    intro f1 d0 H locs ls h1 hd0 hS hl
    have hP := zro hP0 hS
    refine lv_dstore (lv' := [(6, .double f1), (5, .int (nI (36 * k + 6 * y + x))), (4, .int (nI (6 * y + x))), (0, .ref a0), (1, .int (nI k)), (2, .int (nI x)), (3, .int (nI y))]) hx hb dX5_force_63 hl (by decide) rfl (fun ls hl => ?_)
    have J_104 : ∀ (f2 : UInt64) (d0 : Drawn) (H : Heap) (locs : List Loc) (ls : Array Slot), (zv f2 = zf2 iw R S x y) → s.drawn.sameBut d0 lw_cs → va_S (fun _ => False) s.heap H locs → lv_has ls 8 [(6, .double f1), (5, .int (nI (36 * k + 6 * y + x))), (4, .int (nI (6 * y + x))), (0, .ref a0), (1, .int (nI k)), (2, .int (nI x)), (3, .int (nI y))] → W p l e (headSpec wsX5_force ({ frames := 0, cells := 0, slots := 0, locals := 0 } : Room)).room (s.setDrawn d0) m ([.ref a0, .int (nI k), .int (nI x), .int (nI y)] : List Value).toArray below meth c H locs 0 0 (MQD lw_cs below (va_Qd (fun (r : UInt64) (_ : Unit) => zv r = zforce iw ih R N S x y) (fun _ _ => True) (fun _ => False)) ([.ref a0, .int (nI k), .int (nI x), .int (nI y)] : List Value).toArray s 0 0 (fun _ => False)) (F0 m 104 ls [.double f2]) := by
      intro f2 d0 H locs ls h2 hd0 hS hl
      have hP := zro hP0 hS
      refine lv_dstore (lv' := [(6, .double f2), (5, .int (nI (36 * k + 6 * y + x))), (4, .int (nI (6 * y + x))), (0, .ref a0), (1, .int (nI k)), (2, .int (nI x)), (3, .int (nI y))]) hx hb dX5_force_104 hl (by decide) rfl (fun ls hl => ?_)
      have J_150 : ∀ (f3 : UInt64) (d0 : Drawn) (H : Heap) (locs : List Loc) (ls : Array Slot), (zv f3 = zf3 iw ih R N S x y) → s.drawn.sameBut d0 lw_cs → va_S (fun _ => False) s.heap H locs → lv_has ls 8 [(6, .double f2), (5, .int (nI (36 * k + 6 * y + x))), (4, .int (nI (6 * y + x))), (0, .ref a0), (1, .int (nI k)), (2, .int (nI x)), (3, .int (nI y))] → W p l e (headSpec wsX5_force ({ frames := 0, cells := 0, slots := 0, locals := 0 } : Room)).room (s.setDrawn d0) m ([.ref a0, .int (nI k), .int (nI x), .int (nI y)] : List Value).toArray below meth c H locs 0 0 (MQD lw_cs below (va_Qd (fun (r : UInt64) (_ : Unit) => zv r = zforce iw ih R N S x y) (fun _ _ => True) (fun _ => False)) ([.ref a0, .int (nI k), .int (nI x), .int (nI y)] : List Value).toArray s 0 0 (fun _ => False)) (F0 m 150 ls [.double f3]) := by
        intro f3 d0 H locs ls h3 hd0 hS hl
        have hP := zro hP0 hS
        refine lv_dstore (lv' := [(6, .double f3), (5, .int (nI (36 * k + 6 * y + x))), (4, .int (nI (6 * y + x))), (0, .ref a0), (1, .int (nI k)), (2, .int (nI x)), (3, .int (nI y))]) hx hb dX5_force_150 hl (by decide) rfl (fun ls hl => ?_)
        have J_193 : ∀ (f4 : UInt64) (d0 : Drawn) (H : Heap) (locs : List Loc) (ls : Array Slot), (zv f4 = zf4 iw ih R N S x y) → s.drawn.sameBut d0 lw_cs → va_S (fun _ => False) s.heap H locs → lv_has ls 8 [(6, .double f3), (5, .int (nI (36 * k + 6 * y + x))), (4, .int (nI (6 * y + x))), (0, .ref a0), (1, .int (nI k)), (2, .int (nI x)), (3, .int (nI y))] → W p l e (headSpec wsX5_force ({ frames := 0, cells := 0, slots := 0, locals := 0 } : Room)).room (s.setDrawn d0) m ([.ref a0, .int (nI k), .int (nI x), .int (nI y)] : List Value).toArray below meth c H locs 0 0 (MQD lw_cs below (va_Qd (fun (r : UInt64) (_ : Unit) => zv r = zforce iw ih R N S x y) (fun _ _ => True) (fun _ => False)) ([.ref a0, .int (nI k), .int (nI x), .int (nI y)] : List Value).toArray s 0 0 (fun _ => False)) (F0 m 193 ls [.double f4]) := by
          intro f4 d0 H locs ls h4 hd0 hS hl
          have hP := zro hP0 hS
          refine lv_dstore (lv' := [(6, .double f4), (5, .int (nI (36 * k + 6 * y + x))), (4, .int (nI (6 * y + x))), (0, .ref a0), (1, .int (nI k)), (2, .int (nI x)), (3, .int (nI y))]) hx hb dX5_force_193 hl (by decide) rfl (fun ls hl => ?_)
          refine lv_dload hx hb dX5_force_195 (lv_at hl 0 rfl) ?_
          refine lv_ldc2d (v := 4589168020290535424) hx hb hown (dr_words hts d0 (.constantDouble RX5 87 (4589168020290535424)) (by decide +kernel)) dX5_force_197 ?_
          refine lv_aload_n hx hb dX5_force_200 rfl (lv_at hl 3 rfl) ?_
          refine va_get (D := (dC, dI)) (ci := 5) (v := .ref aS) (C := RX5) (T := TX5) (N := 19) hx hb (dr_words hts d0) (in_X5_force_X5) hown hK hP 0 rfl rfl 14 (by decide) (dr_words hts d0 (.fieldLink RX5 36 "PlateModesModel" "shapes" "[D") (by decide +kernel)) (fun _ h9 => h9) rfl dX5_force_201 ?_
          refine lv_iload hx hb dX5_force_204 (lv_at hl 1 rfl) ?_
          refine z_dald (s := s.setDrawn d0) (n := 144) (i := 36 * k + 6 * y + x) hx hb hK hP 6 0 rfl rfl (by omega) (by decide) dX5_force_206 ?_
          refine zr_dmul hd0 hx hb (a := zv 4589168020290535424) (b := S (y * iw + x)) rfl (zgs_at gS x y (by omega) (by omega) (by omega)) dX5_force_207 (fun r1 d2 hr1 hd2 => ?_)
          refine zr_dsub hd2 hx hb (a := zf4 iw ih R N S x y) (b := zM (zv 4589168020290535424) (S (y * iw + x))) h4 hr1 dX5_force_208 (fun r3 d4 hr3 hd4 => ?_)
          refine W.endD hd4 ?_
          exact W.dret (v := r3) hx hb hr (fun t ht hW => ⟨⟨r3, (), rfl, ⟨hr3, trivial⟩⟩, hS.F ht⟩) hS.2.2 dX5_force_209
        refine lv_iload_n hx hb dX5_force_152 rfl (lv_at hl 6 rfl) ?_
        refine z_if_le (tgt := 191) hx hb (by omega) dX5_force_153 (by decide) (fun c5 => ?_) (fun c6 => ?_)
        · skip
          refine lv_dload hx hb dX5_force_191 (lv_at hl 0 rfl) ?_
          exact J_193 f3 _ _ _ _ ((h3).trans (if_neg (show ¬ (0 < y) from by omega)).symm) hd0 hS hl
        · skip
          refine lv_dload hx hb dX5_force_156 (lv_at hl 0 rfl) ?_
          refine lv_aload_n hx hb dX5_force_158 rfl (lv_at hl 3 rfl) ?_
          refine va_get (D := (dC, dI)) (ci := 5) (v := .ref aN) (C := RX5) (T := TX5) (N := 19) hx hb (dr_words hts d0) (in_X5_force_X5) hown hK hP 0 rfl rfl 11 (by decide) (dr_words hts d0 (.fieldLink RX5 33 "PlateModesModel" "down" "[D") (by decide +kernel)) (fun _ h9 => h9) rfl dX5_force_159 ?_
          refine lv_iload hx hb dX5_force_162 (lv_at hl 2 rfl) ?_
          refine lv_bipush (v := (nI 6)) hx hb dX5_force_164 (by decide) ?_
          refine t_isub hx hb dX5_force_166 (v := nI (6 * y + x - 6)) (zi_sub (by omega) (by omega)) ?_
          refine z_dald (s := s.setDrawn d0) (n := 36) (i := 6 * y + x - 6) hx hb hK hP 5 0 rfl rfl (by omega) (by decide) dX5_force_167 ?_
          refine lv_aload_n hx hb dX5_force_168 rfl (lv_at hl 3 rfl) ?_
          refine va_get (D := (dC, dI)) (ci := 5) (v := .ref aS) (C := RX5) (T := TX5) (N := 19) hx hb (dr_words hts d0) (in_X5_force_X5) hown hK hP 0 rfl rfl 14 (by decide) (dr_words hts d0 (.fieldLink RX5 36 "PlateModesModel" "shapes" "[D") (by decide +kernel)) (fun _ h9 => h9) rfl dX5_force_169 ?_
          refine lv_iload hx hb dX5_force_172 (lv_at hl 1 rfl) ?_
          refine lv_bipush (v := (nI 6)) hx hb dX5_force_174 (by decide) ?_
          refine t_isub hx hb dX5_force_176 (v := nI (36 * k + 6 * y + x - 6)) (zi_sub (by omega) (by omega)) ?_
          refine z_dald (s := s.setDrawn d0) (n := 144) (i := 36 * k + 6 * y + x - 6) hx hb hK hP 6 0 rfl rfl (by omega) (by decide) dX5_force_177 ?_
          refine lv_aload_n hx hb dX5_force_178 rfl (lv_at hl 3 rfl) ?_
          refine va_get (D := (dC, dI)) (ci := 5) (v := .ref aS) (C := RX5) (T := TX5) (N := 19) hx hb (dr_words hts d0) (in_X5_force_X5) hown hK hP 0 rfl rfl 14 (by decide) (dr_words hts d0 (.fieldLink RX5 36 "PlateModesModel" "shapes" "[D") (by decide +kernel)) (fun _ h9 => h9) rfl dX5_force_179 ?_
          refine lv_iload hx hb dX5_force_182 (lv_at hl 1 rfl) ?_
          refine z_dald (s := s.setDrawn d0) (n := 144) (i := 36 * k + 6 * y + x) hx hb hK hP 6 0 rfl rfl (by omega) (by decide) dX5_force_184 ?_
          refine zr_dsub hd0 hx hb (a := S ((y - 1) * iw + x)) (b := S (y * iw + x)) (zgs_at gS x (y - 1) (by omega) (by omega) (by omega)) (zgs_at gS x y (by omega) (by omega) (by omega)) dX5_force_185 (fun r7 d8 hr7 hd8 => ?_)
          refine zr_dmul hd8 hx hb (a := N ((y - 1) * iw + x)) (b := zS (S ((y - 1) * iw + x)) (S (y * iw + x))) (zgr_at gN x (y - 1) (by omega) (by omega) (by omega)) hr7 dX5_force_186 (fun r9 d10 hr9 hd10 => ?_)
          refine zr_dadd hd10 hx hb (a := zf3 iw ih R N S x y) (b := zM (N ((y - 1) * iw + x)) (zS (S ((y - 1) * iw + x)) (S (y * iw + x)))) h3 hr9 dX5_force_187 (fun r11 d12 hr11 hd12 => ?_)
          refine lv_goto (tgt := 193) hx hb dX5_force_188 (by decide) ?_
          exact J_193 r11 _ _ _ _ ((hr11).trans (if_pos (show 0 < y from by omega)).symm) hd12 hS hl
      refine lv_iload_n hx hb dX5_force_106 rfl (lv_at hl 6 rfl) ?_
      refine lv_iconst (v := (nI 1)) hx hb dX5_force_107 (by decide) ?_
      refine t_iadd hx hb dX5_force_108 (v := nI (y + 1)) (zi_add (by omega)) ?_
      refine lv_aload_n hx hb dX5_force_109 rfl (lv_at hl 3 rfl) ?_
      refine va_get (D := (dC, dI)) (ci := 5) (v := .int (nI ih)) (C := RX5) (T := TX5) (N := 19) hx hb (dr_words hts d0) (in_X5_force_X5) hown hK hP 0 rfl rfl 2 (by decide) (dr_words hts d0 (.fieldLink RX5 52 "PlateModesModel" "height" "I") (by decide +kernel)) (fun _ h9 => h9) rfl dX5_force_110 ?_
      refine z_icmp_ge (a := y + 1) (b := ih) (tgt := 148) hx hb (by omega) (by omega) dX5_force_113 (by decide) (fun c13 => ?_) (fun c14 => ?_)
      · skip
        refine lv_dload hx hb dX5_force_148 (lv_at hl 0 rfl) ?_
        exact J_150 f2 _ _ _ _ ((h2).trans (if_neg (show ¬ (y + 1 < ih) from by omega)).symm) hd0 hS hl
      · skip
        refine lv_dload hx hb dX5_force_116 (lv_at hl 0 rfl) ?_
        refine lv_aload_n hx hb dX5_force_118 rfl (lv_at hl 3 rfl) ?_
        refine va_get (D := (dC, dI)) (ci := 5) (v := .ref aN) (C := RX5) (T := TX5) (N := 19) hx hb (dr_words hts d0) (in_X5_force_X5) hown hK hP 0 rfl rfl 11 (by decide) (dr_words hts d0 (.fieldLink RX5 33 "PlateModesModel" "down" "[D") (by decide +kernel)) (fun _ h9 => h9) rfl dX5_force_119 ?_
        refine lv_iload hx hb dX5_force_122 (lv_at hl 2 rfl) ?_
        refine z_dald (s := s.setDrawn d0) (n := 36) (i := 6 * y + x) hx hb hK hP 5 0 rfl rfl (by omega) (by decide) dX5_force_124 ?_
        refine lv_aload_n hx hb dX5_force_125 rfl (lv_at hl 3 rfl) ?_
        refine va_get (D := (dC, dI)) (ci := 5) (v := .ref aS) (C := RX5) (T := TX5) (N := 19) hx hb (dr_words hts d0) (in_X5_force_X5) hown hK hP 0 rfl rfl 14 (by decide) (dr_words hts d0 (.fieldLink RX5 36 "PlateModesModel" "shapes" "[D") (by decide +kernel)) (fun _ h9 => h9) rfl dX5_force_126 ?_
        refine lv_iload hx hb dX5_force_129 (lv_at hl 1 rfl) ?_
        refine lv_bipush (v := (nI 6)) hx hb dX5_force_131 (by decide) ?_
        refine t_iadd hx hb dX5_force_133 (v := nI (36 * k + 6 * y + x + 6)) (zi_add (by omega)) ?_
        refine z_dald (s := s.setDrawn d0) (n := 144) (i := 36 * k + 6 * y + x + 6) hx hb hK hP 6 0 rfl rfl (by omega) (by decide) dX5_force_134 ?_
        refine lv_aload_n hx hb dX5_force_135 rfl (lv_at hl 3 rfl) ?_
        refine va_get (D := (dC, dI)) (ci := 5) (v := .ref aS) (C := RX5) (T := TX5) (N := 19) hx hb (dr_words hts d0) (in_X5_force_X5) hown hK hP 0 rfl rfl 14 (by decide) (dr_words hts d0 (.fieldLink RX5 36 "PlateModesModel" "shapes" "[D") (by decide +kernel)) (fun _ h9 => h9) rfl dX5_force_136 ?_
        refine lv_iload hx hb dX5_force_139 (lv_at hl 1 rfl) ?_
        refine z_dald (s := s.setDrawn d0) (n := 144) (i := 36 * k + 6 * y + x) hx hb hK hP 6 0 rfl rfl (by omega) (by decide) dX5_force_141 ?_
        refine zr_dsub hd0 hx hb (a := S ((y + 1) * iw + x)) (b := S (y * iw + x)) (zgs_at gS x (y + 1) (by omega) (by omega) (by omega)) (zgs_at gS x y (by omega) (by omega) (by omega)) dX5_force_142 (fun r15 d16 hr15 hd16 => ?_)
        refine zr_dmul hd16 hx hb (a := N (y * iw + x)) (b := zS (S ((y + 1) * iw + x)) (S (y * iw + x))) (zgr_at gN x y (by omega) (by omega) (by omega)) hr15 dX5_force_143 (fun r17 d18 hr17 hd18 => ?_)
        refine zr_dadd hd18 hx hb (a := zf2 iw R S x y) (b := zM (N (y * iw + x)) (zS (S ((y + 1) * iw + x)) (S (y * iw + x)))) h2 hr17 dX5_force_144 (fun r19 d20 hr19 hd20 => ?_)
        refine lv_goto (tgt := 150) hx hb dX5_force_145 (by decide) ?_
        exact J_150 r19 _ _ _ _ ((hr19).trans (if_pos (show y + 1 < ih from by omega)).symm) hd20 hS hl
    refine lv_iload_n hx hb dX5_force_65 rfl (lv_at hl 5 rfl) ?_
    refine z_if_le (tgt := 102) hx hb (by omega) dX5_force_66 (by decide) (fun c21 => ?_) (fun c22 => ?_)
    · skip
      refine lv_dload hx hb dX5_force_102 (lv_at hl 0 rfl) ?_
      exact J_104 f1 _ _ _ _ ((h1).trans (if_neg (show ¬ (0 < x) from by omega)).symm) hd0 hS hl
    · skip
      refine lv_dload hx hb dX5_force_69 (lv_at hl 0 rfl) ?_
      refine lv_aload_n hx hb dX5_force_71 rfl (lv_at hl 3 rfl) ?_
      refine va_get (D := (dC, dI)) (ci := 5) (v := .ref aR) (C := RX5) (T := TX5) (N := 19) hx hb (dr_words hts d0) (in_X5_force_X5) hown hK hP 0 rfl rfl 10 (by decide) (dr_words hts d0 (.fieldLink RX5 30 "PlateModesModel" "right" "[D") (by decide +kernel)) (fun _ h9 => h9) rfl dX5_force_72 ?_
      refine lv_iload hx hb dX5_force_75 (lv_at hl 2 rfl) ?_
      refine lv_iconst (v := (nI 1)) hx hb dX5_force_77 (by decide) ?_
      refine t_isub hx hb dX5_force_78 (v := nI (6 * y + x - 1)) (zi_sub (by omega) (by omega)) ?_
      refine z_dald (s := s.setDrawn d0) (n := 36) (i := 6 * y + x - 1) hx hb hK hP 4 0 rfl rfl (by omega) (by decide) dX5_force_79 ?_
      refine lv_aload_n hx hb dX5_force_80 rfl (lv_at hl 3 rfl) ?_
      refine va_get (D := (dC, dI)) (ci := 5) (v := .ref aS) (C := RX5) (T := TX5) (N := 19) hx hb (dr_words hts d0) (in_X5_force_X5) hown hK hP 0 rfl rfl 14 (by decide) (dr_words hts d0 (.fieldLink RX5 36 "PlateModesModel" "shapes" "[D") (by decide +kernel)) (fun _ h9 => h9) rfl dX5_force_81 ?_
      refine lv_iload hx hb dX5_force_84 (lv_at hl 1 rfl) ?_
      refine lv_iconst (v := (nI 1)) hx hb dX5_force_86 (by decide) ?_
      refine t_isub hx hb dX5_force_87 (v := nI (36 * k + 6 * y + x - 1)) (zi_sub (by omega) (by omega)) ?_
      refine z_dald (s := s.setDrawn d0) (n := 144) (i := 36 * k + 6 * y + x - 1) hx hb hK hP 6 0 rfl rfl (by omega) (by decide) dX5_force_88 ?_
      refine lv_aload_n hx hb dX5_force_89 rfl (lv_at hl 3 rfl) ?_
      refine va_get (D := (dC, dI)) (ci := 5) (v := .ref aS) (C := RX5) (T := TX5) (N := 19) hx hb (dr_words hts d0) (in_X5_force_X5) hown hK hP 0 rfl rfl 14 (by decide) (dr_words hts d0 (.fieldLink RX5 36 "PlateModesModel" "shapes" "[D") (by decide +kernel)) (fun _ h9 => h9) rfl dX5_force_90 ?_
      refine lv_iload hx hb dX5_force_93 (lv_at hl 1 rfl) ?_
      refine z_dald (s := s.setDrawn d0) (n := 144) (i := 36 * k + 6 * y + x) hx hb hK hP 6 0 rfl rfl (by omega) (by decide) dX5_force_95 ?_
      refine zr_dsub hd0 hx hb (a := S (y * iw + (x - 1))) (b := S (y * iw + x)) (zgs_at gS (x - 1) y (by omega) (by omega) (by omega)) (zgs_at gS x y (by omega) (by omega) (by omega)) dX5_force_96 (fun r23 d24 hr23 hd24 => ?_)
      refine zr_dmul hd24 hx hb (a := R (y * iw + (x - 1))) (b := zS (S (y * iw + (x - 1))) (S (y * iw + x))) (zgr_at gR (x - 1) y (by omega) (by omega) (by omega)) hr23 dX5_force_97 (fun r25 d26 hr25 hd26 => ?_)
      refine zr_dadd hd26 hx hb (a := zf1 iw R S x y) (b := zM (R (y * iw + (x - 1))) (zS (S (y * iw + (x - 1))) (S (y * iw + x)))) h1 hr25 dX5_force_98 (fun r27 d28 hr27 hd28 => ?_)
      refine lv_goto (tgt := 104) hx hb dX5_force_99 (by decide) ?_
      exact J_104 r27 _ _ _ _ ((hr27).trans (if_pos (show 0 < x from by omega)).symm) hd28 hS hl
  refine lv_iload_n hx hb dX5_force_20 rfl (lv_at hl 5 rfl) ?_
  refine lv_iconst (v := (nI 1)) hx hb dX5_force_21 (by decide) ?_
  refine t_iadd hx hb dX5_force_22 (v := nI (x + 1)) (zi_add (by omega)) ?_
  refine lv_aload_n hx hb dX5_force_23 rfl (lv_at hl 3 rfl) ?_
  refine va_get (D := (dC, dI)) (ci := 5) (v := .int (nI iw)) (C := RX5) (T := TX5) (N := 19) hx hb (dr_words hts s.drawn) (in_X5_force_X5) hown hK hP 0 rfl rfl 1 (by decide) (dr_words hts s.drawn (.fieldLink RX5 48 "PlateModesModel" "width" "I") (by decide +kernel)) (fun _ h9 => h9) rfl dX5_force_24 ?_
  refine z_icmp_ge (a := x + 1) (b := iw) (tgt := 61) hx hb (by omega) (by omega) dX5_force_27 (by decide) (fun c29 => ?_) (fun c30 => ?_)
  · skip
    refine lv_dload hx hb dX5_force_61 (lv_at hl 0 rfl) ?_
    exact J_63 FP.dconst0 _ _ _ _ ((rfl).trans (if_neg (show ¬ (x + 1 < iw) from by omega)).symm) hd0 hS hl
  · skip
    refine lv_dload hx hb dX5_force_30 (lv_at hl 0 rfl) ?_
    refine lv_aload_n hx hb dX5_force_32 rfl (lv_at hl 3 rfl) ?_
    refine va_get (D := (dC, dI)) (ci := 5) (v := .ref aR) (C := RX5) (T := TX5) (N := 19) hx hb (dr_words hts s.drawn) (in_X5_force_X5) hown hK hP 0 rfl rfl 10 (by decide) (dr_words hts s.drawn (.fieldLink RX5 30 "PlateModesModel" "right" "[D") (by decide +kernel)) (fun _ h9 => h9) rfl dX5_force_33 ?_
    refine lv_iload hx hb dX5_force_36 (lv_at hl 2 rfl) ?_
    refine z_dald (s := s.setDrawn s.drawn) (n := 36) (i := 6 * y + x) hx hb hK hP 4 0 rfl rfl (by omega) (by decide) dX5_force_38 ?_
    refine lv_aload_n hx hb dX5_force_39 rfl (lv_at hl 3 rfl) ?_
    refine va_get (D := (dC, dI)) (ci := 5) (v := .ref aS) (C := RX5) (T := TX5) (N := 19) hx hb (dr_words hts s.drawn) (in_X5_force_X5) hown hK hP 0 rfl rfl 14 (by decide) (dr_words hts s.drawn (.fieldLink RX5 36 "PlateModesModel" "shapes" "[D") (by decide +kernel)) (fun _ h9 => h9) rfl dX5_force_40 ?_
    refine lv_iload hx hb dX5_force_43 (lv_at hl 1 rfl) ?_
    refine lv_iconst (v := (nI 1)) hx hb dX5_force_45 (by decide) ?_
    refine t_iadd hx hb dX5_force_46 (v := nI (36 * k + 6 * y + x + 1)) (zi_add (by omega)) ?_
    refine z_dald (s := s.setDrawn s.drawn) (n := 144) (i := 36 * k + 6 * y + x + 1) hx hb hK hP 6 0 rfl rfl (by omega) (by decide) dX5_force_47 ?_
    refine lv_aload_n hx hb dX5_force_48 rfl (lv_at hl 3 rfl) ?_
    refine va_get (D := (dC, dI)) (ci := 5) (v := .ref aS) (C := RX5) (T := TX5) (N := 19) hx hb (dr_words hts s.drawn) (in_X5_force_X5) hown hK hP 0 rfl rfl 14 (by decide) (dr_words hts s.drawn (.fieldLink RX5 36 "PlateModesModel" "shapes" "[D") (by decide +kernel)) (fun _ h9 => h9) rfl dX5_force_49 ?_
    refine lv_iload hx hb dX5_force_52 (lv_at hl 1 rfl) ?_
    refine z_dald (s := s.setDrawn s.drawn) (n := 144) (i := 36 * k + 6 * y + x) hx hb hK hP 6 0 rfl rfl (by omega) (by decide) dX5_force_54 ?_
    refine zr_dsub hd0 hx hb (a := S (y * iw + (x + 1))) (b := S (y * iw + x)) (zgs_at gS (x + 1) y (by omega) (by omega) (by omega)) (zgs_at gS x y (by omega) (by omega) (by omega)) dX5_force_55 (fun r31 d32 hr31 hd32 => ?_)
    refine zr_dmul hd32 hx hb (a := R (y * iw + x)) (b := zS (S (y * iw + (x + 1))) (S (y * iw + x))) (zgr_at gR x y (by omega) (by omega) (by omega)) hr31 dX5_force_56 (fun r33 d34 hr33 hd34 => ?_)
    refine zr_dadd hd34 hx hb (a := z0) (b := zM (R (y * iw + x)) (zS (S (y * iw + (x + 1))) (S (y * iw + x)))) rfl hr33 dX5_force_57 (fun r35 d36 hr35 hd36 => ?_)
    refine lv_goto (tgt := 63) hx hb dX5_force_58 (by decide) ?_
    exact J_63 r35 _ _ _ _ ((hr35).trans (if_pos (show x + 1 < iw from by omega)).symm) hd36 hS hl
theorem in_X5_hold_X5 : ∀ w ∈ wsX50, w ∈ wsX5_hold := fun w h => List.mem_cons_of_mem _ (List.mem_append_right _ h)
set_option maxHeartbeats 4000000 in
set_option maxRecDepth 100000 in
/-- GROUND and the springs at a cell -/
theorem c5_hold (l : Launch) (dC : Nat → ClassId) (dI : Nat → Nat → Nat) (a0 aT aE aG aR aN aS aQ aW aX : Nat) (cD cI : ClassId) (th : Int32) (iw ih : Nat) (fa fb fd : UInt64) (ib : Nat) (mk : Bool) (im iq : Nat) (tT : Nat → UInt64) (tE : Nat → Int32) (tG tR tN tS tQ : Nat → UInt64) (tW : Nat → Int32) (tX : Nat → UInt64) (x y : Nat) (hxw : x < iw) (hyh : y < ih) (hw6 : iw ≤ 6) (hh6 : ih ≤ 6) (R N : Nat → ZD) (gR : zgr tR iw ih R) (gN : zgr tN iw ih N) : MetD lw_cs l yX5_hold wsX5_hold ({ frames := 0, cells := 0, slots := 0, locals := 0 } : Room) (va_Pc [.ref a0, .int (nI x), .int (nI y)] (fun U => va_P (dC, dI) vwCl (w5 a0 aT aE aG aR aN aS aQ aW aX cD cI th iw ih fa fb fd ib mk im iq tT tE tG tR tN tS tQ tW tX) U.heap ∧ va_K (dC, dI) vwCl [(cD, .double), (cI, .int)] U)) (va_Qd (fun (r : UInt64) (_ : Unit) => zv r = zhold iw ih R N x y) (fun _ _ => True) (fun _ => False)) 0 0 (fun _ => False) := by
  refine MetD.ofW (cc := cX5_hold) (maxL := 6) (ret := (some .double)) (by decide) rfl ?_
  intro p e s m args below meth c s₁ B hml hv hd0
  obtain ⟨rfl, hP0, hK⟩ := hv
  have hx := B.exec
  have hb := B.bytes
  have hr := B.returns
  have hts := atoms_spec (ws := wsX5_hold) B.pre
  have hown : s.vm.findClass RX5 = some m.cls := findClass_of_methodNamed B.named
  have hlocks := B.notSynchronized
  have hS : va_S (fun _ => False) s.heap s.heap [] := va_S.rf
  have hP := hP0
  have hl := lv_entry ([.ref a0, .int (nI x), .int (nI y)]) (n := 6) (Nat.le_of_ble_eq_true rfl)
  rw [lg_entry_eq]
  generalize (lg_sl ([.ref a0, .int (nI x), .int (nI y)]) ++ List.replicate (6 - (lg_sl ([.ref a0, .int (nI x), .int (nI y)])).length) Slot.unset).toArray = ls at hl ⊢
  have hl : lv_has ls 6 [(0, .ref a0), (1, .int (nI x)), (2, .int (nI y))] := hl
  refine lv_bipush (v := (nI 6)) hx hb dX5_hold_0 (by decide) ?_
  refine lv_iload_n hx hb dX5_hold_2 rfl (lv_at hl 2 rfl) ?_
  refine t_imul hx hb dX5_hold_3 (v := nI (6 * y)) (zi_mul rfl) ?_
  refine lv_iload_n hx hb dX5_hold_4 rfl (lv_at hl 1 rfl) ?_
  refine t_iadd hx hb dX5_hold_5 (v := nI (6 * y + x)) (zi_add (by omega)) ?_
  refine lv_istore_n (lv' := [(3, .int (nI (6 * y + x))), (0, .ref a0), (1, .int (nI x)), (2, .int (nI y))]) hx hb dX5_hold_6 rfl hl (by decide) rfl (fun ls hl => ?_)
  refine lv_ldc2d (v := 4589168020290535424) hx hb hown (dr_words hts s.drawn (.constantDouble RX5 87 (4589168020290535424)) (by decide +kernel)) dX5_hold_7 ?_
  refine lv_dstore (lv' := [(4, .double 4589168020290535424), (3, .int (nI (6 * y + x))), (0, .ref a0), (1, .int (nI x)), (2, .int (nI y))]) hx hb dX5_hold_10 hl (by decide) rfl (fun ls hl => ?_)
  have J_36 : ∀ (f1 : UInt64) (d0 : Drawn) (H : Heap) (locs : List Loc) (ls : Array Slot), (zv f1 = zh1 iw R x y) → s.drawn.sameBut d0 lw_cs → va_S (fun _ => False) s.heap H locs → lv_has ls 6 [(4, .double 4589168020290535424), (3, .int (nI (6 * y + x))), (0, .ref a0), (1, .int (nI x)), (2, .int (nI y))] → W p l e (headSpec wsX5_hold ({ frames := 0, cells := 0, slots := 0, locals := 0 } : Room)).room (s.setDrawn d0) m ([.ref a0, .int (nI x), .int (nI y)] : List Value).toArray below meth c H locs 0 0 (MQD lw_cs below (va_Qd (fun (r : UInt64) (_ : Unit) => zv r = zhold iw ih R N x y) (fun _ _ => True) (fun _ => False)) ([.ref a0, .int (nI x), .int (nI y)] : List Value).toArray s 0 0 (fun _ => False)) (F0 m 36 ls [.double f1]) := by
    intro f1 d0 H locs ls h1 hd0 hS hl
    have hP := zro hP0 hS
    refine lv_dstore (lv' := [(4, .double f1), (3, .int (nI (6 * y + x))), (0, .ref a0), (1, .int (nI x)), (2, .int (nI y))]) hx hb dX5_hold_36 hl (by decide) rfl (fun ls hl => ?_)
    have J_58 : ∀ (f2 : UInt64) (d0 : Drawn) (H : Heap) (locs : List Loc) (ls : Array Slot), (zv f2 = zh2 iw R x y) → s.drawn.sameBut d0 lw_cs → va_S (fun _ => False) s.heap H locs → lv_has ls 6 [(4, .double f1), (3, .int (nI (6 * y + x))), (0, .ref a0), (1, .int (nI x)), (2, .int (nI y))] → W p l e (headSpec wsX5_hold ({ frames := 0, cells := 0, slots := 0, locals := 0 } : Room)).room (s.setDrawn d0) m ([.ref a0, .int (nI x), .int (nI y)] : List Value).toArray below meth c H locs 0 0 (MQD lw_cs below (va_Qd (fun (r : UInt64) (_ : Unit) => zv r = zhold iw ih R N x y) (fun _ _ => True) (fun _ => False)) ([.ref a0, .int (nI x), .int (nI y)] : List Value).toArray s 0 0 (fun _ => False)) (F0 m 58 ls [.double f2]) := by
      intro f2 d0 H locs ls h2 hd0 hS hl
      have hP := zro hP0 hS
      refine lv_dstore (lv' := [(4, .double f2), (3, .int (nI (6 * y + x))), (0, .ref a0), (1, .int (nI x)), (2, .int (nI y))]) hx hb dX5_hold_58 hl (by decide) rfl (fun ls hl => ?_)
      have J_84 : ∀ (f3 : UInt64) (d0 : Drawn) (H : Heap) (locs : List Loc) (ls : Array Slot), (zv f3 = zh3 iw ih R N x y) → s.drawn.sameBut d0 lw_cs → va_S (fun _ => False) s.heap H locs → lv_has ls 6 [(4, .double f2), (3, .int (nI (6 * y + x))), (0, .ref a0), (1, .int (nI x)), (2, .int (nI y))] → W p l e (headSpec wsX5_hold ({ frames := 0, cells := 0, slots := 0, locals := 0 } : Room)).room (s.setDrawn d0) m ([.ref a0, .int (nI x), .int (nI y)] : List Value).toArray below meth c H locs 0 0 (MQD lw_cs below (va_Qd (fun (r : UInt64) (_ : Unit) => zv r = zhold iw ih R N x y) (fun _ _ => True) (fun _ => False)) ([.ref a0, .int (nI x), .int (nI y)] : List Value).toArray s 0 0 (fun _ => False)) (F0 m 84 ls [.double f3]) := by
        intro f3 d0 H locs ls h3 hd0 hS hl
        have hP := zro hP0 hS
        refine lv_dstore (lv' := [(4, .double f3), (3, .int (nI (6 * y + x))), (0, .ref a0), (1, .int (nI x)), (2, .int (nI y))]) hx hb dX5_hold_84 hl (by decide) rfl (fun ls hl => ?_)
        have J_107 : ∀ (f4 : UInt64) (d0 : Drawn) (H : Heap) (locs : List Loc) (ls : Array Slot), (zv f4 = zhold iw ih R N x y) → s.drawn.sameBut d0 lw_cs → va_S (fun _ => False) s.heap H locs → lv_has ls 6 [(4, .double f3), (3, .int (nI (6 * y + x))), (0, .ref a0), (1, .int (nI x)), (2, .int (nI y))] → W p l e (headSpec wsX5_hold ({ frames := 0, cells := 0, slots := 0, locals := 0 } : Room)).room (s.setDrawn d0) m ([.ref a0, .int (nI x), .int (nI y)] : List Value).toArray below meth c H locs 0 0 (MQD lw_cs below (va_Qd (fun (r : UInt64) (_ : Unit) => zv r = zhold iw ih R N x y) (fun _ _ => True) (fun _ => False)) ([.ref a0, .int (nI x), .int (nI y)] : List Value).toArray s 0 0 (fun _ => False)) (F0 m 107 ls [.double f4]) := by
          intro f4 d0 H locs ls h4 hd0 hS hl
          have hP := zro hP0 hS
          refine W.endD hd0 ?_
          exact W.dret (v := f4) hx hb hr (fun t ht hW => ⟨⟨f4, (), rfl, ⟨h4, trivial⟩⟩, hS.F ht⟩) hS.2.2 dX5_hold_107
        refine lv_iload_n hx hb dX5_hold_86 rfl (lv_at hl 4 rfl) ?_
        refine z_if_le (tgt := 105) hx hb (by omega) dX5_hold_87 (by decide) (fun c1 => ?_) (fun c2 => ?_)
        · skip
          refine lv_dload hx hb dX5_hold_105 (lv_at hl 0 rfl) ?_
          exact J_107 f3 _ _ _ _ ((h3).trans (if_neg (show ¬ (0 < y) from by omega)).symm) hd0 hS hl
        · skip
          refine lv_dload hx hb dX5_hold_90 (lv_at hl 0 rfl) ?_
          refine lv_aload_n hx hb dX5_hold_92 rfl (lv_at hl 2 rfl) ?_
          refine va_get (D := (dC, dI)) (ci := 5) (v := .ref aN) (C := RX5) (T := TX5) (N := 19) hx hb (dr_words hts d0) (in_X5_hold_X5) hown hK hP 0 rfl rfl 11 (by decide) (dr_words hts d0 (.fieldLink RX5 33 "PlateModesModel" "down" "[D") (by decide +kernel)) (fun _ h9 => h9) rfl dX5_hold_93 ?_
          refine lv_iload_n hx hb dX5_hold_96 rfl (lv_at hl 1 rfl) ?_
          refine lv_bipush (v := (nI 6)) hx hb dX5_hold_97 (by decide) ?_
          refine t_isub hx hb dX5_hold_99 (v := nI (6 * y + x - 6)) (zi_sub (by omega) (by omega)) ?_
          refine z_dald (s := s.setDrawn d0) (n := 36) (i := 6 * y + x - 6) hx hb hK hP 5 0 rfl rfl (by omega) (by decide) dX5_hold_100 ?_
          refine zr_dadd hd0 hx hb (a := zh3 iw ih R N x y) (b := N ((y - 1) * iw + x)) h3 (zgr_at gN x (y - 1) (by omega) (by omega) (by omega)) dX5_hold_101 (fun r3 d4 hr3 hd4 => ?_)
          refine lv_goto (tgt := 107) hx hb dX5_hold_102 (by decide) ?_
          exact J_107 r3 _ _ _ _ ((hr3).trans (if_pos (show 0 < y from by omega)).symm) hd4 hS hl
      refine lv_iload_n hx hb dX5_hold_60 rfl (lv_at hl 4 rfl) ?_
      refine lv_iconst (v := (nI 1)) hx hb dX5_hold_61 (by decide) ?_
      refine t_iadd hx hb dX5_hold_62 (v := nI (y + 1)) (zi_add (by omega)) ?_
      refine lv_aload_n hx hb dX5_hold_63 rfl (lv_at hl 2 rfl) ?_
      refine va_get (D := (dC, dI)) (ci := 5) (v := .int (nI ih)) (C := RX5) (T := TX5) (N := 19) hx hb (dr_words hts d0) (in_X5_hold_X5) hown hK hP 0 rfl rfl 2 (by decide) (dr_words hts d0 (.fieldLink RX5 52 "PlateModesModel" "height" "I") (by decide +kernel)) (fun _ h9 => h9) rfl dX5_hold_64 ?_
      refine z_icmp_ge (a := y + 1) (b := ih) (tgt := 82) hx hb (by omega) (by omega) dX5_hold_67 (by decide) (fun c5 => ?_) (fun c6 => ?_)
      · skip
        refine lv_dload hx hb dX5_hold_82 (lv_at hl 0 rfl) ?_
        exact J_84 f2 _ _ _ _ ((h2).trans (if_neg (show ¬ (y + 1 < ih) from by omega)).symm) hd0 hS hl
      · skip
        refine lv_dload hx hb dX5_hold_70 (lv_at hl 0 rfl) ?_
        refine lv_aload_n hx hb dX5_hold_72 rfl (lv_at hl 2 rfl) ?_
        refine va_get (D := (dC, dI)) (ci := 5) (v := .ref aN) (C := RX5) (T := TX5) (N := 19) hx hb (dr_words hts d0) (in_X5_hold_X5) hown hK hP 0 rfl rfl 11 (by decide) (dr_words hts d0 (.fieldLink RX5 33 "PlateModesModel" "down" "[D") (by decide +kernel)) (fun _ h9 => h9) rfl dX5_hold_73 ?_
        refine lv_iload_n hx hb dX5_hold_76 rfl (lv_at hl 1 rfl) ?_
        refine z_dald (s := s.setDrawn d0) (n := 36) (i := 6 * y + x) hx hb hK hP 5 0 rfl rfl (by omega) (by decide) dX5_hold_77 ?_
        refine zr_dadd hd0 hx hb (a := zh2 iw R x y) (b := N (y * iw + x)) h2 (zgr_at gN x y (by omega) (by omega) (by omega)) dX5_hold_78 (fun r7 d8 hr7 hd8 => ?_)
        refine lv_goto (tgt := 84) hx hb dX5_hold_79 (by decide) ?_
        exact J_84 r7 _ _ _ _ ((hr7).trans (if_pos (show y + 1 < ih from by omega)).symm) hd8 hS hl
    refine lv_iload_n hx hb dX5_hold_38 rfl (lv_at hl 3 rfl) ?_
    refine z_if_le (tgt := 56) hx hb (by omega) dX5_hold_39 (by decide) (fun c9 => ?_) (fun c10 => ?_)
    · skip
      refine lv_dload hx hb dX5_hold_56 (lv_at hl 0 rfl) ?_
      exact J_58 f1 _ _ _ _ ((h1).trans (if_neg (show ¬ (0 < x) from by omega)).symm) hd0 hS hl
    · skip
      refine lv_dload hx hb dX5_hold_42 (lv_at hl 0 rfl) ?_
      refine lv_aload_n hx hb dX5_hold_44 rfl (lv_at hl 2 rfl) ?_
      refine va_get (D := (dC, dI)) (ci := 5) (v := .ref aR) (C := RX5) (T := TX5) (N := 19) hx hb (dr_words hts d0) (in_X5_hold_X5) hown hK hP 0 rfl rfl 10 (by decide) (dr_words hts d0 (.fieldLink RX5 30 "PlateModesModel" "right" "[D") (by decide +kernel)) (fun _ h9 => h9) rfl dX5_hold_45 ?_
      refine lv_iload_n hx hb dX5_hold_48 rfl (lv_at hl 1 rfl) ?_
      refine lv_iconst (v := (nI 1)) hx hb dX5_hold_49 (by decide) ?_
      refine t_isub hx hb dX5_hold_50 (v := nI (6 * y + x - 1)) (zi_sub (by omega) (by omega)) ?_
      refine z_dald (s := s.setDrawn d0) (n := 36) (i := 6 * y + x - 1) hx hb hK hP 4 0 rfl rfl (by omega) (by decide) dX5_hold_51 ?_
      refine zr_dadd hd0 hx hb (a := zh1 iw R x y) (b := R (y * iw + (x - 1))) h1 (zgr_at gR (x - 1) y (by omega) (by omega) (by omega)) dX5_hold_52 (fun r11 d12 hr11 hd12 => ?_)
      refine lv_goto (tgt := 58) hx hb dX5_hold_53 (by decide) ?_
      exact J_58 r11 _ _ _ _ ((hr11).trans (if_pos (show 0 < x from by omega)).symm) hd12 hS hl
  refine lv_iload_n hx hb dX5_hold_12 rfl (lv_at hl 3 rfl) ?_
  refine lv_iconst (v := (nI 1)) hx hb dX5_hold_13 (by decide) ?_
  refine t_iadd hx hb dX5_hold_14 (v := nI (x + 1)) (zi_add (by omega)) ?_
  refine lv_aload_n hx hb dX5_hold_15 rfl (lv_at hl 2 rfl) ?_
  refine va_get (D := (dC, dI)) (ci := 5) (v := .int (nI iw)) (C := RX5) (T := TX5) (N := 19) hx hb (dr_words hts s.drawn) (in_X5_hold_X5) hown hK hP 0 rfl rfl 1 (by decide) (dr_words hts s.drawn (.fieldLink RX5 48 "PlateModesModel" "width" "I") (by decide +kernel)) (fun _ h9 => h9) rfl dX5_hold_16 ?_
  refine z_icmp_ge (a := x + 1) (b := iw) (tgt := 34) hx hb (by omega) (by omega) dX5_hold_19 (by decide) (fun c13 => ?_) (fun c14 => ?_)
  · skip
    refine lv_dload hx hb dX5_hold_34 (lv_at hl 0 rfl) ?_
    exact J_36 4589168020290535424 _ _ _ _ ((rfl).trans (if_neg (show ¬ (x + 1 < iw) from by omega)).symm) hd0 hS hl
  · skip
    refine lv_dload hx hb dX5_hold_22 (lv_at hl 0 rfl) ?_
    refine lv_aload_n hx hb dX5_hold_24 rfl (lv_at hl 2 rfl) ?_
    refine va_get (D := (dC, dI)) (ci := 5) (v := .ref aR) (C := RX5) (T := TX5) (N := 19) hx hb (dr_words hts s.drawn) (in_X5_hold_X5) hown hK hP 0 rfl rfl 10 (by decide) (dr_words hts s.drawn (.fieldLink RX5 30 "PlateModesModel" "right" "[D") (by decide +kernel)) (fun _ h9 => h9) rfl dX5_hold_25 ?_
    refine lv_iload_n hx hb dX5_hold_28 rfl (lv_at hl 1 rfl) ?_
    refine z_dald (s := s.setDrawn s.drawn) (n := 36) (i := 6 * y + x) hx hb hK hP 4 0 rfl rfl (by omega) (by decide) dX5_hold_29 ?_
    refine zr_dadd hd0 hx hb (a := zv 4589168020290535424) (b := R (y * iw + x)) rfl (zgr_at gR x y (by omega) (by omega) (by omega)) dX5_hold_30 (fun r15 d16 hr15 hd16 => ?_)
    refine lv_goto (tgt := 36) hx hb dX5_hold_31 (by decide) ?_
    exact J_36 r15 _ _ _ _ ((hr15).trans (if_pos (show x + 1 < iw from by omega)).symm) hd16 hS hl
theorem in_X5_productOf_X5 : ∀ w ∈ wsX50, w ∈ wsX5_productOf := fun w h => List.mem_cons_of_mem _ (List.mem_append_right _ h)
set_option maxHeartbeats 4000000 in
set_option maxRecDepth 100000 in
/-- PRODUCT of two rows of shapes -/
theorem c5_productOf (l : Launch) (dC : Nat → ClassId) (dI : Nat → Nat → Nat) (a0 aT aE aG aR aN aS aQ aW aX : Nat) (cD cI : ClassId) (th : Int32) (iw ih : Nat) (fa fb fd : UInt64) (ib : Nat) (mk : Bool) (im iq : Nat) (tT : Nat → UInt64) (tE : Nat → Int32) (tG tR tN tS tQ : Nat → UInt64) (tW : Nat → Int32) (tX : Nat → UInt64) (k j : Nat) (hk : k < 4) (hj : j < 4) (hw6 : iw ≤ 6) (hh6 : ih ≤ 6) (T S1 S2 : Nat → ZD) (gT : zgr tT iw ih T) (g1 : zgs tS k iw ih S1) (g2 : zgs tS j iw ih S2) : MetD lw_cs l yX5_productOf wsX5_productOf ({ frames := 1, cells := 0, slots := 0, locals := 21 } : Room) (va_Pc [.ref a0, .int (nI k), .int (nI j)] (fun U => va_P (dC, dI) vwCl (w5 a0 aT aE aG aR aN aS aQ aW aX cD cI th iw ih fa fb fd ib mk im iq tT tE tG tR tN tS tQ tW tX) U.heap ∧ va_K (dC, dI) vwCl [(cD, .double), (cI, .int)] U)) (va_Qd (fun (r : UInt64) (_ : Unit) => zv r = zprod T S1 S2 (zv fd) (iw * ih)) (fun _ _ => True) (fun _ => False)) 0 0 (fun _ => False) := by
  refine MetD.ofW (cc := cX5_productOf) (maxL := 8) (ret := (some .double)) (by decide) rfl ?_
  intro p e s m args below meth c s₁ B hml hv hd0
  obtain ⟨rfl, hP0, hK⟩ := hv
  have hx := B.exec
  have hb := B.bytes
  have hr := B.returns
  have hts := atoms_spec (ws := wsX5_productOf) B.pre
  have hown : s.vm.findClass RX5 = some m.cls := findClass_of_methodNamed B.named
  have hlocks := B.notSynchronized
  have hS : va_S (fun _ => False) s.heap s.heap [] := va_S.rf
  have hP := hP0
  have hl := lv_entry ([.ref a0, .int (nI k), .int (nI j)]) (n := 8) (Nat.le_of_ble_eq_true rfl)
  rw [lg_entry_eq]
  generalize (lg_sl ([.ref a0, .int (nI k), .int (nI j)]) ++ List.replicate (8 - (lg_sl ([.ref a0, .int (nI k), .int (nI j)])).length) Slot.unset).toArray = ls at hl ⊢
  have hl : lv_has ls 8 [(0, .ref a0), (1, .int (nI k)), (2, .int (nI j))] := hl
  refine lv_dconst0 hx hb dX5_productOf_0 ?_
  refine lv_dstore_n (lv' := [(3, .double FP.dconst0), (0, .ref a0), (1, .int (nI k)), (2, .int (nI j))]) hx hb dX5_productOf_1 rfl hl (by decide) rfl (fun ls hl => ?_)
  refine lv_iconst (v := (nI 0)) hx hb dX5_productOf_2 (by decide) ?_
  refine lv_istore (lv' := [(5, .int (nI 0)), (3, .double FP.dconst0), (0, .ref a0), (1, .int (nI k)), (2, .int (nI j))]) hx hb dX5_productOf_3 hl (by decide) rfl (fun ls hl => ?_)
  have L_5 : ∀ (n : Nat) (y : Nat) (sy : UInt64) (d0 : Drawn) (H : Heap) (locs : List Loc) (ls : Array Slot), ih - y < n → (y ≤ ih) → (zv sy = zprod T S1 S2 (zv fd) (y * iw)) → s.drawn.sameBut d0 lw_cs → va_S (fun _ => False) s.heap H locs → lv_has ls 8 [(5, .int (nI y)), (3, .double sy), (0, .ref a0), (1, .int (nI k)), (2, .int (nI j))] → W p l e (headSpec wsX5_productOf ({ frames := 1, cells := 0, slots := 0, locals := 21 } : Room)).room (s.setDrawn d0) m ([.ref a0, .int (nI k), .int (nI j)] : List Value).toArray below meth c H locs 0 0 (MQD lw_cs below (va_Qd (fun (r : UInt64) (_ : Unit) => zv r = zprod T S1 S2 (zv fd) (iw * ih)) (fun _ _ => True) (fun _ => False)) ([.ref a0, .int (nI k), .int (nI j)] : List Value).toArray s 0 0 (fun _ => False)) (F0 m 5 ls []) := by
    intro n
    induction n with
    | zero => intro y sy d0 H locs ls hn; exact absurd hn (Nat.not_lt_zero _)
    | succ n ih_L_5 =>
      intro y sy d0 H locs ls hn hyh hsy hd0 hS hl
      have hP := zro hP0 hS
      refine lv_iload hx hb dX5_productOf_5 (lv_at hl 0 rfl) ?_
      refine lv_aload_n hx hb dX5_productOf_7 rfl (lv_at hl 2 rfl) ?_
      refine va_get (D := (dC, dI)) (ci := 5) (v := .int (nI ih)) (C := RX5) (T := TX5) (N := 19) hx hb (dr_words hts d0) (in_X5_productOf_X5) hown hK hP 0 rfl rfl 2 (by decide) (dr_words hts d0 (.fieldLink RX5 52 "PlateModesModel" "height" "I") (by decide +kernel)) (fun _ h9 => h9) rfl dX5_productOf_8 ?_
      refine z_icmp_ge (a := y) (b := ih) (tgt := 96) hx hb (by omega) (by omega) dX5_productOf_11 (by decide) (fun c1 => ?_) (fun c2 => ?_)
      · skip
        refine lv_dload_n hx hb dX5_productOf_96 rfl (lv_at hl 1 rfl) ?_
        refine W.endD hd0 ?_
        exact W.dret (v := sy) hx hb hr (fun t ht hW => ⟨⟨sy, (), rfl, ⟨(hsy).trans (congrArg (fun z => zprod T S1 S2 (zv fd) z) (show y * iw = iw * ih from by rw [show y = ih by omega, Nat.mul_comm])), trivial⟩⟩, hS.F ht⟩) hS.2.2 dX5_productOf_97
      · skip
        refine lv_iconst (v := (nI 0)) hx hb dX5_productOf_14 (by decide) ?_
        refine lv_istore (lv' := [(6, .int (nI 0)), (5, .int (nI y)), (3, .double sy), (0, .ref a0), (1, .int (nI k)), (2, .int (nI j))]) hx hb dX5_productOf_15 hl (by decide) rfl (fun ls hl => ?_)
        have L_17 : ∀ (n : Nat) (x : Nat) (sx : UInt64) (d0 : Drawn) (H : Heap) (locs : List Loc) (ls : Array Slot), iw - x < n → (x ≤ iw) → (zv sx = zprod T S1 S2 (zv fd) (y * iw + x)) → s.drawn.sameBut d0 lw_cs → va_S (fun _ => False) s.heap H locs → lv_has ls 8 [(6, .int (nI x)), (5, .int (nI y)), (3, .double sx), (0, .ref a0), (1, .int (nI k)), (2, .int (nI j))] → W p l e (headSpec wsX5_productOf ({ frames := 1, cells := 0, slots := 0, locals := 21 } : Room)).room (s.setDrawn d0) m ([.ref a0, .int (nI k), .int (nI j)] : List Value).toArray below meth c H locs 0 0 (MQD lw_cs below (va_Qd (fun (r : UInt64) (_ : Unit) => zv r = zprod T S1 S2 (zv fd) (iw * ih)) (fun _ _ => True) (fun _ => False)) ([.ref a0, .int (nI k), .int (nI j)] : List Value).toArray s 0 0 (fun _ => False)) (F0 m 17 ls []) := by
          intro n
          induction n with
          | zero => intro x sx d0 H locs ls hn; exact absurd hn (Nat.not_lt_zero _)
          | succ n ih_L_17 =>
            intro x sx d0 H locs ls hn hxw hsx hd0 hS hl
            have hP := zro hP0 hS
            refine lv_iload hx hb dX5_productOf_17 (lv_at hl 0 rfl) ?_
            refine lv_aload_n hx hb dX5_productOf_19 rfl (lv_at hl 3 rfl) ?_
            refine va_get (D := (dC, dI)) (ci := 5) (v := .int (nI iw)) (C := RX5) (T := TX5) (N := 19) hx hb (dr_words hts d0) (in_X5_productOf_X5) hown hK hP 0 rfl rfl 1 (by decide) (dr_words hts d0 (.fieldLink RX5 48 "PlateModesModel" "width" "I") (by decide +kernel)) (fun _ h9 => h9) rfl dX5_productOf_20 ?_
            refine z_icmp_ge (a := x) (b := iw) (tgt := 90) hx hb (by omega) (by omega) dX5_productOf_23 (by decide) (fun c3 => ?_) (fun c4 => ?_)
            · skip
              refine lv_iinc (v := nI (y + 1)) (lv' := [(5, .int (nI (y + 1))), (6, .int (nI x)), (3, .double sx), (0, .ref a0), (1, .int (nI k)), (2, .int (nI j))]) hx hb dX5_productOf_90 hl (k := 1) rfl (show nI y + nI 1 = _ from zi_add (by omega)) (by decide) rfl (fun ls hl => ?_)
              refine lv_goto (tgt := 5) hx hb dX5_productOf_93 (by decide) ?_
              exact ih_L_5 (y + 1) sx _ _ _ _ (by omega) (by omega) ((hsx).trans (congrArg (fun z => zprod T S1 S2 (zv fd) z) (show y * iw + x = (y + 1) * iw from by rw [← zrow_end]; omega))) hd0 hS (lv_sub hl [0, 2, 3, 4, 5] rfl)
            · skip
              refine lv_bipush (v := (nI 6)) hx hb dX5_productOf_26 (by decide) ?_
              refine lv_iload hx hb dX5_productOf_28 (lv_at hl 1 rfl) ?_
              refine t_imul hx hb dX5_productOf_30 (v := nI (6 * y)) (zi_mul rfl) ?_
              refine lv_iload hx hb dX5_productOf_31 (lv_at hl 0 rfl) ?_
              refine t_iadd hx hb dX5_productOf_33 (v := nI (6 * y + x)) (zi_add (by omega)) ?_
              refine lv_istore (lv' := [(7, .int (nI (6 * y + x))), (6, .int (nI x)), (5, .int (nI y)), (3, .double sx), (0, .ref a0), (1, .int (nI k)), (2, .int (nI j))]) hx hb dX5_productOf_34 hl (by decide) rfl (fun ls hl => ?_)
              refine lv_aload_n hx hb dX5_productOf_36 rfl (lv_at hl 4 rfl) ?_
              refine lv_iload hx hb dX5_productOf_37 (lv_at hl 0 rfl) ?_
              have hPc := hP
              refine va_calli (va_runV (As := [.int (nI (6 * y + x))]) (rest := []) ⟨hx, hb, hml, hown, (dr_words hts d0)⟩ (c5_isWood l dC dI a0 aT aE aG aR aN aS aQ aW aX cD cI th iw ih fa fb fd ib mk im iq tT tE tG tR tN tS tQ tW tX (6 * y + x) (by omega)) (cwV 1 (dr_words hts d0) gX5_productOf_X5_isWood rfl rfl rfl (by decide +kernel) ⟨Nat.le_of_ble_eq_true rfl, Nat.le_of_ble_eq_true rfl⟩) ⟨zfb, va_recv hK hP (ci := 5) (q0 := 0) rfl rfl, zpre hPc hK⟩ rfl rfl hl.1 rfl (lv_room (Nat.le_of_ble_eq_true rfl)) dX5_productOf_39 ⟨Nat.le_of_ble_eq_true rfl, Nat.le_of_ble_eq_true rfl⟩) hS (fun q _ h => h.elim) (fun q h => h.elim) (fun r5 u9 t9 H locs ht9 hvm9 hr5 hB9 hz9 hk1 hS => ?_)
              have hP := zro1 hP hk1
              have hr5 : r5 = zb (zgt (T (y * iw + x)) z0) := by rw [hr5, zgr_at gT x y (by omega) (by omega) (by omega)]
              subst hr5
              have J_83 : ∀ (sv : UInt64) (d0 : Drawn) (H : Heap) (locs : List Loc) (ls : Array Slot), (zv sv = zprod T S1 S2 (zv fd) (y * iw + x + 1)) → s.drawn.sameBut d0 lw_cs → va_S (fun _ => False) s.heap H locs → lv_has ls 8 [(7, .int (nI (6 * y + x))), (6, .int (nI x)), (5, .int (nI y)), (3, .double sx), (0, .ref a0), (1, .int (nI k)), (2, .int (nI j))] → W p l e (headSpec wsX5_productOf ({ frames := 1, cells := 0, slots := 0, locals := 21 } : Room)).room (s.setDrawn d0) m ([.ref a0, .int (nI k), .int (nI j)] : List Value).toArray below meth c H locs 0 0 (MQD lw_cs below (va_Qd (fun (r : UInt64) (_ : Unit) => zv r = zprod T S1 S2 (zv fd) (iw * ih)) (fun _ _ => True) (fun _ => False)) ([.ref a0, .int (nI k), .int (nI j)] : List Value).toArray s 0 0 (fun _ => False)) (F0 m 83 ls [.double sv]) := by
                intro sv d0 H locs ls hsv hd0 hS hl
                have hP := zro hP0 hS
                refine lv_dstore_n (lv' := [(3, .double sv), (7, .int (nI (6 * y + x))), (6, .int (nI x)), (5, .int (nI y)), (0, .ref a0), (1, .int (nI k)), (2, .int (nI j))]) hx hb dX5_productOf_83 rfl hl (by decide) rfl (fun ls hl => ?_)
                refine lv_iinc (v := nI (x + 1)) (lv' := [(6, .int (nI (x + 1))), (3, .double sv), (7, .int (nI (6 * y + x))), (5, .int (nI y)), (0, .ref a0), (1, .int (nI k)), (2, .int (nI j))]) hx hb dX5_productOf_84 hl (k := 2) rfl (show nI x + nI 1 = _ from zi_add (by omega)) (by decide) rfl (fun ls hl => ?_)
                refine lv_goto (tgt := 17) hx hb dX5_productOf_87 (by decide) ?_
                exact ih_L_17 (x + 1) sv _ _ _ _ (by omega) (by omega) hsv hd0 hS (lv_sub hl [0, 3, 1, 4, 5, 6] rfl)
              refine z_if_eq_b (tgt := 82) hx hb dX5_productOf_42 (by decide) (fun c6 => ?_) (fun c7 => ?_)
              · skip
                have cw := c6
                refine lv_dload_n hx hb dX5_productOf_82 rfl (lv_at hl 3 rfl) ?_
                exact J_83 sx _ _ _ _ (hsx.trans (zprod_f cw).symm) hd0 hS hl
              · skip
                have cw := c7
                refine lv_dload_n hx hb dX5_productOf_45 rfl (lv_at hl 3 rfl) ?_
                refine lv_aload_n hx hb dX5_productOf_46 rfl (lv_at hl 4 rfl) ?_
                refine lv_iload hx hb dX5_productOf_47 (lv_at hl 0 rfl) ?_
                have hPc := hP
                refine va_calldD hd0 (va_runV_D (As := [.int (nI (6 * y + x))]) (rest := [.double sx]) ⟨hx, hb, hml, hown, (dr_words hts d0)⟩ (c5_mass l dC dI a0 aT aE aG aR aN aS aQ aW aX cD cI th iw ih fa fb fd ib mk im iq tT tE tG tR tN tS tQ tW tX (6 * y + x) (by omega)) (cwV 1 (dr_words hts d0) gX5_productOf_X5_mass rfl rfl rfl (by decide +kernel) ⟨Nat.le_of_ble_eq_true rfl, Nat.le_of_ble_eq_true rfl⟩) ⟨zfb, va_recv hK hP (ci := 5) (q0 := 0) rfl rfl, zpre hPc hK⟩ rfl rfl hl.1 rfl (lv_room (Nat.le_of_ble_eq_true rfl)) dX5_productOf_49 ⟨Nat.le_of_ble_eq_true rfl, Nat.le_of_ble_eq_true rfl⟩) hS (fun q _ h => h.elim) (fun q h => h.elim) (fun r8 u9 t9 H locs ht9 hvm9 hr8 hB9 hz9 hk1 hS dhd9 hd9 => ?_)
                have hP := zro1 hP hk1
                have hr8 : zv r8 = zM (T (y * iw + x)) (zv fd) := by rw [hr8, zgr_at gT x y (by omega) (by omega) (by omega)]
                refine lv_aload_n hx hb dX5_productOf_52 rfl (lv_at hl 4 rfl) ?_
                refine va_get (D := (dC, dI)) (ci := 5) (v := .ref aS) (C := RX5) (T := TX5) (N := 19) hx hb (dr_words hts dhd9) (in_X5_productOf_X5) hown hK hP 0 rfl rfl 14 (by decide) (dr_words hts dhd9 (.fieldLink RX5 36 "PlateModesModel" "shapes" "[D") (by decide +kernel)) (fun _ h9 => h9) rfl dX5_productOf_53 ?_
                refine lv_bipush (v := (nI 36)) hx hb dX5_productOf_56 (by decide) ?_
                refine lv_iload_n hx hb dX5_productOf_58 rfl (lv_at hl 5 rfl) ?_
                refine t_imul hx hb dX5_productOf_59 (v := nI (36 * k)) (zi_mul rfl) ?_
                refine lv_iload hx hb dX5_productOf_60 (lv_at hl 0 rfl) ?_
                refine t_iadd hx hb dX5_productOf_62 (v := nI (36 * k + 6 * y + x)) (zi_add (by omega)) ?_
                refine z_dald (s := s.setDrawn dhd9) (n := 144) (i := 36 * k + 6 * y + x) hx hb hK hP 6 0 rfl rfl (by omega) (by decide) dX5_productOf_63 ?_
                refine zr_dmul hd9 hx hb (a := zM (T (y * iw + x)) (zv fd)) (b := S1 (y * iw + x)) hr8 (zgs_at g1 x y (by omega) (by omega) (by omega)) dX5_productOf_64 (fun r10 d11 hr10 hd11 => ?_)
                refine lv_aload_n hx hb dX5_productOf_65 rfl (lv_at hl 4 rfl) ?_
                refine va_get (D := (dC, dI)) (ci := 5) (v := .ref aS) (C := RX5) (T := TX5) (N := 19) hx hb (dr_words hts d11) (in_X5_productOf_X5) hown hK hP 0 rfl rfl 14 (by decide) (dr_words hts d11 (.fieldLink RX5 36 "PlateModesModel" "shapes" "[D") (by decide +kernel)) (fun _ h9 => h9) rfl dX5_productOf_66 ?_
                refine lv_bipush (v := (nI 36)) hx hb dX5_productOf_69 (by decide) ?_
                refine lv_iload_n hx hb dX5_productOf_71 rfl (lv_at hl 6 rfl) ?_
                refine t_imul hx hb dX5_productOf_72 (v := nI (36 * j)) (zi_mul rfl) ?_
                refine lv_iload hx hb dX5_productOf_73 (lv_at hl 0 rfl) ?_
                refine t_iadd hx hb dX5_productOf_75 (v := nI (36 * j + 6 * y + x)) (zi_add (by omega)) ?_
                refine z_dald (s := s.setDrawn d11) (n := 144) (i := 36 * j + 6 * y + x) hx hb hK hP 6 0 rfl rfl (by omega) (by decide) dX5_productOf_76 ?_
                refine zr_dmul hd11 hx hb (a := zM (zM (T (y * iw + x)) (zv fd)) (S1 (y * iw + x))) (b := S2 (y * iw + x)) hr10 (zgs_at g2 x y (by omega) (by omega) (by omega)) dX5_productOf_77 (fun r12 d13 hr12 hd13 => ?_)
                refine zr_dadd hd13 hx hb (a := zprod T S1 S2 (zv fd) (y * iw + x)) (b := zM (zM (zM (T (y * iw + x)) (zv fd)) (S1 (y * iw + x))) (S2 (y * iw + x))) hsx hr12 dX5_productOf_78 (fun r14 d15 hr14 hd15 => ?_)
                refine lv_goto (tgt := 83) hx hb dX5_productOf_79 (by decide) ?_
                exact J_83 r14 _ _ _ _ (hr14.trans (zprod_t cw).symm) hd15 hS hl
        exact L_17 _ 0 sy _ _ _ _ (Nat.lt_succ_self _) (by omega) hsy hd0 hS hl
  exact L_5 _ 0 FP.dconst0 _ _ _ _ (Nat.lt_succ_self _) (by omega) (by rw [Nat.zero_mul]; rfl) hd0 hS hl
set_option maxHeartbeats 4000000 in
set_option maxRecDepth 100000 in
/-- whether there is no such mode -/
theorem c5_noMode (l : Launch) (dC : Nat → ClassId) (dI : Nat → Nat → Nat) (a0 aT aE aG aR aN aS aQ aW aX : Nat) (cD cI : ClassId) (th : Int32) (iw ih : Nat) (fa fb fd : UInt64) (ib : Nat) (mk : Bool) (im iq : Nat) (tT : Nat → UInt64) (tE : Nat → Int32) (tG tR tN tS tQ : Nat → UInt64) (tW : Nat → Int32) (tX : Nat → UInt64) (k : Int32) : Met l yX5_noMode wsX5_noMode ({ frames := 0, cells := 0, slots := 0, locals := 0 } : Room) (va_Pc [.ref a0, .int k] (fun U => va_P (dC, dI) vwCl (w5 a0 aT aE aG aR aN aS aQ aW aX cD cI th iw ih fa fb fd ib mk im iq tT tE tG tR tN tS tQ tW tX) U.heap ∧ va_K (dC, dI) vwCl [(cD, .double), (cI, .int)] U)) (va_Qi (fun (r : Int32) (_ : Unit) => r = zp (k < 0 ∨ nI 4 ≤ k)) (fun _ _ => True) (fun _ => False)) 0 0 (fun _ => False) := by
  refine Met.ofW (cc := cX5_noMode) (maxL := 2) (ret := (some .boolean)) (by decide) rfl ?_
  intro p e s m args below meth c s₁ B hml hv
  obtain ⟨rfl, hP0, hK⟩ := hv
  have hx := B.exec
  have hb := B.bytes
  have hr := B.returns
  have hts := atoms_spec (ws := wsX5_noMode) B.pre
  have hown : s.vm.findClass RX5 = some m.cls := findClass_of_methodNamed B.named
  have hlocks := B.notSynchronized
  have hS : va_S (fun _ => False) s.heap s.heap [] := va_S.rf
  have hP := hP0
  have hl := lv_entry ([.ref a0, .int k]) (n := 2) (Nat.le_of_ble_eq_true rfl)
  rw [lg_entry_eq]
  generalize (lg_sl ([.ref a0, .int k]) ++ List.replicate (2 - (lg_sl ([.ref a0, .int k])).length) Slot.unset).toArray = ls at hl ⊢
  have hl : lv_has ls 2 [(0, .ref a0), (1, .int k)] := hl
  refine lv_iload_n hx hb dX5_noMode_0 rfl (lv_at hl 1 rfl) ?_
  refine lv_if_lt (tgt := 9) hx hb dX5_noMode_1 (by decide) (fun c1 => ?_) (fun c2 => ?_)
  · skip
    refine lv_iconst (v := (nI 1)) hx hb dX5_noMode_9 (by decide) ?_
    refine lv_goto (tgt := 14) hx hb dX5_noMode_10 (by decide) ?_
    exact W.zret (v := (nI 1)) hx hb hr rfl (fun t ht hW => ⟨⟨(nI 1), (), rfl, ⟨znc_t _ (by simp [*]), trivial⟩⟩, hS.F ht⟩) hS.2.2 dX5_noMode_14
  · skip
    refine lv_iload_n hx hb dX5_noMode_4 rfl (lv_at hl 1 rfl) ?_
    refine lv_iconst (v := (nI 4)) hx hb dX5_noMode_5 (by decide) ?_
    refine lv_icmp_lt (tgt := 13) hx hb dX5_noMode_6 (by decide) (fun c3 => ?_) (fun c4 => ?_)
    · skip
      refine lv_iconst (v := (nI 0)) hx hb dX5_noMode_13 (by decide) ?_
      exact W.zret (v := (nI 0)) hx hb hr rfl (fun t ht hW => ⟨⟨(nI 0), (), rfl, ⟨znc_f _ (by simp [*]), trivial⟩⟩, hS.F ht⟩) hS.2.2 dX5_noMode_14
    · skip
      have cz := Int32.not_lt.mp c4
      refine lv_iconst (v := (nI 1)) hx hb dX5_noMode_9 (by decide) ?_
      refine lv_goto (tgt := 14) hx hb dX5_noMode_10 (by decide) ?_
      exact W.zret (v := (nI 1)) hx hb hr rfl (fun t ht hW => ⟨⟨(nI 1), (), rfl, ⟨znc_t _ (by simp [*]), trivial⟩⟩, hS.F ht⟩) hS.2.2 dX5_noMode_14
def zchk (there mk : Bool) (many : Nat) (k : Int32) : Int32 := if there = false then nI 1 else if mk = true ∧ k < nI many then nI 0 else nI 2
theorem in_X5_check_X5 : ∀ w ∈ wsX50, w ∈ wsX5_check := fun w h => List.mem_cons_of_mem _ (List.mem_append_right _ h)
set_option maxHeartbeats 4000000 in
set_option maxRecDepth 100000 in
/-- what check says -/
theorem c5_check (l : Launch) (dC : Nat → ClassId) (dI : Nat → Nat → Nat) (a0 aT aE aG aR aN aS aQ aW aX : Nat) (cD cI : ClassId) (th : Int32) (iw ih : Nat) (fa fb fd : UInt64) (ib : Nat) (mk : Bool) (im iq : Nat) (tT : Nat → UInt64) (tE : Nat → Int32) (tG tR tN tS tQ : Nat → UInt64) (tW : Nat → Int32) (tX : Nat → UInt64) (there : Bool) (k : Int32) : Met l yX5_check wsX5_check ({ frames := 0, cells := 0, slots := 0, locals := 0 } : Room) (va_Pc [.ref a0, .int (zb there), .int k] (fun U => va_P (dC, dI) vwCl (w5 a0 aT aE aG aR aN aS aQ aW aX cD cI th iw ih fa fb fd ib mk im iq tT tE tG tR tN tS tQ tW tX) U.heap ∧ va_K (dC, dI) vwCl [(cD, .double), (cI, .int)] U)) (va_Qi (fun (r : Int32) (_ : Unit) => r = zchk there mk im k) (fun _ _ => True) (fun _ => False)) 0 0 (fun _ => False) := by
  refine Met.ofW (cc := cX5_check) (maxL := 3) (ret := (some .int)) (by decide) rfl ?_
  intro p e s m args below meth c s₁ B hml hv
  obtain ⟨rfl, hP0, hK⟩ := hv
  have hx := B.exec
  have hb := B.bytes
  have hr := B.returns
  have hts := atoms_spec (ws := wsX5_check) B.pre
  have hown : s.vm.findClass RX5 = some m.cls := findClass_of_methodNamed B.named
  have hlocks := B.notSynchronized
  have hS : va_S (fun _ => False) s.heap s.heap [] := va_S.rf
  have hP := hP0
  have hl := lv_entry ([.ref a0, .int (zb there), .int k]) (n := 3) (Nat.le_of_ble_eq_true rfl)
  rw [lg_entry_eq]
  generalize (lg_sl ([.ref a0, .int (zb there), .int k]) ++ List.replicate (3 - (lg_sl ([.ref a0, .int (zb there), .int k])).length) Slot.unset).toArray = ls at hl ⊢
  have hl : lv_has ls 3 [(0, .ref a0), (1, .int (zb there)), (2, .int k)] := hl
  refine lv_iload_n hx hb dX5_check_0 rfl (lv_at hl 1 rfl) ?_
  refine z_if_ne_b (tgt := 8) hx hb dX5_check_1 (by decide) (fun c1 => ?_) (fun c2 => ?_)
  · skip
    have ct := c1
    refine lv_aload_n hx hb dX5_check_8 rfl (lv_at hl 0 rfl) ?_
    refine va_get (D := (dC, dI)) (ci := 5) (v := .int (zb mk)) (C := RX5) (T := TX5) (N := 19) hx hb hts (in_X5_check_X5) hown hK hP 0 rfl rfl 12 (by decide) (hts (.fieldLink RX5 72 "PlateModesModel" "made" "Z") (by decide +kernel)) (fun _ h9 => h9) rfl dX5_check_9 ?_
    refine z_if_eq_b (tgt := 27) hx hb dX5_check_12 (by decide) (fun c3 => ?_) (fun c4 => ?_)
    · skip
      have cm := c3
      refine lv_iconst (v := (nI 2)) hx hb dX5_check_27 (by decide) ?_
      exact W.iret (v := (nI 2)) hx hb hr (fun t ht hW => ⟨⟨(nI 2), (), rfl, ⟨by simp [zchk, *], trivial⟩⟩, hS.F ht⟩) hS.2.2 dX5_check_28
    · skip
      have cm := c4
      refine lv_iload_n hx hb dX5_check_15 rfl (lv_at hl 2 rfl) ?_
      refine lv_aload_n hx hb dX5_check_16 rfl (lv_at hl 0 rfl) ?_
      refine va_get (D := (dC, dI)) (ci := 5) (v := .int (nI im)) (C := RX5) (T := TX5) (N := 19) hx hb hts (in_X5_check_X5) hown hK hP 0 rfl rfl 13 (by decide) (hts (.fieldLink RX5 116 "PlateModesModel" "many" "I") (by decide +kernel)) (fun _ h9 => h9) rfl dX5_check_17 ?_
      refine lv_icmp_ge (tgt := 27) hx hb dX5_check_20 (by decide) (fun c5 => ?_) (fun c6 => ?_)
      · skip
        have ck := Int32.not_lt.mpr c5
        refine lv_iconst (v := (nI 2)) hx hb dX5_check_27 (by decide) ?_
        exact W.iret (v := (nI 2)) hx hb hr (fun t ht hW => ⟨⟨(nI 2), (), rfl, ⟨by simp [zchk, *], trivial⟩⟩, hS.F ht⟩) hS.2.2 dX5_check_28
      · skip
        have ck := c6
        refine lv_iconst (v := (nI 0)) hx hb dX5_check_23 (by decide) ?_
        refine lv_goto (tgt := 28) hx hb dX5_check_24 (by decide) ?_
        exact W.iret (v := (nI 0)) hx hb hr (fun t ht hW => ⟨⟨(nI 0), (), rfl, ⟨by simp [zchk, *], trivial⟩⟩, hS.F ht⟩) hS.2.2 dX5_check_28
  · skip
    have ct := c2
    refine lv_iconst (v := (nI 1)) hx hb dX5_check_4 (by decide) ?_
    refine lv_goto (tgt := 28) hx hb dX5_check_5 (by decide) ?_
    exact W.iret (v := (nI 1)) hx hb hr (fun t ht hW => ⟨⟨(nI 1), (), rfl, ⟨by simp [zchk, *], trivial⟩⟩, hS.F ht⟩) hS.2.2 dX5_check_28
theorem in_X5_sumOf_X5 : ∀ w ∈ wsX50, w ∈ wsX5_sumOf := fun w h => List.mem_cons_of_mem _ (List.mem_append_right _ h)
set_option maxHeartbeats 4000000 in
set_option maxRecDepth 100000 in
/-- the sum of a shape -/
theorem c5_sumOf (l : Launch) (dC : Nat → ClassId) (dI : Nat → Nat → Nat) (a0 aT aE aG aR aN aS aQ aW aX : Nat) (cD cI : ClassId) (th : Int32) (iw ih : Nat) (fa fb fd : UInt64) (ib : Nat) (mk : Bool) (im iq : Nat) (tT : Nat → UInt64) (tE : Nat → Int32) (tG tR tN tS tQ : Nat → UInt64) (tW : Nat → Int32) (tX : Nat → UInt64) (k : Nat) (hk : k < 4) (hw6 : iw ≤ 6) (hh6 : ih ≤ 6) (T S : Nat → ZD) (gT : zgr tT iw ih T) (gS : zgs tS k iw ih S) : MetD lw_cs l yX5_sumOf wsX5_sumOf ({ frames := 1, cells := 0, slots := 0, locals := 21 } : Room) (va_Pc [.ref a0, .int (nI k)] (fun U => va_P (dC, dI) vwCl (w5 a0 aT aE aG aR aN aS aQ aW aX cD cI th iw ih fa fb fd ib mk im iq tT tE tG tR tN tS tQ tW tX) U.heap ∧ va_K (dC, dI) vwCl [(cD, .double), (cI, .int)] U)) (va_Qd (fun (r : UInt64) (_ : Unit) => zv r = zsum T S (iw * ih)) (fun _ _ => True) (fun _ => False)) 0 0 (fun _ => False) := by
  refine MetD.ofW (cc := cX5_sumOf) (maxL := 6) (ret := (some .double)) (by decide) rfl ?_
  intro p e s m args below meth c s₁ B hml hv hd0
  obtain ⟨rfl, hP0, hK⟩ := hv
  have hx := B.exec
  have hb := B.bytes
  have hr := B.returns
  have hts := atoms_spec (ws := wsX5_sumOf) B.pre
  have hown : s.vm.findClass RX5 = some m.cls := findClass_of_methodNamed B.named
  have hlocks := B.notSynchronized
  have hS : va_S (fun _ => False) s.heap s.heap [] := va_S.rf
  have hP := hP0
  have hl := lv_entry ([.ref a0, .int (nI k)]) (n := 6) (Nat.le_of_ble_eq_true rfl)
  rw [lg_entry_eq]
  generalize (lg_sl ([.ref a0, .int (nI k)]) ++ List.replicate (6 - (lg_sl ([.ref a0, .int (nI k)])).length) Slot.unset).toArray = ls at hl ⊢
  have hl : lv_has ls 6 [(0, .ref a0), (1, .int (nI k))] := hl
  refine lv_dconst0 hx hb dX5_sumOf_0 ?_
  refine lv_dstore_n (lv' := [(2, .double FP.dconst0), (0, .ref a0), (1, .int (nI k))]) hx hb dX5_sumOf_1 rfl hl (by decide) rfl (fun ls hl => ?_)
  refine lv_iconst (v := (nI 0)) hx hb dX5_sumOf_2 (by decide) ?_
  refine lv_istore (lv' := [(4, .int (nI 0)), (2, .double FP.dconst0), (0, .ref a0), (1, .int (nI k))]) hx hb dX5_sumOf_3 hl (by decide) rfl (fun ls hl => ?_)
  have L_5 : ∀ (n : Nat) (y : Nat) (sy : UInt64) (d0 : Drawn) (H : Heap) (locs : List Loc) (ls : Array Slot), ih - y < n → (y ≤ ih) → (zv sy = zsum T S (y * iw)) → s.drawn.sameBut d0 lw_cs → va_S (fun _ => False) s.heap H locs → lv_has ls 6 [(4, .int (nI y)), (2, .double sy), (0, .ref a0), (1, .int (nI k))] → W p l e (headSpec wsX5_sumOf ({ frames := 1, cells := 0, slots := 0, locals := 21 } : Room)).room (s.setDrawn d0) m ([.ref a0, .int (nI k)] : List Value).toArray below meth c H locs 0 0 (MQD lw_cs below (va_Qd (fun (r : UInt64) (_ : Unit) => zv r = zsum T S (iw * ih)) (fun _ _ => True) (fun _ => False)) ([.ref a0, .int (nI k)] : List Value).toArray s 0 0 (fun _ => False)) (F0 m 5 ls []) := by
    intro n
    induction n with
    | zero => intro y sy d0 H locs ls hn; exact absurd hn (Nat.not_lt_zero _)
    | succ n ih_L_5 =>
      intro y sy d0 H locs ls hn hyh hsy hd0 hS hl
      have hP := zro hP0 hS
      refine lv_iload hx hb dX5_sumOf_5 (lv_at hl 0 rfl) ?_
      refine lv_aload_n hx hb dX5_sumOf_7 rfl (lv_at hl 2 rfl) ?_
      refine va_get (D := (dC, dI)) (ci := 5) (v := .int (nI ih)) (C := RX5) (T := TX5) (N := 19) hx hb (dr_words hts d0) (in_X5_sumOf_X5) hown hK hP 0 rfl rfl 2 (by decide) (dr_words hts d0 (.fieldLink RX5 52 "PlateModesModel" "height" "I") (by decide +kernel)) (fun _ h9 => h9) rfl dX5_sumOf_8 ?_
      refine z_icmp_ge (a := y) (b := ih) (tgt := 78) hx hb (by omega) (by omega) dX5_sumOf_11 (by decide) (fun c1 => ?_) (fun c2 => ?_)
      · skip
        refine lv_dload_n hx hb dX5_sumOf_78 rfl (lv_at hl 1 rfl) ?_
        refine W.endD hd0 ?_
        exact W.dret (v := sy) hx hb hr (fun t ht hW => ⟨⟨sy, (), rfl, ⟨(hsy).trans (congrArg (fun z => zsum T S z) (show y * iw = iw * ih from by rw [show y = ih by omega, Nat.mul_comm])), trivial⟩⟩, hS.F ht⟩) hS.2.2 dX5_sumOf_79
      · skip
        refine lv_iconst (v := (nI 0)) hx hb dX5_sumOf_14 (by decide) ?_
        refine lv_istore (lv' := [(5, .int (nI 0)), (4, .int (nI y)), (2, .double sy), (0, .ref a0), (1, .int (nI k))]) hx hb dX5_sumOf_15 hl (by decide) rfl (fun ls hl => ?_)
        have L_17 : ∀ (n : Nat) (x : Nat) (sx : UInt64) (d0 : Drawn) (H : Heap) (locs : List Loc) (ls : Array Slot), iw - x < n → (x ≤ iw) → (zv sx = zsum T S (y * iw + x)) → s.drawn.sameBut d0 lw_cs → va_S (fun _ => False) s.heap H locs → lv_has ls 6 [(5, .int (nI x)), (4, .int (nI y)), (2, .double sx), (0, .ref a0), (1, .int (nI k))] → W p l e (headSpec wsX5_sumOf ({ frames := 1, cells := 0, slots := 0, locals := 21 } : Room)).room (s.setDrawn d0) m ([.ref a0, .int (nI k)] : List Value).toArray below meth c H locs 0 0 (MQD lw_cs below (va_Qd (fun (r : UInt64) (_ : Unit) => zv r = zsum T S (iw * ih)) (fun _ _ => True) (fun _ => False)) ([.ref a0, .int (nI k)] : List Value).toArray s 0 0 (fun _ => False)) (F0 m 17 ls []) := by
          intro n
          induction n with
          | zero => intro x sx d0 H locs ls hn; exact absurd hn (Nat.not_lt_zero _)
          | succ n ih_L_17 =>
            intro x sx d0 H locs ls hn hxw hsx hd0 hS hl
            have hP := zro hP0 hS
            refine lv_iload hx hb dX5_sumOf_17 (lv_at hl 0 rfl) ?_
            refine lv_aload_n hx hb dX5_sumOf_19 rfl (lv_at hl 3 rfl) ?_
            refine va_get (D := (dC, dI)) (ci := 5) (v := .int (nI iw)) (C := RX5) (T := TX5) (N := 19) hx hb (dr_words hts d0) (in_X5_sumOf_X5) hown hK hP 0 rfl rfl 1 (by decide) (dr_words hts d0 (.fieldLink RX5 48 "PlateModesModel" "width" "I") (by decide +kernel)) (fun _ h9 => h9) rfl dX5_sumOf_20 ?_
            refine z_icmp_ge (a := x) (b := iw) (tgt := 72) hx hb (by omega) (by omega) dX5_sumOf_23 (by decide) (fun c3 => ?_) (fun c4 => ?_)
            · skip
              refine lv_iinc (v := nI (y + 1)) (lv' := [(4, .int (nI (y + 1))), (5, .int (nI x)), (2, .double sx), (0, .ref a0), (1, .int (nI k))]) hx hb dX5_sumOf_72 hl (k := 1) rfl (show nI y + nI 1 = _ from zi_add (by omega)) (by decide) rfl (fun ls hl => ?_)
              refine lv_goto (tgt := 5) hx hb dX5_sumOf_75 (by decide) ?_
              exact ih_L_5 (y + 1) sx _ _ _ _ (by omega) (by omega) ((hsx).trans (congrArg (fun z => zsum T S z) (show y * iw + x = (y + 1) * iw from by rw [← zrow_end]; omega))) hd0 hS (lv_sub hl [0, 2, 3, 4] rfl)
            · skip
              refine lv_aload_n hx hb dX5_sumOf_26 rfl (lv_at hl 3 rfl) ?_
              refine lv_bipush (v := (nI 6)) hx hb dX5_sumOf_27 (by decide) ?_
              refine lv_iload hx hb dX5_sumOf_29 (lv_at hl 1 rfl) ?_
              refine t_imul hx hb dX5_sumOf_31 (v := nI (6 * y)) (zi_mul rfl) ?_
              refine lv_iload hx hb dX5_sumOf_32 (lv_at hl 0 rfl) ?_
              refine t_iadd hx hb dX5_sumOf_34 (v := nI (6 * y + x)) (zi_add (by omega)) ?_
              have hPc := hP
              refine va_calli (va_runV (As := [.int (nI (6 * y + x))]) (rest := []) ⟨hx, hb, hml, hown, (dr_words hts d0)⟩ (c5_isWood l dC dI a0 aT aE aG aR aN aS aQ aW aX cD cI th iw ih fa fb fd ib mk im iq tT tE tG tR tN tS tQ tW tX (6 * y + x) (by omega)) (cwV 1 (dr_words hts d0) gX5_sumOf_X5_isWood rfl rfl rfl (by decide +kernel) ⟨Nat.le_of_ble_eq_true rfl, Nat.le_of_ble_eq_true rfl⟩) ⟨zfb, va_recv hK hP (ci := 5) (q0 := 0) rfl rfl, zpre hPc hK⟩ rfl rfl hl.1 rfl (lv_room (Nat.le_of_ble_eq_true rfl)) dX5_sumOf_35 ⟨Nat.le_of_ble_eq_true rfl, Nat.le_of_ble_eq_true rfl⟩) hS (fun q _ h => h.elim) (fun q h => h.elim) (fun r5 u9 t9 H locs ht9 hvm9 hr5 hB9 hz9 hk1 hS => ?_)
              have hP := zro1 hP hk1
              have hr5 : r5 = zb (zgt (T (y * iw + x)) z0) := by rw [hr5, zgr_at gT x y (by omega) (by omega) (by omega)]
              subst hr5
              have J_65 : ∀ (sv : UInt64) (d0 : Drawn) (H : Heap) (locs : List Loc) (ls : Array Slot), (zv sv = zsum T S (y * iw + x + 1)) → s.drawn.sameBut d0 lw_cs → va_S (fun _ => False) s.heap H locs → lv_has ls 6 [(5, .int (nI x)), (4, .int (nI y)), (2, .double sx), (0, .ref a0), (1, .int (nI k))] → W p l e (headSpec wsX5_sumOf ({ frames := 1, cells := 0, slots := 0, locals := 21 } : Room)).room (s.setDrawn d0) m ([.ref a0, .int (nI k)] : List Value).toArray below meth c H locs 0 0 (MQD lw_cs below (va_Qd (fun (r : UInt64) (_ : Unit) => zv r = zsum T S (iw * ih)) (fun _ _ => True) (fun _ => False)) ([.ref a0, .int (nI k)] : List Value).toArray s 0 0 (fun _ => False)) (F0 m 65 ls [.double sv]) := by
                intro sv d0 H locs ls hsv hd0 hS hl
                have hP := zro hP0 hS
                refine lv_dstore_n (lv' := [(2, .double sv), (5, .int (nI x)), (4, .int (nI y)), (0, .ref a0), (1, .int (nI k))]) hx hb dX5_sumOf_65 rfl hl (by decide) rfl (fun ls hl => ?_)
                refine lv_iinc (v := nI (x + 1)) (lv' := [(5, .int (nI (x + 1))), (2, .double sv), (4, .int (nI y)), (0, .ref a0), (1, .int (nI k))]) hx hb dX5_sumOf_66 hl (k := 1) rfl (show nI x + nI 1 = _ from zi_add (by omega)) (by decide) rfl (fun ls hl => ?_)
                refine lv_goto (tgt := 17) hx hb dX5_sumOf_69 (by decide) ?_
                exact ih_L_17 (x + 1) sv _ _ _ _ (by omega) (by omega) hsv hd0 hS (lv_sub hl [0, 2, 1, 3, 4] rfl)
              refine z_if_eq_b (tgt := 64) hx hb dX5_sumOf_38 (by decide) (fun c6 => ?_) (fun c7 => ?_)
              · skip
                have cw := c6
                refine lv_dload_n hx hb dX5_sumOf_64 rfl (lv_at hl 2 rfl) ?_
                exact J_65 sx _ _ _ _ (hsx.trans (zsum_f cw).symm) hd0 hS hl
              · skip
                have cw := c7
                refine lv_dload_n hx hb dX5_sumOf_41 rfl (lv_at hl 2 rfl) ?_
                refine lv_aload_n hx hb dX5_sumOf_42 rfl (lv_at hl 3 rfl) ?_
                refine va_get (D := (dC, dI)) (ci := 5) (v := .ref aS) (C := RX5) (T := TX5) (N := 19) hx hb (dr_words hts d0) (in_X5_sumOf_X5) hown hK hP 0 rfl rfl 14 (by decide) (dr_words hts d0 (.fieldLink RX5 36 "PlateModesModel" "shapes" "[D") (by decide +kernel)) (fun _ h9 => h9) rfl dX5_sumOf_43 ?_
                refine lv_bipush (v := (nI 36)) hx hb dX5_sumOf_46 (by decide) ?_
                refine lv_iload_n hx hb dX5_sumOf_48 rfl (lv_at hl 4 rfl) ?_
                refine t_imul hx hb dX5_sumOf_49 (v := nI (36 * k)) (zi_mul rfl) ?_
                refine lv_bipush (v := (nI 6)) hx hb dX5_sumOf_50 (by decide) ?_
                refine lv_iload hx hb dX5_sumOf_52 (lv_at hl 1 rfl) ?_
                refine t_imul hx hb dX5_sumOf_54 (v := nI (6 * y)) (zi_mul rfl) ?_
                refine t_iadd hx hb dX5_sumOf_55 (v := nI (36 * k + 6 * y)) (zi_add (by omega)) ?_
                refine lv_iload hx hb dX5_sumOf_56 (lv_at hl 0 rfl) ?_
                refine t_iadd hx hb dX5_sumOf_58 (v := nI (36 * k + 6 * y + x)) (zi_add (by omega)) ?_
                refine z_dald (s := s.setDrawn d0) (n := 144) (i := 36 * k + 6 * y + x) hx hb hK hP 6 0 rfl rfl (by omega) (by decide) dX5_sumOf_59 ?_
                refine zr_dadd hd0 hx hb (a := zsum T S (y * iw + x)) (b := S (y * iw + x)) hsx (zgs_at gS x y (by omega) (by omega) (by omega)) dX5_sumOf_60 (fun r8 d9 hr8 hd9 => ?_)
                refine lv_goto (tgt := 65) hx hb dX5_sumOf_61 (by decide) ?_
                exact J_65 r8 _ _ _ _ (hr8.trans (zsum_t cw).symm) hd9 hS hl
        exact L_17 _ 0 sy _ _ _ _ (Nat.lt_succ_self _) (by omega) hsy hd0 hS hl
  exact L_5 _ 0 FP.dconst0 _ _ _ _ (Nat.lt_succ_self _) (by omega) (by rw [Nat.zero_mul]; rfl) hd0 hS hl
theorem zabs_t {v : ZD} (h : zlt v z0 = true) : zabs v = zN v := if_pos h
theorem zabs_f {v : ZD} (h : zlt v z0 = false) : zabs v = v := if_neg (by rw [h]; decide)
theorem in_X5_residue_X5 : ∀ w ∈ wsX50, w ∈ wsX5_residue := fun w h => List.mem_cons_of_mem _ (List.mem_append_right _ h)
set_option maxHeartbeats 4000000 in
set_option maxRecDepth 100000 in
/-- RESIDUE -/
theorem c5_residue (l : Launch) (dC : Nat → ClassId) (dI : Nat → Nat → Nat) (a0 aT aE aG aR aN aS aQ aW aX : Nat) (cD cI : ClassId) (th : Int32) (iw ih : Nat) (fa fb fd : UInt64) (ib : Nat) (mk : Bool) (im iq : Nat) (tT : Nat → UInt64) (tE : Nat → Int32) (tG tR tN tS tQ : Nat → UInt64) (tW : Nat → Int32) (tX : Nat → UInt64) (k : Nat) (hk : k < 4) (hw6 : iw ≤ 6) (hh6 : ih ≤ 6) (T R N S : Nat → ZD) (gT : zgr tT iw ih T) (gR : zgr tR iw ih R) (gN : zgr tN iw ih N) (gS : zgs tS k iw ih S) : MetD lw_cs l yX5_residue wsX5_residue ({ frames := 1, cells := 0, slots := 0, locals := 27 } : Room) (va_Pc [.ref a0, .int (nI k)] (fun U => va_P (dC, dI) vwCl (w5 a0 aT aE aG aR aN aS aQ aW aX cD cI th iw ih fa fb fd ib mk im iq tT tE tG tR tN tS tQ tW tX) U.heap ∧ va_K (dC, dI) vwCl [(cD, .double), (cI, .int)] U)) (va_Qd (fun (r : UInt64) (_ : Unit) => zv r = zres iw ih T R N S (zv fd) (zv (tQ k)) (iw * ih)) (fun _ _ => True) (fun _ => False)) 0 0 (fun _ => False) := by
  refine MetD.ofW (cc := cX5_residue) (maxL := 9) (ret := (some .double)) (by decide) rfl ?_
  intro p e s m args below meth c s₁ B hml hv hd0
  obtain ⟨rfl, hP0, hK⟩ := hv
  have hx := B.exec
  have hb := B.bytes
  have hr := B.returns
  have hts := atoms_spec (ws := wsX5_residue) B.pre
  have hown : s.vm.findClass RX5 = some m.cls := findClass_of_methodNamed B.named
  have hlocks := B.notSynchronized
  have hS : va_S (fun _ => False) s.heap s.heap [] := va_S.rf
  have hP := hP0
  have hl := lv_entry ([.ref a0, .int (nI k)]) (n := 9) (Nat.le_of_ble_eq_true rfl)
  rw [lg_entry_eq]
  generalize (lg_sl ([.ref a0, .int (nI k)]) ++ List.replicate (9 - (lg_sl ([.ref a0, .int (nI k)])).length) Slot.unset).toArray = ls at hl ⊢
  have hl : lv_has ls 9 [(0, .ref a0), (1, .int (nI k))] := hl
  refine lv_dconst0 hx hb dX5_residue_0 ?_
  refine lv_dstore_n (lv' := [(2, .double FP.dconst0), (0, .ref a0), (1, .int (nI k))]) hx hb dX5_residue_1 rfl hl (by decide) rfl (fun ls hl => ?_)
  refine lv_iconst (v := (nI 0)) hx hb dX5_residue_2 (by decide) ?_
  refine lv_istore (lv' := [(4, .int (nI 0)), (2, .double FP.dconst0), (0, .ref a0), (1, .int (nI k))]) hx hb dX5_residue_3 hl (by decide) rfl (fun ls hl => ?_)
  have L_5 : ∀ (n : Nat) (y : Nat) (sy : UInt64) (d0 : Drawn) (H : Heap) (locs : List Loc) (ls : Array Slot), ih - y < n → (y ≤ ih) → (zv sy = zres iw ih T R N S (zv fd) (zv (tQ k)) (y * iw)) → s.drawn.sameBut d0 lw_cs → va_S (fun _ => False) s.heap H locs → lv_has ls 9 [(4, .int (nI y)), (2, .double sy), (0, .ref a0), (1, .int (nI k))] → W p l e (headSpec wsX5_residue ({ frames := 1, cells := 0, slots := 0, locals := 27 } : Room)).room (s.setDrawn d0) m ([.ref a0, .int (nI k)] : List Value).toArray below meth c H locs 0 0 (MQD lw_cs below (va_Qd (fun (r : UInt64) (_ : Unit) => zv r = zres iw ih T R N S (zv fd) (zv (tQ k)) (iw * ih)) (fun _ _ => True) (fun _ => False)) ([.ref a0, .int (nI k)] : List Value).toArray s 0 0 (fun _ => False)) (F0 m 5 ls []) := by
    intro n
    induction n with
    | zero => intro y sy d0 H locs ls hn; exact absurd hn (Nat.not_lt_zero _)
    | succ n ih_L_5 =>
      intro y sy d0 H locs ls hn hyh hsy hd0 hS hl
      have hP := zro hP0 hS
      refine lv_iload hx hb dX5_residue_5 (lv_at hl 0 rfl) ?_
      refine lv_aload_n hx hb dX5_residue_7 rfl (lv_at hl 2 rfl) ?_
      refine va_get (D := (dC, dI)) (ci := 5) (v := .int (nI ih)) (C := RX5) (T := TX5) (N := 19) hx hb (dr_words hts d0) (in_X5_residue_X5) hown hK hP 0 rfl rfl 2 (by decide) (dr_words hts d0 (.fieldLink RX5 52 "PlateModesModel" "height" "I") (by decide +kernel)) (fun _ h9 => h9) rfl dX5_residue_8 ?_
      refine z_icmp_ge (a := y) (b := ih) (tgt := 126) hx hb (by omega) (by omega) dX5_residue_11 (by decide) (fun c1 => ?_) (fun c2 => ?_)
      · skip
        refine lv_dload_n hx hb dX5_residue_126 rfl (lv_at hl 1 rfl) ?_
        refine W.endD hd0 ?_
        exact W.dret (v := sy) hx hb hr (fun t ht hW => ⟨⟨sy, (), rfl, ⟨(hsy).trans (congrArg (fun z => zres iw ih T R N S (zv fd) (zv (tQ k)) z) (show y * iw = iw * ih from by rw [show y = ih by omega, Nat.mul_comm])), trivial⟩⟩, hS.F ht⟩) hS.2.2 dX5_residue_127
      · skip
        refine lv_iconst (v := (nI 0)) hx hb dX5_residue_14 (by decide) ?_
        refine lv_istore (lv' := [(5, .int (nI 0)), (4, .int (nI y)), (2, .double sy), (0, .ref a0), (1, .int (nI k))]) hx hb dX5_residue_15 hl (by decide) rfl (fun ls hl => ?_)
        have L_17 : ∀ (n : Nat) (x : Nat) (sx : UInt64) (d0 : Drawn) (H : Heap) (locs : List Loc) (ls : Array Slot), iw - x < n → (x ≤ iw) → (zv sx = zres iw ih T R N S (zv fd) (zv (tQ k)) (y * iw + x)) → s.drawn.sameBut d0 lw_cs → va_S (fun _ => False) s.heap H locs → lv_has ls 9 [(5, .int (nI x)), (4, .int (nI y)), (2, .double sx), (0, .ref a0), (1, .int (nI k))] → W p l e (headSpec wsX5_residue ({ frames := 1, cells := 0, slots := 0, locals := 27 } : Room)).room (s.setDrawn d0) m ([.ref a0, .int (nI k)] : List Value).toArray below meth c H locs 0 0 (MQD lw_cs below (va_Qd (fun (r : UInt64) (_ : Unit) => zv r = zres iw ih T R N S (zv fd) (zv (tQ k)) (iw * ih)) (fun _ _ => True) (fun _ => False)) ([.ref a0, .int (nI k)] : List Value).toArray s 0 0 (fun _ => False)) (F0 m 17 ls []) := by
          intro n
          induction n with
          | zero => intro x sx d0 H locs ls hn; exact absurd hn (Nat.not_lt_zero _)
          | succ n ih_L_17 =>
            intro x sx d0 H locs ls hn hxw hsx hd0 hS hl
            have hP := zro hP0 hS
            refine lv_iload hx hb dX5_residue_17 (lv_at hl 0 rfl) ?_
            refine lv_aload_n hx hb dX5_residue_19 rfl (lv_at hl 3 rfl) ?_
            refine va_get (D := (dC, dI)) (ci := 5) (v := .int (nI iw)) (C := RX5) (T := TX5) (N := 19) hx hb (dr_words hts d0) (in_X5_residue_X5) hown hK hP 0 rfl rfl 1 (by decide) (dr_words hts d0 (.fieldLink RX5 48 "PlateModesModel" "width" "I") (by decide +kernel)) (fun _ h9 => h9) rfl dX5_residue_20 ?_
            refine z_icmp_ge (a := x) (b := iw) (tgt := 120) hx hb (by omega) (by omega) dX5_residue_23 (by decide) (fun c3 => ?_) (fun c4 => ?_)
            · skip
              refine lv_iinc (v := nI (y + 1)) (lv' := [(4, .int (nI (y + 1))), (5, .int (nI x)), (2, .double sx), (0, .ref a0), (1, .int (nI k))]) hx hb dX5_residue_120 hl (k := 1) rfl (show nI y + nI 1 = _ from zi_add (by omega)) (by decide) rfl (fun ls hl => ?_)
              refine lv_goto (tgt := 5) hx hb dX5_residue_123 (by decide) ?_
              exact ih_L_5 (y + 1) sx _ _ _ _ (by omega) (by omega) ((hsx).trans (congrArg (fun z => zres iw ih T R N S (zv fd) (zv (tQ k)) z) (show y * iw + x = (y + 1) * iw from by rw [← zrow_end]; omega))) hd0 hS (lv_sub hl [0, 2, 3, 4] rfl)
            · skip
              refine lv_bipush (v := (nI 6)) hx hb dX5_residue_26 (by decide) ?_
              refine lv_iload hx hb dX5_residue_28 (lv_at hl 1 rfl) ?_
              refine t_imul hx hb dX5_residue_30 (v := nI (6 * y)) (zi_mul rfl) ?_
              refine lv_iload hx hb dX5_residue_31 (lv_at hl 0 rfl) ?_
              refine t_iadd hx hb dX5_residue_33 (v := nI (6 * y + x)) (zi_add (by omega)) ?_
              refine lv_istore (lv' := [(6, .int (nI (6 * y + x))), (5, .int (nI x)), (4, .int (nI y)), (2, .double sx), (0, .ref a0), (1, .int (nI k))]) hx hb dX5_residue_34 hl (by decide) rfl (fun ls hl => ?_)
              refine lv_aload_n hx hb dX5_residue_36 rfl (lv_at hl 4 rfl) ?_
              refine lv_iload_n hx hb dX5_residue_37 rfl (lv_at hl 5 rfl) ?_
              refine lv_iload hx hb dX5_residue_38 (lv_at hl 1 rfl) ?_
              refine lv_iload hx hb dX5_residue_40 (lv_at hl 2 rfl) ?_
              have hPc := hP
              refine va_calldD hd0 (va_runV_D (As := [.int (nI k), .int (nI x), .int (nI y)]) (rest := []) ⟨hx, hb, hml, hown, (dr_words hts d0)⟩ (c5_force l dC dI a0 aT aE aG aR aN aS aQ aW aX cD cI th iw ih fa fb fd ib mk im iq tT tE tG tR tN tS tQ tW tX k x y (by omega) (by omega) (by omega) hw6 hh6 R N S gR gN gS) (cwV 3 (dr_words hts d0) gX5_residue_X5_force rfl rfl rfl (by decide +kernel) ⟨Nat.le_of_ble_eq_true rfl, Nat.le_of_ble_eq_true rfl⟩) ⟨zfb, va_recv hK hP (ci := 5) (q0 := 0) rfl rfl, zpre hPc hK⟩ rfl rfl hl.1 rfl (lv_room (Nat.le_of_ble_eq_true rfl)) dX5_residue_42 ⟨Nat.le_of_ble_eq_true rfl, Nat.le_of_ble_eq_true rfl⟩) hS (fun q _ h => h.elim) (fun q h => h.elim) (fun r5 u9 t9 H locs ht9 hvm9 hr5 hB9 hz9 hk1 hS dhd6 hd6 => ?_)
              have hP := zro1 hP hk1
              refine lv_aload_n hx hb dX5_residue_45 rfl (lv_at hl 4 rfl) ?_
              refine va_get (D := (dC, dI)) (ci := 5) (v := .ref aQ) (C := RX5) (T := TX5) (N := 19) hx hb (dr_words hts dhd6) (in_X5_residue_X5) hown hK hP 0 rfl rfl 15 (by decide) (dr_words hts dhd6 (.fieldLink RX5 39 "PlateModesModel" "squares" "[D") (by decide +kernel)) (fun _ h9 => h9) rfl dX5_residue_46 ?_
              refine lv_iload_n hx hb dX5_residue_49 rfl (lv_at hl 5 rfl) ?_
              refine z_dald (s := s.setDrawn dhd6) (n := 4) (i := k) hx hb hK hP 7 0 rfl rfl (by omega) (by decide) dX5_residue_50 ?_
              refine lv_aload_n hx hb dX5_residue_51 rfl (lv_at hl 4 rfl) ?_
              refine lv_iload hx hb dX5_residue_52 (lv_at hl 0 rfl) ?_
              have hPc := hP
              refine va_calldD hd6 (va_runV_D (As := [.int (nI (6 * y + x))]) (rest := [.double (tQ k), .double r5]) ⟨hx, hb, hml, hown, (dr_words hts dhd6)⟩ (c5_mass l dC dI a0 aT aE aG aR aN aS aQ aW aX cD cI th iw ih fa fb fd ib mk im iq tT tE tG tR tN tS tQ tW tX (6 * y + x) (by omega)) (cwV 1 (dr_words hts dhd6) gX5_residue_X5_mass rfl rfl rfl (by decide +kernel) ⟨Nat.le_of_ble_eq_true rfl, Nat.le_of_ble_eq_true rfl⟩) ⟨zfb, va_recv hK hP (ci := 5) (q0 := 0) rfl rfl, zpre hPc hK⟩ rfl rfl hl.1 rfl (lv_room (Nat.le_of_ble_eq_true rfl)) dX5_residue_54 ⟨Nat.le_of_ble_eq_true rfl, Nat.le_of_ble_eq_true rfl⟩) hS (fun q _ h => h.elim) (fun q h => h.elim) (fun r7 u9 t9 H locs ht9 hvm9 hr7 hB9 hz9 hk1 hS dhd8 hd8 => ?_)
              have hP := zro1 hP hk1
              have hr7 : zv r7 = zM (T (y * iw + x)) (zv fd) := by rw [hr7, zgr_at gT x y (by omega) (by omega) (by omega)]
              refine zr_dmul hd8 hx hb (a := zv (tQ k)) (b := zM (T (y * iw + x)) (zv fd)) rfl hr7 dX5_residue_57 (fun r9 d10 hr9 hd10 => ?_)
              refine lv_aload_n hx hb dX5_residue_58 rfl (lv_at hl 4 rfl) ?_
              refine va_get (D := (dC, dI)) (ci := 5) (v := .ref aS) (C := RX5) (T := TX5) (N := 19) hx hb (dr_words hts d10) (in_X5_residue_X5) hown hK hP 0 rfl rfl 14 (by decide) (dr_words hts d10 (.fieldLink RX5 36 "PlateModesModel" "shapes" "[D") (by decide +kernel)) (fun _ h9 => h9) rfl dX5_residue_59 ?_
              refine lv_bipush (v := (nI 36)) hx hb dX5_residue_62 (by decide) ?_
              refine lv_iload_n hx hb dX5_residue_64 rfl (lv_at hl 5 rfl) ?_
              refine t_imul hx hb dX5_residue_65 (v := nI (36 * k)) (zi_mul rfl) ?_
              refine lv_iload hx hb dX5_residue_66 (lv_at hl 0 rfl) ?_
              refine t_iadd hx hb dX5_residue_68 (v := nI (36 * k + 6 * y + x)) (zi_add (by omega)) ?_
              refine z_dald (s := s.setDrawn d10) (n := 144) (i := 36 * k + 6 * y + x) hx hb hK hP 6 0 rfl rfl (by omega) (by decide) dX5_residue_69 ?_
              refine zr_dmul hd10 hx hb (a := zM (zv (tQ k)) (zM (T (y * iw + x)) (zv fd))) (b := S (y * iw + x)) hr9 (zgs_at gS x y (by omega) (by omega) (by omega)) dX5_residue_70 (fun r11 d12 hr11 hd12 => ?_)
              refine zr_dadd hd12 hx hb (a := zforce iw ih R N S x y) (b := zM (zM (zv (tQ k)) (zM (T (y * iw + x)) (zv fd))) (S (y * iw + x))) hr5 hr11 dX5_residue_71 (fun r13 d14 hr13 hd14 => ?_)
              refine lv_dstore (lv' := [(7, .double r13), (6, .int (nI (6 * y + x))), (5, .int (nI x)), (4, .int (nI y)), (2, .double sx), (0, .ref a0), (1, .int (nI k))]) hx hb dX5_residue_72 hl (by decide) rfl (fun ls hl => ?_)
              have J_89 : ∀ (v2 : UInt64) (d0 : Drawn) (H : Heap) (locs : List Loc) (ls : Array Slot), (zv v2 = zresV iw ih T R N S (zv fd) (zv (tQ k)) (y * iw + x) x y) → s.drawn.sameBut d0 lw_cs → va_S (fun _ => False) s.heap H locs → lv_has ls 9 [(6, .int (nI (6 * y + x))), (5, .int (nI x)), (4, .int (nI y)), (2, .double sx), (0, .ref a0), (1, .int (nI k))] → W p l e (headSpec wsX5_residue ({ frames := 1, cells := 0, slots := 0, locals := 27 } : Room)).room (s.setDrawn d0) m ([.ref a0, .int (nI k)] : List Value).toArray below meth c H locs 0 0 (MQD lw_cs below (va_Qd (fun (r : UInt64) (_ : Unit) => zv r = zres iw ih T R N S (zv fd) (zv (tQ k)) (iw * ih)) (fun _ _ => True) (fun _ => False)) ([.ref a0, .int (nI k)] : List Value).toArray s 0 0 (fun _ => False)) (F0 m 89 ls [.double v2]) := by
                intro v2 d0 H locs ls hv2 hd0 hS hl
                have hP := zro hP0 hS
                refine lv_dstore (lv' := [(7, .double v2), (6, .int (nI (6 * y + x))), (5, .int (nI x)), (4, .int (nI y)), (2, .double sx), (0, .ref a0), (1, .int (nI k))]) hx hb dX5_residue_89 hl (by decide) rfl (fun ls hl => ?_)
                have J_113 : ∀ (sv : UInt64) (d0 : Drawn) (H : Heap) (locs : List Loc) (ls : Array Slot), (zv sv = zres iw ih T R N S (zv fd) (zv (tQ k)) (y * iw + x + 1)) → s.drawn.sameBut d0 lw_cs → va_S (fun _ => False) s.heap H locs → lv_has ls 9 [(6, .int (nI (6 * y + x))), (5, .int (nI x)), (4, .int (nI y)), (2, .double sx), (0, .ref a0), (1, .int (nI k))] → W p l e (headSpec wsX5_residue ({ frames := 1, cells := 0, slots := 0, locals := 27 } : Room)).room (s.setDrawn d0) m ([.ref a0, .int (nI k)] : List Value).toArray below meth c H locs 0 0 (MQD lw_cs below (va_Qd (fun (r : UInt64) (_ : Unit) => zv r = zres iw ih T R N S (zv fd) (zv (tQ k)) (iw * ih)) (fun _ _ => True) (fun _ => False)) ([.ref a0, .int (nI k)] : List Value).toArray s 0 0 (fun _ => False)) (F0 m 113 ls [.double sv]) := by
                  intro sv d0 H locs ls hsv hd0 hS hl
                  have hP := zro hP0 hS
                  refine lv_dstore_n (lv' := [(2, .double sv), (6, .int (nI (6 * y + x))), (5, .int (nI x)), (4, .int (nI y)), (0, .ref a0), (1, .int (nI k))]) hx hb dX5_residue_113 rfl hl (by decide) rfl (fun ls hl => ?_)
                  refine lv_iinc (v := nI (x + 1)) (lv' := [(5, .int (nI (x + 1))), (2, .double sv), (6, .int (nI (6 * y + x))), (4, .int (nI y)), (0, .ref a0), (1, .int (nI k))]) hx hb dX5_residue_114 hl (k := 2) rfl (show nI x + nI 1 = _ from zi_add (by omega)) (by decide) rfl (fun ls hl => ?_)
                  refine lv_goto (tgt := 17) hx hb dX5_residue_117 (by decide) ?_
                  exact ih_L_17 (x + 1) sv _ _ _ _ (by omega) (by omega) hsv hd0 hS (lv_sub hl [0, 3, 1, 4, 5] rfl)
                refine lv_aload_n hx hb dX5_residue_91 rfl (lv_at hl 5 rfl) ?_
                refine lv_iload hx hb dX5_residue_92 (lv_at hl 1 rfl) ?_
                have hPc := hP
                refine va_calli (va_runV (As := [.int (nI (6 * y + x))]) (rest := []) ⟨hx, hb, hml, hown, (dr_words hts d0)⟩ (c5_isWood l dC dI a0 aT aE aG aR aN aS aQ aW aX cD cI th iw ih fa fb fd ib mk im iq tT tE tG tR tN tS tQ tW tX (6 * y + x) (by omega)) (cwV 1 (dr_words hts d0) gX5_residue_X5_isWood rfl rfl rfl (by decide +kernel) ⟨Nat.le_of_ble_eq_true rfl, Nat.le_of_ble_eq_true rfl⟩) ⟨zfb, va_recv hK hP (ci := 5) (q0 := 0) rfl rfl, zpre hPc hK⟩ rfl rfl hl.1 rfl (lv_room (Nat.le_of_ble_eq_true rfl)) dX5_residue_94 ⟨Nat.le_of_ble_eq_true rfl, Nat.le_of_ble_eq_true rfl⟩) hS (fun q _ h => h.elim) (fun q h => h.elim) (fun r15 u9 t9 H locs ht9 hvm9 hr15 hB9 hz9 hk1 hS => ?_)
                have hP := zro1 hP hk1
                have hr15 : r15 = zb (zgt (T (y * iw + x)) z0) := by rw [hr15, zgr_at gT x y (by omega) (by omega) (by omega)]
                subst hr15
                refine z_if_eq_b (tgt := 112) hx hb dX5_residue_97 (by decide) (fun c16 => ?_) (fun c17 => ?_)
                · skip
                  have cw := c16
                  refine lv_dload_n hx hb dX5_residue_112 rfl (lv_at hl 4 rfl) ?_
                  exact J_113 sx _ _ _ _ (hsx.trans (zres_f cw).symm) hd0 hS (lv_sub hl [1, 2, 3, 4, 5, 6] rfl)
                · skip
                  have cw := c17
                  refine lv_dload hx hb dX5_residue_100 (lv_at hl 0 rfl) ?_
                  refine lv_dload_n hx hb dX5_residue_102 rfl (lv_at hl 4 rfl) ?_
                  refine z_cmp_l_le (tgt := 112) hx hb (a := zresV iw ih T R N S (zv fd) (zv (tQ k)) (y * iw + x) x y) (b := zres iw ih T R N S (zv fd) (zv (tQ k)) (y * iw + x)) hv2 hsx dX5_residue_103 dX5_residue_104 (by decide) (fun c18 => ?_) (fun c19 => ?_)
                  · skip
                    have cg := c18
                    refine lv_dload_n hx hb dX5_residue_112 rfl (lv_at hl 4 rfl) ?_
                    exact J_113 sx _ _ _ _ (hsx.trans (zres_tf (by omega) cg).symm) hd0 hS (lv_sub hl [1, 2, 3, 4, 5, 6] rfl)
                  · skip
                    have cg := c19
                    refine lv_dload hx hb dX5_residue_107 (lv_at hl 0 rfl) ?_
                    refine lv_goto (tgt := 113) hx hb dX5_residue_109 (by decide) ?_
                    exact J_113 v2 _ _ _ _ (hv2.trans (zres_tt (by omega) cw cg).symm) hd0 hS (lv_sub hl [1, 2, 3, 4, 5, 6] rfl)
              refine lv_dload hx hb dX5_residue_74 (lv_at hl 0 rfl) ?_
              refine lv_dconst0 hx hb dX5_residue_76 ?_
              refine z_cmp_g_ge (tgt := 87) hx hb (a := zA (zforce iw ih R N S x y) (zM (zM (zv (tQ k)) (zM (T (y * iw + x)) (zv fd))) (S (y * iw + x)))) (b := z0) hr13 rfl dX5_residue_77 dX5_residue_78 (by decide) (fun c20 => ?_) (fun c21 => ?_)
              · skip
                have ca := c20
                refine lv_dload hx hb dX5_residue_87 (lv_at hl 0 rfl) ?_
                exact J_89 r13 _ _ _ _ (hr13.trans (zabs_f ca).symm) hd14 hS (lv_sub hl [1, 2, 3, 4, 5, 6] rfl)
              · skip
                have ca := c21
                refine lv_dload hx hb dX5_residue_81 (lv_at hl 0 rfl) ?_
                refine zr_dneg hx hb (a := zA (zforce iw ih R N S x y) (zM (zM (zv (tQ k)) (zM (T (y * iw + x)) (zv fd))) (S (y * iw + x)))) hr13 dX5_residue_83 (fun r22 hr22 => ?_)
                refine lv_goto (tgt := 89) hx hb dX5_residue_84 (by decide) ?_
                exact J_89 r22 _ _ _ _ (hr22.trans (zabs_t ca).symm) hd14 hS (lv_sub hl [1, 2, 3, 4, 5, 6] rfl)
        exact L_17 _ 0 sy _ _ _ _ (Nat.lt_succ_self _) (by omega) hsy hd0 hS hl
  exact L_5 _ 0 FP.dconst0 _ _ _ _ (Nat.lt_succ_self _) (by omega) (by rw [Nat.zero_mul]; rfl) hd0 hS hl
theorem zneed_le {f : Nat → Nat} {n : Nat} (h : ∀ i, i < n → f i < 4) : ∀ k, k ≤ n → zneed f k ≤ 4
  | 0, _ => Nat.zero_le _
  | k + 1, hk => by
    have h1 := zneed_le h k (Nat.le_of_succ_le hk)
    have h2 := h k hk
    show (if f k + 1 > zneed f k then f k + 1 else zneed f k) ≤ 4
    split <;> omega
theorem in_X5_needed_X5 : ∀ w ∈ wsX50, w ∈ wsX5_needed := fun w h => List.mem_cons_of_mem _ (List.mem_append_right _ h)
set_option maxHeartbeats 4000000 in
set_option maxRecDepth 100000 in
/-- how many modes are needed -/
theorem c5_needed (l : Launch) (dC : Nat → ClassId) (dI : Nat → Nat → Nat) (a0 aT aE aG aR aN aS aQ aW aX : Nat) (cD cI : ClassId) (th : Int32) (iw ih : Nat) (fa fb fd : UInt64) (ib : Nat) (mk : Bool) (im iq : Nat) (tT : Nat → UInt64) (tE : Nat → Int32) (tG tR tN tS tQ : Nat → UInt64) (tW : Nat → Int32) (tX : Nat → UInt64) (wn : Nat → Nat) (hq4 : iq ≤ 4) (gW : ∀ i, i < iq → tW i = nI (wn i)) (gw4 : ∀ i, i < iq → wn i < 4) : Met l yX5_needed wsX5_needed ({ frames := 0, cells := 0, slots := 0, locals := 0 } : Room) (va_Pc [.ref a0] (fun U => va_P (dC, dI) vwCl (w5 a0 aT aE aG aR aN aS aQ aW aX cD cI th iw ih fa fb fd ib mk im iq tT tE tG tR tN tS tQ tW tX) U.heap ∧ va_K (dC, dI) vwCl [(cD, .double), (cI, .int)] U)) (va_Qi (fun (r : Int32) (_ : Unit) => r = nI (zneed wn iq)) (fun _ _ => True) (fun _ => False)) 0 0 (fun _ => False) := by
  refine Met.ofW (cc := cX5_needed) (maxL := 3) (ret := (some .int)) (by decide) rfl ?_
  intro p e s m args below meth c s₁ B hml hv
  obtain ⟨rfl, hP0, hK⟩ := hv
  have hx := B.exec
  have hb := B.bytes
  have hr := B.returns
  have hts := atoms_spec (ws := wsX5_needed) B.pre
  have hown : s.vm.findClass RX5 = some m.cls := findClass_of_methodNamed B.named
  have hlocks := B.notSynchronized
  have hS : va_S (fun _ => False) s.heap s.heap [] := va_S.rf
  have hP := hP0
  have hl := lv_entry ([.ref a0]) (n := 3) (Nat.le_of_ble_eq_true rfl)
  rw [lg_entry_eq]
  generalize (lg_sl ([.ref a0]) ++ List.replicate (3 - (lg_sl ([.ref a0])).length) Slot.unset).toArray = ls at hl ⊢
  have hl : lv_has ls 3 [(0, .ref a0)] := hl
  refine lv_iconst (v := (nI 0)) hx hb dX5_needed_0 (by decide) ?_
  refine lv_istore_n (lv' := [(1, .int (nI 0)), (0, .ref a0)]) hx hb dX5_needed_1 rfl hl (by decide) rfl (fun ls hl => ?_)
  refine lv_iconst (v := (nI 0)) hx hb dX5_needed_2 (by decide) ?_
  refine lv_istore_n (lv' := [(2, .int (nI 0)), (1, .int (nI 0)), (0, .ref a0)]) hx hb dX5_needed_3 rfl hl (by decide) rfl (fun ls hl => ?_)
  have L_4 : ∀ (n : Nat) (i : Nat) (nd : Nat) (H : Heap) (locs : List Loc) (ls : Array Slot), iq - i < n → (i ≤ iq) → (nd = zneed wn i) → va_S (fun _ => False) s.heap H locs → lv_has ls 3 [(2, .int (nI i)), (1, .int (nI nd)), (0, .ref a0)] → W p l e (headSpec wsX5_needed ({ frames := 0, cells := 0, slots := 0, locals := 0 } : Room)).room s m ([.ref a0] : List Value).toArray below meth c H locs 0 0 (MQ below (va_Qi (fun (r : Int32) (_ : Unit) => r = nI (zneed wn iq)) (fun _ _ => True) (fun _ => False)) ([.ref a0] : List Value).toArray s 0 0 (fun _ => False)) (F0 m 4 ls []) := by
    intro n
    induction n with
    | zero => intro i nd H locs ls hn; exact absurd hn (Nat.not_lt_zero _)
    | succ n ih_L_4 =>
      intro i nd H locs ls hn hi hnd hS hl
      have hP := zro hP0 hS
      have hz4 := zneed_le gw4 i hi
      refine lv_iload_n hx hb dX5_needed_4 rfl (lv_at hl 0 rfl) ?_
      refine lv_aload_n hx hb dX5_needed_5 rfl (lv_at hl 2 rfl) ?_
      refine va_get (D := (dC, dI)) (ci := 5) (v := .int (nI iq)) (C := RX5) (T := TX5) (N := 19) hx hb hts (in_X5_needed_X5) hown hK hP 0 rfl rfl 16 (by decide) (hts (.fieldLink RX5 143 "PlateModesModel" "wants" "I") (by decide +kernel)) (fun _ h9 => h9) rfl dX5_needed_6 ?_
      refine z_icmp_ge (a := i) (b := iq) (tgt := 43) hx hb (by omega) (by omega) dX5_needed_9 (by decide) (fun c1 => ?_) (fun c2 => ?_)
      · skip
        refine lv_iload_n hx hb dX5_needed_43 rfl (lv_at hl 1 rfl) ?_
        exact W.iret (v := (nI nd)) hx hb hr (fun t ht hW => ⟨⟨(nI nd), (), rfl, ⟨by dsimp only; rw [hnd, show i = iq by omega], trivial⟩⟩, hS.F ht⟩) hS.2.2 dX5_needed_44
      · skip
        have J_36 : ∀ (v : Nat) (H : Heap) (locs : List Loc) (ls : Array Slot), (v = zneed wn (i + 1)) → va_S (fun _ => False) s.heap H locs → lv_has ls 3 [(2, .int (nI i)), (1, .int (nI nd)), (0, .ref a0)] → W p l e (headSpec wsX5_needed ({ frames := 0, cells := 0, slots := 0, locals := 0 } : Room)).room s m ([.ref a0] : List Value).toArray below meth c H locs 0 0 (MQ below (va_Qi (fun (r : Int32) (_ : Unit) => r = nI (zneed wn iq)) (fun _ _ => True) (fun _ => False)) ([.ref a0] : List Value).toArray s 0 0 (fun _ => False)) (F0 m 36 ls [.int (nI v)]) := by
          intro v H locs ls hv hS hl
          have hP := zro hP0 hS
          have hz4 := zneed_le gw4 (i + 1) (by omega)
          refine lv_istore_n (lv' := [(1, .int (nI v)), (2, .int (nI i)), (0, .ref a0)]) hx hb dX5_needed_36 rfl hl (by decide) rfl (fun ls hl => ?_)
          refine lv_iinc (v := nI (i + 1)) (lv' := [(2, .int (nI (i + 1))), (1, .int (nI v)), (0, .ref a0)]) hx hb dX5_needed_37 hl (k := 1) rfl (show nI i + nI 1 = _ from zi_add (by omega)) (by decide) rfl (fun ls hl => ?_)
          refine lv_goto (tgt := 4) hx hb dX5_needed_40 (by decide) ?_
          exact ih_L_4 (i + 1) v _ _ _ (by omega) (by omega) hv hS hl
        refine lv_aload_n hx hb dX5_needed_12 rfl (lv_at hl 2 rfl) ?_
        refine va_get (D := (dC, dI)) (ci := 5) (v := .ref aW) (C := RX5) (T := TX5) (N := 19) hx hb hts (in_X5_needed_X5) hown hK hP 0 rfl rfl 17 (by decide) (hts (.fieldLink RX5 42 "PlateModesModel" "wanted" "[I") (by decide +kernel)) (fun _ h9 => h9) rfl dX5_needed_13 ?_
        refine lv_iload_n hx hb dX5_needed_16 rfl (lv_at hl 0 rfl) ?_
        refine z_iald (n := 4) (i := i) hx hb hK hP 8 1 rfl rfl (by omega) (by decide) dX5_needed_17 ?_
        rw [gW i (by omega)]
        have hwn := gw4 i (by omega)
        refine lv_iconst (v := (nI 1)) hx hb dX5_needed_18 (by decide) ?_
        refine t_iadd hx hb dX5_needed_19 (v := nI ((wn i) + 1)) (zi_add (by omega)) ?_
        refine lv_iload_n hx hb dX5_needed_20 rfl (lv_at hl 1 rfl) ?_
        refine z_icmp_le (a := (wn i) + 1) (b := nd) (tgt := 35) hx hb (by omega) (by omega) dX5_needed_21 (by decide) (fun c3 => ?_) (fun c4 => ?_)
        · skip
          refine lv_iload_n hx hb dX5_needed_35 rfl (lv_at hl 1 rfl) ?_
          exact J_36 nd _ _ _ (hnd.trans (if_neg (show ¬ (wn i + 1 > zneed wn i) from by omega)).symm) hS hl
        · skip
          refine lv_aload_n hx hb dX5_needed_24 rfl (lv_at hl 2 rfl) ?_
          refine va_get (D := (dC, dI)) (ci := 5) (v := .ref aW) (C := RX5) (T := TX5) (N := 19) hx hb hts (in_X5_needed_X5) hown hK hP 0 rfl rfl 17 (by decide) (hts (.fieldLink RX5 42 "PlateModesModel" "wanted" "[I") (by decide +kernel)) (fun _ h9 => h9) rfl dX5_needed_25 ?_
          refine lv_iload_n hx hb dX5_needed_28 rfl (lv_at hl 0 rfl) ?_
          refine z_iald (n := 4) (i := i) hx hb hK hP 8 1 rfl rfl (by omega) (by decide) dX5_needed_29 ?_
          rw [gW i (by omega)]
          have hwn := gw4 i (by omega)
          refine lv_iconst (v := (nI 1)) hx hb dX5_needed_30 (by decide) ?_
          refine t_iadd hx hb dX5_needed_31 (v := nI ((wn i) + 1)) (zi_add (by omega)) ?_
          refine lv_goto (tgt := 36) hx hb dX5_needed_32 (by decide) ?_
          exact J_36 ((wn i) + 1) _ _ _ ((if_pos (show wn i + 1 > zneed wn i from by omega)).symm) hS hl
  exact L_4 _ 0 0 _ _ _ (Nat.lt_succ_self _) (by omega) rfl hS hl
theorem in_X5_total_X5 : ∀ w ∈ wsX50, w ∈ wsX5_total := fun w h => List.mem_cons_of_mem _ (List.mem_append_right _ h)
set_option maxHeartbeats 4000000 in
set_option maxRecDepth 100000 in
/-- the SUM -/
theorem c5_total (l : Launch) (dC : Nat → ClassId) (dI : Nat → Nat → Nat) (a0 aT aE aG aR aN aS aQ aW aX : Nat) (cD cI : ClassId) (th : Int32) (iw ih : Nat) (fa fb fd : UInt64) (ib : Nat) (mk : Bool) (im iq : Nat) (tT : Nat → UInt64) (tE : Nat → Int32) (tG tR tN tS tQ : Nat → UInt64) (tW : Nat → Int32) (tX : Nat → UInt64) (wn : Nat → Nat) (hq4 : iq ≤ 4) (gW : ∀ i, i < iq → tW i = nI (wn i)) (gw4 : ∀ i, i < iq → wn i < 4) (sq ws : Nat → ZD) (gq : ∀ i, i < iq → zv (tQ (wn i)) = sq i) (gx : ∀ i, i < iq → zv (tX i) = ws i) : MetD lw_cs l yX5_total wsX5_total ({ frames := 0, cells := 0, slots := 0, locals := 0 } : Room) (va_Pc [.ref a0] (fun U => va_P (dC, dI) vwCl (w5 a0 aT aE aG aR aN aS aQ aW aX cD cI th iw ih fa fb fd ib mk im iq tT tE tG tR tN tS tQ tW tX) U.heap ∧ va_K (dC, dI) vwCl [(cD, .double), (cI, .int)] U)) (va_Qd (fun (r : UInt64) (_ : Unit) => zv r = ztot sq ws iq) (fun _ _ => True) (fun _ => False)) 0 0 (fun _ => False) := by
  refine MetD.ofW (cc := cX5_total) (maxL := 6) (ret := (some .double)) (by decide) rfl ?_
  intro p e s m args below meth c s₁ B hml hv hd0
  obtain ⟨rfl, hP0, hK⟩ := hv
  have hx := B.exec
  have hb := B.bytes
  have hr := B.returns
  have hts := atoms_spec (ws := wsX5_total) B.pre
  have hown : s.vm.findClass RX5 = some m.cls := findClass_of_methodNamed B.named
  have hlocks := B.notSynchronized
  have hS : va_S (fun _ => False) s.heap s.heap [] := va_S.rf
  have hP := hP0
  have hl := lv_entry ([.ref a0]) (n := 6) (Nat.le_of_ble_eq_true rfl)
  rw [lg_entry_eq]
  generalize (lg_sl ([.ref a0]) ++ List.replicate (6 - (lg_sl ([.ref a0])).length) Slot.unset).toArray = ls at hl ⊢
  have hl : lv_has ls 6 [(0, .ref a0)] := hl
  refine lv_dconst0 hx hb dX5_total_0 ?_
  refine lv_dstore_n (lv' := [(1, .double FP.dconst0), (0, .ref a0)]) hx hb dX5_total_1 rfl hl (by decide) rfl (fun ls hl => ?_)
  refine lv_iconst (v := (nI 0)) hx hb dX5_total_2 (by decide) ?_
  refine lv_istore_n (lv' := [(3, .int (nI 0)), (1, .double FP.dconst0), (0, .ref a0)]) hx hb dX5_total_3 rfl hl (by decide) rfl (fun ls hl => ?_)
  have L_4 : ∀ (n : Nat) (i : Nat) (sx : UInt64) (d0 : Drawn) (H : Heap) (locs : List Loc) (ls : Array Slot), iq - i < n → (i ≤ iq) → (zv sx = ztot sq ws i) → s.drawn.sameBut d0 lw_cs → va_S (fun _ => False) s.heap H locs → lv_has ls 6 [(3, .int (nI i)), (1, .double sx), (0, .ref a0)] → W p l e (headSpec wsX5_total ({ frames := 0, cells := 0, slots := 0, locals := 0 } : Room)).room (s.setDrawn d0) m ([.ref a0] : List Value).toArray below meth c H locs 0 0 (MQD lw_cs below (va_Qd (fun (r : UInt64) (_ : Unit) => zv r = ztot sq ws iq) (fun _ _ => True) (fun _ => False)) ([.ref a0] : List Value).toArray s 0 0 (fun _ => False)) (F0 m 4 ls []) := by
    intro n
    induction n with
    | zero => intro i sx d0 H locs ls hn; exact absurd hn (Nat.not_lt_zero _)
    | succ n ih_L_4 =>
      intro i sx d0 H locs ls hn hi hsx hd0 hS hl
      have hP := zro hP0 hS
      refine lv_iload_n hx hb dX5_total_4 rfl (lv_at hl 0 rfl) ?_
      refine lv_aload_n hx hb dX5_total_5 rfl (lv_at hl 2 rfl) ?_
      refine va_get (D := (dC, dI)) (ci := 5) (v := .int (nI iq)) (C := RX5) (T := TX5) (N := 19) hx hb (dr_words hts d0) (in_X5_total_X5) hown hK hP 0 rfl rfl 16 (by decide) (dr_words hts d0 (.fieldLink RX5 143 "PlateModesModel" "wants" "I") (by decide +kernel)) (fun _ h9 => h9) rfl dX5_total_6 ?_
      refine z_icmp_ge (a := i) (b := iq) (tgt := 46) hx hb (by omega) (by omega) dX5_total_9 (by decide) (fun c1 => ?_) (fun c2 => ?_)
      · skip
        refine lv_dload_n hx hb dX5_total_46 rfl (lv_at hl 1 rfl) ?_
        refine W.endD hd0 ?_
        exact W.dret (v := sx) hx hb hr (fun t ht hW => ⟨⟨sx, (), rfl, ⟨by dsimp only; rw [hsx, show i = iq by omega], trivial⟩⟩, hS.F ht⟩) hS.2.2 dX5_total_47
      · skip
        refine lv_aload_n hx hb dX5_total_12 rfl (lv_at hl 2 rfl) ?_
        refine va_get (D := (dC, dI)) (ci := 5) (v := .ref aQ) (C := RX5) (T := TX5) (N := 19) hx hb (dr_words hts d0) (in_X5_total_X5) hown hK hP 0 rfl rfl 15 (by decide) (dr_words hts d0 (.fieldLink RX5 39 "PlateModesModel" "squares" "[D") (by decide +kernel)) (fun _ h9 => h9) rfl dX5_total_13 ?_
        refine lv_aload_n hx hb dX5_total_16 rfl (lv_at hl 2 rfl) ?_
        refine va_get (D := (dC, dI)) (ci := 5) (v := .ref aW) (C := RX5) (T := TX5) (N := 19) hx hb (dr_words hts d0) (in_X5_total_X5) hown hK hP 0 rfl rfl 17 (by decide) (dr_words hts d0 (.fieldLink RX5 42 "PlateModesModel" "wanted" "[I") (by decide +kernel)) (fun _ h9 => h9) rfl dX5_total_17 ?_
        refine lv_iload_n hx hb dX5_total_20 rfl (lv_at hl 0 rfl) ?_
        refine z_iald (s := s.setDrawn d0) (n := 4) (i := i) hx hb hK hP 8 1 rfl rfl (by omega) (by decide) dX5_total_21 ?_
        rw [gW i (by omega)]
        have hwn := gw4 i (by omega)
        refine z_dald (s := s.setDrawn d0) (n := 4) (i := (wn i)) hx hb hK hP 7 0 rfl rfl (by omega) (by decide) dX5_total_22 ?_
        refine lv_aload_n hx hb dX5_total_23 rfl (lv_at hl 2 rfl) ?_
        refine va_get (D := (dC, dI)) (ci := 5) (v := .ref aX) (C := RX5) (T := TX5) (N := 19) hx hb (dr_words hts d0) (in_X5_total_X5) hown hK hP 0 rfl rfl 18 (by decide) (dr_words hts d0 (.fieldLink RX5 45 "PlateModesModel" "wishes" "[D") (by decide +kernel)) (fun _ h9 => h9) rfl dX5_total_24 ?_
        refine lv_iload_n hx hb dX5_total_27 rfl (lv_at hl 0 rfl) ?_
        refine z_dald (s := s.setDrawn d0) (n := 4) (i := i) hx hb hK hP 9 0 rfl rfl (by omega) (by decide) dX5_total_28 ?_
        refine zr_dsub hd0 hx hb (a := sq i) (b := ws i) (gq i (by omega)) (gx i (by omega)) dX5_total_29 (fun r3 d4 hr3 hd4 => ?_)
        refine lv_dstore (lv' := [(4, .double r3), (3, .int (nI i)), (1, .double sx), (0, .ref a0)]) hx hb dX5_total_30 hl (by decide) rfl (fun ls hl => ?_)
        refine lv_dload_n hx hb dX5_total_32 rfl (lv_at hl 2 rfl) ?_
        refine lv_dload hx hb dX5_total_33 (lv_at hl 0 rfl) ?_
        refine lv_dload hx hb dX5_total_35 (lv_at hl 0 rfl) ?_
        refine zr_dmul hd4 hx hb (a := zS (sq i) (ws i)) (b := zS (sq i) (ws i)) hr3 hr3 dX5_total_37 (fun r5 d6 hr5 hd6 => ?_)
        refine zr_dadd hd6 hx hb (a := ztot sq ws i) (b := zM (zS (sq i) (ws i)) (zS (sq i) (ws i))) hsx hr5 dX5_total_38 (fun r7 d8 hr7 hd8 => ?_)
        refine lv_dstore_n (lv' := [(1, .double r7), (4, .double r3), (3, .int (nI i)), (0, .ref a0)]) hx hb dX5_total_39 rfl hl (by decide) rfl (fun ls hl => ?_)
        refine lv_iinc (v := nI (i + 1)) (lv' := [(3, .int (nI (i + 1))), (1, .double r7), (4, .double r3), (0, .ref a0)]) hx hb dX5_total_40 hl (k := 2) rfl (show nI i + nI 1 = _ from zi_add (by omega)) (by decide) rfl (fun ls hl => ?_)
        refine lv_goto (tgt := 4) hx hb dX5_total_43 (by decide) ?_
        exact ih_L_4 (i + 1) r7 _ _ _ _ (by omega) (by omega) hr7 hd8 hS (lv_sub hl [0, 1, 3] rfl)
  exact L_4 _ 0 FP.dconst0 _ _ _ _ (Nat.lt_succ_self _) (by omega) rfl hd0 hS hl
