/-! 07: the reference: make, makeAll -/
theorem in_X5_make_X5 : ∀ w ∈ wsX50, w ∈ wsX5_make := fun w h => List.mem_cons_of_mem _ (List.mem_append_right _ h)
set_option maxHeartbeats 4000000 in
set_option maxRecDepth 100000 in
/-- a mode -/
theorem c5_make (l : Launch) (dC : Nat → ClassId) (dI : Nat → Nat → Nat) (a0 aT aE aG aR aN aS aQ aW aX : Nat) (cD cI : ClassId) (th : Int32) (iw ih : Nat) (fa fb fd : UInt64) (ib : Nat) (mk : Bool) (im iq : Nat) (tT : Nat → UInt64) (tE : Nat → Int32) (tG tR tN tS tQ : Nat → UInt64) (tW : Nat → Int32) (tX : Nat → UInt64) (k : Nat) (hk : k < 4) (hw6 : iw ≤ 6) (hh6 : ih ≤ 6) (T R N : Nat → ZD) (gT : zgr tT iw ih T) (gR : zgr tR iw ih R) (gN : zgr tN iw ih N) (L : Nat → Nat → ZD) (gL : ∀ j, j < k → zgs tS j iw ih (L j)) (sz : Nat) : MetD lw_cs l yX5_make wsX5_make ({ frames := 3, cells := 0, slots := 0, locals := 73 } : Room) (va_Pc [.ref a0, .int (nI k)] (fun U => U.heap.size = sz ∧ va_P (dC, dI) vwCl (w5 a0 aT aE aG aR aN aS aQ aW aX cD cI th iw ih fa fb fd ib mk im iq tT tE tG tR tN tS tQ tW tX) U.heap ∧ va_K (dC, dI) vwCl [(cD, .double), (cI, .int)] U ∧ va_D (fun _ => True) (w5 a0 aT aE aG aR aN aS aQ aW aX cD cI th iw ih fa fb fd ib mk im iq tT tE tG tR tN tS tQ tW tX))) (va_Qi (fun (r : Int32) (u : (Nat → UInt64) × (Nat → UInt64)) => ∃ o, zswO iw ih T R N (zv fd) k L (zbegin iw T k) 24 = o ∧ r = zb o.isSome ∧ (∀ F, o = some F → zgs u.1 k iw ih F ∧ zv (u.2 k) = zS z0 (zsq iw ih T R N F (iw * ih))) ∧ (∀ i, i < 36 * k → u.1 i = tS i) ∧ (∀ i, i ≠ k → u.2 i = tQ i)) (fun u t => (va_P (dC, dI) vwCl (w5 a0 aT aE aG aR aN aS aQ aW aX cD cI th iw ih fa fb fd ib mk im iq tT tE tG tR tN u.1 u.2 tW tX) t.heap ∧ va_K (dC, dI) vwCl [(cD, .double), (cI, .int)] t ∧ va_D (va_A (w5 a0 aT aE aG aR aN aS aQ aW aX cD cI th iw ih fa fb fd ib mk im iq tT tE tG tR tN tS tQ tW tX) sz) (w5 a0 aT aE aG aR aN aS aQ aW aX cD cI th iw ih fa fb fd ib mk im iq tT tE tG tR tN u.1 u.2 tW tX))) (va_A (w5 a0 aT aE aG aR aN aS aQ aW aX cD cI th iw ih fa fb fd ib mk im iq tT tE tG tR tN tS tQ tW tX) sz)) 0 0 (va_A (w5 a0 aT aE aG aR aN aS aQ aW aX cD cI th iw ih fa fb fd ib mk im iq tT tE tG tR tN tS tQ tW tX) sz) := by
  refine MetD.ofW (cc := cX5_make) (maxL := 6) (ret := (some .boolean)) (by decide) rfl ?_
  intro p e s m args below meth c s₁ B hml hv hd0
  obtain ⟨rfl, hsz, hP, hK, hD0⟩ := hv
  have hx := B.exec
  have hb := B.bytes
  have hr := B.returns
  have hts := atoms_spec (ws := wsX5_make) B.pre
  have hown : s.vm.findClass RX5 = some m.cls := findClass_of_methodNamed B.named
  have hlocks := B.notSynchronized
  subst hsz
  have hD := hD0.self (sz := s.heap.size)
  generalize hAe : va_A (w5 a0 aT aE aG aR aN aS aQ aW aX cD cI th iw ih fa fb fd ib mk im iq tT tE tG tR tN tS tQ tW tX) s.heap.size = A at hD ⊢
  have hA : ∀ q : Nat, s.heap.size ≤ q → A q := fun q h => by rw [← hAe]; exact Or.inr h
  have hS : va_S A s.heap s.heap [] := va_S.rf
  have hl := lv_entry ([.ref a0, .int (nI k)]) (n := 6) (Nat.le_of_ble_eq_true rfl)
  rw [lg_entry_eq]
  generalize (lg_sl ([.ref a0, .int (nI k)]) ++ List.replicate (6 - (lg_sl ([.ref a0, .int (nI k)])).length) Slot.unset).toArray = ls at hl ⊢
  have hl : lv_has ls 6 [(0, .ref a0), (1, .int (nI k))] := hl
  refine lv_iconst (v := (nI 0)) hx hb dX5_make_0 (by decide) ?_
  refine lv_istore_n (lv' := [(2, .int (nI 0)), (0, .ref a0), (1, .int (nI k))]) hx hb dX5_make_1 rfl hl (by decide) rfl (fun ls hl => ?_)
  have L_2 : ∀ (n : Nat) (y : Nat) (fS : Nat → UInt64) (d0 : Drawn) (H : Heap) (locs : List Loc) (ls : Array Slot), 6 - y < n → (y ≤ 6) → (zgsb fS k iw ih (6 * y) (zbegin iw T k)) → (∀ i, i < 36 * k → fS i = tS i) → s.drawn.sameBut d0 lw_cs → va_P (dC, dI) vwCl (w5 a0 aT aE aG aR aN aS aQ aW aX cD cI th iw ih fa fb fd ib mk im iq tT tE tG tR tN fS tQ tW tX) H → va_D A (w5 a0 aT aE aG aR aN aS aQ aW aX cD cI th iw ih fa fb fd ib mk im iq tT tE tG tR tN fS tQ tW tX) → va_S A s.heap H locs → lv_has ls 6 [(2, .int (nI y)), (0, .ref a0), (1, .int (nI k))] → W p l e (headSpec wsX5_make ({ frames := 3, cells := 0, slots := 0, locals := 73 } : Room)).room (s.setDrawn d0) m ([.ref a0, .int (nI k)] : List Value).toArray below meth c H locs 0 0 (MQD lw_cs below (va_Qi (fun (r : Int32) (u : (Nat → UInt64) × (Nat → UInt64)) => ∃ o, zswO iw ih T R N (zv fd) k L (zbegin iw T k) 24 = o ∧ r = zb o.isSome ∧ (∀ F, o = some F → zgs u.1 k iw ih F ∧ zv (u.2 k) = zS z0 (zsq iw ih T R N F (iw * ih))) ∧ (∀ i, i < 36 * k → u.1 i = tS i) ∧ (∀ i, i ≠ k → u.2 i = tQ i)) (fun u t => (va_P (dC, dI) vwCl (w5 a0 aT aE aG aR aN aS aQ aW aX cD cI th iw ih fa fb fd ib mk im iq tT tE tG tR tN u.1 u.2 tW tX) t.heap ∧ va_K (dC, dI) vwCl [(cD, .double), (cI, .int)] t ∧ va_D A (w5 a0 aT aE aG aR aN aS aQ aW aX cD cI th iw ih fa fb fd ib mk im iq tT tE tG tR tN u.1 u.2 tW tX))) A) ([.ref a0, .int (nI k)] : List Value).toArray s 0 0 A) (F0 m 2 ls []) := by
    intro n
    induction n with
    | zero => intro y fS d0 H locs ls hn; exact absurd hn (Nat.not_lt_zero _)
    | succ n ih_L_2 =>
      intro y fS d0 H locs ls hn hy6 hq1 hf1 hd0 hP hD hS hl
      refine lv_iload_n hx hb dX5_make_2 rfl (lv_at hl 0 rfl) ?_
      refine lv_bipush (v := (nI 6)) hx hb dX5_make_3 (by decide) ?_
      refine z_icmp_ge (a := y) (b := 6) (tgt := 111) hx hb (by omega) (by omega) dX5_make_5 (by decide) (fun c1 => ?_) (fun c2 => ?_)
      · skip
        refine lv_iconst (v := (nI 0)) hx hb dX5_make_111 (by decide) ?_
        refine lv_istore_n (lv' := [(2, .int (nI 0)), (0, .ref a0), (1, .int (nI k))]) hx hb dX5_make_112 rfl hl (by decide) rfl (fun ls hl => ?_)
        have L_113 : ∀ (n : Nat) (i : Nat) (fS : Nat → UInt64) (F : Nat → ZD) (d0 : Drawn) (H : Heap) (locs : List Loc) (ls : Array Slot), 24 - i < n → (i ≤ 24) → (zswO iw ih T R N (zv fd) k L (zbegin iw T k) i = some F) → (zgs fS k iw ih F) → (∀ i, i < 36 * k → fS i = tS i) → s.drawn.sameBut d0 lw_cs → va_P (dC, dI) vwCl (w5 a0 aT aE aG aR aN aS aQ aW aX cD cI th iw ih fa fb fd ib mk im iq tT tE tG tR tN fS tQ tW tX) H → va_D A (w5 a0 aT aE aG aR aN aS aQ aW aX cD cI th iw ih fa fb fd ib mk im iq tT tE tG tR tN fS tQ tW tX) → va_S A s.heap H locs → lv_has ls 6 [(2, .int (nI i)), (0, .ref a0), (1, .int (nI k))] → W p l e (headSpec wsX5_make ({ frames := 3, cells := 0, slots := 0, locals := 73 } : Room)).room (s.setDrawn d0) m ([.ref a0, .int (nI k)] : List Value).toArray below meth c H locs 0 0 (MQD lw_cs below (va_Qi (fun (r : Int32) (u : (Nat → UInt64) × (Nat → UInt64)) => ∃ o, zswO iw ih T R N (zv fd) k L (zbegin iw T k) 24 = o ∧ r = zb o.isSome ∧ (∀ F, o = some F → zgs u.1 k iw ih F ∧ zv (u.2 k) = zS z0 (zsq iw ih T R N F (iw * ih))) ∧ (∀ i, i < 36 * k → u.1 i = tS i) ∧ (∀ i, i ≠ k → u.2 i = tQ i)) (fun u t => (va_P (dC, dI) vwCl (w5 a0 aT aE aG aR aN aS aQ aW aX cD cI th iw ih fa fb fd ib mk im iq tT tE tG tR tN u.1 u.2 tW tX) t.heap ∧ va_K (dC, dI) vwCl [(cD, .double), (cI, .int)] t ∧ va_D A (w5 a0 aT aE aG aR aN aS aQ aW aX cD cI th iw ih fa fb fd ib mk im iq tT tE tG tR tN u.1 u.2 tW tX))) A) ([.ref a0, .int (nI k)] : List Value).toArray s 0 0 A) (F0 m 113 ls []) := by
          intro n
          induction n with
          | zero => intro i fS F d0 H locs ls hn; exact absurd hn (Nat.not_lt_zero _)
          | succ n ih_L_113 =>
            intro i fS F d0 H locs ls hn hi ho hq3 hf3 hd0 hP hD hS hl
            refine lv_iload_n hx hb dX5_make_113 rfl (lv_at hl 0 rfl) ?_
            refine lv_bipush (v := (nI 24)) hx hb dX5_make_114 (by decide) ?_
            refine z_icmp_ge (a := i) (b := 24) (tgt := 135) hx hb (by omega) (by omega) dX5_make_116 (by decide) (fun c3 => ?_) (fun c4 => ?_)
            · skip
              refine lv_dconst0 hx hb dX5_make_135 ?_
              refine lv_dstore_n (lv' := [(2, .double FP.dconst0), (0, .ref a0), (1, .int (nI k))]) hx hb dX5_make_136 rfl hl (by decide) rfl (fun ls hl => ?_)
              refine lv_iconst (v := (nI 0)) hx hb dX5_make_137 (by decide) ?_
              refine lv_istore (lv' := [(4, .int (nI 0)), (2, .double FP.dconst0), (0, .ref a0), (1, .int (nI k))]) hx hb dX5_make_138 hl (by decide) rfl (fun ls hl => ?_)
              have L_140 : ∀ (n : Nat) (y : Nat) (sy : UInt64) (d0 : Drawn) (H : Heap) (locs : List Loc) (ls : Array Slot), ih - y < n → (y ≤ ih) → (zv sy = zsq iw ih T R N F (y * iw)) → s.drawn.sameBut d0 lw_cs → va_P (dC, dI) vwCl (w5 a0 aT aE aG aR aN aS aQ aW aX cD cI th iw ih fa fb fd ib mk im iq tT tE tG tR tN fS tQ tW tX) H → va_D A (w5 a0 aT aE aG aR aN aS aQ aW aX cD cI th iw ih fa fb fd ib mk im iq tT tE tG tR tN fS tQ tW tX) → va_S A s.heap H locs → lv_has ls 6 [(4, .int (nI y)), (2, .double sy), (0, .ref a0), (1, .int (nI k))] → W p l e (headSpec wsX5_make ({ frames := 3, cells := 0, slots := 0, locals := 73 } : Room)).room (s.setDrawn d0) m ([.ref a0, .int (nI k)] : List Value).toArray below meth c H locs 0 0 (MQD lw_cs below (va_Qi (fun (r : Int32) (u : (Nat → UInt64) × (Nat → UInt64)) => ∃ o, zswO iw ih T R N (zv fd) k L (zbegin iw T k) 24 = o ∧ r = zb o.isSome ∧ (∀ F, o = some F → zgs u.1 k iw ih F ∧ zv (u.2 k) = zS z0 (zsq iw ih T R N F (iw * ih))) ∧ (∀ i, i < 36 * k → u.1 i = tS i) ∧ (∀ i, i ≠ k → u.2 i = tQ i)) (fun u t => (va_P (dC, dI) vwCl (w5 a0 aT aE aG aR aN aS aQ aW aX cD cI th iw ih fa fb fd ib mk im iq tT tE tG tR tN u.1 u.2 tW tX) t.heap ∧ va_K (dC, dI) vwCl [(cD, .double), (cI, .int)] t ∧ va_D A (w5 a0 aT aE aG aR aN aS aQ aW aX cD cI th iw ih fa fb fd ib mk im iq tT tE tG tR tN u.1 u.2 tW tX))) A) ([.ref a0, .int (nI k)] : List Value).toArray s 0 0 A) (F0 m 140 ls []) := by
                intro n
                induction n with
                | zero => intro y sy d0 H locs ls hn; exact absurd hn (Nat.not_lt_zero _)
                | succ n ih_L_140 =>
                  intro y sy d0 H locs ls hn hyh hsy hd0 hP hD hS hl
                  refine lv_iload hx hb dX5_make_140 (lv_at hl 0 rfl) ?_
                  refine lv_aload_n hx hb dX5_make_142 rfl (lv_at hl 2 rfl) ?_
                  refine va_get (D := (dC, dI)) (ci := 5) (v := .int (nI ih)) (C := RX5) (T := TX5) (N := 19) hx hb (dr_words hts d0) (in_X5_make_X5) hown hK hP 0 rfl rfl 2 (by decide) (dr_words hts d0 (.fieldLink RX5 52 "PlateModesModel" "height" "I") (by decide +kernel)) (fun _ h9 => h9) rfl dX5_make_143 ?_
                  refine z_icmp_ge (a := y) (b := ih) (tgt := 223) hx hb (by omega) (by omega) dX5_make_146 (by decide) (fun c5 => ?_) (fun c6 => ?_)
                  · skip
                    refine lv_aload_n hx hb dX5_make_223 rfl (lv_at hl 2 rfl) ?_
                    refine va_get (D := (dC, dI)) (ci := 5) (v := .ref aQ) (C := RX5) (T := TX5) (N := 19) hx hb (dr_words hts d0) (in_X5_make_X5) hown hK hP 0 rfl rfl 15 (by decide) (dr_words hts d0 (.fieldLink RX5 39 "PlateModesModel" "squares" "[D") (by decide +kernel)) (fun _ h9 => h9) rfl dX5_make_224 ?_
                    refine lv_iload_n hx hb dX5_make_227 rfl (lv_at hl 3 rfl) ?_
                    refine lv_dconst0 hx hb dX5_make_228 ?_
                    refine lv_dload_n hx hb dX5_make_229 rfl (lv_at hl 1 rfl) ?_
                    refine zr_dsub hd0 hx hb (a := z0) (b := zsq iw ih T R N F (y * iw)) rfl hsy dX5_make_230 (fun r7 d8 hr7 hd8 => ?_)
                    refine z_dast (s := s.setDrawn d8) (n := 4) (i := k) hx hb hK hP hD hS 7 0 rfl rfl (by omega) (by decide) dX5_make_231 (fun H locs hP hD hS => ?_)
                    have hP : va_P (dC, dI) vwCl (w5 a0 aT aE aG aR aN aS aQ aW aX cD cI th iw ih fa fb fd ib mk im iq tT tE tG tR tN fS (zu tQ k r7) tW tX) H := hP
                    have hD : va_D A (w5 a0 aT aE aG aR aN aS aQ aW aX cD cI th iw ih fa fb fd ib mk im iq tT tE tG tR tN fS (zu tQ k r7) tW tX) := hD
                    refine lv_iconst (v := (nI 1)) hx hb dX5_make_232 (by decide) ?_
                    refine W.endD hd8 ?_
                    exact W.zret (v := (nI 1)) hx hb hr rfl (fun t ht hW => ⟨⟨(nI 1), (fS, zu tQ k r7), rfl, ⟨some F, (by rw [show i = 24 by omega] at ho; exact ho), rfl, fun F2 hF => (by cases hF; exact ⟨hq3, (congrArg zv zu_s).trans (hr7.trans (congrArg (fun z => zS z0 (zsq iw ih T R N F z)) (show y * iw = iw * ih from by rw [show y = ih by omega, Nat.mul_comm])))⟩), hf3, fun i hi => zu_n hi⟩, by rw [ht]; exact hP, va_K.moved hW.alike hK, hD⟩, hS.F ht⟩) hS.2.2 dX5_make_233
                  · skip
                    refine lv_iconst (v := (nI 0)) hx hb dX5_make_149 (by decide) ?_
                    refine lv_istore (lv' := [(5, .int (nI 0)), (4, .int (nI y)), (2, .double sy), (0, .ref a0), (1, .int (nI k))]) hx hb dX5_make_150 hl (by decide) rfl (fun ls hl => ?_)
                    have L_152 : ∀ (n : Nat) (x : Nat) (sx : UInt64) (d0 : Drawn) (H : Heap) (locs : List Loc) (ls : Array Slot), iw - x < n → (x ≤ iw) → (zv sx = zsq iw ih T R N F (y * iw + x)) → s.drawn.sameBut d0 lw_cs → va_P (dC, dI) vwCl (w5 a0 aT aE aG aR aN aS aQ aW aX cD cI th iw ih fa fb fd ib mk im iq tT tE tG tR tN fS tQ tW tX) H → va_D A (w5 a0 aT aE aG aR aN aS aQ aW aX cD cI th iw ih fa fb fd ib mk im iq tT tE tG tR tN fS tQ tW tX) → va_S A s.heap H locs → lv_has ls 6 [(5, .int (nI x)), (4, .int (nI y)), (2, .double sx), (0, .ref a0), (1, .int (nI k))] → W p l e (headSpec wsX5_make ({ frames := 3, cells := 0, slots := 0, locals := 73 } : Room)).room (s.setDrawn d0) m ([.ref a0, .int (nI k)] : List Value).toArray below meth c H locs 0 0 (MQD lw_cs below (va_Qi (fun (r : Int32) (u : (Nat → UInt64) × (Nat → UInt64)) => ∃ o, zswO iw ih T R N (zv fd) k L (zbegin iw T k) 24 = o ∧ r = zb o.isSome ∧ (∀ F, o = some F → zgs u.1 k iw ih F ∧ zv (u.2 k) = zS z0 (zsq iw ih T R N F (iw * ih))) ∧ (∀ i, i < 36 * k → u.1 i = tS i) ∧ (∀ i, i ≠ k → u.2 i = tQ i)) (fun u t => (va_P (dC, dI) vwCl (w5 a0 aT aE aG aR aN aS aQ aW aX cD cI th iw ih fa fb fd ib mk im iq tT tE tG tR tN u.1 u.2 tW tX) t.heap ∧ va_K (dC, dI) vwCl [(cD, .double), (cI, .int)] t ∧ va_D A (w5 a0 aT aE aG aR aN aS aQ aW aX cD cI th iw ih fa fb fd ib mk im iq tT tE tG tR tN u.1 u.2 tW tX))) A) ([.ref a0, .int (nI k)] : List Value).toArray s 0 0 A) (F0 m 152 ls []) := by
                      intro n
                      induction n with
                      | zero => intro x sx d0 H locs ls hn; exact absurd hn (Nat.not_lt_zero _)
                      | succ n ih_L_152 =>
                        intro x sx d0 H locs ls hn hxw hsx hd0 hP hD hS hl
                        refine lv_iload hx hb dX5_make_152 (lv_at hl 0 rfl) ?_
                        refine lv_aload_n hx hb dX5_make_154 rfl (lv_at hl 3 rfl) ?_
                        refine va_get (D := (dC, dI)) (ci := 5) (v := .int (nI iw)) (C := RX5) (T := TX5) (N := 19) hx hb (dr_words hts d0) (in_X5_make_X5) hown hK hP 0 rfl rfl 1 (by decide) (dr_words hts d0 (.fieldLink RX5 48 "PlateModesModel" "width" "I") (by decide +kernel)) (fun _ h9 => h9) rfl dX5_make_155 ?_
                        refine z_icmp_ge (a := x) (b := iw) (tgt := 217) hx hb (by omega) (by omega) dX5_make_158 (by decide) (fun c9 => ?_) (fun c10 => ?_)
                        · skip
                          refine lv_iinc (v := nI (y + 1)) (lv' := [(4, .int (nI (y + 1))), (5, .int (nI x)), (2, .double sx), (0, .ref a0), (1, .int (nI k))]) hx hb dX5_make_217 hl (k := 1) rfl (show nI y + nI 1 = _ from zi_add (by omega)) (by decide) rfl (fun ls hl => ?_)
                          refine lv_goto (tgt := 140) hx hb dX5_make_220 (by decide) ?_
                          exact ih_L_140 (y + 1) sx _ _ _ _ (by omega) (by omega) ((hsx).trans (congrArg (fun z => zsq iw ih T R N F z) (show y * iw + x = (y + 1) * iw from by rw [← zrow_end]; omega))) hd0 hP hD hS (lv_sub hl [0, 2, 3, 4] rfl)
                        · skip
                          refine lv_aload_n hx hb dX5_make_161 rfl (lv_at hl 3 rfl) ?_
                          refine lv_bipush (v := (nI 6)) hx hb dX5_make_162 (by decide) ?_
                          refine lv_iload hx hb dX5_make_164 (lv_at hl 1 rfl) ?_
                          refine t_imul hx hb dX5_make_166 (v := nI (6 * y)) (zi_mul rfl) ?_
                          refine lv_iload hx hb dX5_make_167 (lv_at hl 0 rfl) ?_
                          refine t_iadd hx hb dX5_make_169 (v := nI (6 * y + x)) (zi_add (by omega)) ?_
                          have hPc := hP
                          refine va_calli (va_runV (As := [.int (nI (6 * y + x))]) (rest := []) ⟨hx, hb, hml, hown, (dr_words hts d0)⟩ (c5_isWood l dC dI a0 aT aE aG aR aN aS aQ aW aX cD cI th iw ih fa fb fd ib mk im iq tT tE tG tR tN fS tQ tW tX (6 * y + x) (by omega)) (cwV 1 (dr_words hts d0) gX5_make_X5_isWood rfl rfl rfl (by decide +kernel) ⟨Nat.le_of_ble_eq_true rfl, Nat.le_of_ble_eq_true rfl⟩) ⟨zfb, va_recv hK hP (ci := 5) (q0 := 0) rfl rfl, zpre hPc hK⟩ rfl rfl hl.1 rfl (lv_room (Nat.le_of_ble_eq_true rfl)) dX5_make_170 ⟨Nat.le_of_ble_eq_true rfl, Nat.le_of_ble_eq_true rfl⟩) hS (fun q _ h => h.elim) (fun q h => h.elim) (fun r11 u9 t9 H locs ht9 hvm9 hr11 hB9 hz9 hk1 hS => ?_)
                          have hP := zro1 hP hk1
                          have hr11 : r11 = zb (zgt (T (y * iw + x)) z0) := by rw [hr11, zgr_at gT x y (by omega) (by omega) (by omega)]
                          subst hr11
                          have J_210 : ∀ (sv : UInt64) (d0 : Drawn) (H : Heap) (locs : List Loc) (ls : Array Slot), (zv sv = zsq iw ih T R N F (y * iw + x + 1)) → s.drawn.sameBut d0 lw_cs → va_P (dC, dI) vwCl (w5 a0 aT aE aG aR aN aS aQ aW aX cD cI th iw ih fa fb fd ib mk im iq tT tE tG tR tN fS tQ tW tX) H → va_D A (w5 a0 aT aE aG aR aN aS aQ aW aX cD cI th iw ih fa fb fd ib mk im iq tT tE tG tR tN fS tQ tW tX) → va_S A s.heap H locs → lv_has ls 6 [(5, .int (nI x)), (4, .int (nI y)), (2, .double sx), (0, .ref a0), (1, .int (nI k))] → W p l e (headSpec wsX5_make ({ frames := 3, cells := 0, slots := 0, locals := 73 } : Room)).room (s.setDrawn d0) m ([.ref a0, .int (nI k)] : List Value).toArray below meth c H locs 0 0 (MQD lw_cs below (va_Qi (fun (r : Int32) (u : (Nat → UInt64) × (Nat → UInt64)) => ∃ o, zswO iw ih T R N (zv fd) k L (zbegin iw T k) 24 = o ∧ r = zb o.isSome ∧ (∀ F, o = some F → zgs u.1 k iw ih F ∧ zv (u.2 k) = zS z0 (zsq iw ih T R N F (iw * ih))) ∧ (∀ i, i < 36 * k → u.1 i = tS i) ∧ (∀ i, i ≠ k → u.2 i = tQ i)) (fun u t => (va_P (dC, dI) vwCl (w5 a0 aT aE aG aR aN aS aQ aW aX cD cI th iw ih fa fb fd ib mk im iq tT tE tG tR tN u.1 u.2 tW tX) t.heap ∧ va_K (dC, dI) vwCl [(cD, .double), (cI, .int)] t ∧ va_D A (w5 a0 aT aE aG aR aN aS aQ aW aX cD cI th iw ih fa fb fd ib mk im iq tT tE tG tR tN u.1 u.2 tW tX))) A) ([.ref a0, .int (nI k)] : List Value).toArray s 0 0 A) (F0 m 210 ls [.double sv]) := by
                            intro sv d0 H locs ls hsv hd0 hP hD hS hl
                            refine lv_dstore_n (lv' := [(2, .double sv), (5, .int (nI x)), (4, .int (nI y)), (0, .ref a0), (1, .int (nI k))]) hx hb dX5_make_210 rfl hl (by decide) rfl (fun ls hl => ?_)
                            refine lv_iinc (v := nI (x + 1)) (lv' := [(5, .int (nI (x + 1))), (2, .double sv), (4, .int (nI y)), (0, .ref a0), (1, .int (nI k))]) hx hb dX5_make_211 hl (k := 1) rfl (show nI x + nI 1 = _ from zi_add (by omega)) (by decide) rfl (fun ls hl => ?_)
                            refine lv_goto (tgt := 152) hx hb dX5_make_214 (by decide) ?_
                            exact ih_L_152 (x + 1) sv _ _ _ _ (by omega) (by omega) hsv hd0 hP hD hS (lv_sub hl [0, 2, 1, 3, 4] rfl)
                          refine z_if_eq_b (tgt := 209) hx hb dX5_make_173 (by decide) (fun c12 => ?_) (fun c13 => ?_)
                          · skip
                            have cw := c12
                            refine lv_dload_n hx hb dX5_make_209 rfl (lv_at hl 2 rfl) ?_
                            exact J_210 sx _ _ _ _ (hsx.trans (zsq_f cw).symm) hd0 hP hD hS hl
                          · skip
                            have cw := c13
                            refine lv_dload_n hx hb dX5_make_176 rfl (lv_at hl 2 rfl) ?_
                            refine lv_aload_n hx hb dX5_make_177 rfl (lv_at hl 3 rfl) ?_
                            refine va_get (D := (dC, dI)) (ci := 5) (v := .ref aS) (C := RX5) (T := TX5) (N := 19) hx hb (dr_words hts d0) (in_X5_make_X5) hown hK hP 0 rfl rfl 14 (by decide) (dr_words hts d0 (.fieldLink RX5 36 "PlateModesModel" "shapes" "[D") (by decide +kernel)) (fun _ h9 => h9) rfl dX5_make_178 ?_
                            refine lv_bipush (v := (nI 36)) hx hb dX5_make_181 (by decide) ?_
                            refine lv_iload_n hx hb dX5_make_183 rfl (lv_at hl 4 rfl) ?_
                            refine t_imul hx hb dX5_make_184 (v := nI (36 * k)) (zi_mul rfl) ?_
                            refine lv_bipush (v := (nI 6)) hx hb dX5_make_185 (by decide) ?_
                            refine lv_iload hx hb dX5_make_187 (lv_at hl 1 rfl) ?_
                            refine t_imul hx hb dX5_make_189 (v := nI (6 * y)) (zi_mul rfl) ?_
                            refine t_iadd hx hb dX5_make_190 (v := nI (36 * k + 6 * y)) (zi_add (by omega)) ?_
                            refine lv_iload hx hb dX5_make_191 (lv_at hl 0 rfl) ?_
                            refine t_iadd hx hb dX5_make_193 (v := nI (36 * k + 6 * y + x)) (zi_add (by omega)) ?_
                            refine z_dald (s := s.setDrawn d0) (n := 144) (i := 36 * k + 6 * y + x) hx hb hK hP 6 0 rfl rfl (by omega) (by decide) dX5_make_194 ?_
                            refine lv_aload_n hx hb dX5_make_195 rfl (lv_at hl 3 rfl) ?_
                            refine lv_iload_n hx hb dX5_make_196 rfl (lv_at hl 4 rfl) ?_
                            refine lv_iload hx hb dX5_make_197 (lv_at hl 0 rfl) ?_
                            refine lv_iload hx hb dX5_make_199 (lv_at hl 1 rfl) ?_
                            have hPc := hP
                            refine va_calldD hd0 (va_runV_D (As := [.int (nI k), .int (nI x), .int (nI y)]) (rest := [.double (fS (36 * k + 6 * y + x)), .double sx]) ⟨hx, hb, hml, hown, (dr_words hts d0)⟩ (c5_force l dC dI a0 aT aE aG aR aN aS aQ aW aX cD cI th iw ih fa fb fd ib mk im iq tT tE tG tR tN fS tQ tW tX k x y (by omega) (by omega) (by omega) hw6 hh6 R N F gR gN hq3) (cwV 3 (dr_words hts d0) gX5_make_X5_force rfl rfl rfl (by decide +kernel) ⟨Nat.le_of_ble_eq_true rfl, Nat.le_of_ble_eq_true rfl⟩) ⟨zfb, va_recv hK hP (ci := 5) (q0 := 0) rfl rfl, zpre hPc hK⟩ rfl rfl hl.1 rfl (lv_room (Nat.le_of_ble_eq_true rfl)) dX5_make_201 ⟨Nat.le_of_ble_eq_true rfl, Nat.le_of_ble_eq_true rfl⟩) hS (fun q _ h => h.elim) (fun q h => h.elim) (fun r14 u9 t9 H locs ht9 hvm9 hr14 hB9 hz9 hk1 hS dhd15 hd15 => ?_)
                            have hP := zro1 hP hk1
                            refine zr_dmul hd15 hx hb (a := F (y * iw + x)) (b := zforce iw ih R N F x y) (zgs_at hq3 x y (by omega) (by omega) (by omega)) hr14 dX5_make_204 (fun r16 d17 hr16 hd17 => ?_)
                            refine zr_dadd hd17 hx hb (a := zsq iw ih T R N F (y * iw + x)) (b := zM (F (y * iw + x)) (zforce iw ih R N F x y)) hsx hr16 dX5_make_205 (fun r18 d19 hr18 hd19 => ?_)
                            refine lv_goto (tgt := 210) hx hb dX5_make_206 (by decide) ?_
                            exact J_210 r18 _ _ _ _ (hr18.trans (zsq_t (by omega) cw).symm) hd19 hP hD hS hl
                    exact L_152 _ 0 sy _ _ _ _ (Nat.lt_succ_self _) (by omega) hsy hd0 hP hD hS hl
              exact L_140 _ 0 FP.dconst0 _ _ _ _ (Nat.lt_succ_self _) (by omega) (by rw [Nat.zero_mul]; rfl) hd0 hP hD hS hl
            · skip
              refine lv_aload_n hx hb dX5_make_119 rfl (lv_at hl 1 rfl) ?_
              refine lv_iload_n hx hb dX5_make_120 rfl (lv_at hl 2 rfl) ?_
              have hFc := zself hD hS hA
              refine va_calliD hd0 (va_runV_D (As := [.int (nI k)]) (rest := []) ⟨hx, hb, hml, hown, (dr_words hts d0)⟩ (c5_sweep l dC dI a0 aT aE aG aR aN aS aQ aW aX cD cI th iw ih fa fb fd ib mk im iq tT tE tG tR tN fS tQ tW tX k hk hw6 hh6 T R N gT gR gN F hq3 L (fun j hj => zgs_low hw6 hh6 hf3 hj (gL j hj)) _) (cwV 1 (dr_words hts d0) gX5_make_X5_sweep rfl rfl rfl (by decide +kernel) ⟨Nat.le_of_ble_eq_true rfl, Nat.le_of_ble_eq_true rfl⟩) ⟨zfbw, va_recv hK hP (ci := 5) (q0 := 0) rfl rfl, zprew hP hK hD⟩ rfl rfl hl.1 rfl (lv_room (Nat.le_of_ble_eq_true rfl)) dX5_make_121 ⟨Nat.le_of_ble_eq_true rfl, Nat.le_of_ble_eq_true rfl⟩) hS (fun q _ h => hFc q h) hFc (fun r20 u21 t9 H1 locs ht9 hvm9 hr20 hB9 hz9 hk1 hS dhd22 hd22 => ?_)
              obtain ⟨hb7, hq7, hf7⟩ := hr20
              subst hb7
              obtain ⟨hP1, hK1, hD1⟩ := hB9
              rw [ht9] at hP1
              have hD := hD1.weaken (fun k q _ h => hFc q.1 h)
              have hP := hP1
              generalize H1 = H at hP hS ⊢
              have hP : va_P (dC, dI) vwCl (w5 a0 aT aE aG aR aN aS aQ aW aX cD cI th iw ih fa fb fd ib mk im iq tT tE tG tR tN u21 tQ tW tX) H := hP
              have hD : va_D A (w5 a0 aT aE aG aR aN aS aQ aW aX cD cI th iw ih fa fb fd ib mk im iq tT tE tG tR tN u21 tQ tW tX) := hD
              have hf7 : ∀ i, i < 36 * k → u21 i = tS i := fun i hi => (hf7 i hi).trans (hf3 i hi)
              refine z_if_ne_b (tgt := 129) hx hb dX5_make_124 (by decide) (fun c23 => ?_) (fun c24 => ?_)
              · skip
                have hz := znot_t c23
                have hq7 := zgs_c (if_neg (by rw [hz]; decide)) hq7
                refine lv_iinc (v := nI (i + 1)) (lv' := [(2, .int (nI (i + 1))), (0, .ref a0), (1, .int (nI k))]) hx hb dX5_make_129 hl (k := 0) rfl (show nI i + nI 1 = _ from zi_add (by omega)) (by decide) rfl (fun ls hl => ?_)
                refine lv_goto (tgt := 113) hx hb dX5_make_132 (by decide) ?_
                exact ih_L_113 (i + 1) u21 (znrm T (zsz iw ih T R N (zv fd) k L F) (zsw1 iw ih T R N (zv fd) k L F)) _ _ _ _ (by omega) (by omega) (zswO_s ho hz) hq7 hf7 hd22 hP hD hS hl
              · skip
                have hz := znot_f c24
                refine lv_iconst (v := (nI 0)) hx hb dX5_make_127 (by decide) ?_
                refine W.endD hd22 ?_
                exact W.zret (v := (nI 0)) hx hb hr rfl (fun t ht hW => ⟨⟨(nI 0), (u21, tQ), rfl, ⟨none, (by have h1 := zswO_none (zswO_n ho hz) (23 - i); rw [show i + 1 + (23 - i) = 24 by omega] at h1; exact h1), rfl, fun F hF => (by cases hF), hf7, fun _ _ => rfl⟩, by rw [ht]; exact hP, va_K.moved hW.alike hK, hD⟩, hS.F ht⟩) hS.2.2 dX5_make_128
        exact L_113 _ 0 fS (zbegin iw T k) _ _ _ _ (Nat.lt_succ_self _) (by omega) rfl (zgsb_all hw6 hh6 (by omega) hq1) hf1 hd0 hP hD hS hl
      · skip
        refine lv_iconst (v := (nI 0)) hx hb dX5_make_8 (by decide) ?_
        refine lv_istore_n (lv' := [(3, .int (nI 0)), (2, .int (nI y)), (0, .ref a0), (1, .int (nI k))]) hx hb dX5_make_9 rfl hl (by decide) rfl (fun ls hl => ?_)
        have L_10 : ∀ (n : Nat) (x : Nat) (fS : Nat → UInt64) (d0 : Drawn) (H : Heap) (locs : List Loc) (ls : Array Slot), 6 - x < n → (x ≤ 6) → (zgsb fS k iw ih (6 * y + x) (zbegin iw T k)) → (∀ i, i < 36 * k → fS i = tS i) → s.drawn.sameBut d0 lw_cs → va_P (dC, dI) vwCl (w5 a0 aT aE aG aR aN aS aQ aW aX cD cI th iw ih fa fb fd ib mk im iq tT tE tG tR tN fS tQ tW tX) H → va_D A (w5 a0 aT aE aG aR aN aS aQ aW aX cD cI th iw ih fa fb fd ib mk im iq tT tE tG tR tN fS tQ tW tX) → va_S A s.heap H locs → lv_has ls 6 [(3, .int (nI x)), (2, .int (nI y)), (0, .ref a0), (1, .int (nI k))] → W p l e (headSpec wsX5_make ({ frames := 3, cells := 0, slots := 0, locals := 73 } : Room)).room (s.setDrawn d0) m ([.ref a0, .int (nI k)] : List Value).toArray below meth c H locs 0 0 (MQD lw_cs below (va_Qi (fun (r : Int32) (u : (Nat → UInt64) × (Nat → UInt64)) => ∃ o, zswO iw ih T R N (zv fd) k L (zbegin iw T k) 24 = o ∧ r = zb o.isSome ∧ (∀ F, o = some F → zgs u.1 k iw ih F ∧ zv (u.2 k) = zS z0 (zsq iw ih T R N F (iw * ih))) ∧ (∀ i, i < 36 * k → u.1 i = tS i) ∧ (∀ i, i ≠ k → u.2 i = tQ i)) (fun u t => (va_P (dC, dI) vwCl (w5 a0 aT aE aG aR aN aS aQ aW aX cD cI th iw ih fa fb fd ib mk im iq tT tE tG tR tN u.1 u.2 tW tX) t.heap ∧ va_K (dC, dI) vwCl [(cD, .double), (cI, .int)] t ∧ va_D A (w5 a0 aT aE aG aR aN aS aQ aW aX cD cI th iw ih fa fb fd ib mk im iq tT tE tG tR tN u.1 u.2 tW tX))) A) ([.ref a0, .int (nI k)] : List Value).toArray s 0 0 A) (F0 m 10 ls []) := by
          intro n
          induction n with
          | zero => intro x fS d0 H locs ls hn; exact absurd hn (Nat.not_lt_zero _)
          | succ n ih_L_10 =>
            intro x fS d0 H locs ls hn hx6 hq2 hf2 hd0 hP hD hS hl
            refine lv_iload_n hx hb dX5_make_10 rfl (lv_at hl 0 rfl) ?_
            refine lv_bipush (v := (nI 6)) hx hb dX5_make_11 (by decide) ?_
            refine z_icmp_ge (a := x) (b := 6) (tgt := 105) hx hb (by omega) (by omega) dX5_make_13 (by decide) (fun c25 => ?_) (fun c26 => ?_)
            · skip
              refine lv_iinc (v := nI (y + 1)) (lv' := [(2, .int (nI (y + 1))), (3, .int (nI x)), (0, .ref a0), (1, .int (nI k))]) hx hb dX5_make_105 hl (k := 1) rfl (show nI y + nI 1 = _ from zi_add (by omega)) (by decide) rfl (fun ls hl => ?_)
              refine lv_goto (tgt := 2) hx hb dX5_make_108 (by decide) ?_
              exact ih_L_2 (y + 1) fS _ _ _ _ (by omega) (by omega) (zgsb_n hq2 (by omega)) hf2 hd0 hP hD hS (lv_sub hl [0, 2, 3] rfl)
            · skip
              have J_50 : ∀ (bi : Bool) (d0 : Drawn) (H : Heap) (locs : List Loc) (ls : Array Slot), (bi = decide (x < iw ∧ y < ih ∧ zgt (zv (tT (6 * y + x))) z0 = true)) → s.drawn.sameBut d0 lw_cs → va_P (dC, dI) vwCl (w5 a0 aT aE aG aR aN aS aQ aW aX cD cI th iw ih fa fb fd ib mk im iq tT tE tG tR tN fS tQ tW tX) H → va_D A (w5 a0 aT aE aG aR aN aS aQ aW aX cD cI th iw ih fa fb fd ib mk im iq tT tE tG tR tN fS tQ tW tX) → va_S A s.heap H locs → lv_has ls 6 [(3, .int (nI x)), (2, .int (nI y)), (0, .ref a0), (1, .int (nI k))] → W p l e (headSpec wsX5_make ({ frames := 3, cells := 0, slots := 0, locals := 73 } : Room)).room (s.setDrawn d0) m ([.ref a0, .int (nI k)] : List Value).toArray below meth c H locs 0 0 (MQD lw_cs below (va_Qi (fun (r : Int32) (u : (Nat → UInt64) × (Nat → UInt64)) => ∃ o, zswO iw ih T R N (zv fd) k L (zbegin iw T k) 24 = o ∧ r = zb o.isSome ∧ (∀ F, o = some F → zgs u.1 k iw ih F ∧ zv (u.2 k) = zS z0 (zsq iw ih T R N F (iw * ih))) ∧ (∀ i, i < 36 * k → u.1 i = tS i) ∧ (∀ i, i ≠ k → u.2 i = tQ i)) (fun u t => (va_P (dC, dI) vwCl (w5 a0 aT aE aG aR aN aS aQ aW aX cD cI th iw ih fa fb fd ib mk im iq tT tE tG tR tN u.1 u.2 tW tX) t.heap ∧ va_K (dC, dI) vwCl [(cD, .double), (cI, .int)] t ∧ va_D A (w5 a0 aT aE aG aR aN aS aQ aW aX cD cI th iw ih fa fb fd ib mk im iq tT tE tG tR tN u.1 u.2 tW tX))) A) ([.ref a0, .int (nI k)] : List Value).toArray s 0 0 A) (F0 m 50 ls [.int (zb bi)]) := by
                intro bi d0 H locs ls hbi hd0 hP hD hS hl
                refine lv_istore (lv' := [(4, .int (zb bi)), (3, .int (nI x)), (2, .int (nI y)), (0, .ref a0), (1, .int (nI k))]) hx hb dX5_make_50 hl (by decide) rfl (fun ls hl => ?_)
                refine lv_aload_n hx hb dX5_make_52 rfl (lv_at hl 3 rfl) ?_
                refine va_get (D := (dC, dI)) (ci := 5) (v := .ref aS) (C := RX5) (T := TX5) (N := 19) hx hb (dr_words hts d0) (in_X5_make_X5) hown hK hP 0 rfl rfl 14 (by decide) (dr_words hts d0 (.fieldLink RX5 36 "PlateModesModel" "shapes" "[D") (by decide +kernel)) (fun _ h9 => h9) rfl dX5_make_53 ?_
                refine lv_bipush (v := (nI 36)) hx hb dX5_make_56 (by decide) ?_
                refine lv_iload_n hx hb dX5_make_58 rfl (lv_at hl 4 rfl) ?_
                refine t_imul hx hb dX5_make_59 (v := nI (36 * k)) (zi_mul rfl) ?_
                refine lv_bipush (v := (nI 6)) hx hb dX5_make_60 (by decide) ?_
                refine lv_iload_n hx hb dX5_make_62 rfl (lv_at hl 2 rfl) ?_
                refine t_imul hx hb dX5_make_63 (v := nI (6 * y)) (zi_mul rfl) ?_
                refine t_iadd hx hb dX5_make_64 (v := nI (36 * k + 6 * y)) (zi_add (by omega)) ?_
                refine lv_iload_n hx hb dX5_make_65 rfl (lv_at hl 1 rfl) ?_
                refine t_iadd hx hb dX5_make_66 (v := nI (36 * k + 6 * y + x)) (zi_add (by omega)) ?_
                refine lv_iload hx hb dX5_make_67 (lv_at hl 0 rfl) ?_
                refine z_if_eq_b (tgt := 97) hx hb dX5_make_69 (by decide) (fun c27 => ?_) (fun c28 => ?_)
                · skip
                  have cb := c27
                  refine lv_dconst0 hx hb dX5_make_97 ?_
                  refine z_dast (s := s.setDrawn d0) (n := 144) (i := 36 * k + 6 * y + x) hx hb hK hP hD hS 6 0 rfl rfl (by omega) (by decide) dX5_make_98 (fun H locs hP hD hS => ?_)
                  have hP : va_P (dC, dI) vwCl (w5 a0 aT aE aG aR aN aS aQ aW aX cD cI th iw ih fa fb fd ib mk im iq tT tE tG tR tN (zu fS (36 * k + 6 * y + x) FP.dconst0) tQ tW tX) H := hP
                  have hD : va_D A (w5 a0 aT aE aG aR aN aS aQ aW aX cD cI th iw ih fa fb fd ib mk im iq tT tE tG tR tN (zu fS (36 * k + 6 * y + x) FP.dconst0) tQ tW tX) := hD
                  refine lv_iinc (v := nI (x + 1)) (lv' := [(3, .int (nI (x + 1))), (4, .int (zb bi)), (2, .int (nI y)), (0, .ref a0), (1, .int (nI k))]) hx hb dX5_make_99 hl (k := 1) rfl (show nI x + nI 1 = _ from zi_add (by omega)) (by decide) rfl (fun ls hl => ?_)
                  refine lv_goto (tgt := 10) hx hb dX5_make_102 (by decide) ?_
                  exact ih_L_10 (x + 1) (zu fS (36 * k + 6 * y + x) FP.dconst0) _ _ _ _ (by omega) (by omega) (zgsb_n (zgsb_put (c := 6 * y + x) hq2 (zbg_put hw6 gT (by omega) hbi (fun h => absurd (h.symm.trans cb) (by decide)) (fun _ => rfl)) (by omega)) (by omega)) (fun i hi => (zu_n (by omega)).trans (hf2 i hi)) hd0 hP hD hS (lv_sub hl [0, 2, 3, 4] rfl)
                · skip
                  have cb := c28
                  refine lv_dconst1 hx hb dX5_make_72 ?_
                  refine lv_iconst (v := (nI 3)) hx hb dX5_make_73 (by decide) ?_
                  refine lv_iload_n hx hb dX5_make_74 rfl (lv_at hl 1 rfl) ?_
                  refine t_imul hx hb dX5_make_75 (v := nI (3 * x)) (zi_mul rfl) ?_
                  refine lv_iconst (v := (nI 5)) hx hb dX5_make_76 (by decide) ?_
                  refine lv_iload_n hx hb dX5_make_77 rfl (lv_at hl 2 rfl) ?_
                  refine t_imul hx hb dX5_make_78 (v := nI (5 * y)) (zi_mul rfl) ?_
                  refine t_iadd hx hb dX5_make_79 (v := nI (5 * y + 3 * x)) (zi_add (by omega)) ?_
                  refine lv_bipush (v := (nI 7)) hx hb dX5_make_80 (by decide) ?_
                  refine lv_iload_n hx hb dX5_make_82 rfl (lv_at hl 4 rfl) ?_
                  refine t_imul hx hb dX5_make_83 (v := nI (7 * k)) (zi_mul rfl) ?_
                  refine t_iadd hx hb dX5_make_84 (v := nI (7 * k + 5 * y + 3 * x)) (zi_add (by omega)) ?_
                  refine lv_bipush (v := (nI 11)) hx hb dX5_make_85 (by decide) ?_
                  refine t_irem hx hb dX5_make_87 (fun h => absurd h (by decide)) (v := nI ((7 * k + 5 * y + 3 * x) % 11)) (pk_rem (by omega) (by omega) (by omega)) ?_
                  refine lv_i2d hx hb dX5_make_88 ?_
                  refine lv_ldc2d (v := 4620693217682128896) hx hb hown (dr_words hts d0 (.constantDouble RX5 66 (4620693217682128896)) (by decide +kernel)) dX5_make_89 ?_
                  refine zr_ddiv hd0 hx hb (a := zv (FP.i2d (nI (((7 * k + 5 * y + 3 * x) % 11))))) (b := zv 4620693217682128896) rfl rfl dX5_make_92 (fun r29 d30 hr29 hd30 => ?_)
                  refine zr_dadd hd30 hx hb (a := z1) (b := zQ (zv (FP.i2d (nI (((7 * k + 5 * y + 3 * x) % 11))))) (zv 4620693217682128896)) rfl hr29 dX5_make_93 (fun r31 d32 hr31 hd32 => ?_)
                  refine lv_goto (tgt := 98) hx hb dX5_make_94 (by decide) ?_
                  refine z_dast (s := s.setDrawn d32) (n := 144) (i := 36 * k + 6 * y + x) hx hb hK hP hD hS 6 0 rfl rfl (by omega) (by decide) dX5_make_98 (fun H locs hP hD hS => ?_)
                  have hP : va_P (dC, dI) vwCl (w5 a0 aT aE aG aR aN aS aQ aW aX cD cI th iw ih fa fb fd ib mk im iq tT tE tG tR tN (zu fS (36 * k + 6 * y + x) r31) tQ tW tX) H := hP
                  have hD : va_D A (w5 a0 aT aE aG aR aN aS aQ aW aX cD cI th iw ih fa fb fd ib mk im iq tT tE tG tR tN (zu fS (36 * k + 6 * y + x) r31) tQ tW tX) := hD
                  refine lv_iinc (v := nI (x + 1)) (lv' := [(3, .int (nI (x + 1))), (4, .int (zb bi)), (2, .int (nI y)), (0, .ref a0), (1, .int (nI k))]) hx hb dX5_make_99 hl (k := 1) rfl (show nI x + nI 1 = _ from zi_add (by omega)) (by decide) rfl (fun ls hl => ?_)
                  refine lv_goto (tgt := 10) hx hb dX5_make_102 (by decide) ?_
                  exact ih_L_10 (x + 1) (zu fS (36 * k + 6 * y + x) r31) _ _ _ _ (by omega) (by omega) (zgsb_n (zgsb_put (c := 6 * y + x) hq2 (zbg_put hw6 gT (by omega) hbi (fun _ => by unfold zbeg; rw [show 3 * x + 5 * y + 7 * k = 7 * k + 5 * y + 3 * x by omega]; exact hr31) (fun h => absurd (h.symm.trans cb) (by decide))) (by omega)) (by omega)) (fun i hi => (zu_n (by omega)).trans (hf2 i hi)) hd32 hP hD hS (lv_sub hl [0, 2, 3, 4] rfl)
              refine lv_iload_n hx hb dX5_make_16 rfl (lv_at hl 0 rfl) ?_
              refine lv_aload_n hx hb dX5_make_17 rfl (lv_at hl 2 rfl) ?_
              refine va_get (D := (dC, dI)) (ci := 5) (v := .int (nI iw)) (C := RX5) (T := TX5) (N := 19) hx hb (dr_words hts d0) (in_X5_make_X5) hown hK hP 0 rfl rfl 1 (by decide) (dr_words hts d0 (.fieldLink RX5 48 "PlateModesModel" "width" "I") (by decide +kernel)) (fun _ h9 => h9) rfl dX5_make_18 ?_
              refine z_icmp_ge (a := x) (b := iw) (tgt := 49) hx hb (by omega) (by omega) dX5_make_21 (by decide) (fun c33 => ?_) (fun c34 => ?_)
              · skip
                refine lv_iconst (v := (nI 0)) hx hb dX5_make_49 (by decide) ?_
                exact J_50 false _ _ _ _ ((decide_eq_false (fun hh => by obtain ⟨h1, h2, h3⟩ := hh; first | omega | (rw [cw] at h3; exact absurd h3 (by decide)))).symm) hd0 hP hD hS hl
              · skip
                refine lv_iload_n hx hb dX5_make_24 rfl (lv_at hl 1 rfl) ?_
                refine lv_aload_n hx hb dX5_make_25 rfl (lv_at hl 2 rfl) ?_
                refine va_get (D := (dC, dI)) (ci := 5) (v := .int (nI ih)) (C := RX5) (T := TX5) (N := 19) hx hb (dr_words hts d0) (in_X5_make_X5) hown hK hP 0 rfl rfl 2 (by decide) (dr_words hts d0 (.fieldLink RX5 52 "PlateModesModel" "height" "I") (by decide +kernel)) (fun _ h9 => h9) rfl dX5_make_26 ?_
                refine z_icmp_ge (a := y) (b := ih) (tgt := 49) hx hb (by omega) (by omega) dX5_make_29 (by decide) (fun c35 => ?_) (fun c36 => ?_)
                · skip
                  refine lv_iconst (v := (nI 0)) hx hb dX5_make_49 (by decide) ?_
                  exact J_50 false _ _ _ _ ((decide_eq_false (fun hh => by obtain ⟨h1, h2, h3⟩ := hh; first | omega | (rw [cw] at h3; exact absurd h3 (by decide)))).symm) hd0 hP hD hS hl
                · skip
                  refine lv_aload_n hx hb dX5_make_32 rfl (lv_at hl 2 rfl) ?_
                  refine lv_bipush (v := (nI 6)) hx hb dX5_make_33 (by decide) ?_
                  refine lv_iload_n hx hb dX5_make_35 rfl (lv_at hl 1 rfl) ?_
                  refine t_imul hx hb dX5_make_36 (v := nI (6 * y)) (zi_mul rfl) ?_
                  refine lv_iload_n hx hb dX5_make_37 rfl (lv_at hl 0 rfl) ?_
                  refine t_iadd hx hb dX5_make_38 (v := nI (6 * y + x)) (zi_add (by omega)) ?_
                  have hPc := hP
                  refine va_calli (va_runV (As := [.int (nI (6 * y + x))]) (rest := []) ⟨hx, hb, hml, hown, (dr_words hts d0)⟩ (c5_isWood l dC dI a0 aT aE aG aR aN aS aQ aW aX cD cI th iw ih fa fb fd ib mk im iq tT tE tG tR tN fS tQ tW tX (6 * y + x) (by omega)) (cwV 1 (dr_words hts d0) gX5_make_X5_isWood rfl rfl rfl (by decide +kernel) ⟨Nat.le_of_ble_eq_true rfl, Nat.le_of_ble_eq_true rfl⟩) ⟨zfb, va_recv hK hP (ci := 5) (q0 := 0) rfl rfl, zpre hPc hK⟩ rfl rfl hl.1 rfl (lv_room (Nat.le_of_ble_eq_true rfl)) dX5_make_39 ⟨Nat.le_of_ble_eq_true rfl, Nat.le_of_ble_eq_true rfl⟩) hS (fun q _ h => h.elim) (fun q h => h.elim) (fun r37 u9 t9 H locs ht9 hvm9 hr37 hB9 hz9 hk1 hS => ?_)
                  have hP := zro1 hP hk1
                  subst hr37
                  refine z_if_eq_b (tgt := 49) hx hb dX5_make_42 (by decide) (fun c38 => ?_) (fun c39 => ?_)
                  · skip
                    have cw := c38
                    refine lv_iconst (v := (nI 0)) hx hb dX5_make_49 (by decide) ?_
                    exact J_50 false _ _ _ _ ((decide_eq_false (fun hh => by obtain ⟨h1, h2, h3⟩ := hh; first | omega | (rw [cw] at h3; exact absurd h3 (by decide)))).symm) hd0 hP hD hS hl
                  · skip
                    have cw := c39
                    refine lv_iconst (v := (nI 1)) hx hb dX5_make_45 (by decide) ?_
                    refine lv_goto (tgt := 50) hx hb dX5_make_46 (by decide) ?_
                    exact J_50 true _ _ _ _ ((decide_eq_true ⟨by omega, by omega, cw⟩).symm) hd0 hP hD hS hl
        exact L_10 _ 0 fS _ _ _ _ (Nat.lt_succ_self _) (by omega) hq1 hf1 hd0 hP hD hS hl
  exact L_2 _ 0 tS _ _ _ _ (Nat.lt_succ_self _) (by omega) (zgsb_n zgsb_0 (by omega)) (fun _ _ => rfl) hd0 hP hD hS hl
theorem in_X5_makeAll_X5 : ∀ w ∈ wsX50, w ∈ wsX5_makeAll := fun w h => List.mem_cons_of_mem _ (List.mem_append_right _ h)
set_option maxHeartbeats 4000000 in
set_option maxRecDepth 100000 in
/-- all modes -/
theorem c5_makeAll (l : Launch) (dC : Nat → ClassId) (dI : Nat → Nat → Nat) (a0 aT aE aG aR aN aS aQ aW aX : Nat) (cD cI : ClassId) (th : Int32) (iw ih : Nat) (fa fb fd : UInt64) (ib : Nat) (mk : Bool) (im iq : Nat) (tT : Nat → UInt64) (tE : Nat → Int32) (tG tR tN tS tQ : Nat → UInt64) (tW : Nat → Int32) (tX : Nat → UInt64) (n1 : Nat) (hn4 : n1 ≤ 4) (hw6 : iw ≤ 6) (hh6 : ih ≤ 6) (T : Nat → ZD) (gT : zgr tT iw ih T) (bx0 by0 bx1 by1 : Nat → Nat) (bg : Nat → ZD) (hb12 : ib ≤ 12) (gE : ∀ k, k < ib → tE (4 * k) = nI (bx0 k) ∧ tE (4 * k + 1) = nI (by0 k) ∧ tE (4 * k + 2) = nI (bx1 k) ∧ tE (4 * k + 3) = nI (by1 k)) (gB : ∀ k, k < ib → bx0 k ≤ bx1 k ∧ bx1 k < iw ∧ by0 k ≤ by1 k ∧ by1 k < ih) (gG : ∀ k, k < ib → zv (tG k) = bg k) (sz : Nat) : MetD lw_cs l yX5_makeAll wsX5_makeAll ({ frames := 4, cells := 0, slots := 0, locals := 98 } : Room) (va_Pc [.ref a0, .int (nI n1)] (fun U => U.heap.size = sz ∧ va_P (dC, dI) vwCl (w5 a0 aT aE aG aR aN aS aQ aW aX cD cI th iw ih fa fb fd ib mk im iq tT tE tG tR tN tS tQ tW tX) U.heap ∧ va_K (dC, dI) vwCl [(cD, .double), (cI, .int)] U ∧ va_D (fun _ => True) (w5 a0 aT aE aG aR aN aS aQ aW aX cD cI th iw ih fa fb fd ib mk im iq tT tE tG tR tN tS tQ tW tX))) (va_Qv (fun u : (Nat → UInt64) × (Nat → UInt64) × (Nat → UInt64) × (Nat → UInt64) => zgr u.1 iw ih (zRB iw T (zv fa) bx0 by0 bx1 bg ib) ∧ zgr u.2.1 iw ih (zNB iw ih T (zv fb) bx0 by0 by1 bg ib) ∧ ∀ j, j < zcnt iw ih T (zRB iw T (zv fa) bx0 by0 bx1 bg ib) (zNB iw ih T (zv fb) bx0 by0 by1 bg ib) (zv fd) n1 → zgs u.2.2.1 j iw ih (zshp iw ih T (zRB iw T (zv fa) bx0 by0 bx1 bg ib) (zNB iw ih T (zv fb) bx0 by0 by1 bg ib) (zv fd) j) ∧ zv (u.2.2.2 j) = zS z0 (zsq iw ih T (zRB iw T (zv fa) bx0 by0 bx1 bg ib) (zNB iw ih T (zv fb) bx0 by0 by1 bg ib) (zshp iw ih T (zRB iw T (zv fa) bx0 by0 bx1 bg ib) (zNB iw ih T (zv fb) bx0 by0 by1 bg ib) (zv fd) j) (iw * ih))) (fun u t => (va_P (dC, dI) vwCl (w5 a0 aT aE aG aR aN aS aQ aW aX cD cI th iw ih fa fb fd ib true ((zcnt iw ih T (zRB iw T (zv fa) bx0 by0 bx1 bg ib) (zNB iw ih T (zv fb) bx0 by0 by1 bg ib) (zv fd) n1)) iq tT tE tG u.1 u.2.1 u.2.2.1 u.2.2.2 tW tX) t.heap ∧ va_K (dC, dI) vwCl [(cD, .double), (cI, .int)] t ∧ va_D (va_A (w5 a0 aT aE aG aR aN aS aQ aW aX cD cI th iw ih fa fb fd ib mk im iq tT tE tG tR tN tS tQ tW tX) sz) (w5 a0 aT aE aG aR aN aS aQ aW aX cD cI th iw ih fa fb fd ib true ((zcnt iw ih T (zRB iw T (zv fa) bx0 by0 bx1 bg ib) (zNB iw ih T (zv fb) bx0 by0 by1 bg ib) (zv fd) n1)) iq tT tE tG u.1 u.2.1 u.2.2.1 u.2.2.2 tW tX))) (va_A (w5 a0 aT aE aG aR aN aS aQ aW aX cD cI th iw ih fa fb fd ib mk im iq tT tE tG tR tN tS tQ tW tX) sz)) 0 0 (va_A (w5 a0 aT aE aG aR aN aS aQ aW aX cD cI th iw ih fa fb fd ib mk im iq tT tE tG tR tN tS tQ tW tX) sz) := by
  refine MetD.ofW (cc := cX5_makeAll) (maxL := 3) (ret := none) (by decide) rfl ?_
  intro p e s m args below meth c s₁ B hml hv hd0
  obtain ⟨rfl, hsz, hP, hK, hD0⟩ := hv
  have hx := B.exec
  have hb := B.bytes
  have hr := B.returns
  have hts := atoms_spec (ws := wsX5_makeAll) B.pre
  have hown : s.vm.findClass RX5 = some m.cls := findClass_of_methodNamed B.named
  have hlocks := B.notSynchronized
  subst hsz
  have hD := hD0.self (sz := s.heap.size)
  generalize hAe : va_A (w5 a0 aT aE aG aR aN aS aQ aW aX cD cI th iw ih fa fb fd ib mk im iq tT tE tG tR tN tS tQ tW tX) s.heap.size = A at hD ⊢
  have hA : ∀ q : Nat, s.heap.size ≤ q → A q := fun q h => by rw [← hAe]; exact Or.inr h
  have hS : va_S A s.heap s.heap [] := va_S.rf
  have hl := lv_entry ([.ref a0, .int (nI n1)]) (n := 3) (Nat.le_of_ble_eq_true rfl)
  rw [lg_entry_eq]
  generalize (lg_sl ([.ref a0, .int (nI n1)]) ++ List.replicate (3 - (lg_sl ([.ref a0, .int (nI n1)])).length) Slot.unset).toArray = ls at hl ⊢
  have hl : lv_has ls 3 [(0, .ref a0), (1, .int (nI n1))] := hl
  refine lv_aload_n hx hb dX5_makeAll_0 rfl (lv_at hl 0 rfl) ?_
  have hFc := zself hD hS hA
  refine va_callvD hd0 (va_runV_D (As := []) (rest := []) ⟨hx, hb, hml, hown, (dr_words hts s.drawn)⟩ (c5_springs l dC dI a0 aT aE aG aR aN aS aQ aW aX cD cI th iw ih fa fb fd ib mk im iq tT tE tG tR tN tS tQ tW tX hw6 hh6 T gT bx0 by0 bx1 by1 bg hb12 gE gB gG _) (cwV 0 (dr_words hts s.drawn) gX5_makeAll_X5_springs rfl rfl rfl (by decide +kernel) ⟨Nat.le_of_ble_eq_true rfl, Nat.le_of_ble_eq_true rfl⟩) ⟨zfbw, va_recv hK hP (ci := 5) (q0 := 0) rfl rfl, zprew hP hK hD⟩ rfl rfl hl.1 rfl (lv_room (Nat.le_of_ble_eq_true rfl)) dX5_makeAll_1 ⟨Nat.le_of_ble_eq_true rfl, Nat.le_of_ble_eq_true rfl⟩) hS (fun q _ h => hFc q h) hFc (fun u2 t9 H1 locs ht9 hvm9 hr1 hB9 hz9 hk1 hS dhd3 hd3 => ?_)
  obtain ⟨gR, gN⟩ := hr1
  obtain ⟨hP1, hK1, hD1⟩ := hB9
  rw [ht9] at hP1
  have hD := hD1.weaken (fun k q _ h => hFc q.1 h)
  have hP := hP1
  generalize H1 = H at hP hS ⊢
  have hP : va_P (dC, dI) vwCl (w5 a0 aT aE aG aR aN aS aQ aW aX cD cI th iw ih fa fb fd ib mk im iq tT tE tG u2.1 u2.2 tS tQ tW tX) H := hP
  have hD : va_D A (w5 a0 aT aE aG aR aN aS aQ aW aX cD cI th iw ih fa fb fd ib mk im iq tT tE tG u2.1 u2.2 tS tQ tW tX) := hD
  obtain ⟨sR, sN⟩ := u2
  dsimp only at gR gN
  have hP : va_P (dC, dI) vwCl (w5 a0 aT aE aG aR aN aS aQ aW aX cD cI th iw ih fa fb fd ib mk im iq tT tE tG sR sN tS tQ tW tX) H := hP
  have hD : va_D A (w5 a0 aT aE aG aR aN aS aQ aW aX cD cI th iw ih fa fb fd ib mk im iq tT tE tG sR sN tS tQ tW tX) := hD
  refine lv_aload_n hx hb dX5_makeAll_4 rfl (lv_at hl 0 rfl) ?_
  refine lv_iconst (v := (nI 0)) hx hb dX5_makeAll_5 (by decide) ?_
  refine va_put (D := (dC, dI)) (ci := 5) (v := .int (nI 0)) (ty := .int) (C := RX5) (T := TX5) (N := 19) hx hb (dr_words hts dhd3) (in_X5_makeAll_X5) tyX5 tyX5_ok nmX5 hown hK hP hD hS 0 rfl rfl 13 (by decide) (dr_words hts dhd3 (.fieldLink RX5 116 "PlateModesModel" "many" "I") (by decide +kernel)) (fun _ h9 => h9) rfl (by decide +kernel) rfl rfl (Nat.le_of_ble_eq_true rfl) dX5_makeAll_6 (fun H locs hP hD hS => ?_)
  have hP : va_P (dC, dI) vwCl (w5 a0 aT aE aG aR aN aS aQ aW aX cD cI th iw ih fa fb fd ib mk 0 iq tT tE tG sR sN tS tQ tW tX) H := hP
  have hD : va_D A (w5 a0 aT aE aG aR aN aS aQ aW aX cD cI th iw ih fa fb fd ib mk 0 iq tT tE tG sR sN tS tQ tW tX) := hD
  refine lv_iconst (v := (nI 1)) hx hb dX5_makeAll_9 (by decide) ?_
  refine lv_istore_n (lv' := [(2, .int (nI 1)), (0, .ref a0), (1, .int (nI n1))]) hx hb dX5_makeAll_10 rfl hl (by decide) rfl (fun ls hl => ?_)
  have L_11 : ∀ (n : Nat) (mn : Nat) (gb : Bool) (L : Nat → Nat → ZD) (fS : Nat → UInt64) (fQ : Nat → UInt64) (d0 : Drawn) (H : Heap) (locs : List Loc) (ls : Array Slot), (n1 - mn) + (if gb = true then 1 else 0) < n → (mn ≤ n1) → (zshO iw ih T (zRB iw T (zv fa) bx0 by0 bx1 bg ib) (zNB iw ih T (zv fb) bx0 by0 by1 bg ib) (zv fd) mn = some L) → (∀ j, j < mn → zgs fS j iw ih (L j) ∧ zv (fQ j) = zS z0 (zsq iw ih T (zRB iw T (zv fa) bx0 by0 bx1 bg ib) (zNB iw ih T (zv fb) bx0 by0 by1 bg ib) (L j) (iw * ih))) → (gb = false → mn < n1 ∧ zshO iw ih T (zRB iw T (zv fa) bx0 by0 bx1 bg ib) (zNB iw ih T (zv fb) bx0 by0 by1 bg ib) (zv fd) (mn + 1) = none) → s.drawn.sameBut d0 lw_cs → va_P (dC, dI) vwCl (w5 a0 aT aE aG aR aN aS aQ aW aX cD cI th iw ih fa fb fd ib mk mn iq tT tE tG sR sN fS fQ tW tX) H → va_D A (w5 a0 aT aE aG aR aN aS aQ aW aX cD cI th iw ih fa fb fd ib mk mn iq tT tE tG sR sN fS fQ tW tX) → va_S A s.heap H locs → lv_has ls 3 [(2, .int (zb gb)), (0, .ref a0), (1, .int (nI n1))] → W p l e (headSpec wsX5_makeAll ({ frames := 4, cells := 0, slots := 0, locals := 98 } : Room)).room (s.setDrawn d0) m ([.ref a0, .int (nI n1)] : List Value).toArray below meth c H locs 0 0 (MQD lw_cs below (va_Qv (fun u : (Nat → UInt64) × (Nat → UInt64) × (Nat → UInt64) × (Nat → UInt64) => zgr u.1 iw ih (zRB iw T (zv fa) bx0 by0 bx1 bg ib) ∧ zgr u.2.1 iw ih (zNB iw ih T (zv fb) bx0 by0 by1 bg ib) ∧ ∀ j, j < zcnt iw ih T (zRB iw T (zv fa) bx0 by0 bx1 bg ib) (zNB iw ih T (zv fb) bx0 by0 by1 bg ib) (zv fd) n1 → zgs u.2.2.1 j iw ih (zshp iw ih T (zRB iw T (zv fa) bx0 by0 bx1 bg ib) (zNB iw ih T (zv fb) bx0 by0 by1 bg ib) (zv fd) j) ∧ zv (u.2.2.2 j) = zS z0 (zsq iw ih T (zRB iw T (zv fa) bx0 by0 bx1 bg ib) (zNB iw ih T (zv fb) bx0 by0 by1 bg ib) (zshp iw ih T (zRB iw T (zv fa) bx0 by0 bx1 bg ib) (zNB iw ih T (zv fb) bx0 by0 by1 bg ib) (zv fd) j) (iw * ih))) (fun u t => (va_P (dC, dI) vwCl (w5 a0 aT aE aG aR aN aS aQ aW aX cD cI th iw ih fa fb fd ib true ((zcnt iw ih T (zRB iw T (zv fa) bx0 by0 bx1 bg ib) (zNB iw ih T (zv fb) bx0 by0 by1 bg ib) (zv fd) n1)) iq tT tE tG u.1 u.2.1 u.2.2.1 u.2.2.2 tW tX) t.heap ∧ va_K (dC, dI) vwCl [(cD, .double), (cI, .int)] t ∧ va_D A (w5 a0 aT aE aG aR aN aS aQ aW aX cD cI th iw ih fa fb fd ib true ((zcnt iw ih T (zRB iw T (zv fa) bx0 by0 bx1 bg ib) (zNB iw ih T (zv fb) bx0 by0 by1 bg ib) (zv fd) n1)) iq tT tE tG u.1 u.2.1 u.2.2.1 u.2.2.2 tW tX))) A) ([.ref a0, .int (nI n1)] : List Value).toArray s 0 0 A) (F0 m 11 ls []) := by
    intro n
    induction n with
    | zero => intro mn gb L fS fQ d0 H locs ls hn; exact absurd hn (Nat.not_lt_zero _)
    | succ n ih_L_11 =>
      intro mn gb L fS fQ d0 H locs ls hn hmn ho hsh hgb hd0 hP hD hS hl
      refine lv_iload_n hx hb dX5_makeAll_11 rfl (lv_at hl 0 rfl) ?_
      refine z_if_eq_b (tgt := 56) hx hb dX5_makeAll_12 (by decide) (fun c4 => ?_) (fun c5 => ?_)
      · skip
        have cb := c4
        have hcnt : zcnt iw ih T (zRB iw T (zv fa) bx0 by0 bx1 bg ib) (zNB iw ih T (zv fb) bx0 by0 by1 bg ib) (zv fd) n1 = mn := by
          have h1 := zcnt_none ho (hgb cb).2 (n1 - mn)
          rw [show mn + (n1 - mn) = n1 by omega] at h1
          exact h1
        refine lv_aload_n hx hb dX5_makeAll_56 rfl (lv_at hl 1 rfl) ?_
        refine lv_iconst (v := (nI 1)) hx hb dX5_makeAll_57 (by decide) ?_
        refine va_put (D := (dC, dI)) (ci := 5) (v := .int (zb true)) (ty := .boolean) (C := RX5) (T := TX5) (N := 19) hx hb (dr_words hts d0) (in_X5_makeAll_X5) tyX5 tyX5_ok nmX5 hown hK hP hD hS 0 rfl rfl 12 (by decide) (dr_words hts d0 (.fieldLink RX5 72 "PlateModesModel" "made" "Z") (by decide +kernel)) (fun _ h9 => h9) rfl (by decide +kernel) rfl rfl (Nat.le_of_ble_eq_true rfl) dX5_makeAll_58 (fun H locs hP hD hS => ?_)
        have hP : va_P (dC, dI) vwCl (w5 a0 aT aE aG aR aN aS aQ aW aX cD cI th iw ih fa fb fd ib true mn iq tT tE tG sR sN fS fQ tW tX) H := hP
        have hD : va_D A (w5 a0 aT aE aG aR aN aS aQ aW aX cD cI th iw ih fa fb fd ib true mn iq tT tE tG sR sN fS fQ tW tX) := hD
        refine W.endD hd0 ?_
        exact W.vret hx hb hr (fun t ht hW => ⟨⟨(sR, sN, fS, fQ), rfl, ⟨gR, gN, fun j hj => by rw [hcnt] at hj; rw [← zshO_at ho j hj]; exact hsh j hj⟩, by rw [ht, hcnt]; exact hP, va_K.moved hW.alike hK, by rw [hcnt]; exact hD⟩, hS.F ht⟩) hS.2.2 dX5_makeAll_61
      · skip
        have cg := c5
        refine lv_aload_n hx hb dX5_makeAll_15 rfl (lv_at hl 1 rfl) ?_
        refine va_get (D := (dC, dI)) (ci := 5) (v := .int (nI mn)) (C := RX5) (T := TX5) (N := 19) hx hb (dr_words hts d0) (in_X5_makeAll_X5) hown hK hP 0 rfl rfl 13 (by decide) (dr_words hts d0 (.fieldLink RX5 116 "PlateModesModel" "many" "I") (by decide +kernel)) (fun _ h9 => h9) rfl dX5_makeAll_16 ?_
        refine lv_iload_n hx hb dX5_makeAll_19 rfl (lv_at hl 2 rfl) ?_
        refine z_icmp_ge (a := mn) (b := n1) (tgt := 56) hx hb (by omega) (by omega) dX5_makeAll_20 (by decide) (fun c6 => ?_) (fun c7 => ?_)
        · skip
          have hcnt : zcnt iw ih T (zRB iw T (zv fa) bx0 by0 bx1 bg ib) (zNB iw ih T (zv fb) bx0 by0 by1 bg ib) (zv fd) n1 = mn := by
            rw [show mn = n1 by omega] at ho ⊢
            exact zcnt_some ho
          refine lv_aload_n hx hb dX5_makeAll_56 rfl (lv_at hl 1 rfl) ?_
          refine lv_iconst (v := (nI 1)) hx hb dX5_makeAll_57 (by decide) ?_
          refine va_put (D := (dC, dI)) (ci := 5) (v := .int (zb true)) (ty := .boolean) (C := RX5) (T := TX5) (N := 19) hx hb (dr_words hts d0) (in_X5_makeAll_X5) tyX5 tyX5_ok nmX5 hown hK hP hD hS 0 rfl rfl 12 (by decide) (dr_words hts d0 (.fieldLink RX5 72 "PlateModesModel" "made" "Z") (by decide +kernel)) (fun _ h9 => h9) rfl (by decide +kernel) rfl rfl (Nat.le_of_ble_eq_true rfl) dX5_makeAll_58 (fun H locs hP hD hS => ?_)
          have hP : va_P (dC, dI) vwCl (w5 a0 aT aE aG aR aN aS aQ aW aX cD cI th iw ih fa fb fd ib true mn iq tT tE tG sR sN fS fQ tW tX) H := hP
          have hD : va_D A (w5 a0 aT aE aG aR aN aS aQ aW aX cD cI th iw ih fa fb fd ib true mn iq tT tE tG sR sN fS fQ tW tX) := hD
          refine W.endD hd0 ?_
          exact W.vret hx hb hr (fun t ht hW => ⟨⟨(sR, sN, fS, fQ), rfl, ⟨gR, gN, fun j hj => by rw [hcnt] at hj; rw [← zshO_at ho j hj]; exact hsh j hj⟩, by rw [ht, hcnt]; exact hP, va_K.moved hW.alike hK, by rw [hcnt]; exact hD⟩, hS.F ht⟩) hS.2.2 dX5_makeAll_61
        · skip
          refine lv_aload_n hx hb dX5_makeAll_23 rfl (lv_at hl 1 rfl) ?_
          refine lv_aload_n hx hb dX5_makeAll_24 rfl (lv_at hl 1 rfl) ?_
          refine va_get (D := (dC, dI)) (ci := 5) (v := .int (nI mn)) (C := RX5) (T := TX5) (N := 19) hx hb (dr_words hts d0) (in_X5_makeAll_X5) hown hK hP 0 rfl rfl 13 (by decide) (dr_words hts d0 (.fieldLink RX5 116 "PlateModesModel" "many" "I") (by decide +kernel)) (fun _ h9 => h9) rfl dX5_makeAll_25 ?_
          have hFc := zself hD hS hA
          refine va_calliD hd0 (va_runV_D (As := [.int (nI mn)]) (rest := []) ⟨hx, hb, hml, hown, (dr_words hts d0)⟩ (c5_make l dC dI a0 aT aE aG aR aN aS aQ aW aX cD cI th iw ih fa fb fd ib mk mn iq tT tE tG sR sN fS fQ tW tX mn (by omega) hw6 hh6 T (zRB iw T (zv fa) bx0 by0 bx1 bg ib) (zNB iw ih T (zv fb) bx0 by0 by1 bg ib) gT gR gN L (fun j hj => (hsh j hj).1) _) (cwV 1 (dr_words hts d0) gX5_makeAll_X5_make rfl rfl rfl (by decide +kernel) ⟨Nat.le_of_ble_eq_true rfl, Nat.le_of_ble_eq_true rfl⟩) ⟨zfbw, va_recv hK hP (ci := 5) (q0 := 0) rfl rfl, zprew hP hK hD⟩ rfl rfl hl.1 rfl (lv_room (Nat.le_of_ble_eq_true rfl)) dX5_makeAll_28 ⟨Nat.le_of_ble_eq_true rfl, Nat.le_of_ble_eq_true rfl⟩) hS (fun q _ h => hFc q h) hFc (fun r8 u9 t9 H1 locs ht9 hvm9 hr8 hB9 hz9 hk1 hS dhd10 hd10 => ?_)
          obtain ⟨o, ho2, hb8, hs8, hf8, hq8⟩ := hr8
          subst hb8
          obtain ⟨hP1, hK1, hD1⟩ := hB9
          rw [ht9] at hP1
          have hD := hD1.weaken (fun k q _ h => hFc q.1 h)
          have hP := hP1
          generalize H1 = H at hP hS ⊢
          have hP : va_P (dC, dI) vwCl (w5 a0 aT aE aG aR aN aS aQ aW aX cD cI th iw ih fa fb fd ib mk mn iq tT tE tG sR sN u9.1 u9.2 tW tX) H := hP
          have hD : va_D A (w5 a0 aT aE aG aR aN aS aQ aW aX cD cI th iw ih fa fb fd ib mk mn iq tT tE tG sR sN u9.1 u9.2 tW tX) := hD
          obtain ⟨gS, gQ⟩ := u9
          dsimp only at hs8 hf8 hq8
          have hP : va_P (dC, dI) vwCl (w5 a0 aT aE aG aR aN aS aQ aW aX cD cI th iw ih fa fb fd ib mk mn iq tT tE tG sR sN gS gQ tW tX) H := hP
          have hD : va_D A (w5 a0 aT aE aG aR aN aS aQ aW aX cD cI th iw ih fa fb fd ib mk mn iq tT tE tG sR sN gS gQ tW tX) := hD
          refine lv_istore_n (lv' := [(2, .int (zb o.isSome)), (0, .ref a0), (1, .int (nI n1))]) hx hb dX5_makeAll_31 rfl hl (by decide) rfl (fun ls hl => ?_)
          refine lv_aload_n hx hb dX5_makeAll_32 rfl (lv_at hl 1 rfl) ?_
          refine lv_iload_n hx hb dX5_makeAll_33 rfl (lv_at hl 0 rfl) ?_
          refine z_if_eq_b (tgt := 46) hx hb dX5_makeAll_34 (by decide) (fun c11 => ?_) (fun c12 => ?_)
          · skip
            have cb := c11
            refine lv_aload_n hx hb dX5_makeAll_46 rfl (lv_at hl 1 rfl) ?_
            refine va_get (D := (dC, dI)) (ci := 5) (v := .int (nI mn)) (C := RX5) (T := TX5) (N := 19) hx hb (dr_words hts dhd10) (in_X5_makeAll_X5) hown hK hP 0 rfl rfl 13 (by decide) (dr_words hts dhd10 (.fieldLink RX5 116 "PlateModesModel" "many" "I") (by decide +kernel)) (fun _ h9 => h9) rfl dX5_makeAll_47 ?_
            refine va_put (D := (dC, dI)) (ci := 5) (v := .int (nI mn)) (ty := .int) (C := RX5) (T := TX5) (N := 19) hx hb (dr_words hts dhd10) (in_X5_makeAll_X5) tyX5 tyX5_ok nmX5 hown hK hP hD hS 0 rfl rfl 13 (by decide) (dr_words hts dhd10 (.fieldLink RX5 116 "PlateModesModel" "many" "I") (by decide +kernel)) (fun _ h9 => h9) rfl (by decide +kernel) rfl rfl (Nat.le_of_ble_eq_true rfl) dX5_makeAll_50 (fun H locs hP hD hS => ?_)
            have hP : va_P (dC, dI) vwCl (w5 a0 aT aE aG aR aN aS aQ aW aX cD cI th iw ih fa fb fd ib mk mn iq tT tE tG sR sN gS gQ tW tX) H := hP
            have hD : va_D A (w5 a0 aT aE aG aR aN aS aQ aW aX cD cI th iw ih fa fb fd ib mk mn iq tT tE tG sR sN gS gQ tW tX) := hD
            refine lv_goto (tgt := 11) hx hb dX5_makeAll_53 (by decide) ?_
            exact ih_L_11 mn o.isSome L gS gQ _ _ _ _ (by rw [if_pos cg] at hn; rw [if_neg (by rw [cb]; decide)]; omega) (by omega) ho (zsh_keep hw6 hh6 hsh hf8 hq8) (fun _ => ⟨by omega, zshO_n ho (ho2.trans (Option.not_isSome_iff_eq_none.mp (by rw [cb]; decide)))⟩) hd10 hP hD hS hl
          · skip
            have cb := c12
            obtain ⟨F, hF⟩ := Option.isSome_iff_exists.mp cb
            refine lv_aload_n hx hb dX5_makeAll_37 rfl (lv_at hl 1 rfl) ?_
            refine va_get (D := (dC, dI)) (ci := 5) (v := .int (nI mn)) (C := RX5) (T := TX5) (N := 19) hx hb (dr_words hts dhd10) (in_X5_makeAll_X5) hown hK hP 0 rfl rfl 13 (by decide) (dr_words hts dhd10 (.fieldLink RX5 116 "PlateModesModel" "many" "I") (by decide +kernel)) (fun _ h9 => h9) rfl dX5_makeAll_38 ?_
            refine lv_iconst (v := (nI 1)) hx hb dX5_makeAll_41 (by decide) ?_
            refine t_iadd hx hb dX5_makeAll_42 (v := nI (mn + 1)) (zi_add (by omega)) ?_
            refine lv_goto (tgt := 50) hx hb dX5_makeAll_43 (by decide) ?_
            refine va_put (D := (dC, dI)) (ci := 5) (v := .int (nI (mn + 1))) (ty := .int) (C := RX5) (T := TX5) (N := 19) hx hb (dr_words hts dhd10) (in_X5_makeAll_X5) tyX5 tyX5_ok nmX5 hown hK hP hD hS 0 rfl rfl 13 (by decide) (dr_words hts dhd10 (.fieldLink RX5 116 "PlateModesModel" "many" "I") (by decide +kernel)) (fun _ h9 => h9) rfl (by decide +kernel) rfl rfl (Nat.le_of_ble_eq_true rfl) dX5_makeAll_50 (fun H locs hP hD hS => ?_)
            have hP : va_P (dC, dI) vwCl (w5 a0 aT aE aG aR aN aS aQ aW aX cD cI th iw ih fa fb fd ib mk (mn + 1) iq tT tE tG sR sN gS gQ tW tX) H := hP
            have hD : va_D A (w5 a0 aT aE aG aR aN aS aQ aW aX cD cI th iw ih fa fb fd ib mk (mn + 1) iq tT tE tG sR sN gS gQ tW tX) := hD
            refine lv_goto (tgt := 11) hx hb dX5_makeAll_53 (by decide) ?_
            exact ih_L_11 (mn + 1) o.isSome (zu L mn F) gS gQ _ _ _ _ (by rw [if_pos cg] at hn; rw [if_pos cb]; omega) (by omega) (zshO_s ho (ho2.trans hF)) (zsh_step hw6 hh6 hsh hf8 hq8 (hs8 F hF)) (fun h => absurd (h.symm.trans cb) (by decide)) hd10 hP hD hS hl
  exact L_11 _ 0 true (fun _ _ => z0) tS tQ _ _ _ _ (Nat.lt_succ_self _) (by omega) rfl (fun j hj => absurd hj (Nat.not_lt_zero j)) (fun h => absurd h (by decide)) hd3 hP hD hS hl
