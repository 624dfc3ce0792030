/-! 06: the reference: springs, sweeps, modes -/
theorem zgs_c {f : Nat → UInt64} {k w h : Nat} {F G : Nat → ZD} (e : F = G) (g : zgs f k w h F) : zgs f k w h G := e ▸ g
theorem zgr_c {f : Nat → UInt64} {w h : Nat} {F G : Nat → ZD} (e : F = G) (g : zgr f w h F) : zgr f w h G := e ▸ g
theorem zbg_put {tT : Nat → UInt64} {w h x y k : Nat} {T : Nat → ZD} {bi : Bool} {v : UInt64} (hw : w ≤ 6) (gT : zgr tT w h T) (hx : x < 6) (hbi : bi = decide (x < w ∧ y < h ∧ zgt (zv (tT (6 * y + x))) z0 = true)) (ht : bi = true → zv v = zbeg x y k) (hf : bi = false → zv v = z0) : ∀ x' y', x' < w → y' < h → 6 * y' + x' = 6 * y + x → zv v = zbegin w T k (y' * w + x') := by
  intro x' y' hx' hy' e
  obtain ⟨rfl, rfl⟩ := zgrid (by omega) hx e
  have h1 := gT x' y' hx' hy'
  rw [h1] at hbi
  cases hg : zgt (T (y' * w + x')) z0 with
  | true =>
    rw [zbegin_t hx' hg]
    exact ht (hbi.trans (decide_eq_true ⟨hx', hy', hg⟩))
  | false =>
    rw [zbegin_f hg]
    exact hf (hbi.trans (decide_eq_false (fun q => by rw [hg] at q; exact absurd q.2.2 (by decide))))
theorem zsh_step {fS gS fQ gQ : Nat → UInt64} {w h m : Nat} {T R N F : Nat → ZD} {L : Nat → Nat → ZD} (hw : w ≤ 6) (hh : h ≤ 6) (hs : ∀ j, j < m → zgs fS j w h (L j) ∧ zv (fQ j) = zS z0 (zsq w h T R N (L j) (w * h))) (hf : ∀ i, i < 36 * m → gS i = fS i) (hq : ∀ i, i ≠ m → gQ i = fQ i) (hF : zgs gS m w h F ∧ zv (gQ m) = zS z0 (zsq w h T R N F (w * h))) :
    ∀ j, j < m + 1 → zgs gS j w h (zu L m F j) ∧ zv (gQ j) = zS z0 (zsq w h T R N (zu L m F j) (w * h)) := by
  intro j hj
  by_cases e : j = m
  · subst e
    rw [zu_s]
    exact hF
  · rw [zu_n e, hq j e]
    exact ⟨zgs_low hw hh hf (by omega) (hs j (by omega)).1, (hs j (by omega)).2⟩
theorem zsh_keep {fS gS fQ gQ : Nat → UInt64} {w h m : Nat} {T R N : Nat → ZD} {L : Nat → Nat → ZD} (hw : w ≤ 6) (hh : h ≤ 6) (hs : ∀ j, j < m → zgs fS j w h (L j) ∧ zv (fQ j) = zS z0 (zsq w h T R N (L j) (w * h))) (hf : ∀ i, i < 36 * m → gS i = fS i) (hq : ∀ i, i ≠ m → gQ i = fQ i) :
    ∀ j, j < m → zgs gS j w h (L j) ∧ zv (gQ j) = zS z0 (zsq w h T R N (L j) (w * h)) := fun j hj => ⟨zgs_low hw hh hf hj (hs j hj).1, by rw [hq j (by omega)]; exact (hs j hj).2⟩
theorem in_X5_springs_X5 : ∀ w ∈ wsX50, w ∈ wsX5_springs := fun w h => List.mem_cons_of_mem _ (List.mem_append_right _ h)
set_option maxHeartbeats 4000000 in
set_option maxRecDepth 100000 in
/-- the springs -/
theorem c5_springs (l : Launch) (dC : Nat → ClassId) (dI : Nat → Nat → Nat) (a0 aT aE aG aR aN aS aQ aW aX : Nat) (cD cI : ClassId) (th : Int32) (iw ih : Nat) (fa fb fd : UInt64) (ib : Nat) (mk : Bool) (im iq : Nat) (tT : Nat → UInt64) (tE : Nat → Int32) (tG tR tN tS tQ : Nat → UInt64) (tW : Nat → Int32) (tX : Nat → UInt64) (hw6 : iw ≤ 6) (hh6 : ih ≤ 6) (T : Nat → ZD) (gT : zgr tT iw ih T) (bx0 by0 bx1 by1 : Nat → Nat) (bg : Nat → ZD) (hb12 : ib ≤ 12) (gE : ∀ k, k < ib → tE (4 * k) = nI (bx0 k) ∧ tE (4 * k + 1) = nI (by0 k) ∧ tE (4 * k + 2) = nI (bx1 k) ∧ tE (4 * k + 3) = nI (by1 k)) (gB : ∀ k, k < ib → bx0 k ≤ bx1 k ∧ bx1 k < iw ∧ by0 k ≤ by1 k ∧ by1 k < ih) (gG : ∀ k, k < ib → zv (tG k) = bg k) (sz : Nat) : MetD lw_cs l yX5_springs wsX5_springs ({ frames := 1, cells := 0, slots := 0, locals := 27 } : Room) (va_Pc [.ref a0] (fun U => U.heap.size = sz ∧ va_P (dC, dI) vwCl (w5 a0 aT aE aG aR aN aS aQ aW aX cD cI th iw ih fa fb fd ib mk im iq tT tE tG tR tN tS tQ tW tX) U.heap ∧ va_K (dC, dI) vwCl [(cD, .double), (cI, .int)] U ∧ va_D (fun _ => True) (w5 a0 aT aE aG aR aN aS aQ aW aX cD cI th iw ih fa fb fd ib mk im iq tT tE tG tR tN tS tQ tW tX))) (va_Qv (fun u : (Nat → UInt64) × (Nat → UInt64) => zgr u.1 iw ih (zRB iw T (zv fa) bx0 by0 bx1 bg ib) ∧ zgr u.2 iw ih (zNB iw ih T (zv fb) bx0 by0 by1 bg ib)) (fun u t => (va_P (dC, dI) vwCl (w5 a0 aT aE aG aR aN aS aQ aW aX cD cI th iw ih fa fb fd ib mk im iq tT tE tG u.1 u.2 tS tQ tW tX) t.heap ∧ va_K (dC, dI) vwCl [(cD, .double), (cI, .int)] t ∧ va_D (va_A (w5 a0 aT aE aG aR aN aS aQ aW aX cD cI th iw ih fa fb fd ib mk im iq tT tE tG tR tN tS tQ tW tX) sz) (w5 a0 aT aE aG aR aN aS aQ aW aX cD cI th iw ih fa fb fd ib mk im iq tT tE tG u.1 u.2 tS tQ tW tX))) (va_A (w5 a0 aT aE aG aR aN aS aQ aW aX cD cI th iw ih fa fb fd ib mk im iq tT tE tG tR tN tS tQ tW tX) sz)) 0 0 (va_A (w5 a0 aT aE aG aR aN aS aQ aW aX cD cI th iw ih fa fb fd ib mk im iq tT tE tG tR tN tS tQ tW tX) sz) := by
  refine MetD.ofW (cc := cX5_springs) (maxL := 4) (ret := none) (by decide) rfl ?_
  intro p e s m args below meth c s₁ B hml hv hd0
  obtain ⟨rfl, hsz, hP, hK, hD0⟩ := hv
  have hx := B.exec
  have hb := B.bytes
  have hr := B.returns
  have hts := atoms_spec (ws := wsX5_springs) B.pre
  have hown : s.vm.findClass RX5 = some m.cls := findClass_of_methodNamed B.named
  have hlocks := B.notSynchronized
  subst hsz
  have hD := hD0.self (sz := s.heap.size)
  generalize hAe : va_A (w5 a0 aT aE aG aR aN aS aQ aW aX cD cI th iw ih fa fb fd ib mk im iq tT tE tG tR tN tS tQ tW tX) s.heap.size = A at hD ⊢
  have hA : ∀ q : Nat, s.heap.size ≤ q → A q := fun q h => by rw [← hAe]; exact Or.inr h
  have hS : va_S A s.heap s.heap [] := va_S.rf
  have hl := lv_entry ([.ref a0]) (n := 4) (Nat.le_of_ble_eq_true rfl)
  rw [lg_entry_eq]
  generalize (lg_sl ([.ref a0]) ++ List.replicate (4 - (lg_sl ([.ref a0])).length) Slot.unset).toArray = ls at hl ⊢
  have hl : lv_has ls 4 [(0, .ref a0)] := hl
  refine lv_iconst (v := (nI 0)) hx hb dX5_springs_0 (by decide) ?_
  refine lv_istore_n (lv' := [(1, .int (nI 0)), (0, .ref a0)]) hx hb dX5_springs_1 rfl hl (by decide) rfl (fun ls hl => ?_)
  have L_2 : ∀ (n : Nat) (y : Nat) (fR : Nat → UInt64) (fN : Nat → UInt64) (d0 : Drawn) (H : Heap) (locs : List Loc) (ls : Array Slot), ih - y < n → (y ≤ ih) → (zgrp fR iw ih (zR0 iw T (zv fa)) (y * iw)) → (zgrp fN iw ih (zN0 iw ih T (zv fb)) (y * iw)) → s.drawn.sameBut d0 lw_cs → va_P (dC, dI) vwCl (w5 a0 aT aE aG aR aN aS aQ aW aX cD cI th iw ih fa fb fd ib mk im iq tT tE tG fR fN tS tQ tW tX) H → va_D A (w5 a0 aT aE aG aR aN aS aQ aW aX cD cI th iw ih fa fb fd ib mk im iq tT tE tG fR fN tS tQ tW tX) → va_S A s.heap H locs → lv_has ls 4 [(1, .int (nI y)), (0, .ref a0)] → W p l e (headSpec wsX5_springs ({ frames := 1, cells := 0, slots := 0, locals := 27 } : Room)).room (s.setDrawn d0) m ([.ref a0] : List Value).toArray below meth c H locs 0 0 (MQD lw_cs below (va_Qv (fun u : (Nat → UInt64) × (Nat → UInt64) => zgr u.1 iw ih (zRB iw T (zv fa) bx0 by0 bx1 bg ib) ∧ zgr u.2 iw ih (zNB iw ih T (zv fb) bx0 by0 by1 bg ib)) (fun u t => (va_P (dC, dI) vwCl (w5 a0 aT aE aG aR aN aS aQ aW aX cD cI th iw ih fa fb fd ib mk im iq tT tE tG u.1 u.2 tS tQ tW tX) t.heap ∧ va_K (dC, dI) vwCl [(cD, .double), (cI, .int)] t ∧ va_D A (w5 a0 aT aE aG aR aN aS aQ aW aX cD cI th iw ih fa fb fd ib mk im iq tT tE tG u.1 u.2 tS tQ tW tX))) A) ([.ref a0] : List Value).toArray s 0 0 A) (F0 m 2 ls []) := by
    intro n
    induction n with
    | zero => intro y fR fN d0 H locs ls hn; exact absurd hn (Nat.not_lt_zero _)
    | succ n ih_L_2 =>
      intro y fR fN d0 H locs ls hn hyh hR hN hd0 hP hD hS hl
      refine lv_iload_n hx hb dX5_springs_2 rfl (lv_at hl 0 rfl) ?_
      refine lv_aload_n hx hb dX5_springs_3 rfl (lv_at hl 1 rfl) ?_
      refine va_get (D := (dC, dI)) (ci := 5) (v := .int (nI ih)) (C := RX5) (T := TX5) (N := 19) hx hb (dr_words hts d0) (in_X5_springs_X5) hown hK hP 0 rfl rfl 2 (by decide) (dr_words hts d0 (.fieldLink RX5 52 "PlateModesModel" "height" "I") (by decide +kernel)) (fun _ h9 => h9) rfl dX5_springs_4 ?_
      refine z_icmp_ge (a := y) (b := ih) (tgt := 159) hx hb (by omega) (by omega) dX5_springs_7 (by decide) (fun c1 => ?_) (fun c2 => ?_)
      · skip
        refine lv_iconst (v := (nI 0)) hx hb dX5_springs_159 (by decide) ?_
        refine lv_istore_n (lv' := [(1, .int (nI 0)), (0, .ref a0)]) hx hb dX5_springs_160 rfl hl (by decide) rfl (fun ls hl => ?_)
        have L_161 : ∀ (n : Nat) (k : Nat) (qR : Nat → UInt64) (qN : Nat → UInt64) (d0 : Drawn) (H : Heap) (locs : List Loc) (ls : Array Slot), ib - k < n → (k ≤ ib) → (zgr qR iw ih (zRB iw T (zv fa) bx0 by0 bx1 bg k)) → (zgr qN iw ih (zNB iw ih T (zv fb) bx0 by0 by1 bg k)) → s.drawn.sameBut d0 lw_cs → va_P (dC, dI) vwCl (w5 a0 aT aE aG aR aN aS aQ aW aX cD cI th iw ih fa fb fd ib mk im iq tT tE tG qR qN tS tQ tW tX) H → va_D A (w5 a0 aT aE aG aR aN aS aQ aW aX cD cI th iw ih fa fb fd ib mk im iq tT tE tG qR qN tS tQ tW tX) → va_S A s.heap H locs → lv_has ls 4 [(1, .int (nI k)), (0, .ref a0)] → W p l e (headSpec wsX5_springs ({ frames := 1, cells := 0, slots := 0, locals := 27 } : Room)).room (s.setDrawn d0) m ([.ref a0] : List Value).toArray below meth c H locs 0 0 (MQD lw_cs below (va_Qv (fun u : (Nat → UInt64) × (Nat → UInt64) => zgr u.1 iw ih (zRB iw T (zv fa) bx0 by0 bx1 bg ib) ∧ zgr u.2 iw ih (zNB iw ih T (zv fb) bx0 by0 by1 bg ib)) (fun u t => (va_P (dC, dI) vwCl (w5 a0 aT aE aG aR aN aS aQ aW aX cD cI th iw ih fa fb fd ib mk im iq tT tE tG u.1 u.2 tS tQ tW tX) t.heap ∧ va_K (dC, dI) vwCl [(cD, .double), (cI, .int)] t ∧ va_D A (w5 a0 aT aE aG aR aN aS aQ aW aX cD cI th iw ih fa fb fd ib mk im iq tT tE tG u.1 u.2 tS tQ tW tX))) A) ([.ref a0] : List Value).toArray s 0 0 A) (F0 m 161 ls []) := by
          intro n
          induction n with
          | zero => intro k qR qN d0 H locs ls hn; exact absurd hn (Nat.not_lt_zero _)
          | succ n ih_L_161 =>
            intro k qR qN d0 H locs ls hn hk hR2 hN2 hd0 hP hD hS hl
            refine lv_iload_n hx hb dX5_springs_161 rfl (lv_at hl 0 rfl) ?_
            refine lv_aload_n hx hb dX5_springs_162 rfl (lv_at hl 1 rfl) ?_
            refine va_get (D := (dC, dI)) (ci := 5) (v := .int (nI ib)) (C := RX5) (T := TX5) (N := 19) hx hb (dr_words hts d0) (in_X5_springs_X5) hown hK hP 0 rfl rfl 7 (by decide) (dr_words hts d0 (.fieldLink RX5 76 "PlateModesModel" "braces" "I") (by decide +kernel)) (fun _ h9 => h9) rfl dX5_springs_163 ?_
            refine z_icmp_ge (a := k) (b := ib) (tgt := 358) hx hb (by omega) (by omega) dX5_springs_166 (by decide) (fun c3 => ?_) (fun c4 => ?_)
            · skip
              refine W.endD hd0 ?_
              exact W.vret hx hb hr (fun t ht hW => ⟨⟨(qR, qN), rfl, ⟨by have e : k = ib := (by omega); subst e; exact hR2, by have e : k = ib := (by omega); subst e; exact hN2⟩, by rw [ht]; exact hP, va_K.moved hW.alike hK, hD⟩, hS.F ht⟩) hS.2.2 dX5_springs_358
            · skip
              obtain ⟨gb1, gb2, gb3, gb4⟩ := gB k (by omega)
              refine lv_aload_n hx hb dX5_springs_169 rfl (lv_at hl 1 rfl) ?_
              refine va_get (D := (dC, dI)) (ci := 5) (v := .ref aE) (C := RX5) (T := TX5) (N := 19) hx hb (dr_words hts d0) (in_X5_springs_X5) hown hK hP 0 rfl rfl 8 (by decide) (dr_words hts d0 (.fieldLink RX5 23 "PlateModesModel" "ends" "[I") (by decide +kernel)) (fun _ h9 => h9) rfl dX5_springs_170 ?_
              refine lv_iconst (v := (nI 4)) hx hb dX5_springs_173 (by decide) ?_
              refine lv_iload_n hx hb dX5_springs_174 rfl (lv_at hl 0 rfl) ?_
              refine t_imul hx hb dX5_springs_175 (v := nI (4 * k)) (zi_mul rfl) ?_
              refine z_iald (s := s.setDrawn d0) (n := 48) (i := 4 * k) hx hb hK hP 2 1 rfl rfl (by omega) (by decide) dX5_springs_176 ?_
              rw [(gE k (by omega)).1]
              refine lv_istore_n (lv' := [(2, .int (nI ((bx0 k)))), (1, .int (nI k)), (0, .ref a0)]) hx hb dX5_springs_177 rfl hl (by decide) rfl (fun ls hl => ?_)
              have L_178 : ∀ (n : Nat) (t : Nat) (pR : Nat → UInt64) (d0 : Drawn) (H : Heap) (locs : List Loc) (ls : Array Slot), bx1 k - (bx0 k + t) < n → (bx0 k + t ≤ bx1 k) → (zgr pR iw ih (zfold (zbRF iw T (bx0 k) (by0 k) (bg k)) t (zRB iw T (zv fa) bx0 by0 bx1 bg k))) → s.drawn.sameBut d0 lw_cs → va_P (dC, dI) vwCl (w5 a0 aT aE aG aR aN aS aQ aW aX cD cI th iw ih fa fb fd ib mk im iq tT tE tG pR qN tS tQ tW tX) H → va_D A (w5 a0 aT aE aG aR aN aS aQ aW aX cD cI th iw ih fa fb fd ib mk im iq tT tE tG pR qN tS tQ tW tX) → va_S A s.heap H locs → lv_has ls 4 [(2, .int (nI ((bx0 k) + t))), (1, .int (nI k)), (0, .ref a0)] → W p l e (headSpec wsX5_springs ({ frames := 1, cells := 0, slots := 0, locals := 27 } : Room)).room (s.setDrawn d0) m ([.ref a0] : List Value).toArray below meth c H locs 0 0 (MQD lw_cs below (va_Qv (fun u : (Nat → UInt64) × (Nat → UInt64) => zgr u.1 iw ih (zRB iw T (zv fa) bx0 by0 bx1 bg ib) ∧ zgr u.2 iw ih (zNB iw ih T (zv fb) bx0 by0 by1 bg ib)) (fun u t => (va_P (dC, dI) vwCl (w5 a0 aT aE aG aR aN aS aQ aW aX cD cI th iw ih fa fb fd ib mk im iq tT tE tG u.1 u.2 tS tQ tW tX) t.heap ∧ va_K (dC, dI) vwCl [(cD, .double), (cI, .int)] t ∧ va_D A (w5 a0 aT aE aG aR aN aS aQ aW aX cD cI th iw ih fa fb fd ib mk im iq tT tE tG u.1 u.2 tS tQ tW tX))) A) ([.ref a0] : List Value).toArray s 0 0 A) (F0 m 178 ls []) := by
                intro n
                induction n with
                | zero => intro t pR d0 H locs ls hn; exact absurd hn (Nat.not_lt_zero _)
                | succ n ih_L_178 =>
                  intro t pR d0 H locs ls hn htb hR3 hd0 hP hD hS hl
                  refine lv_iload_n hx hb dX5_springs_178 rfl (lv_at hl 0 rfl) ?_
                  refine lv_aload_n hx hb dX5_springs_179 rfl (lv_at hl 2 rfl) ?_
                  refine va_get (D := (dC, dI)) (ci := 5) (v := .ref aE) (C := RX5) (T := TX5) (N := 19) hx hb (dr_words hts d0) (in_X5_springs_X5) hown hK hP 0 rfl rfl 8 (by decide) (dr_words hts d0 (.fieldLink RX5 23 "PlateModesModel" "ends" "[I") (by decide +kernel)) (fun _ h9 => h9) rfl dX5_springs_180 ?_
                  refine lv_iconst (v := (nI 4)) hx hb dX5_springs_183 (by decide) ?_
                  refine lv_iload_n hx hb dX5_springs_184 rfl (lv_at hl 1 rfl) ?_
                  refine t_imul hx hb dX5_springs_185 (v := nI (4 * k)) (zi_mul rfl) ?_
                  refine lv_iconst (v := (nI 2)) hx hb dX5_springs_186 (by decide) ?_
                  refine t_iadd hx hb dX5_springs_187 (v := nI (4 * k + 2)) (zi_add (by omega)) ?_
                  refine z_iald (s := s.setDrawn d0) (n := 48) (i := 4 * k + 2) hx hb hK hP 2 1 rfl rfl (by omega) (by decide) dX5_springs_188 ?_
                  rw [(gE k (by omega)).2.2.1]
                  refine z_icmp_ge (a := (bx0 k) + t) (b := (bx1 k)) (tgt := 260) hx hb (by omega) (by omega) dX5_springs_189 (by decide) (fun c5 => ?_) (fun c6 => ?_)
                  · skip
                    have hR4 : zgr pR iw ih (zRB iw T (zv fa) bx0 by0 bx1 bg (k + 1)) := by rw [show t = bx1 k - bx0 k by omega] at hR3; exact hR3
                    refine lv_aload_n hx hb dX5_springs_260 rfl (lv_at hl 2 rfl) ?_
                    refine va_get (D := (dC, dI)) (ci := 5) (v := .ref aE) (C := RX5) (T := TX5) (N := 19) hx hb (dr_words hts d0) (in_X5_springs_X5) hown hK hP 0 rfl rfl 8 (by decide) (dr_words hts d0 (.fieldLink RX5 23 "PlateModesModel" "ends" "[I") (by decide +kernel)) (fun _ h9 => h9) rfl dX5_springs_261 ?_
                    refine lv_iconst (v := (nI 4)) hx hb dX5_springs_264 (by decide) ?_
                    refine lv_iload_n hx hb dX5_springs_265 rfl (lv_at hl 1 rfl) ?_
                    refine t_imul hx hb dX5_springs_266 (v := nI (4 * k)) (zi_mul rfl) ?_
                    refine lv_iconst (v := (nI 1)) hx hb dX5_springs_267 (by decide) ?_
                    refine t_iadd hx hb dX5_springs_268 (v := nI (4 * k + 1)) (zi_add (by omega)) ?_
                    refine z_iald (s := s.setDrawn d0) (n := 48) (i := 4 * k + 1) hx hb hK hP 2 1 rfl rfl (by omega) (by decide) dX5_springs_269 ?_
                    rw [(gE k (by omega)).2.1]
                    refine lv_istore_n (lv' := [(2, .int (nI ((by0 k)))), (1, .int (nI k)), (0, .ref a0)]) hx hb dX5_springs_270 rfl hl (by decide) rfl (fun ls hl => ?_)
                    have L_271 : ∀ (n : Nat) (t : Nat) (pN : Nat → UInt64) (d0 : Drawn) (H : Heap) (locs : List Loc) (ls : Array Slot), by1 k - (by0 k + t) < n → (by0 k + t ≤ by1 k) → (zgr pN iw ih (zfold (zbNF iw T (bx0 k) (by0 k) (bg k)) t (zNB iw ih T (zv fb) bx0 by0 by1 bg k))) → s.drawn.sameBut d0 lw_cs → va_P (dC, dI) vwCl (w5 a0 aT aE aG aR aN aS aQ aW aX cD cI th iw ih fa fb fd ib mk im iq tT tE tG pR pN tS tQ tW tX) H → va_D A (w5 a0 aT aE aG aR aN aS aQ aW aX cD cI th iw ih fa fb fd ib mk im iq tT tE tG pR pN tS tQ tW tX) → va_S A s.heap H locs → lv_has ls 4 [(2, .int (nI ((by0 k) + t))), (1, .int (nI k)), (0, .ref a0)] → W p l e (headSpec wsX5_springs ({ frames := 1, cells := 0, slots := 0, locals := 27 } : Room)).room (s.setDrawn d0) m ([.ref a0] : List Value).toArray below meth c H locs 0 0 (MQD lw_cs below (va_Qv (fun u : (Nat → UInt64) × (Nat → UInt64) => zgr u.1 iw ih (zRB iw T (zv fa) bx0 by0 bx1 bg ib) ∧ zgr u.2 iw ih (zNB iw ih T (zv fb) bx0 by0 by1 bg ib)) (fun u t => (va_P (dC, dI) vwCl (w5 a0 aT aE aG aR aN aS aQ aW aX cD cI th iw ih fa fb fd ib mk im iq tT tE tG u.1 u.2 tS tQ tW tX) t.heap ∧ va_K (dC, dI) vwCl [(cD, .double), (cI, .int)] t ∧ va_D A (w5 a0 aT aE aG aR aN aS aQ aW aX cD cI th iw ih fa fb fd ib mk im iq tT tE tG u.1 u.2 tS tQ tW tX))) A) ([.ref a0] : List Value).toArray s 0 0 A) (F0 m 271 ls []) := by
                      intro n
                      induction n with
                      | zero => intro t pN d0 H locs ls hn; exact absurd hn (Nat.not_lt_zero _)
                      | succ n ih_L_271 =>
                        intro t pN d0 H locs ls hn htb hN3 hd0 hP hD hS hl
                        refine lv_iload_n hx hb dX5_springs_271 rfl (lv_at hl 0 rfl) ?_
                        refine lv_aload_n hx hb dX5_springs_272 rfl (lv_at hl 2 rfl) ?_
                        refine va_get (D := (dC, dI)) (ci := 5) (v := .ref aE) (C := RX5) (T := TX5) (N := 19) hx hb (dr_words hts d0) (in_X5_springs_X5) hown hK hP 0 rfl rfl 8 (by decide) (dr_words hts d0 (.fieldLink RX5 23 "PlateModesModel" "ends" "[I") (by decide +kernel)) (fun _ h9 => h9) rfl dX5_springs_273 ?_
                        refine lv_iconst (v := (nI 4)) hx hb dX5_springs_276 (by decide) ?_
                        refine lv_iload_n hx hb dX5_springs_277 rfl (lv_at hl 1 rfl) ?_
                        refine t_imul hx hb dX5_springs_278 (v := nI (4 * k)) (zi_mul rfl) ?_
                        refine lv_iconst (v := (nI 3)) hx hb dX5_springs_279 (by decide) ?_
                        refine t_iadd hx hb dX5_springs_280 (v := nI (4 * k + 3)) (zi_add (by omega)) ?_
                        refine z_iald (s := s.setDrawn d0) (n := 48) (i := 4 * k + 3) hx hb hK hP 2 1 rfl rfl (by omega) (by decide) dX5_springs_281 ?_
                        rw [(gE k (by omega)).2.2.2]
                        refine z_icmp_ge (a := (by0 k) + t) (b := (by1 k)) (tgt := 352) hx hb (by omega) (by omega) dX5_springs_282 (by decide) (fun c7 => ?_) (fun c8 => ?_)
                        · skip
                          have hN4 : zgr pN iw ih (zNB iw ih T (zv fb) bx0 by0 by1 bg (k + 1)) := by rw [show t = by1 k - by0 k by omega] at hN3; exact hN3
                          refine lv_iinc (v := nI (k + 1)) (lv' := [(1, .int (nI (k + 1))), (2, .int (nI ((by0 k) + t))), (0, .ref a0)]) hx hb dX5_springs_352 hl (k := 1) rfl (show nI k + nI 1 = _ from zi_add (by omega)) (by decide) rfl (fun ls hl => ?_)
                          refine lv_goto (tgt := 161) hx hb dX5_springs_355 (by decide) ?_
                          exact ih_L_161 (k + 1) pR pN _ _ _ _ (by omega) (by omega) hR4 hN4 hd0 hP hD hS (lv_sub hl [0, 2] rfl)
                        · skip
                          refine lv_bipush (v := (nI 6)) hx hb dX5_springs_285 (by decide) ?_
                          refine lv_iload_n hx hb dX5_springs_287 rfl (lv_at hl 0 rfl) ?_
                          refine t_imul hx hb dX5_springs_288 (v := nI (6 * (by0 k) + 6 * t)) (zi_mul (by omega)) ?_
                          refine lv_aload_n hx hb dX5_springs_289 rfl (lv_at hl 2 rfl) ?_
                          refine va_get (D := (dC, dI)) (ci := 5) (v := .ref aE) (C := RX5) (T := TX5) (N := 19) hx hb (dr_words hts d0) (in_X5_springs_X5) hown hK hP 0 rfl rfl 8 (by decide) (dr_words hts d0 (.fieldLink RX5 23 "PlateModesModel" "ends" "[I") (by decide +kernel)) (fun _ h9 => h9) rfl dX5_springs_290 ?_
                          refine lv_iconst (v := (nI 4)) hx hb dX5_springs_293 (by decide) ?_
                          refine lv_iload_n hx hb dX5_springs_294 rfl (lv_at hl 1 rfl) ?_
                          refine t_imul hx hb dX5_springs_295 (v := nI (4 * k)) (zi_mul rfl) ?_
                          refine z_iald (s := s.setDrawn d0) (n := 48) (i := 4 * k) hx hb hK hP 2 1 rfl rfl (by omega) (by decide) dX5_springs_296 ?_
                          rw [(gE k (by omega)).1]
                          refine t_iadd hx hb dX5_springs_297 (v := nI ((bx0 k) + 6 * (by0 k) + 6 * t)) (zi_add (by omega)) ?_
                          refine lv_istore_n (lv' := [(3, .int (nI ((bx0 k) + 6 * (by0 k) + 6 * t))), (2, .int (nI ((by0 k) + t))), (1, .int (nI k)), (0, .ref a0)]) hx hb dX5_springs_298 rfl hl (by decide) rfl (fun ls hl => ?_)
                          have J_345 : ∀ (v : UInt64) (d0 : Drawn) (H : Heap) (locs : List Loc) (ls : Array Slot), (zv v = zbNV iw T (bx0 k) (by0 k) (bg k) t (zfold (zbNF iw T (bx0 k) (by0 k) (bg k)) t (zNB iw ih T (zv fb) bx0 by0 by1 bg k))) → s.drawn.sameBut d0 lw_cs → va_P (dC, dI) vwCl (w5 a0 aT aE aG aR aN aS aQ aW aX cD cI th iw ih fa fb fd ib mk im iq tT tE tG pR pN tS tQ tW tX) H → va_D A (w5 a0 aT aE aG aR aN aS aQ aW aX cD cI th iw ih fa fb fd ib mk im iq tT tE tG pR pN tS tQ tW tX) → va_S A s.heap H locs → lv_has ls 4 [(2, .int (nI ((by0 k) + t))), (1, .int (nI k)), (0, .ref a0)] → W p l e (headSpec wsX5_springs ({ frames := 1, cells := 0, slots := 0, locals := 27 } : Room)).room (s.setDrawn d0) m ([.ref a0] : List Value).toArray below meth c H locs 0 0 (MQD lw_cs below (va_Qv (fun u : (Nat → UInt64) × (Nat → UInt64) => zgr u.1 iw ih (zRB iw T (zv fa) bx0 by0 bx1 bg ib) ∧ zgr u.2 iw ih (zNB iw ih T (zv fb) bx0 by0 by1 bg ib)) (fun u t => (va_P (dC, dI) vwCl (w5 a0 aT aE aG aR aN aS aQ aW aX cD cI th iw ih fa fb fd ib mk im iq tT tE tG u.1 u.2 tS tQ tW tX) t.heap ∧ va_K (dC, dI) vwCl [(cD, .double), (cI, .int)] t ∧ va_D A (w5 a0 aT aE aG aR aN aS aQ aW aX cD cI th iw ih fa fb fd ib mk im iq tT tE tG u.1 u.2 tS tQ tW tX))) A) ([.ref a0] : List Value).toArray s 0 0 A) (F0 m 345 ls [.double v, .int (nI ((bx0 k) + 6 * (by0 k) + 6 * t)), .ref aN]) := by
                            intro v d0 H locs ls hv hd0 hP hD hS hl
                            refine z_dast (s := s.setDrawn d0) (n := 36) (i := (bx0 k) + 6 * (by0 k) + 6 * t) hx hb hK hP hD hS 5 0 rfl rfl (by omega) (by decide) dX5_springs_345 (fun H locs hP hD hS => ?_)
                            have hP : va_P (dC, dI) vwCl (w5 a0 aT aE aG aR aN aS aQ aW aX cD cI th iw ih fa fb fd ib mk im iq tT tE tG pR (zu pN ((bx0 k) + 6 * (by0 k) + 6 * t) v) tS tQ tW tX) H := hP
                            have hD : va_D A (w5 a0 aT aE aG aR aN aS aQ aW aX cD cI th iw ih fa fb fd ib mk im iq tT tE tG pR (zu pN ((bx0 k) + 6 * (by0 k) + 6 * t) v) tS tQ tW tX) := hD
                            refine lv_iinc (v := nI ((by0 k) + t + 1)) (lv' := [(2, .int (nI ((by0 k) + t + 1))), (1, .int (nI k)), (0, .ref a0)]) hx hb dX5_springs_346 hl (k := 0) rfl (show nI ((by0 k) + t) + nI 1 = _ from zi_add (by omega)) (by decide) rfl (fun ls hl => ?_)
                            refine lv_goto (tgt := 271) hx hb dX5_springs_349 (by decide) ?_
                            exact ih_L_271 (t + 1) (zu pN ((bx0 k) + 6 * (by0 k) + 6 * t) v) _ _ _ _ (by omega) (by omega) (zgr_put (x := bx0 k) (y := by0 k + t) hw6 hN3 (by omega) (by omega) hv) hd0 hP hD hS hl
                          refine lv_aload_n hx hb dX5_springs_299 rfl (lv_at hl 3 rfl) ?_
                          refine va_get (D := (dC, dI)) (ci := 5) (v := .ref aN) (C := RX5) (T := TX5) (N := 19) hx hb (dr_words hts d0) (in_X5_springs_X5) hown hK hP 0 rfl rfl 11 (by decide) (dr_words hts d0 (.fieldLink RX5 33 "PlateModesModel" "down" "[D") (by decide +kernel)) (fun _ h9 => h9) rfl dX5_springs_300 ?_
                          refine lv_iload_n hx hb dX5_springs_303 rfl (lv_at hl 0 rfl) ?_
                          refine lv_aload_n hx hb dX5_springs_304 rfl (lv_at hl 3 rfl) ?_
                          refine lv_iload_n hx hb dX5_springs_305 rfl (lv_at hl 0 rfl) ?_
                          have hPc := hP
                          refine va_calli (va_runV (As := [.int (nI ((bx0 k) + 6 * (by0 k) + 6 * t))]) (rest := [.int (nI ((bx0 k) + 6 * (by0 k) + 6 * t)), .ref aN]) ⟨hx, hb, hml, hown, (dr_words hts d0)⟩ (c5_isWood l dC dI a0 aT aE aG aR aN aS aQ aW aX cD cI th iw ih fa fb fd ib mk im iq tT tE tG pR pN tS tQ tW tX ((bx0 k) + 6 * (by0 k) + 6 * t) (by omega)) (cwV 1 (dr_words hts d0) gX5_springs_X5_isWood rfl rfl rfl (by decide +kernel) ⟨Nat.le_of_ble_eq_true rfl, Nat.le_of_ble_eq_true rfl⟩) ⟨zfb, va_recv hK hP (ci := 5) (q0 := 0) rfl rfl, zpre hPc hK⟩ rfl rfl hl.1 rfl (lv_room (Nat.le_of_ble_eq_true rfl)) dX5_springs_306 ⟨Nat.le_of_ble_eq_true rfl, Nat.le_of_ble_eq_true rfl⟩) hS (fun q _ h => h.elim) (fun q h => h.elim) (fun r9 u9 t9 H locs ht9 hvm9 hr9 hB9 hz9 hk1 hS => ?_)
                          have hP := zro1 hP hk1
                          have hr9 : r9 = zb (zgt (T (((by0 k) + t) * iw + ((bx0 k)))) z0) := by rw [hr9, zgr_at gT ((bx0 k)) ((by0 k) + t) (by omega) (by omega) (by omega)]
                          subst hr9
                          refine z_if_eq_b (tgt := 339) hx hb dX5_springs_309 (by decide) (fun c10 => ?_) (fun c11 => ?_)
                          · skip
                            have cw := c10
                            refine lv_aload_n hx hb dX5_springs_339 rfl (lv_at hl 3 rfl) ?_
                            refine va_get (D := (dC, dI)) (ci := 5) (v := .ref aN) (C := RX5) (T := TX5) (N := 19) hx hb (dr_words hts d0) (in_X5_springs_X5) hown hK hP 0 rfl rfl 11 (by decide) (dr_words hts d0 (.fieldLink RX5 33 "PlateModesModel" "down" "[D") (by decide +kernel)) (fun _ h9 => h9) rfl dX5_springs_340 ?_
                            refine lv_iload_n hx hb dX5_springs_343 rfl (lv_at hl 0 rfl) ?_
                            refine z_dald (s := s.setDrawn d0) (n := 36) (i := (bx0 k) + 6 * (by0 k) + 6 * t) hx hb hK hP 5 0 rfl rfl (by omega) (by decide) dX5_springs_344 ?_
                            exact J_345 (pN ((bx0 k) + 6 * (by0 k) + 6 * t)) _ _ _ _ ((zgr_at hN3 ((bx0 k)) ((by0 k) + t) (by omega) (by omega) (by omega)).trans (if_neg (fun hh => by first | (rw [cw] at hh; exact absurd hh.1 (by decide)) | (rw [cw2] at hh; exact absurd hh.2 (by decide)))).symm) hd0 hP hD hS (lv_sub hl [1, 2, 3] rfl)
                          · skip
                            have cw := c11
                            refine lv_aload_n hx hb dX5_springs_312 rfl (lv_at hl 3 rfl) ?_
                            refine lv_iload_n hx hb dX5_springs_313 rfl (lv_at hl 0 rfl) ?_
                            refine lv_bipush (v := (nI 6)) hx hb dX5_springs_314 (by decide) ?_
                            refine t_iadd hx hb dX5_springs_316 (v := nI ((bx0 k) + 6 * (by0 k) + 6 * t + 6)) (zi_add (by omega)) ?_
                            have hPc := hP
                            refine va_calli (va_runV (As := [.int (nI ((bx0 k) + 6 * (by0 k) + 6 * t + 6))]) (rest := [.int (nI ((bx0 k) + 6 * (by0 k) + 6 * t)), .ref aN]) ⟨hx, hb, hml, hown, (dr_words hts d0)⟩ (c5_isWood l dC dI a0 aT aE aG aR aN aS aQ aW aX cD cI th iw ih fa fb fd ib mk im iq tT tE tG pR pN tS tQ tW tX ((bx0 k) + 6 * (by0 k) + 6 * t + 6) (by omega)) (cwV 1 (dr_words hts d0) gX5_springs_X5_isWood rfl rfl rfl (by decide +kernel) ⟨Nat.le_of_ble_eq_true rfl, Nat.le_of_ble_eq_true rfl⟩) ⟨zfb, va_recv hK hP (ci := 5) (q0 := 0) rfl rfl, zpre hPc hK⟩ rfl rfl hl.1 rfl (lv_room (Nat.le_of_ble_eq_true rfl)) dX5_springs_317 ⟨Nat.le_of_ble_eq_true rfl, Nat.le_of_ble_eq_true rfl⟩) hS (fun q _ h => h.elim) (fun q h => h.elim) (fun r12 u9 t9 H locs ht9 hvm9 hr12 hB9 hz9 hk1 hS => ?_)
                            have hP := zro1 hP hk1
                            have hr12 : r12 = zb (zgt (T (((by0 k) + t + 1) * iw + ((bx0 k)))) z0) := by rw [hr12, zgr_at gT ((bx0 k)) ((by0 k) + t + 1) (by omega) (by omega) (by omega)]
                            subst hr12
                            refine z_if_eq_b (tgt := 339) hx hb dX5_springs_320 (by decide) (fun c13 => ?_) (fun c14 => ?_)
                            · skip
                              have cw2 := c13
                              refine lv_aload_n hx hb dX5_springs_339 rfl (lv_at hl 3 rfl) ?_
                              refine va_get (D := (dC, dI)) (ci := 5) (v := .ref aN) (C := RX5) (T := TX5) (N := 19) hx hb (dr_words hts d0) (in_X5_springs_X5) hown hK hP 0 rfl rfl 11 (by decide) (dr_words hts d0 (.fieldLink RX5 33 "PlateModesModel" "down" "[D") (by decide +kernel)) (fun _ h9 => h9) rfl dX5_springs_340 ?_
                              refine lv_iload_n hx hb dX5_springs_343 rfl (lv_at hl 0 rfl) ?_
                              refine z_dald (s := s.setDrawn d0) (n := 36) (i := (bx0 k) + 6 * (by0 k) + 6 * t) hx hb hK hP 5 0 rfl rfl (by omega) (by decide) dX5_springs_344 ?_
                              exact J_345 (pN ((bx0 k) + 6 * (by0 k) + 6 * t)) _ _ _ _ ((zgr_at hN3 ((bx0 k)) ((by0 k) + t) (by omega) (by omega) (by omega)).trans (if_neg (fun hh => by first | (rw [cw] at hh; exact absurd hh.1 (by decide)) | (rw [cw2] at hh; exact absurd hh.2 (by decide)))).symm) hd0 hP hD hS (lv_sub hl [1, 2, 3] rfl)
                            · skip
                              have cw2 := c14
                              refine lv_aload_n hx hb dX5_springs_323 rfl (lv_at hl 3 rfl) ?_
                              refine va_get (D := (dC, dI)) (ci := 5) (v := .ref aN) (C := RX5) (T := TX5) (N := 19) hx hb (dr_words hts d0) (in_X5_springs_X5) hown hK hP 0 rfl rfl 11 (by decide) (dr_words hts d0 (.fieldLink RX5 33 "PlateModesModel" "down" "[D") (by decide +kernel)) (fun _ h9 => h9) rfl dX5_springs_324 ?_
                              refine lv_iload_n hx hb dX5_springs_327 rfl (lv_at hl 0 rfl) ?_
                              refine z_dald (s := s.setDrawn d0) (n := 36) (i := (bx0 k) + 6 * (by0 k) + 6 * t) hx hb hK hP 5 0 rfl rfl (by omega) (by decide) dX5_springs_328 ?_
                              refine lv_aload_n hx hb dX5_springs_329 rfl (lv_at hl 3 rfl) ?_
                              refine va_get (D := (dC, dI)) (ci := 5) (v := .ref aG) (C := RX5) (T := TX5) (N := 19) hx hb (dr_words hts d0) (in_X5_springs_X5) hown hK hP 0 rfl rfl 9 (by decide) (dr_words hts d0 (.fieldLink RX5 27 "PlateModesModel" "heights" "[D") (by decide +kernel)) (fun _ h9 => h9) rfl dX5_springs_330 ?_
                              refine lv_iload_n hx hb dX5_springs_333 rfl (lv_at hl 2 rfl) ?_
                              refine z_dald (s := s.setDrawn d0) (n := 12) (i := k) hx hb hK hP 3 0 rfl rfl (by omega) (by decide) dX5_springs_334 ?_
                              refine zr_dadd hd0 hx hb (a := (zfold (zbNF iw T (bx0 k) (by0 k) (bg k)) t (zNB iw ih T (zv fb) bx0 by0 by1 bg k)) (((by0 k) + t) * iw + ((bx0 k)))) (b := bg k) (zgr_at hN3 ((bx0 k)) ((by0 k) + t) (by omega) (by omega) (by omega)) (gG k (by omega)) dX5_springs_335 (fun r15 d16 hr15 hd16 => ?_)
                              refine lv_goto (tgt := 345) hx hb dX5_springs_336 (by decide) ?_
                              exact J_345 r15 _ _ _ _ ((hr15).trans (if_pos (And.intro cw cw2)).symm) hd16 hP hD hS (lv_sub hl [1, 2, 3] rfl)
                    exact L_271 _ 0 qN _ _ _ _ (Nat.lt_succ_self _) (by omega) hN2 hd0 hP hD hS hl
                  · skip
                    refine lv_bipush (v := (nI 6)) hx hb dX5_springs_192 (by decide) ?_
                    refine lv_aload_n hx hb dX5_springs_194 rfl (lv_at hl 2 rfl) ?_
                    refine va_get (D := (dC, dI)) (ci := 5) (v := .ref aE) (C := RX5) (T := TX5) (N := 19) hx hb (dr_words hts d0) (in_X5_springs_X5) hown hK hP 0 rfl rfl 8 (by decide) (dr_words hts d0 (.fieldLink RX5 23 "PlateModesModel" "ends" "[I") (by decide +kernel)) (fun _ h9 => h9) rfl dX5_springs_195 ?_
                    refine lv_iconst (v := (nI 4)) hx hb dX5_springs_198 (by decide) ?_
                    refine lv_iload_n hx hb dX5_springs_199 rfl (lv_at hl 1 rfl) ?_
                    refine t_imul hx hb dX5_springs_200 (v := nI (4 * k)) (zi_mul rfl) ?_
                    refine lv_iconst (v := (nI 1)) hx hb dX5_springs_201 (by decide) ?_
                    refine t_iadd hx hb dX5_springs_202 (v := nI (4 * k + 1)) (zi_add (by omega)) ?_
                    refine z_iald (s := s.setDrawn d0) (n := 48) (i := 4 * k + 1) hx hb hK hP 2 1 rfl rfl (by omega) (by decide) dX5_springs_203 ?_
                    rw [(gE k (by omega)).2.1]
                    refine t_imul hx hb dX5_springs_204 (v := nI (6 * (by0 k))) (zi_mul (by omega)) ?_
                    refine lv_iload_n hx hb dX5_springs_205 rfl (lv_at hl 0 rfl) ?_
                    refine t_iadd hx hb dX5_springs_206 (v := nI ((bx0 k) + 6 * (by0 k) + t)) (zi_add (by omega)) ?_
                    refine lv_istore_n (lv' := [(3, .int (nI ((bx0 k) + 6 * (by0 k) + t))), (2, .int (nI ((bx0 k) + t))), (1, .int (nI k)), (0, .ref a0)]) hx hb dX5_springs_207 rfl hl (by decide) rfl (fun ls hl => ?_)
                    have J_253 : ∀ (v : UInt64) (d0 : Drawn) (H : Heap) (locs : List Loc) (ls : Array Slot), (zv v = zbRV iw T (bx0 k) (by0 k) (bg k) t (zfold (zbRF iw T (bx0 k) (by0 k) (bg k)) t (zRB iw T (zv fa) bx0 by0 bx1 bg k))) → s.drawn.sameBut d0 lw_cs → va_P (dC, dI) vwCl (w5 a0 aT aE aG aR aN aS aQ aW aX cD cI th iw ih fa fb fd ib mk im iq tT tE tG pR qN tS tQ tW tX) H → va_D A (w5 a0 aT aE aG aR aN aS aQ aW aX cD cI th iw ih fa fb fd ib mk im iq tT tE tG pR qN tS tQ tW tX) → va_S A s.heap H locs → lv_has ls 4 [(2, .int (nI ((bx0 k) + t))), (1, .int (nI k)), (0, .ref a0)] → W p l e (headSpec wsX5_springs ({ frames := 1, cells := 0, slots := 0, locals := 27 } : Room)).room (s.setDrawn d0) m ([.ref a0] : List Value).toArray below meth c H locs 0 0 (MQD lw_cs below (va_Qv (fun u : (Nat → UInt64) × (Nat → UInt64) => zgr u.1 iw ih (zRB iw T (zv fa) bx0 by0 bx1 bg ib) ∧ zgr u.2 iw ih (zNB iw ih T (zv fb) bx0 by0 by1 bg ib)) (fun u t => (va_P (dC, dI) vwCl (w5 a0 aT aE aG aR aN aS aQ aW aX cD cI th iw ih fa fb fd ib mk im iq tT tE tG u.1 u.2 tS tQ tW tX) t.heap ∧ va_K (dC, dI) vwCl [(cD, .double), (cI, .int)] t ∧ va_D A (w5 a0 aT aE aG aR aN aS aQ aW aX cD cI th iw ih fa fb fd ib mk im iq tT tE tG u.1 u.2 tS tQ tW tX))) A) ([.ref a0] : List Value).toArray s 0 0 A) (F0 m 253 ls [.double v, .int (nI ((bx0 k) + 6 * (by0 k) + t)), .ref aR]) := by
                      intro v d0 H locs ls hv hd0 hP hD hS hl
                      refine z_dast (s := s.setDrawn d0) (n := 36) (i := (bx0 k) + 6 * (by0 k) + t) hx hb hK hP hD hS 4 0 rfl rfl (by omega) (by decide) dX5_springs_253 (fun H locs hP hD hS => ?_)
                      have hP : va_P (dC, dI) vwCl (w5 a0 aT aE aG aR aN aS aQ aW aX cD cI th iw ih fa fb fd ib mk im iq tT tE tG (zu pR ((bx0 k) + 6 * (by0 k) + t) v) qN tS tQ tW tX) H := hP
                      have hD : va_D A (w5 a0 aT aE aG aR aN aS aQ aW aX cD cI th iw ih fa fb fd ib mk im iq tT tE tG (zu pR ((bx0 k) + 6 * (by0 k) + t) v) qN tS tQ tW tX) := hD
                      refine lv_iinc (v := nI ((bx0 k) + t + 1)) (lv' := [(2, .int (nI ((bx0 k) + t + 1))), (1, .int (nI k)), (0, .ref a0)]) hx hb dX5_springs_254 hl (k := 0) rfl (show nI ((bx0 k) + t) + nI 1 = _ from zi_add (by omega)) (by decide) rfl (fun ls hl => ?_)
                      refine lv_goto (tgt := 178) hx hb dX5_springs_257 (by decide) ?_
                      exact ih_L_178 (t + 1) (zu pR ((bx0 k) + 6 * (by0 k) + t) v) _ _ _ _ (by omega) (by omega) (zgr_put (x := bx0 k + t) (y := by0 k) hw6 hR3 (by omega) (by omega) hv) hd0 hP hD hS hl
                    refine lv_aload_n hx hb dX5_springs_208 rfl (lv_at hl 3 rfl) ?_
                    refine va_get (D := (dC, dI)) (ci := 5) (v := .ref aR) (C := RX5) (T := TX5) (N := 19) hx hb (dr_words hts d0) (in_X5_springs_X5) hown hK hP 0 rfl rfl 10 (by decide) (dr_words hts d0 (.fieldLink RX5 30 "PlateModesModel" "right" "[D") (by decide +kernel)) (fun _ h9 => h9) rfl dX5_springs_209 ?_
                    refine lv_iload_n hx hb dX5_springs_212 rfl (lv_at hl 0 rfl) ?_
                    refine lv_aload_n hx hb dX5_springs_213 rfl (lv_at hl 3 rfl) ?_
                    refine lv_iload_n hx hb dX5_springs_214 rfl (lv_at hl 0 rfl) ?_
                    have hPc := hP
                    refine va_calli (va_runV (As := [.int (nI ((bx0 k) + 6 * (by0 k) + t))]) (rest := [.int (nI ((bx0 k) + 6 * (by0 k) + t)), .ref aR]) ⟨hx, hb, hml, hown, (dr_words hts d0)⟩ (c5_isWood l dC dI a0 aT aE aG aR aN aS aQ aW aX cD cI th iw ih fa fb fd ib mk im iq tT tE tG pR qN tS tQ tW tX ((bx0 k) + 6 * (by0 k) + t) (by omega)) (cwV 1 (dr_words hts d0) gX5_springs_X5_isWood rfl rfl rfl (by decide +kernel) ⟨Nat.le_of_ble_eq_true rfl, Nat.le_of_ble_eq_true rfl⟩) ⟨zfb, va_recv hK hP (ci := 5) (q0 := 0) rfl rfl, zpre hPc hK⟩ rfl rfl hl.1 rfl (lv_room (Nat.le_of_ble_eq_true rfl)) dX5_springs_215 ⟨Nat.le_of_ble_eq_true rfl, Nat.le_of_ble_eq_true rfl⟩) hS (fun q _ h => h.elim) (fun q h => h.elim) (fun r17 u9 t9 H locs ht9 hvm9 hr17 hB9 hz9 hk1 hS => ?_)
                    have hP := zro1 hP hk1
                    have hr17 : r17 = zb (zgt (T (((by0 k)) * iw + ((bx0 k) + t))) z0) := by rw [hr17, zgr_at gT ((bx0 k) + t) ((by0 k)) (by omega) (by omega) (by omega)]
                    subst hr17
                    refine z_if_eq_b (tgt := 247) hx hb dX5_springs_218 (by decide) (fun c18 => ?_) (fun c19 => ?_)
                    · skip
                      have cw := c18
                      refine lv_aload_n hx hb dX5_springs_247 rfl (lv_at hl 3 rfl) ?_
                      refine va_get (D := (dC, dI)) (ci := 5) (v := .ref aR) (C := RX5) (T := TX5) (N := 19) hx hb (dr_words hts d0) (in_X5_springs_X5) hown hK hP 0 rfl rfl 10 (by decide) (dr_words hts d0 (.fieldLink RX5 30 "PlateModesModel" "right" "[D") (by decide +kernel)) (fun _ h9 => h9) rfl dX5_springs_248 ?_
                      refine lv_iload_n hx hb dX5_springs_251 rfl (lv_at hl 0 rfl) ?_
                      refine z_dald (s := s.setDrawn d0) (n := 36) (i := (bx0 k) + 6 * (by0 k) + t) hx hb hK hP 4 0 rfl rfl (by omega) (by decide) dX5_springs_252 ?_
                      exact J_253 (pR ((bx0 k) + 6 * (by0 k) + t)) _ _ _ _ ((zgr_at hR3 ((bx0 k) + t) ((by0 k)) (by omega) (by omega) (by omega)).trans (if_neg (fun hh => by first | (rw [cw] at hh; exact absurd hh.1 (by decide)) | (rw [cw2] at hh; exact absurd hh.2 (by decide)))).symm) hd0 hP hD hS (lv_sub hl [1, 2, 3] rfl)
                    · skip
                      have cw := c19
                      refine lv_aload_n hx hb dX5_springs_221 rfl (lv_at hl 3 rfl) ?_
                      refine lv_iload_n hx hb dX5_springs_222 rfl (lv_at hl 0 rfl) ?_
                      refine lv_iconst (v := (nI 1)) hx hb dX5_springs_223 (by decide) ?_
                      refine t_iadd hx hb dX5_springs_224 (v := nI ((bx0 k) + 6 * (by0 k) + t + 1)) (zi_add (by omega)) ?_
                      have hPc := hP
                      refine va_calli (va_runV (As := [.int (nI ((bx0 k) + 6 * (by0 k) + t + 1))]) (rest := [.int (nI ((bx0 k) + 6 * (by0 k) + t)), .ref aR]) ⟨hx, hb, hml, hown, (dr_words hts d0)⟩ (c5_isWood l dC dI a0 aT aE aG aR aN aS aQ aW aX cD cI th iw ih fa fb fd ib mk im iq tT tE tG pR qN tS tQ tW tX ((bx0 k) + 6 * (by0 k) + t + 1) (by omega)) (cwV 1 (dr_words hts d0) gX5_springs_X5_isWood rfl rfl rfl (by decide +kernel) ⟨Nat.le_of_ble_eq_true rfl, Nat.le_of_ble_eq_true rfl⟩) ⟨zfb, va_recv hK hP (ci := 5) (q0 := 0) rfl rfl, zpre hPc hK⟩ rfl rfl hl.1 rfl (lv_room (Nat.le_of_ble_eq_true rfl)) dX5_springs_225 ⟨Nat.le_of_ble_eq_true rfl, Nat.le_of_ble_eq_true rfl⟩) hS (fun q _ h => h.elim) (fun q h => h.elim) (fun r20 u9 t9 H locs ht9 hvm9 hr20 hB9 hz9 hk1 hS => ?_)
                      have hP := zro1 hP hk1
                      have hr20 : r20 = zb (zgt (T (((by0 k)) * iw + ((bx0 k) + t + 1))) z0) := by rw [hr20, zgr_at gT ((bx0 k) + t + 1) ((by0 k)) (by omega) (by omega) (by omega)]
                      subst hr20
                      refine z_if_eq_b (tgt := 247) hx hb dX5_springs_228 (by decide) (fun c21 => ?_) (fun c22 => ?_)
                      · skip
                        have cw2 := c21
                        refine lv_aload_n hx hb dX5_springs_247 rfl (lv_at hl 3 rfl) ?_
                        refine va_get (D := (dC, dI)) (ci := 5) (v := .ref aR) (C := RX5) (T := TX5) (N := 19) hx hb (dr_words hts d0) (in_X5_springs_X5) hown hK hP 0 rfl rfl 10 (by decide) (dr_words hts d0 (.fieldLink RX5 30 "PlateModesModel" "right" "[D") (by decide +kernel)) (fun _ h9 => h9) rfl dX5_springs_248 ?_
                        refine lv_iload_n hx hb dX5_springs_251 rfl (lv_at hl 0 rfl) ?_
                        refine z_dald (s := s.setDrawn d0) (n := 36) (i := (bx0 k) + 6 * (by0 k) + t) hx hb hK hP 4 0 rfl rfl (by omega) (by decide) dX5_springs_252 ?_
                        exact J_253 (pR ((bx0 k) + 6 * (by0 k) + t)) _ _ _ _ ((zgr_at hR3 ((bx0 k) + t) ((by0 k)) (by omega) (by omega) (by omega)).trans (if_neg (fun hh => by first | (rw [cw] at hh; exact absurd hh.1 (by decide)) | (rw [cw2] at hh; exact absurd hh.2 (by decide)))).symm) hd0 hP hD hS (lv_sub hl [1, 2, 3] rfl)
                      · skip
                        have cw2 := c22
                        refine lv_aload_n hx hb dX5_springs_231 rfl (lv_at hl 3 rfl) ?_
                        refine va_get (D := (dC, dI)) (ci := 5) (v := .ref aR) (C := RX5) (T := TX5) (N := 19) hx hb (dr_words hts d0) (in_X5_springs_X5) hown hK hP 0 rfl rfl 10 (by decide) (dr_words hts d0 (.fieldLink RX5 30 "PlateModesModel" "right" "[D") (by decide +kernel)) (fun _ h9 => h9) rfl dX5_springs_232 ?_
                        refine lv_iload_n hx hb dX5_springs_235 rfl (lv_at hl 0 rfl) ?_
                        refine z_dald (s := s.setDrawn d0) (n := 36) (i := (bx0 k) + 6 * (by0 k) + t) hx hb hK hP 4 0 rfl rfl (by omega) (by decide) dX5_springs_236 ?_
                        refine lv_aload_n hx hb dX5_springs_237 rfl (lv_at hl 3 rfl) ?_
                        refine va_get (D := (dC, dI)) (ci := 5) (v := .ref aG) (C := RX5) (T := TX5) (N := 19) hx hb (dr_words hts d0) (in_X5_springs_X5) hown hK hP 0 rfl rfl 9 (by decide) (dr_words hts d0 (.fieldLink RX5 27 "PlateModesModel" "heights" "[D") (by decide +kernel)) (fun _ h9 => h9) rfl dX5_springs_238 ?_
                        refine lv_iload_n hx hb dX5_springs_241 rfl (lv_at hl 2 rfl) ?_
                        refine z_dald (s := s.setDrawn d0) (n := 12) (i := k) hx hb hK hP 3 0 rfl rfl (by omega) (by decide) dX5_springs_242 ?_
                        refine zr_dadd hd0 hx hb (a := (zfold (zbRF iw T (bx0 k) (by0 k) (bg k)) t (zRB iw T (zv fa) bx0 by0 bx1 bg k)) (((by0 k)) * iw + ((bx0 k) + t))) (b := bg k) (zgr_at hR3 ((bx0 k) + t) ((by0 k)) (by omega) (by omega) (by omega)) (gG k (by omega)) dX5_springs_243 (fun r23 d24 hr23 hd24 => ?_)
                        refine lv_goto (tgt := 253) hx hb dX5_springs_244 (by decide) ?_
                        exact J_253 r23 _ _ _ _ ((hr23).trans (if_pos (And.intro cw cw2)).symm) hd24 hP hD hS (lv_sub hl [1, 2, 3] rfl)
              exact L_178 _ 0 qR _ _ _ _ (Nat.lt_succ_self _) (by omega) hR2 hd0 hP hD hS hl
        exact L_161 _ 0 fR fN _ _ _ _ (Nat.lt_succ_self _) (by omega) (zgrp_all hR (by rw [show y = ih by omega])) (zgrp_all hN (by rw [show y = ih by omega])) hd0 hP hD hS hl
      · skip
        refine lv_iconst (v := (nI 0)) hx hb dX5_springs_10 (by decide) ?_
        refine lv_istore_n (lv' := [(2, .int (nI 0)), (1, .int (nI y)), (0, .ref a0)]) hx hb dX5_springs_11 rfl hl (by decide) rfl (fun ls hl => ?_)
        have L_12 : ∀ (n : Nat) (x : Nat) (fR : Nat → UInt64) (fN : Nat → UInt64) (d0 : Drawn) (H : Heap) (locs : List Loc) (ls : Array Slot), iw - x < n → (x ≤ iw) → (zgrp fR iw ih (zR0 iw T (zv fa)) (y * iw + x)) → (zgrp fN iw ih (zN0 iw ih T (zv fb)) (y * iw + x)) → s.drawn.sameBut d0 lw_cs → va_P (dC, dI) vwCl (w5 a0 aT aE aG aR aN aS aQ aW aX cD cI th iw ih fa fb fd ib mk im iq tT tE tG fR fN tS tQ tW tX) H → va_D A (w5 a0 aT aE aG aR aN aS aQ aW aX cD cI th iw ih fa fb fd ib mk im iq tT tE tG fR fN tS tQ tW tX) → va_S A s.heap H locs → lv_has ls 4 [(2, .int (nI x)), (1, .int (nI y)), (0, .ref a0)] → W p l e (headSpec wsX5_springs ({ frames := 1, cells := 0, slots := 0, locals := 27 } : Room)).room (s.setDrawn d0) m ([.ref a0] : List Value).toArray below meth c H locs 0 0 (MQD lw_cs below (va_Qv (fun u : (Nat → UInt64) × (Nat → UInt64) => zgr u.1 iw ih (zRB iw T (zv fa) bx0 by0 bx1 bg ib) ∧ zgr u.2 iw ih (zNB iw ih T (zv fb) bx0 by0 by1 bg ib)) (fun u t => (va_P (dC, dI) vwCl (w5 a0 aT aE aG aR aN aS aQ aW aX cD cI th iw ih fa fb fd ib mk im iq tT tE tG u.1 u.2 tS tQ tW tX) t.heap ∧ va_K (dC, dI) vwCl [(cD, .double), (cI, .int)] t ∧ va_D A (w5 a0 aT aE aG aR aN aS aQ aW aX cD cI th iw ih fa fb fd ib mk im iq tT tE tG u.1 u.2 tS tQ tW tX))) A) ([.ref a0] : List Value).toArray s 0 0 A) (F0 m 12 ls []) := by
          intro n
          induction n with
          | zero => intro x fR fN d0 H locs ls hn; exact absurd hn (Nat.not_lt_zero _)
          | succ n ih_L_12 =>
            intro x fR fN d0 H locs ls hn hxw hR hN hd0 hP hD hS hl
            refine lv_iload_n hx hb dX5_springs_12 rfl (lv_at hl 0 rfl) ?_
            refine lv_aload_n hx hb dX5_springs_13 rfl (lv_at hl 2 rfl) ?_
            refine va_get (D := (dC, dI)) (ci := 5) (v := .int (nI iw)) (C := RX5) (T := TX5) (N := 19) hx hb (dr_words hts d0) (in_X5_springs_X5) hown hK hP 0 rfl rfl 1 (by decide) (dr_words hts d0 (.fieldLink RX5 48 "PlateModesModel" "width" "I") (by decide +kernel)) (fun _ h9 => h9) rfl dX5_springs_14 ?_
            refine z_icmp_ge (a := x) (b := iw) (tgt := 153) hx hb (by omega) (by omega) dX5_springs_17 (by decide) (fun c25 => ?_) (fun c26 => ?_)
            · skip
              refine lv_iinc (v := nI (y + 1)) (lv' := [(1, .int (nI (y + 1))), (2, .int (nI x)), (0, .ref a0)]) hx hb dX5_springs_153 hl (k := 1) rfl (show nI y + nI 1 = _ from zi_add (by omega)) (by decide) rfl (fun ls hl => ?_)
              refine lv_goto (tgt := 2) hx hb dX5_springs_156 (by decide) ?_
              exact ih_L_2 (y + 1) fR fN _ _ _ _ (by omega) (by omega) (zgrp_n hR (by rw [← zrow_end]; omega)) (zgrp_n hN (by rw [← zrow_end]; omega)) hd0 hP hD hS (lv_sub hl [0, 2] rfl)
            · skip
              refine lv_bipush (v := (nI 6)) hx hb dX5_springs_20 (by decide) ?_
              refine lv_iload_n hx hb dX5_springs_22 rfl (lv_at hl 1 rfl) ?_
              refine t_imul hx hb dX5_springs_23 (v := nI (6 * y)) (zi_mul rfl) ?_
              refine lv_iload_n hx hb dX5_springs_24 rfl (lv_at hl 0 rfl) ?_
              refine t_iadd hx hb dX5_springs_25 (v := nI (6 * y + x)) (zi_add (by omega)) ?_
              refine lv_istore_n (lv' := [(3, .int (nI (6 * y + x))), (2, .int (nI x)), (1, .int (nI y)), (0, .ref a0)]) hx hb dX5_springs_26 rfl hl (by decide) rfl (fun ls hl => ?_)
              have J_85 : ∀ (v1 : UInt64) (d0 : Drawn) (H : Heap) (locs : List Loc) (ls : Array Slot), (zv v1 = (zR0 iw T (zv fa)) (y * iw + x)) → s.drawn.sameBut d0 lw_cs → va_P (dC, dI) vwCl (w5 a0 aT aE aG aR aN aS aQ aW aX cD cI th iw ih fa fb fd ib mk im iq tT tE tG fR fN tS tQ tW tX) H → va_D A (w5 a0 aT aE aG aR aN aS aQ aW aX cD cI th iw ih fa fb fd ib mk im iq tT tE tG fR fN tS tQ tW tX) → va_S A s.heap H locs → lv_has ls 4 [(3, .int (nI (6 * y + x))), (2, .int (nI x)), (1, .int (nI y)), (0, .ref a0)] → W p l e (headSpec wsX5_springs ({ frames := 1, cells := 0, slots := 0, locals := 27 } : Room)).room (s.setDrawn d0) m ([.ref a0] : List Value).toArray below meth c H locs 0 0 (MQD lw_cs below (va_Qv (fun u : (Nat → UInt64) × (Nat → UInt64) => zgr u.1 iw ih (zRB iw T (zv fa) bx0 by0 bx1 bg ib) ∧ zgr u.2 iw ih (zNB iw ih T (zv fb) bx0 by0 by1 bg ib)) (fun u t => (va_P (dC, dI) vwCl (w5 a0 aT aE aG aR aN aS aQ aW aX cD cI th iw ih fa fb fd ib mk im iq tT tE tG u.1 u.2 tS tQ tW tX) t.heap ∧ va_K (dC, dI) vwCl [(cD, .double), (cI, .int)] t ∧ va_D A (w5 a0 aT aE aG aR aN aS aQ aW aX cD cI th iw ih fa fb fd ib mk im iq tT tE tG u.1 u.2 tS tQ tW tX))) A) ([.ref a0] : List Value).toArray s 0 0 A) (F0 m 85 ls [.double v1, .int (nI (6 * y + x)), .ref aR]) := by
                intro v1 d0 H locs ls hv1 hd0 hP hD hS hl
                refine z_dast (s := s.setDrawn d0) (n := 36) (i := 6 * y + x) hx hb hK hP hD hS 4 0 rfl rfl (by omega) (by decide) dX5_springs_85 (fun H locs hP hD hS => ?_)
                have hP : va_P (dC, dI) vwCl (w5 a0 aT aE aG aR aN aS aQ aW aX cD cI th iw ih fa fb fd ib mk im iq tT tE tG (zu fR (6 * y + x) v1) fN tS tQ tW tX) H := hP
                have hD : va_D A (w5 a0 aT aE aG aR aN aS aQ aW aX cD cI th iw ih fa fb fd ib mk im iq tT tE tG (zu fR (6 * y + x) v1) fN tS tQ tW tX) := hD
                have J_146 : ∀ (v2 : UInt64) (d0 : Drawn) (H : Heap) (locs : List Loc) (ls : Array Slot), (zv v2 = (zN0 iw ih T (zv fb)) (y * iw + x)) → s.drawn.sameBut d0 lw_cs → va_P (dC, dI) vwCl (w5 a0 aT aE aG aR aN aS aQ aW aX cD cI th iw ih fa fb fd ib mk im iq tT tE tG (zu fR (6 * y + x) v1) fN tS tQ tW tX) H → va_D A (w5 a0 aT aE aG aR aN aS aQ aW aX cD cI th iw ih fa fb fd ib mk im iq tT tE tG (zu fR (6 * y + x) v1) fN tS tQ tW tX) → va_S A s.heap H locs → lv_has ls 4 [(3, .int (nI (6 * y + x))), (2, .int (nI x)), (1, .int (nI y)), (0, .ref a0)] → W p l e (headSpec wsX5_springs ({ frames := 1, cells := 0, slots := 0, locals := 27 } : Room)).room (s.setDrawn d0) m ([.ref a0] : List Value).toArray below meth c H locs 0 0 (MQD lw_cs below (va_Qv (fun u : (Nat → UInt64) × (Nat → UInt64) => zgr u.1 iw ih (zRB iw T (zv fa) bx0 by0 bx1 bg ib) ∧ zgr u.2 iw ih (zNB iw ih T (zv fb) bx0 by0 by1 bg ib)) (fun u t => (va_P (dC, dI) vwCl (w5 a0 aT aE aG aR aN aS aQ aW aX cD cI th iw ih fa fb fd ib mk im iq tT tE tG u.1 u.2 tS tQ tW tX) t.heap ∧ va_K (dC, dI) vwCl [(cD, .double), (cI, .int)] t ∧ va_D A (w5 a0 aT aE aG aR aN aS aQ aW aX cD cI th iw ih fa fb fd ib mk im iq tT tE tG u.1 u.2 tS tQ tW tX))) A) ([.ref a0] : List Value).toArray s 0 0 A) (F0 m 146 ls [.double v2, .int (nI (6 * y + x)), .ref aN]) := by
                  intro v2 d0 H locs ls hv2 hd0 hP hD hS hl
                  refine z_dast (s := s.setDrawn d0) (n := 36) (i := 6 * y + x) hx hb hK hP hD hS 5 0 rfl rfl (by omega) (by decide) dX5_springs_146 (fun H locs hP hD hS => ?_)
                  have hP : va_P (dC, dI) vwCl (w5 a0 aT aE aG aR aN aS aQ aW aX cD cI th iw ih fa fb fd ib mk im iq tT tE tG (zu fR (6 * y + x) v1) (zu fN (6 * y + x) v2) tS tQ tW tX) H := hP
                  have hD : va_D A (w5 a0 aT aE aG aR aN aS aQ aW aX cD cI th iw ih fa fb fd ib mk im iq tT tE tG (zu fR (6 * y + x) v1) (zu fN (6 * y + x) v2) tS tQ tW tX) := hD
                  refine lv_iinc (v := nI (x + 1)) (lv' := [(2, .int (nI (x + 1))), (3, .int (nI (6 * y + x))), (1, .int (nI y)), (0, .ref a0)]) hx hb dX5_springs_147 hl (k := 1) rfl (show nI x + nI 1 = _ from zi_add (by omega)) (by decide) rfl (fun ls hl => ?_)
                  refine lv_goto (tgt := 12) hx hb dX5_springs_150 (by decide) ?_
                  exact ih_L_12 (x + 1) (zu fR (6 * y + x) v1) (zu fN (6 * y + x) v2) _ _ _ _ (by omega) (by omega) (zgrp_put hw6 hR (by omega) hv1) (zgrp_put hw6 hN (by omega) hv2) hd0 hP hD hS (lv_sub hl [0, 2, 3] rfl)
                refine lv_aload_n hx hb dX5_springs_86 rfl (lv_at hl 3 rfl) ?_
                refine va_get (D := (dC, dI)) (ci := 5) (v := .ref aN) (C := RX5) (T := TX5) (N := 19) hx hb (dr_words hts d0) (in_X5_springs_X5) hown hK hP 0 rfl rfl 11 (by decide) (dr_words hts d0 (.fieldLink RX5 33 "PlateModesModel" "down" "[D") (by decide +kernel)) (fun _ h9 => h9) rfl dX5_springs_87 ?_
                refine lv_iload_n hx hb dX5_springs_90 rfl (lv_at hl 0 rfl) ?_
                refine lv_iload_n hx hb dX5_springs_91 rfl (lv_at hl 2 rfl) ?_
                refine lv_iconst (v := (nI 1)) hx hb dX5_springs_92 (by decide) ?_
                refine t_iadd hx hb dX5_springs_93 (v := nI (y + 1)) (zi_add (by omega)) ?_
                refine lv_aload_n hx hb dX5_springs_94 rfl (lv_at hl 3 rfl) ?_
                refine va_get (D := (dC, dI)) (ci := 5) (v := .int (nI ih)) (C := RX5) (T := TX5) (N := 19) hx hb (dr_words hts d0) (in_X5_springs_X5) hown hK hP 0 rfl rfl 2 (by decide) (dr_words hts d0 (.fieldLink RX5 52 "PlateModesModel" "height" "I") (by decide +kernel)) (fun _ h9 => h9) rfl dX5_springs_95 ?_
                refine z_icmp_ge (a := y + 1) (b := ih) (tgt := 145) hx hb (by omega) (by omega) dX5_springs_98 (by decide) (fun c27 => ?_) (fun c28 => ?_)
                · skip
                  refine lv_dconst0 hx hb dX5_springs_145 ?_
                  exact J_146 FP.dconst0 _ _ _ _ (by rw [zN0_at (by omega)]; exact (if_neg (fun hh => by obtain ⟨h1, h2, h3⟩ := hh; first | omega | (rw [cw] at h2; exact absurd h2 (by decide)) | (rw [cw2] at h3; exact absurd h3 (by decide)))).symm) hd0 hP hD hS hl
                · skip
                  refine lv_aload_n hx hb dX5_springs_101 rfl (lv_at hl 3 rfl) ?_
                  refine lv_iload_n hx hb dX5_springs_102 rfl (lv_at hl 0 rfl) ?_
                  have hPc := hP
                  refine va_calli (va_runV (As := [.int (nI (6 * y + x))]) (rest := [.int (nI (6 * y + x)), .ref aN]) ⟨hx, hb, hml, hown, (dr_words hts d0)⟩ (c5_isWood l dC dI a0 aT aE aG aR aN aS aQ aW aX cD cI th iw ih fa fb fd ib mk im iq tT tE tG (zu fR (6 * y + x) v1) fN tS tQ tW tX (6 * y + x) (by omega)) (cwV 1 (dr_words hts d0) gX5_springs_X5_isWood rfl rfl rfl (by decide +kernel) ⟨Nat.le_of_ble_eq_true rfl, Nat.le_of_ble_eq_true rfl⟩) ⟨zfb, va_recv hK hP (ci := 5) (q0 := 0) rfl rfl, zpre hPc hK⟩ rfl rfl hl.1 rfl (lv_room (Nat.le_of_ble_eq_true rfl)) dX5_springs_103 ⟨Nat.le_of_ble_eq_true rfl, Nat.le_of_ble_eq_true rfl⟩) hS (fun q _ h => h.elim) (fun q h => h.elim) (fun r29 u9 t9 H locs ht9 hvm9 hr29 hB9 hz9 hk1 hS => ?_)
                  have hP := zro1 hP hk1
                  have hr29 : r29 = zb (zgt (T (y * iw + x)) z0) := by rw [hr29, zgr_at gT x y (by omega) (by omega) (by omega)]
                  subst hr29
                  refine z_if_eq_b (tgt := 145) hx hb dX5_springs_106 (by decide) (fun c30 => ?_) (fun c31 => ?_)
                  · skip
                    have cw := c30
                    refine lv_dconst0 hx hb dX5_springs_145 ?_
                    exact J_146 FP.dconst0 _ _ _ _ (by rw [zN0_at (by omega)]; exact (if_neg (fun hh => by obtain ⟨h1, h2, h3⟩ := hh; first | omega | (rw [cw] at h2; exact absurd h2 (by decide)) | (rw [cw2] at h3; exact absurd h3 (by decide)))).symm) hd0 hP hD hS hl
                  · skip
                    have cw := c31
                    refine lv_aload_n hx hb dX5_springs_109 rfl (lv_at hl 3 rfl) ?_
                    refine lv_iload_n hx hb dX5_springs_110 rfl (lv_at hl 0 rfl) ?_
                    refine lv_bipush (v := (nI 6)) hx hb dX5_springs_111 (by decide) ?_
                    refine t_iadd hx hb dX5_springs_113 (v := nI (6 * y + x + 6)) (zi_add (by omega)) ?_
                    have hPc := hP
                    refine va_calli (va_runV (As := [.int (nI (6 * y + x + 6))]) (rest := [.int (nI (6 * y + x)), .ref aN]) ⟨hx, hb, hml, hown, (dr_words hts d0)⟩ (c5_isWood l dC dI a0 aT aE aG aR aN aS aQ aW aX cD cI th iw ih fa fb fd ib mk im iq tT tE tG (zu fR (6 * y + x) v1) fN tS tQ tW tX (6 * y + x + 6) (by omega)) (cwV 1 (dr_words hts d0) gX5_springs_X5_isWood rfl rfl rfl (by decide +kernel) ⟨Nat.le_of_ble_eq_true rfl, Nat.le_of_ble_eq_true rfl⟩) ⟨zfb, va_recv hK hP (ci := 5) (q0 := 0) rfl rfl, zpre hPc hK⟩ rfl rfl hl.1 rfl (lv_room (Nat.le_of_ble_eq_true rfl)) dX5_springs_114 ⟨Nat.le_of_ble_eq_true rfl, Nat.le_of_ble_eq_true rfl⟩) hS (fun q _ h => h.elim) (fun q h => h.elim) (fun r32 u9 t9 H locs ht9 hvm9 hr32 hB9 hz9 hk1 hS => ?_)
                    have hP := zro1 hP hk1
                    have hr32 : r32 = zb (zgt (T ((y + 1) * iw + x)) z0) := by rw [hr32, zgr_at gT x (y + 1) (by omega) (by omega) (by omega)]
                    subst hr32
                    refine z_if_eq_b (tgt := 145) hx hb dX5_springs_117 (by decide) (fun c33 => ?_) (fun c34 => ?_)
                    · skip
                      have cw2 := c33
                      refine lv_dconst0 hx hb dX5_springs_145 ?_
                      exact J_146 FP.dconst0 _ _ _ _ (by rw [zN0_at (by omega)]; exact (if_neg (fun hh => by obtain ⟨h1, h2, h3⟩ := hh; first | omega | (rw [cw] at h2; exact absurd h2 (by decide)) | (rw [cw2] at h3; exact absurd h3 (by decide)))).symm) hd0 hP hD hS hl
                    · skip
                      have cw2 := c34
                      refine lv_aload_n hx hb dX5_springs_120 rfl (lv_at hl 3 rfl) ?_
                      refine va_get (D := (dC, dI)) (ci := 5) (v := .double fb) (C := RX5) (T := TX5) (N := 19) hx hb (dr_words hts d0) (in_X5_springs_X5) hown hK hP 0 rfl rfl 5 (by decide) (dr_words hts d0 (.fieldLink RX5 17 "PlateModesModel" "b" "D") (by decide +kernel)) (fun _ h9 => h9) rfl dX5_springs_121 ?_
                      refine lv_aload_n hx hb dX5_springs_124 rfl (lv_at hl 3 rfl) ?_
                      refine va_get (D := (dC, dI)) (ci := 5) (v := .ref aT) (C := RX5) (T := TX5) (N := 19) hx hb (dr_words hts d0) (in_X5_springs_X5) hown hK hP 0 rfl rfl 3 (by decide) (dr_words hts d0 (.fieldLink RX5 7 "PlateModesModel" "thicks" "[D") (by decide +kernel)) (fun _ h9 => h9) rfl dX5_springs_125 ?_
                      refine lv_iload_n hx hb dX5_springs_128 rfl (lv_at hl 0 rfl) ?_
                      refine z_dald (s := s.setDrawn d0) (n := 36) (i := 6 * y + x) hx hb hK hP 1 0 rfl rfl (by omega) (by decide) dX5_springs_129 ?_
                      refine lv_aload_n hx hb dX5_springs_130 rfl (lv_at hl 3 rfl) ?_
                      refine va_get (D := (dC, dI)) (ci := 5) (v := .ref aT) (C := RX5) (T := TX5) (N := 19) hx hb (dr_words hts d0) (in_X5_springs_X5) hown hK hP 0 rfl rfl 3 (by decide) (dr_words hts d0 (.fieldLink RX5 7 "PlateModesModel" "thicks" "[D") (by decide +kernel)) (fun _ h9 => h9) rfl dX5_springs_131 ?_
                      refine lv_iload_n hx hb dX5_springs_134 rfl (lv_at hl 0 rfl) ?_
                      refine lv_bipush (v := (nI 6)) hx hb dX5_springs_135 (by decide) ?_
                      refine t_iadd hx hb dX5_springs_137 (v := nI (6 * y + x + 6)) (zi_add (by omega)) ?_
                      refine z_dald (s := s.setDrawn d0) (n := 36) (i := 6 * y + x + 6) hx hb hK hP 1 0 rfl rfl (by omega) (by decide) dX5_springs_138 ?_
                      refine va_calldD hd0 (va_runS_D (As := [.double fb, .double (tT (6 * y + x)), .double (tT (6 * y + x + 6))]) (rest := [.int (nI (6 * y + x)), .ref aN]) ⟨hx, hb, hml, hown, (dr_words hts d0)⟩ (c5_spring l fb (tT (6 * y + x)) (tT (6 * y + x + 6))) (va_cwS 3 (dr_words hts d0) gX5_springs_X5_spring rfl rfl rfl (by decide +kernel) ⟨Nat.le_of_ble_eq_true rfl, Nat.le_of_ble_eq_true rfl⟩) ⟨zfb0, zpre0⟩ rfl rfl hl.1 rfl (lv_room (Nat.le_of_ble_eq_true rfl)) dX5_springs_139 ⟨Nat.le_of_ble_eq_true rfl, Nat.le_of_ble_eq_true rfl⟩) hS (fun q _ h => h.elim) (fun q h => h.elim) (fun r35 u9 t9 H locs ht9 hvm9 hr35 hB9 hz9 hk1 hS dhd36 hd36 => ?_)
                      have hP := zro1 hP hk1
                      have hr35 : zv r35 = zspring (zv fb) (T (y * iw + x)) (T ((y + 1) * iw + x)) := by rw [hr35, (show zv (tT (6 * y + x)) = T (y * iw + x) from zgr_at gT x y (by omega) (by omega) (by omega)), (show zv (tT (6 * y + x + 6)) = T ((y + 1) * iw + x) from zgr_at gT x (y + 1) (by omega) (by omega) (by omega))]
                      refine lv_goto (tgt := 146) hx hb dX5_springs_142 (by decide) ?_
                      exact J_146 r35 _ _ _ _ (by rw [zN0_at (by omega)]; exact (hr35).trans (if_pos ⟨by omega, cw, cw2⟩).symm) hd36 hP hD hS hl
              refine lv_aload_n hx hb dX5_springs_27 rfl (lv_at hl 3 rfl) ?_
              refine va_get (D := (dC, dI)) (ci := 5) (v := .ref aR) (C := RX5) (T := TX5) (N := 19) hx hb (dr_words hts d0) (in_X5_springs_X5) hown hK hP 0 rfl rfl 10 (by decide) (dr_words hts d0 (.fieldLink RX5 30 "PlateModesModel" "right" "[D") (by decide +kernel)) (fun _ h9 => h9) rfl dX5_springs_28 ?_
              refine lv_iload_n hx hb dX5_springs_31 rfl (lv_at hl 0 rfl) ?_
              refine lv_iload_n hx hb dX5_springs_32 rfl (lv_at hl 1 rfl) ?_
              refine lv_iconst (v := (nI 1)) hx hb dX5_springs_33 (by decide) ?_
              refine t_iadd hx hb dX5_springs_34 (v := nI (x + 1)) (zi_add (by omega)) ?_
              refine lv_aload_n hx hb dX5_springs_35 rfl (lv_at hl 3 rfl) ?_
              refine va_get (D := (dC, dI)) (ci := 5) (v := .int (nI iw)) (C := RX5) (T := TX5) (N := 19) hx hb (dr_words hts d0) (in_X5_springs_X5) hown hK hP 0 rfl rfl 1 (by decide) (dr_words hts d0 (.fieldLink RX5 48 "PlateModesModel" "width" "I") (by decide +kernel)) (fun _ h9 => h9) rfl dX5_springs_36 ?_
              refine z_icmp_ge (a := x + 1) (b := iw) (tgt := 84) hx hb (by omega) (by omega) dX5_springs_39 (by decide) (fun c37 => ?_) (fun c38 => ?_)
              · skip
                refine lv_dconst0 hx hb dX5_springs_84 ?_
                exact J_85 FP.dconst0 _ _ _ _ (by rw [zR0_at (by omega)]; exact (if_neg (fun hh => by obtain ⟨h1, h2, h3⟩ := hh; first | omega | (rw [cw] at h2; exact absurd h2 (by decide)) | (rw [cw2] at h3; exact absurd h3 (by decide)))).symm) hd0 hP hD hS hl
              · skip
                refine lv_aload_n hx hb dX5_springs_42 rfl (lv_at hl 3 rfl) ?_
                refine lv_iload_n hx hb dX5_springs_43 rfl (lv_at hl 0 rfl) ?_
                have hPc := hP
                refine va_calli (va_runV (As := [.int (nI (6 * y + x))]) (rest := [.int (nI (6 * y + x)), .ref aR]) ⟨hx, hb, hml, hown, (dr_words hts d0)⟩ (c5_isWood l dC dI a0 aT aE aG aR aN aS aQ aW aX cD cI th iw ih fa fb fd ib mk im iq tT tE tG fR fN tS tQ tW tX (6 * y + x) (by omega)) (cwV 1 (dr_words hts d0) gX5_springs_X5_isWood rfl rfl rfl (by decide +kernel) ⟨Nat.le_of_ble_eq_true rfl, Nat.le_of_ble_eq_true rfl⟩) ⟨zfb, va_recv hK hP (ci := 5) (q0 := 0) rfl rfl, zpre hPc hK⟩ rfl rfl hl.1 rfl (lv_room (Nat.le_of_ble_eq_true rfl)) dX5_springs_44 ⟨Nat.le_of_ble_eq_true rfl, Nat.le_of_ble_eq_true rfl⟩) hS (fun q _ h => h.elim) (fun q h => h.elim) (fun r39 u9 t9 H locs ht9 hvm9 hr39 hB9 hz9 hk1 hS => ?_)
                have hP := zro1 hP hk1
                have hr39 : r39 = zb (zgt (T (y * iw + x)) z0) := by rw [hr39, zgr_at gT x y (by omega) (by omega) (by omega)]
                subst hr39
                refine z_if_eq_b (tgt := 84) hx hb dX5_springs_47 (by decide) (fun c40 => ?_) (fun c41 => ?_)
                · skip
                  have cw := c40
                  refine lv_dconst0 hx hb dX5_springs_84 ?_
                  exact J_85 FP.dconst0 _ _ _ _ (by rw [zR0_at (by omega)]; exact (if_neg (fun hh => by obtain ⟨h1, h2, h3⟩ := hh; first | omega | (rw [cw] at h2; exact absurd h2 (by decide)) | (rw [cw2] at h3; exact absurd h3 (by decide)))).symm) hd0 hP hD hS hl
                · skip
                  have cw := c41
                  refine lv_aload_n hx hb dX5_springs_50 rfl (lv_at hl 3 rfl) ?_
                  refine lv_iload_n hx hb dX5_springs_51 rfl (lv_at hl 0 rfl) ?_
                  refine lv_iconst (v := (nI 1)) hx hb dX5_springs_52 (by decide) ?_
                  refine t_iadd hx hb dX5_springs_53 (v := nI (6 * y + x + 1)) (zi_add (by omega)) ?_
                  have hPc := hP
                  refine va_calli (va_runV (As := [.int (nI (6 * y + x + 1))]) (rest := [.int (nI (6 * y + x)), .ref aR]) ⟨hx, hb, hml, hown, (dr_words hts d0)⟩ (c5_isWood l dC dI a0 aT aE aG aR aN aS aQ aW aX cD cI th iw ih fa fb fd ib mk im iq tT tE tG fR fN tS tQ tW tX (6 * y + x + 1) (by omega)) (cwV 1 (dr_words hts d0) gX5_springs_X5_isWood rfl rfl rfl (by decide +kernel) ⟨Nat.le_of_ble_eq_true rfl, Nat.le_of_ble_eq_true rfl⟩) ⟨zfb, va_recv hK hP (ci := 5) (q0 := 0) rfl rfl, zpre hPc hK⟩ rfl rfl hl.1 rfl (lv_room (Nat.le_of_ble_eq_true rfl)) dX5_springs_54 ⟨Nat.le_of_ble_eq_true rfl, Nat.le_of_ble_eq_true rfl⟩) hS (fun q _ h => h.elim) (fun q h => h.elim) (fun r42 u9 t9 H locs ht9 hvm9 hr42 hB9 hz9 hk1 hS => ?_)
                  have hP := zro1 hP hk1
                  have hr42 : r42 = zb (zgt (T (y * iw + (x + 1))) z0) := by rw [hr42, zgr_at gT (x + 1) y (by omega) (by omega) (by omega)]
                  subst hr42
                  refine z_if_eq_b (tgt := 84) hx hb dX5_springs_57 (by decide) (fun c43 => ?_) (fun c44 => ?_)
                  · skip
                    have cw2 := c43
                    refine lv_dconst0 hx hb dX5_springs_84 ?_
                    exact J_85 FP.dconst0 _ _ _ _ (by rw [zR0_at (by omega)]; exact (if_neg (fun hh => by obtain ⟨h1, h2, h3⟩ := hh; first | omega | (rw [cw] at h2; exact absurd h2 (by decide)) | (rw [cw2] at h3; exact absurd h3 (by decide)))).symm) hd0 hP hD hS hl
                  · skip
                    have cw2 := c44
                    refine lv_aload_n hx hb dX5_springs_60 rfl (lv_at hl 3 rfl) ?_
                    refine va_get (D := (dC, dI)) (ci := 5) (v := .double fa) (C := RX5) (T := TX5) (N := 19) hx hb (dr_words hts d0) (in_X5_springs_X5) hown hK hP 0 rfl rfl 4 (by decide) (dr_words hts d0 (.fieldLink RX5 13 "PlateModesModel" "a" "D") (by decide +kernel)) (fun _ h9 => h9) rfl dX5_springs_61 ?_
                    refine lv_aload_n hx hb dX5_springs_64 rfl (lv_at hl 3 rfl) ?_
                    refine va_get (D := (dC, dI)) (ci := 5) (v := .ref aT) (C := RX5) (T := TX5) (N := 19) hx hb (dr_words hts d0) (in_X5_springs_X5) hown hK hP 0 rfl rfl 3 (by decide) (dr_words hts d0 (.fieldLink RX5 7 "PlateModesModel" "thicks" "[D") (by decide +kernel)) (fun _ h9 => h9) rfl dX5_springs_65 ?_
                    refine lv_iload_n hx hb dX5_springs_68 rfl (lv_at hl 0 rfl) ?_
                    refine z_dald (s := s.setDrawn d0) (n := 36) (i := 6 * y + x) hx hb hK hP 1 0 rfl rfl (by omega) (by decide) dX5_springs_69 ?_
                    refine lv_aload_n hx hb dX5_springs_70 rfl (lv_at hl 3 rfl) ?_
                    refine va_get (D := (dC, dI)) (ci := 5) (v := .ref aT) (C := RX5) (T := TX5) (N := 19) hx hb (dr_words hts d0) (in_X5_springs_X5) hown hK hP 0 rfl rfl 3 (by decide) (dr_words hts d0 (.fieldLink RX5 7 "PlateModesModel" "thicks" "[D") (by decide +kernel)) (fun _ h9 => h9) rfl dX5_springs_71 ?_
                    refine lv_iload_n hx hb dX5_springs_74 rfl (lv_at hl 0 rfl) ?_
                    refine lv_iconst (v := (nI 1)) hx hb dX5_springs_75 (by decide) ?_
                    refine t_iadd hx hb dX5_springs_76 (v := nI (6 * y + x + 1)) (zi_add (by omega)) ?_
                    refine z_dald (s := s.setDrawn d0) (n := 36) (i := 6 * y + x + 1) hx hb hK hP 1 0 rfl rfl (by omega) (by decide) dX5_springs_77 ?_
                    refine va_calldD hd0 (va_runS_D (As := [.double fa, .double (tT (6 * y + x)), .double (tT (6 * y + x + 1))]) (rest := [.int (nI (6 * y + x)), .ref aR]) ⟨hx, hb, hml, hown, (dr_words hts d0)⟩ (c5_spring l fa (tT (6 * y + x)) (tT (6 * y + x + 1))) (va_cwS 3 (dr_words hts d0) gX5_springs_X5_spring rfl rfl rfl (by decide +kernel) ⟨Nat.le_of_ble_eq_true rfl, Nat.le_of_ble_eq_true rfl⟩) ⟨zfb0, zpre0⟩ rfl rfl hl.1 rfl (lv_room (Nat.le_of_ble_eq_true rfl)) dX5_springs_78 ⟨Nat.le_of_ble_eq_true rfl, Nat.le_of_ble_eq_true rfl⟩) hS (fun q _ h => h.elim) (fun q h => h.elim) (fun r45 u9 t9 H locs ht9 hvm9 hr45 hB9 hz9 hk1 hS dhd46 hd46 => ?_)
                    have hP := zro1 hP hk1
                    have hr45 : zv r45 = zspring (zv fa) (T (y * iw + x)) (T (y * iw + (x + 1))) := by rw [hr45, (show zv (tT (6 * y + x)) = T (y * iw + x) from zgr_at gT x y (by omega) (by omega) (by omega)), (show zv (tT (6 * y + x + 1)) = T (y * iw + (x + 1)) from zgr_at gT (x + 1) y (by omega) (by omega) (by omega))]
                    refine lv_goto (tgt := 85) hx hb dX5_springs_81 (by decide) ?_
                    exact J_85 r45 _ _ _ _ (by rw [zR0_at (by omega)]; exact (hr45).trans (if_pos ⟨by omega, cw, cw2⟩).symm) hd46 hP hD hS hl
        exact L_12 _ 0 fR fN _ _ _ _ (Nat.lt_succ_self _) (by omega) hR hN hd0 hP hD hS hl
  exact L_2 _ 0 tR tN _ _ _ _ (Nat.lt_succ_self _) (by omega) (zgrp_n zgrp_0 (Nat.zero_mul _).symm) (zgrp_n zgrp_0 (Nat.zero_mul _).symm) hd0 hP hD hS hl
theorem in_X5_sweep_X5 : ∀ w ∈ wsX50, w ∈ wsX5_sweep := fun w h => List.mem_cons_of_mem _ (List.mem_append_right _ h)
set_option maxHeartbeats 4000000 in
set_option maxRecDepth 100000 in
/-- a sweep -/
theorem c5_sweep (l : Launch) (dC : Nat → ClassId) (dI : Nat → Nat → Nat) (a0 aT aE aG aR aN aS aQ aW aX : Nat) (cD cI : ClassId) (th : Int32) (iw ih : Nat) (fa fb fd : UInt64) (ib : Nat) (mk : Bool) (im iq : Nat) (tT : Nat → UInt64) (tE : Nat → Int32) (tG tR tN tS tQ : Nat → UInt64) (tW : Nat → Int32) (tX : Nat → UInt64) (k : Nat) (hk : k < 4) (hw6 : iw ≤ 6) (hh6 : ih ≤ 6) (T R N : Nat → ZD) (gT : zgr tT iw ih T) (gR : zgr tR iw ih R) (gN : zgr tN iw ih N) (S : Nat → ZD) (gS : zgs tS k iw ih S) (L : Nat → Nat → ZD) (gL : ∀ j, j < k → zgs tS j iw ih (L j)) (sz : Nat) : MetD lw_cs l yX5_sweep wsX5_sweep ({ frames := 2, cells := 0, slots := 0, locals := 48 } : Room) (va_Pc [.ref a0, .int (nI k)] (fun U => U.heap.size = sz ∧ va_P (dC, dI) vwCl (w5 a0 aT aE aG aR aN aS aQ aW aX cD cI th iw ih fa fb fd ib mk im iq tT tE tG tR tN tS tQ tW tX) U.heap ∧ va_K (dC, dI) vwCl [(cD, .double), (cI, .int)] U ∧ va_D (fun _ => True) (w5 a0 aT aE aG aR aN aS aQ aW aX cD cI th iw ih fa fb fd ib mk im iq tT tE tG tR tN tS tQ tW tX))) (va_Qi (fun (r : Int32) (u : Nat → UInt64) => r = zb (!zeq (zsz iw ih T R N (zv fd) k L S) z0) ∧ zgs u k iw ih (if zeq (zsz iw ih T R N (zv fd) k L S) z0 = true then (zsw1 iw ih T R N (zv fd) k L S) else znrm T (zsz iw ih T R N (zv fd) k L S) (zsw1 iw ih T R N (zv fd) k L S)) ∧ ∀ i, i < 36 * k → u i = tS i) (fun u t => (va_P (dC, dI) vwCl (w5 a0 aT aE aG aR aN aS aQ aW aX cD cI th iw ih fa fb fd ib mk im iq tT tE tG tR tN u tQ tW tX) t.heap ∧ va_K (dC, dI) vwCl [(cD, .double), (cI, .int)] t ∧ va_D (va_A (w5 a0 aT aE aG aR aN aS aQ aW aX cD cI th iw ih fa fb fd ib mk im iq tT tE tG tR tN tS tQ tW tX) sz) (w5 a0 aT aE aG aR aN aS aQ aW aX cD cI th iw ih fa fb fd ib mk im iq tT tE tG tR tN u tQ tW tX))) (va_A (w5 a0 aT aE aG aR aN aS aQ aW aX cD cI th iw ih fa fb fd ib mk im iq tT tE tG tR tN tS tQ tW tX) sz)) 0 0 (va_A (w5 a0 aT aE aG aR aN aS aQ aW aX cD cI th iw ih fa fb fd ib mk im iq tT tE tG tR tN tS tQ tW tX) sz) := by
  refine MetD.ofW (cc := cX5_sweep) (maxL := 6) (ret := (some .boolean)) (by decide) rfl ?_
  intro p e s m args below meth c s₁ B hml hv hd0
  obtain ⟨rfl, hsz, hP, hK, hD0⟩ := hv
  have hx := B.exec
  have hb := B.bytes
  have hr := B.returns
  have hts := atoms_spec (ws := wsX5_sweep) B.pre
  have hown : s.vm.findClass RX5 = some m.cls := findClass_of_methodNamed B.named
  have hlocks := B.notSynchronized
  subst hsz
  have hD := hD0.self (sz := s.heap.size)
  generalize hAe : va_A (w5 a0 aT aE aG aR aN aS aQ aW aX cD cI th iw ih fa fb fd ib mk im iq tT tE tG tR tN tS tQ tW tX) s.heap.size = A at hD ⊢
  have hA : ∀ q : Nat, s.heap.size ≤ q → A q := fun q h => by rw [← hAe]; exact Or.inr h
  have hS : va_S A s.heap s.heap [] := va_S.rf
  have hl := lv_entry ([.ref a0, .int (nI k)]) (n := 6) (Nat.le_of_ble_eq_true rfl)
  rw [lg_entry_eq]
  generalize (lg_sl ([.ref a0, .int (nI k)]) ++ List.replicate (6 - (lg_sl ([.ref a0, .int (nI k)])).length) Slot.unset).toArray = ls at hl ⊢
  have hl : lv_has ls 6 [(0, .ref a0), (1, .int (nI k))] := hl
  refine lv_iconst (v := (nI 0)) hx hb dX5_sweep_0 (by decide) ?_
  refine lv_istore_n (lv' := [(2, .int (nI 0)), (0, .ref a0), (1, .int (nI k))]) hx hb dX5_sweep_1 rfl hl (by decide) rfl (fun ls hl => ?_)
  have L_2 : ∀ (n : Nat) (y : Nat) (fS : Nat → UInt64) (d0 : Drawn) (H : Heap) (locs : List Loc) (ls : Array Slot), ih - y < n → (y ≤ ih) → (zgs fS k iw ih (zrel iw ih T R N (y * iw) S)) → (∀ i, i < 36 * k → fS i = tS i) → s.drawn.sameBut d0 lw_cs → va_P (dC, dI) vwCl (w5 a0 aT aE aG aR aN aS aQ aW aX cD cI th iw ih fa fb fd ib mk im iq tT tE tG tR tN fS tQ tW tX) H → va_D A (w5 a0 aT aE aG aR aN aS aQ aW aX cD cI th iw ih fa fb fd ib mk im iq tT tE tG tR tN fS tQ tW tX) → va_S A s.heap H locs → lv_has ls 6 [(2, .int (nI y)), (0, .ref a0), (1, .int (nI k))] → W p l e (headSpec wsX5_sweep ({ frames := 2, cells := 0, slots := 0, locals := 48 } : Room)).room (s.setDrawn d0) m ([.ref a0, .int (nI k)] : List Value).toArray below meth c H locs 0 0 (MQD lw_cs below (va_Qi (fun (r : Int32) (u : Nat → UInt64) => r = zb (!zeq (zsz iw ih T R N (zv fd) k L S) z0) ∧ zgs u k iw ih (if zeq (zsz iw ih T R N (zv fd) k L S) z0 = true then (zsw1 iw ih T R N (zv fd) k L S) else znrm T (zsz iw ih T R N (zv fd) k L S) (zsw1 iw ih T R N (zv fd) k L S)) ∧ ∀ i, i < 36 * k → u i = tS i) (fun u t => (va_P (dC, dI) vwCl (w5 a0 aT aE aG aR aN aS aQ aW aX cD cI th iw ih fa fb fd ib mk im iq tT tE tG tR tN u tQ tW tX) t.heap ∧ va_K (dC, dI) vwCl [(cD, .double), (cI, .int)] t ∧ va_D A (w5 a0 aT aE aG aR aN aS aQ aW aX cD cI th iw ih fa fb fd ib mk im iq tT tE tG tR tN u tQ tW tX))) A) ([.ref a0, .int (nI k)] : List Value).toArray s 0 0 A) (F0 m 2 ls []) := by
    intro n
    induction n with
    | zero => intro y fS d0 H locs ls hn; exact absurd hn (Nat.not_lt_zero _)
    | succ n ih_L_2 =>
      intro y fS d0 H locs ls hn hyh hq1 hf1 hd0 hP hD hS hl
      refine lv_iload_n hx hb dX5_sweep_2 rfl (lv_at hl 0 rfl) ?_
      refine lv_aload_n hx hb dX5_sweep_3 rfl (lv_at hl 1 rfl) ?_
      refine va_get (D := (dC, dI)) (ci := 5) (v := .int (nI ih)) (C := RX5) (T := TX5) (N := 19) hx hb (dr_words hts d0) (in_X5_sweep_X5) hown hK hP 0 rfl rfl 2 (by decide) (dr_words hts d0 (.fieldLink RX5 52 "PlateModesModel" "height" "I") (by decide +kernel)) (fun _ h9 => h9) rfl dX5_sweep_4 ?_
      refine z_icmp_ge (a := y) (b := ih) (tgt := 91) hx hb (by omega) (by omega) dX5_sweep_7 (by decide) (fun c1 => ?_) (fun c2 => ?_)
      · skip
        refine lv_iconst (v := (nI 0)) hx hb dX5_sweep_91 (by decide) ?_
        refine lv_istore_n (lv' := [(2, .int (nI 0)), (0, .ref a0), (1, .int (nI k))]) hx hb dX5_sweep_92 rfl hl (by decide) rfl (fun ls hl => ?_)
        have L_93 : ∀ (n : Nat) (j : Nat) (fJ : Nat → UInt64) (d0 : Drawn) (H : Heap) (locs : List Loc) (ls : Array Slot), k - j < n → (j ≤ k) → (zgs fJ k iw ih (ztake T (zv fd) (iw * ih) L j (zrel iw ih T R N (iw * ih) S))) → (∀ i, i < 36 * k → fJ i = tS i) → s.drawn.sameBut d0 lw_cs → va_P (dC, dI) vwCl (w5 a0 aT aE aG aR aN aS aQ aW aX cD cI th iw ih fa fb fd ib mk im iq tT tE tG tR tN fJ tQ tW tX) H → va_D A (w5 a0 aT aE aG aR aN aS aQ aW aX cD cI th iw ih fa fb fd ib mk im iq tT tE tG tR tN fJ tQ tW tX) → va_S A s.heap H locs → lv_has ls 6 [(2, .int (nI j)), (0, .ref a0), (1, .int (nI k))] → W p l e (headSpec wsX5_sweep ({ frames := 2, cells := 0, slots := 0, locals := 48 } : Room)).room (s.setDrawn d0) m ([.ref a0, .int (nI k)] : List Value).toArray below meth c H locs 0 0 (MQD lw_cs below (va_Qi (fun (r : Int32) (u : Nat → UInt64) => r = zb (!zeq (zsz iw ih T R N (zv fd) k L S) z0) ∧ zgs u k iw ih (if zeq (zsz iw ih T R N (zv fd) k L S) z0 = true then (zsw1 iw ih T R N (zv fd) k L S) else znrm T (zsz iw ih T R N (zv fd) k L S) (zsw1 iw ih T R N (zv fd) k L S)) ∧ ∀ i, i < 36 * k → u i = tS i) (fun u t => (va_P (dC, dI) vwCl (w5 a0 aT aE aG aR aN aS aQ aW aX cD cI th iw ih fa fb fd ib mk im iq tT tE tG tR tN u tQ tW tX) t.heap ∧ va_K (dC, dI) vwCl [(cD, .double), (cI, .int)] t ∧ va_D A (w5 a0 aT aE aG aR aN aS aQ aW aX cD cI th iw ih fa fb fd ib mk im iq tT tE tG tR tN u tQ tW tX))) A) ([.ref a0, .int (nI k)] : List Value).toArray s 0 0 A) (F0 m 93 ls []) := by
          intro n
          induction n with
          | zero => intro j fJ d0 H locs ls hn; exact absurd hn (Nat.not_lt_zero _)
          | succ n ih_L_93 =>
            intro j fJ d0 H locs ls hn hj hq3 hf3 hd0 hP hD hS hl
            refine lv_iload_n hx hb dX5_sweep_93 rfl (lv_at hl 0 rfl) ?_
            refine lv_iload_n hx hb dX5_sweep_94 rfl (lv_at hl 2 rfl) ?_
            refine z_icmp_ge (a := j) (b := k) (tgt := 179) hx hb (by omega) (by omega) dX5_sweep_95 (by decide) (fun c3 => ?_) (fun c4 => ?_)
            · skip
              have hq5 : zgs fJ k iw ih (zsw1 iw ih T R N (zv fd) k L S) := by rw [show j = k by omega] at hq3; exact hq3
              refine lv_aload_n hx hb dX5_sweep_179 rfl (lv_at hl 1 rfl) ?_
              refine lv_iload_n hx hb dX5_sweep_180 rfl (lv_at hl 2 rfl) ?_
              refine lv_iload_n hx hb dX5_sweep_181 rfl (lv_at hl 2 rfl) ?_
              have hPc := hP
              refine va_calldD hd0 (va_runV_D (As := [.int (nI k), .int (nI k)]) (rest := []) ⟨hx, hb, hml, hown, (dr_words hts d0)⟩ (c5_productOf l dC dI a0 aT aE aG aR aN aS aQ aW aX cD cI th iw ih fa fb fd ib mk im iq tT tE tG tR tN fJ tQ tW tX k k (by omega) (by omega) hw6 hh6 T (zsw1 iw ih T R N (zv fd) k L S) (zsw1 iw ih T R N (zv fd) k L S) gT hq5 hq5) (cwV 2 (dr_words hts d0) gX5_sweep_X5_productOf rfl rfl rfl (by decide +kernel) ⟨Nat.le_of_ble_eq_true rfl, Nat.le_of_ble_eq_true rfl⟩) ⟨zfb, va_recv hK hP (ci := 5) (q0 := 0) rfl rfl, zpre hPc hK⟩ rfl rfl hl.1 rfl (lv_room (Nat.le_of_ble_eq_true rfl)) dX5_sweep_182 ⟨Nat.le_of_ble_eq_true rfl, Nat.le_of_ble_eq_true rfl⟩) hS (fun q _ h => h.elim) (fun q h => h.elim) (fun r5 u9 t9 H locs ht9 hvm9 hr5 hB9 hz9 hk1 hS dhd6 hd6 => ?_)
              have hP := zro1 hP hk1
              refine va_calldD hd6 (va_runS_D (As := [.double r5]) (rest := []) ⟨hx, hb, hml, hown, (dr_words hts dhd6)⟩ (c5_root l r5) (va_cwS 1 (dr_words hts dhd6) gX5_sweep_X5_root rfl rfl rfl (by decide +kernel) ⟨Nat.le_of_ble_eq_true rfl, Nat.le_of_ble_eq_true rfl⟩) ⟨zfb0, zpre0⟩ rfl rfl hl.1 rfl (lv_room (Nat.le_of_ble_eq_true rfl)) dX5_sweep_185 ⟨Nat.le_of_ble_eq_true rfl, Nat.le_of_ble_eq_true rfl⟩) hS (fun q _ h => h.elim) (fun q h => h.elim) (fun r7 u9 t9 H locs ht9 hvm9 hr7 hB9 hz9 hk1 hS dhd8 hd8 => ?_)
              have hP := zro1 hP hk1
              have hr7 : zv r7 = (zsz iw ih T R N (zv fd) k L S) := hr7.trans (congrArg zroot hr5)
              refine lv_dstore_n (lv' := [(2, .double r7), (0, .ref a0), (1, .int (nI k))]) hx hb dX5_sweep_188 rfl hl (by decide) rfl (fun ls hl => ?_)
              by_cases hz : zeq (zsz iw ih T R N (zv fd) k L S) z0 = true
              · skip
                refine lv_iconst (v := (nI 0)) hx hb dX5_sweep_189 (by decide) ?_
                refine lv_istore (lv' := [(4, .int (nI 0)), (2, .double r7), (0, .ref a0), (1, .int (nI k))]) hx hb dX5_sweep_190 hl (by decide) rfl (fun ls hl => ?_)
                refine lv_iload hx hb dX5_sweep_192 (lv_at hl 0 rfl) ?_
                refine lv_bipush (v := (nI 36)) hx hb dX5_sweep_194 (by decide) ?_
                refine z_icmp_ge (a := 0) (b := 36) (tgt := 250) hx hb (by omega) (by omega) dX5_sweep_196 (by decide) (fun c9 => ?_) (fun c10 => ?_)
                · skip
                  exact absurd c9 (by decide)
                · skip
                  refine lv_dload_n hx hb dX5_sweep_199 rfl (lv_at hl 1 rfl) ?_
                  refine lv_dconst0 hx hb dX5_sweep_200 ?_
                  refine z_cmp_l_eq (tgt := 250) hx hb (a := (zsz iw ih T R N (zv fd) k L S)) (b := z0) hr7 rfl dX5_sweep_201 dX5_sweep_202 (by decide) (fun c11 => ?_) (fun c12 => ?_)
                  · skip
                    refine lv_dload_n hx hb dX5_sweep_250 rfl (lv_at hl 1 rfl) ?_
                    refine lv_dconst0 hx hb dX5_sweep_251 ?_
                    refine z_cmp_l_eq (tgt := 260) hx hb (a := (zsz iw ih T R N (zv fd) k L S)) (b := z0) hr7 rfl dX5_sweep_252 dX5_sweep_253 (by decide) (fun c13 => ?_) (fun c14 => ?_)
                    · skip
                      refine lv_iconst (v := (nI 0)) hx hb dX5_sweep_260 (by decide) ?_
                      refine W.endD hd8 ?_
                      exact W.zret (v := (nI 0)) hx hb hr rfl (fun t ht hW => ⟨⟨(nI 0), fJ, rfl, ⟨by rw [hz]; rfl, by rw [if_pos hz]; exact hq5, hf3⟩, by rw [ht]; exact hP, va_K.moved hW.alike hK, hD⟩, hS.F ht⟩) hS.2.2 dX5_sweep_261
                    · skip
                      exact absurd (hz.symm.trans c14) (by decide)
                  · skip
                    exact absurd (hz.symm.trans c12) (by decide)
              · skip
                have hz : zeq (zsz iw ih T R N (zv fd) k L S) z0 = false := (Bool.not_eq_true _).mp hz
                refine lv_iconst (v := (nI 0)) hx hb dX5_sweep_189 (by decide) ?_
                refine lv_istore (lv' := [(4, .int (nI 0)), (2, .double r7), (0, .ref a0), (1, .int (nI k))]) hx hb dX5_sweep_190 hl (by decide) rfl (fun ls hl => ?_)
                have L_192 : ∀ (n : Nat) (c0 : Nat) (fC : Nat → UInt64) (d0 : Drawn) (H : Heap) (locs : List Loc) (ls : Array Slot), 36 - c0 < n → (c0 ≤ 36) → (zgsp fC k iw ih c0 (znrm T (zsz iw ih T R N (zv fd) k L S) (zsw1 iw ih T R N (zv fd) k L S)) (zsw1 iw ih T R N (zv fd) k L S)) → (∀ i, i < 36 * k → fC i = tS i) → s.drawn.sameBut d0 lw_cs → va_P (dC, dI) vwCl (w5 a0 aT aE aG aR aN aS aQ aW aX cD cI th iw ih fa fb fd ib mk im iq tT tE tG tR tN fC tQ tW tX) H → va_D A (w5 a0 aT aE aG aR aN aS aQ aW aX cD cI th iw ih fa fb fd ib mk im iq tT tE tG tR tN fC tQ tW tX) → va_S A s.heap H locs → lv_has ls 6 [(4, .int (nI c0)), (2, .double r7), (0, .ref a0), (1, .int (nI k))] → W p l e (headSpec wsX5_sweep ({ frames := 2, cells := 0, slots := 0, locals := 48 } : Room)).room (s.setDrawn d0) m ([.ref a0, .int (nI k)] : List Value).toArray below meth c H locs 0 0 (MQD lw_cs below (va_Qi (fun (r : Int32) (u : Nat → UInt64) => r = zb (!zeq (zsz iw ih T R N (zv fd) k L S) z0) ∧ zgs u k iw ih (if zeq (zsz iw ih T R N (zv fd) k L S) z0 = true then (zsw1 iw ih T R N (zv fd) k L S) else znrm T (zsz iw ih T R N (zv fd) k L S) (zsw1 iw ih T R N (zv fd) k L S)) ∧ ∀ i, i < 36 * k → u i = tS i) (fun u t => (va_P (dC, dI) vwCl (w5 a0 aT aE aG aR aN aS aQ aW aX cD cI th iw ih fa fb fd ib mk im iq tT tE tG tR tN u tQ tW tX) t.heap ∧ va_K (dC, dI) vwCl [(cD, .double), (cI, .int)] t ∧ va_D A (w5 a0 aT aE aG aR aN aS aQ aW aX cD cI th iw ih fa fb fd ib mk im iq tT tE tG tR tN u tQ tW tX))) A) ([.ref a0, .int (nI k)] : List Value).toArray s 0 0 A) (F0 m 192 ls []) := by
                  intro n
                  induction n with
                  | zero => intro c0 fC d0 H locs ls hn; exact absurd hn (Nat.not_lt_zero _)
                  | succ n ih_L_192 =>
                    intro c0 fC d0 H locs ls hn hc hq6 hf6 hd0 hP hD hS hl
                    refine lv_iload hx hb dX5_sweep_192 (lv_at hl 0 rfl) ?_
                    refine lv_bipush (v := (nI 36)) hx hb dX5_sweep_194 (by decide) ?_
                    refine z_icmp_ge (a := c0) (b := 36) (tgt := 250) hx hb (by omega) (by omega) dX5_sweep_196 (by decide) (fun c15 => ?_) (fun c16 => ?_)
                    · skip
                      refine lv_dload_n hx hb dX5_sweep_250 rfl (lv_at hl 1 rfl) ?_
                      refine lv_dconst0 hx hb dX5_sweep_251 ?_
                      refine z_cmp_l_eq (tgt := 260) hx hb (a := (zsz iw ih T R N (zv fd) k L S)) (b := z0) hr7 rfl dX5_sweep_252 dX5_sweep_253 (by decide) (fun c17 => ?_) (fun c18 => ?_)
                      · skip
                        exact absurd (hz.symm.trans c17) (by decide)
                      · skip
                        refine lv_iconst (v := (nI 1)) hx hb dX5_sweep_256 (by decide) ?_
                        refine lv_goto (tgt := 261) hx hb dX5_sweep_257 (by decide) ?_
                        refine W.endD hd0 ?_
                        exact W.zret (v := (nI 1)) hx hb hr rfl (fun t ht hW => ⟨⟨(nI 1), fC, rfl, ⟨by rw [hz]; rfl, by rw [if_neg (by rw [hz]; decide)]; exact zgsp_all hw6 hh6 (by omega) hq6, hf6⟩, by rw [ht]; exact hP, va_K.moved hW.alike hK, hD⟩, hS.F ht⟩) hS.2.2 dX5_sweep_261
                    · skip
                      refine lv_dload_n hx hb dX5_sweep_199 rfl (lv_at hl 1 rfl) ?_
                      refine lv_dconst0 hx hb dX5_sweep_200 ?_
                      refine z_cmp_l_eq (tgt := 250) hx hb (a := (zsz iw ih T R N (zv fd) k L S)) (b := z0) hr7 rfl dX5_sweep_201 dX5_sweep_202 (by decide) (fun c19 => ?_) (fun c20 => ?_)
                      · skip
                        exact absurd (hz.symm.trans c19) (by decide)
                      · skip
                        refine lv_aload_n hx hb dX5_sweep_205 rfl (lv_at hl 2 rfl) ?_
                        refine va_get (D := (dC, dI)) (ci := 5) (v := .ref aS) (C := RX5) (T := TX5) (N := 19) hx hb (dr_words hts d0) (in_X5_sweep_X5) hown hK hP 0 rfl rfl 14 (by decide) (dr_words hts d0 (.fieldLink RX5 36 "PlateModesModel" "shapes" "[D") (by decide +kernel)) (fun _ h9 => h9) rfl dX5_sweep_206 ?_
                        refine lv_bipush (v := (nI 36)) hx hb dX5_sweep_209 (by decide) ?_
                        refine lv_iload_n hx hb dX5_sweep_211 rfl (lv_at hl 3 rfl) ?_
                        refine t_imul hx hb dX5_sweep_212 (v := nI (36 * k)) (zi_mul rfl) ?_
                        refine lv_iload hx hb dX5_sweep_213 (lv_at hl 0 rfl) ?_
                        refine t_iadd hx hb dX5_sweep_215 (v := nI (36 * k + c0)) (zi_add (by omega)) ?_
                        refine lv_aload_n hx hb dX5_sweep_216 rfl (lv_at hl 2 rfl) ?_
                        refine lv_iload hx hb dX5_sweep_217 (lv_at hl 0 rfl) ?_
                        have hPc := hP
                        refine va_calli (va_runV (As := [.int (nI c0)]) (rest := [.int (nI (36 * k + c0)), .ref aS]) ⟨hx, hb, hml, hown, (dr_words hts d0)⟩ (c5_isWood l dC dI a0 aT aE aG aR aN aS aQ aW aX cD cI th iw ih fa fb fd ib mk im iq tT tE tG tR tN fC tQ tW tX c0 (by omega)) (cwV 1 (dr_words hts d0) gX5_sweep_X5_isWood rfl rfl rfl (by decide +kernel) ⟨Nat.le_of_ble_eq_true rfl, Nat.le_of_ble_eq_true rfl⟩) ⟨zfb, va_recv hK hP (ci := 5) (q0 := 0) rfl rfl, zpre hPc hK⟩ rfl rfl hl.1 rfl (lv_room (Nat.le_of_ble_eq_true rfl)) dX5_sweep_219 ⟨Nat.le_of_ble_eq_true rfl, Nat.le_of_ble_eq_true rfl⟩) hS (fun q _ h => h.elim) (fun q h => h.elim) (fun r21 u9 t9 H locs ht9 hvm9 hr21 hB9 hz9 hk1 hS => ?_)
                        have hP := zro1 hP hk1
                        subst hr21
                        refine z_if_eq_b (tgt := 242) hx hb dX5_sweep_222 (by decide) (fun c22 => ?_) (fun c23 => ?_)
                        · skip
                          have cw := c22
                          refine lv_dconst0 hx hb dX5_sweep_242 ?_
                          refine z_dast (s := s.setDrawn d0) (n := 144) (i := 36 * k + c0) hx hb hK hP hD hS 6 0 rfl rfl (by omega) (by decide) dX5_sweep_243 (fun H locs hP hD hS => ?_)
                          have hP : va_P (dC, dI) vwCl (w5 a0 aT aE aG aR aN aS aQ aW aX cD cI th iw ih fa fb fd ib mk im iq tT tE tG tR tN (zu fC (36 * k + c0) FP.dconst0) tQ tW tX) H := hP
                          have hD : va_D A (w5 a0 aT aE aG aR aN aS aQ aW aX cD cI th iw ih fa fb fd ib mk im iq tT tE tG tR tN (zu fC (36 * k + c0) FP.dconst0) tQ tW tX) := hD
                          refine lv_iinc (v := nI (c0 + 1)) (lv' := [(4, .int (nI (c0 + 1))), (2, .double r7), (0, .ref a0), (1, .int (nI k))]) hx hb dX5_sweep_244 hl (k := 0) rfl (show nI c0 + nI 1 = _ from zi_add (by omega)) (by decide) rfl (fun ls hl => ?_)
                          refine lv_goto (tgt := 192) hx hb dX5_sweep_247 (by decide) ?_
                          exact ih_L_192 (c0 + 1) (zu fC (36 * k + c0) FP.dconst0) _ _ _ _ (by omega) (by omega) (zgsp_put hq6 (znrm_n gT rfl cw) rfl) (fun i hi => (zu_n (by omega)).trans (hf6 i hi)) hd0 hP hD hS hl
                        · skip
                          have cw := c23
                          refine lv_aload_n hx hb dX5_sweep_225 rfl (lv_at hl 2 rfl) ?_
                          refine va_get (D := (dC, dI)) (ci := 5) (v := .ref aS) (C := RX5) (T := TX5) (N := 19) hx hb (dr_words hts d0) (in_X5_sweep_X5) hown hK hP 0 rfl rfl 14 (by decide) (dr_words hts d0 (.fieldLink RX5 36 "PlateModesModel" "shapes" "[D") (by decide +kernel)) (fun _ h9 => h9) rfl dX5_sweep_226 ?_
                          refine lv_bipush (v := (nI 36)) hx hb dX5_sweep_229 (by decide) ?_
                          refine lv_iload_n hx hb dX5_sweep_231 rfl (lv_at hl 3 rfl) ?_
                          refine t_imul hx hb dX5_sweep_232 (v := nI (36 * k)) (zi_mul rfl) ?_
                          refine lv_iload hx hb dX5_sweep_233 (lv_at hl 0 rfl) ?_
                          refine t_iadd hx hb dX5_sweep_235 (v := nI (36 * k + c0)) (zi_add (by omega)) ?_
                          refine z_dald (s := s.setDrawn d0) (n := 144) (i := 36 * k + c0) hx hb hK hP 6 0 rfl rfl (by omega) (by decide) dX5_sweep_236 ?_
                          refine lv_dload_n hx hb dX5_sweep_237 rfl (lv_at hl 1 rfl) ?_
                          refine zr_ddiv hd0 hx hb (a := zv (fC (36 * k + c0))) (b := (zsz iw ih T R N (zv fd) k L S)) rfl hr7 dX5_sweep_238 (fun r24 d25 hr24 hd25 => ?_)
                          refine lv_goto (tgt := 243) hx hb dX5_sweep_239 (by decide) ?_
                          refine z_dast (s := s.setDrawn d25) (n := 144) (i := 36 * k + c0) hx hb hK hP hD hS 6 0 rfl rfl (by omega) (by decide) dX5_sweep_243 (fun H locs hP hD hS => ?_)
                          have hP : va_P (dC, dI) vwCl (w5 a0 aT aE aG aR aN aS aQ aW aX cD cI th iw ih fa fb fd ib mk im iq tT tE tG tR tN (zu fC (36 * k + c0) r24) tQ tW tX) H := hP
                          have hD : va_D A (w5 a0 aT aE aG aR aN aS aQ aW aX cD cI th iw ih fa fb fd ib mk im iq tT tE tG tR tN (zu fC (36 * k + c0) r24) tQ tW tX) := hD
                          refine lv_iinc (v := nI (c0 + 1)) (lv' := [(4, .int (nI (c0 + 1))), (2, .double r7), (0, .ref a0), (1, .int (nI k))]) hx hb dX5_sweep_244 hl (k := 0) rfl (show nI c0 + nI 1 = _ from zi_add (by omega)) (by decide) rfl (fun ls hl => ?_)
                          refine lv_goto (tgt := 192) hx hb dX5_sweep_247 (by decide) ?_
                          exact ih_L_192 (c0 + 1) (zu fC (36 * k + c0) r24) _ _ _ _ (by omega) (by omega) (zgsp_put hq6 (znrm_w gT hq6 hr24 cw) rfl) (fun i hi => (zu_n (by omega)).trans (hf6 i hi)) hd25 hP hD hS hl
                exact L_192 _ 0 fJ _ _ _ _ (Nat.lt_succ_self _) (by omega) (zgsp_0 hq5) hf3 hd8 hP hD hS hl
            · skip
              refine lv_aload_n hx hb dX5_sweep_98 rfl (lv_at hl 1 rfl) ?_
              refine lv_iload_n hx hb dX5_sweep_99 rfl (lv_at hl 2 rfl) ?_
              refine lv_iload_n hx hb dX5_sweep_100 rfl (lv_at hl 0 rfl) ?_
              have hPc := hP
              refine va_calldD hd0 (va_runV_D (As := [.int (nI k), .int (nI j)]) (rest := []) ⟨hx, hb, hml, hown, (dr_words hts d0)⟩ (c5_productOf l dC dI a0 aT aE aG aR aN aS aQ aW aX cD cI th iw ih fa fb fd ib mk im iq tT tE tG tR tN fJ tQ tW tX k j (by omega) (by omega) hw6 hh6 T (ztake T (zv fd) (iw * ih) L j (zrel iw ih T R N (iw * ih) S)) (L j) gT hq3 (zgs_low hw6 hh6 hf3 (by omega) (gL j (by omega)))) (cwV 2 (dr_words hts d0) gX5_sweep_X5_productOf rfl rfl rfl (by decide +kernel) ⟨Nat.le_of_ble_eq_true rfl, Nat.le_of_ble_eq_true rfl⟩) ⟨zfb, va_recv hK hP (ci := 5) (q0 := 0) rfl rfl, zpre hPc hK⟩ rfl rfl hl.1 rfl (lv_room (Nat.le_of_ble_eq_true rfl)) dX5_sweep_101 ⟨Nat.le_of_ble_eq_true rfl, Nat.le_of_ble_eq_true rfl⟩) hS (fun q _ h => h.elim) (fun q h => h.elim) (fun r26 u9 t9 H locs ht9 hvm9 hr26 hB9 hz9 hk1 hS dhd27 hd27 => ?_)
              have hP := zro1 hP hk1
              refine lv_dstore_n (lv' := [(3, .double r26), (2, .int (nI j)), (0, .ref a0), (1, .int (nI k))]) hx hb dX5_sweep_104 rfl hl (by decide) rfl (fun ls hl => ?_)
              refine lv_iconst (v := (nI 0)) hx hb dX5_sweep_105 (by decide) ?_
              refine lv_istore (lv' := [(5, .int (nI 0)), (3, .double r26), (2, .int (nI j)), (0, .ref a0), (1, .int (nI k))]) hx hb dX5_sweep_106 hl (by decide) rfl (fun ls hl => ?_)
              have L_108 : ∀ (n : Nat) (c0 : Nat) (fC : Nat → UInt64) (d0 : Drawn) (H : Heap) (locs : List Loc) (ls : Array Slot), 36 - c0 < n → (c0 ≤ 36) → (zgsp fC k iw ih c0 (ztk T (zprod T (ztake T (zv fd) (iw * ih) L j (zrel iw ih T R N (iw * ih) S)) (L j) (zv fd) (iw * ih)) (L j) (ztake T (zv fd) (iw * ih) L j (zrel iw ih T R N (iw * ih) S))) (ztake T (zv fd) (iw * ih) L j (zrel iw ih T R N (iw * ih) S))) → (∀ i, i < 36 * k → fC i = tS i) → s.drawn.sameBut d0 lw_cs → va_P (dC, dI) vwCl (w5 a0 aT aE aG aR aN aS aQ aW aX cD cI th iw ih fa fb fd ib mk im iq tT tE tG tR tN fC tQ tW tX) H → va_D A (w5 a0 aT aE aG aR aN aS aQ aW aX cD cI th iw ih fa fb fd ib mk im iq tT tE tG tR tN fC tQ tW tX) → va_S A s.heap H locs → lv_has ls 6 [(5, .int (nI c0)), (3, .double r26), (2, .int (nI j)), (0, .ref a0), (1, .int (nI k))] → W p l e (headSpec wsX5_sweep ({ frames := 2, cells := 0, slots := 0, locals := 48 } : Room)).room (s.setDrawn d0) m ([.ref a0, .int (nI k)] : List Value).toArray below meth c H locs 0 0 (MQD lw_cs below (va_Qi (fun (r : Int32) (u : Nat → UInt64) => r = zb (!zeq (zsz iw ih T R N (zv fd) k L S) z0) ∧ zgs u k iw ih (if zeq (zsz iw ih T R N (zv fd) k L S) z0 = true then (zsw1 iw ih T R N (zv fd) k L S) else znrm T (zsz iw ih T R N (zv fd) k L S) (zsw1 iw ih T R N (zv fd) k L S)) ∧ ∀ i, i < 36 * k → u i = tS i) (fun u t => (va_P (dC, dI) vwCl (w5 a0 aT aE aG aR aN aS aQ aW aX cD cI th iw ih fa fb fd ib mk im iq tT tE tG tR tN u tQ tW tX) t.heap ∧ va_K (dC, dI) vwCl [(cD, .double), (cI, .int)] t ∧ va_D A (w5 a0 aT aE aG aR aN aS aQ aW aX cD cI th iw ih fa fb fd ib mk im iq tT tE tG tR tN u tQ tW tX))) A) ([.ref a0, .int (nI k)] : List Value).toArray s 0 0 A) (F0 m 108 ls []) := by
                intro n
                induction n with
                | zero => intro c0 fC d0 H locs ls hn; exact absurd hn (Nat.not_lt_zero _)
                | succ n ih_L_108 =>
                  intro c0 fC d0 H locs ls hn hc hq4 hf4 hd0 hP hD hS hl
                  refine lv_iload hx hb dX5_sweep_108 (lv_at hl 0 rfl) ?_
                  refine lv_bipush (v := (nI 36)) hx hb dX5_sweep_110 (by decide) ?_
                  refine z_icmp_ge (a := c0) (b := 36) (tgt := 173) hx hb (by omega) (by omega) dX5_sweep_112 (by decide) (fun c28 => ?_) (fun c29 => ?_)
                  · skip
                    refine lv_iinc (v := nI (j + 1)) (lv' := [(2, .int (nI (j + 1))), (5, .int (nI c0)), (3, .double r26), (0, .ref a0), (1, .int (nI k))]) hx hb dX5_sweep_173 hl (k := 2) rfl (show nI j + nI 1 = _ from zi_add (by omega)) (by decide) rfl (fun ls hl => ?_)
                    refine lv_goto (tgt := 93) hx hb dX5_sweep_176 (by decide) ?_
                    exact ih_L_93 (j + 1) fC _ _ _ _ (by omega) (by omega) (zgs_c ztake_s.symm (zgsp_all hw6 hh6 (by omega) hq4)) hf4 hd0 hP hD hS (lv_sub hl [0, 3, 4] rfl)
                  · skip
                    refine lv_aload_n hx hb dX5_sweep_115 rfl (lv_at hl 3 rfl) ?_
                    refine va_get (D := (dC, dI)) (ci := 5) (v := .ref aS) (C := RX5) (T := TX5) (N := 19) hx hb (dr_words hts d0) (in_X5_sweep_X5) hown hK hP 0 rfl rfl 14 (by decide) (dr_words hts d0 (.fieldLink RX5 36 "PlateModesModel" "shapes" "[D") (by decide +kernel)) (fun _ h9 => h9) rfl dX5_sweep_116 ?_
                    refine lv_bipush (v := (nI 36)) hx hb dX5_sweep_119 (by decide) ?_
                    refine lv_iload_n hx hb dX5_sweep_121 rfl (lv_at hl 4 rfl) ?_
                    refine t_imul hx hb dX5_sweep_122 (v := nI (36 * k)) (zi_mul rfl) ?_
                    refine lv_iload hx hb dX5_sweep_123 (lv_at hl 0 rfl) ?_
                    refine t_iadd hx hb dX5_sweep_125 (v := nI (36 * k + c0)) (zi_add (by omega)) ?_
                    refine lv_aload_n hx hb dX5_sweep_126 rfl (lv_at hl 3 rfl) ?_
                    refine lv_iload hx hb dX5_sweep_127 (lv_at hl 0 rfl) ?_
                    have hPc := hP
                    refine va_calli (va_runV (As := [.int (nI c0)]) (rest := [.int (nI (36 * k + c0)), .ref aS]) ⟨hx, hb, hml, hown, (dr_words hts d0)⟩ (c5_isWood l dC dI a0 aT aE aG aR aN aS aQ aW aX cD cI th iw ih fa fb fd ib mk im iq tT tE tG tR tN fC tQ tW tX c0 (by omega)) (cwV 1 (dr_words hts d0) gX5_sweep_X5_isWood rfl rfl rfl (by decide +kernel) ⟨Nat.le_of_ble_eq_true rfl, Nat.le_of_ble_eq_true rfl⟩) ⟨zfb, va_recv hK hP (ci := 5) (q0 := 0) rfl rfl, zpre hPc hK⟩ rfl rfl hl.1 rfl (lv_room (Nat.le_of_ble_eq_true rfl)) dX5_sweep_129 ⟨Nat.le_of_ble_eq_true rfl, Nat.le_of_ble_eq_true rfl⟩) hS (fun q _ h => h.elim) (fun q h => h.elim) (fun r30 u9 t9 H locs ht9 hvm9 hr30 hB9 hz9 hk1 hS => ?_)
                    have hP := zro1 hP hk1
                    subst hr30
                    refine z_if_eq_b (tgt := 165) hx hb dX5_sweep_132 (by decide) (fun c31 => ?_) (fun c32 => ?_)
                    · skip
                      have cw := c31
                      refine lv_dconst0 hx hb dX5_sweep_165 ?_
                      refine z_dast (s := s.setDrawn d0) (n := 144) (i := 36 * k + c0) hx hb hK hP hD hS 6 0 rfl rfl (by omega) (by decide) dX5_sweep_166 (fun H locs hP hD hS => ?_)
                      have hP : va_P (dC, dI) vwCl (w5 a0 aT aE aG aR aN aS aQ aW aX cD cI th iw ih fa fb fd ib mk im iq tT tE tG tR tN (zu fC (36 * k + c0) FP.dconst0) tQ tW tX) H := hP
                      have hD : va_D A (w5 a0 aT aE aG aR aN aS aQ aW aX cD cI th iw ih fa fb fd ib mk im iq tT tE tG tR tN (zu fC (36 * k + c0) FP.dconst0) tQ tW tX) := hD
                      refine lv_iinc (v := nI (c0 + 1)) (lv' := [(5, .int (nI (c0 + 1))), (3, .double r26), (2, .int (nI j)), (0, .ref a0), (1, .int (nI k))]) hx hb dX5_sweep_167 hl (k := 0) rfl (show nI c0 + nI 1 = _ from zi_add (by omega)) (by decide) rfl (fun ls hl => ?_)
                      refine lv_goto (tgt := 108) hx hb dX5_sweep_170 (by decide) ?_
                      exact ih_L_108 (c0 + 1) (zu fC (36 * k + c0) FP.dconst0) _ _ _ _ (by omega) (by omega) (zgsp_put hq4 (ztk_n gT rfl cw) rfl) (fun i hi => (zu_n (by omega)).trans (hf4 i hi)) hd0 hP hD hS hl
                    · skip
                      have cw := c32
                      refine lv_aload_n hx hb dX5_sweep_135 rfl (lv_at hl 3 rfl) ?_
                      refine va_get (D := (dC, dI)) (ci := 5) (v := .ref aS) (C := RX5) (T := TX5) (N := 19) hx hb (dr_words hts d0) (in_X5_sweep_X5) hown hK hP 0 rfl rfl 14 (by decide) (dr_words hts d0 (.fieldLink RX5 36 "PlateModesModel" "shapes" "[D") (by decide +kernel)) (fun _ h9 => h9) rfl dX5_sweep_136 ?_
                      refine lv_bipush (v := (nI 36)) hx hb dX5_sweep_139 (by decide) ?_
                      refine lv_iload_n hx hb dX5_sweep_141 rfl (lv_at hl 4 rfl) ?_
                      refine t_imul hx hb dX5_sweep_142 (v := nI (36 * k)) (zi_mul rfl) ?_
                      refine lv_iload hx hb dX5_sweep_143 (lv_at hl 0 rfl) ?_
                      refine t_iadd hx hb dX5_sweep_145 (v := nI (36 * k + c0)) (zi_add (by omega)) ?_
                      refine z_dald (s := s.setDrawn d0) (n := 144) (i := 36 * k + c0) hx hb hK hP 6 0 rfl rfl (by omega) (by decide) dX5_sweep_146 ?_
                      refine lv_dload_n hx hb dX5_sweep_147 rfl (lv_at hl 1 rfl) ?_
                      refine lv_aload_n hx hb dX5_sweep_148 rfl (lv_at hl 3 rfl) ?_
                      refine va_get (D := (dC, dI)) (ci := 5) (v := .ref aS) (C := RX5) (T := TX5) (N := 19) hx hb (dr_words hts d0) (in_X5_sweep_X5) hown hK hP 0 rfl rfl 14 (by decide) (dr_words hts d0 (.fieldLink RX5 36 "PlateModesModel" "shapes" "[D") (by decide +kernel)) (fun _ h9 => h9) rfl dX5_sweep_149 ?_
                      refine lv_bipush (v := (nI 36)) hx hb dX5_sweep_152 (by decide) ?_
                      refine lv_iload_n hx hb dX5_sweep_154 rfl (lv_at hl 2 rfl) ?_
                      refine t_imul hx hb dX5_sweep_155 (v := nI (36 * j)) (zi_mul rfl) ?_
                      refine lv_iload hx hb dX5_sweep_156 (lv_at hl 0 rfl) ?_
                      refine t_iadd hx hb dX5_sweep_158 (v := nI (36 * j + c0)) (zi_add (by omega)) ?_
                      refine z_dald (s := s.setDrawn d0) (n := 144) (i := 36 * j + c0) hx hb hK hP 6 0 rfl rfl (by omega) (by decide) dX5_sweep_159 ?_
                      refine zr_dmul hd0 hx hb (a := zprod T (ztake T (zv fd) (iw * ih) L j (zrel iw ih T R N (iw * ih) S)) (L j) (zv fd) (iw * ih)) (b := zv (fC (36 * j + c0))) hr26 rfl dX5_sweep_160 (fun r33 d34 hr33 hd34 => ?_)
                      refine zr_dsub hd34 hx hb (a := zv (fC (36 * k + c0))) (b := zM (zprod T (ztake T (zv fd) (iw * ih) L j (zrel iw ih T R N (iw * ih) S)) (L j) (zv fd) (iw * ih)) (zv (fC (36 * j + c0)))) rfl hr33 dX5_sweep_161 (fun r35 d36 hr35 hd36 => ?_)
                      refine lv_goto (tgt := 166) hx hb dX5_sweep_162 (by decide) ?_
                      refine z_dast (s := s.setDrawn d36) (n := 144) (i := 36 * k + c0) hx hb hK hP hD hS 6 0 rfl rfl (by omega) (by decide) dX5_sweep_166 (fun H locs hP hD hS => ?_)
                      have hP : va_P (dC, dI) vwCl (w5 a0 aT aE aG aR aN aS aQ aW aX cD cI th iw ih fa fb fd ib mk im iq tT tE tG tR tN (zu fC (36 * k + c0) r35) tQ tW tX) H := hP
                      have hD : va_D A (w5 a0 aT aE aG aR aN aS aQ aW aX cD cI th iw ih fa fb fd ib mk im iq tT tE tG tR tN (zu fC (36 * k + c0) r35) tQ tW tX) := hD
                      refine lv_iinc (v := nI (c0 + 1)) (lv' := [(5, .int (nI (c0 + 1))), (3, .double r26), (2, .int (nI j)), (0, .ref a0), (1, .int (nI k))]) hx hb dX5_sweep_167 hl (k := 0) rfl (show nI c0 + nI 1 = _ from zi_add (by omega)) (by decide) rfl (fun ls hl => ?_)
                      refine lv_goto (tgt := 108) hx hb dX5_sweep_170 (by decide) ?_
                      exact ih_L_108 (c0 + 1) (zu fC (36 * k + c0) r35) _ _ _ _ (by omega) (by omega) (zgsp_put hq4 (ztk_w gT hq4 (zgs_low hw6 hh6 hf4 (by omega) (gL j (by omega))) hr35 cw) rfl) (fun i hi => (zu_n (by omega)).trans (hf4 i hi)) hd36 hP hD hS hl
              exact L_108 _ 0 fJ _ _ _ _ (Nat.lt_succ_self _) (by omega) (zgsp_0 hq3) hf3 hd27 hP hD hS hl
        exact L_93 _ 0 fS _ _ _ _ (Nat.lt_succ_self _) (by omega) (zgs_c (congrArg (fun z => zrel iw ih T R N z S) (show y * iw = iw * ih from by rw [show y = ih by omega, Nat.mul_comm])) hq1) hf1 hd0 hP hD hS hl
      · skip
        refine lv_iconst (v := (nI 0)) hx hb dX5_sweep_10 (by decide) ?_
        refine lv_istore_n (lv' := [(3, .int (nI 0)), (2, .int (nI y)), (0, .ref a0), (1, .int (nI k))]) hx hb dX5_sweep_11 rfl hl (by decide) rfl (fun ls hl => ?_)
        have L_12 : ∀ (n : Nat) (x : Nat) (fS : Nat → UInt64) (d0 : Drawn) (H : Heap) (locs : List Loc) (ls : Array Slot), iw - x < n → (x ≤ iw) → (zgs fS k iw ih (zrel iw ih T R N (y * iw + x) S)) → (∀ i, i < 36 * k → fS i = tS i) → s.drawn.sameBut d0 lw_cs → va_P (dC, dI) vwCl (w5 a0 aT aE aG aR aN aS aQ aW aX cD cI th iw ih fa fb fd ib mk im iq tT tE tG tR tN fS tQ tW tX) H → va_D A (w5 a0 aT aE aG aR aN aS aQ aW aX cD cI th iw ih fa fb fd ib mk im iq tT tE tG tR tN fS tQ tW tX) → va_S A s.heap H locs → lv_has ls 6 [(3, .int (nI x)), (2, .int (nI y)), (0, .ref a0), (1, .int (nI k))] → W p l e (headSpec wsX5_sweep ({ frames := 2, cells := 0, slots := 0, locals := 48 } : Room)).room (s.setDrawn d0) m ([.ref a0, .int (nI k)] : List Value).toArray below meth c H locs 0 0 (MQD lw_cs below (va_Qi (fun (r : Int32) (u : Nat → UInt64) => r = zb (!zeq (zsz iw ih T R N (zv fd) k L S) z0) ∧ zgs u k iw ih (if zeq (zsz iw ih T R N (zv fd) k L S) z0 = true then (zsw1 iw ih T R N (zv fd) k L S) else znrm T (zsz iw ih T R N (zv fd) k L S) (zsw1 iw ih T R N (zv fd) k L S)) ∧ ∀ i, i < 36 * k → u i = tS i) (fun u t => (va_P (dC, dI) vwCl (w5 a0 aT aE aG aR aN aS aQ aW aX cD cI th iw ih fa fb fd ib mk im iq tT tE tG tR tN u tQ tW tX) t.heap ∧ va_K (dC, dI) vwCl [(cD, .double), (cI, .int)] t ∧ va_D A (w5 a0 aT aE aG aR aN aS aQ aW aX cD cI th iw ih fa fb fd ib mk im iq tT tE tG tR tN u tQ tW tX))) A) ([.ref a0, .int (nI k)] : List Value).toArray s 0 0 A) (F0 m 12 ls []) := by
          intro n
          induction n with
          | zero => intro x fS d0 H locs ls hn; exact absurd hn (Nat.not_lt_zero _)
          | succ n ih_L_12 =>
            intro x fS d0 H locs ls hn hxw hq2 hf2 hd0 hP hD hS hl
            refine lv_iload_n hx hb dX5_sweep_12 rfl (lv_at hl 0 rfl) ?_
            refine lv_aload_n hx hb dX5_sweep_13 rfl (lv_at hl 2 rfl) ?_
            refine va_get (D := (dC, dI)) (ci := 5) (v := .int (nI iw)) (C := RX5) (T := TX5) (N := 19) hx hb (dr_words hts d0) (in_X5_sweep_X5) hown hK hP 0 rfl rfl 1 (by decide) (dr_words hts d0 (.fieldLink RX5 48 "PlateModesModel" "width" "I") (by decide +kernel)) (fun _ h9 => h9) rfl dX5_sweep_14 ?_
            refine z_icmp_ge (a := x) (b := iw) (tgt := 85) hx hb (by omega) (by omega) dX5_sweep_17 (by decide) (fun c37 => ?_) (fun c38 => ?_)
            · skip
              refine lv_iinc (v := nI (y + 1)) (lv' := [(2, .int (nI (y + 1))), (3, .int (nI x)), (0, .ref a0), (1, .int (nI k))]) hx hb dX5_sweep_85 hl (k := 1) rfl (show nI y + nI 1 = _ from zi_add (by omega)) (by decide) rfl (fun ls hl => ?_)
              refine lv_goto (tgt := 2) hx hb dX5_sweep_88 (by decide) ?_
              exact ih_L_2 (y + 1) fS _ _ _ _ (by omega) (by omega) (zgs_c (congrArg (fun z => zrel iw ih T R N z S) (show y * iw + x = (y + 1) * iw from by rw [← zrow_end]; omega)) hq2) hf2 hd0 hP hD hS (lv_sub hl [0, 2, 3] rfl)
            · skip
              refine lv_bipush (v := (nI 36)) hx hb dX5_sweep_20 (by decide) ?_
              refine lv_iload_n hx hb dX5_sweep_22 rfl (lv_at hl 3 rfl) ?_
              refine t_imul hx hb dX5_sweep_23 (v := nI (36 * k)) (zi_mul rfl) ?_
              refine lv_bipush (v := (nI 6)) hx hb dX5_sweep_24 (by decide) ?_
              refine lv_iload_n hx hb dX5_sweep_26 rfl (lv_at hl 1 rfl) ?_
              refine t_imul hx hb dX5_sweep_27 (v := nI (6 * y)) (zi_mul rfl) ?_
              refine t_iadd hx hb dX5_sweep_28 (v := nI (36 * k + 6 * y)) (zi_add (by omega)) ?_
              refine lv_iload_n hx hb dX5_sweep_29 rfl (lv_at hl 0 rfl) ?_
              refine t_iadd hx hb dX5_sweep_30 (v := nI (36 * k + 6 * y + x)) (zi_add (by omega)) ?_
              refine lv_istore (lv' := [(4, .int (nI (36 * k + 6 * y + x))), (3, .int (nI x)), (2, .int (nI y)), (0, .ref a0), (1, .int (nI k))]) hx hb dX5_sweep_31 hl (by decide) rfl (fun ls hl => ?_)
              refine lv_aload_n hx hb dX5_sweep_33 rfl (lv_at hl 3 rfl) ?_
              refine lv_bipush (v := (nI 6)) hx hb dX5_sweep_34 (by decide) ?_
              refine lv_iload_n hx hb dX5_sweep_36 rfl (lv_at hl 2 rfl) ?_
              refine t_imul hx hb dX5_sweep_37 (v := nI (6 * y)) (zi_mul rfl) ?_
              refine lv_iload_n hx hb dX5_sweep_38 rfl (lv_at hl 1 rfl) ?_
              refine t_iadd hx hb dX5_sweep_39 (v := nI (6 * y + x)) (zi_add (by omega)) ?_
              have hPc := hP
              refine va_calli (va_runV (As := [.int (nI (6 * y + x))]) (rest := []) ⟨hx, hb, hml, hown, (dr_words hts d0)⟩ (c5_isWood l dC dI a0 aT aE aG aR aN aS aQ aW aX cD cI th iw ih fa fb fd ib mk im iq tT tE tG tR tN fS tQ tW tX (6 * y + x) (by omega)) (cwV 1 (dr_words hts d0) gX5_sweep_X5_isWood rfl rfl rfl (by decide +kernel) ⟨Nat.le_of_ble_eq_true rfl, Nat.le_of_ble_eq_true rfl⟩) ⟨zfb, va_recv hK hP (ci := 5) (q0 := 0) rfl rfl, zpre hPc hK⟩ rfl rfl hl.1 rfl (lv_room (Nat.le_of_ble_eq_true rfl)) dX5_sweep_40 ⟨Nat.le_of_ble_eq_true rfl, Nat.le_of_ble_eq_true rfl⟩) hS (fun q _ h => h.elim) (fun q h => h.elim) (fun r39 u9 t9 H locs ht9 hvm9 hr39 hB9 hz9 hk1 hS => ?_)
              have hP := zro1 hP hk1
              have hr39 : r39 = zb (zgt (T (y * iw + x)) z0) := by rw [hr39, zgr_at gT x y (by omega) (by omega) (by omega)]
              subst hr39
              refine z_if_eq_b (tgt := 79) hx hb dX5_sweep_43 (by decide) (fun c40 => ?_) (fun c41 => ?_)
              · skip
                have cw := c40
                refine lv_iinc (v := nI (x + 1)) (lv' := [(3, .int (nI (x + 1))), (4, .int (nI (36 * k + 6 * y + x))), (2, .int (nI y)), (0, .ref a0), (1, .int (nI k))]) hx hb dX5_sweep_79 hl (k := 1) rfl (show nI x + nI 1 = _ from zi_add (by omega)) (by decide) rfl (fun ls hl => ?_)
                refine lv_goto (tgt := 12) hx hb dX5_sweep_82 (by decide) ?_
                exact ih_L_12 (x + 1) fS _ _ _ _ (by omega) (by omega) (zgs_c (zrel_f cw).symm hq2) hf2 hd0 hP hD hS (lv_sub hl [0, 2, 3, 4] rfl)
              · skip
                have cw := c41
                refine lv_aload_n hx hb dX5_sweep_46 rfl (lv_at hl 3 rfl) ?_
                refine va_get (D := (dC, dI)) (ci := 5) (v := .ref aS) (C := RX5) (T := TX5) (N := 19) hx hb (dr_words hts d0) (in_X5_sweep_X5) hown hK hP 0 rfl rfl 14 (by decide) (dr_words hts d0 (.fieldLink RX5 36 "PlateModesModel" "shapes" "[D") (by decide +kernel)) (fun _ h9 => h9) rfl dX5_sweep_47 ?_
                refine lv_iload hx hb dX5_sweep_50 (lv_at hl 0 rfl) ?_
                refine lv_aload_n hx hb dX5_sweep_52 rfl (lv_at hl 3 rfl) ?_
                refine va_get (D := (dC, dI)) (ci := 5) (v := .ref aS) (C := RX5) (T := TX5) (N := 19) hx hb (dr_words hts d0) (in_X5_sweep_X5) hown hK hP 0 rfl rfl 14 (by decide) (dr_words hts d0 (.fieldLink RX5 36 "PlateModesModel" "shapes" "[D") (by decide +kernel)) (fun _ h9 => h9) rfl dX5_sweep_53 ?_
                refine lv_iload hx hb dX5_sweep_56 (lv_at hl 0 rfl) ?_
                refine z_dald (s := s.setDrawn d0) (n := 144) (i := 36 * k + 6 * y + x) hx hb hK hP 6 0 rfl rfl (by omega) (by decide) dX5_sweep_58 ?_
                refine lv_ldc2d (v := 4602678819172646912) hx hb hown (dr_words hts d0 (.constantDouble RX5 93 (4602678819172646912)) (by decide +kernel)) dX5_sweep_59 ?_
                refine lv_aload_n hx hb dX5_sweep_62 rfl (lv_at hl 3 rfl) ?_
                refine lv_iload_n hx hb dX5_sweep_63 rfl (lv_at hl 4 rfl) ?_
                refine lv_iload_n hx hb dX5_sweep_64 rfl (lv_at hl 1 rfl) ?_
                refine lv_iload_n hx hb dX5_sweep_65 rfl (lv_at hl 2 rfl) ?_
                have hPc := hP
                refine va_calldD hd0 (va_runV_D (As := [.int (nI k), .int (nI x), .int (nI y)]) (rest := [.double 4602678819172646912, .double (fS (36 * k + 6 * y + x)), .int (nI (36 * k + 6 * y + x)), .ref aS]) ⟨hx, hb, hml, hown, (dr_words hts d0)⟩ (c5_force l dC dI a0 aT aE aG aR aN aS aQ aW aX cD cI th iw ih fa fb fd ib mk im iq tT tE tG tR tN fS tQ tW tX k x y (by omega) (by omega) (by omega) hw6 hh6 R N (zrel iw ih T R N (y * iw + x) S) gR gN hq2) (cwV 3 (dr_words hts d0) gX5_sweep_X5_force rfl rfl rfl (by decide +kernel) ⟨Nat.le_of_ble_eq_true rfl, Nat.le_of_ble_eq_true rfl⟩) ⟨zfb, va_recv hK hP (ci := 5) (q0 := 0) rfl rfl, zpre hPc hK⟩ rfl rfl hl.1 rfl (lv_room (Nat.le_of_ble_eq_true rfl)) dX5_sweep_66 ⟨Nat.le_of_ble_eq_true rfl, Nat.le_of_ble_eq_true rfl⟩) hS (fun q _ h => h.elim) (fun q h => h.elim) (fun r42 u9 t9 H locs ht9 hvm9 hr42 hB9 hz9 hk1 hS dhd43 hd43 => ?_)
                have hP := zro1 hP hk1
                refine zr_dmul hd43 hx hb (a := zv 4602678819172646912) (b := zforce iw ih R N (zrel iw ih T R N (y * iw + x) S) x y) rfl hr42 dX5_sweep_69 (fun r44 d45 hr44 hd45 => ?_)
                refine lv_aload_n hx hb dX5_sweep_70 rfl (lv_at hl 3 rfl) ?_
                refine lv_iload_n hx hb dX5_sweep_71 rfl (lv_at hl 1 rfl) ?_
                refine lv_iload_n hx hb dX5_sweep_72 rfl (lv_at hl 2 rfl) ?_
                have hPc := hP
                refine va_calldD hd45 (va_runV_D (As := [.int (nI x), .int (nI y)]) (rest := [.double r44, .double (fS (36 * k + 6 * y + x)), .int (nI (36 * k + 6 * y + x)), .ref aS]) ⟨hx, hb, hml, hown, (dr_words hts d45)⟩ (c5_hold l dC dI a0 aT aE aG aR aN aS aQ aW aX cD cI th iw ih fa fb fd ib mk im iq tT tE tG tR tN fS tQ tW tX x y (by omega) (by omega) hw6 hh6 R N gR gN) (cwV 2 (dr_words hts d45) gX5_sweep_X5_hold rfl rfl rfl (by decide +kernel) ⟨Nat.le_of_ble_eq_true rfl, Nat.le_of_ble_eq_true rfl⟩) ⟨zfb, va_recv hK hP (ci := 5) (q0 := 0) rfl rfl, zpre hPc hK⟩ rfl rfl hl.1 rfl (lv_room (Nat.le_of_ble_eq_true rfl)) dX5_sweep_73 ⟨Nat.le_of_ble_eq_true rfl, Nat.le_of_ble_eq_true rfl⟩) hS (fun q _ h => h.elim) (fun q h => h.elim) (fun r46 u9 t9 H locs ht9 hvm9 hr46 hB9 hz9 hk1 hS dhd47 hd47 => ?_)
                have hP := zro1 hP hk1
                refine zr_ddiv hd47 hx hb (a := zM (zv 4602678819172646912) (zforce iw ih R N (zrel iw ih T R N (y * iw + x) S) x y)) (b := zhold iw ih R N x y) hr44 hr46 dX5_sweep_76 (fun r48 d49 hr48 hd49 => ?_)
                refine zr_dadd hd49 hx hb (a := (zrel iw ih T R N (y * iw + x) S) (y * iw + x)) (b := zQ (zM (zv 4602678819172646912) (zforce iw ih R N (zrel iw ih T R N (y * iw + x) S) x y)) (zhold iw ih R N x y)) (zgs_at hq2 x y (by omega) (by omega) (by omega)) hr48 dX5_sweep_77 (fun r50 d51 hr50 hd51 => ?_)
                refine z_dast (s := s.setDrawn d51) (n := 144) (i := 36 * k + 6 * y + x) hx hb hK hP hD hS 6 0 rfl rfl (by omega) (by decide) dX5_sweep_78 (fun H locs hP hD hS => ?_)
                have hP : va_P (dC, dI) vwCl (w5 a0 aT aE aG aR aN aS aQ aW aX cD cI th iw ih fa fb fd ib mk im iq tT tE tG tR tN (zu fS (36 * k + 6 * y + x) r50) tQ tW tX) H := hP
                have hD : va_D A (w5 a0 aT aE aG aR aN aS aQ aW aX cD cI th iw ih fa fb fd ib mk im iq tT tE tG tR tN (zu fS (36 * k + 6 * y + x) r50) tQ tW tX) := hD
                refine lv_iinc (v := nI (x + 1)) (lv' := [(3, .int (nI (x + 1))), (4, .int (nI (36 * k + 6 * y + x))), (2, .int (nI y)), (0, .ref a0), (1, .int (nI k))]) hx hb dX5_sweep_79 hl (k := 1) rfl (show nI x + nI 1 = _ from zi_add (by omega)) (by decide) rfl (fun ls hl => ?_)
                refine lv_goto (tgt := 12) hx hb dX5_sweep_82 (by decide) ?_
                exact ih_L_12 (x + 1) (zu fS (36 * k + 6 * y + x) r50) _ _ _ _ (by omega) (by omega) (zgs_c (zrel_t (by omega) cw).symm (zgs_put hw6 hq2 (by omega) rfl hr50)) (fun i hi => (zu_n (by omega)).trans (hf2 i hi)) hd51 hP hD hS (lv_sub hl [0, 2, 3, 4] rfl)
        exact L_12 _ 0 fS _ _ _ _ (Nat.lt_succ_self _) (by omega) hq1 hf1 hd0 hP hD hS hl
  exact L_2 _ 0 tS _ _ _ _ (Nat.lt_succ_self _) (by omega) (zgs_c (show S = (zrel iw ih T R N (0 * iw) S) from by rw [Nat.zero_mul]; rfl) gS) (fun _ _ => rfl) hd0 hP hD hS hl
