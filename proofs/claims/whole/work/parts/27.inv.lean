/-! 27: what the class keeps and what the reference keeps, held against one state of the plate -/
def zI (iw ih : Nat) (al ac de : UInt64) (nb im iq : Nat) (tT : Nat → UInt64) (uP uF uL : Nat → Int32) (uH e0 e1 e2 e3 qS qU qO : Nat → UInt64) (tW : Nat → Int32) (tX : Nat → UInt64) (fa fb fd : UInt64) (mk : Bool) (i5 : Nat) (fT : Nat → UInt64) (fE : Nat → Int32) (fG fR fN fS fQ : Nat → UInt64) (fW : Nat → Int32) (fX : Nat → UInt64) (T : Nat → ZD) (bx0 by0 bx1 by1 : Nat → Nat) (bg : Nat → ZD) (wn : Nat → Nat) (ws : Nat → ZD) : Prop :=
  (2 ≤ iw ∧ iw ≤ 6 ∧ 2 ≤ ih ∧ ih ≤ 6) ∧ (zcr tT (iw * ih) T ∧ zgr fT iw ih T ∧ zeG T (iw * ih)) ∧
  (zv al = zv fa ∧ zv ac = zv fb ∧ zv de = zv fd ∧ zeR (zv al) ∧ zeR (zv ac) ∧ zeR (zv de)) ∧
  (nb ≤ 12 ∧ (∀ k, k < nb → zbr iw uP uF uL bx0 by0 bx1 by1 k) ∧ (∀ k, k < nb → fE (4 * k) = nI (bx0 k) ∧ fE (4 * k + 1) = nI (by0 k) ∧ fE (4 * k + 2) = nI (bx1 k) ∧ fE (4 * k + 3) = nI (by1 k)) ∧ (∀ k, k < nb → bx0 k ≤ bx1 k ∧ bx1 k < iw ∧ by0 k ≤ by1 k ∧ by1 k < ih) ∧ (∀ k, k < nb → zv (uH k) = bg k) ∧ (∀ k, k < nb → zv (fG k) = bg k) ∧ (∀ k, k < nb → zeR (bg k))) ∧
  (iq ≤ 4 ∧ (∀ i, i < iq → tW i = nI (wn i)) ∧ (∀ i, i < iq → fW i = nI (wn i)) ∧ (∀ i, i < iq → wn i < 4) ∧ (∀ i, i < iq → zv (tX i) = ws i) ∧ (∀ i, i < iq → zv (fX i) = ws i)) ∧
  qCm iw ih im T (zRB iw T (zv al) bx0 by0 bx1 bg nb) (zNB iw ih T (zv ac) bx0 by0 by1 bg nb) (zv de) e0 e1 e2 e3 qS qU qO ∧ q5m iw ih mk i5 fR fN fS fQ T (zRB iw T (zv fa) bx0 by0 bx1 bg nb) (zNB iw ih T (zv fb) bx0 by0 by1 bg nb) (zv fd) ∧ zmks mk i5 = im
/-- an eighth of an int -/
def zvv (n : Int32) : ZD := zM (zv (FP.i2d n)) c18
theorem zvv_f (n : Int32) : zef (zvv n) := FP.Core.round_fits FP.Core.good_b64 _
theorem ze_inj {x y : ZD} (fx : zef x) (fy : zef y) (h : FP.Core.order x y = some .eq) (h0 : FP.Core.zval FP.Core.b64 y ≠ 0) : x = y := by
  have hz : ¬ FP.Core.DZero (FP.Core.of64 y) := by
    rintro ⟨s, q, e⟩
    rw [FP.Core.val64_of64 fy] at e
    rw [e] at h0
    apply h0
    show FP.Core.signed s (0 * _) = 0
    rw [Nat.zero_mul, FP.Core.signed_zero]
  have h1 : FP.Core.dcmp (FP.Core.of64 x) (FP.Core.of64 y) = some .eq := by
    show FP.Core.order (FP.Core.val64 (FP.Core.of64 x)) (FP.Core.val64 (FP.Core.of64 y)) = some .eq
    rw [FP.Core.val64_of64 fx, FP.Core.val64_of64 fy]
    exact h
  have h2 := congrArg FP.Core.val64 (FP.Core.eq_bits hz h1)
  rw [FP.Core.val64_of64 fx, FP.Core.val64_of64 fy] at h2
  exact h2
theorem zeq_val {x y : ZD} (fx : zef x) (fy : zef y) (h : zeq x y = true) : x ≠ .nan ∧ y ≠ .nan ∧ FP.Core.order x y = some .eq ∧ FP.Core.zval FP.Core.b64 x = FP.Core.zval FP.Core.b64 y := by
  have ho : FP.Core.order x y = some .eq := of_decide_eq_true h
  have nx : x ≠ .nan := fun q => by rw [(FP.Core.order_none x y).mpr (Or.inl q)] at ho; cases ho
  have ny : y ≠ .nan := fun q => by rw [(FP.Core.order_none x y).mpr (Or.inr q)] at ho; cases ho
  have h2 := FP.Core.order_zval FP.Core.good_b64 fx fy nx ny
  have h3 := h2.symm.trans ho
  injection h3 with h3
  exact ⟨nx, ny, ho, (FP.Core.compare_eq_iff _ _).mp h3⟩
theorem zvv_0 : zvv 0 = z0 := by decide +kernel
theorem zvv_n0 {n : Int32} (h : n ≠ 0) : FP.Core.zval FP.Core.b64 (zvv n) ≠ 0 := by
  have hn : n.toInt ≠ 0 := FP.Core.int32_ne h
  have h1 : FP.Core.Whole n.toInt (zv (FP.i2d n)) := FP.Core.i2d_int n
  have h2 := FP.Core.whole_zval FP.Core.good_b64 (FP.Core.val64_fits _) h1
  have h3 : 2 ^ 1074 ≤ FP.Core.zmag FP.Core.b64 (zv (FP.i2d n)) := by
    have h4 := congrArg Int.natAbs h2
    unfold FP.Core.zval at h4
    rw [FP.Core.natAbs_signed, Int.natAbs_mul, Int.natAbs_natCast, FP.Core.qmin_b64, show (-(-1074 : Int)).toNat = 1074 from rfl] at h4
    change FP.Core.zmag FP.Core.b64 (zv (FP.i2d n)) = n.toInt.natAbs * 2 ^ 1074 at h4
    rw [h4]
    exact Nat.le_mul_of_pos_left _ (by omega)
  obtain ⟨s, c, q, e⟩ := FP.Core.i2d_fin n
  have b1 : zeB (FP.Core.zmag FP.Core.b64 (zv (FP.i2d n))) (zv (FP.i2d n)) := ⟨FP.Core.val64_fits _, ⟨s, c, q, e⟩, Nat.le_refl _⟩
  have b2 : zeB (2 ^ 1071) c18 := ⟨FP.Core.val64_fits _, ⟨false, 2 ^ 52, -55, by decide +kernel⟩, by decide +kernel⟩
  have h5 : 2 ^ 1071 ≤ FP.Core.zmag FP.Core.b64 c18 := by decide +kernel
  obtain ⟨h6, _, _⟩ := zeM_ge b1 b2 h3 h5 (k := 1071) (by decide) (by decide)
  have h7 : 0 < FP.Core.zmag FP.Core.b64 (zvv n) := Nat.lt_of_lt_of_le (Nat.two_pow_pos _) h6
  unfold FP.Core.zval
  intro q
  have := (FP.Core.signed_eq_zero _ _).mp q
  omega
theorem zvv_z {n : Int32} (h : zeq (zvv n) z0 = true) : zvv n = z0 := by
  by_cases hn : n = 0
  · rw [hn, zvv_0]
  · obtain ⟨_, _, _, h1⟩ := zeq_val (zvv_f n) ze_z0f h
    rw [ze_z0v] at h1
    exact absurd h1 (zvv_n0 hn)
theorem zvv_eq {n : Int32} {t : ZD} (ht : t = z0 ∨ zeR t) (h : zeq t (zvv n) = true) : t = zvv n := by
  rcases ht with rfl | ht
  · obtain ⟨_, _, _, h1⟩ := zeq_val ze_z0f (zvv_f n) h
    rw [ze_z0v] at h1
    by_cases hn : n = 0
    · rw [hn, zvv_0]
    · exact absurd h1.symm (zvv_n0 hn)
  · obtain ⟨_, _, h1, h2⟩ := zeq_val ht.1.1 (zvv_f n) h
    refine ze_inj ht.1.1 (zvv_f n) h1 ?_
    rw [← h2, ze_zval ht.1.2.2]
    have h3 := Nat.lt_of_lt_of_le (Nat.two_pow_pos 1071) ht.2.1
    show ((FP.Core.zmag FP.Core.b64 t : Nat) : Int) ≠ 0
    change 0 < FP.Core.zmag FP.Core.b64 t at h3
    omega
theorem zeG_put2 {T : Nat → ZD} {n c : Nat} {v : ZD} (h : zeG T n) (hv : v = z0 ∨ zeR v) : zeG (zu T c v) n := fun i hi => by
  by_cases e : i = c
  · rw [e, zu_s]; exact hv
  · rw [zu_n e]; exact h i hi
section ZIS
variable {iw ih : Nat} {al ac de : UInt64} {nb im iq : Nat} {tT : Nat → UInt64} {uP uF uL : Nat → Int32} {uH e0 e1 e2 e3 qS qU qO : Nat → UInt64} {tW : Nat → Int32} {tX : Nat → UInt64} {fa fb fd : UInt64} {mk : Bool} {i5 : Nat} {fT : Nat → UInt64} {fE : Nat → Int32} {fG fR fN fS fQ : Nat → UInt64} {fW : Nat → Int32} {fX : Nat → UInt64} {T : Nat → ZD} {bx0 by0 bx1 by1 : Nat → Nat} {bg : Nat → ZD} {wn : Nat → Nat} {ws : Nat → ZD}
theorem zI_OK (hI : zI iw ih al ac de nb im iq tT uP uF uL uH e0 e1 e2 e3 qS qU qO tW tX fa fb fd mk i5 fT fE fG fR fN fS fQ fW fX T bx0 by0 bx1 by1 bg wn ws) : ∀ Tq : Nat → ZD, zeG Tq (iw * ih) → zOK iw ih Tq (zRB iw Tq (zv al) bx0 by0 bx1 bg nb) (zNB iw ih Tq (zv ac) bx0 by0 by1 bg nb) (zv de) := by
  obtain ⟨⟨w2, w6, h2, h6⟩, _, ⟨_, _, _, rA, rC, rD⟩, ⟨b12, _, _, gB, _, _, gR⟩, _⟩ := hI
  intro Tq hT
  have hK : zeK iw ih nb bx0 by0 bx1 by1 bg := fun k hk => ⟨(gB k hk).1, (gB k hk).2.1, (gB k hk).2.2.1, (gB k hk).2.2.2, gR k hk⟩
  exact zOK_of (by omega) w6 h6 (zeS_of w6 h6 b12 hT rA rC hK) hT rD
theorem zI_im4 (hI : zI iw ih al ac de nb im iq tT uP uF uL uH e0 e1 e2 e3 qS qU qO tW tX fa fb fd mk i5 fT fE fG fR fN fS fQ fW fX T bx0 by0 bx1 by1 bg wn ws) : im ≤ 4 ∧ i5 ≤ 4 := ⟨hI.2.2.2.2.2.1.1, hI.2.2.2.2.2.2.1.1⟩
theorem zI_wood (hI : zI iw ih al ac de nb im iq tT uP uF uL uH e0 e1 e2 e3 qS qU qO tW tX fa fb fd mk i5 fT fE fG fR fN fS fQ fW fX T bx0 by0 bx1 by1 bg wn ws) {x y n : Int32} {v1 v2 : UInt64} (h1 : zv v1 = zvv n) (h2 : zv v2 = zvv n) {tT' fT' : Nat → UInt64} {im' : Nat} {mk' : Bool} {r5 : Int32}
    (hc0 : zcW iw ih x y (zv v1) = 0 → (zeq (zv (tT (zn y * iw + zn x))) (zv v1) = true → tT' = tT ∧ im' = im) ∧ (zeq (zv (tT (zn y * iw + zn x))) (zv v1) = false → tT' = zu tT (zn y * iw + zn x) v1 ∧ im' = 0)) (hc1 : ¬ zcW iw ih x y (zv v1) = 0 → tT' = tT ∧ im' = im)
    (h50 : zcW iw ih x y (zv v2) = 0 → r5 = zb (!zeq (zv (fT (6 * zn y + zn x))) (zv v2)) ∧ fT' = zu fT (6 * zn y + zn x) v2 ∧ mk' = (mk && !(!zeq (zv (fT (6 * zn y + zn x))) (zv v2)))) (h51 : ¬ zcW iw ih x y (zv v2) = 0 → fT' = fT ∧ mk' = mk) :
    (zcW iw ih x y (zv v1) = 0 → r5 = zb (!zeq (zv (tT (zn y * iw + zn x))) (zv v1))) ∧ ∃ T', zI iw ih al ac de nb im' iq tT' uP uF uL uH e0 e1 e2 e3 qS qU qO tW tX fa fb fd mk' i5 fT' fE fG fR fN fS fQ fW fX T' bx0 by0 bx1 by1 bg wn ws := by
  rw [h1] at hc0 hc1 ⊢
  rw [h2] at h50 h51
  obtain ⟨⟨w2, w6, h2', h6⟩, ⟨gT, g5, hG⟩, hR, hB, hQ, hqc, hq5, hm⟩ := id hI
  by_cases h0 : zcW iw ih x y (zvv n) = 0
  · obtain ⟨a1, a2⟩ := hc0 h0
    obtain ⟨b1, b2, b3⟩ := h50 h0
    have hnc : ¬ zncl iw ih x y := fun q => by unfold zcW at h0; rw [if_pos q] at h0; cases h0
    have hok : (zeq (zvv n) z0 || zbt (zvv n) c18 c8) = true := by
      unfold zcW at h0
      rw [if_neg hnc] at h0
      apply Classical.byContradiction
      intro q
      rw [if_neg q] at h0
      cases h0
    have hv : zvv n = z0 ∨ zeR (zvv n) := by
      rw [Bool.or_eq_true] at hok
      rcases hok with q | q
      · exact Or.inl (zvv_z q)
      · exact Or.inr (zeR_of (zvv_f n) q)
    obtain ⟨xn, yn, hx, hy, rfl, rfl⟩ := zcl_of w6 h6 hnc
    rw [zn_nI (n := xn) (by omega), zn_nI (n := yn) (by omega)] at a1 a2 b1 b2 b3 ⊢
    have hk := zrow hx hy
    have e1 : zv (tT (yn * iw + xn)) = T (yn * iw + xn) := gT _ hk
    have e2 : zv (fT (6 * yn + xn)) = T (yn * iw + xn) := g5 xn yn hx hy
    rw [e1] at a1 a2 ⊢
    rw [e2] at b1 b3
    refine ⟨fun _ => b1, zu T (yn * iw + xn) (zvv n), ?_⟩
    have n5 : zgr fT' iw ih (zu T (yn * iw + xn) (zvv n)) := by rw [b2]; exact zgr_put w6 g5 hx rfl h2
    cases he : zeq (T (yn * iw + xn)) (zvv n) with
    | true =>
      obtain ⟨c1, c2⟩ := a1 he
      have hT : zu T (yn * iw + xn) (zvv n) = T := by rw [← zvv_eq (hG _ hk) he]; exact zu_id T _
      rw [hT] at n5 ⊢
      rw [he] at b3
      have b4 : mk' = mk := by rw [b3]; cases mk <;> rfl
      rw [c1, c2, b4]
      exact ⟨⟨w2, w6, h2', h6⟩, ⟨gT, n5, hG⟩, hR, hB, hQ, hqc, hq5, hm⟩
    | false =>
      obtain ⟨c1, c2⟩ := a2 he
      rw [he] at b3
      have b4 : mk' = false := by rw [b3]; cases mk <;> rfl
      rw [c1, c2, b4]
      exact ⟨⟨w2, w6, h2', h6⟩, ⟨zcr_put gT h1, n5, zeG_put2 hG hv⟩, hR, hB, hQ, qCm_0, q5m_f hq5.1, rfl⟩
  · obtain ⟨c1, c2⟩ := hc1 h0
    obtain ⟨d1, d2⟩ := h51 h0
    rw [c1, c2, d1, d2]
    exact ⟨fun q => absurd q h0, T, hI⟩
theorem zI_rates (hI : zI iw ih al ac de nb im iq tT uP uF uL uH e0 e1 e2 e3 qS qU qO tW tX fa fb fd mk i5 fT fE fG fR fN fS fQ fW fX T bx0 by0 bx1 by1 bg wn ws) {n1 n2 n3 : Int32} {v1 v2 v3 f1 f2 f3 : UInt64} (h1 : zv v1 = zvv n1) (h2 : zv v2 = zvv n2) (h3 : zv v3 = zvv n3) (k1 : zv f1 = zvv n1) (k2 : zv f2 = zvv n2) (k3 : zv f3 = zvv n3) {al' ac' de' fa' fb' fd' : UInt64} {im' : Nat} {mk' : Bool}
    (hc0 : zcR (zv v1) (zv v2) (zv v3) = 0 → al' = v1 ∧ ac' = v2 ∧ de' = v3 ∧ im' = 0) (hc1 : ¬ zcR (zv v1) (zv v2) (zv v3) = 0 → al' = al ∧ ac' = ac ∧ de' = de ∧ im' = im)
    (h50 : zcR (zv f1) (zv f2) (zv f3) = 0 → fa' = f1 ∧ fb' = f2 ∧ fd' = f3 ∧ mk' = false) (h51 : ¬ zcR (zv f1) (zv f2) (zv f3) = 0 → fa' = fa ∧ fb' = fb ∧ fd' = fd ∧ mk' = mk) :
    zI iw ih al' ac' de' nb im' iq tT uP uF uL uH e0 e1 e2 e3 qS qU qO tW tX fa' fb' fd' mk' i5 fT fE fG fR fN fS fQ fW fX T bx0 by0 bx1 by1 bg wn ws := by
  rw [h1, h2, h3] at hc0 hc1
  rw [k1, k2, k3] at h50 h51
  obtain ⟨hW, hT, hR, hB, hQ, hqc, hq5, hm⟩ := id hI
  by_cases h0 : zcR (zvv n1) (zvv n2) (zvv n3) = 0
  · obtain ⟨a1, a2, a3, a4⟩ := hc0 h0
    obtain ⟨b1, b2, b3, b4⟩ := h50 h0
    have hok : (zbt (zvv n1) c18 c8 && zbt (zvv n2) c18 c8 && zbt (zvv n3) c18 c8) = true := by
      unfold zcR at h0
      apply Classical.byContradiction
      intro q
      rw [if_neg q] at h0
      cases h0
    rw [Bool.and_eq_true, Bool.and_eq_true] at hok
    rw [a1, a2, a3, a4, b1, b2, b3, b4]
    refine ⟨hW, hT, ⟨h1.trans k1.symm, h2.trans k2.symm, h3.trans k3.symm, ?_, ?_, ?_⟩, hB, hQ, qCm_0, q5m_f hq5.1, rfl⟩
    · rw [h1]; exact zeR_of (zvv_f n1) hok.1.1
    · rw [h2]; exact zeR_of (zvv_f n2) hok.1.2
    · rw [h3]; exact zeR_of (zvv_f n3) hok.2
  · obtain ⟨a1, a2, a3, a4⟩ := hc1 h0
    obtain ⟨b1, b2, b3, b4⟩ := h51 h0
    rw [a1, a2, a3, a4, b1, b2, b3, b4]
    exact hI
theorem zmn_le {a b : Nat} : zmin a b ≤ zmax a b := by
  unfold zmin zmax
  split <;> omega
theorem zmx_lt2 {a b n : Nat} (ha : a < n) (hb : b < n) : zmax a b < n := by
  unfold zmax
  split <;> assumption
theorem zmn_eq {a : Nat} : zmin a a = a := by unfold zmin; rw [if_neg (Nat.lt_irrefl _)]
theorem zmx_eq {a : Nat} : zmax a a = a := by unfold zmax; rw [if_neg (Nat.lt_irrefl _)]
theorem zmn_ne {a b : Nat} (h : ¬ a = b) : ¬ zmin a b = zmax a b := by
  unfold zmin zmax
  split <;> omega
theorem zI_brace (hI : zI iw ih al ac de nb im iq tT uP uF uL uH e0 e1 e2 e3 qS qU qO tW tX fa fb fd mk i5 fT fE fG fR fN fS fQ fW fX T bx0 by0 bx1 by1 bg wn ws) {x0 y0 x1 y1 n : Int32} {v1 v2 : UInt64} (h1 : zv v1 = zvv n) (h2 : zv v2 = zvv n) {uP' uF' uL' : Nat → Int32} {uH' : Nat → UInt64} {nb' im' ib' : Nat} {mk' : Bool} {fE' : Nat → Int32} {fG' : Nat → UInt64} {r5 : Int32}
    (hc0 : zcB iw ih nb x0 y0 x1 y1 (zv v1) = 0 → nb' = nb + 1 ∧ im' = 0 ∧ uP' = zu uP nb (if y0 = y1 then nI 1 else nI iw) ∧ uF' = zu uF nb (nI (zmin (zn y0) (zn y1) * iw + zmin (zn x0) (zn x1))) ∧ uL' = zu uL nb (nI (zmax (zn y0) (zn y1) * iw + zmax (zn x0) (zn x1))) ∧ uH' = zu uH nb v1)
    (hc1 : ¬ zcB iw ih nb x0 y0 x1 y1 (zv v1) = 0 → uP' = uP ∧ uF' = uF ∧ uL' = uL ∧ uH' = uH ∧ nb' = nb ∧ im' = im)
    (h50 : zcB iw ih nb x0 y0 x1 y1 (zv v2) = 0 → r5 = nI (nb + 1) ∧ ib' = nb + 1 ∧ mk' = false ∧ fE' = zu (zu (zu (zu fE (4 * nb) (nI (zmin (zn x0) (zn x1)))) (4 * nb + 1) (nI (zmin (zn y0) (zn y1)))) (4 * nb + 2) (nI (zmax (zn x0) (zn x1)))) (4 * nb + 3) (nI (zmax (zn y0) (zn y1))) ∧ fG' = zu fG nb v2)
    (h51 : ¬ zcB iw ih nb x0 y0 x1 y1 (zv v2) = 0 → ib' = nb ∧ mk' = mk ∧ fE' = fE ∧ fG' = fG) :
    ib' = nb' ∧ (zcB iw ih nb x0 y0 x1 y1 (zv v1) = 0 → r5 = nI (nb + 1)) ∧ ∃ bx0' by0' bx1' by1' bg', zI iw ih al ac de nb' im' iq tT uP' uF' uL' uH' e0 e1 e2 e3 qS qU qO tW tX fa fb fd mk' i5 fT fE' fG' fR fN fS fQ fW fX T bx0' by0' bx1' by1' bg' wn ws := by
  rw [h1] at hc0 hc1 ⊢
  rw [h2] at h50 h51
  obtain ⟨⟨w2, w6, h2', h6⟩, hT, hR, ⟨b12, gBr, gE, gB, gH, gG, gR⟩, hQ, hqc, hq5, hm⟩ := id hI
  by_cases h0 : zcB iw ih nb x0 y0 x1 y1 (zvv n) = 0
  · obtain ⟨a1, a2, a3, a4, a5, a6⟩ := hc0 h0
    obtain ⟨c0, c1, c2, c3, c4⟩ := h50 h0
    have hc : ¬ (zncl iw ih x0 y0 ∨ zncl iw ih x1 y1) := fun q => by unfold zcB at h0; rw [if_pos q] at h0; cases h0
    unfold zcB at h0
    rw [if_neg hc] at h0
    have hl : ¬ (¬ zline2 x0 y0 x1 y1 ∨ zbt (zvv n) c18 c8 = false) := fun q => by rw [if_pos q] at h0; cases h0
    rw [if_neg hl] at h0
    have hnb : ¬ nb = 12 := fun q => by rw [if_pos q] at h0; cases h0
    obtain ⟨xn0, yn0, hx0, hy0, rfl, rfl⟩ := zcl_of w6 h6 (fun q => hc (Or.inl q))
    obtain ⟨xn1, yn1, hx1, hy1, rfl, rfl⟩ := zcl_of w6 h6 (fun q => hc (Or.inr q))
    have hex : nI xn0 = nI xn1 ↔ xn0 = xn1 := nI_eq (by omega) (by omega)
    have hey : nI yn0 = nI yn1 ↔ yn0 = yn1 := nI_eq (by omega) (by omega)
    have hline : (xn0 = xn1 ∧ ¬ yn0 = yn1) ∨ (¬ xn0 = xn1 ∧ yn0 = yn1) := by
      have q : zline2 (nI xn0) (nI yn0) (nI xn1) (nI yn1) := Classical.byContradiction fun z => hl (Or.inl z)
      unfold zline2 at q
      rw [hex, hey] at q
      exact q
    have hbt : zbt (zvv n) c18 c8 = true := by
      cases hb : zbt (zvv n) c18 c8 with
      | true => rfl
      | false => exact absurd (Or.inr hb) hl
    rw [zn_nI (n := xn0) (by omega), zn_nI (n := xn1) (by omega), zn_nI (n := yn0) (by omega), zn_nI (n := yn1) (by omega)] at a4 a5 c3
    refine ⟨c1.trans a1.symm, fun _ => c0, zu bx0 nb (zmin xn0 xn1), zu by0 nb (zmin yn0 yn1), zu bx1 nb (zmax xn0 xn1), zu by1 nb (zmax yn0 yn1), zu bg nb (zvv n), ?_⟩
    rw [a1, a2, a3, a4, a5, a6, c2, c3, c4]
    refine ⟨⟨w2, w6, h2', h6⟩, hT, hR, ⟨by omega, ?_, ?_, ?_, ?_, ?_, ?_⟩, hQ, qCm_0, q5m_f hq5.1, rfl⟩
    · intro k hk
      by_cases e : k = nb
      · subst e
        unfold zbr
        simp only [zu_s]
        rcases hline with ⟨q1, q2⟩ | ⟨q1, q2⟩
        · right
          refine ⟨zmn_ne q2, ?_, if_neg (fun z => q2 (hey.mp z)), trivial, ?_⟩
          · rw [q1, zmn_eq, zmx_eq]
          · rw [q1, zmn_eq, zmx_eq]
        · left
          refine ⟨by rw [q2, zmn_eq, zmx_eq], if_pos (hey.mpr q2), trivial, ?_⟩
          rw [q2, zmn_eq, zmx_eq]
      · have := gBr k (by omega)
        unfold zbr at this ⊢
        simp only [zu_n e]
        exact this
    · intro k hk
      by_cases e : k = nb
      · subst e
        simp only [zu_s]
        refine ⟨?_, ?_, ?_, ?_⟩
        · rw [zu_n (by omega), zu_n (by omega), zu_n (by omega), zu_s]
        · rw [zu_n (by omega), zu_n (by omega), zu_s]
        · rw [zu_n (by omega), zu_s]
        · trivial
      · have := gE k (by omega)
        simp only [zu_n e]
        refine ⟨?_, ?_, ?_, ?_⟩
        · rw [zu_n (by omega), zu_n (by omega), zu_n (by omega), zu_n (by omega)]; exact this.1
        · rw [zu_n (by omega), zu_n (by omega), zu_n (by omega), zu_n (by omega)]; exact this.2.1
        · rw [zu_n (by omega), zu_n (by omega), zu_n (by omega), zu_n (by omega)]; exact this.2.2.1
        · rw [zu_n (by omega), zu_n (by omega), zu_n (by omega), zu_n (by omega)]; exact this.2.2.2
    · intro k hk
      by_cases e : k = nb
      · subst e
        simp only [zu_s]
        exact ⟨zmn_le, zmx_lt2 hx0 hx1, zmn_le, zmx_lt2 hy0 hy1⟩
      · simp only [zu_n e]
        exact gB k (by omega)
    · intro k hk
      by_cases e : k = nb
      · subst e
        simp only [zu_s]
        exact h1
      · simp only [zu_n e]
        exact gH k (by omega)
    · intro k hk
      by_cases e : k = nb
      · subst e
        simp only [zu_s]
        exact h2
      · simp only [zu_n e]
        exact gG k (by omega)
    · intro k hk
      by_cases e : k = nb
      · subst e
        simp only [zu_s]
        exact zeR_of (zvv_f n) hbt
      · simp only [zu_n e]
        exact gR k (by omega)
  · obtain ⟨a1, a2, a3, a4, a5, a6⟩ := hc1 h0
    obtain ⟨c1, c2, c3, c4⟩ := h51 h0
    rw [a1, a2, a3, a4, a5, a6, c1, c2, c3, c4]
    exact ⟨rfl, fun q => absurd q h0, bx0, by0, bx1, by1, bg, hI⟩
theorem zI_modes (hI : zI iw ih al ac de nb im iq tT uP uF uL uH e0 e1 e2 e3 qS qU qO tW tX fa fb fd mk i5 fT fE fG fR fN fS fQ fW fX T bx0 by0 bx1 by1 bg wn ws) {n : Int32} {e0' e1' e2' e3' qS' qU' qO' fR' fN' fS' fQ' : Nat → UInt64} {im' i5' : Nat} {mk' : Bool} {r5 : Int32}
    (hc0 : zcMs n = 0 → im' = zcnt iw ih T (zRB iw T (zv al) bx0 by0 bx1 bg nb) (zNB iw ih T (zv ac) bx0 by0 by1 bg nb) (zv de) (zn n) ∧ qCm iw ih im' T (zRB iw T (zv al) bx0 by0 bx1 bg nb) (zNB iw ih T (zv ac) bx0 by0 by1 bg nb) (zv de) e0' e1' e2' e3' qS' qU' qO')
    (hc1 : ¬ zcMs n = 0 → e0' = e0 ∧ e1' = e1 ∧ e2' = e2 ∧ e3' = e3 ∧ qS' = qS ∧ qU' = qU ∧ qO' = qO ∧ im' = im)
    (h50 : zcMs n = 0 → r5 = nI (zcnt iw ih T (zRB iw T (zv fa) bx0 by0 bx1 bg nb) (zNB iw ih T (zv fb) bx0 by0 by1 bg nb) (zv fd) (zn n)) ∧ i5' = zcnt iw ih T (zRB iw T (zv fa) bx0 by0 bx1 bg nb) (zNB iw ih T (zv fb) bx0 by0 by1 bg nb) (zv fd) (zn n) ∧ mk' = true ∧ q5m iw ih true i5' fR' fN' fS' fQ' T (zRB iw T (zv fa) bx0 by0 bx1 bg nb) (zNB iw ih T (zv fb) bx0 by0 by1 bg nb) (zv fd))
    (h51 : ¬ zcMs n = 0 → fR' = fR ∧ fN' = fN ∧ fS' = fS ∧ fQ' = fQ ∧ mk' = mk ∧ i5' = i5) :
    (zcMs n = 0 → r5 = nI im') ∧ zI iw ih al ac de nb im' iq tT uP uF uL uH e0' e1' e2' e3' qS' qU' qO' tW tX fa fb fd mk' i5' fT fE fG fR' fN' fS' fQ' fW fX T bx0 by0 bx1 by1 bg wn ws := by
  obtain ⟨hW, hT, hR, hB, hQ, hqc, hq5, hm⟩ := id hI
  obtain ⟨r1, r2, r3, _⟩ := id hR
  by_cases h0 : zcMs n = 0
  · obtain ⟨a1, a2⟩ := hc0 h0
    obtain ⟨b1, b2, b3, b4⟩ := h50 h0
    rw [b3]
    refine ⟨fun _ => ?_, hW, hT, hR, hB, hQ, a2, b4, ?_⟩
    · rw [b1, a1, r1, r2, r3]
    · rw [b2, a1, r1, r2, r3]
      rfl
  · obtain ⟨a1, a2, a3, a4, a5, a6, a7, a8⟩ := hc1 h0
    obtain ⟨b1, b2, b3, b4, b5, b6⟩ := h51 h0
    rw [a1, a2, a3, a4, a5, a6, a7, a8, b1, b2, b3, b4, b5, b6]
    exact ⟨fun q => absurd q h0, hI⟩
theorem zI_want (hI : zI iw ih al ac de nb im iq tT uP uF uL uH e0 e1 e2 e3 qS qU qO tW tX fa fb fd mk i5 fT fE fG fR fN fS fQ fW fX T bx0 by0 bx1 by1 bg wn ws) {k n : Int32} {v1 v2 : UInt64} (h1 : zv v1 = zvv n) (h2 : zv v2 = zvv n) {tW' fW' : Nat → Int32} {tX' fX' : Nat → UInt64} {iq' jq' : Nat} {r5 : Int32}
    (hc0 : zcWt iq k (zv v1) = 0 → tW' = zu tW iq k ∧ tX' = zu tX iq v1 ∧ iq' = iq + 1) (hc1 : ¬ zcWt iq k (zv v1) = 0 → tW' = tW ∧ tX' = tX ∧ iq' = iq)
    (h50 : zcWt iq k (zv v2) = 0 → r5 = nI (iq + 1) ∧ jq' = iq + 1 ∧ fW' = zu fW iq k ∧ fX' = zu fX iq v2) (h51 : ¬ zcWt iq k (zv v2) = 0 → jq' = iq ∧ fW' = fW ∧ fX' = fX) :
    jq' = iq' ∧ (zcWt iq k (zv v1) = 0 → r5 = nI (iq + 1)) ∧ ∃ wn' ws', zI iw ih al ac de nb im iq' tT uP uF uL uH e0 e1 e2 e3 qS qU qO tW' tX' fa fb fd mk i5 fT fE fG fR fN fS fQ fW' fX' T bx0 by0 bx1 by1 bg wn' ws' := by
  rw [h1] at hc0 hc1 ⊢
  rw [h2] at h50 h51
  obtain ⟨hW, hT, hR, hB, ⟨q4, gW, g5, w4, gX, gY⟩, hqc, hq5, hm⟩ := id hI
  by_cases h0 : zcWt iq k (zvv n) = 0
  · obtain ⟨a1, a2, a3⟩ := hc0 h0
    obtain ⟨b0, b1, b2, b3⟩ := h50 h0
    have hk : ¬ znmd k := fun q => by unfold zcWt at h0; rw [if_pos q] at h0; cases h0
    unfold zcWt at h0
    rw [if_neg hk] at h0
    have hq : ¬ iq = 4 := fun q => by
      rw [if_pos q] at h0
      split at h0
      · cases h0
      · cases h0
    obtain ⟨kn, hk4, rfl⟩ := zmd_of hk
    refine ⟨b1.trans a3.symm, fun _ => b0, zu wn iq kn, zu ws iq (zvv n), ?_⟩
    rw [a1, a2, a3, b2, b3]
    refine ⟨hW, hT, hR, hB, ⟨by omega, ?_, ?_, ?_, ?_, ?_⟩, hqc, hq5, hm⟩
    · intro i hi
      by_cases e : i = iq
      · subst e; rw [zu_s, zu_s]
      · rw [zu_n e, zu_n e]; exact gW i (by omega)
    · intro i hi
      by_cases e : i = iq
      · subst e; rw [zu_s, zu_s]
      · rw [zu_n e, zu_n e]; exact g5 i (by omega)
    · intro i hi
      by_cases e : i = iq
      · subst e; rw [zu_s]; exact hk4
      · rw [zu_n e]; exact w4 i (by omega)
    · intro i hi
      by_cases e : i = iq
      · subst e; rw [zu_s, zu_s]; exact h1
      · rw [zu_n e, zu_n e]; exact gX i (by omega)
    · intro i hi
      by_cases e : i = iq
      · subst e; rw [zu_s, zu_s]; exact h2
      · rw [zu_n e, zu_n e]; exact gY i (by omega)
  · obtain ⟨a1, a2, a3⟩ := hc1 h0
    obtain ⟨b1, b2, b3⟩ := h51 h0
    rw [a1, a2, a3, b1, b2, b3]
    exact ⟨rfl, fun q => absurd q h0, wn, ws, hI⟩
theorem zI_thin (hI : zI iw ih al ac de nb im iq tT uP uF uL uH e0 e1 e2 e3 qS qU qO tW tX fa fb fd mk i5 fT fE fG fR fN fS fQ fW fX T bx0 by0 bx1 by1 bg wn ws) {n1 n2 : Int32} {s1 l1 s2 l2 : UInt64} (h1 : zv s1 = zvv n1) (h2 : zv l1 = zvv n2) (k1 : zv s2 = zvv n1) (k2 : zv l2 = zvv n2) {tT' e0' e1' e2' e3' qS' qU' qO' fT' fR' fN' fS' fQ' : Nat → UInt64} {im' i5' : Nat} {mk' : Bool} {r5 : Int32}
    (hc0 : zcTh (zv s1) (zv l1) (zneed wn iq) (zcnt iw ih T (zRB iw T (zv al) bx0 by0 bx1 bg nb) (zNB iw ih T (zv ac) bx0 by0 by1 bg nb) (zv de) (zneed wn iq)) = 0 → zeG (zthin (zCN iw ih (zv al) (zv ac) (zv de) bx0 by0 bx1 by1 bg nb (zneed wn iq)) (zTOc iw ih (zv al) (zv ac) (zv de) bx0 by0 bx1 by1 bg nb wn ws iq) (zneed wn iq) (zv s1) (zv l1) T (iw * ih)).1 (iw * ih) ∧ zcr tT' (iw * ih) (zthin (zCN iw ih (zv al) (zv ac) (zv de) bx0 by0 bx1 by1 bg nb (zneed wn iq)) (zTOc iw ih (zv al) (zv ac) (zv de) bx0 by0 bx1 by1 bg nb wn ws iq) (zneed wn iq) (zv s1) (zv l1) T (iw * ih)).1 ∧ im' = zcnt iw ih (zthin (zCN iw ih (zv al) (zv ac) (zv de) bx0 by0 bx1 by1 bg nb (zneed wn iq)) (zTOc iw ih (zv al) (zv ac) (zv de) bx0 by0 bx1 by1 bg nb wn ws iq) (zneed wn iq) (zv s1) (zv l1) T (iw * ih)).1 (zRB iw (zthin (zCN iw ih (zv al) (zv ac) (zv de) bx0 by0 bx1 by1 bg nb (zneed wn iq)) (zTOc iw ih (zv al) (zv ac) (zv de) bx0 by0 bx1 by1 bg nb wn ws iq) (zneed wn iq) (zv s1) (zv l1) T (iw * ih)).1 (zv al) bx0 by0 bx1 bg nb) (zNB iw ih (zthin (zCN iw ih (zv al) (zv ac) (zv de) bx0 by0 bx1 by1 bg nb (zneed wn iq)) (zTOc iw ih (zv al) (zv ac) (zv de) bx0 by0 bx1 by1 bg nb wn ws iq) (zneed wn iq) (zv s1) (zv l1) T (iw * ih)).1 (zv ac) bx0 by0 by1 bg nb) (zv de) (zneed wn iq) ∧ qCm iw ih im' (zthin (zCN iw ih (zv al) (zv ac) (zv de) bx0 by0 bx1 by1 bg nb (zneed wn iq)) (zTOc iw ih (zv al) (zv ac) (zv de) bx0 by0 bx1 by1 bg nb wn ws iq) (zneed wn iq) (zv s1) (zv l1) T (iw * ih)).1 (zRB iw (zthin (zCN iw ih (zv al) (zv ac) (zv de) bx0 by0 bx1 by1 bg nb (zneed wn iq)) (zTOc iw ih (zv al) (zv ac) (zv de) bx0 by0 bx1 by1 bg nb wn ws iq) (zneed wn iq) (zv s1) (zv l1) T (iw * ih)).1 (zv al) bx0 by0 bx1 bg nb) (zNB iw ih (zthin (zCN iw ih (zv al) (zv ac) (zv de) bx0 by0 bx1 by1 bg nb (zneed wn iq)) (zTOc iw ih (zv al) (zv ac) (zv de) bx0 by0 bx1 by1 bg nb wn ws iq) (zneed wn iq) (zv s1) (zv l1) T (iw * ih)).1 (zv ac) bx0 by0 by1 bg nb) (zv de) e0' e1' e2' e3' qS' qU' qO')
    (hc1 : ¬ zcTh (zv s1) (zv l1) (zneed wn iq) (zcnt iw ih T (zRB iw T (zv al) bx0 by0 bx1 bg nb) (zNB iw ih T (zv ac) bx0 by0 by1 bg nb) (zv de) (zneed wn iq)) = 0 → tT' = tT ∧ im' = im ∧ e0' = e0 ∧ e1' = e1 ∧ e2' = e2 ∧ e3' = e3 ∧ qS' = qS ∧ qU' = qU ∧ qO' = qO)
    (h51 : zcTh (zv s2) (zv l2) (zneed wn iq) ((zCN iw ih (zv fa) (zv fb) (zv fd) bx0 by0 bx1 by1 bg nb (zneed wn iq)) T) = 1 → fT' = fT ∧ fR' = fR ∧ fN' = fN ∧ fS' = fS ∧ fQ' = fQ ∧ mk' = mk ∧ i5' = i5)
    (h52 : zcTh (zv s2) (zv l2) (zneed wn iq) ((zCN iw ih (zv fa) (zv fb) (zv fd) bx0 by0 bx1 by1 bg nb (zneed wn iq)) T) = 2 → fT' = fT ∧ mk' = mk ∧ q5m iw ih mk' i5' fR' fN' fS' fQ' T (zRB iw T (zv fa) bx0 by0 bx1 bg nb) (zNB iw ih T (zv fb) bx0 by0 by1 bg nb) (zv fd) ∧ zmks mk' i5' = zmks mk i5)
    (h50 : zcTh (zv s2) (zv l2) (zneed wn iq) ((zCN iw ih (zv fa) (zv fb) (zv fd) bx0 by0 bx1 by1 bg nb (zneed wn iq)) T) = 0 → r5 = nI (zthin (zCN iw ih (zv fa) (zv fb) (zv fd) bx0 by0 bx1 by1 bg nb (zneed wn iq)) (zTO iw ih (zv fa) (zv fb) (zv fd) bx0 by0 bx1 by1 bg nb wn ws iq) (zneed wn iq) (zv s2) (zv l2) T (iw * ih)).2.2 ∧ zgr fT' iw ih (zthin (zCN iw ih (zv fa) (zv fb) (zv fd) bx0 by0 bx1 by1 bg nb (zneed wn iq)) (zTO iw ih (zv fa) (zv fb) (zv fd) bx0 by0 bx1 by1 bg nb wn ws iq) (zneed wn iq) (zv s2) (zv l2) T (iw * ih)).1 ∧ mk' = true ∧ i5' = (zCN iw ih (zv fa) (zv fb) (zv fd) bx0 by0 bx1 by1 bg nb (zneed wn iq)) (zthin (zCN iw ih (zv fa) (zv fb) (zv fd) bx0 by0 bx1 by1 bg nb (zneed wn iq)) (zTO iw ih (zv fa) (zv fb) (zv fd) bx0 by0 bx1 by1 bg nb wn ws iq) (zneed wn iq) (zv s2) (zv l2) T (iw * ih)).1 ∧ q5m iw ih true i5' fR' fN' fS' fQ' (zthin (zCN iw ih (zv fa) (zv fb) (zv fd) bx0 by0 bx1 by1 bg nb (zneed wn iq)) (zTO iw ih (zv fa) (zv fb) (zv fd) bx0 by0 bx1 by1 bg nb wn ws iq) (zneed wn iq) (zv s2) (zv l2) T (iw * ih)).1 (zRB iw (zthin (zCN iw ih (zv fa) (zv fb) (zv fd) bx0 by0 bx1 by1 bg nb (zneed wn iq)) (zTO iw ih (zv fa) (zv fb) (zv fd) bx0 by0 bx1 by1 bg nb wn ws iq) (zneed wn iq) (zv s2) (zv l2) T (iw * ih)).1 (zv fa) bx0 by0 bx1 bg nb) (zNB iw ih (zthin (zCN iw ih (zv fa) (zv fb) (zv fd) bx0 by0 bx1 by1 bg nb (zneed wn iq)) (zTO iw ih (zv fa) (zv fb) (zv fd) bx0 by0 bx1 by1 bg nb wn ws iq) (zneed wn iq) (zv s2) (zv l2) T (iw * ih)).1 (zv fb) bx0 by0 by1 bg nb) (zv fd)) :
    zcTh (zv s1) (zv l1) (zneed wn iq) (zcnt iw ih T (zRB iw T (zv al) bx0 by0 bx1 bg nb) (zNB iw ih T (zv ac) bx0 by0 by1 bg nb) (zv de) (zneed wn iq)) = zcTh (zv s2) (zv l2) (zneed wn iq) ((zCN iw ih (zv fa) (zv fb) (zv fd) bx0 by0 bx1 by1 bg nb (zneed wn iq)) T) ∧ (zcTh (zv s1) (zv l1) (zneed wn iq) (zcnt iw ih T (zRB iw T (zv al) bx0 by0 bx1 bg nb) (zNB iw ih T (zv ac) bx0 by0 by1 bg nb) (zv de) (zneed wn iq)) = 0 → r5 = nI (zthin (zCN iw ih (zv al) (zv ac) (zv de) bx0 by0 bx1 by1 bg nb (zneed wn iq)) (zTOc iw ih (zv al) (zv ac) (zv de) bx0 by0 bx1 by1 bg nb wn ws iq) (zneed wn iq) (zv s1) (zv l1) T (iw * ih)).2.2) ∧ ∃ T', zI iw ih al ac de nb im' iq tT' uP uF uL uH e0' e1' e2' e3' qS' qU' qO' tW tX fa fb fd mk' i5' fT' fE fG fR' fN' fS' fQ' fW fX T' bx0 by0 bx1 by1 bg wn ws := by
  obtain ⟨hW, ⟨gT, g5, hG⟩, hR, hB, hQ, hqc, hq5, hm⟩ := id hI
  obtain ⟨r1, r2, r3, rr⟩ := hR
  have hcode : zcTh (zv s1) (zv l1) (zneed wn iq) (zcnt iw ih T (zRB iw T (zv al) bx0 by0 bx1 bg nb) (zNB iw ih T (zv ac) bx0 by0 by1 bg nb) (zv de) (zneed wn iq)) = zcTh (zv s2) (zv l2) (zneed wn iq) ((zCN iw ih (zv fa) (zv fb) (zv fd) bx0 by0 bx1 by1 bg nb (zneed wn iq)) T) := by rw [h1, h2, k1, k2, ← r1, ← r2, ← r3]; rfl
  have hle := zcTh_le (st := zv s1) (lo := zv l1) (a := (zneed wn iq)) (b := zcnt iw ih T (zRB iw T (zv al) bx0 by0 bx1 bg nb) (zNB iw ih T (zv ac) bx0 by0 by1 bg nb) (zv de) (zneed wn iq))
  rw [← hcode] at h50 h51 h52
  refine ⟨hcode, ?_⟩
  rw [k1, k2, ← r1, ← r2, ← r3] at h50
  rw [h1, h2] at hc0 hc1 h50 h51 h52 hle ⊢
  obtain ⟨t1, t2, t3⟩ := zq_thin (CN := (zCN iw ih (zv al) (zv ac) (zv de) bx0 by0 bx1 by1 bg nb (zneed wn iq))) (need := (zneed wn iq)) (st := zvv n1) (lo := zvv n2) (T := T) (fun T => zq_TO (w := iw) (h := ih) (A := zv al) (B := zv ac) (de := zv de) (bx0 := bx0) (by0 := by0) (bx1 := bx1) (by1 := by1) (bg := bg) (ib := nb) (wn := wn) (ws := ws) (iq := iq) T) (iw * ih)
  rw [← t1, ← t3] at h50
  generalize zcTh (zvv n1) (zvv n2) (zneed wn iq) (zcnt iw ih T (zRB iw T (zv al) bx0 by0 bx1 bg nb) (zNB iw ih T (zv ac) bx0 by0 by1 bg nb) (zv de) (zneed wn iq)) = c at hc0 hc1 h50 h51 h52 hle ⊢
  have hc : c = 0 ∨ c = 1 ∨ c = 2 := by omega
  rcases hc with rfl | rfl | rfl
  · obtain ⟨a1, a2, a3, a4⟩ := hc0 rfl
    obtain ⟨b1, b2, b3, b4, b5⟩ := h50 rfl
    refine ⟨fun _ => b1, _, hW, ⟨a2, b2, a1⟩, ⟨r1, r2, r3, rr⟩, hB, hQ, a4, ?_, ?_⟩
    · rw [b3, ← r1, ← r2, ← r3]; exact b5
    · rw [b3, b4, a3]
      rfl
  · obtain ⟨a1, a2, a3, a4, a5, a6, a7, a8, a9⟩ := hc1 (by decide)
    obtain ⟨b1, b2, b3, b4, b5, b6, b7⟩ := h51 rfl
    rw [a1, a2, a3, a4, a5, a6, a7, a8, a9, b1, b2, b3, b4, b5, b6, b7]
    exact ⟨fun q => absurd q (by decide), T, hI⟩
  · obtain ⟨a1, a2, a3, a4, a5, a6, a7, a8, a9⟩ := hc1 (by decide)
    obtain ⟨b1, b2, b3, b4⟩ := h52 rfl
    rw [a1, a2, a3, a4, a5, a6, a7, a8, a9, b1]
    exact ⟨fun q => absurd q (by decide), T, hW, ⟨gT, g5, hG⟩, ⟨r1, r2, r3, rr⟩, hB, hQ, hqc, b3, b4.trans hm⟩
theorem zI_k (hI : zI iw ih al ac de nb im iq tT uP uF uL uH e0 e1 e2 e3 qS qU qO tW tX fa fb fd mk i5 fT fE fG fR fN fS fQ fW fX T bx0 by0 bx1 by1 bg wn ws) {k : Int32} {c : Nat} (h : zckM (decide (¬ znmd k)) (zmks mk i5) k = 0) : zn k < im := by
  obtain ⟨h1, h2⟩ := zckM_0 h
  obtain ⟨kn, hk, rfl⟩ := zmd_of (of_decide_eq_true h1)
  rw [hI.2.2.2.2.2.2.2] at h2
  rw [zn_nI (by omega)]
  exact (nI_ltI (by omega) (by have := (zI_im4 hI).1; omega)).mp h2
theorem zI_kk (hI : zI iw ih al ac de nb im iq tT uP uF uL uH e0 e1 e2 e3 qS qU qO tW tX fa fb fd mk i5 fT fE fG fR fN fS fQ fW fX T bx0 by0 bx1 by1 bg wn ws) {k : Int32} {b : Bool} (hb : b = true → ¬ znmd k) (h : zckM b im k = 0) : zn k < im := by
  obtain ⟨h1, h2⟩ := zckM_0 h
  obtain ⟨kn, hk, rfl⟩ := zmd_of (hb h1)
  rw [zn_nI (by omega)]
  exact (nI_ltI (by omega) (by have := (zI_im4 hI).1; omega)).mp h2
theorem zI_mode (hI : zI iw ih al ac de nb im iq tT uP uF uL uH e0 e1 e2 e3 qS qU qO tW tX fa fb fd mk i5 fT fE fG fR fN fS fQ fW fX T bx0 by0 bx1 by1 bg wn ws) {k what : Int32} {c1 : Nat} (h : zckM (decide (¬ znmd k ∧ ¬ what < 0 ∧ ¬ nI 2 < what)) im k = 0) {r r5 : UInt64} (hr : r = if what = 0 then qS (zn k) else if what = nI 1 then qU (zn k) else qO (zn k))
    (h5 : zckM (decide (¬ znmd k ∧ ¬ what < 0 ∧ ¬ nI 2 < what)) (zmks mk i5) k = 0 → zv r5 = zmodeV what (zSQ iw ih T (zRB iw T (zv fa) bx0 by0 bx1 bg nb) (zNB iw ih T (zv fb) bx0 by0 by1 bg nb) (zv fd) (zn k)) (zres iw ih T (zRB iw T (zv fa) bx0 by0 bx1 bg nb) (zNB iw ih T (zv fb) bx0 by0 by1 bg nb) (zshp iw ih T (zRB iw T (zv fa) bx0 by0 bx1 bg nb) (zNB iw ih T (zv fb) bx0 by0 by1 bg nb) (zv fd) (zn k)) (zv fd) (zSQ iw ih T (zRB iw T (zv fa) bx0 by0 bx1 bg nb) (zNB iw ih T (zv fb) bx0 by0 by1 bg nb) (zv fd) (zn k)) (iw * ih)) (zsum T (zshp iw ih T (zRB iw T (zv fa) bx0 by0 bx1 bg nb) (zNB iw ih T (zv fb) bx0 by0 by1 bg nb) (zv fd) (zn k)) (iw * ih))) : zq (zv r) (zv r5) := by
  have hk := zI_kk hI (fun q => (of_decide_eq_true q).1) h
  obtain ⟨_, _, ⟨r1, r2, r3, _⟩, _, _, hqc, _, hm⟩ := hI
  rw [h5 (by rw [hm]; exact h), ← r1, ← r2, ← r3]
  obtain ⟨m1, m2, m3, m4⟩ := hqc.2 _ hk
  rw [hr]
  unfold zmodeV
  split
  · rw [m2]
    exact zq_SQ
  · split
    · rw [m3, m2]
      exact zq_res zq_SQ _
    · rw [m4]
      exact zq_rf _
theorem zI_shape (hI : zI iw ih al ac de nb im iq tT uP uF uL uH e0 e1 e2 e3 qS qU qO tW tX fa fb fd mk i5 fT fE fG fR fN fS fQ fW fX T bx0 by0 bx1 by1 bg wn ws) {k x y : Int32} (h : zckM (decide (¬ znmd k ∧ ¬ zncl iw ih x y)) im k = 0) {r r5 : UInt64} (hr : r = z4 e0 e1 e2 e3 (zn k) (zn y * iw + zn x))
    (h5 : zckM (decide (¬ znmd k ∧ ¬ zncl iw ih x y)) (zmks mk i5) k = 0 → zv r5 = zshp iw ih T (zRB iw T (zv fa) bx0 by0 bx1 bg nb) (zNB iw ih T (zv fb) bx0 by0 by1 bg nb) (zv fd) (zn k) (zn y * iw + zn x)) : zq (zv r) (zv r5) := by
  have hk := zI_kk hI (fun q => (of_decide_eq_true q).1) h
  have hnc := (of_decide_eq_true (zckM_0 h).1).2
  obtain ⟨⟨_, w6, _, h6⟩, _, ⟨r1, r2, r3, _⟩, _, _, hqc, _, hm⟩ := hI
  rw [h5 (by rw [hm]; exact h), ← r1, ← r2, ← r3]
  obtain ⟨m1, m2, m3, m4⟩ := hqc.2 _ hk
  obtain ⟨xn, yn, hx, hy, rfl, rfl⟩ := zcl_of w6 h6 hnc
  rw [zn_nI (n := xn) (by omega), zn_nI (n := yn) (by omega)] at hr ⊢
  rw [hr, m1 _ (zrow hx hy)]
  exact zq_rf _
end ZIS
