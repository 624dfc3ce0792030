/-! 84: the invariant read: product, sum, coupled, tap -/
section ZIT
variable {iw ih : Nat} {al ac de : UInt64} {nb im iq : Nat} {tT : Nat → UInt64} {uP uF uL : Nat → Int32} {uH e0 e1 e2 e3 qS qU qO : Nat → UInt64} {tW : Nat → Int32} {tX : Nat → UInt64} {fa fb fd : UInt64} {mk : Bool} {i5 : Nat} {fT : Nat → UInt64} {fE : Nat → Int32} {fG fR fN fS fQ : Nat → UInt64} {fW : Nat → Int32} {fX : Nat → UInt64} {T : Nat → ZD} {bx0 by0 bx1 by1 : Nat → Nat} {bg : Nat → ZD} {wn : Nat → Nat} {ws : Nat → ZD}
theorem zI_product (hI : zI iw ih al ac de nb im iq tT uP uF uL uH e0 e1 e2 e3 qS qU qO tW tX fa fb fd mk i5 fT fE fG fR fN fS fQ fW fX T bx0 by0 bx1 by1 bg wn ws) {k o : Int32} (h : zckM (decide (¬ znmd k ∧ ¬ znmd o)) im (zmx k o) = 0) {r r5 : UInt64} (hr : zv r = zprod T (zshp iw ih T (zRB iw T (zv al) bx0 by0 bx1 bg nb) (zNB iw ih T (zv ac) bx0 by0 by1 bg nb) (zv de) (zn k)) (zshp iw ih T (zRB iw T (zv al) bx0 by0 bx1 bg nb) (zNB iw ih T (zv ac) bx0 by0 by1 bg nb) (zv de) (zn o)) (zv de) (iw * ih))
    (h5 : zckM (decide (¬ znmd k ∧ ¬ znmd o)) (zmks mk i5) (zmx k o) = 0 → zv r5 = zprod T (zshp iw ih T (zRB iw T (zv fa) bx0 by0 bx1 bg nb) (zNB iw ih T (zv fb) bx0 by0 by1 bg nb) (zv fd) (zn k)) (zshp iw ih T (zRB iw T (zv fa) bx0 by0 bx1 bg nb) (zNB iw ih T (zv fb) bx0 by0 by1 bg nb) (zv fd) (zn o)) (zv fd) (iw * ih)) : zq (zv r) (zv r5) := by
  obtain ⟨_, _, ⟨r1, r2, r3, _⟩, _, _, hqc, _, hm⟩ := hI
  rw [h5 (by rw [hm]; exact h), hr, ← r1, ← r2, ← r3]
  exact zq_rf _
theorem zI_sum (hI : zI iw ih al ac de nb im iq tT uP uF uL uH e0 e1 e2 e3 qS qU qO tW tX fa fb fd mk i5 fT fE fG fR fN fS fQ fW fX T bx0 by0 bx1 by1 bg wn ws) (h : zcS iq im (zneed wn iq) = 0) {r r5 : UInt64} (hr : zv r = ztot (fun i => zN (zsq iw ih T (zRB iw T (zv al) bx0 by0 bx1 bg nb) (zNB iw ih T (zv ac) bx0 by0 by1 bg nb) (zshp iw ih T (zRB iw T (zv al) bx0 by0 bx1 bg nb) (zNB iw ih T (zv ac) bx0 by0 by1 bg nb) (zv de) (wn i)) (iw * ih))) ws iq)
    (h5 : zcS iq (zmks mk i5) (zneed wn iq) = 0 → zv r5 = ztot (fun i => zSQ iw ih T (zRB iw T (zv fa) bx0 by0 bx1 bg nb) (zNB iw ih T (zv fb) bx0 by0 by1 bg nb) (zv fd) (wn i)) ws iq) : zq (zv r) (zv r5) := by
  obtain ⟨_, _, ⟨r1, r2, r3, _⟩, _, _, hqc, _, hm⟩ := hI
  rw [h5 (by rw [hm]; exact h), hr, ← r1, ← r2, ← r3]
  exact zq_tot (fun i => zq_SQ) iq
theorem zI_coupled (hI : zI iw ih al ac de nb im iq tT uP uF uL uH e0 e1 e2 e3 qS qU qO tW tX fa fb fd mk i5 fT fE fG fR fN fS fQ fW fX T bx0 by0 bx1 by1 bg wn ws) {k : Int32} {va vb v2 w2 : UInt64} {gr : Bool} (ha : zv v2 = zv va) (hb : zv w2 = zv vb) (h : zcC im k (zv va) (zv vb) = 0) {r r5 : UInt64} (hr : zv r = zcpV (zN (zsq iw ih T (zRB iw T (zv al) bx0 by0 bx1 bg nb) (zNB iw ih T (zv ac) bx0 by0 by1 bg nb) (zshp iw ih T (zRB iw T (zv al) bx0 by0 bx1 bg nb) (zNB iw ih T (zv ac) bx0 by0 by1 bg nb) (zv de) (zn k)) (iw * ih))) (zsum T (zshp iw ih T (zRB iw T (zv al) bx0 by0 bx1 bg nb) (zNB iw ih T (zv ac) bx0 by0 by1 bg nb) (zv de) (zn k)) (iw * ih)) (zv va) (zv vb) gr)
    (h5 : zcC (zmks mk i5) k (zv v2) (zv w2) = 0 → zv r5 = zcpV (zSQ iw ih T (zRB iw T (zv fa) bx0 by0 bx1 bg nb) (zNB iw ih T (zv fb) bx0 by0 by1 bg nb) (zv fd) (zn k)) (zsum T (zshp iw ih T (zRB iw T (zv fa) bx0 by0 bx1 bg nb) (zNB iw ih T (zv fb) bx0 by0 by1 bg nb) (zv fd) (zn k)) (iw * ih)) (zv v2) (zv w2) gr) : zq (zv r) (zv r5) := by
  obtain ⟨_, _, ⟨r1, r2, r3, _⟩, _, _, hqc, _, hm⟩ := hI
  rw [h5 (by rw [hm, ha, hb]; exact h), hr, ← r1, ← r2, ← r3, ha, hb]
  exact zq_cp zq_SQ
theorem zI_tap (hI : zI iw ih al ac de nb im iq tT uP uF uL uH e0 e1 e2 e3 qS qU qO tW tX fa fb fd mk i5 fT fE fG fR fN fS fQ fW fX T bx0 by0 bx1 by1 bg wn ws) {k x y : Int32} {va v2 : UInt64} (ha : zv v2 = zv va) (h : zcT iw ih im k x y (zv va) = 0) {r r5 : UInt64} (hr : zv r = ztapV ((zshp iw ih T (zRB iw T (zv al) bx0 by0 bx1 bg nb) (zNB iw ih T (zv ac) bx0 by0 by1 bg nb) (zv de) (zn k)) (zn y * iw + zn x)) (zv va) (zN (zsq iw ih T (zRB iw T (zv al) bx0 by0 bx1 bg nb) (zNB iw ih T (zv ac) bx0 by0 by1 bg nb) (zshp iw ih T (zRB iw T (zv al) bx0 by0 bx1 bg nb) (zNB iw ih T (zv ac) bx0 by0 by1 bg nb) (zv de) (zn k)) (iw * ih))))
    (h5 : zcT iw ih (zmks mk i5) k x y (zv v2) = 0 → zv r5 = ztapV ((zshp iw ih T (zRB iw T (zv fa) bx0 by0 bx1 bg nb) (zNB iw ih T (zv fb) bx0 by0 by1 bg nb) (zv fd) (zn k)) (zn y * iw + zn x)) (zv v2) (zSQ iw ih T (zRB iw T (zv fa) bx0 by0 bx1 bg nb) (zNB iw ih T (zv fb) bx0 by0 by1 bg nb) (zv fd) (zn k))) : zq (zv r) (zv r5) := by
  obtain ⟨_, _, ⟨r1, r2, r3, _⟩, _, _, hqc, _, hm⟩ := hI
  rw [h5 (by rw [hm, ha]; exact h), hr, ← r1, ← r2, ← r3, ha, zq_tap zq_SQ]
  exact zq_rf _
end ZIT
