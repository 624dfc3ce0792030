/-! 22: a sweep's numbers stay in bounds -/
theorem ze_fadd {b : Prop} [Decidable b] {a s u v : ZD} {K m p n : Nat} (ha : zeB (n * 2 ^ K) a) (hs : b → zeB (2 ^ (p + 1)) s ∧ zeB (2 ^ m) u ∧ zeB (2 ^ m) v) (hn : n < 100) (hK : K + 1074 = p + m + 2) (hKk : K ≤ 2040) (hm : m ≤ 2040) : zeB ((n + 1) * 2 ^ K) (if b then zA a (zM s (zS u v)) else a) := by
  by_cases h : b
  · rw [if_pos h]
    obtain ⟨h1, h2, h3⟩ := hs h
    have h4 := zeB_S2 h2 h3 m (by omega) (Nat.le_refl _) (Nat.le_refl _)
    have h5 := zeB_M2 h1 h4 K (by omega) (by omega)
    refine zeB_A ha h5 _ K (by omega) (by omega) ?_
    rw [Nat.add_mul, Nat.one_mul]
    exact Nat.le_refl _
  · rw [if_neg h]
    exact zeB_mono ha (Nat.mul_le_mul_right _ (Nat.le_succ n))
theorem ze_move {w h : Nat} {R N S : Nat → ZD} (hs : zeS w h R N) {m : Nat} (hm1 : 10 ≤ m) (hm : m ≤ 1600) (hS : ∀ c, c < w * h → zeB (2 ^ m) (S c)) {x y : Nat} (hx : x < w) (hy : y < h) :
    zeB (2 ^ (m + 4)) (zA (S (y * w + x)) (zQ (zM zhalf (zforce w h R N S x y)) (zhold w h R N x y))) := by
  obtain ⟨g1, g2, g3, g4, g5, g6, g7, _⟩ := ze_hold hs hx hy
  obtain ⟨sR, sN, eR, eN⟩ := hs
  have hc := hS _ (zrow hx hy)
  generalize zhold w h R N x y = Hd at *
  have hne : zez Hd ≠ 0 := by
    have := Nat.two_pow_pos 1070
    rw [ze_gcm] at g3
    omega
  obtain ⟨p, hp1, hp2⟩ : ∃ p, 2 ^ p ≤ zez Hd ∧ zez Hd < 2 ^ (p + 1) := ⟨(zez Hd).log2, Nat.log2_self_le hne, Nat.lt_log2_self⟩
  have hp3 : 1070 < p + 1 := (Nat.pow_lt_pow_iff_right (by decide : 1 < 2)).mp (Nat.lt_of_le_of_lt (by rw [← ze_gcm]; exact g3) hp2)
  have hp4 : p ≤ 1091 := (Nat.pow_le_pow_iff_right (by decide : 1 < 2)).mp (Nat.le_trans hp1 g2.2.2)
  obtain ⟨K, hK⟩ : ∃ K, K + 1 + 1074 = p + m + 2 := ⟨p + m + 1 - 1074, by omega⟩
  have up : ∀ {d : ZD} {b : Nat}, zeB b d → zez d ≤ zez Hd → zeB (2 ^ (p + 1)) d := fun hb hz => ⟨hb.1, hb.2.1, Nat.le_trans hz (Nat.le_of_lt hp2)⟩
  have f1 : zeB ((0 + 1) * 2 ^ (K + 1)) (zf1 w R S x y) := ze_fadd (b := x + 1 < w) (p := p) (m := m) (ze_z0b _) (fun q => ⟨up (sR x y hx hy).2 (g4 q), hS _ (zrow q hy), hc⟩) (by decide) hK (by omega) (by omega)
  have f2 : zeB ((0 + 1 + 1) * 2 ^ (K + 1)) (zf2 w R S x y) := ze_fadd (b := 0 < x) (p := p) (m := m) f1 (fun q => ⟨up (sR (x - 1) y (by omega) hy).2 (g5 q), hS _ (zrow (by omega) hy), hc⟩) (by decide) hK (by omega) (by omega)
  have f3 : zeB ((0 + 1 + 1 + 1) * 2 ^ (K + 1)) (zf3 w h R N S x y) := ze_fadd (b := y + 1 < h) (p := p) (m := m) f2 (fun q => ⟨up (sN x y hx hy).2 (g6 q), hS _ (zrow hx q), hc⟩) (by decide) hK (by omega) (by omega)
  have f4 : zeB ((0 + 1 + 1 + 1 + 1) * 2 ^ (K + 1)) (zf4 w h R N S x y) := ze_fadd (b := 0 < y) (p := p) (m := m) f3 (fun q => ⟨up (sN x (y - 1) hx (by omega)).2 (g7 q), hS _ (zrow hx (by omega)), hc⟩) (by decide) hK (by omega) (by omega)
  have f5 : zeB (2 ^ (K + 1)) (zM zgc (S (y * w + x))) := zeB_M2 (up ze_gcB g3) hc (K + 1) (by omega) (by omega)
  have f6 : zeB (5 * 2 ^ (K + 1)) (zforce w h R N S x y) := zeB_S f4 f5 5 (K + 1) (by decide) (by omega) (by
    show 4 * 2 ^ (K + 1) + 2 ^ (K + 1) ≤ 5 * 2 ^ (K + 1)
    omega)
  have f7 : zeB (5 * 2 ^ K) (zM zhalf (zforce w h R N S x y)) := zeB_M ze_halfB f6 5 K (by decide) (by omega) (by
    rw [Nat.mul_left_comm, ze_pp, Nat.mul_assoc, ze_pp]
    exact Nat.mul_le_mul_left _ (ze_ple (by omega)))
  have f8 : zeB (10 * 2 ^ m) (zQ (zM zhalf (zforce w h R N S x y)) Hd) := zeB_Q f7 ⟨g1, hp1⟩ (Nat.two_pow_pos _) 10 m (by decide) (by omega) (by
    rw [Nat.mul_assoc, ze_pp, Nat.mul_assoc, ze_pp, show K + 1074 = (m + p) + 1 by omega, Nat.pow_succ]
    omega)
  have f9 := zeB_A hc f8 1 (m + 4) (by decide) (by omega) (by
    rw [Nat.one_mul, Nat.pow_add]
    omega)
  rwa [Nat.one_mul] at f9
theorem ze_rel {w h : Nat} {T R N S : Nat → ZD} (hs : zeS w h R N) {m : Nat} (hm1 : 10 ≤ m) (hw : 0 < w) (hS : ∀ c, c < w * h → zeB (2 ^ m) (S c)) : ∀ n, n ≤ w * h → m + 4 * n ≤ 1600 → ∀ c, c < w * h → zeB (2 ^ (m + 4 * n)) (zrel w h T R N n S c)
  | 0, _, _ => hS
  | n + 1, h1, h2 => by
    have ih := ze_rel (T := T) hs hm1 hw hS n (by omega) (by omega)
    show ∀ c, c < w * h → zeB (2 ^ (m + 4 * (n + 1))) (zrelF w h T R N n (zrel w h T R N n S) c)
    generalize zrel w h T R N n S = F at ih ⊢
    intro c hc
    unfold zrelF
    have hmono : zeB (2 ^ (m + 4 * (n + 1))) (F c) := zeB_mono (ih c hc) (ze_ple (by omega))
    split
    · by_cases e : c = n
      · subst e
        rw [zu_s]
        have hy : c / w < h := Nat.div_lt_of_lt_mul hc
        have hx : c % w < w := Nat.mod_lt _ hw
        have h3 := ze_move hs (m := m + 4 * c) (by omega) (by omega) ih hx hy
        rw [show c / w * w + c % w = c by rw [Nat.mul_comm]; exact Nat.div_add_mod c w] at h3
        rw [show m + 4 * (c + 1) = m + 4 * c + 4 by omega]
        exact h3
      · rw [zu_n e]
        exact hmono
    · exact hmono
theorem ze_rel0 {w h : Nat} {T R N S : Nat → ZD} (hS : ∀ c, zgt (T c) z0 = false → S c = z0) : ∀ n c, zgt (T c) z0 = false → zrel w h T R N n S c = z0
  | 0, c, hc => hS c hc
  | n + 1, c, hc => by
    have ih := ze_rel0 (w := w) (h := h) (R := R) (N := N) hS n c hc
    show zrelF w h T R N n (zrel w h T R N n S) c = z0
    generalize zrel w h T R N n S = F at ih ⊢
    unfold zrelF
    split
    · next q =>
      rw [zu_n (fun e => by rw [e, q] at hc; cases hc)]
      exact ih
    · exact ih
/-! PRODUCTs -/
theorem ze_mass {t de : ZD} (ht : zeR t) (hd : zeR de) : zeB (2 ^ 1080) (zM t de) ∧ FP.Core.sgn (zM t de) = false ∧ 2 ^ 1068 ≤ zez (zM t de) :=
  ⟨zeB_M2 ht.2.2 hd.2.2 1080 (by decide) (by decide), (zeN_M ht.1 hd.1 ht.2.2 hd.2.2).2.2, (zeM_ge ht.2.2 hd.2.2 ht.2.1 hd.2.1 (k := 1068) (by decide) (by decide)).1⟩
theorem ze_prod {T S1 S2 : Nat → ZD} {de : ZD} {n i j K : Nat} (hT : zeG T n) (hd : zeR de) (h1 : ∀ c, c < n → zeB (2 ^ i) (S1 c)) (h2 : ∀ c, c < n → zeB (2 ^ j) (S2 c)) (hn : n ≤ 36) (hi : i ≤ 2030) (hK : K ≤ 2039) (h : i + 6 + j ≤ K + 1074) : ∀ m, m ≤ n → zeB (m * 2 ^ K) (zprod T S1 S2 de m)
  | 0, _ => ze_z0b _
  | m + 1, hm => by
    have ih := ze_prod hT hd h1 h2 hn hi hK h m (by omega)
    cases hw : zgt (T m) z0 with
    | false =>
      rw [zprod_f hw]
      exact zeB_mono ih (Nat.mul_le_mul_right _ (Nat.le_succ m))
    | true =>
      rw [zprod_t hw]
      obtain ⟨m1, m2, m3⟩ := ze_mass (zeG_w hT (by omega) hw) hd
      have t1 := zeB_M2 m1 (h1 m (by omega)) (i + 6) (by omega) (by omega)
      have t2 := zeB_M2 t1 (h2 m (by omega)) K (by omega) (by omega)
      refine zeB_A ih t2 (m + 1) K (by omega) (by omega) ?_
      rw [Nat.add_mul, Nat.one_mul]
      exact Nat.le_refl _
theorem ze_prod36 {T S1 S2 : Nat → ZD} {de : ZD} {n i j K : Nat} (hT : zeG T n) (hd : zeR de) (h1 : ∀ c, c < n → zeB (2 ^ i) (S1 c)) (h2 : ∀ c, c < n → zeB (2 ^ j) (S2 c)) (hn : n ≤ 36) (hi : i ≤ 2030) (hK : K ≤ 2039) (h : i + 6 + j ≤ K + 1074) : zeB (2 ^ (K + 6)) (zprod T S1 S2 de n) := by
  refine zeB_mono (ze_prod hT hd h1 h2 hn hi hK h n (Nat.le_refl _)) ?_
  rw [Nat.add_comm, Nat.pow_add]
  exact Nat.mul_le_mul_right _ (Nat.le_trans hn (by decide))
theorem ze_prodL {T S : Nat → ZD} {de : ZD} {n i : Nat} (hT : zeG T n) (hd : zeR de) (h1 : ∀ c, c < n → zeB (2 ^ i) (S c)) (hi : i ≤ 2030) : ∀ m, m ≤ n → zeN (zprod T S S de m) ∧ ∀ c, c < m → zgt (T c) z0 = true → zez (zM (zM (zM (T c) de) (S c)) (S c)) ≤ zez (zprod T S S de m)
  | 0, _ => ⟨ze_z0n, fun c hc => absurd hc (Nat.not_lt_zero c)⟩
  | m + 1, hm => by
    obtain ⟨ih1, ih2⟩ := ze_prodL hT hd h1 hi m (by omega)
    cases hw : zgt (T m) z0 with
    | false =>
      rw [zprod_f hw]
      refine ⟨ih1, fun c hc hcw => ih2 c ?_ hcw⟩
      rcases Nat.lt_or_eq_of_le (Nat.le_of_lt_succ hc) with q | q
      · exact q
      · rw [q, hw] at hcw; cases hcw
    | true =>
      rw [zprod_t hw]
      obtain ⟨m1, m2, m3⟩ := ze_mass (zeG_w hT (by omega) hw) hd
      have t1 := zeB_M2 m1 (h1 m (by omega)) (i + 6) (by omega) (by omega)
      obtain ⟨t2, t3⟩ := zeMM (i := 0) (j := 0) (k := 0) m1 m2 (h1 m (by omega)) t1
      obtain ⟨a1, a2, a3⟩ := zeN_A ih1 (⟨FP.Core.round_fits FP.Core.good_b64 _, t3, t2⟩ : zeN (zM (zM (zM (T m) de) (S m)) (S m)))
      refine ⟨a1, fun c hc hcw => ?_⟩
      rcases Nat.lt_or_eq_of_le (Nat.le_of_lt_succ hc) with q | q
      · exact Nat.le_trans (ih2 c q hcw) a2
      · rw [q]; exact a3
/-! sizes and what is divided by them -/
theorem ze_size {T S : Nat → ZD} {de : ZD} {n i : Nat} (hT : zeG T n) (hd : zeR de) (h1 : ∀ c, c < n → zeB (2 ^ i) (S c)) (hn : n ≤ 36) (hi : i ≤ 1530) :
    (zroot (zprod T S S de n) = z0) ∨ (zeL (2 ^ 1044) (zroot (zprod T S S de n)) ∧ ∀ c, c < n → zgt (T c) z0 = true → zeB (2 ^ 1111) (zQ (S c) (zroot (zprod T S S de n)))) := by
  have b1 : zeB (2 ^ (1992 + 6)) (zprod T S S de n) := ze_prod36 hT hd h1 h1 hn (by omega) (by decide) (by omega)
  obtain ⟨n1, l1⟩ := ze_prodL hT hd h1 (by omega) n (Nat.le_refl _)
  generalize zprod T S S de n = v at *
  cases hv : zgt v z0 with
  | false => exact Or.inl (zroot_f hv)
  | true =>
    refine Or.inr ?_
    rw [zroot_t hv]
    obtain ⟨a1, a2, a3⟩ := zeN_A ze_z1n n1
    rw [show FP.Core.zmag FP.Core.b64 z1 = 2 ^ 1074 from ze_z1m] at a2
    have r0 : zeL (2 ^ 1044) (zfold (zrootF v) 30 (zA z1 v)) := zeL_fold b1 n1.2.2 (b := 1074) ⟨a1, a2⟩ (by decide) 30 (by decide)
    refine ⟨r0, fun c hc hw => ?_⟩
    have hS := h1 c hc
    by_cases q : zez (S c) ≤ 2 ^ 1074
    · have h2 := zeB_Q (⟨hS.1, hS.2.1, q⟩ : zeB (2 ^ 1074) (S c)) r0 (Nat.two_pow_pos _) 1 1111 (by decide) (by decide) (by
        rw [Nat.one_mul, ze_pp, ze_pp]
        exact ze_ple (by decide))
      rwa [Nat.one_mul] at h2
    · have hne : zez (S c) ≠ 0 := fun e => q (by rw [e]; exact Nat.zero_le _)
      obtain ⟨e, he1, he2⟩ : ∃ e, 2 ^ e ≤ zez (S c) ∧ zez (S c) < 2 ^ (e + 1) := ⟨(zez (S c)).log2, Nat.log2_self_le hne, Nat.lt_log2_self⟩
      have he3 : 1074 < e + 1 := (Nat.pow_lt_pow_iff_right (by decide : 1 < 2)).mp (Nat.lt_of_le_of_lt (Nat.le_of_lt (Nat.not_le.mp q)) he2)
      have he4 : e ≤ i := (Nat.pow_le_pow_iff_right (by decide : 1 < 2)).mp (Nat.le_trans he1 hS.2.2)
      obtain ⟨m1, m2, m3⟩ := ze_mass (zeG_w hT hc hw) hd
      have t1 := zeB_M2 m1 hS (i + 6) (by omega) (by omega)
      obtain ⟨u1, _, _⟩ := zeM_ge m1 hS m3 he1 (k := e - 6) (by omega) (by omega)
      obtain ⟨u2, _, _⟩ := zeM_ge t1 hS u1 he1 (k := 2 * e - 1080) (by omega) (by omega)
      have u3 := Nat.le_trans u2 (Nat.le_trans (l1 c hc hw) a3)
      have r1 := zeL_fold b1 n1.2.2 (b := 2 * e - 1080) ⟨a1, u3⟩ (by omega) 30 (by omega)
      have h2 := zeB_Q (⟨hS.1, hS.2.1, Nat.le_of_lt he2⟩ : zeB (2 ^ (e + 1)) (S c)) r1 (Nat.two_pow_pos _) 1 1111 (by decide) (by decide) (by
        rw [Nat.one_mul, ze_pp, ze_pp]
        exact ze_ple (by omega))
      rwa [Nat.one_mul] at h2
/-! nothing where no wood is -/
theorem ze_zero1 {p : ZD} {b : Nat} (hp : zeB b p) : zS z0 (zM p z0) = z0 := by
  obtain ⟨f, ⟨s, c, q, rfl⟩, _⟩ := hp
  have e1 : zM (.fin s c q) z0 = .fin s 0 FP.Core.b64.qmin := by
    rw [ze_z0]
    unfold zM
    show FP.Core.roundRatio FP.Core.b64 (s != false) (c * 0) 1 _ = _
    rw [Nat.mul_zero]
    cases s <;> rfl
  rw [e1]
  cases s <;> decide +kernel
theorem ze_zero2 {z : ZD} {b : Nat} (hz : zeL b z) (hb : 0 < b) : zQ z0 z = z0 := by
  obtain ⟨⟨f, n, s⟩, l⟩ := hz
  rw [ze_z0]
  cases z with
  | nan => exact absurd rfl n
  | inf t =>
    have ht : t = false := s
    subst ht
    rfl
  | fin t d r =>
    have ht : t = false := s
    subst ht
    have hd0 : d ≠ 0 := by
      rintro rfl
      have h1 : FP.Core.zmag FP.Core.b64 (.fin false 0 r) = 0 := Nat.zero_mul _
      omega
    unfold zQ
    simp only [FP.Core.quotient, if_neg hd0]
    rfl
/-- a shape as it can be between two sweeps -/
def zeW (T S : Nat → ZD) (n m : Nat) : Prop := (∀ c, c < n → zeB (2 ^ m) (S c)) ∧ ∀ c, zgt (T c) z0 = false → S c = z0
theorem ze_take {T S L : Nat → ZD} {de : ZD} {n m : Nat} (hT : zeG T n) (hd : zeR de) (hn : n ≤ 36) (hS : zeW T S n m) (hL : zeW T L n 1111) (hm : m ≤ 1500) : zeB (2 ^ (m + 49)) (zprod T S L de n) ∧ zeW T (ztk T (zprod T S L de n) L S) n (m + 87) := by
  have p1 : zeB (2 ^ (m + 43 + 6)) (zprod T S L de n) := ze_prod36 hT hd hS.1 hL.1 hn (by omega) (by omega) (by omega)
  refine ⟨p1, fun c hc => ?_, fun c hc => if_neg (by rw [hc]; decide)⟩
  unfold ztk
  split
  · have t1 := zeB_M2 p1 (hL.1 c hc) (m + 86) (by omega) (by omega)
    exact zeB_S2 (hS.1 c hc) t1 (m + 86) (by omega) (by omega) (Nat.le_refl _)
  · exact ze_z0b _
theorem ze_takes {T S : Nat → ZD} {de : ZD} {n m : Nat} {L : Nat → Nat → ZD} {k : Nat} (hT : zeG T n) (hd : zeR de) (hn : n ≤ 36) (hS : zeW T S n m) (hL : ∀ j, j < k → zeW T (L j) n 1111) (hm : m ≤ 1255) (hk : k ≤ 3) : ∀ j, j ≤ k → zeW T (ztake T de n L j S) n (m + 87 * j)
  | 0, _ => hS
  | j + 1, h => by
    have ih := ze_takes hT hd hn hS hL hm hk j (by omega)
    rw [ztake_s, show m + 87 * (j + 1) = m + 87 * j + 87 by omega]
    exact (ze_take hT hd hn ih (hL j (by omega)) (by omega)).2
theorem ze_begin {T : Nat → ZD} {w n k : Nat} : zeW T (zbegin w T k) n 1111 := by
  refine ⟨fun c _ => ?_, fun c hc => zbegin_f hc⟩
  unfold zbegin
  split
  · unfold zbeg
    have h1 : ∀ j, j < 11 → zeB (2 ^ 1111) (zA z1 (zQ (zv (FP.i2d (nI j))) (zv 4620693217682128896))) := by
      intro j hj
      have h2 : ∀ j : Fin 11, (match zA z1 (zQ (zv (FP.i2d (nI j.val))) (zv 4620693217682128896)) with | .fin _ c q => decide (FP.Core.inUnits c q FP.Core.b64.qmin ≤ 2 ^ 1111) | _ => false) = true := by decide +kernel
      have h3 := h2 ⟨j, hj⟩
      have hf : zef (zA z1 (zQ (zv (FP.i2d (nI j))) (zv 4620693217682128896))) := FP.Core.round_fits FP.Core.good_b64 _
      change (match zA z1 (zQ (zv (FP.i2d (nI j))) (zv 4620693217682128896)) with | .fin _ c q => decide (FP.Core.inUnits c q FP.Core.b64.qmin ≤ 2 ^ 1111) | _ => false) = true at h3
      generalize zA z1 (zQ (zv (FP.i2d (nI j))) (zv 4620693217682128896)) = d at h3 hf ⊢
      cases d with
      | nan => cases h3
      | inf s => cases h3
      | fin s c q => exact ⟨hf, ⟨_, _, _, rfl⟩, of_decide_eq_true h3⟩
    exact h1 _ (Nat.mod_lt _ (by decide))
  · exact ze_z0b _
/-- one sweep -/
theorem ze_sweep {w h : Nat} {T R N S : Nat → ZD} {de : ZD} {L : Nat → Nat → ZD} {k : Nat} (hw : 0 < w) (hw6 : w ≤ 6) (hh6 : h ≤ 6) (hs : zeS w h R N) (hT : zeG T (w * h)) (hd : zeR de) (hS : zeW T S (w * h) 1111) (hL : ∀ j, j < k → zeW T (L j) (w * h) 1111) (hk : k ≤ 3) :
    (∀ j, j < k → zeW T (ztake T de (w * h) L j (zrel w h T R N (w * h) S)) (w * h) (1255 + 87 * j) ∧ zeB (2 ^ (1255 + 87 * j + 49)) (zprod T (ztake T de (w * h) L j (zrel w h T R N (w * h) S)) (L j) de (w * h))) ∧
    ((zsz w h T R N de k L S = z0) ∨ (zeL (2 ^ 1044) (zsz w h T R N de k L S) ∧ zeW T (znrm T (zsz w h T R N de k L S) (zsw1 w h T R N de k L S)) (w * h) 1111)) ∧ ∀ c, zgt (T c) z0 = false → zsw1 w h T R N de k L S c = z0 := by
  have h36 : w * h ≤ 36 := Nat.mul_le_mul hw6 hh6
  have r1 : zeW T (zrel w h T R N (w * h) S) (w * h) 1255 := ⟨fun c hc => zeB_mono (ze_rel hs (by decide) hw hS.1 (w * h) (Nat.le_refl _) (by omega) c hc) (ze_ple (by omega)), fun c hc => ze_rel0 hS.2 _ c hc⟩
  have r2 := ze_takes hT hd h36 r1 hL (Nat.le_refl _) hk
  refine ⟨fun j hj => ⟨r2 j (by omega), (ze_take hT hd h36 (r2 j (by omega)) (hL j hj) (by omega)).1⟩, ?_, (r2 k (Nat.le_refl _)).2⟩
  have r3 : zeW T (zsw1 w h T R N de k L S) (w * h) (1255 + 87 * k) := r2 k (Nat.le_refl _)
  rcases ze_size hT hd r3.1 h36 (by omega) with q | ⟨q1, q2⟩
  · exact Or.inl q
  · refine Or.inr ⟨q1, fun c hc => ?_, fun c hc => if_neg (by rw [hc]; decide)⟩
    unfold znrm
    split
    · next q => exact q2 c hc q
    · exact ze_z0b _
theorem ze_sweeps {w h : Nat} {T R N S0 : Nat → ZD} {de : ZD} {L : Nat → Nat → ZD} {k : Nat} (hw : 0 < w) (hw6 : w ≤ 6) (hh6 : h ≤ 6) (hs : zeS w h R N) (hT : zeG T (w * h)) (hd : zeR de) (hS : zeW T S0 (w * h) 1111) (hL : ∀ j, j < k → zeW T (L j) (w * h) 1111) (hk : k ≤ 3) : ∀ n F, zswO w h T R N de k L S0 n = some F → zeW T F (w * h) 1111
  | 0, F, e => by
    have e2 : some S0 = some F := e
    injection e2 with e2
    rw [← e2]
    exact hS
  | n + 1, F, e => by
    cases e1 : zswO w h T R N de k L S0 n with
    | none =>
      have h1 := zswO_none e1 1
      rw [h1] at e
      cases e
    | some G =>
      have ih := ze_sweeps hw hw6 hh6 hs hT hd hS hL hk n G e1
      obtain ⟨_, s2, _⟩ := ze_sweep (k := k) hw hw6 hh6 hs hT hd ih hL hk
      rcases s2 with q | ⟨q1, q2⟩
      · rw [zswO_n e1 (by rw [q]; exact ze_z0eq)] at e
        cases e
      · rw [zswO_s e1 (ze_gt q1 (Nat.two_pow_pos _)).2] at e
        injection e with e
        rw [← e]
        exact q2
theorem ze_shapes {w h : Nat} {T R N : Nat → ZD} {de : ZD} (hw : 0 < w) (hw6 : w ≤ 6) (hh6 : h ≤ 6) (hs : zeS w h R N) (hT : zeG T (w * h)) (hd : zeR de) : ∀ k, k ≤ 4 → ∀ L, zshO w h T R N de k = some L → ∀ j, j < k → zeW T (L j) (w * h) 1111
  | 0, _, _, _, j, hj => absurd hj (Nat.not_lt_zero j)
  | k + 1, hk, L, e, j, hj => by
    cases e1 : zshO w h T R N de k with
    | none => rw [zshO_none e1 1] at e; cases e
    | some L1 =>
      have ih := ze_shapes hw hw6 hh6 hs hT hd k (by omega) L1 e1
      cases e2 : zswO w h T R N de k L1 (zbegin w T k) 24 with
      | none => rw [zshO_n e1 e2] at e; cases e
      | some S =>
        rw [zshO_s e1 e2] at e
        injection e with e
        rw [← e]
        by_cases q : j = k
        · rw [q, zu_s]
          exact ze_sweeps hw hw6 hh6 hs hT hd ze_begin ih (by omega) 24 S e2
        · rw [zu_n q]
          exact ih j (by omega)
theorem zOK_of {w h : Nat} {T R N : Nat → ZD} {de : ZD} (hw : 0 < w) (hw6 : w ≤ 6) (hh6 : h ≤ 6) (hs : zeS w h R N) (hT : zeG T (w * h)) (hd : zeR de) : zOK w h T R N de := by
  refine ⟨fun x y hx hy => (ze_hold hs hx hy).2.2.2.2.2.2.2, fun k hk L hL i hi F hF => ?_⟩
  have hLs := ze_shapes hw hw6 hh6 hs hT hd k (by omega) L hL
  have hW := ze_sweeps hw hw6 hh6 hs hT hd ze_begin hLs (by omega) i F hF
  obtain ⟨s1, s2, s3⟩ := ze_sweep (k := k) hw hw6 hh6 hs hT hd hW hLs (by omega)
  refine ⟨fun j hj c hc => ?_, ?_, fun hg c hc => ?_⟩
  · rw [ztake_s]
    obtain ⟨t1, t2⟩ := s1 j hj
    unfold ztk
    cases q : zgt (T c) z0 with
    | true => rw [if_pos rfl]
    | false =>
      rw [if_neg (by decide), t1.2 c q, (hLs j hj).2 c q]
      exact ze_zero1 t2
  · rcases s2 with q | ⟨q1, q2⟩
    · rw [q, ze_z0eq, ze_z0gt]
      rfl
    · obtain ⟨g1, g2⟩ := ze_gt q1 (Nat.two_pow_pos _)
      rw [g1, g2]
      rfl
  · unfold znrm
    rcases s2 with q | ⟨q1, q2⟩
    · rw [q, ze_z0gt] at hg
      cases hg
    · cases qw : zgt (T c) z0 with
      | true => rw [if_pos rfl]
      | false =>
        rw [if_neg (by decide), s3 c qw]
        exact ze_zero2 q1 (Nat.two_pow_pos _)
