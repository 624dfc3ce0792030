/-! 26: numbers that differ in a zero's sign alone -/
def zel (d : ZD) : Prop := ∃ s : Bool, d = .fin s 0 FP.Core.b64.qmin
def zq (a b : ZD) : Prop := a = b ∨ (zel a ∧ zel b)
theorem zq_rf (a : ZD) : zq a a := Or.inl rfl
theorem zq_tr {a b c : ZD} (h1 : zq a b) (h2 : zq b c) : zq a c := by
  rcases h1 with rfl | ⟨h1, h1'⟩
  · exact h2
  · rcases h2 with rfl | ⟨h2, h2'⟩
    · exact Or.inr ⟨h1, h1'⟩
    · exact Or.inr ⟨h1, h2'⟩
theorem zq_N {a b : ZD} (h : zq a b) : zq (FP.Core.negate a) (FP.Core.negate b) := by
  rcases h with rfl | ⟨⟨s, rfl⟩, ⟨t, rfl⟩⟩
  · exact zq_rf _
  · exact Or.inr ⟨⟨!s, rfl⟩, ⟨!t, rfl⟩⟩
theorem zel_r0 (s : Bool) (B : Nat) (e : Int) : zel (FP.Core.roundRatio FP.Core.b64 s 0 B e) := ⟨s, rfl⟩
theorem zq_M {a a' b : ZD} (h : zq a a') : zq (zM a b) (zM a' b) := by
  rcases h with rfl | ⟨⟨s, rfl⟩, ⟨t, rfl⟩⟩
  · exact zq_rf _
  · cases b with
    | nan => exact Or.inl rfl
    | inf u => exact Or.inl rfl
    | fin u d r =>
      refine Or.inr ⟨⟨(s != u), ?_⟩, ⟨(t != u), ?_⟩⟩
      · show FP.Core.roundRatio FP.Core.b64 (s != u) (0 * d) 1 _ = _
        rw [Nat.zero_mul]
        rfl
      · show FP.Core.roundRatio FP.Core.b64 (t != u) (0 * d) 1 _ = _
        rw [Nat.zero_mul]
        rfl
theorem zM_comm (a b : ZD) : zM a b = zM b a := by
  unfold zM
  rw [FP.Core.exactProduct_comm]
theorem zA_comm (a b : ZD) : zA a b = zA b a := by
  unfold zA
  rw [FP.Core.exactSum_comm]
theorem zq_M2 {a a' b b' : ZD} (h : zq a a') (h2 : zq b b') : zq (zM a b) (zM a' b') := by
  refine zq_tr (zq_M h) ?_
  rw [zM_comm a' b, zM_comm a' b']
  exact zq_M h2
theorem zA_z {s t : Bool} {u : Bool} {d : Nat} {r : Int} (hd : d ≠ 0) : zA (.fin s 0 FP.Core.b64.qmin) (.fin u d r) = zA (.fin t 0 FP.Core.b64.qmin) (.fin u d r) := by
  have h0 : FP.Core.inUnits 0 FP.Core.b64.qmin (min FP.Core.b64.qmin r) = 0 := Nat.zero_mul _
  have h1 : FP.Core.inUnits d r (min FP.Core.b64.qmin r) ≠ 0 := Nat.ne_of_gt (Nat.mul_pos (Nat.pos_of_ne_zero hd) (Nat.two_pow_pos _))
  have hu : ∀ z : Bool, FP.Core.sumUnits z 0 FP.Core.b64.qmin u d r (min FP.Core.b64.qmin r) = FP.Core.signed u (FP.Core.inUnits d r (min FP.Core.b64.qmin r)) := by
    intro z
    unfold FP.Core.sumUnits
    rw [h0, FP.Core.signed_zero, Int.zero_add]
  have hn : FP.Core.signed u (FP.Core.inUnits d r (min FP.Core.b64.qmin r)) ≠ 0 := fun q => h1 ((FP.Core.signed_eq_zero _ _).mp q)
  unfold zA
  simp only [FP.Core.exactSum]
  rw [hu s, hu t]
  unfold FP.Core.sumSign
  rw [if_neg hn, if_neg hn]
theorem zA_zz {s u : Bool} {r : Int} : zel (zA (.fin s 0 FP.Core.b64.qmin) (.fin u 0 r)) := by
  have hu : FP.Core.sumUnits s 0 FP.Core.b64.qmin u 0 r (min FP.Core.b64.qmin r) = 0 := by
    unfold FP.Core.sumUnits
    rw [show FP.Core.inUnits 0 FP.Core.b64.qmin (min FP.Core.b64.qmin r) = 0 from Nat.zero_mul _, show FP.Core.inUnits 0 r (min FP.Core.b64.qmin r) = 0 from Nat.zero_mul _, FP.Core.signed_zero, FP.Core.signed_zero]
    rfl
  unfold zA
  simp only [FP.Core.exactSum]
  rw [hu]
  exact zel_r0 _ _ _
theorem zq_A {a a' b : ZD} (h : zq a a') : zq (zA a b) (zA a' b) := by
  rcases h with rfl | ⟨⟨s, rfl⟩, ⟨t, rfl⟩⟩
  · exact zq_rf _
  · cases b with
    | nan => exact Or.inl rfl
    | inf u => exact Or.inl rfl
    | fin u d r =>
      by_cases hd : d = 0
      · subst hd
        exact Or.inr ⟨zA_zz, zA_zz⟩
      · exact Or.inl (zA_z hd)
theorem zq_A2 {a a' b b' : ZD} (h : zq a a') (h2 : zq b b') : zq (zA a b) (zA a' b') := by
  refine zq_tr (zq_A h) ?_
  rw [zA_comm a' b, zA_comm a' b']
  exact zq_A h2
theorem zq_S2 {a a' b b' : ZD} (h : zq a a') (h2 : zq b b') : zq (zS a b) (zS a' b') := zq_A2 h (zq_N h2)
theorem zq_Q {a a' b : ZD} (h : zq a a') : zq (zQ a b) (zQ a' b) := by
  rcases h with rfl | ⟨⟨s, rfl⟩, ⟨t, rfl⟩⟩
  · exact zq_rf _
  · cases b with
    | nan => exact Or.inl rfl
    | inf u => exact Or.inr ⟨⟨_, rfl⟩, ⟨_, rfl⟩⟩
    | fin u d r =>
      by_cases hd : d = 0
      · subst hd
        exact Or.inl rfl
      · refine Or.inr ⟨⟨(s != u), ?_⟩, ⟨(t != u), ?_⟩⟩
        · unfold zQ
          simp only [FP.Core.quotient, if_neg hd]
          rfl
        · unfold zQ
          simp only [FP.Core.quotient, if_neg hd]
          rfl
theorem zo_z {s t : Bool} {b : ZD} : zo (.fin s 0 FP.Core.b64.qmin) b = zo (.fin t 0 FP.Core.b64.qmin) b := by
  cases b with
  | nan => rfl
  | inf u => rfl
  | fin u d r =>
    unfold zo
    simp only [FP.Core.order]
    rw [show FP.Core.inUnits 0 FP.Core.b64.qmin (min FP.Core.b64.qmin r) = 0 from Nat.zero_mul _, FP.Core.signed_zero, FP.Core.signed_zero]
theorem zo_z2 {s t : Bool} {b : ZD} : zo b (.fin s 0 FP.Core.b64.qmin) = zo b (.fin t 0 FP.Core.b64.qmin) := by
  unfold zo
  rw [FP.Core.order_swap (.fin s 0 FP.Core.b64.qmin) b, FP.Core.order_swap (.fin t 0 FP.Core.b64.qmin) b]
  exact congrArg (Option.map Ordering.swap) zo_z
theorem zq_o {a a' b b' : ZD} (h : zq a a') (h2 : zq b b') : zo a b = zo a' b' := by
  have h3 : zo a b = zo a' b := by
    rcases h with rfl | ⟨⟨s, rfl⟩, ⟨t, rfl⟩⟩
    · rfl
    · exact zo_z
  rw [h3]
  rcases h2 with rfl | ⟨⟨s, rfl⟩, ⟨t, rfl⟩⟩
  · rfl
  · exact zo_z2
theorem zq_gt {a a' b b' : ZD} (h : zq a a') (h2 : zq b b') : zgt a b = zgt a' b' := by unfold zgt; rw [zq_o h h2]
theorem zq_lt {a a' b b' : ZD} (h : zq a a') (h2 : zq b b') : zlt a b = zlt a' b' := by unfold zlt; rw [zq_o h h2]
/-- the law's own way of holding two numbers against one another -/
theorem zq_end {a b : ZD} (h : zq a b) : zeq a b = true ∨ (zeq a a = false ∧ zeq b b = false) := by
  have h1 : zo a b = zo a a := zq_o (zq_rf a) (by rcases h with rfl | ⟨h, h'⟩; exact zq_rf _; exact Or.inr ⟨h', h⟩)
  have h2 : zo b b = zo a a := zq_o (by rcases h with rfl | ⟨h, h'⟩; exact zq_rf _; exact Or.inr ⟨h', h⟩) (by rcases h with rfl | ⟨h, h'⟩; exact zq_rf _; exact Or.inr ⟨h', h⟩)
  unfold zeq
  rw [h1, h2]
  by_cases hn : a = .nan
  · right
    have h3 : zo a a = none := (FP.Core.order_none a a).mpr (Or.inl hn)
    rw [h3]
    exact ⟨rfl, rfl⟩
  · left
    have h3 : zo a a = some .eq := FP.Core.order_self hn
    rw [h3]
    rfl
/-- minus, and nothing less it -/
theorem zq_neg {x : ZD} (hf : zef x) : zq (zN x) (zS z0 x) := by
  unfold zN zS
  rw [ze_z0]
  cases x with
  | nan => exact Or.inl rfl
  | inf s => exact Or.inl rfl
  | fin s c q =>
    by_cases hc : c = 0
    · subst hc
      have hq := FP.Core.fits_zero_q FP.Core.good_b64 hf
      subst hq
      refine Or.inr ⟨⟨!s, rfl⟩, ?_⟩
      exact zA_zz (s := false) (u := !s)
    · left
      rw [FP.Core.exactSum_comm]
      refine (FP.Core.round_sum_zero FP.Core.good_b64 (d := FP.Core.negate (.fin s c q)) (FP.Core.negate_fits hf) false (fun s' q' e => ?_)).symm
      injection e with e1 e2 e3
      exact absurd e2 hc
/-! what follows of squares that differ so -/
theorem zq_root {v v' : ZD} (h : zq v v') : zroot v = zroot v' := by
  have h1 := zq_gt h (zq_rf z0)
  cases hv : zgt v z0 with
  | false => rw [zroot_f hv, zroot_f (h1.symm.trans hv)]
  | true =>
    rcases h with rfl | ⟨⟨s, rfl⟩, h2⟩
    · rfl
    · have h3 : zgt (.fin s 0 FP.Core.b64.qmin) z0 = zgt (.fin false 0 FP.Core.b64.qmin) z0 := by unfold zgt; rw [zo_z]
      rw [h3, ← ze_z0, ze_z0gt] at hv
      cases hv
theorem zq_cp {sq sq' su q g : ZD} {gr : Bool} (h : zq sq sq') : zq (zcpV sq su q g gr) (zcpV sq' su q g gr) := by
  have hp : zq (zA (zA sq (zM (zM q su) su)) g) (zA (zA sq' (zM (zM q su) su)) g) := zq_A (zq_A h)
  have hd : zq (zS (zM (zA (zA sq (zM (zM q su) su)) g) (zA (zA sq (zM (zM q su) su)) g)) (zM (zM (zv 4616189618054758400) sq) g)) (zS (zM (zA (zA sq' (zM (zM q su) su)) g) (zA (zA sq' (zM (zM q su) su)) g)) (zM (zM (zv 4616189618054758400) sq') g)) :=
    zq_S2 (zq_M2 hp hp) (zq_M (zq_M2 (zq_rf _) h))
  unfold zcpV
  rw [zq_root hd]
  split
  · exact zq_Q (zq_A hp)
  · exact zq_Q (zq_S2 hp (zq_rf _))
theorem zA1_eq {x x' : ZD} (h : zq x x') : zA z1 x = zA z1 x' := by
  rcases h with rfl | ⟨⟨s, rfl⟩, ⟨t, rfl⟩⟩
  · rfl
  · rw [zA_comm z1, zA_comm z1, show z1 = .fin false (2 ^ 52) (-52) from FP.Core.val64_dconst1]
    exact zA_z (by decide)
theorem zq_tap {sh v sq sq' : ZD} (h : zq sq sq') : ztapV sh v sq = ztapV sh v sq' := by
  have h1 : zq (zS v sq) (zS v sq') := zq_S2 (zq_rf _) h
  unfold ztapV
  rw [zA1_eq (zq_M2 h1 h1)]
theorem zq_res {w h : Nat} {T R N S : Nat → ZD} {de sq sq' : ZD} (hs : zq sq sq') : ∀ n, zq (zres w h T R N S de sq n) (zres w h T R N S de sq' n)
  | 0 => zq_rf _
  | n + 1 => by
    have ih := zq_res (w := w) (h := h) (T := T) (R := R) (N := N) (S := S) (de := de) hs n
    show zq (zresF w h T R N S de sq n (zres w h T R N S de sq n)) (zresF w h T R N S de sq' n (zres w h T R N S de sq' n))
    generalize zres w h T R N S de sq n = a at ih ⊢
    generalize zres w h T R N S de sq' n = a' at ih ⊢
    have hv : zq (zresV w h T R N S de sq n (n % w) (n / w)) (zresV w h T R N S de sq' n (n % w) (n / w)) := by
      unfold zresV
      have h1 : zq (zA (zforce w h R N S (n % w) (n / w)) (zM (zM sq (zM (T n) de)) (S n))) (zA (zforce w h R N S (n % w) (n / w)) (zM (zM sq' (zM (T n) de)) (S n))) := zq_A2 (zq_rf _) (zq_M (zq_M hs))
      generalize zA (zforce w h R N S (n % w) (n / w)) (zM (zM sq (zM (T n) de)) (S n)) = x at h1 ⊢
      generalize zA (zforce w h R N S (n % w) (n / w)) (zM (zM sq' (zM (T n) de)) (S n)) = x' at h1 ⊢
      unfold zabs
      rw [zq_lt h1 (zq_rf z0)]
      split
      · exact zq_N h1
      · exact h1
    unfold zresF
    rw [zq_gt hv ih]
    split
    · split
      · exact hv
      · exact ih
    · exact ih
theorem zq_tot {sq sq' ws : Nat → ZD} (h : ∀ i, zq (sq i) (sq' i)) : ∀ n, zq (ztot sq ws n) (ztot sq' ws n)
  | 0 => zq_rf _
  | n + 1 => by
    have ih := zq_tot (ws := ws) h n
    have h1 : zq (zS (sq n) (ws n)) (zS (sq' n) (ws n)) := zq_S2 (h n) (zq_rf _)
    exact zq_A2 ih (zq_M2 h1 h1)
theorem zq_thin {CN : (Nat → ZD) → Nat} {TO TO' : (Nat → ZD) → ZD} {need : Nat} {st lo : ZD} {T : Nat → ZD} (h : ∀ T, zq (TO T) (TO' T)) : ∀ n, (zthin CN TO need st lo T n).1 = (zthin CN TO' need st lo T n).1 ∧ zq (zthin CN TO need st lo T n).2.1 (zthin CN TO' need st lo T n).2.1 ∧ (zthin CN TO need st lo T n).2.2 = (zthin CN TO' need st lo T n).2.2
  | 0 => ⟨rfl, h T, rfl⟩
  | n + 1 => by
    obtain ⟨h1, h2, h3⟩ := zq_thin (CN := CN) (need := need) (st := st) (lo := lo) (T := T) h n
    show (zthF CN TO need st lo n (zthin CN TO need st lo T n)).1 = (zthF CN TO' need st lo n (zthin CN TO' need st lo T n)).1 ∧ zq (zthF CN TO need st lo n (zthin CN TO need st lo T n)).2.1 (zthF CN TO' need st lo n (zthin CN TO' need st lo T n)).2.1 ∧ (zthF CN TO need st lo n (zthin CN TO need st lo T n)).2.2 = (zthF CN TO' need st lo n (zthin CN TO' need st lo T n)).2.2
    generalize zthin CN TO need st lo T n = q at h1 h2 h3 ⊢
    generalize zthin CN TO' need st lo T n = q' at h1 h2 h3 ⊢
    obtain ⟨a, b, c⟩ := q
    obtain ⟨a', b', c'⟩ := q'
    dsimp only at h1 h2 h3
    subst h1
    subst h3
    unfold zthF
    dsimp only
    by_cases k1 : zgt (a n) z0 = true ∧ zge (zS (a n) st) lo = true
    · rw [if_pos k1, if_pos k1]
      have k3 := zq_lt (h (zu a n (zS (a n) st))) h2
      by_cases k2 : CN (zu a n (zS (a n) st)) = need ∧ zlt (TO (zu a n (zS (a n) st))) b = true
      · rw [if_pos k2, if_pos (by rw [← k3]; exact k2)]
        exact ⟨rfl, h _, rfl⟩
      · rw [if_neg k2, if_neg (by rw [← k3]; exact k2)]
        exact ⟨rfl, h2, rfl⟩
    · rw [if_neg k1, if_neg k1]
      exact ⟨rfl, h2, rfl⟩
/-- sums fit -/
theorem zsq_fit {w h : Nat} {T R N S : Nat → ZD} : ∀ n, zef (zsq w h T R N S n)
  | 0 => ze_z0f
  | n + 1 => by
    show zef (zsqF w h T R N S n (zsq w h T R N S n))
    unfold zsqF
    split
    · exact FP.Core.round_fits FP.Core.good_b64 _
    · exact zsq_fit n
theorem zq_SQ {w h : Nat} {T R N : Nat → ZD} {de : ZD} {j : Nat} : zq (zN (zsq w h T R N (zshp w h T R N de j) (w * h))) (zSQ w h T R N de j) := zq_neg (zsq_fit _)
theorem zq_TO {w h : Nat} {A B de : ZD} {bx0 by0 bx1 by1 : Nat → Nat} {bg : Nat → ZD} {ib : Nat} {wn : Nat → Nat} {ws : Nat → ZD} {iq : Nat} (T : Nat → ZD) : zq (zTOc w h A B de bx0 by0 bx1 by1 bg ib wn ws iq T) (zTO w h A B de bx0 by0 bx1 by1 bg ib wn ws iq T) := zq_tot (fun i => zq_SQ) iq
