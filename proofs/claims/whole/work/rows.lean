section
-- ===== PART A: goes FIRST, ahead of the names: the tables' words, and 'selects' of the private methods out of them =====
/-- a private method of a class that the tables say can be made, by its rows of tables_1 -/
def lw_okq (q : MethodName × Nat) : Prop := (q.1.cls ≠ "java/lang/invoke/MethodHandle" ∧ q.1.cls ≠ "java/lang/invoke/VarHandle") ∧ Cond.instantiable q.1.cls q.2 ∈ tables_1 ∧ Cond.privateMethod q.1 ∈ tables_1 ∧ Cond.instanceMethod q.1 ∈ tables_1
theorem lw_p0 : lw_okq (⟨"PlateModes", "requireCell", "(II)V"⟩, 4) := ⟨⟨by decide +kernel, by decide +kernel⟩, List.mem_of_getElem? (i := 15) (by decide +kernel), List.mem_of_getElem? (i := 190) (by decide +kernel), List.mem_of_getElem? (i := 191) (by decide +kernel)⟩
theorem lw_p1 : lw_okq (⟨"java/lang/Throwable", "fillInStackTrace", "(I)Ljava/lang/Throwable;"⟩, 6) := ⟨⟨by decide +kernel, by decide +kernel⟩, List.mem_of_getElem? (i := 236) (by decide +kernel), List.mem_of_getElem? (i := 234) (by decide +kernel), List.mem_of_getElem? (i := 235) (by decide +kernel)⟩
theorem lw_p2 : lw_okq (⟨"PlateModes$Plate", "springOf", "(DII)D"⟩, 9) := ⟨⟨by decide +kernel, by decide +kernel⟩, List.mem_of_getElem? (i := 23) (by decide +kernel), List.mem_of_getElem? (i := 369) (by decide +kernel), List.mem_of_getElem? (i := 370) (by decide +kernel)⟩
theorem lw_p3 : lw_okq (⟨"PlateModes$Plate", "stiffenBy", "(I)V"⟩, 9) := ⟨⟨by decide +kernel, by decide +kernel⟩, List.mem_of_getElem? (i := 23) (by decide +kernel), List.mem_of_getElem? (i := 382) (by decide +kernel), List.mem_of_getElem? (i := 383) (by decide +kernel)⟩
theorem lw_p4 : lw_okq (⟨"PlateModes$ModeSet", "settle", "(I)Z"⟩, 6) := ⟨⟨by decide +kernel, by decide +kernel⟩, List.mem_of_getElem? (i := 90) (by decide +kernel), List.mem_of_getElem? (i := 402) (by decide +kernel), List.mem_of_getElem? (i := 403) (by decide +kernel)⟩
theorem lw_p5 : lw_okq (⟨"PlateModes$Plate", "heldAt", "(II)D"⟩, 9) := ⟨⟨by decide +kernel, by decide +kernel⟩, List.mem_of_getElem? (i := 23) (by decide +kernel), List.mem_of_getElem? (i := 424) (by decide +kernel), List.mem_of_getElem? (i := 425) (by decide +kernel)⟩
theorem lw_p6 : lw_okq (⟨"PlateModes$ModeSet", "takeOut", "([D[D)V"⟩, 6) := ⟨⟨by decide +kernel, by decide +kernel⟩, List.mem_of_getElem? (i := 90) (by decide +kernel), List.mem_of_getElem? (i := 428) (by decide +kernel), List.mem_of_getElem? (i := 429) (by decide +kernel)⟩
theorem lw_p7 : lw_okq (⟨"PlateModes$ModeSet", "measure", "(I)V"⟩, 6) := ⟨⟨by decide +kernel, by decide +kernel⟩, List.mem_of_getElem? (i := 90) (by decide +kernel), List.mem_of_getElem? (i := 440) (by decide +kernel), List.mem_of_getElem? (i := 441) (by decide +kernel)⟩
theorem lw_p8 : lw_okq (⟨"PlateModes", "requireMade", "(I)V"⟩, 4) := ⟨⟨by decide +kernel, by decide +kernel⟩, List.mem_of_getElem? (i := 15) (by decide +kernel), List.mem_of_getElem? (i := 468) (by decide +kernel), List.mem_of_getElem? (i := 469) (by decide +kernel)⟩
theorem lw_p9 : lw_okq (⟨"PlateModes", "tryThinner", "(IDD)D"⟩, 4) := ⟨⟨by decide +kernel, by decide +kernel⟩, List.mem_of_getElem? (i := 15) (by decide +kernel), List.mem_of_getElem? (i := 558) (by decide +kernel), List.mem_of_getElem? (i := 559) (by decide +kernel)⟩
theorem lw_p10 : lw_okq (⟨"PlateModesModel", "noCell", "(II)Z"⟩, 19) := ⟨⟨by decide +kernel, by decide +kernel⟩, List.mem_of_getElem? (i := 577) (by decide +kernel), List.mem_of_getElem? (i := 649) (by decide +kernel), List.mem_of_getElem? (i := 650) (by decide +kernel)⟩
theorem lw_p11 : lw_okq (⟨"PlateModesModel", "makeAll", "(I)V"⟩, 19) := ⟨⟨by decide +kernel, by decide +kernel⟩, List.mem_of_getElem? (i := 577) (by decide +kernel), List.mem_of_getElem? (i := 670) (by decide +kernel), List.mem_of_getElem? (i := 671) (by decide +kernel)⟩
theorem lw_p12 : lw_okq (⟨"PlateModesModel", "springs", "()V"⟩, 19) := ⟨⟨by decide +kernel, by decide +kernel⟩, List.mem_of_getElem? (i := 577) (by decide +kernel), List.mem_of_getElem? (i := 674) (by decide +kernel), List.mem_of_getElem? (i := 675) (by decide +kernel)⟩
theorem lw_p13 : lw_okq (⟨"PlateModesModel", "isWood", "(I)Z"⟩, 19) := ⟨⟨by decide +kernel, by decide +kernel⟩, List.mem_of_getElem? (i := 577) (by decide +kernel), List.mem_of_getElem? (i := 678) (by decide +kernel), List.mem_of_getElem? (i := 679) (by decide +kernel)⟩
theorem lw_p14 : lw_okq (⟨"PlateModesModel", "make", "(I)Z"⟩, 19) := ⟨⟨by decide +kernel, by decide +kernel⟩, List.mem_of_getElem? (i := 577) (by decide +kernel), List.mem_of_getElem? (i := 686) (by decide +kernel), List.mem_of_getElem? (i := 687) (by decide +kernel)⟩
theorem lw_p15 : lw_okq (⟨"PlateModesModel", "sweep", "(I)Z"⟩, 19) := ⟨⟨by decide +kernel, by decide +kernel⟩, List.mem_of_getElem? (i := 577) (by decide +kernel), List.mem_of_getElem? (i := 690) (by decide +kernel), List.mem_of_getElem? (i := 691) (by decide +kernel)⟩
def lw_privs_1 : List (MethodName × Nat) := [(⟨"PlateModes", "requireCell", "(II)V"⟩, 4), (⟨"java/lang/Throwable", "fillInStackTrace", "(I)Ljava/lang/Throwable;"⟩, 6), (⟨"PlateModes$Plate", "springOf", "(DII)D"⟩, 9), (⟨"PlateModes$Plate", "stiffenBy", "(I)V"⟩, 9), (⟨"PlateModes$ModeSet", "settle", "(I)Z"⟩, 6), (⟨"PlateModes$Plate", "heldAt", "(II)D"⟩, 9), (⟨"PlateModes$ModeSet", "takeOut", "([D[D)V"⟩, 6), (⟨"PlateModes$ModeSet", "measure", "(I)V"⟩, 6), (⟨"PlateModes", "requireMade", "(I)V"⟩, 4), (⟨"PlateModes", "tryThinner", "(IDD)D"⟩, 4), (⟨"PlateModesModel", "noCell", "(II)Z"⟩, 19), (⟨"PlateModesModel", "makeAll", "(I)V"⟩, 19), (⟨"PlateModesModel", "springs", "()V"⟩, 19), (⟨"PlateModesModel", "isWood", "(I)Z"⟩, 19), (⟨"PlateModesModel", "make", "(I)Z"⟩, 19), (⟨"PlateModesModel", "sweep", "(I)Z"⟩, 19)]
theorem lw_r1 : ∀ q ∈ lw_privs_1, lw_okq q := List.forall_mem_cons.mpr ⟨lw_p0, List.forall_mem_cons.mpr ⟨lw_p1, List.forall_mem_cons.mpr ⟨lw_p2, List.forall_mem_cons.mpr ⟨lw_p3, List.forall_mem_cons.mpr ⟨lw_p4, List.forall_mem_cons.mpr ⟨lw_p5, List.forall_mem_cons.mpr ⟨lw_p6, List.forall_mem_cons.mpr ⟨lw_p7, List.forall_mem_cons.mpr ⟨lw_p8, List.forall_mem_cons.mpr ⟨lw_p9, List.forall_mem_cons.mpr ⟨lw_p10, List.forall_mem_cons.mpr ⟨lw_p11, List.forall_mem_cons.mpr ⟨lw_p12, List.forall_mem_cons.mpr ⟨lw_p13, List.forall_mem_cons.mpr ⟨lw_p14, List.forall_mem_cons.mpr ⟨lw_p15, fun _ h => absurd h List.not_mem_nil⟩⟩⟩⟩⟩⟩⟩⟩⟩⟩⟩⟩⟩⟩⟩⟩
theorem lw_p16 : lw_okq (⟨"PlateModesModel", "force", "(III)D"⟩, 19) := ⟨⟨by decide +kernel, by decide +kernel⟩, List.mem_of_getElem? (i := 577) (by decide +kernel), List.mem_of_getElem? (i := 695) (by decide +kernel), List.mem_of_getElem? (i := 696) (by decide +kernel)⟩
theorem lw_p17 : lw_okq (⟨"PlateModesModel", "hold", "(II)D"⟩, 19) := ⟨⟨by decide +kernel, by decide +kernel⟩, List.mem_of_getElem? (i := 577) (by decide +kernel), List.mem_of_getElem? (i := 700) (by decide +kernel), List.mem_of_getElem? (i := 701) (by decide +kernel)⟩
theorem lw_p18 : lw_okq (⟨"PlateModesModel", "productOf", "(II)D"⟩, 19) := ⟨⟨by decide +kernel, by decide +kernel⟩, List.mem_of_getElem? (i := 577) (by decide +kernel), List.mem_of_getElem? (i := 704) (by decide +kernel), List.mem_of_getElem? (i := 705) (by decide +kernel)⟩
theorem lw_p19 : lw_okq (⟨"PlateModesModel", "mass", "(I)D"⟩, 19) := ⟨⟨by decide +kernel, by decide +kernel⟩, List.mem_of_getElem? (i := 577) (by decide +kernel), List.mem_of_getElem? (i := 708) (by decide +kernel), List.mem_of_getElem? (i := 709) (by decide +kernel)⟩
theorem lw_p20 : lw_okq (⟨"PlateModesModel", "noMode", "(I)Z"⟩, 19) := ⟨⟨by decide +kernel, by decide +kernel⟩, List.mem_of_getElem? (i := 577) (by decide +kernel), List.mem_of_getElem? (i := 719) (by decide +kernel), List.mem_of_getElem? (i := 720) (by decide +kernel)⟩
theorem lw_p21 : lw_okq (⟨"PlateModesModel", "check", "(ZI)I"⟩, 19) := ⟨⟨by decide +kernel, by decide +kernel⟩, List.mem_of_getElem? (i := 577) (by decide +kernel), List.mem_of_getElem? (i := 723) (by decide +kernel), List.mem_of_getElem? (i := 724) (by decide +kernel)⟩
theorem lw_p22 : lw_okq (⟨"PlateModesModel", "residue", "(I)D"⟩, 19) := ⟨⟨by decide +kernel, by decide +kernel⟩, List.mem_of_getElem? (i := 577) (by decide +kernel), List.mem_of_getElem? (i := 727) (by decide +kernel), List.mem_of_getElem? (i := 728) (by decide +kernel)⟩
theorem lw_p23 : lw_okq (⟨"PlateModesModel", "sumOf", "(I)D"⟩, 19) := ⟨⟨by decide +kernel, by decide +kernel⟩, List.mem_of_getElem? (i := 577) (by decide +kernel), List.mem_of_getElem? (i := 731) (by decide +kernel), List.mem_of_getElem? (i := 732) (by decide +kernel)⟩
theorem lw_p24 : lw_okq (⟨"PlateModesModel", "needed", "()I"⟩, 19) := ⟨⟨by decide +kernel, by decide +kernel⟩, List.mem_of_getElem? (i := 577) (by decide +kernel), List.mem_of_getElem? (i := 765) (by decide +kernel), List.mem_of_getElem? (i := 766) (by decide +kernel)⟩
theorem lw_p25 : lw_okq (⟨"PlateModesModel", "total", "()D"⟩, 19) := ⟨⟨by decide +kernel, by decide +kernel⟩, List.mem_of_getElem? (i := 577) (by decide +kernel), List.mem_of_getElem? (i := 769) (by decide +kernel), List.mem_of_getElem? (i := 770) (by decide +kernel)⟩
def lw_privs_2 : List (MethodName × Nat) := [(⟨"PlateModesModel", "force", "(III)D"⟩, 19), (⟨"PlateModesModel", "hold", "(II)D"⟩, 19), (⟨"PlateModesModel", "productOf", "(II)D"⟩, 19), (⟨"PlateModesModel", "mass", "(I)D"⟩, 19), (⟨"PlateModesModel", "noMode", "(I)Z"⟩, 19), (⟨"PlateModesModel", "check", "(ZI)I"⟩, 19), (⟨"PlateModesModel", "residue", "(I)D"⟩, 19), (⟨"PlateModesModel", "sumOf", "(I)D"⟩, 19), (⟨"PlateModesModel", "needed", "()I"⟩, 19), (⟨"PlateModesModel", "total", "()D"⟩, 19)]
theorem lw_r2 : ∀ q ∈ lw_privs_2, lw_okq q := List.forall_mem_cons.mpr ⟨lw_p16, List.forall_mem_cons.mpr ⟨lw_p17, List.forall_mem_cons.mpr ⟨lw_p18, List.forall_mem_cons.mpr ⟨lw_p19, List.forall_mem_cons.mpr ⟨lw_p20, List.forall_mem_cons.mpr ⟨lw_p21, List.forall_mem_cons.mpr ⟨lw_p22, List.forall_mem_cons.mpr ⟨lw_p23, List.forall_mem_cons.mpr ⟨lw_p24, List.forall_mem_cons.mpr ⟨lw_p25, fun _ h => absurd h List.not_mem_nil⟩⟩⟩⟩⟩⟩⟩⟩⟩⟩
def lw_privs : List (MethodName × Nat) := lw_privs_1 ++ (lw_privs_2)
def lw_tbl : List Cond := k2_sels lw_privs ++ tables_1
theorem lw_privs_ok : ∀ q ∈ lw_privs, lw_okq q := by
  show ∀ q ∈ lw_privs_1 ++ (lw_privs_2), lw_okq q
  exact List.forall_mem_append.mpr ⟨lw_r1, lw_r2⟩
/-- the streams that the claim lets the run draw from -/
abbrev lw_cs : List Choice := [Jvm.Choice.named "NaN.bits"]
theorem lw_bits : nanBits ∈ lw_cs := by first | decide | exact List.mem_cons_self | simp [lw_cs, nanBits]
-- ===== end of PART A; then your names; then what follows =====
end
section
/-! ===== BEGIN words of one list among another's, by their places ===== -/
theorem goodIn_r {big : List Cond} (ws : List Cond) (ps : List Nat) (hp : ws = ps.filterMap (fun i => big[i]?)) (h : ws.all goodWord = true) : GoodIn big ws := by
  intro w hw
  have h1 := List.all_eq_true.mp h w hw
  rw [hp] at hw
  obtain ⟨i, -, hi⟩ := List.mem_filterMap.mp hw
  have hm : w ∈ big := by first | exact List.mem_of_getElem? hi | exact List.getElem?_mem hi
  exact ⟨hm, good_of_word h1⟩
theorem goodIn_app {big a b : List Cond} (ha : GoodIn big a) (hb : GoodIn big b) : GoodIn big (a ++ b) := fun w h => (List.mem_append.mp h).elim (ha w) (hb w)
theorem goodIn_ca {big a b : List Cond} {c : Cond} (ha : GoodIn big (c :: a)) (hb : GoodIn big b) : GoodIn big (c :: (a ++ b)) := fun w h => (List.mem_cons.mp h).elim (fun e => ha w (List.mem_cons.mpr (Or.inl e))) (fun h => (List.mem_append.mp h).elim (fun h => ha w (List.mem_cons.mpr (Or.inr h))) (hb w))
theorem goodIn_sub {big ws : List Cond} (hm : ∀ w ∈ ws, w ∈ big) (h : ws.all goodWord = true) : GoodIn big ws := fun w hw => ⟨hm w hw, good_of_word (List.all_eq_true.mp h w hw)⟩
/-! ===== END ===== -/

/-! ===== BEGIN new T[n][m]: the outer array a place, the inner ones among the pooled ===== -/
/-- f, but v at every address of l -/
def vr_up {α : Type} (f : Nat → α) (l : List Nat) (v : α) : Nat → α := fun a => if a ∈ l then v else f a
theorem vr_up_in {α : Type} {f : Nat → α} {l : List Nat} {v : α} {a : Nat} (h : a ∈ l) : vr_up f l v a = v := if_pos h
theorem vr_up_ne {α : Type} {f : Nat → α} {l : List Nat} {v : α} {a : Nat} (h : a ∉ l) : vr_up f l v a = f a := if_neg h
theorem vr_rows {L l : List Nat} {f : Nat → va_E} {e : va_E} (h : ∀ a, a ∈ l → a ∉ L) : va_pl L f ++ l.map (fun a => (a, e)) = va_pl (L ++ l) (vr_up f l e) := by
  unfold va_pl
  rw [List.map_append]
  congr 1
  · apply List.map_congr_left
    intro a ha
    rw [vr_up_ne (fun q => h a q ha)]
  · apply List.map_congr_left
    intro a ha
    rw [vr_up_in ha]
theorem vr_lay {X rows : va_W} {x : Nat × va_E} {pl : va_W} {D : va_G} {cl : List vw_C} {H : Heap} (hP : va_P D cl (((X ++ pl) ++ [x]) ++ rows) H) : va_P D cl ((X ++ [x]) ++ (pl ++ rows)) H := by
  rw [List.append_assoc (X ++ pl)] at hP
  have h := va_P.swap hP
  rw [← List.append_assoc X] at h
  have h2 := va_P.swap h
  rw [List.append_assoc (X ++ [x])] at h2
  exact h2
theorem vr_layD {X rows : va_W} {x : Nat × va_E} {pl : va_W} {A : Nat → Prop} (hD : va_D A (((X ++ pl) ++ [x]) ++ rows)) : va_D A ((X ++ [x]) ++ (pl ++ rows)) := by
  rw [List.append_assoc (X ++ pl)] at hD
  have h := va_D.swap hD
  rw [← List.append_assoc X] at h
  have h2 := va_D.swap h
  rw [List.append_assoc (X ++ [x])] at h2
  exact h2
theorem vr_outer (c : ClassId) (N h0 : Nat) : ∀ i : Nat, Jvm.Free.Multi.outerC c N h0 i = arrV c N (fun j => va_rf (if j < i then some (h0 + 1 + j) else none))
  | 0 => by
    show ({ cls := c, slots := Array.replicate N .null, vm := .none } : Cell) = _
    rw [arrV_new]
    refine congrArg (arrV c N) (funext fun j => ?_)
    simp [va_rf]
  | i + 1 => by
    show (Jvm.Free.Multi.outerC c N h0 i).setSlot i (.ref (h0 + 1 + i)) = _
    rw [vr_outer c N h0 i, arrV_store]
    refine congrArg (arrV c N) (funext fun j => ?_)
    by_cases e : j = i
    · subst e
      simp [updV, va_rf]
    · by_cases h : j < i
      · simp [updV, e, h, Nat.lt_succ_of_lt h]
      · simp [updV, e, h, show ¬ j < i + 1 by omega]
/-! ===== END ===== -/

/-! ===== BEGIN exceptions that leave a method, and their catching by the caller (launches without stack traces) ===== -/
section VXA
/-! The laws vx_back, vx_callV, vx_callS, vx_callSW, vx_throw0, vx_throwS follow proofs of the library, with one case more: JvmDerived/Free/Laws.lean (Back.of_free), Shelf42/LK1.lean (callV, callS), Shelf/KitTraced.lean (throwNew0V, throwNewS). -/
/-- where a method has thrown q: the class by its name, the cell, what was written, the world -/
def vx_T (XC : String → State → State → Prop) (st : State) (q : Addr) (t : State) (mc ms : Nat) (free : Addr → Prop) : Prop :=
  ∃ (E : String) (ce : Cell) (L : List Loc), XC E st t ∧ t.heap[q]? = some ce ∧ ce.vm = .none ∧ st.vm.findClass E = some ce.cls ∧ st.WarmedH t.vm ∧ st.sameButNew ({ t with vm := st.vm } : State) L mc ms ∧ ∀ z ∈ L, free z.base
def vx_Q (Qc : Array Value → State → Outcome → State → Prop) (XC : String → State → State → Prop) (mc ms : Nat) (free : Addr → Prop) : Array Value → State → Outcome → State → Prop := fun a st o t =>
  (Qc a st o t ∧ ∃ L, FrameEnd st o t L mc ms ∧ ∀ q ∈ L, free q.base) ∨ ∃ q, o = .threw q ∧ vx_T XC st q t mc ms free
/-- a callee that returns or throws -/
def vx_Met (l : Launch) (y : MethodName) (ws : List Cond) (rm : Room) (Pc : Array Value → State → Prop) (Qc : Array Value → State → Outcome → State → Prop) (XC : String → State → State → Prop) (mc ms : Nat) (free : Addr → Prop) : Prop :=
  MetFree l y (headSpec ws rm) Pc (fun _ _ _ _ _ => True) (vx_Q Qc XC mc ms free)
def vx_Post (XC : String → State → State → Prop) (mc ms : Nat) (free : Addr → Prop) : Pt → Array Value → Addr → Pt → Prop := fun A a q B =>
  ∃ (g : JFrame) (mk : MethodId) (t : State) (L : List Loc) (E : String) (ce : Cell), B.U.heap = t.heap ∧ B.U.vm = t.vm ∧ XC E (A.U.calling g mk a) t ∧ t.heap[q]? = some ce ∧ ce.vm = .none ∧ A.U.vm.findClass E = some ce.cls ∧ B.locs = A.locs ++ L ∧ (∀ z ∈ L, free z.base) ∧ B.cells = A.cells + mc ∧ B.slots = A.slots + ms
def vx_Back (l : Launch) (R : Room) (p : Program) (e : Env) (below : List Frame) (s : State) (sargs : Array Value) (y : MethodName) (len W9 : Nat)
    (Pre : Pt → Array Value → Prop) (Post : Pt → Array Value → Option Value → Pt → Prop) (PostX : Pt → Array Value → Addr → Pt → Prop) : Prop :=
  ∀ (m : MethodId) (meth : Method) (c : Code) (A : Pt) (g : JFrame) (ig : Instr) (mk : MethodId) (a : Array Value),
    Stand p l e R s m sargs below meth c A.U A.locs A.cells A.slots → g.method = m → g.locals.size = c.maxLocals → decode c.code g.pc = .ok (ig, len) →
    2 * g.monitorRoom + (g.stack.map fun v => v.category).sum ≤ W9 → A.U.methodNamed? y = some mk → Pre A a →
    (∃ (v : Option Value) (B : Pt), Stand p l e R s m sargs below meth c B.U B.locs B.cells B.slots ∧ Post A a v B ∧
      Steps p.tables e below (doInvoke e (A.U.setTop g) [] mk a).1 (B.U.setTop { g with pc := g.pc + len, stack := v.toList ++ g.stack })) ∨
    (∃ (q : Addr) (B : Pt), Stand p l e R s m sargs below meth c B.U B.locs B.cells B.slots ∧ PostX A a q B ∧
      Steps p.tables e below (doInvoke e (A.U.setTop g) [] mk a).1 ((B.U.setTop g).pushFrame (.throwing q)))
section Payer
variable {l : Launch} {R : Room} {p : Program} {e : Env} {below : List Frame} {s : State} {sargs : Array Value} {y : MethodName} {len W9 : Nat}
theorem vx_back {ws : List Cond} {rm : Room} {Pc : Array Value → State → Prop} {Qc : Array Value → State → Outcome → State → Prop} {XC : String → State → State → Prop} {mc ms : Nat} {free : Addr → Prop} {bytes : ByteArray} {maxL : Nat} {ret : Option FieldType}
    (hM : vx_Met l y ws rm Pc Qc XC mc ms free) (hblind : FrameBlind Pc) (hrc : rm.cells = mc) (hrs : rm.slots = ms)
    (hframes : rm.frames + 1 ≤ R.frames) (hlocals : W9 + (maxL + 11) + rm.locals ≤ R.locals)
    (hws : ∀ w ∈ ws, ∀ a' U, s.WarmedH U.vm → w.before a' U = true) (hcode : Cond.code y bytes maxL ret ∈ ws) (hinit : ∀ a' U, s.WarmedH U.vm → (Cond.initialized y.cls).before a' U = true) :
    vx_Back l R p e below s sargs y len W9 (PreOf R mc ms Pc) (PostOf Qc mc ms free) (vx_Post XC mc ms free) := by
  intro m meth c A g ig mk a X hg hsize hdg hW hn hp
  have h1 : (headSpec ws rm).pre.before a A.U = true := atoms_intro fun w hw => hws w hw _ _ X.warmed
  have h2 : (Cond.code y bytes maxL ret).before a A.U = true := hws _ hcode _ _ X.warmed
  have h3 : (Cond.initialized y.cls).before a A.U = true := hinit _ _ X.warmed
  have h4 : A.cells + (headSpec ws rm).room.cells ≤ R.cells := by rw [show (headSpec ws rm).room.cells = mc from hrc]; exact hp.1
  have h5 : A.slots + (headSpec ws rm).room.slots ≤ R.slots := by rw [show (headSpec ws rm).room.slots = ms from hrs]; exact hp.2.1
  have hPc : Pc a (A.U.calling g mk a) := hblind _ _ _ _ hp.2.2
  obtain ⟨U, Ls, c0, s0⟩ := A
  dsimp only [Pt.U, Pt.locs, Pt.cells, Pt.slots] at h1 h2 h3 h4 h5 X hn hPc ⊢
  obtain ⟨methY, cY, hmY, hcY, -, hlY, -, -, -, -⟩ := Cond.code_spec hn h2
  obtain ⟨kY, hkY, -⟩ := className_of_methodNamed hn
  have hinitY : kY.init = .initialized := Cond.initialized_spec (findClass_of_methodNamed hn) hkY h3
  have h : At U g.method c below := by rw [hg]; exact X.here
  have hlocals9 : W9 + (maxL + 11) + (headSpec ws rm).room.locals ≤ R.locals := hlocals
  have happ : (headSpec ws rm).appliesLoose y e.platform (U.calling g mk a) = true :=
    Spec.appliesLoose_calling (g := g) h hdg hn hkY hinitY
      (X.room_calling (g := g) (R' := (headSpec ws rm).room) hsize hmY hcY hframes (by rw [hlY]; omega) h4 h5) h1
  obtain ⟨mid, hmid⟩ := h.above
  have hfr : (U.setTop g).frames = (.java g :: mid) ++ below := by rw [State.frames_setTop' g h.top, hmid]; rfl
  obtain ⟨o, s₂, hsteps, -, hend, hq⟩ := Steps.callFree hM p X.admits X.cas X.clock (acts := []) hfr happ hPc trivial
  have hq' : vx_Q Qc XC mc ms free a (U.calling g mk a) o s₂ := hq
  rw [State.frames_setTop' g h.top] at hend
  obtain ⟨g₀, hg0⟩ := Option.isSome_iff_exists.mp h.top
  obtain ⟨r, hr⟩ := State.topJava?_eq_some.mp hg0
  have hr' : (({ U with heap := s₂.heap, slotsUsed := s₂.slotsUsed } : State).setVm s₂.vm).frames = .java g₀ :: r := hr
  rcases hq' with ⟨hqc, L, hfe, hL⟩ | ⟨q, rfl, E, ce, L, hx, hce, hcv, hcl, hW₂, hsm, hL⟩
  · obtain ⟨⟨v, rfl⟩, hW₂, e2, q2, q3, q4, q5, q6⟩ := id hfe
    have e3 : s₂ = ({ (U.calling g mk a).setFrames s₂.frames with heap := s₂.heap, slotsUsed := s₂.slotsUsed } : State).setVm s₂.vm := by
      have : s₂ = ({ s₂ with vm := (U.calling g mk a).vm } : State).setVm s₂.vm := rfl
      rw [e2] at this
      exact this
    obtain ⟨c₂, i₂, len₂, hc₂, hd₂, hf₂⟩ := hend
    have hW' : U.WarmedH s₂.vm := hW₂
    have hcc : c₂ = c := by
      have h1 : s₂.code? g.method = U.code? g.method := by
        rw [State.code?_eq, State.code?_eq, hW'.alike.method?]
      exact Option.some.inj (hc₂.symm.trans (h1.trans h.code))
    subst hcc
    have hlen : len₂ = len := by rw [hdg] at hd₂; cases hd₂; rfl
    subst hlen
    have hs₂ : s₂ = (({ U with heap := s₂.heap, slotsUsed := s₂.slotsUsed } : State).setVm s₂.vm).setTop { g with pc := g.pc + len₂, stack := v.toList ++ g.stack } := by
      refine e3.trans ?_
      rw [hf₂, State.calling_eq h.top, State.setFrames_setFrames, State.setTop_of_frames _ hr', hr]
      rfl
    have hsame : U.sameButNew ({ U with heap := s₂.heap, slotsUsed := s₂.slotsUsed } : State) L mc ms := by
      refine ⟨?_, q2, q3, q4, q5, q6⟩
      obtain ⟨t, ht, -⟩ := State.frames_cons hr
      show ({ U with heap := s₂.heap, slotsUsed := s₂.slotsUsed } : State) = { U.setFrames U.frames with heap := s₂.heap, slotsUsed := s₂.slotsUsed }
      rw [State.setFrames_self ht]
    subst hg
    refine Or.inl ⟨v, ⟨(({ U with heap := s₂.heap, slotsUsed := s₂.slotsUsed } : State).setVm s₂.vm), Ls ++ L, c0 + mc, s0 + ms⟩,
      ⟨X.admits, X.cas, X.clock, X.frames, X.room, X.hears, X.method, X.code, (X.here.setHeapUsed s₂.heap s₂.slotsUsed).setVm hW'.alike, X.tail, State.WarmedH.trans X.warmed hW', X.limits, X.bytes, X.same.trans (hsame.setVm s.vm)⟩,
      ⟨g, mk, s₂, L, rfl, rfl, hqc, rfl, hL, rfl, rfl⟩, ?_⟩
    show Steps p.tables e below _ ((({ U with heap := s₂.heap, slotsUsed := s₂.slotsUsed } : State).setVm s₂.vm).setTop { g with pc := g.pc + len₂, stack := v.toList ++ g.stack })
    rw [← hs₂]
    exact hsteps
  · obtain ⟨e2, q2, q3, q4, q5, q6⟩ := id hsm
    have e3 : s₂ = ({ (U.calling g mk a).setFrames s₂.frames with heap := s₂.heap, slotsUsed := s₂.slotsUsed } : State).setVm s₂.vm := by
      have : s₂ = ({ s₂ with vm := (U.calling g mk a).vm } : State).setVm s₂.vm := rfl
      rw [e2] at this
      exact this
    have hf₂ : s₂.frames = .throwing q :: .java g :: U.frames.tail := hend
    have hW' : U.WarmedH s₂.vm := hW₂
    have hs₂ : s₂ = ((({ U with heap := s₂.heap, slotsUsed := s₂.slotsUsed } : State).setVm s₂.vm).setTop g).pushFrame (.throwing q) := by
      refine e3.trans ?_
      rw [hf₂, State.calling_eq h.top, State.setFrames_setFrames, State.pushFrame, State.frames_setTop _ hr', State.setTop_of_frames _ hr', State.setFrames_setFrames, hr]
      rfl
    have hsame : U.sameButNew ({ U with heap := s₂.heap, slotsUsed := s₂.slotsUsed } : State) L mc ms := by
      refine ⟨?_, q2, q3, q4, q5, q6⟩
      obtain ⟨t, ht, -⟩ := State.frames_cons hr
      show ({ U with heap := s₂.heap, slotsUsed := s₂.slotsUsed } : State) = { U.setFrames U.frames with heap := s₂.heap, slotsUsed := s₂.slotsUsed }
      rw [State.setFrames_self ht]
    subst hg
    refine Or.inr ⟨q, ⟨(({ U with heap := s₂.heap, slotsUsed := s₂.slotsUsed } : State).setVm s₂.vm), Ls ++ L, c0 + mc, s0 + ms⟩,
      ⟨X.admits, X.cas, X.clock, X.frames, X.room, X.hears, X.method, X.code, (X.here.setHeapUsed s₂.heap s₂.slotsUsed).setVm hW'.alike, X.tail, State.WarmedH.trans X.warmed hW', X.limits, X.bytes, X.same.trans (hsame.setVm s.vm)⟩,
      ⟨g, mk, s₂, L, E, ce, rfl, rfl, hx, hce, hcv, hcl, rfl, hL, rfl, rfl⟩, ?_⟩
    show Steps p.tables e below _ (((({ U with heap := s₂.heap, slotsUsed := s₂.slotsUsed } : State).setVm s₂.vm).setTop g).pushFrame (.throwing q))
    rw [← hs₂]
    exact hsteps
end Payer
section Calls
variable {p : Program} {l : Launch} {e : Env} {R : Room} {s : State} {m : MethodId} {args : Array Value} {below : List Frame} {meth : Method} {c : Code} {T : State} {locs : List Loc} {cells slots : Nat}
theorem vx_callV (X : Stand p l e R s m args below meth c T locs cells slots) (hexec : p.tables.exec = Jvm.exec) {own C : String} {index : Nat} {y : MethodName} {bytes : ByteArray} {maxL : Nat} {ret : Option FieldType}
    (hown : s.vm.findClass own = some m.cls) (hlink : (Cond.methodLink own index y).before args s = true) (hinst : (Cond.instanceMethod y).before args s = true) (hsel : (Cond.selects C y y).before args s = true)
    (hcode : (Cond.code y bytes maxL ret).before args s = true) (hy : y.cls ≠ "java/lang/invoke/MethodHandle" ∧ y.cls ≠ "java/lang/invoke/VarHandle")
    {W9 : Nat} {Pre : Pt → Array Value → Prop} {Post : Pt → Array Value → Option Value → Pt → Prop} {PostX : Pt → Array Value → Addr → Pt → Prop} (hK : vx_Back l R p e below s args y 3 W9 Pre Post PostX)
    {b : Addr} {cellB : Cell} (hcell : T.heap[b]? = some cellB) (hobj : cellB.vm.isStatics = false) (hcls : s.vm.findClass C = some cellB.cls)
    {g : JFrame} (hg : g.method = m) (hsize : g.locals.size = c.maxLocals) {argsL rest : List Value} (hlen : ∀ sig, parseMethodDescriptor y.desc = some sig → argsL.length = sig.parameters.length)
    (hstack : g.stack = argsL.reverse ++ .ref b :: rest) (hW : 2 * g.monitorRoom + (rest.map fun v => v.category).sum ≤ W9) (hdg : decode c.code g.pc = .ok (.invokevirtual index, 3))
    (hpre : ∀ vm₁, s.WarmedH vm₁ → Pre ⟨T.setVm vm₁, locs, cells, slots⟩ (Value.ref b :: argsL).toArray) :
    (∃ (v : Option Value) (vm₁ : Vm) (B : Pt), s.WarmedH vm₁ ∧ Stand p l e R s m args below meth c B.U B.locs B.cells B.slots ∧ Post ⟨T.setVm vm₁, locs, cells, slots⟩ (Value.ref b :: argsL).toArray v B ∧
      ∀ target, Steps p.tables e below (B.U.setTop { g with pc := g.pc + 3, stack := v.toList ++ rest }) target → Steps p.tables e below (T.setTop g) target) ∨
    (∃ (q : Addr) (vm₁ : Vm) (B : Pt), s.WarmedH vm₁ ∧ Stand p l e R s m args below meth c B.U B.locs B.cells B.slots ∧ PostX ⟨T.setVm vm₁, locs, cells, slots⟩ (Value.ref b :: argsL).toArray q B ∧
      Steps p.tables e below (T.setTop g) ((B.U.setTop { g with stack := rest }).pushFrame (.throwing q))) := by
  obtain ⟨mk, methM, hnamed, hmethM, hstM, habM⟩ := Cond.instanceMethod_spec hinst
  obtain ⟨methM', cM, hmethM', -, -, -, -, -, -, hsigM⟩ := Cond.code_spec hnamed hcode
  cases hmethM.symm.trans hmethM'
  obtain ⟨c2, r2, m2, q1, q2, q3, q4, kP, hkP, hkPi⟩ := Cond.selects_spec hsel
  cases hcls.symm.trans q1
  cases (State.methodFound?_of_named hnamed hy).symm.trans q2
  cases hnamed.symm.trans q3
  have hselP : selectMethod e.platform s.vm cellB.cls mk = .method mk := by rw [Launch.admits_selectMethod X.admits]; exact q4
  obtain ⟨vm₁, X₁, hstep₁⟩ := X.invokevirtual hexec hown hlink hnamed hmethM hstM hkP hkPi hy (a := b) (cell := cellB) hcell
    (fun z h => by rw [h] at hobj; cases hobj) hselP hmethM habM hkP hkPi (g := g) hg (argsL := argsL) (rest := rest) (hlen _ hsigM) hstack hdg
  rcases hK m meth c ⟨T.setVm vm₁, locs, cells, slots⟩ { g with stack := rest } (.invokevirtual index) mk (Value.ref b :: argsL).toArray X₁ hg hsize hdg hW (X₁.named hnamed) (hpre vm₁ X₁.warmed) with ⟨v, B, X', hpost, hsteps⟩ | ⟨q, B, X', hpost, hsteps⟩
  · exact Or.inl ⟨v, vm₁, B, X₁.warmed, X', hpost, fun target h => hstep₁ _ fun acts => by rw [doInvoke_state]; exact hsteps.trans h⟩
  · exact Or.inr ⟨q, vm₁, B, X₁.warmed, X', hpost, hstep₁ _ fun acts => by rw [doInvoke_state]; exact hsteps⟩
theorem vx_callS (X : Stand p l e R s m args below meth c T locs cells slots) (hexec : p.tables.exec = Jvm.exec) {own : String} {index : Nat} {y : MethodName} {bytes : ByteArray} {maxL : Nat} {ret : Option FieldType}
    (hown : s.vm.findClass own = some m.cls) (hlink : (Cond.methodLink own index y).before args s = true) (hstat : (Cond.static y).before args s = true) (hinit : (Cond.initialized y.cls).before args s = true)
    (hcode : (Cond.code y bytes maxL ret).before args s = true) (hy : y.cls ≠ "java/lang/invoke/MethodHandle" ∧ y.cls ≠ "java/lang/invoke/VarHandle")
    {W9 : Nat} {Pre : Pt → Array Value → Prop} {Post : Pt → Array Value → Option Value → Pt → Prop} {PostX : Pt → Array Value → Addr → Pt → Prop} (hK : vx_Back l R p e below s args y 3 W9 Pre Post PostX)
    {g : JFrame} (hg : g.method = m) (hsize : g.locals.size = c.maxLocals) {argsL rest : List Value} (hlen : ∀ sig, parseMethodDescriptor y.desc = some sig → argsL.length = sig.parameters.length)
    (hstack : g.stack = argsL.reverse ++ rest) (hW : 2 * g.monitorRoom + (rest.map fun v => v.category).sum ≤ W9) (hdg : decode c.code g.pc = .ok (.invokestatic index, 3))
    (hpre : ∀ vm₁, s.WarmedH vm₁ → Pre ⟨T.setVm vm₁, locs, cells, slots⟩ argsL.toArray) :
    (∃ (v : Option Value) (vm₁ : Vm) (B : Pt), s.WarmedH vm₁ ∧ Stand p l e R s m args below meth c B.U B.locs B.cells B.slots ∧ Post ⟨T.setVm vm₁, locs, cells, slots⟩ argsL.toArray v B ∧
      ∀ target, Steps p.tables e below (B.U.setTop { g with pc := g.pc + 3, stack := v.toList ++ rest }) target → Steps p.tables e below (T.setTop g) target) ∨
    (∃ (q : Addr) (vm₁ : Vm) (B : Pt), s.WarmedH vm₁ ∧ Stand p l e R s m args below meth c B.U B.locs B.cells B.slots ∧ PostX ⟨T.setVm vm₁, locs, cells, slots⟩ argsL.toArray q B ∧
      Steps p.tables e below (T.setTop g) ((B.U.setTop { g with stack := rest }).pushFrame (.throwing q))) := by
  obtain ⟨mk, hnamed⟩ := Cond.code_named hcode
  obtain ⟨methM, cM, hmethM, -, -, -, -, -, -, hsigM⟩ := Cond.code_spec hnamed hcode
  have hstatic : methM.isStatic = true := Cond.static_spec hnamed hmethM hstat
  obtain ⟨kP, hkP, -⟩ := className_of_methodNamed hnamed
  have hinitP : kP.init = .initialized := Cond.initialized_spec (findClass_of_methodNamed hnamed) hkP hinit
  obtain ⟨vm₁, X₁, hstep₁⟩ := X.invokestatic hexec hown hlink hnamed hmethM hstatic hkP hinitP hy (g := g) hg (argsL := argsL) (rest := rest) (hlen _ hsigM) hstack hdg
  rcases hK m meth c ⟨T.setVm vm₁, locs, cells, slots⟩ { g with stack := rest } (.invokestatic index) mk argsL.toArray X₁ hg hsize hdg hW (X₁.named hnamed) (hpre vm₁ X₁.warmed) with ⟨v, B, X', hpost, hsteps⟩ | ⟨q, B, X', hpost, hsteps⟩
  · exact Or.inl ⟨v, vm₁, B, X₁.warmed, X', hpost, fun target h => hstep₁ _ fun acts => by rw [doInvoke_state]; exact hsteps.trans h⟩
  · exact Or.inr ⟨q, vm₁, B, X₁.warmed, X', hpost, hstep₁ _ fun acts => by rw [doInvoke_state]; exact hsteps⟩
end Calls
theorem vx_cls {s : State} {T : State} {vm₁ : Vm} {E : String} {k : ClassId} (hW : s.WarmedH vm₁) (h : (T.setVm vm₁).vm.findClass E = some k) : s.vm.findClass E = some k := by
  have h1 : vm₁.findClass E = some k := h
  rw [hW.alike.findClass] at h1
  exact h1
/-- the method's frame g, with q thrown over it -/
def vx_W (p : Program) (l : Launch) (e : Env) (R : Room) (s : State) (m : MethodId) (args : Array Value) (below : List Frame) (meth : Method) (c : Code) (H : Heap) (locs : List Loc) (cells slots : Nat) (Q : State → Prop) (g : JFrame) (q : Addr) : Prop :=
  ∀ T : State, T.heap = H → Stand p l e R s m args below meth c T locs cells slots → ∃ t, Steps p.tables e below ((T.setTop g).pushFrame (.throwing q)) t ∧ Q t
def vx_Run (p : Program) (l : Launch) (e : Env) (R : Room) (s : State) (m : MethodId) (args : Array Value) (below : List Frame) (meth : Method) (c : Code) (H : Heap) (locs : List Loc) (cells slots mc ms : Nat) (g : JFrame) (rest : List Value) (Qa : State → Outcome → State → Prop) (XC : String → State → State → Prop) (free : Addr → Prop) : Prop :=
  ∀ T : State, T.heap = H → Stand p l e R s m args below meth c T locs cells slots →
    (∃ (v : Option Value) (st₀ t T' : State) (L : List Loc), st₀.heap = H ∧ Stand p l e R s m args below meth c T' (locs ++ L) (cells + mc) (slots + ms) ∧ (∀ q ∈ L, free q.base) ∧ T'.heap = t.heap ∧ T'.vm = t.vm ∧ Qa st₀ (.returned v) t ∧
      Goes p e below T g T' { g with pc := g.pc + 3, stack := v.toList ++ rest }) ∨
    (∃ (q : Addr) (st₀ t T' : State) (L : List Loc) (E : String) (ce : Cell), st₀.heap = H ∧ Stand p l e R s m args below meth c T' (locs ++ L) (cells + mc) (slots + ms) ∧ (∀ z ∈ L, free z.base) ∧ T'.heap = t.heap ∧ T'.vm = t.vm ∧ XC E st₀ t ∧ t.heap[q]? = some ce ∧ ce.vm = .none ∧ s.vm.findClass E = some ce.cls ∧
      Steps p.tables e below (T.setTop g) ((T'.setTop { g with stack := rest }).pushFrame (.throwing q)))
def vx_X {S : Type} (px : S → Prop) (B : String → S → State → Prop) (A : Nat → Prop) : String → State → State → Prop := fun E st t => ∃ u : S, px u ∧ B E u t ∧ va_F A st t
section Runs
variable {p : Program} {l : Launch} {e : Env} {R : Room} {s : State} {m : MethodId} {args : Array Value} {below : List Frame} {meth : Method} {c : Code} {H : Heap} {locs : List Loc} {cells slots : Nat}
variable {y : MethodName} {bytes cc : ByteArray} {maxL nL mc ms n index : Nat} {ret : Option FieldType} {ws : List Cond} {rm : Room} {Pc : Array Value → State → Prop} {Qc : Array Value → State → Outcome → State → Prop} {XC : String → State → State → Prop} {free : Addr → Prop} {Ts : List Cond} {own C : String} {b : Addr} {As rest : List Value} {g : JFrame}
theorem vx_callBack (cb : CallB R s args own index y bytes maxL ret ws rm mc ms n) (hM : vx_Met l y ws rm Pc Qc XC mc ms free) (hbl : FrameBlind Pc) : vx_Back l R p e below s args y 3 8 (PreOf R mc ms Pc) (PostOf Qc mc ms free) (vx_Post XC mc ms free) := by
  obtain ⟨hrc, hrs, hfr, hlo, hws, hcw, -, hini, -⟩ := cb
  exact vx_back (bytes := bytes) (maxL := maxL) (ret := ret) hM hbl hrc hrs hfr hlo hws hcw (fun a' U hW => word_at hW (Or.inl (by first | rfl | simp [Cond.onTables, Cond.keeps, Cond.steady])) hini)
theorem vx_runV (S : CallFix p m c cc nL s args Ts own) (hM : vx_Met l y ws rm Pc Qc XC mc ms free) (cw : CallW R s args own C index y bytes maxL ret ws rm mc ms n) (hp : PreV s H C b Pc As)
    (hg : g.method = m) (hn : As.length = n) (hsize : g.locals.size = nL) (hstack : g.stack = As.reverse ++ .ref b :: rest) (hW : 2 * g.monitorRoom + (rest.map fun v => v.category).sum ≤ 8) (hdg : decode cc g.pc = .ok (.invokevirtual index, 3)) (hf : cells + mc ≤ R.cells ∧ slots + ms ≤ R.slots) :
    vx_Run p l e R s m args below meth c H locs cells slots mc ms g rest (Qc (Value.ref b :: As).toArray) XC free := by
  have hK : vx_Back l R p e below s args y 3 8 (PreOf R mc ms Pc) (PostOf Qc mc ms free) (vx_Post XC mc ms free) := vx_callBack cw.1 hM hp.1
  obtain ⟨⟨-, -, -, -, -, -, hcode, -, hy, hlen, hl⟩, hin, hse⟩ := cw
  obtain ⟨hx, hb, hml, ho, -⟩ := S
  obtain ⟨-, ⟨cellB, hcB, hoB, hclB⟩, hPc⟩ := hp
  intro T hT X
  rcases vx_callV X hx (C := C) (bytes := bytes) (maxL := maxL) (ret := ret) ho hl hin hse hcode hy hK (by rw [hT]; exact hcB) hoB hclB hg (hsize.trans hml.symm) (argsL := As) (rest := rest) (fun sig h => hn.trans (hlen sig h)) hstack hW (by rw [hb]; exact hdg)
    (fun vm₁ hW₁ => ⟨hf.1, hf.2, hPc (T.setVm vm₁) hT hW₁⟩) with ⟨v, vm₁, ⟨U', l2, c2, s2⟩, hW₁, X', ⟨g', mk, t, L, e1, e2, hq, h1, hL, h2, h3⟩, st⟩ | ⟨q, vm₁, ⟨U', l2, c2, s2⟩, hW₁, X', ⟨g', mk, t, L, E, ce, e1, e2, hq, hce, hcv, hcl, h1, hL, h2, h3⟩, st⟩
  · dsimp only [Pt.U, Pt.locs, Pt.cells, Pt.slots] at X' e1 e2 h1 h2 h3 st
    subst h1; subst h2; subst h3
    exact Or.inl ⟨v, (T.setVm vm₁).calling g' mk (Value.ref b :: As).toArray, t, U', L, hT, X', hL, e1, e2, hq, st⟩
  · dsimp only [Pt.U, Pt.locs, Pt.cells, Pt.slots] at X' e1 e2 h1 h2 h3 st hcl
    subst h1; subst h2; subst h3
    exact Or.inr ⟨q, (T.setVm vm₁).calling g' mk (Value.ref b :: As).toArray, t, U', L, E, ce, hT, X', hL, e1, e2, hq, hce, hcv, vx_cls hW₁ hcl, st⟩
theorem vx_runS (S : CallFix p m c cc nL s args Ts own) (hM : vx_Met l y ws rm Pc Qc XC mc ms free) (cw : CallB R s args own index y bytes maxL ret ws rm mc ms n ∧ (Cond.static y).before args s = true) (hp : PreS s H Pc As)
    (hg : g.method = m) (hn : As.length = n) (hsize : g.locals.size = nL) (hstack : g.stack = As.reverse ++ rest) (hW : 2 * g.monitorRoom + (rest.map fun v => v.category).sum ≤ 8) (hdg : decode cc g.pc = .ok (.invokestatic index, 3)) (hf : cells + mc ≤ R.cells ∧ slots + ms ≤ R.slots) :
    vx_Run p l e R s m args below meth c H locs cells slots mc ms g rest (Qc As.toArray) XC free := by
  have hK : vx_Back l R p e below s args y 3 8 (PreOf R mc ms Pc) (PostOf Qc mc ms free) (vx_Post XC mc ms free) := vx_callBack cw.1 hM hp.1
  obtain ⟨⟨-, -, -, -, -, -, hcode, hini, hy, hlen, hl⟩, hstt⟩ := cw
  obtain ⟨hx, hb, hml, ho, -⟩ := S
  intro T hT X
  rcases vx_callS X hx (bytes := bytes) (maxL := maxL) (ret := ret) ho hl hstt hini hcode hy hK hg (hsize.trans hml.symm) (argsL := As) (rest := rest) (fun sig h => hn.trans (hlen sig h)) hstack hW (by rw [hb]; exact hdg)
    (fun vm₁ hW₁ => ⟨hf.1, hf.2, hp.2 (T.setVm vm₁) hT hW₁⟩) with ⟨v, vm₁, ⟨U', l2, c2, s2⟩, hW₁, X', ⟨g', mk, t, L, e1, e2, hq, h1, hL, h2, h3⟩, st⟩ | ⟨q, vm₁, ⟨U', l2, c2, s2⟩, hW₁, X', ⟨g', mk, t, L, E, ce, e1, e2, hq, hce, hcv, hcl, h1, hL, h2, h3⟩, st⟩
  · dsimp only [Pt.U, Pt.locs, Pt.cells, Pt.slots] at X' e1 e2 h1 h2 h3 st
    subst h1; subst h2; subst h3
    exact Or.inl ⟨v, (T.setVm vm₁).calling g' mk As.toArray, t, U', L, hT, X', hL, e1, e2, hq, st⟩
  · dsimp only [Pt.U, Pt.locs, Pt.cells, Pt.slots] at X' e1 e2 h1 h2 h3 st hcl
    subst h1; subst h2; subst h3
    exact Or.inr ⟨q, (T.setVm vm₁).calling g' mk As.toArray, t, U', L, E, ce, hT, X', hL, e1, e2, hq, hce, hcv, vx_cls hW₁ hcl, st⟩
end Runs
section Rows
variable {p : Program} {l : Launch} {e : Env} {R : Room} {s : State} {m : MethodId} {args : Array Value} {below : List Frame} {meth : Method} {c : Code} {H : Heap} {locs : List Loc} {cells slots : Nat} {Q : State → Prop}
variable {mc ms : Nat} {free : Addr → Prop} {A0 A1 : Nat → Prop} {H0 : Heap} {a : Array Value} {pc : Nat} {ls : Array Slot} {st0 rest : List Value}
theorem vx_keep {st₀ t T' : State} {L : List Loc} (h0 : st₀.heap = H) (e1 : T'.heap = t.heap) (hS : va_S A0 H0 H locs) (hA : ∀ q, q < H.size → A1 q → A0 q) (hf : ∀ q, free q → A0 q) (hL : ∀ q ∈ L, free q.base) (hF : va_F A1 st₀ t) :
    H.size ≤ T'.heap.size ∧ (∀ q : Nat, q < H.size → ¬ A1 q → T'.heap[q]? = H[q]?) ∧ va_S A0 H0 T'.heap (locs ++ L) := by
  obtain ⟨hz, hk⟩ := hF
  rw [h0] at hz hk
  exact ⟨by rw [e1]; exact hz, fun q h1 h2 => by rw [e1]; exact hk q h1 h2,
    ⟨Nat.le_trans hS.1 (by rw [e1]; exact hz), fun q h1 h2 => by rw [e1, hk q (Nat.lt_of_lt_of_le h1 hS.1) (fun z => h2 (hA q (Nat.lt_of_lt_of_le h1 hS.1) z))]; exact hS.2.1 q h1 h2, fun q hq => by
      rcases List.mem_append.mp hq with h | h
      · exact hS.2.2 q h
      · exact hf _ (hL q h)⟩⟩
theorem vx_calli {S SX : Type} {post : Int32 → S → Prop} {px : SX → Prop} {B : S → State → Prop} {BX : String → SX → State → Prop} {AX : Nat → Prop} (hr : vx_Run p l e R s m args below meth c H locs cells slots mc ms (F0 m pc ls st0) rest (va_Qi post B A1 a) (vx_X px BX AX) free) (hS : va_S A0 H0 H locs) (hA : ∀ q, q < H.size → A1 q → A0 q) (hf : ∀ q, free q → A0 q) (hAX : ∀ q, q < H.size → AX q → A0 q)
    (kx : ∀ (E : String) (ce : Cell) (q9 : Addr) (u : SX) (t : State) (H1 : Heap) (locs1 : List Loc), t.heap = H1 → s.vm.Alike t.vm → px u → BX E u t → H.size ≤ H1.size → (∀ q : Nat, q < H.size → ¬ AX q → H1[q]? = H[q]?) → va_S A0 H0 H1 locs1 → H1[q9]? = some ce → ce.vm = .none → s.vm.findClass E = some ce.cls → vx_W p l e R s m args below meth c H1 locs1 (cells + mc) (slots + ms) Q (F0 m pc ls rest) q9)
    (kk : ∀ (r : Int32) (u : S) (t : State) (H1 : Heap) (locs1 : List Loc), t.heap = H1 → s.vm.Alike t.vm → post r u → B u t → H.size ≤ H1.size → (∀ q : Nat, q < H.size → ¬ A1 q → H1[q]? = H[q]?) → va_S A0 H0 H1 locs1 → W p l e R s m args below meth c H1 locs1 (cells + mc) (slots + ms) Q (F0 m (pc + 3) ls (.int r :: rest))) : W p l e R s m args below meth c H locs cells slots Q (F0 m pc ls st0) := by
  intro T hT X
  rcases hr T hT X with ⟨v, st₀, t, T', L, h0, X', hL, e1, e2, ⟨⟨r, u, hv, hp, hb⟩, hF⟩, st⟩ | ⟨q, st₀, t, T', L, E, ce, h0, X', hL, e1, e2, ⟨u, hp, hb, hF⟩, hce, hcv, hcl, st⟩
  · cases hv
    obtain ⟨k1, k2, k3⟩ := vx_keep h0 e1 hS hA hf hL hF
    obtain ⟨t2, a1, b1⟩ := kk r u t T'.heap (locs ++ L) e1.symm (by rw [← e2]; exact X'.warmed.alike) hp hb k1 k2 k3 T' rfl X'
    exact ⟨t2, st t2 a1, b1⟩
  · obtain ⟨k1, k2, k3⟩ := vx_keep h0 e1 hS hAX hf hL hF
    obtain ⟨t2, a1, b1⟩ := kx E ce q u t T'.heap (locs ++ L) e1.symm (by rw [← e2]; exact X'.warmed.alike) hp hb k1 k2 k3 (by rw [e1]; exact hce) hcv hcl T' rfl X'
    exact ⟨t2, st.trans a1, b1⟩
theorem vx_calll {S SX : Type} {post : Int64 → S → Prop} {px : SX → Prop} {B : S → State → Prop} {BX : String → SX → State → Prop} {AX : Nat → Prop} (hr : vx_Run p l e R s m args below meth c H locs cells slots mc ms (F0 m pc ls st0) rest (va_Ql post B A1 a) (vx_X px BX AX) free) (hS : va_S A0 H0 H locs) (hA : ∀ q, q < H.size → A1 q → A0 q) (hf : ∀ q, free q → A0 q) (hAX : ∀ q, q < H.size → AX q → A0 q)
    (kx : ∀ (E : String) (ce : Cell) (q9 : Addr) (u : SX) (t : State) (H1 : Heap) (locs1 : List Loc), t.heap = H1 → s.vm.Alike t.vm → px u → BX E u t → H.size ≤ H1.size → (∀ q : Nat, q < H.size → ¬ AX q → H1[q]? = H[q]?) → va_S A0 H0 H1 locs1 → H1[q9]? = some ce → ce.vm = .none → s.vm.findClass E = some ce.cls → vx_W p l e R s m args below meth c H1 locs1 (cells + mc) (slots + ms) Q (F0 m pc ls rest) q9)
    (kk : ∀ (r : Int64) (u : S) (t : State) (H1 : Heap) (locs1 : List Loc), t.heap = H1 → s.vm.Alike t.vm → post r u → B u t → H.size ≤ H1.size → (∀ q : Nat, q < H.size → ¬ A1 q → H1[q]? = H[q]?) → va_S A0 H0 H1 locs1 → W p l e R s m args below meth c H1 locs1 (cells + mc) (slots + ms) Q (F0 m (pc + 3) ls (.long r :: rest))) : W p l e R s m args below meth c H locs cells slots Q (F0 m pc ls st0) := by
  intro T hT X
  rcases hr T hT X with ⟨v, st₀, t, T', L, h0, X', hL, e1, e2, ⟨⟨r, u, hv, hp, hb⟩, hF⟩, st⟩ | ⟨q, st₀, t, T', L, E, ce, h0, X', hL, e1, e2, ⟨u, hp, hb, hF⟩, hce, hcv, hcl, st⟩
  · cases hv
    obtain ⟨k1, k2, k3⟩ := vx_keep h0 e1 hS hA hf hL hF
    obtain ⟨t2, a1, b1⟩ := kk r u t T'.heap (locs ++ L) e1.symm (by rw [← e2]; exact X'.warmed.alike) hp hb k1 k2 k3 T' rfl X'
    exact ⟨t2, st t2 a1, b1⟩
  · obtain ⟨k1, k2, k3⟩ := vx_keep h0 e1 hS hAX hf hL hF
    obtain ⟨t2, a1, b1⟩ := kx E ce q u t T'.heap (locs ++ L) e1.symm (by rw [← e2]; exact X'.warmed.alike) hp hb k1 k2 k3 (by rw [e1]; exact hce) hcv hcl T' rfl X'
    exact ⟨t2, st.trans a1, b1⟩
theorem vx_callf {S SX : Type} {post : UInt32 → S → Prop} {px : SX → Prop} {B : S → State → Prop} {BX : String → SX → State → Prop} {AX : Nat → Prop} (hr : vx_Run p l e R s m args below meth c H locs cells slots mc ms (F0 m pc ls st0) rest (va_Qf post B A1 a) (vx_X px BX AX) free) (hS : va_S A0 H0 H locs) (hA : ∀ q, q < H.size → A1 q → A0 q) (hf : ∀ q, free q → A0 q) (hAX : ∀ q, q < H.size → AX q → A0 q)
    (kx : ∀ (E : String) (ce : Cell) (q9 : Addr) (u : SX) (t : State) (H1 : Heap) (locs1 : List Loc), t.heap = H1 → s.vm.Alike t.vm → px u → BX E u t → H.size ≤ H1.size → (∀ q : Nat, q < H.size → ¬ AX q → H1[q]? = H[q]?) → va_S A0 H0 H1 locs1 → H1[q9]? = some ce → ce.vm = .none → s.vm.findClass E = some ce.cls → vx_W p l e R s m args below meth c H1 locs1 (cells + mc) (slots + ms) Q (F0 m pc ls rest) q9)
    (kk : ∀ (r : UInt32) (u : S) (t : State) (H1 : Heap) (locs1 : List Loc), t.heap = H1 → s.vm.Alike t.vm → post r u → B u t → H.size ≤ H1.size → (∀ q : Nat, q < H.size → ¬ A1 q → H1[q]? = H[q]?) → va_S A0 H0 H1 locs1 → W p l e R s m args below meth c H1 locs1 (cells + mc) (slots + ms) Q (F0 m (pc + 3) ls (.float r :: rest))) : W p l e R s m args below meth c H locs cells slots Q (F0 m pc ls st0) := by
  intro T hT X
  rcases hr T hT X with ⟨v, st₀, t, T', L, h0, X', hL, e1, e2, ⟨⟨r, u, hv, hp, hb⟩, hF⟩, st⟩ | ⟨q, st₀, t, T', L, E, ce, h0, X', hL, e1, e2, ⟨u, hp, hb, hF⟩, hce, hcv, hcl, st⟩
  · cases hv
    obtain ⟨k1, k2, k3⟩ := vx_keep h0 e1 hS hA hf hL hF
    obtain ⟨t2, a1, b1⟩ := kk r u t T'.heap (locs ++ L) e1.symm (by rw [← e2]; exact X'.warmed.alike) hp hb k1 k2 k3 T' rfl X'
    exact ⟨t2, st t2 a1, b1⟩
  · obtain ⟨k1, k2, k3⟩ := vx_keep h0 e1 hS hAX hf hL hF
    obtain ⟨t2, a1, b1⟩ := kx E ce q u t T'.heap (locs ++ L) e1.symm (by rw [← e2]; exact X'.warmed.alike) hp hb k1 k2 k3 (by rw [e1]; exact hce) hcv hcl T' rfl X'
    exact ⟨t2, st.trans a1, b1⟩
theorem vx_calld {S SX : Type} {post : UInt64 → S → Prop} {px : SX → Prop} {B : S → State → Prop} {BX : String → SX → State → Prop} {AX : Nat → Prop} (hr : vx_Run p l e R s m args below meth c H locs cells slots mc ms (F0 m pc ls st0) rest (va_Qd post B A1 a) (vx_X px BX AX) free) (hS : va_S A0 H0 H locs) (hA : ∀ q, q < H.size → A1 q → A0 q) (hf : ∀ q, free q → A0 q) (hAX : ∀ q, q < H.size → AX q → A0 q)
    (kx : ∀ (E : String) (ce : Cell) (q9 : Addr) (u : SX) (t : State) (H1 : Heap) (locs1 : List Loc), t.heap = H1 → s.vm.Alike t.vm → px u → BX E u t → H.size ≤ H1.size → (∀ q : Nat, q < H.size → ¬ AX q → H1[q]? = H[q]?) → va_S A0 H0 H1 locs1 → H1[q9]? = some ce → ce.vm = .none → s.vm.findClass E = some ce.cls → vx_W p l e R s m args below meth c H1 locs1 (cells + mc) (slots + ms) Q (F0 m pc ls rest) q9)
    (kk : ∀ (r : UInt64) (u : S) (t : State) (H1 : Heap) (locs1 : List Loc), t.heap = H1 → s.vm.Alike t.vm → post r u → B u t → H.size ≤ H1.size → (∀ q : Nat, q < H.size → ¬ A1 q → H1[q]? = H[q]?) → va_S A0 H0 H1 locs1 → W p l e R s m args below meth c H1 locs1 (cells + mc) (slots + ms) Q (F0 m (pc + 3) ls (.double r :: rest))) : W p l e R s m args below meth c H locs cells slots Q (F0 m pc ls st0) := by
  intro T hT X
  rcases hr T hT X with ⟨v, st₀, t, T', L, h0, X', hL, e1, e2, ⟨⟨r, u, hv, hp, hb⟩, hF⟩, st⟩ | ⟨q, st₀, t, T', L, E, ce, h0, X', hL, e1, e2, ⟨u, hp, hb, hF⟩, hce, hcv, hcl, st⟩
  · cases hv
    obtain ⟨k1, k2, k3⟩ := vx_keep h0 e1 hS hA hf hL hF
    obtain ⟨t2, a1, b1⟩ := kk r u t T'.heap (locs ++ L) e1.symm (by rw [← e2]; exact X'.warmed.alike) hp hb k1 k2 k3 T' rfl X'
    exact ⟨t2, st t2 a1, b1⟩
  · obtain ⟨k1, k2, k3⟩ := vx_keep h0 e1 hS hAX hf hL hF
    obtain ⟨t2, a1, b1⟩ := kx E ce q u t T'.heap (locs ++ L) e1.symm (by rw [← e2]; exact X'.warmed.alike) hp hb k1 k2 k3 (by rw [e1]; exact hce) hcv hcl T' rfl X'
    exact ⟨t2, st.trans a1, b1⟩
theorem vx_callv {S SX : Type} {post : S → Prop} {px : SX → Prop} {B : S → State → Prop} {BX : String → SX → State → Prop} {AX : Nat → Prop} (hr : vx_Run p l e R s m args below meth c H locs cells slots mc ms (F0 m pc ls st0) rest (va_Qv post B A1 a) (vx_X px BX AX) free) (hS : va_S A0 H0 H locs) (hA : ∀ q, q < H.size → A1 q → A0 q) (hf : ∀ q, free q → A0 q) (hAX : ∀ q, q < H.size → AX q → A0 q)
    (kx : ∀ (E : String) (ce : Cell) (q9 : Addr) (u : SX) (t : State) (H1 : Heap) (locs1 : List Loc), t.heap = H1 → s.vm.Alike t.vm → px u → BX E u t → H.size ≤ H1.size → (∀ q : Nat, q < H.size → ¬ AX q → H1[q]? = H[q]?) → va_S A0 H0 H1 locs1 → H1[q9]? = some ce → ce.vm = .none → s.vm.findClass E = some ce.cls → vx_W p l e R s m args below meth c H1 locs1 (cells + mc) (slots + ms) Q (F0 m pc ls rest) q9)
    (kk : ∀ (u : S) (t : State) (H1 : Heap) (locs1 : List Loc), t.heap = H1 → s.vm.Alike t.vm → post u → B u t → H.size ≤ H1.size → (∀ q : Nat, q < H.size → ¬ A1 q → H1[q]? = H[q]?) → va_S A0 H0 H1 locs1 → W p l e R s m args below meth c H1 locs1 (cells + mc) (slots + ms) Q (F0 m (pc + 3) ls (rest))) : W p l e R s m args below meth c H locs cells slots Q (F0 m pc ls st0) := by
  intro T hT X
  rcases hr T hT X with ⟨v, st₀, t, T', L, h0, X', hL, e1, e2, ⟨⟨u, hv, hp, hb⟩, hF⟩, st⟩ | ⟨q, st₀, t, T', L, E, ce, h0, X', hL, e1, e2, ⟨u, hp, hb, hF⟩, hce, hcv, hcl, st⟩
  · cases hv
    obtain ⟨k1, k2, k3⟩ := vx_keep h0 e1 hS hA hf hL hF
    obtain ⟨t2, a1, b1⟩ := kk u t T'.heap (locs ++ L) e1.symm (by rw [← e2]; exact X'.warmed.alike) hp hb k1 k2 k3 T' rfl X'
    exact ⟨t2, st t2 a1, b1⟩
  · obtain ⟨k1, k2, k3⟩ := vx_keep h0 e1 hS hAX hf hL hF
    obtain ⟨t2, a1, b1⟩ := kx E ce q u t T'.heap (locs ++ L) e1.symm (by rw [← e2]; exact X'.warmed.alike) hp hb k1 k2 k3 (by rw [e1]; exact hce) hcv hcl T' rfl X'
    exact ⟨t2, st.trans a1, b1⟩
/-- caught by the row x of this method's table; the rows ahead don't take it -/
theorem vx_catch {own name : String} {E : String} {ce : Cell} {q : Addr} (hown : s.vm.findClass own = some m.cls) (pre : List ExceptionTableEntry) (x : ExceptionTableEntry) (suf : List ExceptionTableEntry) (hsplit : c.exceptionTable.toList = pre ++ x :: suf)
    (hpass : ∀ z ∈ pre, covers z pc = false ∨ (z.catchType ≠ 0 ∧ ∃ nm : String, (Cond.classLink own z.catchType nm).before args s = true ∧ va_Nc E nm s)) (hx : covers x pc = true) (h0 : x.catchType ≠ 0)
    (hlink : (Cond.classLink own x.catchType name).before args s = true) (hcast : (Cond.castable E name).before args s = true) (hcell : H[q]? = some ce) (hv : ce.vm = .none) (hcl : s.vm.findClass E = some ce.cls)
    (kk : W p l e R s m args below meth c H locs cells slots Q (F0 m x.handlerPc ls [.ref q])) : vx_W p l e R s m args below meth c H locs cells slots Q (F0 m pc ls rest) q := by
  intro T hT X
  have hpl : e.platform.magicAccessors = ({} : Platform).magicAccessors := by rw [X.admits.platform]
  obtain ⟨c3, c4, hc3, hc4, hasg⟩ := Cond.castable_spec hcast
  cases Option.some.inj (hc3.symm.trans hcl)
  obtain ⟨c5, hc5, hcl5⟩ := Cond.classLink_spec hown hlink e.platform hpl
  cases Option.some.inj (hc4.symm.trans hc5)
  obtain ⟨vm', X', st⟩ := X.thenCaughtThrough q (g := F0 m pc ls rest) rfl (Steps.refl _) (by rw [hT]; exact hcell) (by rw [hv]; rfl) (by obtain ⟨k9, h9, -⟩ := Vm.findClass_spec hcl; exact ⟨k9, h9⟩) pre x suf hsplit
    (fun z hz => by
      rcases hpass z hz with h | ⟨hz0, nm, hl1, hn1⟩
      · exact Or.inl h
      · obtain ⟨c6, hc6, hcl6⟩ := Cond.classLink_spec hown hl1 e.platform hpl
        obtain ⟨a8, b8, h1, h2, h3⟩ := hn1
        cases Option.some.inj (h1.symm.trans hcl)
        cases Option.some.inj (h2.symm.trans hc6)
        exact Or.inr ⟨hz0, _, hcl6, h3⟩) hx (Or.inr ⟨h0, c4, hcl5, hasg⟩)
  obtain ⟨t, a1, b1⟩ := kk (T.setVm vm') hT X'
  exact ⟨t, st.trans a1, b1⟩
end Rows
section Ends
variable {p : Program} {l : Launch} {e : Env} {R : Room} {s : State} {m : MethodId} {args : Array Value} {below : List Frame} {meth : Method} {c : Code} {H : Heap} {locs : List Loc} {cells slots : Nat} {Q : State → Prop}
variable {mc ms : Nat} {free : Addr → Prop} {A0 A1 : Nat → Prop} {H0 : Heap} {a : Array Value} {ls : Array Slot} {st0 rest : List Value}
variable {Qc : Array Value → State → Outcome → State → Prop} {XC : String → State → State → Prop}
/-- what a body that may throw owes at its end -/
def vx_MQ (below : List Frame) (Qc : Array Value → State → Outcome → State → Prop) (XC : String → State → State → Prop) (a : Array Value) (s : State) (mc ms : Nat) (free : Addr → Prop) : State → Prop := fun t =>
  ∃ o, t.status = .running ∧ Ended t below o ∧ vx_Q Qc XC mc ms free a s o t
theorem vx_ret {g : JFrame} {mc ms : Nat} (k : W p l e R s m args below meth c H locs cells slots (MQ below Qc args s mc ms free) g) : W p l e R s m args below meth c H locs cells slots (vx_MQ below Qc XC args s mc ms free) g := by
  intro T hT X
  obtain ⟨t, a1, o, b1, b2, b3, b4⟩ := k T hT X
  exact ⟨t, a1, o, b1, b2, Or.inl ⟨b3, b4⟩⟩
/-- not caught here: it goes on to the caller -/
theorem vx_widen {g : JFrame} {q : Addr} {k n : Nat} (h1 : cells ≤ k) (h2 : slots ≤ n) (kk : vx_W p l e R s m args below meth c H locs k n Q g q) : vx_W p l e R s m args below meth c H locs cells slots Q g q := fun T hT X => kk T hT (stand_widen X h1 h2)
theorem vx_out {pc : Nat} {E : String} {ce : Cell} {q : Addr} {mc ms : Nat} (hout : ∀ x ∈ c.exceptionTable.toList, covers x pc = false) (hlocks : meth.locks = false) (hcell : H[q]? = some ce) (hv : ce.vm = .none) (hcl : s.vm.findClass E = some ce.cls)
    (hx : ∀ t : State, t.heap = H → s.vm.Alike t.vm → XC E s t) (hf : ∀ z ∈ locs, free z.base) (hc : cells ≤ mc) (hs : slots ≤ ms) :
    vx_W p l e R s m args below meth c H locs cells slots (vx_MQ below Qc XC args s mc ms free) (F0 m pc ls rest) q := by
  intro T hT X
  obtain ⟨st1, hrun, hend, hW, hsm⟩ := X.leaveThrown q (g := F0 m pc ls rest) rfl rfl rfl hout hlocks
  have hcell9 : (T.setFrames (.throwing q :: below)).heap[q]? = some ce := by
    show T.heap[q]? = some ce
    rw [hT]; exact hcell
  exact ⟨_, st1, .threw q, hrun, hend, Or.inr ⟨q, rfl, E, ce, locs, hx _ hT hW.alike, hcell9, hv, hcl, hW, hsm.mono hc hs, hf⟩⟩
theorem vx_frame {U : State} {k n : Nat} (h : s.sameButNew ({ U with vm := s.vm } : State) locs k n) : s.heap.size ≤ U.heap.size ∧ ∀ q : Nat, q < s.heap.size → (∀ z ∈ locs, z.base ≠ q) → U.heap[q]? = s.heap[q]? := by
  obtain ⟨-, h2, -, -, -, h6⟩ := h
  refine ⟨h2, fun q hq hz => ?_⟩
  obtain ⟨c9, e1, e2, e3, e4⟩ := h6 q _ (Array.getElem?_eq_getElem hq)
  have hs : c9.slots = (s.heap[q]).slots := Array.ext_getElem? fun i => e4 i fun hm => hz _ hm rfl
  have h9 : c9 = s.heap[q] := by
    rw [hs] at e2
    exact e2
  have e5 : U.heap[q]? = some c9 := e1
  rw [e5, h9, Array.getElem?_eq_getElem hq]
/-- the words of a throw but the four that speak of the heap -/
def vx_no (w : Cond) : Bool := decide (w ≠ .isRef (.static Bundle.tN "UNASSIGNED_STACK" Bundle.steD)) && decide (w ≠ .isRef (.static Bundle.tN "SUPPRESSED_SENTINEL" Bundle.listD)) && decide (w ≠ .laysStatic Bundle.tN "UNASSIGNED_STACK" Bundle.steD) && decide (w ≠ .laysStatic Bundle.tN "SUPPRESSED_SENTINEL" Bundle.listD)
def vx_at0 (own : String) (ic : Nat) (X : String) (names : List String) : List Cond := (Bundle.ownAtoms0 own ic X names).filter vx_no
def vx_atS (own : String) (ic : Nat) (X : String) (names : List String) : List Cond := (Bundle.ownAtoms own ic X names).filter vx_no
/-- a word that the tables alone decide, or a good one -/
def vx_ot (w : Cond) : Bool := w.onTables || goodWord w
theorem vx_ot_at {args a' : Array Value} {s U : State} {w : Cond} (hW : s.WarmedH U.vm) (hvm : s.vm = U.vm) (hg : vx_ot w = true) (h : w.before args s = true) : w.before a' U = true := by
  simp only [vx_ot, Bool.or_eq_true] at hg
  rcases hg with hg | hg
  · exact va_tabs hg hvm h
  · exact word_at hW (good_of_word hg) h
/-- a list's words: the good ones out of the method's own list, the others by premises of their own -/
theorem vx_hat {args : Array Value} {s : State} {L B : List Cond} (h1 : ∀ w ∈ L.filter goodWord, w.before args s = true) (h2 : ∀ w ∈ L.filter (fun w => !goodWord w), w ∈ B) (h3 : ∀ w ∈ B, w.before args s = true) : ∀ w ∈ L, w.before args s = true := by
  intro w hw
  by_cases g : goodWord w = true
  · exact h1 w (List.mem_filter.mpr ⟨hw, g⟩)
  · refine h3 w (h2 w (List.mem_filter.mpr ⟨hw, ?_⟩))
    show (!goodWord w) = true
    cases hgw : goodWord w
    · rfl
    · exact absurd hgw g
theorem vx_c {args : Array Value} {s : State} {w : Cond} {B : List Cond} (h : w.before args s = true) (t : ∀ w ∈ B, w.before args s = true) : ∀ w' ∈ w :: B, w'.before args s = true := fun w' h' => (List.mem_cons.mp h').elim (fun e => by rw [e]; exact h) (t w')
theorem vx_n {args : Array Value} {s : State} : ∀ w ∈ ([] : List Cond), w.before args s = true := fun _ h => nomatch h
theorem vx_own {args : Array Value} {s : State} {L : List Cond} (h1 : ∀ w ∈ L.filter vx_no, w.before args s = true)
    (hU : (Cond.isRef (.static Bundle.tN "UNASSIGNED_STACK" Bundle.steD)).before args s = true) (hN : (Cond.isRef (.static Bundle.tN "SUPPRESSED_SENTINEL" Bundle.listD)).before args s = true)
    (lU : (Cond.laysStatic Bundle.tN "UNASSIGNED_STACK" Bundle.steD).before args s = true) (lN : (Cond.laysStatic Bundle.tN "SUPPRESSED_SENTINEL" Bundle.listD).before args s = true) : ∀ w ∈ L, w.before args s = true := by
  intro w hw
  by_cases e1 : w = .isRef (.static Bundle.tN "UNASSIGNED_STACK" Bundle.steD)
  · rw [e1]; exact hU
  · by_cases e2 : w = .isRef (.static Bundle.tN "SUPPRESSED_SENTINEL" Bundle.listD)
    · rw [e2]; exact hN
    · by_cases e3 : w = .laysStatic Bundle.tN "UNASSIGNED_STACK" Bundle.steD
      · rw [e3]; exact lU
      · by_cases e4 : w = .laysStatic Bundle.tN "SUPPRESSED_SENTINEL" Bundle.listD
        · rw [e4]; exact lN
        · exact h1 w (List.mem_filter.mpr ⟨hw, by unfold vx_no; rw [decide_eq_true e1, decide_eq_true e2, decide_eq_true e3, decide_eq_true e4]; rfl⟩)
/-- where a static field lies, its class's statics cell in H -/
def vx_L (C n d : String) (A : Nat → Prop) (U : State) (H : Heap) : Prop := ∃ (c : ClassId) (k : Class) (i : Nat) (f : Field) (a : Nat) (cell : Cell), U.vm.findClass C = some c ∧ U.fieldFound? C n d = some (c, k, i, f) ∧ f.isStatic = true ∧ k.statics = some a ∧ H[a]? = some cell ∧ cell.vm.isStatics = true ∧ cell.cls = c ∧ f.slot < cell.slots.size ∧ k.staticTypes[f.slot]? = some f.type ∧ ¬ A a
theorem vx_L.moved {C n d : String} {A : Nat → Prop} {u U : State} {H : Heap} (hvm : u.vm.Alike U.vm) (h : vx_L C n d A u H) : vx_L C n d A U H := by
  obtain ⟨c, k, i, f, a, cell, h1, h2, h3, h4, h5, h6, h7, h8, h9, h10⟩ := h
  obtain ⟨k', hi', he⟩ := State.fieldFound?_setVm hvm h2
  exact ⟨c, k', i, f, a, cell, by rw [hvm.findClass]; exact h1, hi', h3, by rw [he]; exact h4, h5, h6, h7, h8, by rw [he]; exact h9, h10⟩
theorem vx_L.kept {C n d : String} {A : Nat → Prop} {U : State} {H H1 : Heap} (h : vx_L C n d A U H) (hq : ∀ a : Nat, a < H.size → ¬ A a → H1[a]? = H[a]?) : vx_L C n d A U H1 := by
  obtain ⟨c, k, i, f, a, cell, h1, h2, h3, h4, h5, h6, h7, h8, h9, h10⟩ := h
  exact ⟨c, k, i, f, a, cell, h1, h2, h3, h4, by rw [hq a (Array.getElem?_eq_some_iff.mp h5).1 h10]; exact h5, h6, h7, h8, h9, h10⟩
theorem vx_L.narrow {C n d : String} {A B : Nat → Prop} {U : State} {H : Heap} (h : vx_L C n d A U H) (hAB : ∀ q, B q → A q) : vx_L C n d B U H := by
  obtain ⟨c, k, i, f, a, cell, h1, h2, h3, h4, h5, h6, h7, h8, h9, h10⟩ := h
  exact ⟨c, k, i, f, a, cell, h1, h2, h3, h4, h5, h6, h7, h8, h9, fun z => h10 (hAB _ z)⟩
theorem vx_L.word {C n d : String} {A : Nat → Prop} {s : State} {args : Array Value} (h : vx_L C n d A s s.heap) : (Cond.laysStatic C n d).before args s = true := by
  obtain ⟨c, k, i, f, a, cell, h1, h2, h3, h4, h5, h6, h7, h8, h9, -⟩ := h
  show (Cond.laysStatic C n d).holds args s none s [] = true
  exact Cond.laysStatic_of h1 h2 h3 h4 h5 h6 h7 h8 h9
/-- .. and what it holds: null or some reference -/
def vx_Zq (C n d : String) (A : Nat → Prop) (U : State) (H : Heap) : Prop := va_Zq C n d A U H ∧ vx_L C n d A U H
theorem vx_Zq.moved {C n d : String} {A : Nat → Prop} {u U : State} {H : Heap} (hvm : u.vm.Alike U.vm) (h : vx_Zq C n d A u H) : vx_Zq C n d A U H := ⟨va_Zq.moved hvm h.1, vx_L.moved hvm h.2⟩
theorem vx_Zq.kept {C n d : String} {A : Nat → Prop} {U : State} {H H1 : Heap} (h : vx_Zq C n d A U H) (hq : ∀ a : Nat, a < H.size → ¬ A a → H1[a]? = H[a]?) : vx_Zq C n d A U H1 := ⟨va_Zq.kept h.1 hq, vx_L.kept h.2 hq⟩
theorem vx_Zq.narrow {C n d : String} {A B : Nat → Prop} {U : State} {H : Heap} (h : vx_Zq C n d A U H) (hAB : ∀ q, B q → A q) : vx_Zq C n d B U H := ⟨va_Zq.narrow h.1 hAB, vx_L.narrow h.2 hAB⟩
theorem vx_Zqof {args : Array Value} {s : State} {C n d : String} {A : Nat → Prop} (hl : (Cond.laysStatic C n d).before args s = true) (hini : (Cond.initialized C).before args s = true) (h : (Cond.isRef (.static C n d)).before args s = true) (hA : ∀ a : Nat, a < s.heap.size → ¬ A a) : vx_Zq C n d A s s.heap := by
  refine ⟨va_Zqof hl hini h hA, ?_⟩
  obtain ⟨c, k, i, f, a, cell, h1, h2, h3, h4, h5, h6, h7, h8, h9⟩ := Cond.laysStatic_spec hl
  exact ⟨c, k, i, f, a, cell, h1, h2, h3, h4, h5, h6, h7, h8, h9, hA a (Array.getElem?_eq_some_iff.mp h5).1⟩
theorem vx_isRef {C n d : String} {v : Value} {A : Nat → Prop} {s : State} {args : Array Value} (h : va_Z C n d v A s s.heap) (hv : v.isRef = true) : (Cond.isRef (.static C n d)).before args s = true := by
  obtain ⟨cf, kf, fi, f, a, cell, h1, h2, h3, h4, h5, h6, h7, -⟩ := h
  have he : (Term.static C n d).eval args s none [] s = some v := by
    simp [Term.eval, State.fieldNamed?, h1, h2, h4, h5, h6, h7]
  simp only [Cond.before, Cond.holds, Cond.value, he]
  cases v <;> simp_all [Value.isRef]
theorem vx_isRefq {C n d : String} {A : Nat → Prop} {s : State} {args : Array Value} (h : va_Zq C n d A s s.heap) : (Cond.isRef (.static C n d)).before args s = true := by
  rcases h with h | ⟨t, h⟩
  · exact vx_isRef h rfl
  · exact vx_isRef h rfl
/-- the same frame, seen from here: as if the method were called anew in this heap -/
theorem vx_rebase {T : State} (X : Stand p l e R s m args below meth c T locs cells slots) {R' : Room} (hf : R'.frames ≤ R.frames) (hl : R'.locals ≤ R.locals) (hc : cells + R'.cells ≤ R.cells) (hs : slots + R'.slots ≤ R.slots) :
    Stand p l e R' ((T.setVm s.vm).setFrames (.invoking m args :: below)) m args below meth c T [] 0 0 := by
  have htop : (T.setVm s.vm).topJava?.isSome := X.here.top
  have hF : ((T.setVm s.vm).setFrames (.invoking m args :: below)).frames = .invoking m args :: below := State.frames_setFrames _ (State.cur_lt_of_top htop)
  obtain ⟨g₀, hg0⟩ := Option.isSome_iff_exists.mp htop
  obtain ⟨r, hr⟩ := State.topJava?_eq_some.mp hg0
  have hl9 : e.platform.stackLimits (T.setVm s.vm).me = e.platform.stackLimits s.me := X.limits
  have hb9 : (T.setVm s.vm).me.stackBytes = s.me.stackBytes := X.bytes
  refine ⟨X.admits, X.cas, X.clock, hF, ?_, X.hears, X.method, X.code, X.here, X.tail, X.warmed, ?_, ?_, ?_⟩
  · have h := X.room
    have hU : ((T.setVm s.vm).setFrames (.invoking m args :: below)).localsInUse = s.localsInUse := by
      rw [State.localsInUse_invoking hF (meth := meth) (c := c) X.method X.code, State.localsInUse_invoking X.frames X.method X.code]
    simp only [State.hasRoom, Bool.and_eq_true, decide_eq_true_eq] at h ⊢
    obtain ⟨⟨⟨⟨h1, h2, h3, h4, h5, h6⟩, h7⟩, h8⟩, h9⟩ := h
    rw [X.frames, List.length_cons] at h2 h3
    have q1 := X.heapSize
    have q2 := X.used
    simp only [hF, hU, List.length_cons, State.stackLimits_setFrames, State.stackBytes_setFrames, hl9, hb9]
    refine ⟨⟨⟨⟨by omega, by omega, by omega, by omega, by omega, h6⟩, ?_⟩, ?_⟩, X.book⟩
    · show T.heap.size + R'.cells ≤ e.platform.maxCells
      omega
    · show T.slotsUsed + R'.slots ≤ e.platform.maxSlots
      omega
  · rw [State.stackLimits_setFrames]; rfl
  · rw [State.stackBytes_setFrames]; rfl
  · refine ⟨?_, Nat.le_refl _, Nat.le_refl _, ?_, ?_, fun a c9 h9 => ⟨c9, h9, rfl, rfl, fun _ _ => rfl⟩⟩
    · obtain ⟨t, ht, -⟩ := State.frames_cons hr
      show T.setVm s.vm = { ((T.setVm s.vm).setFrames (.invoking m args :: below)).setFrames (T.setVm s.vm).frames with heap := T.heap, slotsUsed := T.slotsUsed }
      rw [State.setFrames_setFrames, State.setFrames_self ht]
      rfl
    · show T.slotsUsed = T.slotsUsed + ((T.heap.toList.drop T.heap.size).map (·.slots.size)).sum
      rw [List.drop_eq_nil_of_le (Nat.le_of_eq Array.length_toList)]
      rfl
    · show ((T.heap.toList.drop T.heap.size).map (·.slots.size)).sum ≤ 0
      rw [List.drop_eq_nil_of_le (Nat.le_of_eq Array.length_toList)]
      exact Nat.le_refl _
/-- 'throw new E()': new; dup; invokespecial; athrow -/
theorem vx_throw0 {cc : ByteArray} {pc : Nat} (hexec : p.tables.exec = Jvm.exec) (hb : c.code = cc) (hl : l.stackTraces = false) {own cls : String} {names : List String} {ik ic mc ms : Nat} {A : Nat → Prop}
    (hown : s.vm.findClass own = some m.cls) (hcls : Bundle.fit cls = true) (hnames : ∀ n ∈ names, Bundle.fit n = true)
    (hk : (Cond.classLink own ik cls).before args s = true) (hini : (Cond.initialized cls).before args s = true) (hat : ∀ w ∈ vx_at0 own ic cls names, w.before args s = true)
    (hgood : ∀ w ∈ Cond.classLink own ik cls :: Cond.initialized cls :: vx_at0 own ic cls names, vx_ot w = true)
    (hU : vx_Zq Bundle.tN "UNASSIGNED_STACK" Bundle.steD A s s.heap) (hN : vx_Zq Bundle.tN "SUPPRESSED_SENTINEL" Bundle.listD A s s.heap) (hS : va_S A s.heap H locs) (hsize : ls.size = c.maxLocals)
    (d0 : decode cc pc = .ok (.new ik, 3)) (d3 : decode cc (pc + 3) = .ok (.dup, 1)) (d4 : decode cc (pc + 4) = .ok (.invokespecial ic, 3)) (d7 : decode cc (pc + 7) = .ok (.athrow, 1))
    (hout : ∀ x ∈ c.exceptionTable.toList, covers x (pc + 7) = false)
    (hRframes : names.length + 3 < R.frames) (hRlocals : (rest.map fun v => v.category).sum + (13 * (names.length + 1) + 42) ≤ R.locals) (hRcells : cells + 1 ≤ R.cells) (hRslots : slots + 6 ≤ R.slots) (hlocks : meth.locks = false)
    (hx : ∀ t : State, s.vm.Alike t.vm → H.size ≤ t.heap.size → (∀ q : Nat, q < H.size → t.heap[q]? = H[q]?) → XC cls s t)
    (hf : ∀ z ∈ locs, free z.base) (hc : cells + 1 ≤ mc) (hs : slots + 6 ≤ ms) :
    W p l e R s m args below meth c H locs cells slots (vx_MQ below Qc XC args s mc ms free) (F0 m pc ls rest) := by
  intro T hT X
  have htr : e.platform.stackTraces = false := (show e.platform.stackTraces = l.stackTraces by rw [X.admits.platform]).trans hl
  have Y := vx_rebase X (R' := { frames := R.frames, locals := R.locals, cells := 1, slots := 6 }) (Nat.le_refl _) (Nat.le_refl _) hRcells hRslots
  obtain ⟨s', hA⟩ : ∃ z, z = (T.setVm s.vm).setFrames (.invoking m args :: below) := ⟨_, rfl⟩
  rw [← hA] at Y
  have hvm : s'.vm = s.vm := by rw [hA]; rfl
  have hhp : s'.heap = H := by rw [hA]; exact hT
  have hW0 : s.WarmedH s'.vm := by rw [hvm]; exact State.WarmedH.refl s
  have hat' : ∀ w ∈ vx_at0 own ic cls names, w.before args s' = true := fun w hw => vx_ot_at hW0 hvm.symm (hgood w (List.mem_cons_of_mem _ (List.mem_cons_of_mem _ hw))) (hat w hw)
  have hk' : (Cond.classLink own ik cls).before args s' = true := vx_ot_at hW0 hvm.symm (hgood _ List.mem_cons_self) hk
  have hini' : (Cond.initialized cls).before args s' = true := vx_ot_at hW0 hvm.symm (hgood _ (List.mem_cons_of_mem _ List.mem_cons_self)) hini
  have hU' : vx_Zq Bundle.tN "UNASSIGNED_STACK" Bundle.steD A s' s'.heap := by rw [hhp]; exact vx_Zq.moved hW0.alike (hU.kept hS.2.1)
  have hN' : vx_Zq Bundle.tN "SUPPRESSED_SENTINEL" Bundle.listD A s' s'.heap := by rw [hhp]; exact vx_Zq.moved hW0.alike (hN.kept hS.2.1)
  have h : ∀ w ∈ Bundle.ownAtoms0 own ic cls names, w.before args s' = true := vx_own hat' (vx_isRefq hU'.1) (vx_isRefq hN'.1) hU'.2.word hN'.2.word
  have hown' : s'.vm.findClass own = some m.cls := by rw [hvm]; exact hown
  have hins : (Cond.instantiable cls 6).before args s' = true := h _ (by simp [Bundle.ownAtoms0])
  obtain ⟨vm₁, cX, kX, hfX, hkX, -, -, X₁, st1⟩ := Y.newCold hexec (own := own) (C := cls) (index := ik) (n := 6) hown' hk' hins hini'
    (g := F0 m pc ls rest) rfl (by rw [hb]; exact d0) (Nat.le_refl _) (Nat.le_refl _)
  generalize hT1 : (T.setVm vm₁).pushCell { cls := cX, slots := kX.instanceTypes.map defaultValue, vm := .none } = T1 at X₁ st1
  have hcat : (Value.ref T.heap.size).category = 1 := rfl
  have hcellA : T1.heap[T.heap.size]? = some (freshCell cX kX) := by rw [← hT1]; exact State.heap_pushCell_size _ _
  have d3' : decode c.code (pc + 3) = .ok (.dup, 1) := by rw [hb]; exact d3
  obtain ⟨U, hsteps, hrun, hend, hW, hsame, ce, hce, hO⟩ := X₁.ctorThrow0 hexec htr (own := own) (cls := cls) (names := names) (ic := ic) hown' hcls hnames h (fun x hx => nomatch hx) hfX hkX hcellA (by rw [hhp, hT]; exact Nat.le_refl _)
    (g := { method := m, pc := pc + 4, locals := ls, stack := .ref T.heap.size :: .ref T.heap.size :: rest, locked := none }) rfl hsize rfl rfl (rest := rest) rfl
    (by rw [hb]; exact d4) (by rw [hb]; exact d7) hout hRframes (by simp only [List.map_cons, List.sum_cons, hcat]; omega) hlocks
  obtain ⟨f1, f2⟩ := vx_frame hsame
  rw [hhp] at f1 f2
  have hWs : s.WarmedH U.vm := State.WarmedH.trans hW0 hW
  have hcl : s.vm.findClass cls = some ce.cls := by
    have h9 := hO.cls
    rw [hvm] at h9
    exact h9
  have hall : s.sameButNew ({ U with vm := s.vm } : State) locs mc ms := by
    subst hA
    obtain ⟨e1, e2⟩ := hsame
    rw [State.setFrames_setFrames] at e1
    have h2 : (T.setVm s.vm).sameButNew ({ U with vm := s.vm } : State) [] (0 + 1) (0 + 6) := ⟨e1, e2⟩
    have h3 := X.same.trans h2
    rw [List.append_nil] at h3
    exact h3.mono hc hs
  refine ⟨U, ?_, .threw T.heap.size, hrun, hend, Or.inr ⟨T.heap.size, rfl, cls, ce, locs, hx U hWs.alike f1 (fun q hq => f2 q hq (fun z hz => nomatch hz)), hce, hO.vm, hcl, hWs, hall, hf⟩⟩
  refine st1 _ ?_
  show Steps p.tables e below (T1.setTop { method := m, pc := pc + 3, locals := ls, stack := .ref T.heap.size :: rest, locked := none }) _
  jvm_step X₁.here [X₁.here.top, hexec, d3', Value.category]
  exact hsteps
/-- 'throw new E("text")': new; dup; ldc; invokespecial; athrow -/
theorem vx_throwS {cc : ByteArray} {pc : Nat} (hexec : p.tables.exec = Jvm.exec) (hb : c.code = cc) (hl : l.stackTraces = false) {own cls text : String} {names : List String} {ik is ic mc ms sa : Nat} {A : Nat → Prop}
    (hown : s.vm.findClass own = some m.cls) (hcls : Bundle.fit cls = true) (hnames : ∀ n ∈ names, Bundle.fit n = true)
    (hk : (Cond.classLink own ik cls).before args s = true) (hini : (Cond.initialized cls).before args s = true) (hstr : vk_R own is text sa s) (hat : ∀ w ∈ vx_atS own ic cls names, w.before args s = true)
    (hgood : ∀ w ∈ Cond.classLink own ik cls :: Cond.initialized cls :: vx_atS own ic cls names, vx_ot w = true)
    (hU : vx_Zq Bundle.tN "UNASSIGNED_STACK" Bundle.steD A s s.heap) (hN : vx_Zq Bundle.tN "SUPPRESSED_SENTINEL" Bundle.listD A s s.heap) (hS : va_S A s.heap H locs) (hsize : ls.size = c.maxLocals)
    (d0 : decode cc pc = .ok (.new ik, 3)) (d3 : decode cc (pc + 3) = .ok (.dup, 1)) (d4 : decode cc (pc + 4) = .ok (.ldc is, 2)) (d6 : decode cc (pc + 6) = .ok (.invokespecial ic, 3)) (d9 : decode cc (pc + 9) = .ok (.athrow, 1))
    (hout : ∀ x ∈ c.exceptionTable.toList, covers x (pc + 9) = false)
    (hRframes : names.length + 3 < R.frames) (hRlocals : (rest.map fun v => v.category).sum + (13 * (names.length + 1) + 43) ≤ R.locals) (hRcells : cells + 1 ≤ R.cells) (hRslots : slots + 6 ≤ R.slots) (hlocks : meth.locks = false)
    (hx : ∀ t : State, s.vm.Alike t.vm → H.size ≤ t.heap.size → (∀ q : Nat, q < H.size → t.heap[q]? = H[q]?) → XC cls s t)
    (hf : ∀ z ∈ locs, free z.base) (hc : cells + 1 ≤ mc) (hs : slots + 6 ≤ ms) :
    W p l e R s m args below meth c H locs cells slots (vx_MQ below Qc XC args s mc ms free) (F0 m pc ls rest) := by
  intro T hT X
  have htr : e.platform.stackTraces = false := (show e.platform.stackTraces = l.stackTraces by rw [X.admits.platform]).trans hl
  have Y := vx_rebase X (R' := { frames := R.frames, locals := R.locals, cells := 1, slots := 6 }) (Nat.le_refl _) (Nat.le_refl _) hRcells hRslots
  obtain ⟨s', hA⟩ : ∃ z, z = (T.setVm s.vm).setFrames (.invoking m args :: below) := ⟨_, rfl⟩
  rw [← hA] at Y
  have hvm : s'.vm = s.vm := by rw [hA]; rfl
  have hhp : s'.heap = H := by rw [hA]; exact hT
  have hW0 : s.WarmedH s'.vm := by rw [hvm]; exact State.WarmedH.refl s
  have hat' : ∀ w ∈ vx_atS own ic cls names, w.before args s' = true := fun w hw => vx_ot_at hW0 hvm.symm (hgood w (List.mem_cons_of_mem _ (List.mem_cons_of_mem _ hw))) (hat w hw)
  have hk' : (Cond.classLink own ik cls).before args s' = true := vx_ot_at hW0 hvm.symm (hgood _ List.mem_cons_self) hk
  have hini' : (Cond.initialized cls).before args s' = true := vx_ot_at hW0 hvm.symm (hgood _ (List.mem_cons_of_mem _ List.mem_cons_self)) hini
  have hU' : vx_Zq Bundle.tN "UNASSIGNED_STACK" Bundle.steD A s' s'.heap := by rw [hhp]; exact vx_Zq.moved hW0.alike (hU.kept hS.2.1)
  have hN' : vx_Zq Bundle.tN "SUPPRESSED_SENTINEL" Bundle.listD A s' s'.heap := by rw [hhp]; exact vx_Zq.moved hW0.alike (hN.kept hS.2.1)
  have h : ∀ w ∈ Bundle.ownAtoms own ic cls names, w.before args s' = true := vx_own hat' (vx_isRefq hU'.1) (vx_isRefq hN'.1) hU'.2.word hN'.2.word
  have hown' : s'.vm.findClass own = some m.cls := by rw [hvm]; exact hown
  have hins : (Cond.instantiable cls 6).before args s' = true := h _ (by simp [Bundle.ownAtoms])
  obtain ⟨vm₁, cX, kX, hfX, hkX, -, -, X₁, st1⟩ := Y.newCold hexec (own := own) (C := cls) (index := ik) (n := 6) hown' hk' hins hini'
    (g := F0 m pc ls rest) rfl (by rw [hb]; exact d0) (Nat.le_refl _) (Nat.le_refl _)
  generalize hT1 : (T.setVm vm₁).pushCell { cls := cX, slots := kX.instanceTypes.map defaultValue, vm := .none } = T1 at X₁ st1
  have hcat : (Value.ref T.heap.size).category = 1 := rfl
  have hcellA : T1.heap[T.heap.size]? = some (freshCell cX kX) := by rw [← hT1]; exact State.heap_pushCell_size _ _
  have d3' : decode c.code (pc + 3) = .ok (.dup, 1) := by rw [hb]; exact d3
  have d4' : decode c.code (pc + 4) = .ok (.ldc is, 2) := by rw [hb]; exact d4
  have hstr' : vk_R own is text sa s' := vk_R.warm hW0 hstr
  obtain ⟨U, hsteps, hrun, hend, hW, hsame, ce, hce, hO⟩ := X₁.ctorThrowS hexec htr (own := own) (cls := cls) (names := names) (ic := ic) hown' hcls hnames h (fun x hx => nomatch hx) hfX hkX hcellA (by rw [hhp, hT]; exact Nat.le_refl _) (msg := .ref sa) rfl
    (g := { method := m, pc := pc + 6, locals := ls, stack := .ref sa :: .ref T.heap.size :: .ref T.heap.size :: rest, locked := none }) rfl hsize rfl rfl (rest := rest) rfl
    (by rw [hb]; exact d6) (by rw [hb]; exact d9) hout hRframes (by simp only [List.map_cons, List.sum_cons, hcat]; omega) hlocks
  obtain ⟨f1, f2⟩ := vx_frame hsame
  rw [hhp] at f1 f2
  have hWs : s.WarmedH U.vm := State.WarmedH.trans hW0 hW
  have hcl : s.vm.findClass cls = some ce.cls := by
    have h9 := hO.cls
    rw [hvm] at h9
    exact h9
  have hall : s.sameButNew ({ U with vm := s.vm } : State) locs mc ms := by
    subst hA
    obtain ⟨e1, e2⟩ := hsame
    rw [State.setFrames_setFrames] at e1
    have h2 : (T.setVm s.vm).sameButNew ({ U with vm := s.vm } : State) [] (0 + 1) (0 + 6) := ⟨e1, e2⟩
    have h3 := X.same.trans h2
    rw [List.append_nil] at h3
    exact h3.mono hc hs
  refine ⟨U, ?_, .threw T.heap.size, hrun, hend, Or.inr ⟨T.heap.size, rfl, cls, ce, locs, hx U hWs.alike f1 (fun q hq => f2 q hq (fun z hz => nomatch hz)), hce, hO.vm, hcl, hWs, hall, hf⟩⟩
  refine st1 _ ?_
  show Steps p.tables e below (T1.setTop { method := m, pc := pc + 3, locals := ls, stack := .ref T.heap.size :: rest, locked := none }) _
  jvm_step X₁.here [X₁.here.top, hexec, d3', Value.category]
  exact X₁.ldcString hexec (own := own) (text := text) (index := is) (a := sa) hown' hstr'.1 hstr'.2
    (g := { method := m, pc := pc + 4, locals := ls, stack := .ref T.heap.size :: .ref T.heap.size :: rest, locked := none }) rfl d4' _ hsteps
/-- 'throw new E("text")', the text by a wide index -/
theorem vx_throwSW {cc : ByteArray} {pc : Nat} (hexec : p.tables.exec = Jvm.exec) (hb : c.code = cc) (hl : l.stackTraces = false) {own cls text : String} {names : List String} {ik is ic mc ms sa : Nat} {A : Nat → Prop}
    (hown : s.vm.findClass own = some m.cls) (hcls : Bundle.fit cls = true) (hnames : ∀ n ∈ names, Bundle.fit n = true)
    (hk : (Cond.classLink own ik cls).before args s = true) (hini : (Cond.initialized cls).before args s = true) (hstr : vk_R own is text sa s) (hat : ∀ w ∈ vx_atS own ic cls names, w.before args s = true)
    (hgood : ∀ w ∈ Cond.classLink own ik cls :: Cond.initialized cls :: vx_atS own ic cls names, vx_ot w = true)
    (hU : vx_Zq Bundle.tN "UNASSIGNED_STACK" Bundle.steD A s s.heap) (hN : vx_Zq Bundle.tN "SUPPRESSED_SENTINEL" Bundle.listD A s s.heap) (hS : va_S A s.heap H locs) (hsize : ls.size = c.maxLocals)
    (d0 : decode cc pc = .ok (.new ik, 3)) (d3 : decode cc (pc + 3) = .ok (.dup, 1)) (d4 : decode cc (pc + 4) = .ok (.ldc_w is, 3)) (d7 : decode cc (pc + 7) = .ok (.invokespecial ic, 3)) (d10 : decode cc (pc + 10) = .ok (.athrow, 1))
    (hout : ∀ x ∈ c.exceptionTable.toList, covers x (pc + 10) = false)
    (hRframes : names.length + 3 < R.frames) (hRlocals : (rest.map fun v => v.category).sum + (13 * (names.length + 1) + 43) ≤ R.locals) (hRcells : cells + 1 ≤ R.cells) (hRslots : slots + 6 ≤ R.slots) (hlocks : meth.locks = false)
    (hx : ∀ t : State, s.vm.Alike t.vm → H.size ≤ t.heap.size → (∀ q : Nat, q < H.size → t.heap[q]? = H[q]?) → XC cls s t)
    (hf : ∀ z ∈ locs, free z.base) (hc : cells + 1 ≤ mc) (hs : slots + 6 ≤ ms) :
    W p l e R s m args below meth c H locs cells slots (vx_MQ below Qc XC args s mc ms free) (F0 m pc ls rest) := by
  intro T hT X
  have htr : e.platform.stackTraces = false := (show e.platform.stackTraces = l.stackTraces by rw [X.admits.platform]).trans hl
  have Y := vx_rebase X (R' := { frames := R.frames, locals := R.locals, cells := 1, slots := 6 }) (Nat.le_refl _) (Nat.le_refl _) hRcells hRslots
  obtain ⟨s', hA⟩ : ∃ z, z = (T.setVm s.vm).setFrames (.invoking m args :: below) := ⟨_, rfl⟩
  rw [← hA] at Y
  have hvm : s'.vm = s.vm := by rw [hA]; rfl
  have hhp : s'.heap = H := by rw [hA]; exact hT
  have hW0 : s.WarmedH s'.vm := by rw [hvm]; exact State.WarmedH.refl s
  have hat' : ∀ w ∈ vx_atS own ic cls names, w.before args s' = true := fun w hw => vx_ot_at hW0 hvm.symm (hgood w (List.mem_cons_of_mem _ (List.mem_cons_of_mem _ hw))) (hat w hw)
  have hk' : (Cond.classLink own ik cls).before args s' = true := vx_ot_at hW0 hvm.symm (hgood _ List.mem_cons_self) hk
  have hini' : (Cond.initialized cls).before args s' = true := vx_ot_at hW0 hvm.symm (hgood _ (List.mem_cons_of_mem _ List.mem_cons_self)) hini
  have hU' : vx_Zq Bundle.tN "UNASSIGNED_STACK" Bundle.steD A s' s'.heap := by rw [hhp]; exact vx_Zq.moved hW0.alike (hU.kept hS.2.1)
  have hN' : vx_Zq Bundle.tN "SUPPRESSED_SENTINEL" Bundle.listD A s' s'.heap := by rw [hhp]; exact vx_Zq.moved hW0.alike (hN.kept hS.2.1)
  have h : ∀ w ∈ Bundle.ownAtoms own ic cls names, w.before args s' = true := vx_own hat' (vx_isRefq hU'.1) (vx_isRefq hN'.1) hU'.2.word hN'.2.word
  have hown' : s'.vm.findClass own = some m.cls := by rw [hvm]; exact hown
  have hins : (Cond.instantiable cls 6).before args s' = true := h _ (by simp [Bundle.ownAtoms])
  obtain ⟨vm₁, cX, kX, hfX, hkX, -, -, X₁, st1⟩ := Y.newCold hexec (own := own) (C := cls) (index := ik) (n := 6) hown' hk' hins hini'
    (g := F0 m pc ls rest) rfl (by rw [hb]; exact d0) (Nat.le_refl _) (Nat.le_refl _)
  generalize hT1 : (T.setVm vm₁).pushCell { cls := cX, slots := kX.instanceTypes.map defaultValue, vm := .none } = T1 at X₁ st1
  have hcat : (Value.ref T.heap.size).category = 1 := rfl
  have hcellA : T1.heap[T.heap.size]? = some (freshCell cX kX) := by rw [← hT1]; exact State.heap_pushCell_size _ _
  have d3' : decode c.code (pc + 3) = .ok (.dup, 1) := by rw [hb]; exact d3
  have d4' : decode c.code (pc + 4) = .ok (.ldc_w is, 3) := by rw [hb]; exact d4
  have hstr' : vk_R own is text sa s' := vk_R.warm hW0 hstr
  obtain ⟨U, hsteps, hrun, hend, hW, hsame, ce, hce, hO⟩ := X₁.ctorThrowS hexec htr (own := own) (cls := cls) (names := names) (ic := ic) hown' hcls hnames h (fun x hx => nomatch hx) hfX hkX hcellA (by rw [hhp, hT]; exact Nat.le_refl _) (msg := .ref sa) rfl
    (g := { method := m, pc := pc + 7, locals := ls, stack := .ref sa :: .ref T.heap.size :: .ref T.heap.size :: rest, locked := none }) rfl hsize rfl rfl (rest := rest) rfl
    (by rw [hb]; exact d7) (by rw [hb]; exact d10) hout hRframes (by simp only [List.map_cons, List.sum_cons, hcat]; omega) hlocks
  obtain ⟨f1, f2⟩ := vx_frame hsame
  rw [hhp] at f1 f2
  have hWs : s.WarmedH U.vm := State.WarmedH.trans hW0 hW
  have hcl : s.vm.findClass cls = some ce.cls := by
    have h9 := hO.cls
    rw [hvm] at h9
    exact h9
  have hall : s.sameButNew ({ U with vm := s.vm } : State) locs mc ms := by
    subst hA
    obtain ⟨e1, e2⟩ := hsame
    rw [State.setFrames_setFrames] at e1
    have h2 : (T.setVm s.vm).sameButNew ({ U with vm := s.vm } : State) [] (0 + 1) (0 + 6) := ⟨e1, e2⟩
    have h3 := X.same.trans h2
    rw [List.append_nil] at h3
    exact h3.mono hc hs
  refine ⟨U, ?_, .threw T.heap.size, hrun, hend, Or.inr ⟨T.heap.size, rfl, cls, ce, locs, hx U hWs.alike f1 (fun q hq => f2 q hq (fun z hz => nomatch hz)), hce, hO.vm, hcl, hWs, hall, hf⟩⟩
  refine st1 _ ?_
  show Steps p.tables e below (T1.setTop { method := m, pc := pc + 3, locals := ls, stack := .ref T.heap.size :: rest, locked := none }) _
  jvm_step X₁.here [X₁.here.top, hexec, d3', Value.category]
  exact X₁.ldcStringW hexec (own := own) (text := text) (index := is) (a := sa) hown' hstr'.1 hstr'.2
    (g := { method := m, pc := pc + 4, locals := ls, stack := .ref T.heap.size :: .ref T.heap.size :: rest, locked := none }) rfl d4' _ hsteps
end Ends
section Bodies
variable {l : Launch}
theorem vx_ofW {y : MethodName} {ws ws' : List Cond} {rm : Room} {Pc : Array Value → State → Prop} {Qc : Array Value → State → Outcome → State → Prop} {XC : String → State → State → Prop} {mc ms : Nat} {free : Addr → Prop} {cc : ByteArray} {maxL : Nat} {ret : Option FieldType}
    (hy : plainName y.cls = true) (hw : ws = Cond.code y cc maxL ret :: ws')
    (body : ∀ p e s m args below meth c s₁, BodyLoose p l y (headSpec ws rm) cc maxL ret e s m args below meth c s₁ → c.maxLocals = maxL → (∀ x ∈ c.exceptionTable.toList, False) → Pc args s →
      W p l e (headSpec ws rm).room s m args below meth c s.heap [] 0 0 (vx_MQ below Qc XC args s mc ms free) (entryFrame m args maxL)) : vx_Met l y ws rm Pc Qc XC mc ms free := by
  refine MetFree.of_bodyS (code := cc) (maxLocals := maxL) (ret := ret) hy ?_ ?_
  · intro args s m h hn
    obtain ⟨meth, c, h1, h2, h3, h4, h5, h6, -, -⟩ := Cond.code_spec hn (atoms_spec (ws := ws) h _ (by rw [hw]; exact List.mem_cons_self))
    exact ⟨meth, c, h1, h2, h3, h4, h5, h6⟩
  · intro p e s m args below meth c s₁ B hml hP _
    have hh0 : s₁.heap = s.heap := by rw [B.state]; rfl
    have ht : ∀ x ∈ c.exceptionTable.toList, False := by
      obtain ⟨meth9, c9, h1, h2, -, -, -, -, h7, -⟩ := Cond.code_spec B.named (atoms_spec (ws := ws) B.pre _ (by rw [hw]; exact List.mem_cons_self))
      cases Option.some.inj (h1.symm.trans B.method)
      cases Option.some.inj (h2.symm.trans (Stand.of_body B).code)
      intro x hx
      rw [Array.isEmpty_iff.mp h7] at hx
      cases hx
    obtain ⟨t, a1, o, b1, b2, b3⟩ := body p e s m args below meth c s₁ B hml ht hP s₁ hh0 (Stand.of_body B)
    exact ⟨t, o, a1, b1, b2, b3⟩
/-- the table of a body with handlers -/
theorem vx_table {p : Program} {x y : MethodName} {S : Spec} {cc bytes : ByteArray} {maxL maxL' : Nat} {ret ret' : Option FieldType} {e : Env} {s s₁ : State} {m : MethodId} {args : Array Value} {below : List Frame} {meth : Method} {c : Code} {hh : List (Nat × Nat × Nat × Nat)}
    (B : BodyLoose p l y S cc maxL ret e s m args below meth c s₁) (h : (Cond.codeWith y bytes maxL' ret' hh).before args s = true) : c.exceptionTable.toList = tableOf hh := by
  obtain ⟨m9, meth9, c9, hn9, h1, h2, -, -, h6, -⟩ := Cond.codeWith_spec h
  cases Option.some.inj (hn9.symm.trans B.named)
  cases Option.some.inj (h1.symm.trans B.method)
  cases Option.some.inj (h2.symm.trans (Stand.of_body B).code)
  rw [← h6, table_eq]
end Bodies
end VXA
/-! ===== END ===== -/
/-! ===== BEGIN a static call of a method with an exception table ===== -/
section VXS
variable {p : Program} {l : Launch} {e : Env} {R : Room} {s : State} {m : MethodId} {args : Array Value} {below : List Frame} {meth : Method} {c : Code} {T : State} {H : Heap} {locs : List Loc} {cells slots : Nat}
abbrev vx_CSW (R : Room) (s : State) (args : Array Value) (own : String) (index : Nat) (y : MethodName) (bytes : ByteArray) (maxL : Nat) (ret : Option FieldType) (hh : List (Nat × Nat × Nat × Nat)) (ws : List Cond) (rm : Room) (mc ms n : Nat) : Prop :=
  (rm.cells = mc ∧ rm.slots = ms ∧ rm.frames + 1 ≤ R.frames ∧ 8 + (maxL + 11) + rm.locals ≤ R.locals ∧ (∀ w ∈ ws, ∀ (a' : Array Value) (U : State), s.WarmedH U.vm → w.before a' U = true) ∧ Cond.codeWith y bytes maxL ret hh ∈ ws) ∧
  (Cond.codeWith y bytes maxL ret hh).before args s = true ∧ (Cond.initialized y.cls).before args s = true ∧ (y.cls ≠ "java/lang/invoke/MethodHandle" ∧ y.cls ≠ "java/lang/invoke/VarHandle") ∧
  (∀ sig, parseMethodDescriptor y.desc = some sig → n = sig.parameters.length) ∧ (Cond.methodLink own index y).before args s = true ∧ (Cond.static y).before args s = true
theorem vx_cwSW {own : String} {index maxL mc ms : Nat} {y : MethodName} {bytes : ByteArray} {ret : Option FieldType} {hh : List (Nat × Nat × Nat × Nat)} {Ts ws ws' : List Cond} {rm : Room} (n : Nat) (ht : ∀ w ∈ Ts, w.before args s = true) (hT : GoodIn Ts (va_wsS own index y ws)) (hw : ws = Cond.codeWith y bytes maxL ret hh :: ws') (hrc : rm.cells = mc) (hrs : rm.slots = ms)
    (hd : y.cls ≠ "java/lang/invoke/MethodHandle" ∧ y.cls ≠ "java/lang/invoke/VarHandle" ∧ (parseMethodDescriptor y.desc).map (fun d => d.parameters.length) = some n) (hR : rm.frames + 1 ≤ R.frames ∧ 8 + (maxL + 11) + rm.locals ≤ R.locals) :
    vx_CSW R s args own index y bytes maxL ret hh ws rm mc ms n := by
  have ok : ∀ w ∈ va_wsS own index y ws, w.before args s = true := fun w h => ht w (hT w h).1
  have hG : GoodIn Ts ws := fun w h => hT w (by unfold va_wsS; exact List.mem_append_right _ h)
  have hc : Cond.codeWith y bytes maxL ret hh ∈ ws := by rw [hw]; exact List.mem_cons_self
  refine ⟨⟨hrc, hrs, hR.1, hR.2, pay_in ht hG, hc⟩, ht _ (hG _ hc).1, ok _ (by simp [va_wsS]), ⟨hd.1, hd.2.1⟩, fun sig h => ?_, ok _ (by simp [va_wsS]), ok _ (by simp [va_wsS])⟩
  have h2 := hd.2.2
  rw [h] at h2
  exact (Option.some.inj h2).symm
theorem vx_callSW (X : Stand p l e R s m args below meth c T locs cells slots) (hexec : p.tables.exec = Jvm.exec) {own : String} {index : Nat} {y : MethodName} {bytes : ByteArray} {maxL : Nat} {ret : Option FieldType} {hh : List (Nat × Nat × Nat × Nat)}
    (hown : s.vm.findClass own = some m.cls) (hlink : (Cond.methodLink own index y).before args s = true) (hstat : (Cond.static y).before args s = true) (hinit : (Cond.initialized y.cls).before args s = true)
    (hcode : (Cond.codeWith y bytes maxL ret hh).before args s = true) (hy : y.cls ≠ "java/lang/invoke/MethodHandle" ∧ y.cls ≠ "java/lang/invoke/VarHandle")
    {W9 : Nat} {Pre : Pt → Array Value → Prop} {Post : Pt → Array Value → Option Value → Pt → Prop} (hK : Back l R p e below s args y 3 W9 Pre Post)
    {g : JFrame} (hg : g.method = m) (hsize : g.locals.size = c.maxLocals) {argsL rest : List Value} (hlen : ∀ sig, parseMethodDescriptor y.desc = some sig → argsL.length = sig.parameters.length)
    (hstack : g.stack = argsL.reverse ++ rest) (hW : 2 * g.monitorRoom + (rest.map fun v => v.category).sum ≤ W9) (hdg : decode c.code g.pc = .ok (.invokestatic index, 3))
    (hpre : ∀ vm₁, s.WarmedH vm₁ → Pre ⟨T.setVm vm₁, locs, cells, slots⟩ argsL.toArray) :
    ∃ (v : Option Value) (vm₁ : Vm) (B : Pt), s.WarmedH vm₁ ∧ Stand p l e R s m args below meth c B.U B.locs B.cells B.slots ∧ Post ⟨T.setVm vm₁, locs, cells, slots⟩ argsL.toArray v B ∧
      ∀ target, Steps p.tables e below (B.U.setTop { g with pc := g.pc + 3, stack := v.toList ++ rest }) target → Steps p.tables e below (T.setTop g) target := by
  obtain ⟨mk, methM, cM, hnamed, hmethM, -, -, -, -, -, -, hsigM⟩ := Cond.codeWith_spec hcode
  have hstatic : methM.isStatic = true := Cond.static_spec hnamed hmethM hstat
  obtain ⟨kP, hkP, -⟩ := className_of_methodNamed hnamed
  have hinitP : kP.init = .initialized := Cond.initialized_spec (findClass_of_methodNamed hnamed) hkP hinit
  obtain ⟨vm₁, X₁, hstep₁⟩ := X.invokestatic hexec hown hlink hnamed hmethM hstatic hkP hinitP hy (g := g) hg (argsL := argsL) (rest := rest) (hlen _ hsigM) hstack hdg
  obtain ⟨v, B, X', hpost, hsteps⟩ := hK m meth c ⟨T.setVm vm₁, locs, cells, slots⟩ { g with stack := rest } (.invokestatic index) mk argsL.toArray X₁ hg hsize hdg hW (X₁.named hnamed) (hpre vm₁ X₁.warmed)
  exact ⟨v, vm₁, B, X₁.warmed, X', hpost, fun target h => hstep₁ _ fun acts => by rw [doInvoke_state]; exact hsteps.trans h⟩
theorem vx_runSW {y : MethodName} {bytes cc : ByteArray} {maxL nL mc ms n index : Nat} {ret : Option FieldType} {hh : List (Nat × Nat × Nat × Nat)} {ws : List Cond} {rm : Room} {Pc : Array Value → State → Prop} {Qc : Array Value → State → Outcome → State → Prop} {free : Addr → Prop} {Ts : List Cond} {own : String} {As rest : List Value} {g : JFrame}
    (S : CallFix p m c cc nL s args Ts own) (hM : Met l y ws rm Pc Qc mc ms free) (cw : vx_CSW R s args own index y bytes maxL ret hh ws rm mc ms n) (hp : PreS s H Pc As)
    (hg : g.method = m) (hn : As.length = n) (hsize : g.locals.size = nL) (hstack : g.stack = As.reverse ++ rest) (hW : 2 * g.monitorRoom + (rest.map fun v => v.category).sum ≤ 8) (hdg : decode cc g.pc = .ok (.invokestatic index, 3)) (hf : cells + mc ≤ R.cells ∧ slots + ms ≤ R.slots) :
    va_Run p l e R s m args below meth c H locs cells slots mc ms g rest (Qc As.toArray) (free) := by
  obtain ⟨⟨hrc, hrs, hfr, hlo, hws, hcw⟩, hcode, hini, hy, hlen, hl, hstt⟩ := cw
  have hK : Back l R p e below s args y 3 8 (PreOf R mc ms Pc) (PostOf Qc mc ms free) := va_backW (hh := hh) (bytes := bytes) (maxL := maxL) (ret := ret) hM hp.1 hrc hrs hfr hlo hws hcw (fun a' U hW => word_at hW (Or.inl (by first | rfl | simp [Cond.onTables, Cond.keeps, Cond.steady])) hini)
  obtain ⟨hx, hb, hml, ho, -⟩ := S
  intro T hT X
  obtain ⟨v, vm₁, ⟨U', l2, c2, s2⟩, hW₁, X', ⟨g', mk, t, L, e1, e2, hq, h1, hL, h2, h3⟩, st⟩ := vx_callSW X hx (hh := hh) (bytes := bytes) (maxL := maxL) (ret := ret) ho hl hstt hini hcode hy hK hg (hsize.trans hml.symm) (argsL := As) (rest := rest) (fun sig h => hn.trans (hlen sig h)) hstack hW (by rw [hb]; exact hdg)
    (fun vm₁ hW₁ => ⟨hf.1, hf.2, hp.2 (T.setVm vm₁) hT hW₁⟩)
  dsimp only [Pt.U, Pt.locs, Pt.cells, Pt.slots] at X' e1 e2 h1 h2 h3 st
  subst h1; subst h2; subst h3
  exact ⟨v, (T.setVm vm₁).calling g' mk As.toArray, t, U', L, hT, X', hL, e1, e2, hq, st⟩
/-- not caught here, past rows that name other classes: it goes on to the caller -/
theorem vx_outP {p : Program} {l : Launch} {e : Env} {R : Room} {s : State} {m : MethodId} {args : Array Value} {below : List Frame} {meth : Method} {c : Code} {H : Heap} {locs : List Loc} {cells slots : Nat} {free : Addr → Prop} {ls : Array Slot} {rest : List Value} {Qc : Array Value → State → Outcome → State → Prop} {XC : String → State → State → Prop}
    {pc : Nat} {own E : String} {ce : Cell} {q : Addr} {mc ms : Nat} (hown : s.vm.findClass own = some m.cls) (hlocks : meth.locks = false)
    (hpass : ∀ z ∈ c.exceptionTable.toList, covers z pc = false ∨ (z.catchType ≠ 0 ∧ ∃ nm : String, (Cond.classLink own z.catchType nm).before args s = true ∧ va_Nc E nm s)) (hcell : H[q]? = some ce) (hv : ce.vm = .none) (hcl : s.vm.findClass E = some ce.cls)
    (hx : ∀ t : State, t.heap = H → s.vm.Alike t.vm → XC E s t) (hf : ∀ z ∈ locs, free z.base) (hc : cells ≤ mc) (hs : slots ≤ ms) :
    vx_W p l e R s m args below meth c H locs cells slots (vx_MQ below Qc XC args s mc ms free) (F0 m pc ls rest) q := by
  intro T hT X
  have hpl : e.platform.magicAccessors = ({} : Platform).magicAccessors := by rw [X.admits.platform]
  obtain ⟨vm', hW', X', st⟩ := X.outThrough hlocks q (g := F0 m pc ls rest) rfl rfl rfl (cell := ce) (by rw [hT]; exact hcell) (by rw [hv]; rfl)
    (by obtain ⟨k9, h9, -⟩ := Vm.findClass_spec hcl; exact ⟨k9, h9⟩) (fun z hz => by
      rcases hpass z hz with h | ⟨hz0, nm, hl1, hn1⟩
      · exact Or.inl h
      · obtain ⟨c6, hc6, hcl6⟩ := Cond.classLink_spec hown hl1 e.platform hpl
        obtain ⟨a8, b8, h1, h2, h3⟩ := hn1
        cases Option.some.inj (h1.symm.trans hcl)
        cases Option.some.inj (h2.symm.trans hc6)
        exact Or.inr ⟨hz0, _, hcl6, h3⟩)
  obtain ⟨g₀, hfr⟩ := X'.frames_eq
  have hcell9 : ((T.setVm vm').setFrames (.throwing q :: below)).heap[q]? = some ce := by
    show T.heap[q]? = some ce
    rw [hT]; exact hcell
  have hend : Ended ((T.setVm vm').setFrames (.throwing q :: below)) below (.threw q) := State.frames_setFrames _ (State.cur_lt_of_frames hfr)
  refine ⟨(T.setVm vm').setFrames (.throwing q :: below), ?_, .threw q, X'.here.running, hend, Or.inr ⟨q, rfl, E, ce, locs, hx _ hT (X'.ends _).1.alike, hcell9, hv, hcl, (X'.ends _).1, (X'.ends _).2.mono hc hs, hf⟩⟩
  rw [X.pushThrowing_eq]
  exact st
/-- a thing of a world lies in the heap -/
theorem vx_lt {D : va_G} {cl : List vw_C} {ws : va_W} {H1 : Heap} (h : va_P D cl ws H1) {k : Nat} {q : Nat × va_E} (hk : ws[k]? = some q) : q.1 < H1.size := (h k q hk).lt
end VXS
/-! ===== END ===== -/
/-! ===== BEGIN methods with a table of their own: called by a name, returning or throwing ===== -/
section VXH
/-! vx_backW, vx_callVX, vx_callSX, vx_callVW, vx_runVW, vx_runVX, vx_runSX, vx_ofWH follow the same proofs as their sisters above (Free/Laws.lean, Shelf42/LK1.lean); vx_outP calls Shelf42/NT130.lean (outThrough). -/
section
variable {l : Launch} {R : Room} {p : Program} {e : Env} {below : List Frame} {s : State} {sargs : Array Value} {y : MethodName} {len W9 : Nat}
theorem vx_backW {ws : List Cond} {rm : Room} {Pc : Array Value → State → Prop} {Qc : Array Value → State → Outcome → State → Prop} {XC : String → State → State → Prop} {mc ms : Nat} {free : Addr → Prop} {bytes : ByteArray} {maxL : Nat} {ret : Option FieldType} {hh : List (Nat × Nat × Nat × Nat)}
    (hM : vx_Met l y ws rm Pc Qc XC mc ms free) (hblind : FrameBlind Pc) (hrc : rm.cells = mc) (hrs : rm.slots = ms)
    (hframes : rm.frames + 1 ≤ R.frames) (hlocals : W9 + (maxL + 11) + rm.locals ≤ R.locals)
    (hws : ∀ w ∈ ws, ∀ a' U, s.WarmedH U.vm → w.before a' U = true) (hcode : Cond.codeWith y bytes maxL ret hh ∈ ws) (hinit : ∀ a' U, s.WarmedH U.vm → (Cond.initialized y.cls).before a' U = true) :
    vx_Back l R p e below s sargs y len W9 (PreOf R mc ms Pc) (PostOf Qc mc ms free) (vx_Post XC mc ms free) := by
  intro m meth c A g ig mk a X hg hsize hdg hW hn hp
  have h1 : (headSpec ws rm).pre.before a A.U = true := atoms_intro fun w hw => hws w hw _ _ X.warmed
  have h2 : (Cond.codeWith y bytes maxL ret hh).before a A.U = true := hws _ hcode _ _ X.warmed
  have h3 : (Cond.initialized y.cls).before a A.U = true := hinit _ _ X.warmed
  have h4 : A.cells + (headSpec ws rm).room.cells ≤ R.cells := by rw [show (headSpec ws rm).room.cells = mc from hrc]; exact hp.1
  have h5 : A.slots + (headSpec ws rm).room.slots ≤ R.slots := by rw [show (headSpec ws rm).room.slots = ms from hrs]; exact hp.2.1
  have hPc : Pc a (A.U.calling g mk a) := hblind _ _ _ _ hp.2.2
  obtain ⟨U, Ls, c0, s0⟩ := A
  dsimp only [Pt.U, Pt.locs, Pt.cells, Pt.slots] at h1 h2 h3 h4 h5 X hn hPc ⊢
  obtain ⟨m9, methY, cY, hn9, hmY, hcY, -, hlY, -⟩ := Cond.codeWith_spec h2
  cases Option.some.inj (hn9.symm.trans hn)
  obtain ⟨kY, hkY, -⟩ := className_of_methodNamed hn
  have hinitY : kY.init = .initialized := Cond.initialized_spec (findClass_of_methodNamed hn) hkY h3
  have h : At U g.method c below := by rw [hg]; exact X.here
  have hlocals9 : W9 + (maxL + 11) + (headSpec ws rm).room.locals ≤ R.locals := hlocals
  have happ : (headSpec ws rm).appliesLoose y e.platform (U.calling g mk a) = true :=
    Spec.appliesLoose_calling (g := g) h hdg hn hkY hinitY
      (X.room_calling (g := g) (R' := (headSpec ws rm).room) hsize hmY hcY hframes (by rw [hlY]; omega) h4 h5) h1
  obtain ⟨mid, hmid⟩ := h.above
  have hfr : (U.setTop g).frames = (.java g :: mid) ++ below := by rw [State.frames_setTop' g h.top, hmid]; rfl
  obtain ⟨o, s₂, hsteps, -, hend, hq⟩ := Steps.callFree hM p X.admits X.cas X.clock (acts := []) hfr happ hPc trivial
  have hq' : vx_Q Qc XC mc ms free a (U.calling g mk a) o s₂ := hq
  rw [State.frames_setTop' g h.top] at hend
  obtain ⟨g₀, hg0⟩ := Option.isSome_iff_exists.mp h.top
  obtain ⟨r, hr⟩ := State.topJava?_eq_some.mp hg0
  have hr' : (({ U with heap := s₂.heap, slotsUsed := s₂.slotsUsed } : State).setVm s₂.vm).frames = .java g₀ :: r := hr
  rcases hq' with ⟨hqc, L, hfe, hL⟩ | ⟨q, rfl, E, ce, L, hx, hce, hcv, hcl, hW₂, hsm, hL⟩
  · obtain ⟨⟨v, rfl⟩, hW₂, e2, q2, q3, q4, q5, q6⟩ := id hfe
    have e3 : s₂ = ({ (U.calling g mk a).setFrames s₂.frames with heap := s₂.heap, slotsUsed := s₂.slotsUsed } : State).setVm s₂.vm := by
      have : s₂ = ({ s₂ with vm := (U.calling g mk a).vm } : State).setVm s₂.vm := rfl
      rw [e2] at this
      exact this
    obtain ⟨c₂, i₂, len₂, hc₂, hd₂, hf₂⟩ := hend
    have hW' : U.WarmedH s₂.vm := hW₂
    have hcc : c₂ = c := by
      have h1 : s₂.code? g.method = U.code? g.method := by
        rw [State.code?_eq, State.code?_eq, hW'.alike.method?]
      exact Option.some.inj (hc₂.symm.trans (h1.trans h.code))
    subst hcc
    have hlen : len₂ = len := by rw [hdg] at hd₂; cases hd₂; rfl
    subst hlen
    have hs₂ : s₂ = (({ U with heap := s₂.heap, slotsUsed := s₂.slotsUsed } : State).setVm s₂.vm).setTop { g with pc := g.pc + len₂, stack := v.toList ++ g.stack } := by
      refine e3.trans ?_
      rw [hf₂, State.calling_eq h.top, State.setFrames_setFrames, State.setTop_of_frames _ hr', hr]
      rfl
    have hsame : U.sameButNew ({ U with heap := s₂.heap, slotsUsed := s₂.slotsUsed } : State) L mc ms := by
      refine ⟨?_, q2, q3, q4, q5, q6⟩
      obtain ⟨t, ht, -⟩ := State.frames_cons hr
      show ({ U with heap := s₂.heap, slotsUsed := s₂.slotsUsed } : State) = { U.setFrames U.frames with heap := s₂.heap, slotsUsed := s₂.slotsUsed }
      rw [State.setFrames_self ht]
    subst hg
    refine Or.inl ⟨v, ⟨(({ U with heap := s₂.heap, slotsUsed := s₂.slotsUsed } : State).setVm s₂.vm), Ls ++ L, c0 + mc, s0 + ms⟩,
      ⟨X.admits, X.cas, X.clock, X.frames, X.room, X.hears, X.method, X.code, (X.here.setHeapUsed s₂.heap s₂.slotsUsed).setVm hW'.alike, X.tail, State.WarmedH.trans X.warmed hW', X.limits, X.bytes, X.same.trans (hsame.setVm s.vm)⟩,
      ⟨g, mk, s₂, L, rfl, rfl, hqc, rfl, hL, rfl, rfl⟩, ?_⟩
    show Steps p.tables e below _ ((({ U with heap := s₂.heap, slotsUsed := s₂.slotsUsed } : State).setVm s₂.vm).setTop { g with pc := g.pc + len₂, stack := v.toList ++ g.stack })
    rw [← hs₂]
    exact hsteps
  · obtain ⟨e2, q2, q3, q4, q5, q6⟩ := id hsm
    have e3 : s₂ = ({ (U.calling g mk a).setFrames s₂.frames with heap := s₂.heap, slotsUsed := s₂.slotsUsed } : State).setVm s₂.vm := by
      have : s₂ = ({ s₂ with vm := (U.calling g mk a).vm } : State).setVm s₂.vm := rfl
      rw [e2] at this
      exact this
    have hf₂ : s₂.frames = .throwing q :: .java g :: U.frames.tail := hend
    have hW' : U.WarmedH s₂.vm := hW₂
    have hs₂ : s₂ = ((({ U with heap := s₂.heap, slotsUsed := s₂.slotsUsed } : State).setVm s₂.vm).setTop g).pushFrame (.throwing q) := by
      refine e3.trans ?_
      rw [hf₂, State.calling_eq h.top, State.setFrames_setFrames, State.pushFrame, State.frames_setTop _ hr', State.setTop_of_frames _ hr', State.setFrames_setFrames, hr]
      rfl
    have hsame : U.sameButNew ({ U with heap := s₂.heap, slotsUsed := s₂.slotsUsed } : State) L mc ms := by
      refine ⟨?_, q2, q3, q4, q5, q6⟩
      obtain ⟨t, ht, -⟩ := State.frames_cons hr
      show ({ U with heap := s₂.heap, slotsUsed := s₂.slotsUsed } : State) = { U.setFrames U.frames with heap := s₂.heap, slotsUsed := s₂.slotsUsed }
      rw [State.setFrames_self ht]
    subst hg
    refine Or.inr ⟨q, ⟨(({ U with heap := s₂.heap, slotsUsed := s₂.slotsUsed } : State).setVm s₂.vm), Ls ++ L, c0 + mc, s0 + ms⟩,
      ⟨X.admits, X.cas, X.clock, X.frames, X.room, X.hears, X.method, X.code, (X.here.setHeapUsed s₂.heap s₂.slotsUsed).setVm hW'.alike, X.tail, State.WarmedH.trans X.warmed hW', X.limits, X.bytes, X.same.trans (hsame.setVm s.vm)⟩,
      ⟨g, mk, s₂, L, E, ce, rfl, rfl, hx, hce, hcv, hcl, rfl, hL, rfl, rfl⟩, ?_⟩
    show Steps p.tables e below _ (((({ U with heap := s₂.heap, slotsUsed := s₂.slotsUsed } : State).setVm s₂.vm).setTop g).pushFrame (.throwing q))
    rw [← hs₂]
    exact hsteps
end
variable {p : Program} {l : Launch} {e : Env} {R : Room} {s : State} {m : MethodId} {args : Array Value} {below : List Frame} {meth : Method} {c : Code} {T : State} {H : Heap} {locs : List Loc} {cells slots : Nat}
theorem vx_callVX (X : Stand p l e R s m args below meth c T locs cells slots) (hexec : p.tables.exec = Jvm.exec) {own C : String} {index : Nat} {y : MethodName} {bytes : ByteArray} {maxL : Nat} {ret : Option FieldType} {hh : List (Nat × Nat × Nat × Nat)}
    (hown : s.vm.findClass own = some m.cls) (hlink : (Cond.methodLink own index y).before args s = true) (hinst : (Cond.instanceMethod y).before args s = true) (hsel : (Cond.selects C y y).before args s = true)
    (hcode : (Cond.codeWith y bytes maxL ret hh).before args s = true) (hy : y.cls ≠ "java/lang/invoke/MethodHandle" ∧ y.cls ≠ "java/lang/invoke/VarHandle")
    {W9 : Nat} {Pre : Pt → Array Value → Prop} {Post : Pt → Array Value → Option Value → Pt → Prop} {PostX : Pt → Array Value → Addr → Pt → Prop} (hK : vx_Back l R p e below s args y 3 W9 Pre Post PostX)
    {b : Addr} {cellB : Cell} (hcell : T.heap[b]? = some cellB) (hobj : cellB.vm.isStatics = false) (hcls : s.vm.findClass C = some cellB.cls)
    {g : JFrame} (hg : g.method = m) (hsize : g.locals.size = c.maxLocals) {argsL rest : List Value} (hlen : ∀ sig, parseMethodDescriptor y.desc = some sig → argsL.length = sig.parameters.length)
    (hstack : g.stack = argsL.reverse ++ .ref b :: rest) (hW : 2 * g.monitorRoom + (rest.map fun v => v.category).sum ≤ W9) (hdg : decode c.code g.pc = .ok (.invokevirtual index, 3))
    (hpre : ∀ vm₁, s.WarmedH vm₁ → Pre ⟨T.setVm vm₁, locs, cells, slots⟩ (Value.ref b :: argsL).toArray) :
    (∃ (v : Option Value) (vm₁ : Vm) (B : Pt), s.WarmedH vm₁ ∧ Stand p l e R s m args below meth c B.U B.locs B.cells B.slots ∧ Post ⟨T.setVm vm₁, locs, cells, slots⟩ (Value.ref b :: argsL).toArray v B ∧
      ∀ target, Steps p.tables e below (B.U.setTop { g with pc := g.pc + 3, stack := v.toList ++ rest }) target → Steps p.tables e below (T.setTop g) target) ∨
    (∃ (q : Addr) (vm₁ : Vm) (B : Pt), s.WarmedH vm₁ ∧ Stand p l e R s m args below meth c B.U B.locs B.cells B.slots ∧ PostX ⟨T.setVm vm₁, locs, cells, slots⟩ (Value.ref b :: argsL).toArray q B ∧
      Steps p.tables e below (T.setTop g) ((B.U.setTop { g with stack := rest }).pushFrame (.throwing q))) := by
  obtain ⟨mk, methM, hnamed, hmethM, hstM, habM⟩ := Cond.instanceMethod_spec hinst
  obtain ⟨m8, methM', cM, hn8, hmethM', -, -, -, -, -, -, hsigM⟩ := Cond.codeWith_spec hcode
  cases Option.some.inj (hn8.symm.trans hnamed)
  cases hmethM.symm.trans hmethM'
  obtain ⟨c2, r2, m2, q1, q2, q3, q4, kP, hkP, hkPi⟩ := Cond.selects_spec hsel
  cases hcls.symm.trans q1
  cases (State.methodFound?_of_named hnamed hy).symm.trans q2
  cases hnamed.symm.trans q3
  have hselP : selectMethod e.platform s.vm cellB.cls mk = .method mk := by rw [Launch.admits_selectMethod X.admits]; exact q4
  obtain ⟨vm₁, X₁, hstep₁⟩ := X.invokevirtual hexec hown hlink hnamed hmethM hstM hkP hkPi hy (a := b) (cell := cellB) hcell
    (fun z h => by rw [h] at hobj; cases hobj) hselP hmethM habM hkP hkPi (g := g) hg (argsL := argsL) (rest := rest) (hlen _ hsigM) hstack hdg
  rcases hK m meth c ⟨T.setVm vm₁, locs, cells, slots⟩ { g with stack := rest } (.invokevirtual index) mk (Value.ref b :: argsL).toArray X₁ hg hsize hdg hW (X₁.named hnamed) (hpre vm₁ X₁.warmed) with ⟨v, B, X', hpost, hsteps⟩ | ⟨q, B, X', hpost, hsteps⟩
  · exact Or.inl ⟨v, vm₁, B, X₁.warmed, X', hpost, fun target h => hstep₁ _ fun acts => by rw [doInvoke_state]; exact hsteps.trans h⟩
  · exact Or.inr ⟨q, vm₁, B, X₁.warmed, X', hpost, hstep₁ _ fun acts => by rw [doInvoke_state]; exact hsteps⟩
theorem vx_callSX (X : Stand p l e R s m args below meth c T locs cells slots) (hexec : p.tables.exec = Jvm.exec) {own : String} {index : Nat} {y : MethodName} {bytes : ByteArray} {maxL : Nat} {ret : Option FieldType} {hh : List (Nat × Nat × Nat × Nat)}
    (hown : s.vm.findClass own = some m.cls) (hlink : (Cond.methodLink own index y).before args s = true) (hstat : (Cond.static y).before args s = true) (hinit : (Cond.initialized y.cls).before args s = true)
    (hcode : (Cond.codeWith y bytes maxL ret hh).before args s = true) (hy : y.cls ≠ "java/lang/invoke/MethodHandle" ∧ y.cls ≠ "java/lang/invoke/VarHandle")
    {W9 : Nat} {Pre : Pt → Array Value → Prop} {Post : Pt → Array Value → Option Value → Pt → Prop} {PostX : Pt → Array Value → Addr → Pt → Prop} (hK : vx_Back l R p e below s args y 3 W9 Pre Post PostX)
    {g : JFrame} (hg : g.method = m) (hsize : g.locals.size = c.maxLocals) {argsL rest : List Value} (hlen : ∀ sig, parseMethodDescriptor y.desc = some sig → argsL.length = sig.parameters.length)
    (hstack : g.stack = argsL.reverse ++ rest) (hW : 2 * g.monitorRoom + (rest.map fun v => v.category).sum ≤ W9) (hdg : decode c.code g.pc = .ok (.invokestatic index, 3))
    (hpre : ∀ vm₁, s.WarmedH vm₁ → Pre ⟨T.setVm vm₁, locs, cells, slots⟩ argsL.toArray) :
    (∃ (v : Option Value) (vm₁ : Vm) (B : Pt), s.WarmedH vm₁ ∧ Stand p l e R s m args below meth c B.U B.locs B.cells B.slots ∧ Post ⟨T.setVm vm₁, locs, cells, slots⟩ argsL.toArray v B ∧
      ∀ target, Steps p.tables e below (B.U.setTop { g with pc := g.pc + 3, stack := v.toList ++ rest }) target → Steps p.tables e below (T.setTop g) target) ∨
    (∃ (q : Addr) (vm₁ : Vm) (B : Pt), s.WarmedH vm₁ ∧ Stand p l e R s m args below meth c B.U B.locs B.cells B.slots ∧ PostX ⟨T.setVm vm₁, locs, cells, slots⟩ argsL.toArray q B ∧
      Steps p.tables e below (T.setTop g) ((B.U.setTop { g with stack := rest }).pushFrame (.throwing q))) := by
  obtain ⟨mk, methM, cM, hnamed, hmethM, -, -, -, -, -, -, hsigM⟩ := Cond.codeWith_spec hcode
  have hstatic : methM.isStatic = true := Cond.static_spec hnamed hmethM hstat
  obtain ⟨kP, hkP, -⟩ := className_of_methodNamed hnamed
  have hinitP : kP.init = .initialized := Cond.initialized_spec (findClass_of_methodNamed hnamed) hkP hinit
  obtain ⟨vm₁, X₁, hstep₁⟩ := X.invokestatic hexec hown hlink hnamed hmethM hstatic hkP hinitP hy (g := g) hg (argsL := argsL) (rest := rest) (hlen _ hsigM) hstack hdg
  rcases hK m meth c ⟨T.setVm vm₁, locs, cells, slots⟩ { g with stack := rest } (.invokestatic index) mk argsL.toArray X₁ hg hsize hdg hW (X₁.named hnamed) (hpre vm₁ X₁.warmed) with ⟨v, B, X', hpost, hsteps⟩ | ⟨q, B, X', hpost, hsteps⟩
  · exact Or.inl ⟨v, vm₁, B, X₁.warmed, X', hpost, fun target h => hstep₁ _ fun acts => by rw [doInvoke_state]; exact hsteps.trans h⟩
  · exact Or.inr ⟨q, vm₁, B, X₁.warmed, X', hpost, hstep₁ _ fun acts => by rw [doInvoke_state]; exact hsteps⟩
theorem vx_callVW (X : Stand p l e R s m args below meth c T locs cells slots) (hexec : p.tables.exec = Jvm.exec) {own C : String} {index : Nat} {y : MethodName} {bytes : ByteArray} {maxL : Nat} {ret : Option FieldType} {hh : List (Nat × Nat × Nat × Nat)}
    (hown : s.vm.findClass own = some m.cls) (hlink : (Cond.methodLink own index y).before args s = true) (hinst : (Cond.instanceMethod y).before args s = true) (hsel : (Cond.selects C y y).before args s = true)
    (hcode : (Cond.codeWith y bytes maxL ret hh).before args s = true) (hy : y.cls ≠ "java/lang/invoke/MethodHandle" ∧ y.cls ≠ "java/lang/invoke/VarHandle")
    {W9 : Nat} {Pre : Pt → Array Value → Prop} {Post : Pt → Array Value → Option Value → Pt → Prop} (hK : Back l R p e below s args y 3 W9 Pre Post)
    {b : Addr} {cellB : Cell} (hcell : T.heap[b]? = some cellB) (hobj : cellB.vm.isStatics = false) (hcls : s.vm.findClass C = some cellB.cls)
    {g : JFrame} (hg : g.method = m) (hsize : g.locals.size = c.maxLocals) {argsL rest : List Value} (hlen : ∀ sig, parseMethodDescriptor y.desc = some sig → argsL.length = sig.parameters.length)
    (hstack : g.stack = argsL.reverse ++ .ref b :: rest) (hW : 2 * g.monitorRoom + (rest.map fun v => v.category).sum ≤ W9) (hdg : decode c.code g.pc = .ok (.invokevirtual index, 3))
    (hpre : ∀ vm₁, s.WarmedH vm₁ → Pre ⟨T.setVm vm₁, locs, cells, slots⟩ (Value.ref b :: argsL).toArray) :
    ∃ (v : Option Value) (vm₁ : Vm) (B : Pt), s.WarmedH vm₁ ∧ Stand p l e R s m args below meth c B.U B.locs B.cells B.slots ∧ Post ⟨T.setVm vm₁, locs, cells, slots⟩ (Value.ref b :: argsL).toArray v B ∧
      ∀ target, Steps p.tables e below (B.U.setTop { g with pc := g.pc + 3, stack := v.toList ++ rest }) target → Steps p.tables e below (T.setTop g) target := by
  obtain ⟨mk, methM, hnamed, hmethM, hstM, habM⟩ := Cond.instanceMethod_spec hinst
  obtain ⟨m8, methM', cM, hn8, hmethM', -, -, -, -, -, -, hsigM⟩ := Cond.codeWith_spec hcode
  cases Option.some.inj (hn8.symm.trans hnamed)
  cases hmethM.symm.trans hmethM'
  obtain ⟨c2, r2, m2, q1, q2, q3, q4, kP, hkP, hkPi⟩ := Cond.selects_spec hsel
  cases hcls.symm.trans q1
  cases (State.methodFound?_of_named hnamed hy).symm.trans q2
  cases hnamed.symm.trans q3
  have hselP : selectMethod e.platform s.vm cellB.cls mk = .method mk := by rw [Launch.admits_selectMethod X.admits]; exact q4
  obtain ⟨vm₁, X₁, hstep₁⟩ := X.invokevirtual hexec hown hlink hnamed hmethM hstM hkP hkPi hy (a := b) (cell := cellB) hcell
    (fun z h => by rw [h] at hobj; cases hobj) hselP hmethM habM hkP hkPi (g := g) hg (argsL := argsL) (rest := rest) (hlen _ hsigM) hstack hdg
  obtain ⟨v, B, X', hpost, hsteps⟩ := hK m meth c ⟨T.setVm vm₁, locs, cells, slots⟩ { g with stack := rest } (.invokevirtual index) mk (Value.ref b :: argsL).toArray X₁ hg hsize hdg hW (X₁.named hnamed) (hpre vm₁ X₁.warmed)
  exact ⟨v, vm₁, B, X₁.warmed, X', hpost, fun target h => hstep₁ _ fun acts => by rw [doInvoke_state]; exact hsteps.trans h⟩
abbrev vx_CVW (R : Room) (s : State) (args : Array Value) (own C : String) (index : Nat) (y : MethodName) (bytes : ByteArray) (maxL : Nat) (ret : Option FieldType) (hh : List (Nat × Nat × Nat × Nat)) (ws : List Cond) (rm : Room) (mc ms n : Nat) : Prop :=
  (rm.cells = mc ∧ rm.slots = ms ∧ rm.frames + 1 ≤ R.frames ∧ 8 + (maxL + 11) + rm.locals ≤ R.locals ∧ (∀ w ∈ ws, ∀ (a' : Array Value) (U : State), s.WarmedH U.vm → w.before a' U = true) ∧ Cond.codeWith y bytes maxL ret hh ∈ ws) ∧
  (Cond.codeWith y bytes maxL ret hh).before args s = true ∧ (Cond.initialized y.cls).before args s = true ∧ (y.cls ≠ "java/lang/invoke/MethodHandle" ∧ y.cls ≠ "java/lang/invoke/VarHandle") ∧
  (∀ sig, parseMethodDescriptor y.desc = some sig → n = sig.parameters.length) ∧ (Cond.methodLink own index y).before args s = true ∧ (Cond.instanceMethod y).before args s = true ∧ (Cond.selects C y y).before args s = true
theorem vx_cwVW {own C : String} {index maxL mc ms : Nat} {y : MethodName} {bytes : ByteArray} {ret : Option FieldType} {hh : List (Nat × Nat × Nat × Nat)} {Ts ws ws' : List Cond} {rm : Room} (n : Nat) (ht : ∀ w ∈ Ts, w.before args s = true) (hT : GoodIn Ts (wsV own index C y ws)) (hw : ws = Cond.codeWith y bytes maxL ret hh :: ws') (hrc : rm.cells = mc) (hrs : rm.slots = ms)
    (hd : y.cls = C ∧ y.cls ≠ "java/lang/invoke/MethodHandle" ∧ y.cls ≠ "java/lang/invoke/VarHandle" ∧ (parseMethodDescriptor y.desc).map (fun d => d.parameters.length) = some n) (hR : rm.frames + 1 ≤ R.frames ∧ 8 + (maxL + 11) + rm.locals ≤ R.locals) :
    vx_CVW R s args own C index y bytes maxL ret hh ws rm mc ms n := by
  obtain ⟨hC, hd⟩ := hd
  subst hC
  have ok : ∀ w ∈ wsV own index y.cls y ws, w.before args s = true := fun w h => ht w (hT w h).1
  have hG : GoodIn Ts ws := fun w h => hT w (by unfold wsV; exact List.mem_append_right _ h)
  have hc : Cond.codeWith y bytes maxL ret hh ∈ ws := by rw [hw]; exact List.mem_cons_self
  refine ⟨⟨hrc, hrs, hR.1, hR.2, pay_in ht hG, hc⟩, ht _ (hG _ hc).1, ok _ (by simp [wsV]), ⟨hd.1, hd.2.1⟩, fun sig h => ?_, ok _ (by simp [wsV]), ok _ (by simp [wsV]), ok _ (by simp [wsV])⟩
  have h2 := hd.2.2
  rw [h] at h2
  exact (Option.some.inj h2).symm
theorem vx_runVW {y : MethodName} {bytes cc : ByteArray} {maxL nL mc ms n index : Nat} {ret : Option FieldType} {hh : List (Nat × Nat × Nat × Nat)} {ws : List Cond} {rm : Room} {Pc : Array Value → State → Prop} {Qc : Array Value → State → Outcome → State → Prop} {free : Addr → Prop} {Ts : List Cond} {own C : String} {b : Addr} {As rest : List Value} {g : JFrame}
    (S : CallFix p m c cc nL s args Ts own) (hM : Met l y ws rm Pc Qc mc ms free) (cw : vx_CVW R s args own C index y bytes maxL ret hh ws rm mc ms n) (hp : PreV s H C b Pc As)
    (hg : g.method = m) (hn : As.length = n) (hsize : g.locals.size = nL) (hstack : g.stack = As.reverse ++ .ref b :: rest) (hW : 2 * g.monitorRoom + (rest.map fun v => v.category).sum ≤ 8) (hdg : decode cc g.pc = .ok (.invokevirtual index, 3)) (hf : cells + mc ≤ R.cells ∧ slots + ms ≤ R.slots) :
    va_Run p l e R s m args below meth c H locs cells slots mc ms g rest (Qc (Value.ref b :: As).toArray) free := by
  obtain ⟨⟨hrc, hrs, hfr, hlo, hws, hcw⟩, hcode, hini, hy, hlen, hl, hin, hse⟩ := cw
  have hK : Back l R p e below s args y 3 8 (PreOf R mc ms Pc) (PostOf Qc mc ms free) := va_backW (hh := hh) (bytes := bytes) (maxL := maxL) (ret := ret) hM hp.1 hrc hrs hfr hlo hws hcw (fun a' U hW => word_at hW (Or.inl (by first | rfl | simp [Cond.onTables, Cond.keeps, Cond.steady])) hini)
  obtain ⟨hx, hb, hml, ho, -⟩ := S
  obtain ⟨-, ⟨cellB, hcB, hoB, hclB⟩, hPc⟩ := hp
  intro T hT X
  obtain ⟨v, vm₁, ⟨U', l2, c2, s2⟩, hW₁, X', ⟨g', mk, t, L, e1, e2, hq, h1, hL, h2, h3⟩, st⟩ := vx_callVW X hx (C := C) (hh := hh) (bytes := bytes) (maxL := maxL) (ret := ret) ho hl hin hse hcode hy hK (by rw [hT]; exact hcB) hoB hclB hg (hsize.trans hml.symm) (argsL := As) (rest := rest) (fun sig h => hn.trans (hlen sig h)) hstack hW (by rw [hb]; exact hdg)
    (fun vm₁ hW₁ => ⟨hf.1, hf.2, hPc (T.setVm vm₁) hT hW₁⟩)
  dsimp only [Pt.U, Pt.locs, Pt.cells, Pt.slots] at X' e1 e2 h1 h2 h3 st
  subst h1; subst h2; subst h3
  exact ⟨v, (T.setVm vm₁).calling g' mk (Value.ref b :: As).toArray, t, U', L, hT, X', hL, e1, e2, hq, st⟩
section
variable {y : MethodName} {bytes cc : ByteArray} {maxL nL mc ms n index : Nat} {ret : Option FieldType} {ws : List Cond} {rm : Room} {Pc : Array Value → State → Prop} {Qc : Array Value → State → Outcome → State → Prop} {XC : String → State → State → Prop} {free : Addr → Prop} {Ts : List Cond} {own C : String} {b : Addr} {As rest : List Value} {g : JFrame}
theorem vx_runVX {hh : List (Nat × Nat × Nat × Nat)} (S : CallFix p m c cc nL s args Ts own) (hM : vx_Met l y ws rm Pc Qc XC mc ms free) (cw : vx_CVW R s args own C index y bytes maxL ret hh ws rm mc ms n) (hp : PreV s H C b Pc As)
    (hg : g.method = m) (hn : As.length = n) (hsize : g.locals.size = nL) (hstack : g.stack = As.reverse ++ .ref b :: rest) (hW : 2 * g.monitorRoom + (rest.map fun v => v.category).sum ≤ 8) (hdg : decode cc g.pc = .ok (.invokevirtual index, 3)) (hf : cells + mc ≤ R.cells ∧ slots + ms ≤ R.slots) :
    vx_Run p l e R s m args below meth c H locs cells slots mc ms g rest (Qc (Value.ref b :: As).toArray) XC free := by
  obtain ⟨⟨hrc, hrs, hfr, hlo, hws, hcw⟩, hcode, hini, hy, hlen, hl, hin, hse⟩ := cw
  have hK : vx_Back l R p e below s args y 3 8 (PreOf R mc ms Pc) (PostOf Qc mc ms free) (vx_Post XC mc ms free) := vx_backW (hh := hh) (bytes := bytes) (maxL := maxL) (ret := ret) hM hp.1 hrc hrs hfr hlo hws hcw (fun a' U hW => word_at hW (Or.inl (by first | rfl | simp [Cond.onTables, Cond.keeps, Cond.steady])) hini)
  obtain ⟨hx, hb, hml, ho, -⟩ := S
  obtain ⟨-, ⟨cellB, hcB, hoB, hclB⟩, hPc⟩ := hp
  intro T hT X
  rcases vx_callVX X hx (C := C) (hh := hh) (bytes := bytes) (maxL := maxL) (ret := ret) ho hl hin hse hcode hy hK (by rw [hT]; exact hcB) hoB hclB hg (hsize.trans hml.symm) (argsL := As) (rest := rest) (fun sig h => hn.trans (hlen sig h)) hstack hW (by rw [hb]; exact hdg)
    (fun vm₁ hW₁ => ⟨hf.1, hf.2, hPc (T.setVm vm₁) hT hW₁⟩) with ⟨v, vm₁, ⟨U', l2, c2, s2⟩, hW₁, X', ⟨g', mk, t, L, e1, e2, hq, h1, hL, h2, h3⟩, st⟩ | ⟨q, vm₁, ⟨U', l2, c2, s2⟩, hW₁, X', ⟨g', mk, t, L, E, ce, e1, e2, hq, hce, hcv, hcl, h1, hL, h2, h3⟩, st⟩
  · dsimp only [Pt.U, Pt.locs, Pt.cells, Pt.slots] at X' e1 e2 h1 h2 h3 st
    subst h1; subst h2; subst h3
    exact Or.inl ⟨v, (T.setVm vm₁).calling g' mk (Value.ref b :: As).toArray, t, U', L, hT, X', hL, e1, e2, hq, st⟩
  · dsimp only [Pt.U, Pt.locs, Pt.cells, Pt.slots] at X' e1 e2 h1 h2 h3 st hcl
    subst h1; subst h2; subst h3
    exact Or.inr ⟨q, (T.setVm vm₁).calling g' mk (Value.ref b :: As).toArray, t, U', L, E, ce, hT, X', hL, e1, e2, hq, hce, hcv, vx_cls hW₁ hcl, st⟩
theorem vx_runSX {hh : List (Nat × Nat × Nat × Nat)} (S : CallFix p m c cc nL s args Ts own) (hM : vx_Met l y ws rm Pc Qc XC mc ms free) (cw : vx_CSW R s args own index y bytes maxL ret hh ws rm mc ms n) (hp : PreS s H Pc As)
    (hg : g.method = m) (hn : As.length = n) (hsize : g.locals.size = nL) (hstack : g.stack = As.reverse ++ rest) (hW : 2 * g.monitorRoom + (rest.map fun v => v.category).sum ≤ 8) (hdg : decode cc g.pc = .ok (.invokestatic index, 3)) (hf : cells + mc ≤ R.cells ∧ slots + ms ≤ R.slots) :
    vx_Run p l e R s m args below meth c H locs cells slots mc ms g rest (Qc As.toArray) XC free := by
  obtain ⟨⟨hrc, hrs, hfr, hlo, hws, hcw⟩, hcode, hini, hy, hlen, hl, hstt⟩ := cw
  have hK : vx_Back l R p e below s args y 3 8 (PreOf R mc ms Pc) (PostOf Qc mc ms free) (vx_Post XC mc ms free) := vx_backW (hh := hh) (bytes := bytes) (maxL := maxL) (ret := ret) hM hp.1 hrc hrs hfr hlo hws hcw (fun a' U hW => word_at hW (Or.inl (by first | rfl | simp [Cond.onTables, Cond.keeps, Cond.steady])) hini)
  obtain ⟨hx, hb, hml, ho, -⟩ := S
  intro T hT X
  rcases vx_callSX X hx (hh := hh) (bytes := bytes) (maxL := maxL) (ret := ret) ho hl hstt hini hcode hy hK hg (hsize.trans hml.symm) (argsL := As) (rest := rest) (fun sig h => hn.trans (hlen sig h)) hstack hW (by rw [hb]; exact hdg)
    (fun vm₁ hW₁ => ⟨hf.1, hf.2, hp.2 (T.setVm vm₁) hT hW₁⟩) with ⟨v, vm₁, ⟨U', l2, c2, s2⟩, hW₁, X', ⟨g', mk, t, L, e1, e2, hq, h1, hL, h2, h3⟩, st⟩ | ⟨q, vm₁, ⟨U', l2, c2, s2⟩, hW₁, X', ⟨g', mk, t, L, E, ce, e1, e2, hq, hce, hcv, hcl, h1, hL, h2, h3⟩, st⟩
  · dsimp only [Pt.U, Pt.locs, Pt.cells, Pt.slots] at X' e1 e2 h1 h2 h3 st
    subst h1; subst h2; subst h3
    exact Or.inl ⟨v, (T.setVm vm₁).calling g' mk As.toArray, t, U', L, hT, X', hL, e1, e2, hq, st⟩
  · dsimp only [Pt.U, Pt.locs, Pt.cells, Pt.slots] at X' e1 e2 h1 h2 h3 st hcl
    subst h1; subst h2; subst h3
    exact Or.inr ⟨q, (T.setVm vm₁).calling g' mk As.toArray, t, U', L, E, ce, hT, X', hL, e1, e2, hq, hce, hcv, vx_cls hW₁ hcl, st⟩
end
end VXH
theorem vx_ofWH {l : Launch} {y : MethodName} {ws ws' : List Cond} {rm : Room} {Pc : Array Value → State → Prop} {Qc : Array Value → State → Outcome → State → Prop} {XC : String → State → State → Prop} {mc ms : Nat} {free : Addr → Prop} {cc : ByteArray} {maxL : Nat} {ret : Option FieldType} {hh : List (Nat × Nat × Nat × Nat)}
    (hy : plainName y.cls = true) (hw : ws = Cond.codeWith y cc maxL ret hh :: ws')
    (body : ∀ p e s m args below meth c s₁, BodyLoose p l y (headSpec ws rm) cc maxL ret e s m args below meth c s₁ → c.maxLocals = maxL → Pc args s →
      W p l e (headSpec ws rm).room s m args below meth c s.heap [] 0 0 (vx_MQ below Qc XC args s mc ms free) (entryFrame m args maxL)) : vx_Met l y ws rm Pc Qc XC mc ms free := by
  refine MetFree.of_bodyS (code := cc) (maxLocals := maxL) (ret := ret) hy ?_ ?_
  · intro args s m h hn
    obtain ⟨m9, meth, c, hn9, h1, h2, h3, h4, -, h5, h6, -⟩ := Cond.codeWith_spec (atoms_spec (ws := ws) h _ (by rw [hw]; exact List.mem_cons_self))
    cases hn.symm.trans hn9
    exact ⟨meth, c, h1, h2, h3, h4, h5, h6⟩
  · intro p e s m args below meth c s₁ B hml hP _
    have hh0 : s₁.heap = s.heap := by rw [B.state]; rfl
    obtain ⟨t, a1, o, b1, b2, b3⟩ := body p e s m args below meth c s₁ B hml hP s₁ hh0 (Stand.of_body B)
    exact ⟨t, o, a1, b1, b2, b3⟩
/-! ===== END ===== -/
end
section
/-! ===== BEGIN printed: names, fields, word lists, decode rows ===== -/
def RX0 : String := "PlateModes$Braces"
def TX0 : u_T := fun k => match k with
  | 0 => ("PlateModes$Braces", "paces", "[I", true)
  | 1 => ("PlateModes$Braces", "firsts", "[I", true)
  | 2 => ("PlateModes$Braces", "lasts", "[I", true)
  | 3 => ("PlateModes$Braces", "heights", "[D", true)
  | _ => ("PlateModes$Braces", "count", "I", false)
def tyX0 : Nat → FieldType := fun k => match k with
  | 0 => .array .int
  | 1 => .array .int
  | 2 => .array .int
  | 3 => .array .double
  | _ => .int
abbrev wsX00 : List Cond := u_ws RX0 TX0 5
theorem nmX0 : ∀ a, a < 5 → ∀ b, b < 5 → a ≠ b → (TX0 a).2.1 ≠ (TX0 b).2.1 := by decide +kernel
theorem tyX0_ok : ∀ k, k < 5 → parseFieldDescriptor (TX0 k).2.2.1 = some (tyX0 k) := by decide +kernel
abbrev cX0_init : ByteArray := prog_2_method_1_code
def yX0_init : MethodName := ⟨RX0, "<init>", "()V"⟩
abbrev cX0_full : ByteArray := prog_2_method_2_code
def yX0_full : MethodName := ⟨RX0, "full", "()Z"⟩
abbrev cX0_count : ByteArray := prog_2_method_3_code
def yX0_count : MethodName := ⟨RX0, "count", "()I"⟩
abbrev cX0_add : ByteArray := prog_2_method_4_code
def yX0_add : MethodName := ⟨RX0, "add", "(IIID)I"⟩
abbrev cX0_paceOf : ByteArray := prog_2_method_5_code
def yX0_paceOf : MethodName := ⟨RX0, "paceOf", "(I)I"⟩
abbrev cX0_firstOf : ByteArray := prog_2_method_6_code
def yX0_firstOf : MethodName := ⟨RX0, "firstOf", "(I)I"⟩
abbrev cX0_lastOf : ByteArray := prog_2_method_7_code
def yX0_lastOf : MethodName := ⟨RX0, "lastOf", "(I)I"⟩
abbrev cX0_heightOf : ByteArray := prog_2_method_8_code
def yX0_heightOf : MethodName := ⟨RX0, "heightOf", "(I)D"⟩
def RX1 : String := "PlateModes$ModeSet"
def TX1 : u_T := fun k => match k with
  | 0 => ("PlateModes$ModeSet", "plate", "LPlateModes$Plate;", true)
  | 1 => ("PlateModes$ModeSet", "shapes", "[[D", true)
  | 2 => ("PlateModes$ModeSet", "squares", "[D", true)
  | 3 => ("PlateModes$ModeSet", "residues", "[D", true)
  | 4 => ("PlateModes$ModeSet", "totals", "[D", true)
  | _ => ("PlateModes$ModeSet", "count", "I", false)
def tyX1 : Nat → FieldType := fun k => match k with
  | 0 => .object "PlateModes$Plate"
  | 1 => .array (.array .double)
  | 2 => .array .double
  | 3 => .array .double
  | 4 => .array .double
  | _ => .int
abbrev wsX10 : List Cond := u_ws RX1 TX1 6
theorem nmX1 : ∀ a, a < 6 → ∀ b, b < 6 → a ≠ b → (TX1 a).2.1 ≠ (TX1 b).2.1 := by decide +kernel
theorem tyX1_ok : ∀ k, k < 6 → parseFieldDescriptor (TX1 k).2.2.1 = some (tyX1 k) := by decide +kernel
abbrev cX1_init : ByteArray := prog_3_method_1_code
def yX1_init : MethodName := ⟨RX1, "<init>", "(LPlateModes$Plate;)V"⟩
abbrev cX1_count : ByteArray := prog_3_method_2_code
def yX1_count : MethodName := ⟨RX1, "count", "()I"⟩
abbrev cX1_forget : ByteArray := prog_3_method_3_code
def yX1_forget : MethodName := ⟨RX1, "forget", "()V"⟩
abbrev cX1_squareOf : ByteArray := prog_3_method_4_code
def yX1_squareOf : MethodName := ⟨RX1, "squareOf", "(I)D"⟩
abbrev cX1_residueOf : ByteArray := prog_3_method_5_code
def yX1_residueOf : MethodName := ⟨RX1, "residueOf", "(I)D"⟩
abbrev cX1_totalOf : ByteArray := prog_3_method_6_code
def yX1_totalOf : MethodName := ⟨RX1, "totalOf", "(I)D"⟩
abbrev cX1_shapeAt : ByteArray := prog_3_method_7_code
def yX1_shapeAt : MethodName := ⟨RX1, "shapeAt", "(II)D"⟩
abbrev cX1_productOf : ByteArray := prog_3_method_8_code
def yX1_productOf : MethodName := ⟨RX1, "productOf", "(II)D"⟩
abbrev cX1_make : ByteArray := prog_3_method_9_code
def yX1_make : MethodName := ⟨RX1, "make", "(I)I"⟩
abbrev cX1_settle : ByteArray := prog_3_method_10_code
def yX1_settle : MethodName := ⟨RX1, "settle", "(I)Z"⟩
abbrev cX1_takeOut : ByteArray := prog_3_method_11_code
def yX1_takeOut : MethodName := ⟨RX1, "takeOut", "([D[D)V"⟩
abbrev cX1_measure : ByteArray := prog_3_method_12_code
def yX1_measure : MethodName := ⟨RX1, "measure", "(I)V"⟩
def RX2 : String := "PlateModes$Plate"
def TX2 : u_T := fun k => match k with
  | 0 => ("PlateModes$Plate", "width", "I", true)
  | 1 => ("PlateModes$Plate", "height", "I", true)
  | 2 => ("PlateModes$Plate", "thick", "[D", true)
  | 3 => ("PlateModes$Plate", "toRight", "[D", true)
  | 4 => ("PlateModes$Plate", "toBelow", "[D", true)
  | 5 => ("PlateModes$Plate", "braces", "LPlateModes$Braces;", true)
  | 6 => ("PlateModes$Plate", "along", "D", false)
  | 7 => ("PlateModes$Plate", "across", "D", false)
  | _ => ("PlateModes$Plate", "density", "D", false)
def tyX2 : Nat → FieldType := fun k => match k with
  | 0 => .int
  | 1 => .int
  | 2 => .array .double
  | 3 => .array .double
  | 4 => .array .double
  | 5 => .object "PlateModes$Braces"
  | 6 => .double
  | 7 => .double
  | _ => .double
abbrev wsX20 : List Cond := u_ws RX2 TX2 9
theorem nmX2 : ∀ a, a < 9 → ∀ b, b < 9 → a ≠ b → (TX2 a).2.1 ≠ (TX2 b).2.1 := by decide +kernel
theorem tyX2_ok : ∀ k, k < 9 → parseFieldDescriptor (TX2 k).2.2.1 = some (tyX2 k) := by decide +kernel
abbrev cX2_init : ByteArray := prog_4_method_1_code
def yX2_init : MethodName := ⟨RX2, "<init>", "(II)V"⟩
abbrev cX2_cells : ByteArray := prog_4_method_2_code
def yX2_cells : MethodName := ⟨RX2, "cells", "()I"⟩
abbrev cX2_hasCell : ByteArray := prog_4_method_3_code
def yX2_hasCell : MethodName := ⟨RX2, "hasCell", "(II)Z"⟩
abbrev cX2_cellAt : ByteArray := prog_4_method_4_code
def yX2_cellAt : MethodName := ⟨RX2, "cellAt", "(II)I"⟩
abbrev cX2_thicknessOf : ByteArray := prog_4_method_5_code
def yX2_thicknessOf : MethodName := ⟨RX2, "thicknessOf", "(I)D"⟩
abbrev cX2_setThickness : ByteArray := prog_4_method_6_code
def yX2_setThickness : MethodName := ⟨RX2, "setThickness", "(ID)V"⟩
abbrev cX2_hasWood : ByteArray := prog_4_method_7_code
def yX2_hasWood : MethodName := ⟨RX2, "hasWood", "(I)Z"⟩
abbrev cX2_setRates : ByteArray := prog_4_method_8_code
def yX2_setRates : MethodName := ⟨RX2, "setRates", "(DDD)V"⟩
abbrev cX2_bracesFull : ByteArray := prog_4_method_9_code
def yX2_bracesFull : MethodName := ⟨RX2, "bracesFull", "()Z"⟩
abbrev cX2_addBrace : ByteArray := prog_4_method_10_code
def yX2_addBrace : MethodName := ⟨RX2, "addBrace", "(ZIID)I"⟩
abbrev cX2_massOf : ByteArray := prog_4_method_11_code
def yX2_massOf : MethodName := ⟨RX2, "massOf", "(I)D"⟩
abbrev cX2_massOfAll : ByteArray := prog_4_method_12_code
def yX2_massOfAll : MethodName := ⟨RX2, "massOfAll", "()D"⟩
abbrev cX2_mirroredAlongX : ByteArray := prog_4_method_13_code
def yX2_mirroredAlongX : MethodName := ⟨RX2, "mirroredAlongX", "()Z"⟩
abbrev cX2_mirroredAlongY : ByteArray := prog_4_method_14_code
def yX2_mirroredAlongY : MethodName := ⟨RX2, "mirroredAlongY", "()Z"⟩
abbrev cX2_bindSprings : ByteArray := prog_4_method_15_code
def yX2_bindSprings : MethodName := ⟨RX2, "bindSprings", "()V"⟩
abbrev cX2_springOf : ByteArray := prog_4_method_16_code
def yX2_springOf : MethodName := ⟨RX2, "springOf", "(DII)D"⟩
abbrev cX2_stiffenBy : ByteArray := prog_4_method_17_code
def yX2_stiffenBy : MethodName := ⟨RX2, "stiffenBy", "(I)V"⟩
abbrev cX2_forceAt : ByteArray := prog_4_method_18_code
def yX2_forceAt : MethodName := ⟨RX2, "forceAt", "([DII)D"⟩
abbrev cX2_heldAt : ByteArray := prog_4_method_19_code
def yX2_heldAt : MethodName := ⟨RX2, "heldAt", "(II)D"⟩
abbrev cX2_beginShape : ByteArray := prog_4_method_20_code
def yX2_beginShape : MethodName := ⟨RX2, "beginShape", "([DI)V"⟩
abbrev cX2_relax : ByteArray := prog_4_method_21_code
def yX2_relax : MethodName := ⟨RX2, "relax", "([D)V"⟩
abbrev cX2_productOver : ByteArray := prog_4_method_22_code
def yX2_productOver : MethodName := ⟨RX2, "productOver", "([D[D)D"⟩
abbrev cX2_totalOver : ByteArray := prog_4_method_23_code
def yX2_totalOver : MethodName := ⟨RX2, "totalOver", "([D)D"⟩
abbrev cX2_squareOver : ByteArray := prog_4_method_24_code
def yX2_squareOver : MethodName := ⟨RX2, "squareOver", "([D)D"⟩
abbrev cX2_residueOver : ByteArray := prog_4_method_25_code
def yX2_residueOver : MethodName := ⟨RX2, "residueOver", "([DD)D"⟩
def RX3 : String := "PlateModes$Wishes"
def TX3 : u_T := fun k => match k with
  | 0 => ("PlateModes$Wishes", "wanted", "[I", true)
  | 1 => ("PlateModes$Wishes", "wishedSquares", "[D", true)
  | _ => ("PlateModes$Wishes", "count", "I", false)
def tyX3 : Nat → FieldType := fun k => match k with
  | 0 => .array .int
  | 1 => .array .double
  | _ => .int
abbrev wsX30 : List Cond := u_ws RX3 TX3 3
theorem nmX3 : ∀ a, a < 3 → ∀ b, b < 3 → a ≠ b → (TX3 a).2.1 ≠ (TX3 b).2.1 := by decide +kernel
theorem tyX3_ok : ∀ k, k < 3 → parseFieldDescriptor (TX3 k).2.2.1 = some (tyX3 k) := by decide +kernel
abbrev cX3_init : ByteArray := prog_5_method_1_code
def yX3_init : MethodName := ⟨RX3, "<init>", "()V"⟩
abbrev cX3_full : ByteArray := prog_5_method_2_code
def yX3_full : MethodName := ⟨RX3, "full", "()Z"⟩
abbrev cX3_add : ByteArray := prog_5_method_3_code
def yX3_add : MethodName := ⟨RX3, "add", "(ID)I"⟩
abbrev cX3_modesNeeded : ByteArray := prog_5_method_4_code
def yX3_modesNeeded : MethodName := ⟨RX3, "modesNeeded", "()I"⟩
abbrev cX3_missedBy : ByteArray := prog_5_method_5_code
def yX3_missedBy : MethodName := ⟨RX3, "missedBy", "(LPlateModes$ModeSet;)D"⟩
def RX4 : String := "PlateModes"
def TX4 : u_T := fun k => match k with
  | 0 => ("PlateModes", "plate", "LPlateModes$Plate;", true)
  | 1 => ("PlateModes", "made", "LPlateModes$ModeSet;", true)
  | 2 => ("PlateModes", "tried", "LPlateModes$ModeSet;", true)
  | _ => ("PlateModes", "wishes", "LPlateModes$Wishes;", true)
def tyX4 : Nat → FieldType := fun k => match k with
  | 0 => .object "PlateModes$Plate"
  | 1 => .object "PlateModes$ModeSet"
  | 2 => .object "PlateModes$ModeSet"
  | _ => .object "PlateModes$Wishes"
abbrev wsX40 : List Cond := u_ws RX4 TX4 4
theorem nmX4 : ∀ a, a < 4 → ∀ b, b < 4 → a ≠ b → (TX4 a).2.1 ≠ (TX4 b).2.1 := by decide +kernel
theorem tyX4_ok : ∀ k, k < 4 → parseFieldDescriptor (TX4 k).2.2.1 = some (tyX4 k) := by decide +kernel
abbrev cX4_init : ByteArray := prog_1_method_1_code
def yX4_init : MethodName := ⟨RX4, "<init>", "(II)V"⟩
abbrev cX4_wood : ByteArray := prog_1_method_2_code
def yX4_wood : MethodName := ⟨RX4, "wood", "(IID)Z"⟩
abbrev cX4_rates : ByteArray := prog_1_method_3_code
def yX4_rates : MethodName := ⟨RX4, "rates", "(DDD)V"⟩
abbrev cX4_brace : ByteArray := prog_1_method_4_code
def yX4_brace : MethodName := ⟨RX4, "brace", "(IIIID)I"⟩
abbrev cX4_modes : ByteArray := prog_1_method_5_code
def yX4_modes : MethodName := ⟨RX4, "modes", "(I)I"⟩
abbrev cX4_mode : ByteArray := prog_1_method_6_code
def yX4_mode : MethodName := ⟨RX4, "mode", "(II)D"⟩
abbrev cX4_shape : ByteArray := prog_1_method_7_code
def yX4_shape : MethodName := ⟨RX4, "shape", "(III)D"⟩
abbrev cX4_product : ByteArray := prog_1_method_8_code
def yX4_product : MethodName := ⟨RX4, "product", "(II)D"⟩
abbrev cX4_mirrored : ByteArray := prog_1_method_9_code
def yX4_mirrored : MethodName := ⟨RX4, "mirrored", "(Z)Z"⟩
abbrev cX4_coupled : ByteArray := prog_1_method_10_code
def yX4_coupled : MethodName := ⟨RX4, "coupled", "(IDDZ)D"⟩
abbrev cX4_weight : ByteArray := prog_1_method_11_code
def yX4_weight : MethodName := ⟨RX4, "weight", "()D"⟩
abbrev cX4_want : ByteArray := prog_1_method_12_code
def yX4_want : MethodName := ⟨RX4, "want", "(ID)I"⟩
abbrev cX4_thin : ByteArray := prog_1_method_13_code
def yX4_thin : MethodName := ⟨RX4, "thin", "(DD)I"⟩
abbrev cX4_sum : ByteArray := prog_1_method_14_code
def yX4_sum : MethodName := ⟨RX4, "sum", "()D"⟩
abbrev cX4_tap : ByteArray := prog_1_method_15_code
def yX4_tap : MethodName := ⟨RX4, "tap", "(IIID)D"⟩
abbrev cX4_nearestSide : ByteArray := prog_1_method_16_code
def yX4_nearestSide : MethodName := ⟨RX4, "nearestSide", "(I)I"⟩
abbrev cX4_requireCell : ByteArray := prog_1_method_17_code
def yX4_requireCell : MethodName := ⟨RX4, "requireCell", "(II)V"⟩
abbrev cX4_requireMode : ByteArray := prog_1_method_18_code
def yX4_requireMode : MethodName := ⟨RX4, "requireMode", "(I)V"⟩
abbrev cX4_requireRange : ByteArray := prog_1_method_19_code
def yX4_requireRange : MethodName := ⟨RX4, "requireRange", "(DDD)V"⟩
abbrev cX4_requireMade : ByteArray := prog_1_method_20_code
def yX4_requireMade : MethodName := ⟨RX4, "requireMade", "(I)V"⟩
abbrev cX4_tryThinner : ByteArray := prog_1_method_21_code
def yX4_tryThinner : MethodName := ⟨RX4, "tryThinner", "(IDD)D"⟩
abbrev cX4_root : ByteArray := prog_1_method_22_code
def yX4_root : MethodName := ⟨RX4, "root", "(D)D"⟩
abbrev cX4_ground : ByteArray := prog_1_method_23_code
def yX4_ground : MethodName := ⟨RX4, "ground", "()D"⟩
def RX5 : String := "PlateModesModel"
def TX5 : u_T := fun k => match k with
  | 0 => ("PlateModesModel", "thrown", "I", false)
  | 1 => ("PlateModesModel", "width", "I", false)
  | 2 => ("PlateModesModel", "height", "I", false)
  | 3 => ("PlateModesModel", "thicks", "[D", true)
  | 4 => ("PlateModesModel", "a", "D", false)
  | 5 => ("PlateModesModel", "b", "D", false)
  | 6 => ("PlateModesModel", "density", "D", false)
  | 7 => ("PlateModesModel", "braces", "I", false)
  | 8 => ("PlateModesModel", "ends", "[I", true)
  | 9 => ("PlateModesModel", "heights", "[D", true)
  | 10 => ("PlateModesModel", "right", "[D", true)
  | 11 => ("PlateModesModel", "down", "[D", true)
  | 12 => ("PlateModesModel", "made", "Z", false)
  | 13 => ("PlateModesModel", "many", "I", false)
  | 14 => ("PlateModesModel", "shapes", "[D", true)
  | 15 => ("PlateModesModel", "squares", "[D", true)
  | 16 => ("PlateModesModel", "wants", "I", false)
  | 17 => ("PlateModesModel", "wanted", "[I", true)
  | _ => ("PlateModesModel", "wishes", "[D", true)
def tyX5 : Nat → FieldType := fun k => match k with
  | 0 => .int
  | 1 => .int
  | 2 => .int
  | 3 => .array .double
  | 4 => .double
  | 5 => .double
  | 6 => .double
  | 7 => .int
  | 8 => .array .int
  | 9 => .array .double
  | 10 => .array .double
  | 11 => .array .double
  | 12 => .boolean
  | 13 => .int
  | 14 => .array .double
  | 15 => .array .double
  | 16 => .int
  | 17 => .array .int
  | _ => .array .double
abbrev wsX50 : List Cond := u_ws RX5 TX5 19
theorem nmX5 : ∀ a, a < 19 → ∀ b, b < 19 → a ≠ b → (TX5 a).2.1 ≠ (TX5 b).2.1 := by decide +kernel
theorem tyX5_ok : ∀ k, k < 19 → parseFieldDescriptor (TX5 k).2.2.1 = some (tyX5 k) := by decide +kernel
abbrev cX5_init : ByteArray := prog_7_method_1_code
def yX5_init : MethodName := ⟨RX5, "<init>", "(II)V"⟩
abbrev cX5_thrown : ByteArray := prog_7_method_2_code
def yX5_thrown : MethodName := ⟨RX5, "thrown", "()I"⟩
abbrev cX5_between : ByteArray := prog_7_method_3_code
def yX5_between : MethodName := ⟨RX5, "between", "(DDD)Z"⟩
abbrev cX5_noCell : ByteArray := prog_7_method_4_code
def yX5_noCell : MethodName := ⟨RX5, "noCell", "(II)Z"⟩
abbrev cX5_root : ByteArray := prog_7_method_5_code
def yX5_root : MethodName := ⟨RX5, "root", "(D)D"⟩
abbrev cX5_wood : ByteArray := prog_7_method_6_code
def yX5_wood : MethodName := ⟨RX5, "wood", "(IID)Z"⟩
abbrev cX5_rates : ByteArray := prog_7_method_7_code
def yX5_rates : MethodName := ⟨RX5, "rates", "(DDD)V"⟩
abbrev cX5_brace : ByteArray := prog_7_method_8_code
def yX5_brace : MethodName := ⟨RX5, "brace", "(IIIID)I"⟩
abbrev cX5_isWood : ByteArray := prog_7_method_9_code
def yX5_isWood : MethodName := ⟨RX5, "isWood", "(I)Z"⟩
abbrev cX5_spring : ByteArray := prog_7_method_10_code
def yX5_spring : MethodName := ⟨RX5, "spring", "(DDD)D"⟩
abbrev cX5_springs : ByteArray := prog_7_method_11_code
def yX5_springs : MethodName := ⟨RX5, "springs", "()V"⟩
abbrev cX5_force : ByteArray := prog_7_method_12_code
def yX5_force : MethodName := ⟨RX5, "force", "(III)D"⟩
abbrev cX5_hold : ByteArray := prog_7_method_13_code
def yX5_hold : MethodName := ⟨RX5, "hold", "(II)D"⟩
abbrev cX5_mass : ByteArray := prog_7_method_14_code
def yX5_mass : MethodName := ⟨RX5, "mass", "(I)D"⟩
abbrev cX5_productOf : ByteArray := prog_7_method_15_code
def yX5_productOf : MethodName := ⟨RX5, "productOf", "(II)D"⟩
abbrev cX5_sweep : ByteArray := prog_7_method_16_code
def yX5_sweep : MethodName := ⟨RX5, "sweep", "(I)Z"⟩
abbrev cX5_make : ByteArray := prog_7_method_17_code
def yX5_make : MethodName := ⟨RX5, "make", "(I)Z"⟩
abbrev cX5_makeAll : ByteArray := prog_7_method_18_code
def yX5_makeAll : MethodName := ⟨RX5, "makeAll", "(I)V"⟩
abbrev cX5_modes : ByteArray := prog_7_method_19_code
def yX5_modes : MethodName := ⟨RX5, "modes", "(I)I"⟩
abbrev cX5_noMode : ByteArray := prog_7_method_20_code
def yX5_noMode : MethodName := ⟨RX5, "noMode", "(I)Z"⟩
abbrev cX5_check : ByteArray := prog_7_method_21_code
def yX5_check : MethodName := ⟨RX5, "check", "(ZI)I"⟩
abbrev cX5_sumOf : ByteArray := prog_7_method_22_code
def yX5_sumOf : MethodName := ⟨RX5, "sumOf", "(I)D"⟩
abbrev cX5_residue : ByteArray := prog_7_method_23_code
def yX5_residue : MethodName := ⟨RX5, "residue", "(I)D"⟩
abbrev cX5_mode : ByteArray := prog_7_method_24_code
def yX5_mode : MethodName := ⟨RX5, "mode", "(II)D"⟩
abbrev cX5_shape : ByteArray := prog_7_method_25_code
def yX5_shape : MethodName := ⟨RX5, "shape", "(III)D"⟩
abbrev cX5_product : ByteArray := prog_7_method_26_code
def yX5_product : MethodName := ⟨RX5, "product", "(II)D"⟩
abbrev cX5_mirrored : ByteArray := prog_7_method_27_code
def yX5_mirrored : MethodName := ⟨RX5, "mirrored", "(Z)Z"⟩
abbrev cX5_coupled : ByteArray := prog_7_method_28_code
def yX5_coupled : MethodName := ⟨RX5, "coupled", "(IDDZ)D"⟩
abbrev cX5_weight : ByteArray := prog_7_method_29_code
def yX5_weight : MethodName := ⟨RX5, "weight", "()D"⟩
abbrev cX5_want : ByteArray := prog_7_method_30_code
def yX5_want : MethodName := ⟨RX5, "want", "(ID)I"⟩
abbrev cX5_needed : ByteArray := prog_7_method_31_code
def yX5_needed : MethodName := ⟨RX5, "needed", "()I"⟩
abbrev cX5_total : ByteArray := prog_7_method_32_code
def yX5_total : MethodName := ⟨RX5, "total", "()D"⟩
abbrev cX5_thin : ByteArray := prog_7_method_33_code
def yX5_thin : MethodName := ⟨RX5, "thin", "(DD)I"⟩
abbrev cX5_sum : ByteArray := prog_7_method_34_code
def yX5_sum : MethodName := ⟨RX5, "sum", "()D"⟩
abbrev cX5_tap : ByteArray := prog_7_method_35_code
def yX5_tap : MethodName := ⟨RX5, "tap", "(IIID)D"⟩
def RJ9 : String := "java/lang/Math"
def TJ9 : u_T := fun k => match k with
  | _ => ("", "", "", false)
def tyJ9 : Nat → FieldType := fun k => match k with
  | _ => .int
abbrev wsJ90 : List Cond := u_ws RJ9 TJ9 0
theorem nmJ9 : ∀ a, a < 0 → ∀ b, b < 0 → a ≠ b → (TJ9 a).2.1 ≠ (TJ9 b).2.1 := by decide +kernel
theorem tyJ9_ok : ∀ k, k < 0 → parseFieldDescriptor (TJ9 k).2.2.1 = some (tyJ9 k) := by decide +kernel
abbrev cJ9_max_7cf53 : ByteArray := prog_12_method_65_code
def yJ9_max_7cf53 : MethodName := ⟨RJ9, "max", "(II)I"⟩
abbrev cJ9_min_7cf53 : ByteArray := prog_12_method_69_code
def yJ9_min_7cf53 : MethodName := ⟨RJ9, "min", "(II)I"⟩
def RJ0 : String := "java/lang/String"
def TJ0 : u_T := fun k => match k with
  | _ => ("", "", "", false)
def tyJ0 : Nat → FieldType := fun k => match k with
  | _ => .int
abbrev wsJ00 : List Cond := u_ws RJ0 TJ0 0
theorem nmJ0 : ∀ a, a < 0 → ∀ b, b < 0 → a ≠ b → (TJ0 a).2.1 ≠ (TJ0 b).2.1 := by decide +kernel
theorem tyJ0_ok : ∀ k, k < 0 → parseFieldDescriptor (TJ0 k).2.2.1 = some (tyJ0 k) := by decide +kernel
def RL : String := "PlateModesLaw"
abbrev cL_cell : ByteArray := method_2_code
def yL_cell : MethodName := ⟨RL, "cell", "([II)I"⟩
abbrev cL_wood : ByteArray := method_3_code
def yL_wood : MethodName := ⟨RL, "wood", "(LPlateModes;IID[J)I"⟩
abbrev cL_rates : ByteArray := method_4_code
def yL_rates : MethodName := ⟨RL, "rates", "(LPlateModes;DDD)I"⟩
abbrev cL_brace : ByteArray := method_5_code
def yL_brace : MethodName := ⟨RL, "brace", "(LPlateModes;IIIID[J)I"⟩
abbrev cL_modes : ByteArray := method_6_code
def yL_modes : MethodName := ⟨RL, "modes", "(LPlateModes;I[J)I"⟩
abbrev cL_mode : ByteArray := method_7_code
def yL_mode : MethodName := ⟨RL, "mode", "(LPlateModes;II[D)I"⟩
abbrev cL_shape : ByteArray := method_8_code
def yL_shape : MethodName := ⟨RL, "shape", "(LPlateModes;III[D)I"⟩
abbrev cL_product : ByteArray := method_9_code
def yL_product : MethodName := ⟨RL, "product", "(LPlateModes;II[D)I"⟩
abbrev cL_coupled : ByteArray := method_10_code
def yL_coupled : MethodName := ⟨RL, "coupled", "(LPlateModes;IDDZ[D)I"⟩
abbrev cL_want : ByteArray := method_11_code
def yL_want : MethodName := ⟨RL, "want", "(LPlateModes;ID[J)I"⟩
abbrev cL_thin : ByteArray := method_12_code
def yL_thin : MethodName := ⟨RL, "thin", "(LPlateModes;DD[J)I"⟩
abbrev cL_sum : ByteArray := method_13_code
def yL_sum : MethodName := ⟨RL, "sum", "(LPlateModes;[D)I"⟩
abbrev cL_tap : ByteArray := method_14_code
def yL_tap : MethodName := ⟨RL, "tap", "(LPlateModes;IIID[D)I"⟩
abbrev cL_law : ByteArray := code
def yL_law : MethodName := ⟨RL, "law", "([I)Z"⟩
def wsX0_init : List Cond := .code yX0_init cX0_init 1 none :: ([.methodLink RX0 3 objectInit, .instanceMethod objectInit, .code objectInit ⟨#[0xb1]⟩ 1 none, .arrayClass .int, .fieldLink RX0 9 "PlateModes$Braces" "paces" "[I", .fieldLink RX0 15 "PlateModes$Braces" "firsts" "[I", .fieldLink RX0 18 "PlateModes$Braces" "lasts" "[I", .arrayClass .double, .fieldLink RX0 21 "PlateModes$Braces" "heights" "[D"] ++ wsX00)
def wsX0_full : List Cond := .code yX0_full cX0_full 1 (some .boolean) :: ([.fieldLink RX0 25 "PlateModes$Braces" "count" "I"] ++ wsX00)
def wsX0_count : List Cond := .code yX0_count cX0_count 1 (some .int) :: ([.fieldLink RX0 25 "PlateModes$Braces" "count" "I"] ++ wsX00)
def wsX0_add : List Cond := .code yX0_add cX0_add 6 (some .int) :: ([.fieldLink RX0 9 "PlateModes$Braces" "paces" "[I", .fieldLink RX0 25 "PlateModes$Braces" "count" "I", .fieldLink RX0 15 "PlateModes$Braces" "firsts" "[I", .fieldLink RX0 18 "PlateModes$Braces" "lasts" "[I", .fieldLink RX0 21 "PlateModes$Braces" "heights" "[D", .methodLink RX0 29 yX0_full, .instanceMethod yX0_full, .selects RX0 yX0_full yX0_full, .initialized RX0, .code yX0_full cX0_full 1 (some .boolean)] ++ wsX00)
def wsX0_paceOf : List Cond := .code yX0_paceOf cX0_paceOf 2 (some .int) :: ([.fieldLink RX0 9 "PlateModes$Braces" "paces" "[I"] ++ wsX00)
def wsX0_firstOf : List Cond := .code yX0_firstOf cX0_firstOf 2 (some .int) :: ([.fieldLink RX0 15 "PlateModes$Braces" "firsts" "[I"] ++ wsX00)
def wsX0_lastOf : List Cond := .code yX0_lastOf cX0_lastOf 2 (some .int) :: ([.fieldLink RX0 18 "PlateModes$Braces" "lasts" "[I"] ++ wsX00)
def wsX0_heightOf : List Cond := .code yX0_heightOf cX0_heightOf 2 (some .double) :: ([.fieldLink RX0 21 "PlateModes$Braces" "heights" "[D"] ++ wsX00)
def wsX2_cells : List Cond := .code yX2_cells cX2_cells 1 (some .int) :: ([.fieldLink RX2 18 "PlateModes$Plate" "thick" "[D"] ++ wsX20)
def wsX1_init : List Cond := .code yX1_init cX1_init 2 none :: ([.methodLink RX1 3 objectInit, .instanceMethod objectInit, .code objectInit ⟨#[0xb1]⟩ 1 none, .fieldLink RX1 9 "PlateModes$ModeSet" "plate" "LPlateModes$Plate;", .classLink RX1 21 "[[D", .arrayClass .double, .fieldLink RX1 23 "PlateModes$ModeSet" "shapes" "[[D", .fieldLink RX1 26 "PlateModes$ModeSet" "squares" "[D", .fieldLink RX1 30 "PlateModes$ModeSet" "residues" "[D", .fieldLink RX1 33 "PlateModes$ModeSet" "totals" "[D", .methodLink RX1 15 yX2_cells, .instanceMethod yX2_cells, .selects RX2 yX2_cells yX2_cells, .initialized RX2, .code yX2_cells cX2_cells 1 (some .int), .fieldLink RX2 18 "PlateModes$Plate" "thick" "[D"] ++ wsX10 ++ wsX20)
def wsX1_count : List Cond := .code yX1_count cX1_count 1 (some .int) :: ([.fieldLink RX1 36 "PlateModes$ModeSet" "count" "I"] ++ wsX10)
def wsX1_forget : List Cond := .code yX1_forget cX1_forget 1 none :: ([.fieldLink RX1 36 "PlateModes$ModeSet" "count" "I"] ++ wsX10)
def wsX1_squareOf : List Cond := .code yX1_squareOf cX1_squareOf 2 (some .double) :: ([.fieldLink RX1 26 "PlateModes$ModeSet" "squares" "[D"] ++ wsX10)
def wsX1_residueOf : List Cond := .code yX1_residueOf cX1_residueOf 2 (some .double) :: ([.fieldLink RX1 30 "PlateModes$ModeSet" "residues" "[D"] ++ wsX10)
def wsX1_totalOf : List Cond := .code yX1_totalOf cX1_totalOf 2 (some .double) :: ([.fieldLink RX1 33 "PlateModes$ModeSet" "totals" "[D"] ++ wsX10)
def wsX1_shapeAt : List Cond := .code yX1_shapeAt cX1_shapeAt 3 (some .double) :: ([.fieldLink RX1 23 "PlateModes$ModeSet" "shapes" "[[D"] ++ wsX10)
def wsX2_hasWood : List Cond := .code yX2_hasWood cX2_hasWood 2 (some .boolean) :: ([.fieldLink RX2 18 "PlateModes$Plate" "thick" "[D"] ++ wsX20)
def wsX2_massOf : List Cond := .code yX2_massOf cX2_massOf 2 (some .double) :: ([.fieldLink RX2 18 "PlateModes$Plate" "thick" "[D", .fieldLink RX2 42 "PlateModes$Plate" "density" "D"] ++ wsX20)
def wsX2_productOver : List Cond := .code yX2_productOver cX2_productOver 6 (some .double) :: ([.fieldLink RX2 18 "PlateModes$Plate" "thick" "[D", .methodLink RX2 73 yX2_hasWood, .instanceMethod yX2_hasWood, .selects RX2 yX2_hasWood yX2_hasWood, .initialized RX2, .code yX2_hasWood cX2_hasWood 2 (some .boolean), .methodLink RX2 53 yX2_massOf, .instanceMethod yX2_massOf, .selects RX2 yX2_massOf yX2_massOf, .code yX2_massOf cX2_massOf 2 (some .double), .fieldLink RX2 42 "PlateModes$Plate" "density" "D"] ++ wsX20)
def wsX1_productOf : List Cond := .code yX1_productOf cX1_productOf 3 (some .double) :: ([.fieldLink RX1 9 "PlateModes$ModeSet" "plate" "LPlateModes$Plate;", .fieldLink RX1 23 "PlateModes$ModeSet" "shapes" "[[D", .methodLink RX1 40 yX2_productOver, .instanceMethod yX2_productOver, .selects RX2 yX2_productOver yX2_productOver, .initialized RX2, .code yX2_productOver cX2_productOver 6 (some .double), .fieldLink RX2 18 "PlateModes$Plate" "thick" "[D", .methodLink RX2 73 yX2_hasWood, .instanceMethod yX2_hasWood, .selects RX2 yX2_hasWood yX2_hasWood, .code yX2_hasWood cX2_hasWood 2 (some .boolean), .methodLink RX2 53 yX2_massOf, .instanceMethod yX2_massOf, .selects RX2 yX2_massOf yX2_massOf, .code yX2_massOf cX2_massOf 2 (some .double), .fieldLink RX2 42 "PlateModes$Plate" "density" "D"] ++ wsX10 ++ wsX20)
def wsX2_cellAt : List Cond := .code yX2_cellAt cX2_cellAt 3 (some .int) :: ([.fieldLink RX2 9 "PlateModes$Plate" "width" "I"] ++ wsX20)
def wsX2_springOf : List Cond := .code yX2_springOf cX2_springOf 7 (some .double) :: ([.fieldLink RX2 18 "PlateModes$Plate" "thick" "[D", .constantDouble RX2 77 (4611686018427387904), .methodLink RX2 73 yX2_hasWood, .instanceMethod yX2_hasWood, .selects RX2 yX2_hasWood yX2_hasWood, .initialized RX2, .code yX2_hasWood cX2_hasWood 2 (some .boolean)] ++ wsX20)
def wsX2_stiffenBy_r1 : List Cond := [Cond.fieldLink RX2 31 "PlateModes$Plate" "braces" "LPlateModes$Braces;", Cond.fieldLink RX2 22 "PlateModes$Plate" "toRight" "[D", Cond.fieldLink RX2 25 "PlateModes$Plate" "toBelow" "[D", Cond.methodLink RX2 79 yX0_paceOf, Cond.instanceMethod yX0_paceOf, Cond.selects RX0 yX0_paceOf yX0_paceOf, Cond.initialized RX0, Cond.code yX0_paceOf cX0_paceOf 2 (some .int), Cond.fieldLink RX0 9 "PlateModes$Braces" "paces" "[I", Cond.methodLink RX2 83 yX0_heightOf, Cond.instanceMethod yX0_heightOf, Cond.selects RX0 yX0_heightOf yX0_heightOf, Cond.code yX0_heightOf cX0_heightOf 2 (some .double), Cond.fieldLink RX0 21 "PlateModes$Braces" "heights" "[D", Cond.methodLink RX2 86 yX0_lastOf, Cond.instanceMethod yX0_lastOf, Cond.selects RX0 yX0_lastOf yX0_lastOf, Cond.code yX0_lastOf cX0_lastOf 2 (some .int), Cond.fieldLink RX0 18 "PlateModes$Braces" "lasts" "[I", Cond.methodLink RX2 89 yX0_firstOf, Cond.instanceMethod yX0_firstOf, Cond.selects RX0 yX0_firstOf yX0_firstOf, Cond.code yX0_firstOf cX0_firstOf 2 (some .int), Cond.fieldLink RX0 15 "PlateModes$Braces" "firsts" "[I"]
def wsX2_stiffenBy_r2 : List Cond := [Cond.methodLink RX2 73 yX2_hasWood, Cond.instanceMethod yX2_hasWood, Cond.selects RX2 yX2_hasWood yX2_hasWood, Cond.initialized RX2, Cond.code yX2_hasWood cX2_hasWood 2 (some .boolean), Cond.fieldLink RX2 18 "PlateModes$Plate" "thick" "[D"]
def wsX2_stiffenBy : List Cond := .code yX2_stiffenBy cX2_stiffenBy 9 none :: ((wsX2_stiffenBy_r1 ++ wsX2_stiffenBy_r2) ++ wsX20 ++ wsX00)
def wsX2_bindSprings_r1 : List Cond := [Cond.fieldLink RX2 15 "PlateModes$Plate" "height" "I", Cond.fieldLink RX2 9 "PlateModes$Plate" "width" "I", Cond.fieldLink RX2 22 "PlateModes$Plate" "toRight" "[D", Cond.fieldLink RX2 35 "PlateModes$Plate" "along" "D", Cond.fieldLink RX2 25 "PlateModes$Plate" "toBelow" "[D", Cond.fieldLink RX2 39 "PlateModes$Plate" "across" "D", Cond.fieldLink RX2 31 "PlateModes$Plate" "braces" "LPlateModes$Braces;", Cond.methodLink RX2 57 yX2_cellAt, Cond.instanceMethod yX2_cellAt, Cond.selects RX2 yX2_cellAt yX2_cellAt, Cond.initialized RX2, Cond.code yX2_cellAt cX2_cellAt 3 (some .int), Cond.methodLink RX2 61 yX2_springOf, Cond.instanceMethod yX2_springOf, Cond.selects RX2 yX2_springOf yX2_springOf, Cond.code yX2_springOf cX2_springOf 7 (some .double), Cond.fieldLink RX2 18 "PlateModes$Plate" "thick" "[D", Cond.constantDouble RX2 77 (4611686018427387904), Cond.methodLink RX2 73 yX2_hasWood, Cond.instanceMethod yX2_hasWood, Cond.selects RX2 yX2_hasWood yX2_hasWood, Cond.code yX2_hasWood cX2_hasWood 2 (some .boolean), Cond.methodLink RX2 65 yX0_count, Cond.instanceMethod yX0_count]
def wsX2_bindSprings_r2 : List Cond := [Cond.selects RX0 yX0_count yX0_count, Cond.initialized RX0, Cond.code yX0_count cX0_count 1 (some .int), Cond.fieldLink RX0 25 "PlateModes$Braces" "count" "I", Cond.methodLink RX2 69 yX2_stiffenBy, Cond.instanceMethod yX2_stiffenBy, Cond.selects RX2 yX2_stiffenBy yX2_stiffenBy, Cond.code yX2_stiffenBy cX2_stiffenBy 9 none, Cond.methodLink RX2 79 yX0_paceOf, Cond.instanceMethod yX0_paceOf, Cond.selects RX0 yX0_paceOf yX0_paceOf, Cond.code yX0_paceOf cX0_paceOf 2 (some .int), Cond.fieldLink RX0 9 "PlateModes$Braces" "paces" "[I", Cond.methodLink RX2 83 yX0_heightOf, Cond.instanceMethod yX0_heightOf, Cond.selects RX0 yX0_heightOf yX0_heightOf, Cond.code yX0_heightOf cX0_heightOf 2 (some .double), Cond.fieldLink RX0 21 "PlateModes$Braces" "heights" "[D", Cond.methodLink RX2 86 yX0_lastOf, Cond.instanceMethod yX0_lastOf, Cond.selects RX0 yX0_lastOf yX0_lastOf, Cond.code yX0_lastOf cX0_lastOf 2 (some .int), Cond.fieldLink RX0 18 "PlateModes$Braces" "lasts" "[I", Cond.methodLink RX2 89 yX0_firstOf]
def wsX2_bindSprings_r3 : List Cond := [Cond.instanceMethod yX0_firstOf, Cond.selects RX0 yX0_firstOf yX0_firstOf, Cond.code yX0_firstOf cX0_firstOf 2 (some .int), Cond.fieldLink RX0 15 "PlateModes$Braces" "firsts" "[I"]
def wsX2_bindSprings : List Cond := .code yX2_bindSprings cX2_bindSprings 4 none :: ((wsX2_bindSprings_r1 ++ (wsX2_bindSprings_r2 ++ wsX2_bindSprings_r3)) ++ wsX20 ++ wsX00)
def wsX2_beginShape : List Cond := .code yX2_beginShape cX2_beginShape 8 none :: ([.fieldLink RX2 15 "PlateModes$Plate" "height" "I", .fieldLink RX2 9 "PlateModes$Plate" "width" "I", .constantDouble RX2 96 (4620693217682128896), .methodLink RX2 57 yX2_cellAt, .instanceMethod yX2_cellAt, .selects RX2 yX2_cellAt yX2_cellAt, .initialized RX2, .code yX2_cellAt cX2_cellAt 3 (some .int), .methodLink RX2 73 yX2_hasWood, .instanceMethod yX2_hasWood, .selects RX2 yX2_hasWood yX2_hasWood, .code yX2_hasWood cX2_hasWood 2 (some .boolean), .fieldLink RX2 18 "PlateModes$Plate" "thick" "[D"] ++ wsX20)
def wsX4_ground : List Cond := .code yX4_ground cX4_ground 0 (some .double) :: ([.constantDouble RX4 198 (4589168020290535424)])
def wsX2_forceAt : List Cond := .code yX2_forceAt cX2_forceAt 9 (some .double) :: ([.fieldLink RX2 9 "PlateModes$Plate" "width" "I", .fieldLink RX2 22 "PlateModes$Plate" "toRight" "[D", .fieldLink RX2 15 "PlateModes$Plate" "height" "I", .fieldLink RX2 25 "PlateModes$Plate" "toBelow" "[D", .methodLink RX2 57 yX2_cellAt, .instanceMethod yX2_cellAt, .selects RX2 yX2_cellAt yX2_cellAt, .initialized RX2, .code yX2_cellAt cX2_cellAt 3 (some .int), .static yX4_ground, .initialized RX4, .code yX4_ground cX4_ground 0 (some .double), .constantDouble RX4 198 (4589168020290535424)] ++ wsX20)
def wsX2_heldAt : List Cond := .code yX2_heldAt cX2_heldAt 6 (some .double) :: ([.fieldLink RX2 22 "PlateModes$Plate" "toRight" "[D", .fieldLink RX2 25 "PlateModes$Plate" "toBelow" "[D", .fieldLink RX2 9 "PlateModes$Plate" "width" "I", .methodLink RX2 57 yX2_cellAt, .instanceMethod yX2_cellAt, .selects RX2 yX2_cellAt yX2_cellAt, .initialized RX2, .code yX2_cellAt cX2_cellAt 3 (some .int), .static yX4_ground, .initialized RX4, .code yX4_ground cX4_ground 0 (some .double), .constantDouble RX4 198 (4589168020290535424)] ++ wsX20)
def wsX2_relax_r1 : List Cond := [Cond.fieldLink RX2 15 "PlateModes$Plate" "height" "I", Cond.fieldLink RX2 9 "PlateModes$Plate" "width" "I", Cond.constantDouble RX2 98 (4602678819172646912), Cond.methodLink RX2 57 yX2_cellAt, Cond.instanceMethod yX2_cellAt, Cond.selects RX2 yX2_cellAt yX2_cellAt, Cond.initialized RX2, Cond.code yX2_cellAt cX2_cellAt 3 (some .int), Cond.methodLink RX2 73 yX2_hasWood, Cond.instanceMethod yX2_hasWood, Cond.selects RX2 yX2_hasWood yX2_hasWood, Cond.code yX2_hasWood cX2_hasWood 2 (some .boolean), Cond.fieldLink RX2 18 "PlateModes$Plate" "thick" "[D", Cond.methodLink RX2 100 yX2_forceAt, Cond.instanceMethod yX2_forceAt, Cond.selects RX2 yX2_forceAt yX2_forceAt, Cond.code yX2_forceAt cX2_forceAt 9 (some .double), Cond.fieldLink RX2 22 "PlateModes$Plate" "toRight" "[D", Cond.fieldLink RX2 25 "PlateModes$Plate" "toBelow" "[D", Cond.static yX4_ground, Cond.initialized RX4, Cond.code yX4_ground cX4_ground 0 (some .double), Cond.constantDouble RX4 198 (4589168020290535424), Cond.methodLink RX2 104 yX2_heldAt]
def wsX2_relax_r2 : List Cond := [Cond.instanceMethod yX2_heldAt, Cond.selects RX2 yX2_heldAt yX2_heldAt, Cond.code yX2_heldAt cX2_heldAt 6 (some .double)]
def wsX2_relax : List Cond := .code yX2_relax cX2_relax 5 none :: ((wsX2_relax_r1 ++ wsX2_relax_r2) ++ wsX20)
def wsX1_takeOut : List Cond := .code yX1_takeOut cX1_takeOut 6 none :: ([.fieldLink RX1 9 "PlateModes$ModeSet" "plate" "LPlateModes$Plate;", .methodLink RX1 40 yX2_productOver, .instanceMethod yX2_productOver, .selects RX2 yX2_productOver yX2_productOver, .initialized RX2, .code yX2_productOver cX2_productOver 6 (some .double), .fieldLink RX2 18 "PlateModes$Plate" "thick" "[D", .methodLink RX2 73 yX2_hasWood, .instanceMethod yX2_hasWood, .selects RX2 yX2_hasWood yX2_hasWood, .code yX2_hasWood cX2_hasWood 2 (some .boolean), .methodLink RX2 53 yX2_massOf, .instanceMethod yX2_massOf, .selects RX2 yX2_massOf yX2_massOf, .code yX2_massOf cX2_massOf 2 (some .double), .fieldLink RX2 42 "PlateModes$Plate" "density" "D"] ++ wsX10 ++ wsX20)
def wsX4_root : List Cond := .code yX4_root cX4_root 5 (some .double) :: ([.constantDouble RX4 143 (4611686018427387904)])
def wsX1_settle_r1 : List Cond := [Cond.fieldLink RX1 23 "PlateModes$ModeSet" "shapes" "[[D", Cond.fieldLink RX1 9 "PlateModes$ModeSet" "plate" "LPlateModes$Plate;", Cond.methodLink RX1 55 yX2_beginShape, Cond.instanceMethod yX2_beginShape, Cond.selects RX2 yX2_beginShape yX2_beginShape, Cond.initialized RX2, Cond.code yX2_beginShape cX2_beginShape 8 none, Cond.fieldLink RX2 15 "PlateModes$Plate" "height" "I", Cond.fieldLink RX2 9 "PlateModes$Plate" "width" "I", Cond.constantDouble RX2 96 (4620693217682128896), Cond.methodLink RX2 57 yX2_cellAt, Cond.instanceMethod yX2_cellAt, Cond.selects RX2 yX2_cellAt yX2_cellAt, Cond.code yX2_cellAt cX2_cellAt 3 (some .int), Cond.methodLink RX2 73 yX2_hasWood, Cond.instanceMethod yX2_hasWood, Cond.selects RX2 yX2_hasWood yX2_hasWood, Cond.code yX2_hasWood cX2_hasWood 2 (some .boolean), Cond.fieldLink RX2 18 "PlateModes$Plate" "thick" "[D", Cond.methodLink RX1 59 yX2_relax, Cond.instanceMethod yX2_relax, Cond.selects RX2 yX2_relax yX2_relax, Cond.code yX2_relax cX2_relax 5 none, Cond.constantDouble RX2 98 (4602678819172646912)]
def wsX1_settle_r2 : List Cond := [Cond.methodLink RX2 100 yX2_forceAt, Cond.instanceMethod yX2_forceAt, Cond.selects RX2 yX2_forceAt yX2_forceAt, Cond.code yX2_forceAt cX2_forceAt 9 (some .double), Cond.fieldLink RX2 22 "PlateModes$Plate" "toRight" "[D", Cond.fieldLink RX2 25 "PlateModes$Plate" "toBelow" "[D", Cond.static yX4_ground, Cond.initialized RX4, Cond.code yX4_ground cX4_ground 0 (some .double), Cond.constantDouble RX4 198 (4589168020290535424), Cond.methodLink RX2 104 yX2_heldAt, Cond.instanceMethod yX2_heldAt, Cond.selects RX2 yX2_heldAt yX2_heldAt, Cond.code yX2_heldAt cX2_heldAt 6 (some .double), Cond.methodLink RX1 63 yX1_takeOut, Cond.instanceMethod yX1_takeOut, Cond.selects RX1 yX1_takeOut yX1_takeOut, Cond.initialized RX1, Cond.code yX1_takeOut cX1_takeOut 6 none, Cond.methodLink RX1 40 yX2_productOver, Cond.instanceMethod yX2_productOver, Cond.selects RX2 yX2_productOver yX2_productOver, Cond.code yX2_productOver cX2_productOver 6 (some .double), Cond.methodLink RX2 53 yX2_massOf]
def wsX1_settle_r3 : List Cond := [Cond.instanceMethod yX2_massOf, Cond.selects RX2 yX2_massOf yX2_massOf, Cond.code yX2_massOf cX2_massOf 2 (some .double), Cond.fieldLink RX2 42 "PlateModes$Plate" "density" "D", Cond.static yX4_root, Cond.code yX4_root cX4_root 5 (some .double), Cond.constantDouble RX4 143 (4611686018427387904)]
def wsX1_settle : List Cond := .code yX1_settle cX1_settle 7 (some .boolean) :: ((wsX1_settle_r1 ++ (wsX1_settle_r2 ++ wsX1_settle_r3)) ++ wsX10 ++ wsX20)
def wsX2_squareOver : List Cond := .code yX2_squareOver cX2_squareOver 7 (some .double) :: ([.fieldLink RX2 15 "PlateModes$Plate" "height" "I", .fieldLink RX2 9 "PlateModes$Plate" "width" "I", .methodLink RX2 57 yX2_cellAt, .instanceMethod yX2_cellAt, .selects RX2 yX2_cellAt yX2_cellAt, .initialized RX2, .code yX2_cellAt cX2_cellAt 3 (some .int), .methodLink RX2 73 yX2_hasWood, .instanceMethod yX2_hasWood, .selects RX2 yX2_hasWood yX2_hasWood, .code yX2_hasWood cX2_hasWood 2 (some .boolean), .fieldLink RX2 18 "PlateModes$Plate" "thick" "[D", .methodLink RX2 100 yX2_forceAt, .instanceMethod yX2_forceAt, .selects RX2 yX2_forceAt yX2_forceAt, .code yX2_forceAt cX2_forceAt 9 (some .double), .fieldLink RX2 22 "PlateModes$Plate" "toRight" "[D", .fieldLink RX2 25 "PlateModes$Plate" "toBelow" "[D", .static yX4_ground, .initialized RX4, .code yX4_ground cX4_ground 0 (some .double), .constantDouble RX4 198 (4589168020290535424)] ++ wsX20)
def wsX2_residueOver_r1 : List Cond := [Cond.fieldLink RX2 15 "PlateModes$Plate" "height" "I", Cond.fieldLink RX2 9 "PlateModes$Plate" "width" "I", Cond.methodLink RX2 57 yX2_cellAt, Cond.instanceMethod yX2_cellAt, Cond.selects RX2 yX2_cellAt yX2_cellAt, Cond.initialized RX2, Cond.code yX2_cellAt cX2_cellAt 3 (some .int), Cond.methodLink RX2 73 yX2_hasWood, Cond.instanceMethod yX2_hasWood, Cond.selects RX2 yX2_hasWood yX2_hasWood, Cond.code yX2_hasWood cX2_hasWood 2 (some .boolean), Cond.fieldLink RX2 18 "PlateModes$Plate" "thick" "[D", Cond.methodLink RX2 100 yX2_forceAt, Cond.instanceMethod yX2_forceAt, Cond.selects RX2 yX2_forceAt yX2_forceAt, Cond.code yX2_forceAt cX2_forceAt 9 (some .double), Cond.fieldLink RX2 22 "PlateModes$Plate" "toRight" "[D", Cond.fieldLink RX2 25 "PlateModes$Plate" "toBelow" "[D", Cond.static yX4_ground, Cond.initialized RX4, Cond.code yX4_ground cX4_ground 0 (some .double), Cond.constantDouble RX4 198 (4589168020290535424), Cond.methodLink RX2 53 yX2_massOf, Cond.instanceMethod yX2_massOf]
def wsX2_residueOver_r2 : List Cond := [Cond.selects RX2 yX2_massOf yX2_massOf, Cond.code yX2_massOf cX2_massOf 2 (some .double), Cond.fieldLink RX2 42 "PlateModes$Plate" "density" "D"]
def wsX2_residueOver : List Cond := .code yX2_residueOver cX2_residueOver 13 (some .double) :: ((wsX2_residueOver_r1 ++ wsX2_residueOver_r2) ++ wsX20)
def wsX2_totalOver : List Cond := .code yX2_totalOver cX2_totalOver 5 (some .double) :: ([.fieldLink RX2 18 "PlateModes$Plate" "thick" "[D", .methodLink RX2 73 yX2_hasWood, .instanceMethod yX2_hasWood, .selects RX2 yX2_hasWood yX2_hasWood, .initialized RX2, .code yX2_hasWood cX2_hasWood 2 (some .boolean)] ++ wsX20)
def wsX1_measure_r1 : List Cond := [Cond.fieldLink RX1 23 "PlateModes$ModeSet" "shapes" "[[D", Cond.fieldLink RX1 26 "PlateModes$ModeSet" "squares" "[D", Cond.fieldLink RX1 9 "PlateModes$ModeSet" "plate" "LPlateModes$Plate;", Cond.fieldLink RX1 30 "PlateModes$ModeSet" "residues" "[D", Cond.fieldLink RX1 33 "PlateModes$ModeSet" "totals" "[D", Cond.methodLink RX1 71 yX2_squareOver, Cond.instanceMethod yX2_squareOver, Cond.selects RX2 yX2_squareOver yX2_squareOver, Cond.initialized RX2, Cond.code yX2_squareOver cX2_squareOver 7 (some .double), Cond.fieldLink RX2 15 "PlateModes$Plate" "height" "I", Cond.fieldLink RX2 9 "PlateModes$Plate" "width" "I", Cond.methodLink RX2 57 yX2_cellAt, Cond.instanceMethod yX2_cellAt, Cond.selects RX2 yX2_cellAt yX2_cellAt, Cond.code yX2_cellAt cX2_cellAt 3 (some .int), Cond.methodLink RX2 73 yX2_hasWood, Cond.instanceMethod yX2_hasWood, Cond.selects RX2 yX2_hasWood yX2_hasWood, Cond.code yX2_hasWood cX2_hasWood 2 (some .boolean), Cond.fieldLink RX2 18 "PlateModes$Plate" "thick" "[D", Cond.methodLink RX2 100 yX2_forceAt, Cond.instanceMethod yX2_forceAt, Cond.selects RX2 yX2_forceAt yX2_forceAt]
def wsX1_measure_r2 : List Cond := [Cond.code yX2_forceAt cX2_forceAt 9 (some .double), Cond.fieldLink RX2 22 "PlateModes$Plate" "toRight" "[D", Cond.fieldLink RX2 25 "PlateModes$Plate" "toBelow" "[D", Cond.static yX4_ground, Cond.initialized RX4, Cond.code yX4_ground cX4_ground 0 (some .double), Cond.constantDouble RX4 198 (4589168020290535424), Cond.methodLink RX1 75 yX2_residueOver, Cond.instanceMethod yX2_residueOver, Cond.selects RX2 yX2_residueOver yX2_residueOver, Cond.code yX2_residueOver cX2_residueOver 13 (some .double), Cond.methodLink RX2 53 yX2_massOf, Cond.instanceMethod yX2_massOf, Cond.selects RX2 yX2_massOf yX2_massOf, Cond.code yX2_massOf cX2_massOf 2 (some .double), Cond.fieldLink RX2 42 "PlateModes$Plate" "density" "D", Cond.methodLink RX1 79 yX2_totalOver, Cond.instanceMethod yX2_totalOver, Cond.selects RX2 yX2_totalOver yX2_totalOver, Cond.code yX2_totalOver cX2_totalOver 5 (some .double)]
def wsX1_measure : List Cond := .code yX1_measure cX1_measure 3 none :: ((wsX1_measure_r1 ++ wsX1_measure_r2) ++ wsX10 ++ wsX20)
def wsX1_make_r1 : List Cond := [Cond.fieldLink RX1 9 "PlateModes$ModeSet" "plate" "LPlateModes$Plate;", Cond.fieldLink RX1 36 "PlateModes$ModeSet" "count" "I", Cond.methodLink RX1 44 yX2_bindSprings, Cond.instanceMethod yX2_bindSprings, Cond.selects RX2 yX2_bindSprings yX2_bindSprings, Cond.initialized RX2, Cond.code yX2_bindSprings cX2_bindSprings 4 none, Cond.fieldLink RX2 15 "PlateModes$Plate" "height" "I", Cond.fieldLink RX2 9 "PlateModes$Plate" "width" "I", Cond.fieldLink RX2 22 "PlateModes$Plate" "toRight" "[D", Cond.fieldLink RX2 35 "PlateModes$Plate" "along" "D", Cond.fieldLink RX2 25 "PlateModes$Plate" "toBelow" "[D", Cond.fieldLink RX2 39 "PlateModes$Plate" "across" "D", Cond.fieldLink RX2 31 "PlateModes$Plate" "braces" "LPlateModes$Braces;", Cond.methodLink RX2 57 yX2_cellAt, Cond.instanceMethod yX2_cellAt, Cond.selects RX2 yX2_cellAt yX2_cellAt, Cond.code yX2_cellAt cX2_cellAt 3 (some .int), Cond.methodLink RX2 61 yX2_springOf, Cond.instanceMethod yX2_springOf, Cond.selects RX2 yX2_springOf yX2_springOf, Cond.code yX2_springOf cX2_springOf 7 (some .double), Cond.fieldLink RX2 18 "PlateModes$Plate" "thick" "[D", Cond.constantDouble RX2 77 (4611686018427387904)]
def wsX1_make_r2 : List Cond := [Cond.methodLink RX2 73 yX2_hasWood, Cond.instanceMethod yX2_hasWood, Cond.selects RX2 yX2_hasWood yX2_hasWood, Cond.code yX2_hasWood cX2_hasWood 2 (some .boolean), Cond.methodLink RX2 65 yX0_count, Cond.instanceMethod yX0_count, Cond.selects RX0 yX0_count yX0_count, Cond.initialized RX0, Cond.code yX0_count cX0_count 1 (some .int), Cond.fieldLink RX0 25 "PlateModes$Braces" "count" "I", Cond.methodLink RX2 69 yX2_stiffenBy, Cond.instanceMethod yX2_stiffenBy, Cond.selects RX2 yX2_stiffenBy yX2_stiffenBy, Cond.code yX2_stiffenBy cX2_stiffenBy 9 none, Cond.methodLink RX2 79 yX0_paceOf, Cond.instanceMethod yX0_paceOf, Cond.selects RX0 yX0_paceOf yX0_paceOf, Cond.code yX0_paceOf cX0_paceOf 2 (some .int), Cond.fieldLink RX0 9 "PlateModes$Braces" "paces" "[I", Cond.methodLink RX2 83 yX0_heightOf, Cond.instanceMethod yX0_heightOf, Cond.selects RX0 yX0_heightOf yX0_heightOf, Cond.code yX0_heightOf cX0_heightOf 2 (some .double), Cond.fieldLink RX0 21 "PlateModes$Braces" "heights" "[D"]
def wsX1_make_r3 : List Cond := [Cond.methodLink RX2 86 yX0_lastOf, Cond.instanceMethod yX0_lastOf, Cond.selects RX0 yX0_lastOf yX0_lastOf, Cond.code yX0_lastOf cX0_lastOf 2 (some .int), Cond.fieldLink RX0 18 "PlateModes$Braces" "lasts" "[I", Cond.methodLink RX2 89 yX0_firstOf, Cond.instanceMethod yX0_firstOf, Cond.selects RX0 yX0_firstOf yX0_firstOf, Cond.code yX0_firstOf cX0_firstOf 2 (some .int), Cond.fieldLink RX0 15 "PlateModes$Braces" "firsts" "[I", Cond.methodLink RX1 47 yX1_settle, Cond.instanceMethod yX1_settle, Cond.selects RX1 yX1_settle yX1_settle, Cond.initialized RX1, Cond.code yX1_settle cX1_settle 7 (some .boolean), Cond.fieldLink RX1 23 "PlateModes$ModeSet" "shapes" "[[D", Cond.methodLink RX1 55 yX2_beginShape, Cond.instanceMethod yX2_beginShape, Cond.selects RX2 yX2_beginShape yX2_beginShape, Cond.code yX2_beginShape cX2_beginShape 8 none, Cond.constantDouble RX2 96 (4620693217682128896), Cond.methodLink RX1 59 yX2_relax, Cond.instanceMethod yX2_relax, Cond.selects RX2 yX2_relax yX2_relax]
def wsX1_make_r4 : List Cond := [Cond.code yX2_relax cX2_relax 5 none, Cond.constantDouble RX2 98 (4602678819172646912), Cond.methodLink RX2 100 yX2_forceAt, Cond.instanceMethod yX2_forceAt, Cond.selects RX2 yX2_forceAt yX2_forceAt, Cond.code yX2_forceAt cX2_forceAt 9 (some .double), Cond.static yX4_ground, Cond.initialized RX4, Cond.code yX4_ground cX4_ground 0 (some .double), Cond.constantDouble RX4 198 (4589168020290535424), Cond.methodLink RX2 104 yX2_heldAt, Cond.instanceMethod yX2_heldAt, Cond.selects RX2 yX2_heldAt yX2_heldAt, Cond.code yX2_heldAt cX2_heldAt 6 (some .double), Cond.methodLink RX1 63 yX1_takeOut, Cond.instanceMethod yX1_takeOut, Cond.selects RX1 yX1_takeOut yX1_takeOut, Cond.code yX1_takeOut cX1_takeOut 6 none, Cond.methodLink RX1 40 yX2_productOver, Cond.instanceMethod yX2_productOver, Cond.selects RX2 yX2_productOver yX2_productOver, Cond.code yX2_productOver cX2_productOver 6 (some .double), Cond.methodLink RX2 53 yX2_massOf, Cond.instanceMethod yX2_massOf]
def wsX1_make_r5 : List Cond := [Cond.selects RX2 yX2_massOf yX2_massOf, Cond.code yX2_massOf cX2_massOf 2 (some .double), Cond.fieldLink RX2 42 "PlateModes$Plate" "density" "D", Cond.static yX4_root, Cond.code yX4_root cX4_root 5 (some .double), Cond.constantDouble RX4 143 (4611686018427387904), Cond.methodLink RX1 51 yX1_measure, Cond.instanceMethod yX1_measure, Cond.selects RX1 yX1_measure yX1_measure, Cond.code yX1_measure cX1_measure 3 none, Cond.fieldLink RX1 26 "PlateModes$ModeSet" "squares" "[D", Cond.fieldLink RX1 30 "PlateModes$ModeSet" "residues" "[D", Cond.fieldLink RX1 33 "PlateModes$ModeSet" "totals" "[D", Cond.methodLink RX1 71 yX2_squareOver, Cond.instanceMethod yX2_squareOver, Cond.selects RX2 yX2_squareOver yX2_squareOver, Cond.code yX2_squareOver cX2_squareOver 7 (some .double), Cond.methodLink RX1 75 yX2_residueOver, Cond.instanceMethod yX2_residueOver, Cond.selects RX2 yX2_residueOver yX2_residueOver, Cond.code yX2_residueOver cX2_residueOver 13 (some .double), Cond.methodLink RX1 79 yX2_totalOver, Cond.instanceMethod yX2_totalOver, Cond.selects RX2 yX2_totalOver yX2_totalOver]
def wsX1_make_r6 : List Cond := [Cond.code yX2_totalOver cX2_totalOver 5 (some .double)]
def wsX1_make : List Cond := .code yX1_make cX1_make 3 (some .int) :: ((wsX1_make_r1 ++ (wsX1_make_r2 ++ (wsX1_make_r3 ++ (wsX1_make_r4 ++ (wsX1_make_r5 ++ wsX1_make_r6))))) ++ wsX10 ++ wsX20 ++ wsX00)
def wsX2_init_r1 : List Cond := [Cond.methodLink RX2 3 objectInit, Cond.instanceMethod objectInit, Cond.code objectInit ⟨#[0xb1]⟩ 1 none, Cond.fieldLink RX2 9 "PlateModes$Plate" "width" "I", Cond.fieldLink RX2 15 "PlateModes$Plate" "height" "I", Cond.arrayClass .double, Cond.fieldLink RX2 18 "PlateModes$Plate" "thick" "[D", Cond.fieldLink RX2 22 "PlateModes$Plate" "toRight" "[D", Cond.fieldLink RX2 25 "PlateModes$Plate" "toBelow" "[D", Cond.classLink RX2 28 RX0, Cond.instantiable RX0 5, Cond.initialized RX0, Cond.fieldLink RX2 31 "PlateModes$Plate" "braces" "LPlateModes$Braces;", Cond.fieldLink RX2 35 "PlateModes$Plate" "along" "D", Cond.fieldLink RX2 39 "PlateModes$Plate" "across" "D", Cond.fieldLink RX2 42 "PlateModes$Plate" "density" "D", Cond.methodLink RX2 30 yX0_init, Cond.instanceMethod yX0_init, Cond.code yX0_init cX0_init 1 none, Cond.methodLink RX0 3 objectInit, Cond.arrayClass .int, Cond.fieldLink RX0 9 "PlateModes$Braces" "paces" "[I", Cond.fieldLink RX0 15 "PlateModes$Braces" "firsts" "[I", Cond.fieldLink RX0 18 "PlateModes$Braces" "lasts" "[I"]
def wsX2_init_r2 : List Cond := [Cond.fieldLink RX0 21 "PlateModes$Braces" "heights" "[D"]
def wsX2_init : List Cond := .code yX2_init cX2_init 4 none :: ((wsX2_init_r1 ++ wsX2_init_r2) ++ wsX20 ++ wsX00)
def wsX2_hasCell : List Cond := .code yX2_hasCell cX2_hasCell 3 (some .boolean) :: ([.fieldLink RX2 9 "PlateModes$Plate" "width" "I", .fieldLink RX2 15 "PlateModes$Plate" "height" "I"] ++ wsX20)
def wsX2_thicknessOf : List Cond := .code yX2_thicknessOf cX2_thicknessOf 2 (some .double) :: ([.fieldLink RX2 18 "PlateModes$Plate" "thick" "[D"] ++ wsX20)
def wsX2_setThickness : List Cond := .code yX2_setThickness cX2_setThickness 4 none :: ([.fieldLink RX2 18 "PlateModes$Plate" "thick" "[D"] ++ wsX20)
def wsX2_setRates : List Cond := .code yX2_setRates cX2_setRates 7 none :: ([.fieldLink RX2 35 "PlateModes$Plate" "along" "D", .fieldLink RX2 39 "PlateModes$Plate" "across" "D", .fieldLink RX2 42 "PlateModes$Plate" "density" "D"] ++ wsX20)
def wsX2_bracesFull : List Cond := .code yX2_bracesFull cX2_bracesFull 1 (some .boolean) :: ([.fieldLink RX2 31 "PlateModes$Plate" "braces" "LPlateModes$Braces;", .methodLink RX2 45 yX0_full, .instanceMethod yX0_full, .selects RX0 yX0_full yX0_full, .initialized RX0, .code yX0_full cX0_full 1 (some .boolean), .fieldLink RX0 25 "PlateModes$Braces" "count" "I"] ++ wsX20 ++ wsX00)
def wsX2_addBrace : List Cond := .code yX2_addBrace cX2_addBrace 6 (some .int) :: ([.fieldLink RX2 31 "PlateModes$Plate" "braces" "LPlateModes$Braces;", .fieldLink RX2 9 "PlateModes$Plate" "width" "I", .methodLink RX2 49 yX0_add, .instanceMethod yX0_add, .selects RX0 yX0_add yX0_add, .initialized RX0, .code yX0_add cX0_add 6 (some .int), .fieldLink RX0 9 "PlateModes$Braces" "paces" "[I", .fieldLink RX0 25 "PlateModes$Braces" "count" "I", .fieldLink RX0 15 "PlateModes$Braces" "firsts" "[I", .fieldLink RX0 18 "PlateModes$Braces" "lasts" "[I", .fieldLink RX0 21 "PlateModes$Braces" "heights" "[D", .methodLink RX0 29 yX0_full, .instanceMethod yX0_full, .selects RX0 yX0_full yX0_full, .code yX0_full cX0_full 1 (some .boolean)] ++ wsX20 ++ wsX00)
def wsX2_massOfAll : List Cond := .code yX2_massOfAll cX2_massOfAll 4 (some .double) :: ([.fieldLink RX2 18 "PlateModes$Plate" "thick" "[D", .methodLink RX2 53 yX2_massOf, .instanceMethod yX2_massOf, .selects RX2 yX2_massOf yX2_massOf, .initialized RX2, .code yX2_massOf cX2_massOf 2 (some .double), .fieldLink RX2 42 "PlateModes$Plate" "density" "D"] ++ wsX20)
def wsX2_mirroredAlongX : List Cond := .code yX2_mirroredAlongX cX2_mirroredAlongX 3 (some .boolean) :: ([.fieldLink RX2 15 "PlateModes$Plate" "height" "I", .fieldLink RX2 9 "PlateModes$Plate" "width" "I", .fieldLink RX2 18 "PlateModes$Plate" "thick" "[D", .methodLink RX2 57 yX2_cellAt, .instanceMethod yX2_cellAt, .selects RX2 yX2_cellAt yX2_cellAt, .initialized RX2, .code yX2_cellAt cX2_cellAt 3 (some .int)] ++ wsX20)
def wsX2_mirroredAlongY : List Cond := .code yX2_mirroredAlongY cX2_mirroredAlongY 3 (some .boolean) :: ([.fieldLink RX2 15 "PlateModes$Plate" "height" "I", .fieldLink RX2 9 "PlateModes$Plate" "width" "I", .fieldLink RX2 18 "PlateModes$Plate" "thick" "[D", .methodLink RX2 57 yX2_cellAt, .instanceMethod yX2_cellAt, .selects RX2 yX2_cellAt yX2_cellAt, .initialized RX2, .code yX2_cellAt cX2_cellAt 3 (some .int)] ++ wsX20)
def wsX3_init : List Cond := .code yX3_init cX3_init 1 none :: ([.methodLink RX3 3 objectInit, .instanceMethod objectInit, .code objectInit ⟨#[0xb1]⟩ 1 none, .arrayClass .int, .fieldLink RX3 9 "PlateModes$Wishes" "wanted" "[I", .arrayClass .double, .fieldLink RX3 15 "PlateModes$Wishes" "wishedSquares" "[D"] ++ wsX30)
def wsX3_full : List Cond := .code yX3_full cX3_full 1 (some .boolean) :: ([.fieldLink RX3 19 "PlateModes$Wishes" "count" "I"] ++ wsX30)
def wsX3_add : List Cond := .code yX3_add cX3_add 4 (some .int) :: ([.fieldLink RX3 9 "PlateModes$Wishes" "wanted" "[I", .fieldLink RX3 19 "PlateModes$Wishes" "count" "I", .fieldLink RX3 15 "PlateModes$Wishes" "wishedSquares" "[D", .methodLink RX3 23 yX3_full, .instanceMethod yX3_full, .selects RX3 yX3_full yX3_full, .initialized RX3, .code yX3_full cX3_full 1 (some .boolean)] ++ wsX30)
def wsX3_modesNeeded : List Cond := .code yX3_modesNeeded cX3_modesNeeded 3 (some .int) :: ([.fieldLink RX3 19 "PlateModes$Wishes" "count" "I", .fieldLink RX3 9 "PlateModes$Wishes" "wanted" "[I", .methodLink RX3 27 Lib.Math.max.name, .static Lib.Math.max.name, .initialized "java/lang/Math", .code Lib.Math.max.name Lib.Math.max.code 2 (some .int)] ++ wsX30)
def wsX3_missedBy : List Cond := .code yX3_missedBy cX3_missedBy 7 (some .double) :: ([.fieldLink RX3 19 "PlateModes$Wishes" "count" "I", .fieldLink RX3 9 "PlateModes$Wishes" "wanted" "[I", .fieldLink RX3 15 "PlateModes$Wishes" "wishedSquares" "[D", .methodLink RX3 33 yX1_squareOf, .instanceMethod yX1_squareOf, .selects RX1 yX1_squareOf yX1_squareOf, .initialized RX1, .code yX1_squareOf cX1_squareOf 2 (some .double), .fieldLink RX1 26 "PlateModes$ModeSet" "squares" "[D"] ++ wsX30 ++ wsX10)
def wsX4_nearestSide : List Cond := .code yX4_nearestSide cX4_nearestSide 1 (some .int) :: ([.methodLink RX4 86 Lib.Math.min.name, .static Lib.Math.min.name, .initialized "java/lang/Math", .code Lib.Math.min.name Lib.Math.min.code 2 (some .int), .methodLink RX4 91 Lib.Math.max.name, .static Lib.Math.max.name, .code Lib.Math.max.name Lib.Math.max.code 2 (some .int)])
def wsX4_init_r1 : List Cond := [Cond.methodLink RX4 1 objectInit, Cond.instanceMethod objectInit, Cond.code objectInit ⟨#[0xb1]⟩ 1 none, Cond.classLink RX4 7 RX2, Cond.instantiable RX2 9, Cond.initialized RX2, Cond.fieldLink RX4 18 "PlateModes" "plate" "LPlateModes$Plate;", Cond.classLink RX4 22 RX1, Cond.instantiable RX1 6, Cond.initialized RX1, Cond.fieldLink RX4 27 "PlateModes" "made" "LPlateModes$ModeSet;", Cond.fieldLink RX4 31 "PlateModes" "tried" "LPlateModes$ModeSet;", Cond.classLink RX4 34 RX3, Cond.instantiable RX3 3, Cond.initialized RX3, Cond.fieldLink RX4 37 "PlateModes" "wishes" "LPlateModes$Wishes;", Cond.methodLink RX4 9 yX4_nearestSide, Cond.static yX4_nearestSide, Cond.initialized RX4, Cond.code yX4_nearestSide cX4_nearestSide 1 (some .int), Cond.methodLink RX4 86 Lib.Math.min.name, Cond.static Lib.Math.min.name, Cond.initialized "java/lang/Math", Cond.code Lib.Math.min.name Lib.Math.min.code 2 (some .int)]
def wsX4_init_r2 : List Cond := [Cond.methodLink RX4 91 Lib.Math.max.name, Cond.static Lib.Math.max.name, Cond.code Lib.Math.max.name Lib.Math.max.code 2 (some .int), Cond.methodLink RX4 15 yX2_init, Cond.instanceMethod yX2_init, Cond.code yX2_init cX2_init 4 none, Cond.methodLink RX2 3 objectInit, Cond.fieldLink RX2 9 "PlateModes$Plate" "width" "I", Cond.fieldLink RX2 15 "PlateModes$Plate" "height" "I", Cond.arrayClass .double, Cond.fieldLink RX2 18 "PlateModes$Plate" "thick" "[D", Cond.fieldLink RX2 22 "PlateModes$Plate" "toRight" "[D", Cond.fieldLink RX2 25 "PlateModes$Plate" "toBelow" "[D", Cond.classLink RX2 28 RX0, Cond.instantiable RX0 5, Cond.initialized RX0, Cond.fieldLink RX2 31 "PlateModes$Plate" "braces" "LPlateModes$Braces;", Cond.fieldLink RX2 35 "PlateModes$Plate" "along" "D", Cond.fieldLink RX2 39 "PlateModes$Plate" "across" "D", Cond.fieldLink RX2 42 "PlateModes$Plate" "density" "D", Cond.methodLink RX2 30 yX0_init, Cond.instanceMethod yX0_init, Cond.code yX0_init cX0_init 1 none, Cond.methodLink RX0 3 objectInit]
def wsX4_init_r3 : List Cond := [Cond.arrayClass .int, Cond.fieldLink RX0 9 "PlateModes$Braces" "paces" "[I", Cond.fieldLink RX0 15 "PlateModes$Braces" "firsts" "[I", Cond.fieldLink RX0 18 "PlateModes$Braces" "lasts" "[I", Cond.fieldLink RX0 21 "PlateModes$Braces" "heights" "[D", Cond.methodLink RX4 24 yX1_init, Cond.instanceMethod yX1_init, Cond.code yX1_init cX1_init 2 none, Cond.methodLink RX1 3 objectInit, Cond.fieldLink RX1 9 "PlateModes$ModeSet" "plate" "LPlateModes$Plate;", Cond.classLink RX1 21 "[[D", Cond.fieldLink RX1 23 "PlateModes$ModeSet" "shapes" "[[D", Cond.fieldLink RX1 26 "PlateModes$ModeSet" "squares" "[D", Cond.fieldLink RX1 30 "PlateModes$ModeSet" "residues" "[D", Cond.fieldLink RX1 33 "PlateModes$ModeSet" "totals" "[D", Cond.methodLink RX1 15 yX2_cells, Cond.instanceMethod yX2_cells, Cond.selects RX2 yX2_cells yX2_cells, Cond.code yX2_cells cX2_cells 1 (some .int), Cond.methodLink RX4 36 yX3_init, Cond.instanceMethod yX3_init, Cond.code yX3_init cX3_init 1 none, Cond.methodLink RX3 3 objectInit, Cond.fieldLink RX3 9 "PlateModes$Wishes" "wanted" "[I"]
def wsX4_init_r4 : List Cond := [Cond.fieldLink RX3 15 "PlateModes$Wishes" "wishedSquares" "[D"]
def wsX4_init : List Cond := .code yX4_init cX4_init 3 none :: ((wsX4_init_r1 ++ (wsX4_init_r2 ++ (wsX4_init_r3 ++ wsX4_init_r4))) ++ wsX20 ++ wsX40 ++ wsX10 ++ wsX30 ++ wsX00)
def wsX4_requireCell : List Cond := .code yX4_requireCell cX4_requireCell 3 none :: ([.classLink RX4 107 "java/lang/IndexOutOfBoundsException", .initialized "java/lang/IndexOutOfBoundsException", .fieldLink RX4 18 "PlateModes" "plate" "LPlateModes$Plate;", .methodLink RX4 186 yX2_hasCell, .instanceMethod yX2_hasCell, .selects RX2 yX2_hasCell yX2_hasCell, .initialized RX2, .code yX2_hasCell cX2_hasCell 3 (some .boolean), .fieldLink RX2 9 "PlateModes$Plate" "width" "I", .fieldLink RX2 15 "PlateModes$Plate" "height" "I"] ++ wsX40 ++ wsX20 ++ (vx_atS RX4 111 "java/lang/IndexOutOfBoundsException" ["java/lang/RuntimeException", "java/lang/Exception"]).filter goodWord)
def wsX4_requireRange : List Cond := .code yX4_requireRange cX4_requireRange 6 none :: ([.classLink RX4 70 "java/lang/IllegalArgumentException", .initialized "java/lang/IllegalArgumentException"] ++ (vx_atS RX4 74 "java/lang/IllegalArgumentException" ["java/lang/RuntimeException", "java/lang/Exception"]).filter goodWord)
def wsX4_wood_r1 : List Cond := [Cond.constantDouble RX4 44 (4593671619917905920), Cond.constantDouble RX4 46 (4620693217682128896), Cond.fieldLink RX4 18 "PlateModes" "plate" "LPlateModes$Plate;", Cond.fieldLink RX4 27 "PlateModes" "made" "LPlateModes$ModeSet;", Cond.methodLink RX4 41 yX4_requireCell, Cond.instanceMethod yX4_requireCell, Cond.selects RX4 yX4_requireCell yX4_requireCell, Cond.initialized RX4, Cond.code yX4_requireCell cX4_requireCell 3 none, Cond.classLink RX4 107 "java/lang/IndexOutOfBoundsException", Cond.initialized "java/lang/IndexOutOfBoundsException", Cond.methodLink RX4 186 yX2_hasCell, Cond.instanceMethod yX2_hasCell, Cond.selects RX2 yX2_hasCell yX2_hasCell, Cond.initialized RX2, Cond.code yX2_hasCell cX2_hasCell 3 (some .boolean), Cond.fieldLink RX2 9 "PlateModes$Plate" "width" "I", Cond.fieldLink RX2 15 "PlateModes$Plate" "height" "I", Cond.methodLink RX4 48 yX4_requireRange, Cond.static yX4_requireRange, Cond.code yX4_requireRange cX4_requireRange 6 none, Cond.classLink RX4 70 "java/lang/IllegalArgumentException", Cond.initialized "java/lang/IllegalArgumentException", Cond.methodLink RX4 52 yX2_cellAt]
def wsX4_wood_r2 : List Cond := [Cond.instanceMethod yX2_cellAt, Cond.selects RX2 yX2_cellAt yX2_cellAt, Cond.code yX2_cellAt cX2_cellAt 3 (some .int), Cond.methodLink RX4 56 yX2_thicknessOf, Cond.instanceMethod yX2_thicknessOf, Cond.selects RX2 yX2_thicknessOf yX2_thicknessOf, Cond.code yX2_thicknessOf cX2_thicknessOf 2 (some .double), Cond.fieldLink RX2 18 "PlateModes$Plate" "thick" "[D", Cond.methodLink RX4 60 yX2_setThickness, Cond.instanceMethod yX2_setThickness, Cond.selects RX2 yX2_setThickness yX2_setThickness, Cond.code yX2_setThickness cX2_setThickness 4 none, Cond.methodLink RX4 64 yX1_forget, Cond.instanceMethod yX1_forget, Cond.selects RX1 yX1_forget yX1_forget, Cond.initialized RX1, Cond.code yX1_forget cX1_forget 1 none, Cond.fieldLink RX1 36 "PlateModes$ModeSet" "count" "I"]
def wsX4_wood : List Cond := .code yX4_wood cX4_wood 6 (some .boolean) :: ((wsX4_wood_r1 ++ wsX4_wood_r2) ++ wsX40 ++ wsX20 ++ wsX10 ++ (vx_atS RX4 111 "java/lang/IndexOutOfBoundsException" ["java/lang/RuntimeException", "java/lang/Exception"]).filter goodWord ++ (vx_atS RX4 74 "java/lang/IllegalArgumentException" ["java/lang/RuntimeException", "java/lang/Exception"]).filter goodWord)
def wsX4_rates : List Cond := .code yX4_rates cX4_rates 7 none :: ([.constantDouble RX4 44 (4593671619917905920), .constantDouble RX4 46 (4620693217682128896), .fieldLink RX4 18 "PlateModes" "plate" "LPlateModes$Plate;", .fieldLink RX4 27 "PlateModes" "made" "LPlateModes$ModeSet;", .methodLink RX4 48 yX4_requireRange, .static yX4_requireRange, .initialized RX4, .code yX4_requireRange cX4_requireRange 6 none, .classLink RX4 70 "java/lang/IllegalArgumentException", .initialized "java/lang/IllegalArgumentException", .methodLink RX4 67 yX2_setRates, .instanceMethod yX2_setRates, .selects RX2 yX2_setRates yX2_setRates, .initialized RX2, .code yX2_setRates cX2_setRates 7 none, .fieldLink RX2 35 "PlateModes$Plate" "along" "D", .fieldLink RX2 39 "PlateModes$Plate" "across" "D", .fieldLink RX2 42 "PlateModes$Plate" "density" "D", .methodLink RX4 64 yX1_forget, .instanceMethod yX1_forget, .selects RX1 yX1_forget yX1_forget, .initialized RX1, .code yX1_forget cX1_forget 1 none, .fieldLink RX1 36 "PlateModes$ModeSet" "count" "I"] ++ wsX40 ++ wsX20 ++ wsX10 ++ (vx_atS RX4 74 "java/lang/IllegalArgumentException" ["java/lang/RuntimeException", "java/lang/Exception"]).filter goodWord)
def wsX4_brace_r1 : List Cond := [Cond.classLink RX4 70 "java/lang/IllegalArgumentException", Cond.initialized "java/lang/IllegalArgumentException", Cond.classLink RX4 81 "java/lang/IllegalStateException", Cond.initialized "java/lang/IllegalStateException", Cond.constantDouble RX4 44 (4593671619917905920), Cond.constantDouble RX4 46 (4620693217682128896), Cond.fieldLink RX4 18 "PlateModes" "plate" "LPlateModes$Plate;", Cond.methodLink RX4 86 Lib.Math.min.name, Cond.static Lib.Math.min.name, Cond.initialized "java/lang/Math", Cond.code Lib.Math.min.name Lib.Math.min.code 2 (some .int), Cond.methodLink RX4 91 Lib.Math.max.name, Cond.static Lib.Math.max.name, Cond.code Lib.Math.max.name Lib.Math.max.code 2 (some .int), Cond.fieldLink RX4 27 "PlateModes" "made" "LPlateModes$ModeSet;", Cond.methodLink RX4 41 yX4_requireCell, Cond.instanceMethod yX4_requireCell, Cond.selects RX4 yX4_requireCell yX4_requireCell, Cond.initialized RX4, Cond.code yX4_requireCell cX4_requireCell 3 none, Cond.classLink RX4 107 "java/lang/IndexOutOfBoundsException", Cond.initialized "java/lang/IndexOutOfBoundsException", Cond.methodLink RX4 186 yX2_hasCell, Cond.instanceMethod yX2_hasCell]
def wsX4_brace_r2 : List Cond := [Cond.selects RX2 yX2_hasCell yX2_hasCell, Cond.initialized RX2, Cond.code yX2_hasCell cX2_hasCell 3 (some .boolean), Cond.fieldLink RX2 9 "PlateModes$Plate" "width" "I", Cond.fieldLink RX2 15 "PlateModes$Plate" "height" "I", Cond.methodLink RX4 48 yX4_requireRange, Cond.static yX4_requireRange, Cond.code yX4_requireRange cX4_requireRange 6 none, Cond.methodLink RX4 77 yX2_bracesFull, Cond.instanceMethod yX2_bracesFull, Cond.selects RX2 yX2_bracesFull yX2_bracesFull, Cond.code yX2_bracesFull cX2_bracesFull 1 (some .boolean), Cond.fieldLink RX2 31 "PlateModes$Plate" "braces" "LPlateModes$Braces;", Cond.methodLink RX2 45 yX0_full, Cond.instanceMethod yX0_full, Cond.selects RX0 yX0_full yX0_full, Cond.initialized RX0, Cond.code yX0_full cX0_full 1 (some .boolean), Cond.fieldLink RX0 25 "PlateModes$Braces" "count" "I", Cond.methodLink RX4 52 yX2_cellAt, Cond.instanceMethod yX2_cellAt, Cond.selects RX2 yX2_cellAt yX2_cellAt, Cond.code yX2_cellAt cX2_cellAt 3 (some .int), Cond.methodLink RX4 64 yX1_forget]
def wsX4_brace_r3 : List Cond := [Cond.instanceMethod yX1_forget, Cond.selects RX1 yX1_forget yX1_forget, Cond.initialized RX1, Cond.code yX1_forget cX1_forget 1 none, Cond.fieldLink RX1 36 "PlateModes$ModeSet" "count" "I", Cond.methodLink RX4 94 yX2_addBrace, Cond.instanceMethod yX2_addBrace, Cond.selects RX2 yX2_addBrace yX2_addBrace, Cond.code yX2_addBrace cX2_addBrace 6 (some .int), Cond.methodLink RX2 49 yX0_add, Cond.instanceMethod yX0_add, Cond.selects RX0 yX0_add yX0_add, Cond.code yX0_add cX0_add 6 (some .int), Cond.fieldLink RX0 9 "PlateModes$Braces" "paces" "[I", Cond.fieldLink RX0 15 "PlateModes$Braces" "firsts" "[I", Cond.fieldLink RX0 18 "PlateModes$Braces" "lasts" "[I", Cond.fieldLink RX0 21 "PlateModes$Braces" "heights" "[D", Cond.methodLink RX0 29 yX0_full]
def wsX4_brace : List Cond := .code yX4_brace cX4_brace 11 (some .int) :: ((wsX4_brace_r1 ++ (wsX4_brace_r2 ++ wsX4_brace_r3)) ++ wsX40 ++ wsX20 ++ wsX00 ++ wsX10 ++ (vx_atS RX4 74 "java/lang/IllegalArgumentException" ["java/lang/RuntimeException", "java/lang/Exception"]).filter goodWord ++ (vx_atS RX4 85 "java/lang/IllegalStateException" ["java/lang/RuntimeException", "java/lang/Exception"]).filter goodWord ++ (vx_atS RX4 111 "java/lang/IndexOutOfBoundsException" ["java/lang/RuntimeException", "java/lang/Exception"]).filter goodWord)
def wsX4_modes_r1 : List Cond := [Cond.classLink RX4 70 "java/lang/IllegalArgumentException", Cond.initialized "java/lang/IllegalArgumentException", Cond.fieldLink RX4 27 "PlateModes" "made" "LPlateModes$ModeSet;", Cond.methodLink RX4 100 yX1_make, Cond.instanceMethod yX1_make, Cond.selects RX1 yX1_make yX1_make, Cond.initialized RX1, Cond.code yX1_make cX1_make 3 (some .int), Cond.fieldLink RX1 9 "PlateModes$ModeSet" "plate" "LPlateModes$Plate;", Cond.fieldLink RX1 36 "PlateModes$ModeSet" "count" "I", Cond.methodLink RX1 44 yX2_bindSprings, Cond.instanceMethod yX2_bindSprings, Cond.selects RX2 yX2_bindSprings yX2_bindSprings, Cond.initialized RX2, Cond.code yX2_bindSprings cX2_bindSprings 4 none, Cond.fieldLink RX2 15 "PlateModes$Plate" "height" "I", Cond.fieldLink RX2 9 "PlateModes$Plate" "width" "I", Cond.fieldLink RX2 22 "PlateModes$Plate" "toRight" "[D", Cond.fieldLink RX2 35 "PlateModes$Plate" "along" "D", Cond.fieldLink RX2 25 "PlateModes$Plate" "toBelow" "[D", Cond.fieldLink RX2 39 "PlateModes$Plate" "across" "D", Cond.fieldLink RX2 31 "PlateModes$Plate" "braces" "LPlateModes$Braces;", Cond.methodLink RX2 57 yX2_cellAt, Cond.instanceMethod yX2_cellAt]
def wsX4_modes_r2 : List Cond := [Cond.selects RX2 yX2_cellAt yX2_cellAt, Cond.code yX2_cellAt cX2_cellAt 3 (some .int), Cond.methodLink RX2 61 yX2_springOf, Cond.instanceMethod yX2_springOf, Cond.selects RX2 yX2_springOf yX2_springOf, Cond.code yX2_springOf cX2_springOf 7 (some .double), Cond.fieldLink RX2 18 "PlateModes$Plate" "thick" "[D", Cond.constantDouble RX2 77 (4611686018427387904), Cond.methodLink RX2 73 yX2_hasWood, Cond.instanceMethod yX2_hasWood, Cond.selects RX2 yX2_hasWood yX2_hasWood, Cond.code yX2_hasWood cX2_hasWood 2 (some .boolean), Cond.methodLink RX2 65 yX0_count, Cond.instanceMethod yX0_count, Cond.selects RX0 yX0_count yX0_count, Cond.initialized RX0, Cond.code yX0_count cX0_count 1 (some .int), Cond.fieldLink RX0 25 "PlateModes$Braces" "count" "I", Cond.methodLink RX2 69 yX2_stiffenBy, Cond.instanceMethod yX2_stiffenBy, Cond.selects RX2 yX2_stiffenBy yX2_stiffenBy, Cond.code yX2_stiffenBy cX2_stiffenBy 9 none, Cond.methodLink RX2 79 yX0_paceOf, Cond.instanceMethod yX0_paceOf]
def wsX4_modes_r3 : List Cond := [Cond.selects RX0 yX0_paceOf yX0_paceOf, Cond.code yX0_paceOf cX0_paceOf 2 (some .int), Cond.fieldLink RX0 9 "PlateModes$Braces" "paces" "[I", Cond.methodLink RX2 83 yX0_heightOf, Cond.instanceMethod yX0_heightOf, Cond.selects RX0 yX0_heightOf yX0_heightOf, Cond.code yX0_heightOf cX0_heightOf 2 (some .double), Cond.fieldLink RX0 21 "PlateModes$Braces" "heights" "[D", Cond.methodLink RX2 86 yX0_lastOf, Cond.instanceMethod yX0_lastOf, Cond.selects RX0 yX0_lastOf yX0_lastOf, Cond.code yX0_lastOf cX0_lastOf 2 (some .int), Cond.fieldLink RX0 18 "PlateModes$Braces" "lasts" "[I", Cond.methodLink RX2 89 yX0_firstOf, Cond.instanceMethod yX0_firstOf, Cond.selects RX0 yX0_firstOf yX0_firstOf, Cond.code yX0_firstOf cX0_firstOf 2 (some .int), Cond.fieldLink RX0 15 "PlateModes$Braces" "firsts" "[I", Cond.methodLink RX1 47 yX1_settle, Cond.instanceMethod yX1_settle, Cond.selects RX1 yX1_settle yX1_settle, Cond.code yX1_settle cX1_settle 7 (some .boolean), Cond.fieldLink RX1 23 "PlateModes$ModeSet" "shapes" "[[D", Cond.methodLink RX1 55 yX2_beginShape]
def wsX4_modes_r4 : List Cond := [Cond.instanceMethod yX2_beginShape, Cond.selects RX2 yX2_beginShape yX2_beginShape, Cond.code yX2_beginShape cX2_beginShape 8 none, Cond.constantDouble RX2 96 (4620693217682128896), Cond.methodLink RX1 59 yX2_relax, Cond.instanceMethod yX2_relax, Cond.selects RX2 yX2_relax yX2_relax, Cond.code yX2_relax cX2_relax 5 none, Cond.constantDouble RX2 98 (4602678819172646912), Cond.methodLink RX2 100 yX2_forceAt, Cond.instanceMethod yX2_forceAt, Cond.selects RX2 yX2_forceAt yX2_forceAt, Cond.code yX2_forceAt cX2_forceAt 9 (some .double), Cond.static yX4_ground, Cond.initialized RX4, Cond.code yX4_ground cX4_ground 0 (some .double), Cond.constantDouble RX4 198 (4589168020290535424), Cond.methodLink RX2 104 yX2_heldAt, Cond.instanceMethod yX2_heldAt, Cond.selects RX2 yX2_heldAt yX2_heldAt, Cond.code yX2_heldAt cX2_heldAt 6 (some .double), Cond.methodLink RX1 63 yX1_takeOut, Cond.instanceMethod yX1_takeOut, Cond.selects RX1 yX1_takeOut yX1_takeOut]
def wsX4_modes_r5 : List Cond := [Cond.code yX1_takeOut cX1_takeOut 6 none, Cond.methodLink RX1 40 yX2_productOver, Cond.instanceMethod yX2_productOver, Cond.selects RX2 yX2_productOver yX2_productOver, Cond.code yX2_productOver cX2_productOver 6 (some .double), Cond.methodLink RX2 53 yX2_massOf, Cond.instanceMethod yX2_massOf, Cond.selects RX2 yX2_massOf yX2_massOf, Cond.code yX2_massOf cX2_massOf 2 (some .double), Cond.fieldLink RX2 42 "PlateModes$Plate" "density" "D", Cond.static yX4_root, Cond.code yX4_root cX4_root 5 (some .double), Cond.constantDouble RX4 143 (4611686018427387904), Cond.methodLink RX1 51 yX1_measure, Cond.instanceMethod yX1_measure, Cond.selects RX1 yX1_measure yX1_measure, Cond.code yX1_measure cX1_measure 3 none, Cond.fieldLink RX1 26 "PlateModes$ModeSet" "squares" "[D", Cond.fieldLink RX1 30 "PlateModes$ModeSet" "residues" "[D", Cond.fieldLink RX1 33 "PlateModes$ModeSet" "totals" "[D", Cond.methodLink RX1 71 yX2_squareOver, Cond.instanceMethod yX2_squareOver, Cond.selects RX2 yX2_squareOver yX2_squareOver, Cond.code yX2_squareOver cX2_squareOver 7 (some .double)]
def wsX4_modes_r6 : List Cond := [Cond.methodLink RX1 75 yX2_residueOver, Cond.instanceMethod yX2_residueOver, Cond.selects RX2 yX2_residueOver yX2_residueOver, Cond.code yX2_residueOver cX2_residueOver 13 (some .double), Cond.methodLink RX1 79 yX2_totalOver, Cond.instanceMethod yX2_totalOver, Cond.selects RX2 yX2_totalOver yX2_totalOver, Cond.code yX2_totalOver cX2_totalOver 5 (some .double)]
def wsX4_modes : List Cond := .code yX4_modes cX4_modes 2 (some .int) :: ((wsX4_modes_r1 ++ (wsX4_modes_r2 ++ (wsX4_modes_r3 ++ (wsX4_modes_r4 ++ (wsX4_modes_r5 ++ wsX4_modes_r6))))) ++ wsX40 ++ wsX10 ++ wsX20 ++ wsX00 ++ (vx_atS RX4 74 "java/lang/IllegalArgumentException" ["java/lang/RuntimeException", "java/lang/Exception"]).filter goodWord)
def wsX4_requireMode : List Cond := .code yX4_requireMode cX4_requireMode 1 none :: ([.classLink RX4 107 "java/lang/IndexOutOfBoundsException", .initialized "java/lang/IndexOutOfBoundsException"] ++ (vx_atS RX4 111 "java/lang/IndexOutOfBoundsException" ["java/lang/RuntimeException", "java/lang/Exception"]).filter goodWord)
def wsX4_requireMade : List Cond := .code yX4_requireMade cX4_requireMade 2 none :: ([.classLink RX4 81 "java/lang/IllegalStateException", .initialized "java/lang/IllegalStateException", .fieldLink RX4 27 "PlateModes" "made" "LPlateModes$ModeSet;", .methodLink RX4 181 yX1_count, .instanceMethod yX1_count, .selects RX1 yX1_count yX1_count, .initialized RX1, .code yX1_count cX1_count 1 (some .int), .fieldLink RX1 36 "PlateModes$ModeSet" "count" "I"] ++ wsX40 ++ wsX10 ++ (vx_atS RX4 85 "java/lang/IllegalStateException" ["java/lang/RuntimeException", "java/lang/Exception"]).filter goodWord)
def wsX4_mode_r1 : List Cond := [Cond.classLink RX4 107 "java/lang/IndexOutOfBoundsException", Cond.initialized "java/lang/IndexOutOfBoundsException", Cond.fieldLink RX4 27 "PlateModes" "made" "LPlateModes$ModeSet;", Cond.methodLink RX4 103 yX4_requireMode, Cond.static yX4_requireMode, Cond.initialized RX4, Cond.code yX4_requireMode cX4_requireMode 1 none, Cond.methodLink RX4 112 yX4_requireMade, Cond.instanceMethod yX4_requireMade, Cond.selects RX4 yX4_requireMade yX4_requireMade, Cond.code yX4_requireMade cX4_requireMade 2 none, Cond.classLink RX4 81 "java/lang/IllegalStateException", Cond.initialized "java/lang/IllegalStateException", Cond.methodLink RX4 181 yX1_count, Cond.instanceMethod yX1_count, Cond.selects RX1 yX1_count yX1_count, Cond.initialized RX1, Cond.code yX1_count cX1_count 1 (some .int), Cond.fieldLink RX1 36 "PlateModes$ModeSet" "count" "I", Cond.methodLink RX4 115 yX1_squareOf, Cond.instanceMethod yX1_squareOf, Cond.selects RX1 yX1_squareOf yX1_squareOf, Cond.code yX1_squareOf cX1_squareOf 2 (some .double), Cond.fieldLink RX1 26 "PlateModes$ModeSet" "squares" "[D"]
def wsX4_mode_r2 : List Cond := [Cond.methodLink RX4 118 yX1_residueOf, Cond.instanceMethod yX1_residueOf, Cond.selects RX1 yX1_residueOf yX1_residueOf, Cond.code yX1_residueOf cX1_residueOf 2 (some .double), Cond.fieldLink RX1 30 "PlateModes$ModeSet" "residues" "[D", Cond.methodLink RX4 121 yX1_totalOf, Cond.instanceMethod yX1_totalOf, Cond.selects RX1 yX1_totalOf yX1_totalOf, Cond.code yX1_totalOf cX1_totalOf 2 (some .double), Cond.fieldLink RX1 33 "PlateModes$ModeSet" "totals" "[D"]
def wsX4_mode : List Cond := .code yX4_mode cX4_mode 3 (some .double) :: ((wsX4_mode_r1 ++ wsX4_mode_r2) ++ wsX40 ++ wsX10 ++ (vx_atS RX4 111 "java/lang/IndexOutOfBoundsException" ["java/lang/RuntimeException", "java/lang/Exception"]).filter goodWord ++ (vx_atS RX4 85 "java/lang/IllegalStateException" ["java/lang/RuntimeException", "java/lang/Exception"]).filter goodWord)
def wsX4_shape_r1 : List Cond := [Cond.fieldLink RX4 27 "PlateModes" "made" "LPlateModes$ModeSet;", Cond.fieldLink RX4 18 "PlateModes" "plate" "LPlateModes$Plate;", Cond.methodLink RX4 103 yX4_requireMode, Cond.static yX4_requireMode, Cond.initialized RX4, Cond.code yX4_requireMode cX4_requireMode 1 none, Cond.classLink RX4 107 "java/lang/IndexOutOfBoundsException", Cond.initialized "java/lang/IndexOutOfBoundsException", Cond.methodLink RX4 41 yX4_requireCell, Cond.instanceMethod yX4_requireCell, Cond.selects RX4 yX4_requireCell yX4_requireCell, Cond.code yX4_requireCell cX4_requireCell 3 none, Cond.methodLink RX4 186 yX2_hasCell, Cond.instanceMethod yX2_hasCell, Cond.selects RX2 yX2_hasCell yX2_hasCell, Cond.initialized RX2, Cond.code yX2_hasCell cX2_hasCell 3 (some .boolean), Cond.fieldLink RX2 9 "PlateModes$Plate" "width" "I", Cond.fieldLink RX2 15 "PlateModes$Plate" "height" "I", Cond.methodLink RX4 112 yX4_requireMade, Cond.instanceMethod yX4_requireMade, Cond.selects RX4 yX4_requireMade yX4_requireMade, Cond.code yX4_requireMade cX4_requireMade 2 none, Cond.classLink RX4 81 "java/lang/IllegalStateException"]
def wsX4_shape_r2 : List Cond := [Cond.initialized "java/lang/IllegalStateException", Cond.methodLink RX4 181 yX1_count, Cond.instanceMethod yX1_count, Cond.selects RX1 yX1_count yX1_count, Cond.initialized RX1, Cond.code yX1_count cX1_count 1 (some .int), Cond.fieldLink RX1 36 "PlateModes$ModeSet" "count" "I", Cond.methodLink RX4 52 yX2_cellAt, Cond.instanceMethod yX2_cellAt, Cond.selects RX2 yX2_cellAt yX2_cellAt, Cond.code yX2_cellAt cX2_cellAt 3 (some .int), Cond.methodLink RX4 124 yX1_shapeAt, Cond.instanceMethod yX1_shapeAt, Cond.selects RX1 yX1_shapeAt yX1_shapeAt, Cond.code yX1_shapeAt cX1_shapeAt 3 (some .double), Cond.fieldLink RX1 23 "PlateModes$ModeSet" "shapes" "[[D"]
def wsX4_shape : List Cond := .code yX4_shape cX4_shape 4 (some .double) :: ((wsX4_shape_r1 ++ wsX4_shape_r2) ++ wsX40 ++ wsX20 ++ wsX10 ++ (vx_atS RX4 111 "java/lang/IndexOutOfBoundsException" ["java/lang/RuntimeException", "java/lang/Exception"]).filter goodWord ++ (vx_atS RX4 85 "java/lang/IllegalStateException" ["java/lang/RuntimeException", "java/lang/Exception"]).filter goodWord)
def wsX4_product_r1 : List Cond := [Cond.fieldLink RX4 27 "PlateModes" "made" "LPlateModes$ModeSet;", Cond.methodLink RX4 103 yX4_requireMode, Cond.static yX4_requireMode, Cond.initialized RX4, Cond.code yX4_requireMode cX4_requireMode 1 none, Cond.classLink RX4 107 "java/lang/IndexOutOfBoundsException", Cond.initialized "java/lang/IndexOutOfBoundsException", Cond.methodLink RX4 112 yX4_requireMade, Cond.instanceMethod yX4_requireMade, Cond.selects RX4 yX4_requireMade yX4_requireMade, Cond.code yX4_requireMade cX4_requireMade 2 none, Cond.classLink RX4 81 "java/lang/IllegalStateException", Cond.initialized "java/lang/IllegalStateException", Cond.methodLink RX4 181 yX1_count, Cond.instanceMethod yX1_count, Cond.selects RX1 yX1_count yX1_count, Cond.initialized RX1, Cond.code yX1_count cX1_count 1 (some .int), Cond.fieldLink RX1 36 "PlateModes$ModeSet" "count" "I", Cond.methodLink RX4 128 yX1_productOf, Cond.instanceMethod yX1_productOf, Cond.selects RX1 yX1_productOf yX1_productOf, Cond.code yX1_productOf cX1_productOf 3 (some .double), Cond.fieldLink RX1 9 "PlateModes$ModeSet" "plate" "LPlateModes$Plate;"]
def wsX4_product_r2 : List Cond := [Cond.fieldLink RX1 23 "PlateModes$ModeSet" "shapes" "[[D", Cond.methodLink RX1 40 yX2_productOver, Cond.instanceMethod yX2_productOver, Cond.selects RX2 yX2_productOver yX2_productOver, Cond.initialized RX2, Cond.code yX2_productOver cX2_productOver 6 (some .double), Cond.fieldLink RX2 18 "PlateModes$Plate" "thick" "[D", Cond.methodLink RX2 73 yX2_hasWood, Cond.instanceMethod yX2_hasWood, Cond.selects RX2 yX2_hasWood yX2_hasWood, Cond.code yX2_hasWood cX2_hasWood 2 (some .boolean), Cond.methodLink RX2 53 yX2_massOf, Cond.instanceMethod yX2_massOf, Cond.selects RX2 yX2_massOf yX2_massOf, Cond.code yX2_massOf cX2_massOf 2 (some .double), Cond.fieldLink RX2 42 "PlateModes$Plate" "density" "D"]
def wsX4_product : List Cond := .code yX4_product cX4_product 3 (some .double) :: ((wsX4_product_r1 ++ wsX4_product_r2) ++ wsX40 ++ wsX10 ++ wsX20 ++ (vx_atS RX4 111 "java/lang/IndexOutOfBoundsException" ["java/lang/RuntimeException", "java/lang/Exception"]).filter goodWord ++ (vx_atS RX4 85 "java/lang/IllegalStateException" ["java/lang/RuntimeException", "java/lang/Exception"]).filter goodWord)
def wsX4_mirrored : List Cond := .code yX4_mirrored cX4_mirrored 2 (some .boolean) :: ([.fieldLink RX4 18 "PlateModes" "plate" "LPlateModes$Plate;", .methodLink RX4 131 yX2_mirroredAlongX, .instanceMethod yX2_mirroredAlongX, .selects RX2 yX2_mirroredAlongX yX2_mirroredAlongX, .initialized RX2, .code yX2_mirroredAlongX cX2_mirroredAlongX 3 (some .boolean), .fieldLink RX2 15 "PlateModes$Plate" "height" "I", .fieldLink RX2 9 "PlateModes$Plate" "width" "I", .fieldLink RX2 18 "PlateModes$Plate" "thick" "[D", .methodLink RX2 57 yX2_cellAt, .instanceMethod yX2_cellAt, .selects RX2 yX2_cellAt yX2_cellAt, .code yX2_cellAt cX2_cellAt 3 (some .int), .methodLink RX4 134 yX2_mirroredAlongY, .instanceMethod yX2_mirroredAlongY, .selects RX2 yX2_mirroredAlongY yX2_mirroredAlongY, .code yX2_mirroredAlongY cX2_mirroredAlongY 3 (some .boolean)] ++ wsX40 ++ wsX20)
def wsX4_coupled_r1 : List Cond := [Cond.constantDouble RX4 46 (4620693217682128896), Cond.fieldLink RX4 27 "PlateModes" "made" "LPlateModes$ModeSet;", Cond.constantDouble RX4 137 (4616189618054758400), Cond.constantDouble RX4 143 (4611686018427387904), Cond.methodLink RX4 103 yX4_requireMode, Cond.static yX4_requireMode, Cond.initialized RX4, Cond.code yX4_requireMode cX4_requireMode 1 none, Cond.classLink RX4 107 "java/lang/IndexOutOfBoundsException", Cond.initialized "java/lang/IndexOutOfBoundsException", Cond.methodLink RX4 48 yX4_requireRange, Cond.static yX4_requireRange, Cond.code yX4_requireRange cX4_requireRange 6 none, Cond.classLink RX4 70 "java/lang/IllegalArgumentException", Cond.initialized "java/lang/IllegalArgumentException", Cond.methodLink RX4 112 yX4_requireMade, Cond.instanceMethod yX4_requireMade, Cond.selects RX4 yX4_requireMade yX4_requireMade, Cond.code yX4_requireMade cX4_requireMade 2 none, Cond.classLink RX4 81 "java/lang/IllegalStateException", Cond.initialized "java/lang/IllegalStateException", Cond.methodLink RX4 181 yX1_count, Cond.instanceMethod yX1_count, Cond.selects RX1 yX1_count yX1_count]
def wsX4_coupled_r2 : List Cond := [Cond.initialized RX1, Cond.code yX1_count cX1_count 1 (some .int), Cond.fieldLink RX1 36 "PlateModes$ModeSet" "count" "I", Cond.methodLink RX4 115 yX1_squareOf, Cond.instanceMethod yX1_squareOf, Cond.selects RX1 yX1_squareOf yX1_squareOf, Cond.code yX1_squareOf cX1_squareOf 2 (some .double), Cond.fieldLink RX1 26 "PlateModes$ModeSet" "squares" "[D", Cond.methodLink RX4 121 yX1_totalOf, Cond.instanceMethod yX1_totalOf, Cond.selects RX1 yX1_totalOf yX1_totalOf, Cond.code yX1_totalOf cX1_totalOf 2 (some .double), Cond.fieldLink RX1 33 "PlateModes$ModeSet" "totals" "[D", Cond.methodLink RX4 139 yX4_root, Cond.static yX4_root, Cond.code yX4_root cX4_root 5 (some .double)]
def wsX4_coupled : List Cond := .code yX4_coupled cX4_coupled 15 (some .double) :: ((wsX4_coupled_r1 ++ wsX4_coupled_r2) ++ wsX40 ++ wsX10 ++ (vx_atS RX4 111 "java/lang/IndexOutOfBoundsException" ["java/lang/RuntimeException", "java/lang/Exception"]).filter goodWord ++ (vx_atS RX4 74 "java/lang/IllegalArgumentException" ["java/lang/RuntimeException", "java/lang/Exception"]).filter goodWord ++ (vx_atS RX4 85 "java/lang/IllegalStateException" ["java/lang/RuntimeException", "java/lang/Exception"]).filter goodWord)
def wsX4_weight : List Cond := .code yX4_weight cX4_weight 1 (some .double) :: ([.fieldLink RX4 18 "PlateModes" "plate" "LPlateModes$Plate;", .methodLink RX4 145 yX2_massOfAll, .instanceMethod yX2_massOfAll, .selects RX2 yX2_massOfAll yX2_massOfAll, .initialized RX2, .code yX2_massOfAll cX2_massOfAll 4 (some .double), .fieldLink RX2 18 "PlateModes$Plate" "thick" "[D", .methodLink RX2 53 yX2_massOf, .instanceMethod yX2_massOf, .selects RX2 yX2_massOf yX2_massOf, .code yX2_massOf cX2_massOf 2 (some .double), .fieldLink RX2 42 "PlateModes$Plate" "density" "D"] ++ wsX40 ++ wsX20)
def wsX4_want_r1 : List Cond := [Cond.classLink RX4 81 "java/lang/IllegalStateException", Cond.initialized "java/lang/IllegalStateException", Cond.constantDouble RX4 149 (4634204016564240384), Cond.fieldLink RX4 37 "PlateModes" "wishes" "LPlateModes$Wishes;", Cond.methodLink RX4 103 yX4_requireMode, Cond.static yX4_requireMode, Cond.initialized RX4, Cond.code yX4_requireMode cX4_requireMode 1 none, Cond.classLink RX4 107 "java/lang/IndexOutOfBoundsException", Cond.initialized "java/lang/IndexOutOfBoundsException", Cond.methodLink RX4 48 yX4_requireRange, Cond.static yX4_requireRange, Cond.code yX4_requireRange cX4_requireRange 6 none, Cond.classLink RX4 70 "java/lang/IllegalArgumentException", Cond.initialized "java/lang/IllegalArgumentException", Cond.methodLink RX4 151 yX3_full, Cond.instanceMethod yX3_full, Cond.selects RX3 yX3_full yX3_full, Cond.initialized RX3, Cond.code yX3_full cX3_full 1 (some .boolean), Cond.fieldLink RX3 19 "PlateModes$Wishes" "count" "I", Cond.methodLink RX4 156 yX3_add, Cond.instanceMethod yX3_add, Cond.selects RX3 yX3_add yX3_add]
def wsX4_want_r2 : List Cond := [Cond.code yX3_add cX3_add 4 (some .int), Cond.fieldLink RX3 9 "PlateModes$Wishes" "wanted" "[I", Cond.fieldLink RX3 15 "PlateModes$Wishes" "wishedSquares" "[D", Cond.methodLink RX3 23 yX3_full]
def wsX4_want : List Cond := .code yX4_want cX4_want 4 (some .int) :: ((wsX4_want_r1 ++ wsX4_want_r2) ++ wsX40 ++ wsX30 ++ (vx_atS RX4 85 "java/lang/IllegalStateException" ["java/lang/RuntimeException", "java/lang/Exception"]).filter goodWord ++ (vx_atS RX4 111 "java/lang/IndexOutOfBoundsException" ["java/lang/RuntimeException", "java/lang/Exception"]).filter goodWord ++ (vx_atS RX4 74 "java/lang/IllegalArgumentException" ["java/lang/RuntimeException", "java/lang/Exception"]).filter goodWord)
def wsX4_tryThinner_r1 : List Cond := [Cond.fieldLink RX4 18 "PlateModes" "plate" "LPlateModes$Plate;", Cond.fieldLink RX4 37 "PlateModes" "wishes" "LPlateModes$Wishes;", Cond.fieldLink RX4 31 "PlateModes" "tried" "LPlateModes$ModeSet;", Cond.methodLink RX4 56 yX2_thicknessOf, Cond.instanceMethod yX2_thicknessOf, Cond.selects RX2 yX2_thicknessOf yX2_thicknessOf, Cond.initialized RX2, Cond.code yX2_thicknessOf cX2_thicknessOf 2 (some .double), Cond.fieldLink RX2 18 "PlateModes$Plate" "thick" "[D", Cond.methodLink RX4 160 yX3_modesNeeded, Cond.instanceMethod yX3_modesNeeded, Cond.selects RX3 yX3_modesNeeded yX3_modesNeeded, Cond.initialized RX3, Cond.code yX3_modesNeeded cX3_modesNeeded 3 (some .int), Cond.fieldLink RX3 19 "PlateModes$Wishes" "count" "I", Cond.fieldLink RX3 9 "PlateModes$Wishes" "wanted" "[I", Cond.methodLink RX3 27 Lib.Math.max.name, Cond.static Lib.Math.max.name, Cond.initialized "java/lang/Math", Cond.code Lib.Math.max.name Lib.Math.max.code 2 (some .int), Cond.methodLink RX4 60 yX2_setThickness, Cond.instanceMethod yX2_setThickness, Cond.selects RX2 yX2_setThickness yX2_setThickness, Cond.code yX2_setThickness cX2_setThickness 4 none]
def wsX4_tryThinner_r2 : List Cond := [Cond.methodLink RX4 100 yX1_make, Cond.instanceMethod yX1_make, Cond.selects RX1 yX1_make yX1_make, Cond.initialized RX1, Cond.code yX1_make cX1_make 3 (some .int), Cond.fieldLink RX1 9 "PlateModes$ModeSet" "plate" "LPlateModes$Plate;", Cond.fieldLink RX1 36 "PlateModes$ModeSet" "count" "I", Cond.methodLink RX1 44 yX2_bindSprings, Cond.instanceMethod yX2_bindSprings, Cond.selects RX2 yX2_bindSprings yX2_bindSprings, Cond.code yX2_bindSprings cX2_bindSprings 4 none, Cond.fieldLink RX2 15 "PlateModes$Plate" "height" "I", Cond.fieldLink RX2 9 "PlateModes$Plate" "width" "I", Cond.fieldLink RX2 22 "PlateModes$Plate" "toRight" "[D", Cond.fieldLink RX2 35 "PlateModes$Plate" "along" "D", Cond.fieldLink RX2 25 "PlateModes$Plate" "toBelow" "[D", Cond.fieldLink RX2 39 "PlateModes$Plate" "across" "D", Cond.fieldLink RX2 31 "PlateModes$Plate" "braces" "LPlateModes$Braces;", Cond.methodLink RX2 57 yX2_cellAt, Cond.instanceMethod yX2_cellAt, Cond.selects RX2 yX2_cellAt yX2_cellAt, Cond.code yX2_cellAt cX2_cellAt 3 (some .int), Cond.methodLink RX2 61 yX2_springOf, Cond.instanceMethod yX2_springOf]
def wsX4_tryThinner_r3 : List Cond := [Cond.selects RX2 yX2_springOf yX2_springOf, Cond.code yX2_springOf cX2_springOf 7 (some .double), Cond.constantDouble RX2 77 (4611686018427387904), Cond.methodLink RX2 73 yX2_hasWood, Cond.instanceMethod yX2_hasWood, Cond.selects RX2 yX2_hasWood yX2_hasWood, Cond.code yX2_hasWood cX2_hasWood 2 (some .boolean), Cond.methodLink RX2 65 yX0_count, Cond.instanceMethod yX0_count, Cond.selects RX0 yX0_count yX0_count, Cond.initialized RX0, Cond.code yX0_count cX0_count 1 (some .int), Cond.fieldLink RX0 25 "PlateModes$Braces" "count" "I", Cond.methodLink RX2 69 yX2_stiffenBy, Cond.instanceMethod yX2_stiffenBy, Cond.selects RX2 yX2_stiffenBy yX2_stiffenBy, Cond.code yX2_stiffenBy cX2_stiffenBy 9 none, Cond.methodLink RX2 79 yX0_paceOf, Cond.instanceMethod yX0_paceOf, Cond.selects RX0 yX0_paceOf yX0_paceOf, Cond.code yX0_paceOf cX0_paceOf 2 (some .int), Cond.fieldLink RX0 9 "PlateModes$Braces" "paces" "[I", Cond.methodLink RX2 83 yX0_heightOf, Cond.instanceMethod yX0_heightOf]
def wsX4_tryThinner_r4 : List Cond := [Cond.selects RX0 yX0_heightOf yX0_heightOf, Cond.code yX0_heightOf cX0_heightOf 2 (some .double), Cond.fieldLink RX0 21 "PlateModes$Braces" "heights" "[D", Cond.methodLink RX2 86 yX0_lastOf, Cond.instanceMethod yX0_lastOf, Cond.selects RX0 yX0_lastOf yX0_lastOf, Cond.code yX0_lastOf cX0_lastOf 2 (some .int), Cond.fieldLink RX0 18 "PlateModes$Braces" "lasts" "[I", Cond.methodLink RX2 89 yX0_firstOf, Cond.instanceMethod yX0_firstOf, Cond.selects RX0 yX0_firstOf yX0_firstOf, Cond.code yX0_firstOf cX0_firstOf 2 (some .int), Cond.fieldLink RX0 15 "PlateModes$Braces" "firsts" "[I", Cond.methodLink RX1 47 yX1_settle, Cond.instanceMethod yX1_settle, Cond.selects RX1 yX1_settle yX1_settle, Cond.code yX1_settle cX1_settle 7 (some .boolean), Cond.fieldLink RX1 23 "PlateModes$ModeSet" "shapes" "[[D", Cond.methodLink RX1 55 yX2_beginShape, Cond.instanceMethod yX2_beginShape, Cond.selects RX2 yX2_beginShape yX2_beginShape, Cond.code yX2_beginShape cX2_beginShape 8 none, Cond.constantDouble RX2 96 (4620693217682128896), Cond.methodLink RX1 59 yX2_relax]
def wsX4_tryThinner_r5 : List Cond := [Cond.instanceMethod yX2_relax, Cond.selects RX2 yX2_relax yX2_relax, Cond.code yX2_relax cX2_relax 5 none, Cond.constantDouble RX2 98 (4602678819172646912), Cond.methodLink RX2 100 yX2_forceAt, Cond.instanceMethod yX2_forceAt, Cond.selects RX2 yX2_forceAt yX2_forceAt, Cond.code yX2_forceAt cX2_forceAt 9 (some .double), Cond.static yX4_ground, Cond.initialized RX4, Cond.code yX4_ground cX4_ground 0 (some .double), Cond.constantDouble RX4 198 (4589168020290535424), Cond.methodLink RX2 104 yX2_heldAt, Cond.instanceMethod yX2_heldAt, Cond.selects RX2 yX2_heldAt yX2_heldAt, Cond.code yX2_heldAt cX2_heldAt 6 (some .double), Cond.methodLink RX1 63 yX1_takeOut, Cond.instanceMethod yX1_takeOut, Cond.selects RX1 yX1_takeOut yX1_takeOut, Cond.code yX1_takeOut cX1_takeOut 6 none, Cond.methodLink RX1 40 yX2_productOver, Cond.instanceMethod yX2_productOver, Cond.selects RX2 yX2_productOver yX2_productOver, Cond.code yX2_productOver cX2_productOver 6 (some .double)]
def wsX4_tryThinner_r6 : List Cond := [Cond.methodLink RX2 53 yX2_massOf, Cond.instanceMethod yX2_massOf, Cond.selects RX2 yX2_massOf yX2_massOf, Cond.code yX2_massOf cX2_massOf 2 (some .double), Cond.fieldLink RX2 42 "PlateModes$Plate" "density" "D", Cond.static yX4_root, Cond.code yX4_root cX4_root 5 (some .double), Cond.constantDouble RX4 143 (4611686018427387904), Cond.methodLink RX1 51 yX1_measure, Cond.instanceMethod yX1_measure, Cond.selects RX1 yX1_measure yX1_measure, Cond.code yX1_measure cX1_measure 3 none, Cond.fieldLink RX1 26 "PlateModes$ModeSet" "squares" "[D", Cond.fieldLink RX1 30 "PlateModes$ModeSet" "residues" "[D", Cond.fieldLink RX1 33 "PlateModes$ModeSet" "totals" "[D", Cond.methodLink RX1 71 yX2_squareOver, Cond.instanceMethod yX2_squareOver, Cond.selects RX2 yX2_squareOver yX2_squareOver, Cond.code yX2_squareOver cX2_squareOver 7 (some .double), Cond.methodLink RX1 75 yX2_residueOver, Cond.instanceMethod yX2_residueOver, Cond.selects RX2 yX2_residueOver yX2_residueOver, Cond.code yX2_residueOver cX2_residueOver 13 (some .double), Cond.methodLink RX1 79 yX2_totalOver]
def wsX4_tryThinner_r7 : List Cond := [Cond.instanceMethod yX2_totalOver, Cond.selects RX2 yX2_totalOver yX2_totalOver, Cond.code yX2_totalOver cX2_totalOver 5 (some .double), Cond.methodLink RX4 166 yX3_missedBy, Cond.instanceMethod yX3_missedBy, Cond.selects RX3 yX3_missedBy yX3_missedBy, Cond.code yX3_missedBy cX3_missedBy 7 (some .double), Cond.fieldLink RX3 15 "PlateModes$Wishes" "wishedSquares" "[D", Cond.methodLink RX3 33 yX1_squareOf, Cond.instanceMethod yX1_squareOf, Cond.selects RX1 yX1_squareOf yX1_squareOf, Cond.code yX1_squareOf cX1_squareOf 2 (some .double)]
def wsX4_tryThinner : List Cond := .code yX4_tryThinner cX4_tryThinner 11 (some .double) :: ((wsX4_tryThinner_r1 ++ (wsX4_tryThinner_r2 ++ (wsX4_tryThinner_r3 ++ (wsX4_tryThinner_r4 ++ (wsX4_tryThinner_r5 ++ (wsX4_tryThinner_r6 ++ wsX4_tryThinner_r7)))))) ++ wsX40 ++ wsX20 ++ wsX30 ++ wsX10 ++ wsX00)
def wsX4_thin_r1 : List Cond := [Cond.classLink RX4 81 "java/lang/IllegalStateException", Cond.initialized "java/lang/IllegalStateException", Cond.constantDouble RX4 44 (4593671619917905920), Cond.constantDouble RX4 46 (4620693217682128896), Cond.fieldLink RX4 37 "PlateModes" "wishes" "LPlateModes$Wishes;", Cond.fieldLink RX4 31 "PlateModes" "tried" "LPlateModes$ModeSet;", Cond.fieldLink RX4 18 "PlateModes" "plate" "LPlateModes$Plate;", Cond.fieldLink RX4 27 "PlateModes" "made" "LPlateModes$ModeSet;", Cond.methodLink RX4 48 yX4_requireRange, Cond.static yX4_requireRange, Cond.initialized RX4, Cond.code yX4_requireRange cX4_requireRange 6 none, Cond.classLink RX4 70 "java/lang/IllegalArgumentException", Cond.initialized "java/lang/IllegalArgumentException", Cond.methodLink RX4 160 yX3_modesNeeded, Cond.instanceMethod yX3_modesNeeded, Cond.selects RX3 yX3_modesNeeded yX3_modesNeeded, Cond.initialized RX3, Cond.code yX3_modesNeeded cX3_modesNeeded 3 (some .int), Cond.fieldLink RX3 19 "PlateModes$Wishes" "count" "I", Cond.fieldLink RX3 9 "PlateModes$Wishes" "wanted" "[I", Cond.methodLink RX3 27 Lib.Math.max.name, Cond.static Lib.Math.max.name, Cond.initialized "java/lang/Math"]
def wsX4_thin_r2 : List Cond := [Cond.code Lib.Math.max.name Lib.Math.max.code 2 (some .int), Cond.methodLink RX4 100 yX1_make, Cond.instanceMethod yX1_make, Cond.selects RX1 yX1_make yX1_make, Cond.initialized RX1, Cond.code yX1_make cX1_make 3 (some .int), Cond.fieldLink RX1 9 "PlateModes$ModeSet" "plate" "LPlateModes$Plate;", Cond.fieldLink RX1 36 "PlateModes$ModeSet" "count" "I", Cond.methodLink RX1 44 yX2_bindSprings, Cond.instanceMethod yX2_bindSprings, Cond.selects RX2 yX2_bindSprings yX2_bindSprings, Cond.initialized RX2, Cond.code yX2_bindSprings cX2_bindSprings 4 none, Cond.fieldLink RX2 15 "PlateModes$Plate" "height" "I", Cond.fieldLink RX2 9 "PlateModes$Plate" "width" "I", Cond.fieldLink RX2 22 "PlateModes$Plate" "toRight" "[D", Cond.fieldLink RX2 35 "PlateModes$Plate" "along" "D", Cond.fieldLink RX2 25 "PlateModes$Plate" "toBelow" "[D", Cond.fieldLink RX2 39 "PlateModes$Plate" "across" "D", Cond.fieldLink RX2 31 "PlateModes$Plate" "braces" "LPlateModes$Braces;", Cond.methodLink RX2 57 yX2_cellAt, Cond.instanceMethod yX2_cellAt, Cond.selects RX2 yX2_cellAt yX2_cellAt, Cond.code yX2_cellAt cX2_cellAt 3 (some .int)]
def wsX4_thin_r3 : List Cond := [Cond.methodLink RX2 61 yX2_springOf, Cond.instanceMethod yX2_springOf, Cond.selects RX2 yX2_springOf yX2_springOf, Cond.code yX2_springOf cX2_springOf 7 (some .double), Cond.fieldLink RX2 18 "PlateModes$Plate" "thick" "[D", Cond.constantDouble RX2 77 (4611686018427387904), Cond.methodLink RX2 73 yX2_hasWood, Cond.instanceMethod yX2_hasWood, Cond.selects RX2 yX2_hasWood yX2_hasWood, Cond.code yX2_hasWood cX2_hasWood 2 (some .boolean), Cond.methodLink RX2 65 yX0_count, Cond.instanceMethod yX0_count, Cond.selects RX0 yX0_count yX0_count, Cond.initialized RX0, Cond.code yX0_count cX0_count 1 (some .int), Cond.fieldLink RX0 25 "PlateModes$Braces" "count" "I", Cond.methodLink RX2 69 yX2_stiffenBy, Cond.instanceMethod yX2_stiffenBy, Cond.selects RX2 yX2_stiffenBy yX2_stiffenBy, Cond.code yX2_stiffenBy cX2_stiffenBy 9 none, Cond.methodLink RX2 79 yX0_paceOf, Cond.instanceMethod yX0_paceOf, Cond.selects RX0 yX0_paceOf yX0_paceOf, Cond.code yX0_paceOf cX0_paceOf 2 (some .int)]
def wsX4_thin_r4 : List Cond := [Cond.fieldLink RX0 9 "PlateModes$Braces" "paces" "[I", Cond.methodLink RX2 83 yX0_heightOf, Cond.instanceMethod yX0_heightOf, Cond.selects RX0 yX0_heightOf yX0_heightOf, Cond.code yX0_heightOf cX0_heightOf 2 (some .double), Cond.fieldLink RX0 21 "PlateModes$Braces" "heights" "[D", Cond.methodLink RX2 86 yX0_lastOf, Cond.instanceMethod yX0_lastOf, Cond.selects RX0 yX0_lastOf yX0_lastOf, Cond.code yX0_lastOf cX0_lastOf 2 (some .int), Cond.fieldLink RX0 18 "PlateModes$Braces" "lasts" "[I", Cond.methodLink RX2 89 yX0_firstOf, Cond.instanceMethod yX0_firstOf, Cond.selects RX0 yX0_firstOf yX0_firstOf, Cond.code yX0_firstOf cX0_firstOf 2 (some .int), Cond.fieldLink RX0 15 "PlateModes$Braces" "firsts" "[I", Cond.methodLink RX1 47 yX1_settle, Cond.instanceMethod yX1_settle, Cond.selects RX1 yX1_settle yX1_settle, Cond.code yX1_settle cX1_settle 7 (some .boolean), Cond.fieldLink RX1 23 "PlateModes$ModeSet" "shapes" "[[D", Cond.methodLink RX1 55 yX2_beginShape, Cond.instanceMethod yX2_beginShape, Cond.selects RX2 yX2_beginShape yX2_beginShape]
def wsX4_thin_r5 : List Cond := [Cond.code yX2_beginShape cX2_beginShape 8 none, Cond.constantDouble RX2 96 (4620693217682128896), Cond.methodLink RX1 59 yX2_relax, Cond.instanceMethod yX2_relax, Cond.selects RX2 yX2_relax yX2_relax, Cond.code yX2_relax cX2_relax 5 none, Cond.constantDouble RX2 98 (4602678819172646912), Cond.methodLink RX2 100 yX2_forceAt, Cond.instanceMethod yX2_forceAt, Cond.selects RX2 yX2_forceAt yX2_forceAt, Cond.code yX2_forceAt cX2_forceAt 9 (some .double), Cond.static yX4_ground, Cond.code yX4_ground cX4_ground 0 (some .double), Cond.constantDouble RX4 198 (4589168020290535424), Cond.methodLink RX2 104 yX2_heldAt, Cond.instanceMethod yX2_heldAt, Cond.selects RX2 yX2_heldAt yX2_heldAt, Cond.code yX2_heldAt cX2_heldAt 6 (some .double), Cond.methodLink RX1 63 yX1_takeOut, Cond.instanceMethod yX1_takeOut, Cond.selects RX1 yX1_takeOut yX1_takeOut, Cond.code yX1_takeOut cX1_takeOut 6 none, Cond.methodLink RX1 40 yX2_productOver, Cond.instanceMethod yX2_productOver]
def wsX4_thin_r6 : List Cond := [Cond.selects RX2 yX2_productOver yX2_productOver, Cond.code yX2_productOver cX2_productOver 6 (some .double), Cond.methodLink RX2 53 yX2_massOf, Cond.instanceMethod yX2_massOf, Cond.selects RX2 yX2_massOf yX2_massOf, Cond.code yX2_massOf cX2_massOf 2 (some .double), Cond.fieldLink RX2 42 "PlateModes$Plate" "density" "D", Cond.static yX4_root, Cond.code yX4_root cX4_root 5 (some .double), Cond.constantDouble RX4 143 (4611686018427387904), Cond.methodLink RX1 51 yX1_measure, Cond.instanceMethod yX1_measure, Cond.selects RX1 yX1_measure yX1_measure, Cond.code yX1_measure cX1_measure 3 none, Cond.fieldLink RX1 26 "PlateModes$ModeSet" "squares" "[D", Cond.fieldLink RX1 30 "PlateModes$ModeSet" "residues" "[D", Cond.fieldLink RX1 33 "PlateModes$ModeSet" "totals" "[D", Cond.methodLink RX1 71 yX2_squareOver, Cond.instanceMethod yX2_squareOver, Cond.selects RX2 yX2_squareOver yX2_squareOver, Cond.code yX2_squareOver cX2_squareOver 7 (some .double), Cond.methodLink RX1 75 yX2_residueOver, Cond.instanceMethod yX2_residueOver, Cond.selects RX2 yX2_residueOver yX2_residueOver]
def wsX4_thin_r7 : List Cond := [Cond.code yX2_residueOver cX2_residueOver 13 (some .double), Cond.methodLink RX1 79 yX2_totalOver, Cond.instanceMethod yX2_totalOver, Cond.selects RX2 yX2_totalOver yX2_totalOver, Cond.code yX2_totalOver cX2_totalOver 5 (some .double), Cond.methodLink RX4 166 yX3_missedBy, Cond.instanceMethod yX3_missedBy, Cond.selects RX3 yX3_missedBy yX3_missedBy, Cond.code yX3_missedBy cX3_missedBy 7 (some .double), Cond.fieldLink RX3 15 "PlateModes$Wishes" "wishedSquares" "[D", Cond.methodLink RX3 33 yX1_squareOf, Cond.instanceMethod yX1_squareOf, Cond.selects RX1 yX1_squareOf yX1_squareOf, Cond.code yX1_squareOf cX1_squareOf 2 (some .double), Cond.methodLink RX4 170 yX2_cells, Cond.instanceMethod yX2_cells, Cond.selects RX2 yX2_cells yX2_cells, Cond.code yX2_cells cX2_cells 1 (some .int), Cond.methodLink RX4 173 yX2_hasWood, Cond.methodLink RX4 56 yX2_thicknessOf, Cond.instanceMethod yX2_thicknessOf, Cond.selects RX2 yX2_thicknessOf yX2_thicknessOf, Cond.code yX2_thicknessOf cX2_thicknessOf 2 (some .double), Cond.methodLink RX4 177 yX4_tryThinner]
def wsX4_thin_r8 : List Cond := [Cond.instanceMethod yX4_tryThinner, Cond.selects RX4 yX4_tryThinner yX4_tryThinner, Cond.code yX4_tryThinner cX4_tryThinner 11 (some .double), Cond.methodLink RX4 60 yX2_setThickness, Cond.instanceMethod yX2_setThickness, Cond.selects RX2 yX2_setThickness yX2_setThickness, Cond.code yX2_setThickness cX2_setThickness 4 none]
def wsX4_thin : List Cond := .code yX4_thin cX4_thin 12 (some .int) :: ((wsX4_thin_r1 ++ (wsX4_thin_r2 ++ (wsX4_thin_r3 ++ (wsX4_thin_r4 ++ (wsX4_thin_r5 ++ (wsX4_thin_r6 ++ (wsX4_thin_r7 ++ wsX4_thin_r8))))))) ++ wsX40 ++ wsX30 ++ wsX10 ++ wsX20 ++ wsX00 ++ (vx_atS RX4 85 "java/lang/IllegalStateException" ["java/lang/RuntimeException", "java/lang/Exception"]).filter goodWord ++ (vx_atS RX4 74 "java/lang/IllegalArgumentException" ["java/lang/RuntimeException", "java/lang/Exception"]).filter goodWord)
def wsX4_sum_r1 : List Cond := [Cond.classLink RX4 81 "java/lang/IllegalStateException", Cond.initialized "java/lang/IllegalStateException", Cond.fieldLink RX4 37 "PlateModes" "wishes" "LPlateModes$Wishes;", Cond.fieldLink RX4 27 "PlateModes" "made" "LPlateModes$ModeSet;", Cond.methodLink RX4 160 yX3_modesNeeded, Cond.instanceMethod yX3_modesNeeded, Cond.selects RX3 yX3_modesNeeded yX3_modesNeeded, Cond.initialized RX3, Cond.code yX3_modesNeeded cX3_modesNeeded 3 (some .int), Cond.fieldLink RX3 19 "PlateModes$Wishes" "count" "I", Cond.fieldLink RX3 9 "PlateModes$Wishes" "wanted" "[I", Cond.methodLink RX3 27 Lib.Math.max.name, Cond.static Lib.Math.max.name, Cond.initialized "java/lang/Math", Cond.code Lib.Math.max.name Lib.Math.max.code 2 (some .int), Cond.methodLink RX4 181 yX1_count, Cond.instanceMethod yX1_count, Cond.selects RX1 yX1_count yX1_count, Cond.initialized RX1, Cond.code yX1_count cX1_count 1 (some .int), Cond.fieldLink RX1 36 "PlateModes$ModeSet" "count" "I", Cond.methodLink RX4 166 yX3_missedBy, Cond.instanceMethod yX3_missedBy, Cond.selects RX3 yX3_missedBy yX3_missedBy]
def wsX4_sum_r2 : List Cond := [Cond.code yX3_missedBy cX3_missedBy 7 (some .double), Cond.fieldLink RX3 15 "PlateModes$Wishes" "wishedSquares" "[D", Cond.methodLink RX3 33 yX1_squareOf, Cond.instanceMethod yX1_squareOf, Cond.selects RX1 yX1_squareOf yX1_squareOf, Cond.code yX1_squareOf cX1_squareOf 2 (some .double), Cond.fieldLink RX1 26 "PlateModes$ModeSet" "squares" "[D"]
def wsX4_sum : List Cond := .code yX4_sum cX4_sum 2 (some .double) :: ((wsX4_sum_r1 ++ wsX4_sum_r2) ++ wsX40 ++ wsX30 ++ wsX10 ++ (vx_atS RX4 85 "java/lang/IllegalStateException" ["java/lang/RuntimeException", "java/lang/Exception"]).filter goodWord)
def wsX4_tap_r1 : List Cond := [Cond.constantDouble RX4 149 (4634204016564240384), Cond.fieldLink RX4 27 "PlateModes" "made" "LPlateModes$ModeSet;", Cond.fieldLink RX4 18 "PlateModes" "plate" "LPlateModes$Plate;", Cond.methodLink RX4 103 yX4_requireMode, Cond.static yX4_requireMode, Cond.initialized RX4, Cond.code yX4_requireMode cX4_requireMode 1 none, Cond.classLink RX4 107 "java/lang/IndexOutOfBoundsException", Cond.initialized "java/lang/IndexOutOfBoundsException", Cond.methodLink RX4 41 yX4_requireCell, Cond.instanceMethod yX4_requireCell, Cond.selects RX4 yX4_requireCell yX4_requireCell, Cond.code yX4_requireCell cX4_requireCell 3 none, Cond.methodLink RX4 186 yX2_hasCell, Cond.instanceMethod yX2_hasCell, Cond.selects RX2 yX2_hasCell yX2_hasCell, Cond.initialized RX2, Cond.code yX2_hasCell cX2_hasCell 3 (some .boolean), Cond.fieldLink RX2 9 "PlateModes$Plate" "width" "I", Cond.fieldLink RX2 15 "PlateModes$Plate" "height" "I", Cond.methodLink RX4 48 yX4_requireRange, Cond.static yX4_requireRange, Cond.code yX4_requireRange cX4_requireRange 6 none, Cond.classLink RX4 70 "java/lang/IllegalArgumentException"]
def wsX4_tap_r2 : List Cond := [Cond.initialized "java/lang/IllegalArgumentException", Cond.methodLink RX4 112 yX4_requireMade, Cond.instanceMethod yX4_requireMade, Cond.selects RX4 yX4_requireMade yX4_requireMade, Cond.code yX4_requireMade cX4_requireMade 2 none, Cond.classLink RX4 81 "java/lang/IllegalStateException", Cond.initialized "java/lang/IllegalStateException", Cond.methodLink RX4 181 yX1_count, Cond.instanceMethod yX1_count, Cond.selects RX1 yX1_count yX1_count, Cond.initialized RX1, Cond.code yX1_count cX1_count 1 (some .int), Cond.fieldLink RX1 36 "PlateModes$ModeSet" "count" "I", Cond.methodLink RX4 52 yX2_cellAt, Cond.instanceMethod yX2_cellAt, Cond.selects RX2 yX2_cellAt yX2_cellAt, Cond.code yX2_cellAt cX2_cellAt 3 (some .int), Cond.methodLink RX4 124 yX1_shapeAt, Cond.instanceMethod yX1_shapeAt, Cond.selects RX1 yX1_shapeAt yX1_shapeAt, Cond.code yX1_shapeAt cX1_shapeAt 3 (some .double), Cond.fieldLink RX1 23 "PlateModes$ModeSet" "shapes" "[[D", Cond.methodLink RX4 115 yX1_squareOf, Cond.instanceMethod yX1_squareOf]
def wsX4_tap_r3 : List Cond := [Cond.selects RX1 yX1_squareOf yX1_squareOf, Cond.code yX1_squareOf cX1_squareOf 2 (some .double), Cond.fieldLink RX1 26 "PlateModes$ModeSet" "squares" "[D"]
def wsX4_tap : List Cond := .code yX4_tap cX4_tap 10 (some .double) :: ((wsX4_tap_r1 ++ (wsX4_tap_r2 ++ wsX4_tap_r3)) ++ wsX40 ++ wsX20 ++ wsX10 ++ (vx_atS RX4 111 "java/lang/IndexOutOfBoundsException" ["java/lang/RuntimeException", "java/lang/Exception"]).filter goodWord ++ (vx_atS RX4 74 "java/lang/IllegalArgumentException" ["java/lang/RuntimeException", "java/lang/Exception"]).filter goodWord ++ (vx_atS RX4 85 "java/lang/IllegalStateException" ["java/lang/RuntimeException", "java/lang/Exception"]).filter goodWord)
def wsX5_init : List Cond := .code yX5_init cX5_init 4 none :: ([.methodLink RX5 1 objectInit, .instanceMethod objectInit, .code objectInit ⟨#[0xb1]⟩ 1 none, .arrayClass .double, .fieldLink RX5 7 "PlateModesModel" "thicks" "[D", .fieldLink RX5 13 "PlateModesModel" "a" "D", .fieldLink RX5 17 "PlateModesModel" "b" "D", .fieldLink RX5 20 "PlateModesModel" "density" "D", .arrayClass .int, .fieldLink RX5 23 "PlateModesModel" "ends" "[I", .fieldLink RX5 27 "PlateModesModel" "heights" "[D", .fieldLink RX5 30 "PlateModesModel" "right" "[D", .fieldLink RX5 33 "PlateModesModel" "down" "[D", .fieldLink RX5 36 "PlateModesModel" "shapes" "[D", .fieldLink RX5 39 "PlateModesModel" "squares" "[D", .fieldLink RX5 42 "PlateModesModel" "wanted" "[I", .fieldLink RX5 45 "PlateModesModel" "wishes" "[D", .fieldLink RX5 48 "PlateModesModel" "width" "I", .fieldLink RX5 52 "PlateModesModel" "height" "I"] ++ wsX50)
def wsX5_thrown : List Cond := .code yX5_thrown cX5_thrown 1 (some .int) :: ([.fieldLink RX5 55 "PlateModesModel" "thrown" "I"] ++ wsX50)
def wsX5_between : List Cond := .code yX5_between cX5_between 6 (some .boolean) :: ([])
def wsX5_noCell : List Cond := .code yX5_noCell cX5_noCell 3 (some .boolean) :: ([.fieldLink RX5 48 "PlateModesModel" "width" "I", .fieldLink RX5 52 "PlateModesModel" "height" "I"] ++ wsX50)
def wsX5_root : List Cond := .code yX5_root cX5_root 5 (some .double) :: ([.constantDouble RX5 58 (4611686018427387904)])
def wsX5_wood : List Cond := .code yX5_wood cX5_wood 6 (some .boolean) :: ([.constantDouble RX5 64 (4593671619917905920), .constantDouble RX5 66 (4620693217682128896), .fieldLink RX5 55 "PlateModesModel" "thrown" "I", .fieldLink RX5 7 "PlateModesModel" "thicks" "[D", .fieldLink RX5 72 "PlateModesModel" "made" "Z", .methodLink RX5 60 yX5_noCell, .instanceMethod yX5_noCell, .selects RX5 yX5_noCell yX5_noCell, .initialized RX5, .code yX5_noCell cX5_noCell 3 (some .boolean), .fieldLink RX5 48 "PlateModesModel" "width" "I", .fieldLink RX5 52 "PlateModesModel" "height" "I", .methodLink RX5 68 yX5_between, .static yX5_between, .code yX5_between cX5_between 6 (some .boolean)] ++ wsX50)
def wsX5_rates : List Cond := .code yX5_rates cX5_rates 7 none :: ([.constantDouble RX5 64 (4593671619917905920), .constantDouble RX5 66 (4620693217682128896), .fieldLink RX5 55 "PlateModesModel" "thrown" "I", .fieldLink RX5 13 "PlateModesModel" "a" "D", .fieldLink RX5 17 "PlateModesModel" "b" "D", .fieldLink RX5 20 "PlateModesModel" "density" "D", .fieldLink RX5 72 "PlateModesModel" "made" "Z", .methodLink RX5 68 yX5_between, .static yX5_between, .initialized RX5, .code yX5_between cX5_between 6 (some .boolean)] ++ wsX50)
def wsX5_brace : List Cond := .code yX5_brace cX5_brace 8 (some .int) :: ([.constantDouble RX5 64 (4593671619917905920), .constantDouble RX5 66 (4620693217682128896), .fieldLink RX5 76 "PlateModesModel" "braces" "I", .fieldLink RX5 55 "PlateModesModel" "thrown" "I", .fieldLink RX5 23 "PlateModesModel" "ends" "[I", .fieldLink RX5 27 "PlateModesModel" "heights" "[D", .fieldLink RX5 72 "PlateModesModel" "made" "Z", .methodLink RX5 60 yX5_noCell, .instanceMethod yX5_noCell, .selects RX5 yX5_noCell yX5_noCell, .initialized RX5, .code yX5_noCell cX5_noCell 3 (some .boolean), .fieldLink RX5 48 "PlateModesModel" "width" "I", .fieldLink RX5 52 "PlateModesModel" "height" "I", .methodLink RX5 68 yX5_between, .static yX5_between, .code yX5_between cX5_between 6 (some .boolean)] ++ wsX50)
def wsX5_isWood : List Cond := .code yX5_isWood cX5_isWood 2 (some .boolean) :: ([.fieldLink RX5 7 "PlateModesModel" "thicks" "[D"] ++ wsX50)
def wsX5_spring : List Cond := .code yX5_spring cX5_spring 8 (some .double) :: ([.constantDouble RX5 58 (4611686018427387904)])
def wsX5_springs : List Cond := .code yX5_springs cX5_springs 4 none :: ([.fieldLink RX5 52 "PlateModesModel" "height" "I", .fieldLink RX5 48 "PlateModesModel" "width" "I", .fieldLink RX5 30 "PlateModesModel" "right" "[D", .fieldLink RX5 13 "PlateModesModel" "a" "D", .fieldLink RX5 7 "PlateModesModel" "thicks" "[D", .fieldLink RX5 33 "PlateModesModel" "down" "[D", .fieldLink RX5 17 "PlateModesModel" "b" "D", .fieldLink RX5 76 "PlateModesModel" "braces" "I", .fieldLink RX5 23 "PlateModesModel" "ends" "[I", .fieldLink RX5 27 "PlateModesModel" "heights" "[D", .methodLink RX5 79 yX5_isWood, .instanceMethod yX5_isWood, .selects RX5 yX5_isWood yX5_isWood, .initialized RX5, .code yX5_isWood cX5_isWood 2 (some .boolean), .methodLink RX5 83 yX5_spring, .static yX5_spring, .code yX5_spring cX5_spring 8 (some .double), .constantDouble RX5 58 (4611686018427387904)] ++ wsX50)
def wsX5_force : List Cond := .code yX5_force cX5_force 8 (some .double) :: ([.fieldLink RX5 48 "PlateModesModel" "width" "I", .fieldLink RX5 30 "PlateModesModel" "right" "[D", .fieldLink RX5 36 "PlateModesModel" "shapes" "[D", .fieldLink RX5 52 "PlateModesModel" "height" "I", .fieldLink RX5 33 "PlateModesModel" "down" "[D", .constantDouble RX5 87 (4589168020290535424)] ++ wsX50)
def wsX5_hold : List Cond := .code yX5_hold cX5_hold 6 (some .double) :: ([.constantDouble RX5 87 (4589168020290535424), .fieldLink RX5 48 "PlateModesModel" "width" "I", .fieldLink RX5 30 "PlateModesModel" "right" "[D", .fieldLink RX5 52 "PlateModesModel" "height" "I", .fieldLink RX5 33 "PlateModesModel" "down" "[D"] ++ wsX50)
def wsX5_mass : List Cond := .code yX5_mass cX5_mass 2 (some .double) :: ([.fieldLink RX5 7 "PlateModesModel" "thicks" "[D", .fieldLink RX5 20 "PlateModesModel" "density" "D"] ++ wsX50)
def wsX5_productOf : List Cond := .code yX5_productOf cX5_productOf 8 (some .double) :: ([.fieldLink RX5 52 "PlateModesModel" "height" "I", .fieldLink RX5 48 "PlateModesModel" "width" "I", .fieldLink RX5 36 "PlateModesModel" "shapes" "[D", .methodLink RX5 79 yX5_isWood, .instanceMethod yX5_isWood, .selects RX5 yX5_isWood yX5_isWood, .initialized RX5, .code yX5_isWood cX5_isWood 2 (some .boolean), .fieldLink RX5 7 "PlateModesModel" "thicks" "[D", .methodLink RX5 89 yX5_mass, .instanceMethod yX5_mass, .selects RX5 yX5_mass yX5_mass, .code yX5_mass cX5_mass 2 (some .double), .fieldLink RX5 20 "PlateModesModel" "density" "D"] ++ wsX50)
def wsX5_sweep_r1 : List Cond := [Cond.fieldLink RX5 52 "PlateModesModel" "height" "I", Cond.fieldLink RX5 48 "PlateModesModel" "width" "I", Cond.fieldLink RX5 36 "PlateModesModel" "shapes" "[D", Cond.constantDouble RX5 93 (4602678819172646912), Cond.methodLink RX5 79 yX5_isWood, Cond.instanceMethod yX5_isWood, Cond.selects RX5 yX5_isWood yX5_isWood, Cond.initialized RX5, Cond.code yX5_isWood cX5_isWood 2 (some .boolean), Cond.fieldLink RX5 7 "PlateModesModel" "thicks" "[D", Cond.methodLink RX5 95 yX5_force, Cond.instanceMethod yX5_force, Cond.selects RX5 yX5_force yX5_force, Cond.code yX5_force cX5_force 8 (some .double), Cond.fieldLink RX5 30 "PlateModesModel" "right" "[D", Cond.fieldLink RX5 33 "PlateModesModel" "down" "[D", Cond.constantDouble RX5 87 (4589168020290535424), Cond.methodLink RX5 99 yX5_hold, Cond.instanceMethod yX5_hold, Cond.selects RX5 yX5_hold yX5_hold, Cond.code yX5_hold cX5_hold 6 (some .double), Cond.methodLink RX5 103 yX5_productOf, Cond.instanceMethod yX5_productOf, Cond.selects RX5 yX5_productOf yX5_productOf]
def wsX5_sweep_r2 : List Cond := [Cond.code yX5_productOf cX5_productOf 8 (some .double), Cond.methodLink RX5 89 yX5_mass, Cond.instanceMethod yX5_mass, Cond.selects RX5 yX5_mass yX5_mass, Cond.code yX5_mass cX5_mass 2 (some .double), Cond.fieldLink RX5 20 "PlateModesModel" "density" "D", Cond.methodLink RX5 106 yX5_root, Cond.static yX5_root, Cond.code yX5_root cX5_root 5 (some .double), Cond.constantDouble RX5 58 (4611686018427387904)]
def wsX5_sweep : List Cond := .code yX5_sweep cX5_sweep 6 (some .boolean) :: ((wsX5_sweep_r1 ++ wsX5_sweep_r2) ++ wsX50)
def wsX5_make_r1 : List Cond := [Cond.fieldLink RX5 48 "PlateModesModel" "width" "I", Cond.fieldLink RX5 52 "PlateModesModel" "height" "I", Cond.fieldLink RX5 36 "PlateModesModel" "shapes" "[D", Cond.constantDouble RX5 66 (4620693217682128896), Cond.fieldLink RX5 39 "PlateModesModel" "squares" "[D", Cond.methodLink RX5 79 yX5_isWood, Cond.instanceMethod yX5_isWood, Cond.selects RX5 yX5_isWood yX5_isWood, Cond.initialized RX5, Cond.code yX5_isWood cX5_isWood 2 (some .boolean), Cond.fieldLink RX5 7 "PlateModesModel" "thicks" "[D", Cond.methodLink RX5 110 yX5_sweep, Cond.instanceMethod yX5_sweep, Cond.selects RX5 yX5_sweep yX5_sweep, Cond.code yX5_sweep cX5_sweep 6 (some .boolean), Cond.constantDouble RX5 93 (4602678819172646912), Cond.methodLink RX5 95 yX5_force, Cond.instanceMethod yX5_force, Cond.selects RX5 yX5_force yX5_force, Cond.code yX5_force cX5_force 8 (some .double), Cond.fieldLink RX5 30 "PlateModesModel" "right" "[D", Cond.fieldLink RX5 33 "PlateModesModel" "down" "[D", Cond.constantDouble RX5 87 (4589168020290535424), Cond.methodLink RX5 99 yX5_hold]
def wsX5_make_r2 : List Cond := [Cond.instanceMethod yX5_hold, Cond.selects RX5 yX5_hold yX5_hold, Cond.code yX5_hold cX5_hold 6 (some .double), Cond.methodLink RX5 103 yX5_productOf, Cond.instanceMethod yX5_productOf, Cond.selects RX5 yX5_productOf yX5_productOf, Cond.code yX5_productOf cX5_productOf 8 (some .double), Cond.methodLink RX5 89 yX5_mass, Cond.instanceMethod yX5_mass, Cond.selects RX5 yX5_mass yX5_mass, Cond.code yX5_mass cX5_mass 2 (some .double), Cond.fieldLink RX5 20 "PlateModesModel" "density" "D", Cond.methodLink RX5 106 yX5_root, Cond.static yX5_root, Cond.code yX5_root cX5_root 5 (some .double), Cond.constantDouble RX5 58 (4611686018427387904)]
def wsX5_make : List Cond := .code yX5_make cX5_make 6 (some .boolean) :: ((wsX5_make_r1 ++ wsX5_make_r2) ++ wsX50)
def wsX5_makeAll_r1 : List Cond := [Cond.fieldLink RX5 116 "PlateModesModel" "many" "I", Cond.fieldLink RX5 72 "PlateModesModel" "made" "Z", Cond.methodLink RX5 113 yX5_springs, Cond.instanceMethod yX5_springs, Cond.selects RX5 yX5_springs yX5_springs, Cond.initialized RX5, Cond.code yX5_springs cX5_springs 4 none, Cond.fieldLink RX5 52 "PlateModesModel" "height" "I", Cond.fieldLink RX5 48 "PlateModesModel" "width" "I", Cond.fieldLink RX5 30 "PlateModesModel" "right" "[D", Cond.fieldLink RX5 13 "PlateModesModel" "a" "D", Cond.fieldLink RX5 7 "PlateModesModel" "thicks" "[D", Cond.fieldLink RX5 33 "PlateModesModel" "down" "[D", Cond.fieldLink RX5 17 "PlateModesModel" "b" "D", Cond.fieldLink RX5 76 "PlateModesModel" "braces" "I", Cond.fieldLink RX5 23 "PlateModesModel" "ends" "[I", Cond.fieldLink RX5 27 "PlateModesModel" "heights" "[D", Cond.methodLink RX5 79 yX5_isWood, Cond.instanceMethod yX5_isWood, Cond.selects RX5 yX5_isWood yX5_isWood, Cond.code yX5_isWood cX5_isWood 2 (some .boolean), Cond.methodLink RX5 83 yX5_spring, Cond.static yX5_spring, Cond.code yX5_spring cX5_spring 8 (some .double)]
def wsX5_makeAll_r2 : List Cond := [Cond.constantDouble RX5 58 (4611686018427387904), Cond.methodLink RX5 119 yX5_make, Cond.instanceMethod yX5_make, Cond.selects RX5 yX5_make yX5_make, Cond.code yX5_make cX5_make 6 (some .boolean), Cond.fieldLink RX5 36 "PlateModesModel" "shapes" "[D", Cond.constantDouble RX5 66 (4620693217682128896), Cond.fieldLink RX5 39 "PlateModesModel" "squares" "[D", Cond.methodLink RX5 110 yX5_sweep, Cond.instanceMethod yX5_sweep, Cond.selects RX5 yX5_sweep yX5_sweep, Cond.code yX5_sweep cX5_sweep 6 (some .boolean), Cond.constantDouble RX5 93 (4602678819172646912), Cond.methodLink RX5 95 yX5_force, Cond.instanceMethod yX5_force, Cond.selects RX5 yX5_force yX5_force, Cond.code yX5_force cX5_force 8 (some .double), Cond.constantDouble RX5 87 (4589168020290535424), Cond.methodLink RX5 99 yX5_hold, Cond.instanceMethod yX5_hold, Cond.selects RX5 yX5_hold yX5_hold, Cond.code yX5_hold cX5_hold 6 (some .double), Cond.methodLink RX5 103 yX5_productOf, Cond.instanceMethod yX5_productOf]
def wsX5_makeAll_r3 : List Cond := [Cond.selects RX5 yX5_productOf yX5_productOf, Cond.code yX5_productOf cX5_productOf 8 (some .double), Cond.methodLink RX5 89 yX5_mass, Cond.instanceMethod yX5_mass, Cond.selects RX5 yX5_mass yX5_mass, Cond.code yX5_mass cX5_mass 2 (some .double), Cond.fieldLink RX5 20 "PlateModesModel" "density" "D", Cond.methodLink RX5 106 yX5_root, Cond.static yX5_root, Cond.code yX5_root cX5_root 5 (some .double)]
def wsX5_makeAll : List Cond := .code yX5_makeAll cX5_makeAll 3 none :: ((wsX5_makeAll_r1 ++ (wsX5_makeAll_r2 ++ wsX5_makeAll_r3)) ++ wsX50)
def wsX5_modes_r1 : List Cond := [Cond.fieldLink RX5 55 "PlateModesModel" "thrown" "I", Cond.fieldLink RX5 116 "PlateModesModel" "many" "I", Cond.methodLink RX5 122 yX5_makeAll, Cond.instanceMethod yX5_makeAll, Cond.selects RX5 yX5_makeAll yX5_makeAll, Cond.initialized RX5, Cond.code yX5_makeAll cX5_makeAll 3 none, Cond.fieldLink RX5 72 "PlateModesModel" "made" "Z", Cond.methodLink RX5 113 yX5_springs, Cond.instanceMethod yX5_springs, Cond.selects RX5 yX5_springs yX5_springs, Cond.code yX5_springs cX5_springs 4 none, Cond.fieldLink RX5 52 "PlateModesModel" "height" "I", Cond.fieldLink RX5 48 "PlateModesModel" "width" "I", Cond.fieldLink RX5 30 "PlateModesModel" "right" "[D", Cond.fieldLink RX5 13 "PlateModesModel" "a" "D", Cond.fieldLink RX5 7 "PlateModesModel" "thicks" "[D", Cond.fieldLink RX5 33 "PlateModesModel" "down" "[D", Cond.fieldLink RX5 17 "PlateModesModel" "b" "D", Cond.fieldLink RX5 76 "PlateModesModel" "braces" "I", Cond.fieldLink RX5 23 "PlateModesModel" "ends" "[I", Cond.fieldLink RX5 27 "PlateModesModel" "heights" "[D", Cond.methodLink RX5 79 yX5_isWood, Cond.instanceMethod yX5_isWood]
def wsX5_modes_r2 : List Cond := [Cond.selects RX5 yX5_isWood yX5_isWood, Cond.code yX5_isWood cX5_isWood 2 (some .boolean), Cond.methodLink RX5 83 yX5_spring, Cond.static yX5_spring, Cond.code yX5_spring cX5_spring 8 (some .double), Cond.constantDouble RX5 58 (4611686018427387904), Cond.methodLink RX5 119 yX5_make, Cond.instanceMethod yX5_make, Cond.selects RX5 yX5_make yX5_make, Cond.code yX5_make cX5_make 6 (some .boolean), Cond.fieldLink RX5 36 "PlateModesModel" "shapes" "[D", Cond.constantDouble RX5 66 (4620693217682128896), Cond.fieldLink RX5 39 "PlateModesModel" "squares" "[D", Cond.methodLink RX5 110 yX5_sweep, Cond.instanceMethod yX5_sweep, Cond.selects RX5 yX5_sweep yX5_sweep, Cond.code yX5_sweep cX5_sweep 6 (some .boolean), Cond.constantDouble RX5 93 (4602678819172646912), Cond.methodLink RX5 95 yX5_force, Cond.instanceMethod yX5_force, Cond.selects RX5 yX5_force yX5_force, Cond.code yX5_force cX5_force 8 (some .double), Cond.constantDouble RX5 87 (4589168020290535424), Cond.methodLink RX5 99 yX5_hold]
def wsX5_modes_r3 : List Cond := [Cond.instanceMethod yX5_hold, Cond.selects RX5 yX5_hold yX5_hold, Cond.code yX5_hold cX5_hold 6 (some .double), Cond.methodLink RX5 103 yX5_productOf, Cond.instanceMethod yX5_productOf, Cond.selects RX5 yX5_productOf yX5_productOf, Cond.code yX5_productOf cX5_productOf 8 (some .double), Cond.methodLink RX5 89 yX5_mass, Cond.instanceMethod yX5_mass, Cond.selects RX5 yX5_mass yX5_mass, Cond.code yX5_mass cX5_mass 2 (some .double), Cond.fieldLink RX5 20 "PlateModesModel" "density" "D", Cond.methodLink RX5 106 yX5_root, Cond.static yX5_root, Cond.code yX5_root cX5_root 5 (some .double)]
def wsX5_modes : List Cond := .code yX5_modes cX5_modes 2 (some .int) :: ((wsX5_modes_r1 ++ (wsX5_modes_r2 ++ wsX5_modes_r3)) ++ wsX50)
def wsX5_noMode : List Cond := .code yX5_noMode cX5_noMode 2 (some .boolean) :: ([])
def wsX5_check : List Cond := .code yX5_check cX5_check 3 (some .int) :: ([.fieldLink RX5 72 "PlateModesModel" "made" "Z", .fieldLink RX5 116 "PlateModesModel" "many" "I"] ++ wsX50)
def wsX5_sumOf : List Cond := .code yX5_sumOf cX5_sumOf 6 (some .double) :: ([.fieldLink RX5 52 "PlateModesModel" "height" "I", .fieldLink RX5 48 "PlateModesModel" "width" "I", .fieldLink RX5 36 "PlateModesModel" "shapes" "[D", .methodLink RX5 79 yX5_isWood, .instanceMethod yX5_isWood, .selects RX5 yX5_isWood yX5_isWood, .initialized RX5, .code yX5_isWood cX5_isWood 2 (some .boolean), .fieldLink RX5 7 "PlateModesModel" "thicks" "[D"] ++ wsX50)
def wsX5_residue : List Cond := .code yX5_residue cX5_residue 9 (some .double) :: ([.fieldLink RX5 52 "PlateModesModel" "height" "I", .fieldLink RX5 48 "PlateModesModel" "width" "I", .fieldLink RX5 39 "PlateModesModel" "squares" "[D", .fieldLink RX5 36 "PlateModesModel" "shapes" "[D", .methodLink RX5 95 yX5_force, .instanceMethod yX5_force, .selects RX5 yX5_force yX5_force, .initialized RX5, .code yX5_force cX5_force 8 (some .double), .fieldLink RX5 30 "PlateModesModel" "right" "[D", .fieldLink RX5 33 "PlateModesModel" "down" "[D", .constantDouble RX5 87 (4589168020290535424), .methodLink RX5 89 yX5_mass, .instanceMethod yX5_mass, .selects RX5 yX5_mass yX5_mass, .code yX5_mass cX5_mass 2 (some .double), .fieldLink RX5 7 "PlateModesModel" "thicks" "[D", .fieldLink RX5 20 "PlateModesModel" "density" "D", .methodLink RX5 79 yX5_isWood, .instanceMethod yX5_isWood, .selects RX5 yX5_isWood yX5_isWood, .code yX5_isWood cX5_isWood 2 (some .boolean)] ++ wsX50)
def wsX5_mode_r1 : List Cond := [Cond.fieldLink RX5 55 "PlateModesModel" "thrown" "I", Cond.fieldLink RX5 39 "PlateModesModel" "squares" "[D", Cond.methodLink RX5 126 yX5_noMode, Cond.instanceMethod yX5_noMode, Cond.selects RX5 yX5_noMode yX5_noMode, Cond.initialized RX5, Cond.code yX5_noMode cX5_noMode 2 (some .boolean), Cond.methodLink RX5 129 yX5_check, Cond.instanceMethod yX5_check, Cond.selects RX5 yX5_check yX5_check, Cond.code yX5_check cX5_check 3 (some .int), Cond.fieldLink RX5 72 "PlateModesModel" "made" "Z", Cond.fieldLink RX5 116 "PlateModesModel" "many" "I", Cond.methodLink RX5 133 yX5_residue, Cond.instanceMethod yX5_residue, Cond.selects RX5 yX5_residue yX5_residue, Cond.code yX5_residue cX5_residue 9 (some .double), Cond.fieldLink RX5 52 "PlateModesModel" "height" "I", Cond.fieldLink RX5 48 "PlateModesModel" "width" "I", Cond.fieldLink RX5 36 "PlateModesModel" "shapes" "[D", Cond.methodLink RX5 95 yX5_force, Cond.instanceMethod yX5_force, Cond.selects RX5 yX5_force yX5_force, Cond.code yX5_force cX5_force 8 (some .double)]
def wsX5_mode_r2 : List Cond := [Cond.fieldLink RX5 30 "PlateModesModel" "right" "[D", Cond.fieldLink RX5 33 "PlateModesModel" "down" "[D", Cond.constantDouble RX5 87 (4589168020290535424), Cond.methodLink RX5 89 yX5_mass, Cond.instanceMethod yX5_mass, Cond.selects RX5 yX5_mass yX5_mass, Cond.code yX5_mass cX5_mass 2 (some .double), Cond.fieldLink RX5 7 "PlateModesModel" "thicks" "[D", Cond.fieldLink RX5 20 "PlateModesModel" "density" "D", Cond.methodLink RX5 79 yX5_isWood, Cond.instanceMethod yX5_isWood, Cond.selects RX5 yX5_isWood yX5_isWood, Cond.code yX5_isWood cX5_isWood 2 (some .boolean), Cond.methodLink RX5 136 yX5_sumOf, Cond.instanceMethod yX5_sumOf, Cond.selects RX5 yX5_sumOf yX5_sumOf, Cond.code yX5_sumOf cX5_sumOf 6 (some .double)]
def wsX5_mode : List Cond := .code yX5_mode cX5_mode 3 (some .double) :: ((wsX5_mode_r1 ++ wsX5_mode_r2) ++ wsX50)
def wsX5_shape : List Cond := .code yX5_shape cX5_shape 4 (some .double) :: ([.fieldLink RX5 55 "PlateModesModel" "thrown" "I", .fieldLink RX5 36 "PlateModesModel" "shapes" "[D", .methodLink RX5 126 yX5_noMode, .instanceMethod yX5_noMode, .selects RX5 yX5_noMode yX5_noMode, .initialized RX5, .code yX5_noMode cX5_noMode 2 (some .boolean), .methodLink RX5 60 yX5_noCell, .instanceMethod yX5_noCell, .selects RX5 yX5_noCell yX5_noCell, .code yX5_noCell cX5_noCell 3 (some .boolean), .fieldLink RX5 48 "PlateModesModel" "width" "I", .fieldLink RX5 52 "PlateModesModel" "height" "I", .methodLink RX5 129 yX5_check, .instanceMethod yX5_check, .selects RX5 yX5_check yX5_check, .code yX5_check cX5_check 3 (some .int), .fieldLink RX5 72 "PlateModesModel" "made" "Z", .fieldLink RX5 116 "PlateModesModel" "many" "I"] ++ wsX50)
def wsX5_product_r1 : List Cond := [Cond.fieldLink RX5 55 "PlateModesModel" "thrown" "I", Cond.methodLink RX5 126 yX5_noMode, Cond.instanceMethod yX5_noMode, Cond.selects RX5 yX5_noMode yX5_noMode, Cond.initialized RX5, Cond.code yX5_noMode cX5_noMode 2 (some .boolean), Cond.methodLink RX5 129 yX5_check, Cond.instanceMethod yX5_check, Cond.selects RX5 yX5_check yX5_check, Cond.code yX5_check cX5_check 3 (some .int), Cond.fieldLink RX5 72 "PlateModesModel" "made" "Z", Cond.fieldLink RX5 116 "PlateModesModel" "many" "I", Cond.methodLink RX5 103 yX5_productOf, Cond.instanceMethod yX5_productOf, Cond.selects RX5 yX5_productOf yX5_productOf, Cond.code yX5_productOf cX5_productOf 8 (some .double), Cond.fieldLink RX5 52 "PlateModesModel" "height" "I", Cond.fieldLink RX5 48 "PlateModesModel" "width" "I", Cond.fieldLink RX5 36 "PlateModesModel" "shapes" "[D", Cond.methodLink RX5 79 yX5_isWood, Cond.instanceMethod yX5_isWood, Cond.selects RX5 yX5_isWood yX5_isWood, Cond.code yX5_isWood cX5_isWood 2 (some .boolean), Cond.fieldLink RX5 7 "PlateModesModel" "thicks" "[D"]
def wsX5_product_r2 : List Cond := [Cond.methodLink RX5 89 yX5_mass, Cond.instanceMethod yX5_mass, Cond.selects RX5 yX5_mass yX5_mass, Cond.code yX5_mass cX5_mass 2 (some .double), Cond.fieldLink RX5 20 "PlateModesModel" "density" "D"]
def wsX5_product : List Cond := .code yX5_product cX5_product 3 (some .double) :: ((wsX5_product_r1 ++ wsX5_product_r2) ++ wsX50)
def wsX5_mirrored : List Cond := .code yX5_mirrored cX5_mirrored 6 (some .boolean) :: ([.fieldLink RX5 55 "PlateModesModel" "thrown" "I", .fieldLink RX5 52 "PlateModesModel" "height" "I", .fieldLink RX5 48 "PlateModesModel" "width" "I", .fieldLink RX5 7 "PlateModesModel" "thicks" "[D"] ++ wsX50)
def wsX5_coupled_r1 : List Cond := [Cond.constantDouble RX5 66 (4620693217682128896), Cond.fieldLink RX5 72 "PlateModesModel" "made" "Z", Cond.fieldLink RX5 116 "PlateModesModel" "many" "I", Cond.fieldLink RX5 55 "PlateModesModel" "thrown" "I", Cond.fieldLink RX5 39 "PlateModesModel" "squares" "[D", Cond.constantDouble RX5 139 (4616189618054758400), Cond.constantDouble RX5 58 (4611686018427387904), Cond.methodLink RX5 126 yX5_noMode, Cond.instanceMethod yX5_noMode, Cond.selects RX5 yX5_noMode yX5_noMode, Cond.initialized RX5, Cond.code yX5_noMode cX5_noMode 2 (some .boolean), Cond.methodLink RX5 68 yX5_between, Cond.static yX5_between, Cond.code yX5_between cX5_between 6 (some .boolean), Cond.methodLink RX5 136 yX5_sumOf, Cond.instanceMethod yX5_sumOf, Cond.selects RX5 yX5_sumOf yX5_sumOf, Cond.code yX5_sumOf cX5_sumOf 6 (some .double), Cond.fieldLink RX5 52 "PlateModesModel" "height" "I", Cond.fieldLink RX5 48 "PlateModesModel" "width" "I", Cond.fieldLink RX5 36 "PlateModesModel" "shapes" "[D", Cond.methodLink RX5 79 yX5_isWood, Cond.instanceMethod yX5_isWood]
def wsX5_coupled_r2 : List Cond := [Cond.selects RX5 yX5_isWood yX5_isWood, Cond.code yX5_isWood cX5_isWood 2 (some .boolean), Cond.fieldLink RX5 7 "PlateModesModel" "thicks" "[D", Cond.methodLink RX5 106 yX5_root, Cond.static yX5_root, Cond.code yX5_root cX5_root 5 (some .double)]
def wsX5_coupled : List Cond := .code yX5_coupled cX5_coupled 13 (some .double) :: ((wsX5_coupled_r1 ++ wsX5_coupled_r2) ++ wsX50)
def wsX5_weight : List Cond := .code yX5_weight cX5_weight 5 (some .double) :: ([.fieldLink RX5 55 "PlateModesModel" "thrown" "I", .fieldLink RX5 52 "PlateModesModel" "height" "I", .fieldLink RX5 48 "PlateModesModel" "width" "I", .methodLink RX5 89 yX5_mass, .instanceMethod yX5_mass, .selects RX5 yX5_mass yX5_mass, .initialized RX5, .code yX5_mass cX5_mass 2 (some .double), .fieldLink RX5 7 "PlateModesModel" "thicks" "[D", .fieldLink RX5 20 "PlateModesModel" "density" "D"] ++ wsX50)
def wsX5_want : List Cond := .code yX5_want cX5_want 4 (some .int) :: ([.constantDouble RX5 141 (4634204016564240384), .fieldLink RX5 143 "PlateModesModel" "wants" "I", .fieldLink RX5 55 "PlateModesModel" "thrown" "I", .fieldLink RX5 42 "PlateModesModel" "wanted" "[I", .fieldLink RX5 45 "PlateModesModel" "wishes" "[D", .methodLink RX5 68 yX5_between, .static yX5_between, .initialized RX5, .code yX5_between cX5_between 6 (some .boolean)] ++ wsX50)
def wsX5_needed : List Cond := .code yX5_needed cX5_needed 3 (some .int) :: ([.fieldLink RX5 143 "PlateModesModel" "wants" "I", .fieldLink RX5 42 "PlateModesModel" "wanted" "[I"] ++ wsX50)
def wsX5_total : List Cond := .code yX5_total cX5_total 6 (some .double) :: ([.fieldLink RX5 143 "PlateModesModel" "wants" "I", .fieldLink RX5 39 "PlateModesModel" "squares" "[D", .fieldLink RX5 42 "PlateModesModel" "wanted" "[I", .fieldLink RX5 45 "PlateModesModel" "wishes" "[D"] ++ wsX50)
def wsX5_thin_r1 : List Cond := [Cond.constantDouble RX5 64 (4593671619917905920), Cond.constantDouble RX5 66 (4620693217682128896), Cond.fieldLink RX5 55 "PlateModesModel" "thrown" "I", Cond.fieldLink RX5 72 "PlateModesModel" "made" "Z", Cond.fieldLink RX5 116 "PlateModesModel" "many" "I", Cond.fieldLink RX5 52 "PlateModesModel" "height" "I", Cond.fieldLink RX5 48 "PlateModesModel" "width" "I", Cond.fieldLink RX5 7 "PlateModesModel" "thicks" "[D", Cond.methodLink RX5 68 yX5_between, Cond.static yX5_between, Cond.initialized RX5, Cond.code yX5_between cX5_between 6 (some .boolean), Cond.methodLink RX5 146 yX5_needed, Cond.instanceMethod yX5_needed, Cond.selects RX5 yX5_needed yX5_needed, Cond.code yX5_needed cX5_needed 3 (some .int), Cond.fieldLink RX5 143 "PlateModesModel" "wants" "I", Cond.fieldLink RX5 42 "PlateModesModel" "wanted" "[I", Cond.methodLink RX5 122 yX5_makeAll, Cond.instanceMethod yX5_makeAll, Cond.selects RX5 yX5_makeAll yX5_makeAll, Cond.code yX5_makeAll cX5_makeAll 3 none, Cond.methodLink RX5 113 yX5_springs, Cond.instanceMethod yX5_springs]
def wsX5_thin_r2 : List Cond := [Cond.selects RX5 yX5_springs yX5_springs, Cond.code yX5_springs cX5_springs 4 none, Cond.fieldLink RX5 30 "PlateModesModel" "right" "[D", Cond.fieldLink RX5 13 "PlateModesModel" "a" "D", Cond.fieldLink RX5 33 "PlateModesModel" "down" "[D", Cond.fieldLink RX5 17 "PlateModesModel" "b" "D", Cond.fieldLink RX5 76 "PlateModesModel" "braces" "I", Cond.fieldLink RX5 23 "PlateModesModel" "ends" "[I", Cond.fieldLink RX5 27 "PlateModesModel" "heights" "[D", Cond.methodLink RX5 79 yX5_isWood, Cond.instanceMethod yX5_isWood, Cond.selects RX5 yX5_isWood yX5_isWood, Cond.code yX5_isWood cX5_isWood 2 (some .boolean), Cond.methodLink RX5 83 yX5_spring, Cond.static yX5_spring, Cond.code yX5_spring cX5_spring 8 (some .double), Cond.constantDouble RX5 58 (4611686018427387904), Cond.methodLink RX5 119 yX5_make, Cond.instanceMethod yX5_make, Cond.selects RX5 yX5_make yX5_make, Cond.code yX5_make cX5_make 6 (some .boolean), Cond.fieldLink RX5 36 "PlateModesModel" "shapes" "[D", Cond.fieldLink RX5 39 "PlateModesModel" "squares" "[D", Cond.methodLink RX5 110 yX5_sweep]
def wsX5_thin_r3 : List Cond := [Cond.instanceMethod yX5_sweep, Cond.selects RX5 yX5_sweep yX5_sweep, Cond.code yX5_sweep cX5_sweep 6 (some .boolean), Cond.constantDouble RX5 93 (4602678819172646912), Cond.methodLink RX5 95 yX5_force, Cond.instanceMethod yX5_force, Cond.selects RX5 yX5_force yX5_force, Cond.code yX5_force cX5_force 8 (some .double), Cond.constantDouble RX5 87 (4589168020290535424), Cond.methodLink RX5 99 yX5_hold, Cond.instanceMethod yX5_hold, Cond.selects RX5 yX5_hold yX5_hold, Cond.code yX5_hold cX5_hold 6 (some .double), Cond.methodLink RX5 103 yX5_productOf, Cond.instanceMethod yX5_productOf, Cond.selects RX5 yX5_productOf yX5_productOf, Cond.code yX5_productOf cX5_productOf 8 (some .double), Cond.methodLink RX5 89 yX5_mass, Cond.instanceMethod yX5_mass, Cond.selects RX5 yX5_mass yX5_mass, Cond.code yX5_mass cX5_mass 2 (some .double), Cond.fieldLink RX5 20 "PlateModesModel" "density" "D", Cond.methodLink RX5 106 yX5_root, Cond.static yX5_root]
def wsX5_thin_r4 : List Cond := [Cond.code yX5_root cX5_root 5 (some .double), Cond.methodLink RX5 150 yX5_total, Cond.instanceMethod yX5_total, Cond.selects RX5 yX5_total yX5_total, Cond.code yX5_total cX5_total 6 (some .double), Cond.fieldLink RX5 45 "PlateModesModel" "wishes" "[D"]
def wsX5_thin : List Cond := .code yX5_thin cX5_thin 17 (some .int) :: ((wsX5_thin_r1 ++ (wsX5_thin_r2 ++ (wsX5_thin_r3 ++ wsX5_thin_r4))) ++ wsX50)
def wsX5_sum : List Cond := .code yX5_sum cX5_sum 1 (some .double) :: ([.fieldLink RX5 143 "PlateModesModel" "wants" "I", .fieldLink RX5 72 "PlateModesModel" "made" "Z", .fieldLink RX5 116 "PlateModesModel" "many" "I", .fieldLink RX5 55 "PlateModesModel" "thrown" "I", .methodLink RX5 146 yX5_needed, .instanceMethod yX5_needed, .selects RX5 yX5_needed yX5_needed, .initialized RX5, .code yX5_needed cX5_needed 3 (some .int), .fieldLink RX5 42 "PlateModesModel" "wanted" "[I", .methodLink RX5 150 yX5_total, .instanceMethod yX5_total, .selects RX5 yX5_total yX5_total, .code yX5_total cX5_total 6 (some .double), .fieldLink RX5 39 "PlateModesModel" "squares" "[D", .fieldLink RX5 45 "PlateModesModel" "wishes" "[D"] ++ wsX50)
def wsX5_tap : List Cond := .code yX5_tap cX5_tap 8 (some .double) :: ([.constantDouble RX5 141 (4634204016564240384), .fieldLink RX5 72 "PlateModesModel" "made" "Z", .fieldLink RX5 116 "PlateModesModel" "many" "I", .fieldLink RX5 55 "PlateModesModel" "thrown" "I", .fieldLink RX5 36 "PlateModesModel" "shapes" "[D", .fieldLink RX5 39 "PlateModesModel" "squares" "[D", .methodLink RX5 126 yX5_noMode, .instanceMethod yX5_noMode, .selects RX5 yX5_noMode yX5_noMode, .initialized RX5, .code yX5_noMode cX5_noMode 2 (some .boolean), .methodLink RX5 60 yX5_noCell, .instanceMethod yX5_noCell, .selects RX5 yX5_noCell yX5_noCell, .code yX5_noCell cX5_noCell 3 (some .boolean), .fieldLink RX5 48 "PlateModesModel" "width" "I", .fieldLink RX5 52 "PlateModesModel" "height" "I", .methodLink RX5 68 yX5_between, .static yX5_between, .code yX5_between cX5_between 6 (some .boolean)] ++ wsX50)
def wsJ9_max_7cf53 : List Cond := .code yJ9_max_7cf53 cJ9_max_7cf53 2 (some .int) :: ([])
def wsJ9_min_7cf53 : List Cond := .code yJ9_min_7cf53 cJ9_min_7cf53 2 (some .int) :: ([])
def wsL_cell : List Cond := .code yL_cell cL_cell 2 (some .int) :: ([])
def wsL_wood_r1 : List Cond := [Cond.classLink RL 13 "java/lang/IndexOutOfBoundsException", Cond.classLink RL 15 "java/lang/IllegalArgumentException", Cond.methodLink RL 7 yX4_wood, Cond.instanceMethod yX4_wood, Cond.selects RX4 yX4_wood yX4_wood, Cond.initialized RX4, Cond.code yX4_wood cX4_wood 6 (some .boolean), Cond.constantDouble RX4 44 (4593671619917905920), Cond.constantDouble RX4 46 (4620693217682128896), Cond.fieldLink RX4 18 "PlateModes" "plate" "LPlateModes$Plate;", Cond.fieldLink RX4 27 "PlateModes" "made" "LPlateModes$ModeSet;", Cond.methodLink RX4 41 yX4_requireCell, Cond.instanceMethod yX4_requireCell, Cond.selects RX4 yX4_requireCell yX4_requireCell, Cond.code yX4_requireCell cX4_requireCell 3 none, Cond.classLink RX4 107 "java/lang/IndexOutOfBoundsException", Cond.initialized "java/lang/IndexOutOfBoundsException", Cond.methodLink RX4 186 yX2_hasCell, Cond.instanceMethod yX2_hasCell, Cond.selects RX2 yX2_hasCell yX2_hasCell, Cond.initialized RX2, Cond.code yX2_hasCell cX2_hasCell 3 (some .boolean), Cond.fieldLink RX2 9 "PlateModes$Plate" "width" "I", Cond.fieldLink RX2 15 "PlateModes$Plate" "height" "I"]
def wsL_wood_r2 : List Cond := [Cond.methodLink RX4 48 yX4_requireRange, Cond.static yX4_requireRange, Cond.code yX4_requireRange cX4_requireRange 6 none, Cond.classLink RX4 70 "java/lang/IllegalArgumentException", Cond.initialized "java/lang/IllegalArgumentException", Cond.methodLink RX4 52 yX2_cellAt, Cond.instanceMethod yX2_cellAt, Cond.selects RX2 yX2_cellAt yX2_cellAt, Cond.code yX2_cellAt cX2_cellAt 3 (some .int), Cond.methodLink RX4 56 yX2_thicknessOf, Cond.instanceMethod yX2_thicknessOf, Cond.selects RX2 yX2_thicknessOf yX2_thicknessOf, Cond.code yX2_thicknessOf cX2_thicknessOf 2 (some .double), Cond.fieldLink RX2 18 "PlateModes$Plate" "thick" "[D", Cond.methodLink RX4 60 yX2_setThickness, Cond.instanceMethod yX2_setThickness, Cond.selects RX2 yX2_setThickness yX2_setThickness, Cond.code yX2_setThickness cX2_setThickness 4 none, Cond.methodLink RX4 64 yX1_forget, Cond.instanceMethod yX1_forget, Cond.selects RX1 yX1_forget yX1_forget, Cond.initialized RX1, Cond.code yX1_forget cX1_forget 1 none, Cond.fieldLink RX1 36 "PlateModes$ModeSet" "count" "I"]
def wsL_wood : List Cond := .codeWith yL_wood cL_wood 7 (some .int) [(0, 19, 22, 13), (0, 19, 26, 15)] :: ((wsL_wood_r1 ++ wsL_wood_r2) ++ wsX40 ++ wsX20 ++ wsX10 ++ (vx_atS RX4 111 "java/lang/IndexOutOfBoundsException" ["java/lang/RuntimeException", "java/lang/Exception"]).filter goodWord ++ (vx_atS RX4 74 "java/lang/IllegalArgumentException" ["java/lang/RuntimeException", "java/lang/Exception"]).filter goodWord)
def wsL_rates_r1 : List Cond := [Cond.classLink RL 15 "java/lang/IllegalArgumentException", Cond.methodLink RL 17 yX4_rates, Cond.instanceMethod yX4_rates, Cond.selects RX4 yX4_rates yX4_rates, Cond.initialized RX4, Cond.code yX4_rates cX4_rates 7 none, Cond.constantDouble RX4 44 (4593671619917905920), Cond.constantDouble RX4 46 (4620693217682128896), Cond.fieldLink RX4 18 "PlateModes" "plate" "LPlateModes$Plate;", Cond.fieldLink RX4 27 "PlateModes" "made" "LPlateModes$ModeSet;", Cond.methodLink RX4 48 yX4_requireRange, Cond.static yX4_requireRange, Cond.code yX4_requireRange cX4_requireRange 6 none, Cond.classLink RX4 70 "java/lang/IllegalArgumentException", Cond.initialized "java/lang/IllegalArgumentException", Cond.methodLink RX4 67 yX2_setRates, Cond.instanceMethod yX2_setRates, Cond.selects RX2 yX2_setRates yX2_setRates, Cond.initialized RX2, Cond.code yX2_setRates cX2_setRates 7 none, Cond.fieldLink RX2 35 "PlateModes$Plate" "along" "D", Cond.fieldLink RX2 39 "PlateModes$Plate" "across" "D", Cond.fieldLink RX2 42 "PlateModes$Plate" "density" "D", Cond.methodLink RX4 64 yX1_forget]
def wsL_rates_r2 : List Cond := [Cond.instanceMethod yX1_forget, Cond.selects RX1 yX1_forget yX1_forget, Cond.initialized RX1, Cond.code yX1_forget cX1_forget 1 none, Cond.fieldLink RX1 36 "PlateModes$ModeSet" "count" "I"]
def wsL_rates : List Cond := .codeWith yL_rates cL_rates 8 (some .int) [(0, 8, 11, 15)] :: ((wsL_rates_r1 ++ wsL_rates_r2) ++ wsX40 ++ wsX20 ++ wsX10 ++ (vx_atS RX4 74 "java/lang/IllegalArgumentException" ["java/lang/RuntimeException", "java/lang/Exception"]).filter goodWord)
def wsL_brace_r1 : List Cond := [Cond.classLink RL 13 "java/lang/IndexOutOfBoundsException", Cond.classLink RL 15 "java/lang/IllegalArgumentException", Cond.classLink RL 25 "java/lang/IllegalStateException", Cond.methodLink RL 21 yX4_brace, Cond.instanceMethod yX4_brace, Cond.selects RX4 yX4_brace yX4_brace, Cond.initialized RX4, Cond.code yX4_brace cX4_brace 11 (some .int), Cond.classLink RX4 70 "java/lang/IllegalArgumentException", Cond.initialized "java/lang/IllegalArgumentException", Cond.classLink RX4 81 "java/lang/IllegalStateException", Cond.initialized "java/lang/IllegalStateException", Cond.constantDouble RX4 44 (4593671619917905920), Cond.constantDouble RX4 46 (4620693217682128896), Cond.fieldLink RX4 18 "PlateModes" "plate" "LPlateModes$Plate;", Cond.methodLink RX4 86 Lib.Math.min.name, Cond.static Lib.Math.min.name, Cond.initialized "java/lang/Math", Cond.code Lib.Math.min.name Lib.Math.min.code 2 (some .int), Cond.methodLink RX4 91 Lib.Math.max.name, Cond.static Lib.Math.max.name, Cond.code Lib.Math.max.name Lib.Math.max.code 2 (some .int), Cond.fieldLink RX4 27 "PlateModes" "made" "LPlateModes$ModeSet;", Cond.methodLink RX4 41 yX4_requireCell]
def wsL_brace_r2 : List Cond := [Cond.instanceMethod yX4_requireCell, Cond.selects RX4 yX4_requireCell yX4_requireCell, Cond.code yX4_requireCell cX4_requireCell 3 none, Cond.classLink RX4 107 "java/lang/IndexOutOfBoundsException", Cond.initialized "java/lang/IndexOutOfBoundsException", Cond.methodLink RX4 186 yX2_hasCell, Cond.instanceMethod yX2_hasCell, Cond.selects RX2 yX2_hasCell yX2_hasCell, Cond.initialized RX2, Cond.code yX2_hasCell cX2_hasCell 3 (some .boolean), Cond.fieldLink RX2 9 "PlateModes$Plate" "width" "I", Cond.fieldLink RX2 15 "PlateModes$Plate" "height" "I", Cond.methodLink RX4 48 yX4_requireRange, Cond.static yX4_requireRange, Cond.code yX4_requireRange cX4_requireRange 6 none, Cond.methodLink RX4 77 yX2_bracesFull, Cond.instanceMethod yX2_bracesFull, Cond.selects RX2 yX2_bracesFull yX2_bracesFull, Cond.code yX2_bracesFull cX2_bracesFull 1 (some .boolean), Cond.fieldLink RX2 31 "PlateModes$Plate" "braces" "LPlateModes$Braces;", Cond.methodLink RX2 45 yX0_full, Cond.instanceMethod yX0_full, Cond.selects RX0 yX0_full yX0_full, Cond.initialized RX0]
def wsL_brace_r3 : List Cond := [Cond.code yX0_full cX0_full 1 (some .boolean), Cond.fieldLink RX0 25 "PlateModes$Braces" "count" "I", Cond.methodLink RX4 52 yX2_cellAt, Cond.instanceMethod yX2_cellAt, Cond.selects RX2 yX2_cellAt yX2_cellAt, Cond.code yX2_cellAt cX2_cellAt 3 (some .int), Cond.methodLink RX4 64 yX1_forget, Cond.instanceMethod yX1_forget, Cond.selects RX1 yX1_forget yX1_forget, Cond.initialized RX1, Cond.code yX1_forget cX1_forget 1 none, Cond.fieldLink RX1 36 "PlateModes$ModeSet" "count" "I", Cond.methodLink RX4 94 yX2_addBrace, Cond.instanceMethod yX2_addBrace, Cond.selects RX2 yX2_addBrace yX2_addBrace, Cond.code yX2_addBrace cX2_addBrace 6 (some .int), Cond.methodLink RX2 49 yX0_add, Cond.instanceMethod yX0_add, Cond.selects RX0 yX0_add yX0_add, Cond.code yX0_add cX0_add 6 (some .int), Cond.fieldLink RX0 9 "PlateModes$Braces" "paces" "[I", Cond.fieldLink RX0 15 "PlateModes$Braces" "firsts" "[I", Cond.fieldLink RX0 18 "PlateModes$Braces" "lasts" "[I", Cond.fieldLink RX0 21 "PlateModes$Braces" "heights" "[D"]
def wsL_brace_r4 : List Cond := [Cond.methodLink RX0 29 yX0_full]
def wsL_brace : List Cond := .codeWith yL_brace cL_brace 9 (some .int) [(0, 16, 19, 13), (0, 16, 23, 15), (0, 16, 27, 25)] :: ((wsL_brace_r1 ++ (wsL_brace_r2 ++ (wsL_brace_r3 ++ wsL_brace_r4))) ++ wsX40 ++ wsX20 ++ wsX00 ++ wsX10 ++ (vx_atS RX4 74 "java/lang/IllegalArgumentException" ["java/lang/RuntimeException", "java/lang/Exception"]).filter goodWord ++ (vx_atS RX4 85 "java/lang/IllegalStateException" ["java/lang/RuntimeException", "java/lang/Exception"]).filter goodWord ++ (vx_atS RX4 111 "java/lang/IndexOutOfBoundsException" ["java/lang/RuntimeException", "java/lang/Exception"]).filter goodWord)
def wsL_modes_r1 : List Cond := [Cond.classLink RL 15 "java/lang/IllegalArgumentException", Cond.methodLink RL 27 yX4_modes, Cond.instanceMethod yX4_modes, Cond.selects RX4 yX4_modes yX4_modes, Cond.initialized RX4, Cond.code yX4_modes cX4_modes 2 (some .int), Cond.classLink RX4 70 "java/lang/IllegalArgumentException", Cond.initialized "java/lang/IllegalArgumentException", Cond.fieldLink RX4 27 "PlateModes" "made" "LPlateModes$ModeSet;", Cond.methodLink RX4 100 yX1_make, Cond.instanceMethod yX1_make, Cond.selects RX1 yX1_make yX1_make, Cond.initialized RX1, Cond.code yX1_make cX1_make 3 (some .int), Cond.fieldLink RX1 9 "PlateModes$ModeSet" "plate" "LPlateModes$Plate;", Cond.fieldLink RX1 36 "PlateModes$ModeSet" "count" "I", Cond.methodLink RX1 44 yX2_bindSprings, Cond.instanceMethod yX2_bindSprings, Cond.selects RX2 yX2_bindSprings yX2_bindSprings, Cond.initialized RX2, Cond.code yX2_bindSprings cX2_bindSprings 4 none, Cond.fieldLink RX2 15 "PlateModes$Plate" "height" "I", Cond.fieldLink RX2 9 "PlateModes$Plate" "width" "I", Cond.fieldLink RX2 22 "PlateModes$Plate" "toRight" "[D"]
def wsL_modes_r2 : List Cond := [Cond.fieldLink RX2 35 "PlateModes$Plate" "along" "D", Cond.fieldLink RX2 25 "PlateModes$Plate" "toBelow" "[D", Cond.fieldLink RX2 39 "PlateModes$Plate" "across" "D", Cond.fieldLink RX2 31 "PlateModes$Plate" "braces" "LPlateModes$Braces;", Cond.methodLink RX2 57 yX2_cellAt, Cond.instanceMethod yX2_cellAt, Cond.selects RX2 yX2_cellAt yX2_cellAt, Cond.code yX2_cellAt cX2_cellAt 3 (some .int), Cond.methodLink RX2 61 yX2_springOf, Cond.instanceMethod yX2_springOf, Cond.selects RX2 yX2_springOf yX2_springOf, Cond.code yX2_springOf cX2_springOf 7 (some .double), Cond.fieldLink RX2 18 "PlateModes$Plate" "thick" "[D", Cond.constantDouble RX2 77 (4611686018427387904), Cond.methodLink RX2 73 yX2_hasWood, Cond.instanceMethod yX2_hasWood, Cond.selects RX2 yX2_hasWood yX2_hasWood, Cond.code yX2_hasWood cX2_hasWood 2 (some .boolean), Cond.methodLink RX2 65 yX0_count, Cond.instanceMethod yX0_count, Cond.selects RX0 yX0_count yX0_count, Cond.initialized RX0, Cond.code yX0_count cX0_count 1 (some .int), Cond.fieldLink RX0 25 "PlateModes$Braces" "count" "I"]
def wsL_modes_r3 : List Cond := [Cond.methodLink RX2 69 yX2_stiffenBy, Cond.instanceMethod yX2_stiffenBy, Cond.selects RX2 yX2_stiffenBy yX2_stiffenBy, Cond.code yX2_stiffenBy cX2_stiffenBy 9 none, Cond.methodLink RX2 79 yX0_paceOf, Cond.instanceMethod yX0_paceOf, Cond.selects RX0 yX0_paceOf yX0_paceOf, Cond.code yX0_paceOf cX0_paceOf 2 (some .int), Cond.fieldLink RX0 9 "PlateModes$Braces" "paces" "[I", Cond.methodLink RX2 83 yX0_heightOf, Cond.instanceMethod yX0_heightOf, Cond.selects RX0 yX0_heightOf yX0_heightOf, Cond.code yX0_heightOf cX0_heightOf 2 (some .double), Cond.fieldLink RX0 21 "PlateModes$Braces" "heights" "[D", Cond.methodLink RX2 86 yX0_lastOf, Cond.instanceMethod yX0_lastOf, Cond.selects RX0 yX0_lastOf yX0_lastOf, Cond.code yX0_lastOf cX0_lastOf 2 (some .int), Cond.fieldLink RX0 18 "PlateModes$Braces" "lasts" "[I", Cond.methodLink RX2 89 yX0_firstOf, Cond.instanceMethod yX0_firstOf, Cond.selects RX0 yX0_firstOf yX0_firstOf, Cond.code yX0_firstOf cX0_firstOf 2 (some .int), Cond.fieldLink RX0 15 "PlateModes$Braces" "firsts" "[I"]
def wsL_modes_r4 : List Cond := [Cond.methodLink RX1 47 yX1_settle, Cond.instanceMethod yX1_settle, Cond.selects RX1 yX1_settle yX1_settle, Cond.code yX1_settle cX1_settle 7 (some .boolean), Cond.fieldLink RX1 23 "PlateModes$ModeSet" "shapes" "[[D", Cond.methodLink RX1 55 yX2_beginShape, Cond.instanceMethod yX2_beginShape, Cond.selects RX2 yX2_beginShape yX2_beginShape, Cond.code yX2_beginShape cX2_beginShape 8 none, Cond.constantDouble RX2 96 (4620693217682128896), Cond.methodLink RX1 59 yX2_relax, Cond.instanceMethod yX2_relax, Cond.selects RX2 yX2_relax yX2_relax, Cond.code yX2_relax cX2_relax 5 none, Cond.constantDouble RX2 98 (4602678819172646912), Cond.methodLink RX2 100 yX2_forceAt, Cond.instanceMethod yX2_forceAt, Cond.selects RX2 yX2_forceAt yX2_forceAt, Cond.code yX2_forceAt cX2_forceAt 9 (some .double), Cond.static yX4_ground, Cond.code yX4_ground cX4_ground 0 (some .double), Cond.constantDouble RX4 198 (4589168020290535424), Cond.methodLink RX2 104 yX2_heldAt, Cond.instanceMethod yX2_heldAt]
def wsL_modes_r5 : List Cond := [Cond.selects RX2 yX2_heldAt yX2_heldAt, Cond.code yX2_heldAt cX2_heldAt 6 (some .double), Cond.methodLink RX1 63 yX1_takeOut, Cond.instanceMethod yX1_takeOut, Cond.selects RX1 yX1_takeOut yX1_takeOut, Cond.code yX1_takeOut cX1_takeOut 6 none, Cond.methodLink RX1 40 yX2_productOver, Cond.instanceMethod yX2_productOver, Cond.selects RX2 yX2_productOver yX2_productOver, Cond.code yX2_productOver cX2_productOver 6 (some .double), Cond.methodLink RX2 53 yX2_massOf, Cond.instanceMethod yX2_massOf, Cond.selects RX2 yX2_massOf yX2_massOf, Cond.code yX2_massOf cX2_massOf 2 (some .double), Cond.fieldLink RX2 42 "PlateModes$Plate" "density" "D", Cond.static yX4_root, Cond.code yX4_root cX4_root 5 (some .double), Cond.constantDouble RX4 143 (4611686018427387904), Cond.methodLink RX1 51 yX1_measure, Cond.instanceMethod yX1_measure, Cond.selects RX1 yX1_measure yX1_measure, Cond.code yX1_measure cX1_measure 3 none, Cond.fieldLink RX1 26 "PlateModes$ModeSet" "squares" "[D", Cond.fieldLink RX1 30 "PlateModes$ModeSet" "residues" "[D"]
def wsL_modes_r6 : List Cond := [Cond.fieldLink RX1 33 "PlateModes$ModeSet" "totals" "[D", Cond.methodLink RX1 71 yX2_squareOver, Cond.instanceMethod yX2_squareOver, Cond.selects RX2 yX2_squareOver yX2_squareOver, Cond.code yX2_squareOver cX2_squareOver 7 (some .double), Cond.methodLink RX1 75 yX2_residueOver, Cond.instanceMethod yX2_residueOver, Cond.selects RX2 yX2_residueOver yX2_residueOver, Cond.code yX2_residueOver cX2_residueOver 13 (some .double), Cond.methodLink RX1 79 yX2_totalOver, Cond.instanceMethod yX2_totalOver, Cond.selects RX2 yX2_totalOver yX2_totalOver, Cond.code yX2_totalOver cX2_totalOver 5 (some .double)]
def wsL_modes : List Cond := .codeWith yL_modes cL_modes 4 (some .int) [(0, 9, 12, 15)] :: ((wsL_modes_r1 ++ (wsL_modes_r2 ++ (wsL_modes_r3 ++ (wsL_modes_r4 ++ (wsL_modes_r5 ++ wsL_modes_r6))))) ++ wsX40 ++ wsX10 ++ wsX20 ++ wsX00 ++ (vx_atS RX4 74 "java/lang/IllegalArgumentException" ["java/lang/RuntimeException", "java/lang/Exception"]).filter goodWord)
def wsL_mode_r1 : List Cond := [Cond.classLink RL 13 "java/lang/IndexOutOfBoundsException", Cond.classLink RL 25 "java/lang/IllegalStateException", Cond.methodLink RL 31 yX4_mode, Cond.instanceMethod yX4_mode, Cond.selects RX4 yX4_mode yX4_mode, Cond.initialized RX4, Cond.code yX4_mode cX4_mode 3 (some .double), Cond.classLink RX4 107 "java/lang/IndexOutOfBoundsException", Cond.initialized "java/lang/IndexOutOfBoundsException", Cond.fieldLink RX4 27 "PlateModes" "made" "LPlateModes$ModeSet;", Cond.methodLink RX4 103 yX4_requireMode, Cond.static yX4_requireMode, Cond.code yX4_requireMode cX4_requireMode 1 none, Cond.methodLink RX4 112 yX4_requireMade, Cond.instanceMethod yX4_requireMade, Cond.selects RX4 yX4_requireMade yX4_requireMade, Cond.code yX4_requireMade cX4_requireMade 2 none, Cond.classLink RX4 81 "java/lang/IllegalStateException", Cond.initialized "java/lang/IllegalStateException", Cond.methodLink RX4 181 yX1_count, Cond.instanceMethod yX1_count, Cond.selects RX1 yX1_count yX1_count, Cond.initialized RX1, Cond.code yX1_count cX1_count 1 (some .int)]
def wsL_mode_r2 : List Cond := [Cond.fieldLink RX1 36 "PlateModes$ModeSet" "count" "I", Cond.methodLink RX4 115 yX1_squareOf, Cond.instanceMethod yX1_squareOf, Cond.selects RX1 yX1_squareOf yX1_squareOf, Cond.code yX1_squareOf cX1_squareOf 2 (some .double), Cond.fieldLink RX1 26 "PlateModes$ModeSet" "squares" "[D", Cond.methodLink RX4 118 yX1_residueOf, Cond.instanceMethod yX1_residueOf, Cond.selects RX1 yX1_residueOf yX1_residueOf, Cond.code yX1_residueOf cX1_residueOf 2 (some .double), Cond.fieldLink RX1 30 "PlateModes$ModeSet" "residues" "[D", Cond.methodLink RX4 121 yX1_totalOf, Cond.instanceMethod yX1_totalOf, Cond.selects RX1 yX1_totalOf yX1_totalOf, Cond.code yX1_totalOf cX1_totalOf 2 (some .double), Cond.fieldLink RX1 33 "PlateModes$ModeSet" "totals" "[D"]
def wsL_mode : List Cond := .codeWith yL_mode cL_mode 5 (some .int) [(0, 9, 12, 13), (0, 9, 16, 25)] :: ((wsL_mode_r1 ++ wsL_mode_r2) ++ wsX40 ++ wsX10 ++ (vx_atS RX4 111 "java/lang/IndexOutOfBoundsException" ["java/lang/RuntimeException", "java/lang/Exception"]).filter goodWord ++ (vx_atS RX4 85 "java/lang/IllegalStateException" ["java/lang/RuntimeException", "java/lang/Exception"]).filter goodWord)
def wsL_shape_r1 : List Cond := [Cond.classLink RL 13 "java/lang/IndexOutOfBoundsException", Cond.classLink RL 25 "java/lang/IllegalStateException", Cond.methodLink RL 35 yX4_shape, Cond.instanceMethod yX4_shape, Cond.selects RX4 yX4_shape yX4_shape, Cond.initialized RX4, Cond.code yX4_shape cX4_shape 4 (some .double), Cond.fieldLink RX4 27 "PlateModes" "made" "LPlateModes$ModeSet;", Cond.fieldLink RX4 18 "PlateModes" "plate" "LPlateModes$Plate;", Cond.methodLink RX4 103 yX4_requireMode, Cond.static yX4_requireMode, Cond.code yX4_requireMode cX4_requireMode 1 none, Cond.classLink RX4 107 "java/lang/IndexOutOfBoundsException", Cond.initialized "java/lang/IndexOutOfBoundsException", Cond.methodLink RX4 41 yX4_requireCell, Cond.instanceMethod yX4_requireCell, Cond.selects RX4 yX4_requireCell yX4_requireCell, Cond.code yX4_requireCell cX4_requireCell 3 none, Cond.methodLink RX4 186 yX2_hasCell, Cond.instanceMethod yX2_hasCell, Cond.selects RX2 yX2_hasCell yX2_hasCell, Cond.initialized RX2, Cond.code yX2_hasCell cX2_hasCell 3 (some .boolean), Cond.fieldLink RX2 9 "PlateModes$Plate" "width" "I"]
def wsL_shape_r2 : List Cond := [Cond.fieldLink RX2 15 "PlateModes$Plate" "height" "I", Cond.methodLink RX4 112 yX4_requireMade, Cond.instanceMethod yX4_requireMade, Cond.selects RX4 yX4_requireMade yX4_requireMade, Cond.code yX4_requireMade cX4_requireMade 2 none, Cond.classLink RX4 81 "java/lang/IllegalStateException", Cond.initialized "java/lang/IllegalStateException", Cond.methodLink RX4 181 yX1_count, Cond.instanceMethod yX1_count, Cond.selects RX1 yX1_count yX1_count, Cond.initialized RX1, Cond.code yX1_count cX1_count 1 (some .int), Cond.fieldLink RX1 36 "PlateModes$ModeSet" "count" "I", Cond.methodLink RX4 52 yX2_cellAt, Cond.instanceMethod yX2_cellAt, Cond.selects RX2 yX2_cellAt yX2_cellAt, Cond.code yX2_cellAt cX2_cellAt 3 (some .int), Cond.methodLink RX4 124 yX1_shapeAt, Cond.instanceMethod yX1_shapeAt, Cond.selects RX1 yX1_shapeAt yX1_shapeAt, Cond.code yX1_shapeAt cX1_shapeAt 3 (some .double), Cond.fieldLink RX1 23 "PlateModes$ModeSet" "shapes" "[[D"]
def wsL_shape : List Cond := .codeWith yL_shape cL_shape 6 (some .int) [(0, 11, 14, 13), (0, 11, 18, 25)] :: ((wsL_shape_r1 ++ wsL_shape_r2) ++ wsX40 ++ wsX20 ++ wsX10 ++ (vx_atS RX4 111 "java/lang/IndexOutOfBoundsException" ["java/lang/RuntimeException", "java/lang/Exception"]).filter goodWord ++ (vx_atS RX4 85 "java/lang/IllegalStateException" ["java/lang/RuntimeException", "java/lang/Exception"]).filter goodWord)
def wsL_product_r1 : List Cond := [Cond.classLink RL 13 "java/lang/IndexOutOfBoundsException", Cond.classLink RL 25 "java/lang/IllegalStateException", Cond.methodLink RL 39 yX4_product, Cond.instanceMethod yX4_product, Cond.selects RX4 yX4_product yX4_product, Cond.initialized RX4, Cond.code yX4_product cX4_product 3 (some .double), Cond.fieldLink RX4 27 "PlateModes" "made" "LPlateModes$ModeSet;", Cond.methodLink RX4 103 yX4_requireMode, Cond.static yX4_requireMode, Cond.code yX4_requireMode cX4_requireMode 1 none, Cond.classLink RX4 107 "java/lang/IndexOutOfBoundsException", Cond.initialized "java/lang/IndexOutOfBoundsException", Cond.methodLink RX4 112 yX4_requireMade, Cond.instanceMethod yX4_requireMade, Cond.selects RX4 yX4_requireMade yX4_requireMade, Cond.code yX4_requireMade cX4_requireMade 2 none, Cond.classLink RX4 81 "java/lang/IllegalStateException", Cond.initialized "java/lang/IllegalStateException", Cond.methodLink RX4 181 yX1_count, Cond.instanceMethod yX1_count, Cond.selects RX1 yX1_count yX1_count, Cond.initialized RX1, Cond.code yX1_count cX1_count 1 (some .int)]
def wsL_product_r2 : List Cond := [Cond.fieldLink RX1 36 "PlateModes$ModeSet" "count" "I", Cond.methodLink RX4 128 yX1_productOf, Cond.instanceMethod yX1_productOf, Cond.selects RX1 yX1_productOf yX1_productOf, Cond.code yX1_productOf cX1_productOf 3 (some .double), Cond.fieldLink RX1 9 "PlateModes$ModeSet" "plate" "LPlateModes$Plate;", Cond.fieldLink RX1 23 "PlateModes$ModeSet" "shapes" "[[D", Cond.methodLink RX1 40 yX2_productOver, Cond.instanceMethod yX2_productOver, Cond.selects RX2 yX2_productOver yX2_productOver, Cond.initialized RX2, Cond.code yX2_productOver cX2_productOver 6 (some .double), Cond.fieldLink RX2 18 "PlateModes$Plate" "thick" "[D", Cond.methodLink RX2 73 yX2_hasWood, Cond.instanceMethod yX2_hasWood, Cond.selects RX2 yX2_hasWood yX2_hasWood, Cond.code yX2_hasWood cX2_hasWood 2 (some .boolean), Cond.methodLink RX2 53 yX2_massOf, Cond.instanceMethod yX2_massOf, Cond.selects RX2 yX2_massOf yX2_massOf, Cond.code yX2_massOf cX2_massOf 2 (some .double), Cond.fieldLink RX2 42 "PlateModes$Plate" "density" "D"]
def wsL_product : List Cond := .codeWith yL_product cL_product 5 (some .int) [(0, 9, 12, 13), (0, 9, 16, 25)] :: ((wsL_product_r1 ++ wsL_product_r2) ++ wsX40 ++ wsX10 ++ wsX20 ++ (vx_atS RX4 111 "java/lang/IndexOutOfBoundsException" ["java/lang/RuntimeException", "java/lang/Exception"]).filter goodWord ++ (vx_atS RX4 85 "java/lang/IllegalStateException" ["java/lang/RuntimeException", "java/lang/Exception"]).filter goodWord)
def wsL_coupled_r1 : List Cond := [Cond.classLink RL 13 "java/lang/IndexOutOfBoundsException", Cond.classLink RL 15 "java/lang/IllegalArgumentException", Cond.classLink RL 25 "java/lang/IllegalStateException", Cond.methodLink RL 42 yX4_coupled, Cond.instanceMethod yX4_coupled, Cond.selects RX4 yX4_coupled yX4_coupled, Cond.initialized RX4, Cond.code yX4_coupled cX4_coupled 15 (some .double), Cond.constantDouble RX4 46 (4620693217682128896), Cond.fieldLink RX4 27 "PlateModes" "made" "LPlateModes$ModeSet;", Cond.constantDouble RX4 137 (4616189618054758400), Cond.constantDouble RX4 143 (4611686018427387904), Cond.methodLink RX4 103 yX4_requireMode, Cond.static yX4_requireMode, Cond.code yX4_requireMode cX4_requireMode 1 none, Cond.classLink RX4 107 "java/lang/IndexOutOfBoundsException", Cond.initialized "java/lang/IndexOutOfBoundsException", Cond.methodLink RX4 48 yX4_requireRange, Cond.static yX4_requireRange, Cond.code yX4_requireRange cX4_requireRange 6 none, Cond.classLink RX4 70 "java/lang/IllegalArgumentException", Cond.initialized "java/lang/IllegalArgumentException", Cond.methodLink RX4 112 yX4_requireMade, Cond.instanceMethod yX4_requireMade]
def wsL_coupled_r2 : List Cond := [Cond.selects RX4 yX4_requireMade yX4_requireMade, Cond.code yX4_requireMade cX4_requireMade 2 none, Cond.classLink RX4 81 "java/lang/IllegalStateException", Cond.initialized "java/lang/IllegalStateException", Cond.methodLink RX4 181 yX1_count, Cond.instanceMethod yX1_count, Cond.selects RX1 yX1_count yX1_count, Cond.initialized RX1, Cond.code yX1_count cX1_count 1 (some .int), Cond.fieldLink RX1 36 "PlateModes$ModeSet" "count" "I", Cond.methodLink RX4 115 yX1_squareOf, Cond.instanceMethod yX1_squareOf, Cond.selects RX1 yX1_squareOf yX1_squareOf, Cond.code yX1_squareOf cX1_squareOf 2 (some .double), Cond.fieldLink RX1 26 "PlateModes$ModeSet" "squares" "[D", Cond.methodLink RX4 121 yX1_totalOf, Cond.instanceMethod yX1_totalOf, Cond.selects RX1 yX1_totalOf yX1_totalOf, Cond.code yX1_totalOf cX1_totalOf 2 (some .double), Cond.fieldLink RX1 33 "PlateModes$ModeSet" "totals" "[D", Cond.methodLink RX4 139 yX4_root, Cond.static yX4_root, Cond.code yX4_root cX4_root 5 (some .double)]
def wsL_coupled : List Cond := .codeWith yL_coupled cL_coupled 9 (some .int) [(0, 14, 17, 13), (0, 14, 21, 15), (0, 14, 25, 25)] :: ((wsL_coupled_r1 ++ wsL_coupled_r2) ++ wsX40 ++ wsX10 ++ (vx_atS RX4 111 "java/lang/IndexOutOfBoundsException" ["java/lang/RuntimeException", "java/lang/Exception"]).filter goodWord ++ (vx_atS RX4 74 "java/lang/IllegalArgumentException" ["java/lang/RuntimeException", "java/lang/Exception"]).filter goodWord ++ (vx_atS RX4 85 "java/lang/IllegalStateException" ["java/lang/RuntimeException", "java/lang/Exception"]).filter goodWord)
def wsL_want_r1 : List Cond := [Cond.classLink RL 13 "java/lang/IndexOutOfBoundsException", Cond.classLink RL 15 "java/lang/IllegalArgumentException", Cond.classLink RL 25 "java/lang/IllegalStateException", Cond.methodLink RL 46 yX4_want, Cond.instanceMethod yX4_want, Cond.selects RX4 yX4_want yX4_want, Cond.initialized RX4, Cond.code yX4_want cX4_want 4 (some .int), Cond.classLink RX4 81 "java/lang/IllegalStateException", Cond.initialized "java/lang/IllegalStateException", Cond.constantDouble RX4 149 (4634204016564240384), Cond.fieldLink RX4 37 "PlateModes" "wishes" "LPlateModes$Wishes;", Cond.methodLink RX4 103 yX4_requireMode, Cond.static yX4_requireMode, Cond.code yX4_requireMode cX4_requireMode 1 none, Cond.classLink RX4 107 "java/lang/IndexOutOfBoundsException", Cond.initialized "java/lang/IndexOutOfBoundsException", Cond.methodLink RX4 48 yX4_requireRange, Cond.static yX4_requireRange, Cond.code yX4_requireRange cX4_requireRange 6 none, Cond.classLink RX4 70 "java/lang/IllegalArgumentException", Cond.initialized "java/lang/IllegalArgumentException", Cond.methodLink RX4 151 yX3_full, Cond.instanceMethod yX3_full]
def wsL_want_r2 : List Cond := [Cond.selects RX3 yX3_full yX3_full, Cond.initialized RX3, Cond.code yX3_full cX3_full 1 (some .boolean), Cond.fieldLink RX3 19 "PlateModes$Wishes" "count" "I", Cond.methodLink RX4 156 yX3_add, Cond.instanceMethod yX3_add, Cond.selects RX3 yX3_add yX3_add, Cond.code yX3_add cX3_add 4 (some .int), Cond.fieldLink RX3 9 "PlateModes$Wishes" "wanted" "[I", Cond.fieldLink RX3 15 "PlateModes$Wishes" "wishedSquares" "[D", Cond.methodLink RX3 23 yX3_full]
def wsL_want : List Cond := .codeWith yL_want cL_want 6 (some .int) [(0, 11, 14, 13), (0, 11, 18, 15), (0, 11, 22, 25)] :: ((wsL_want_r1 ++ wsL_want_r2) ++ wsX40 ++ wsX30 ++ (vx_atS RX4 85 "java/lang/IllegalStateException" ["java/lang/RuntimeException", "java/lang/Exception"]).filter goodWord ++ (vx_atS RX4 111 "java/lang/IndexOutOfBoundsException" ["java/lang/RuntimeException", "java/lang/Exception"]).filter goodWord ++ (vx_atS RX4 74 "java/lang/IllegalArgumentException" ["java/lang/RuntimeException", "java/lang/Exception"]).filter goodWord)
def wsL_thin_r1 : List Cond := [Cond.classLink RL 15 "java/lang/IllegalArgumentException", Cond.classLink RL 25 "java/lang/IllegalStateException", Cond.methodLink RL 50 yX4_thin, Cond.instanceMethod yX4_thin, Cond.selects RX4 yX4_thin yX4_thin, Cond.initialized RX4, Cond.code yX4_thin cX4_thin 12 (some .int), Cond.classLink RX4 81 "java/lang/IllegalStateException", Cond.initialized "java/lang/IllegalStateException", Cond.constantDouble RX4 44 (4593671619917905920), Cond.constantDouble RX4 46 (4620693217682128896), Cond.fieldLink RX4 37 "PlateModes" "wishes" "LPlateModes$Wishes;", Cond.fieldLink RX4 31 "PlateModes" "tried" "LPlateModes$ModeSet;", Cond.fieldLink RX4 18 "PlateModes" "plate" "LPlateModes$Plate;", Cond.fieldLink RX4 27 "PlateModes" "made" "LPlateModes$ModeSet;", Cond.methodLink RX4 48 yX4_requireRange, Cond.static yX4_requireRange, Cond.code yX4_requireRange cX4_requireRange 6 none, Cond.classLink RX4 70 "java/lang/IllegalArgumentException", Cond.initialized "java/lang/IllegalArgumentException", Cond.methodLink RX4 160 yX3_modesNeeded, Cond.instanceMethod yX3_modesNeeded, Cond.selects RX3 yX3_modesNeeded yX3_modesNeeded, Cond.initialized RX3]
def wsL_thin_r2 : List Cond := [Cond.code yX3_modesNeeded cX3_modesNeeded 3 (some .int), Cond.fieldLink RX3 19 "PlateModes$Wishes" "count" "I", Cond.fieldLink RX3 9 "PlateModes$Wishes" "wanted" "[I", Cond.methodLink RX3 27 Lib.Math.max.name, Cond.static Lib.Math.max.name, Cond.initialized "java/lang/Math", Cond.code Lib.Math.max.name Lib.Math.max.code 2 (some .int), Cond.methodLink RX4 100 yX1_make, Cond.instanceMethod yX1_make, Cond.selects RX1 yX1_make yX1_make, Cond.initialized RX1, Cond.code yX1_make cX1_make 3 (some .int), Cond.fieldLink RX1 9 "PlateModes$ModeSet" "plate" "LPlateModes$Plate;", Cond.fieldLink RX1 36 "PlateModes$ModeSet" "count" "I", Cond.methodLink RX1 44 yX2_bindSprings, Cond.instanceMethod yX2_bindSprings, Cond.selects RX2 yX2_bindSprings yX2_bindSprings, Cond.initialized RX2, Cond.code yX2_bindSprings cX2_bindSprings 4 none, Cond.fieldLink RX2 15 "PlateModes$Plate" "height" "I", Cond.fieldLink RX2 9 "PlateModes$Plate" "width" "I", Cond.fieldLink RX2 22 "PlateModes$Plate" "toRight" "[D", Cond.fieldLink RX2 35 "PlateModes$Plate" "along" "D", Cond.fieldLink RX2 25 "PlateModes$Plate" "toBelow" "[D"]
def wsL_thin_r3 : List Cond := [Cond.fieldLink RX2 39 "PlateModes$Plate" "across" "D", Cond.fieldLink RX2 31 "PlateModes$Plate" "braces" "LPlateModes$Braces;", Cond.methodLink RX2 57 yX2_cellAt, Cond.instanceMethod yX2_cellAt, Cond.selects RX2 yX2_cellAt yX2_cellAt, Cond.code yX2_cellAt cX2_cellAt 3 (some .int), Cond.methodLink RX2 61 yX2_springOf, Cond.instanceMethod yX2_springOf, Cond.selects RX2 yX2_springOf yX2_springOf, Cond.code yX2_springOf cX2_springOf 7 (some .double), Cond.fieldLink RX2 18 "PlateModes$Plate" "thick" "[D", Cond.constantDouble RX2 77 (4611686018427387904), Cond.methodLink RX2 73 yX2_hasWood, Cond.instanceMethod yX2_hasWood, Cond.selects RX2 yX2_hasWood yX2_hasWood, Cond.code yX2_hasWood cX2_hasWood 2 (some .boolean), Cond.methodLink RX2 65 yX0_count, Cond.instanceMethod yX0_count, Cond.selects RX0 yX0_count yX0_count, Cond.initialized RX0, Cond.code yX0_count cX0_count 1 (some .int), Cond.fieldLink RX0 25 "PlateModes$Braces" "count" "I", Cond.methodLink RX2 69 yX2_stiffenBy, Cond.instanceMethod yX2_stiffenBy]
def wsL_thin_r4 : List Cond := [Cond.selects RX2 yX2_stiffenBy yX2_stiffenBy, Cond.code yX2_stiffenBy cX2_stiffenBy 9 none, Cond.methodLink RX2 79 yX0_paceOf, Cond.instanceMethod yX0_paceOf, Cond.selects RX0 yX0_paceOf yX0_paceOf, Cond.code yX0_paceOf cX0_paceOf 2 (some .int), Cond.fieldLink RX0 9 "PlateModes$Braces" "paces" "[I", Cond.methodLink RX2 83 yX0_heightOf, Cond.instanceMethod yX0_heightOf, Cond.selects RX0 yX0_heightOf yX0_heightOf, Cond.code yX0_heightOf cX0_heightOf 2 (some .double), Cond.fieldLink RX0 21 "PlateModes$Braces" "heights" "[D", Cond.methodLink RX2 86 yX0_lastOf, Cond.instanceMethod yX0_lastOf, Cond.selects RX0 yX0_lastOf yX0_lastOf, Cond.code yX0_lastOf cX0_lastOf 2 (some .int), Cond.fieldLink RX0 18 "PlateModes$Braces" "lasts" "[I", Cond.methodLink RX2 89 yX0_firstOf, Cond.instanceMethod yX0_firstOf, Cond.selects RX0 yX0_firstOf yX0_firstOf, Cond.code yX0_firstOf cX0_firstOf 2 (some .int), Cond.fieldLink RX0 15 "PlateModes$Braces" "firsts" "[I", Cond.methodLink RX1 47 yX1_settle, Cond.instanceMethod yX1_settle]
def wsL_thin_r5 : List Cond := [Cond.selects RX1 yX1_settle yX1_settle, Cond.code yX1_settle cX1_settle 7 (some .boolean), Cond.fieldLink RX1 23 "PlateModes$ModeSet" "shapes" "[[D", Cond.methodLink RX1 55 yX2_beginShape, Cond.instanceMethod yX2_beginShape, Cond.selects RX2 yX2_beginShape yX2_beginShape, Cond.code yX2_beginShape cX2_beginShape 8 none, Cond.constantDouble RX2 96 (4620693217682128896), Cond.methodLink RX1 59 yX2_relax, Cond.instanceMethod yX2_relax, Cond.selects RX2 yX2_relax yX2_relax, Cond.code yX2_relax cX2_relax 5 none, Cond.constantDouble RX2 98 (4602678819172646912), Cond.methodLink RX2 100 yX2_forceAt, Cond.instanceMethod yX2_forceAt, Cond.selects RX2 yX2_forceAt yX2_forceAt, Cond.code yX2_forceAt cX2_forceAt 9 (some .double), Cond.static yX4_ground, Cond.code yX4_ground cX4_ground 0 (some .double), Cond.constantDouble RX4 198 (4589168020290535424), Cond.methodLink RX2 104 yX2_heldAt, Cond.instanceMethod yX2_heldAt, Cond.selects RX2 yX2_heldAt yX2_heldAt, Cond.code yX2_heldAt cX2_heldAt 6 (some .double)]
def wsL_thin_r6 : List Cond := [Cond.methodLink RX1 63 yX1_takeOut, Cond.instanceMethod yX1_takeOut, Cond.selects RX1 yX1_takeOut yX1_takeOut, Cond.code yX1_takeOut cX1_takeOut 6 none, Cond.methodLink RX1 40 yX2_productOver, Cond.instanceMethod yX2_productOver, Cond.selects RX2 yX2_productOver yX2_productOver, Cond.code yX2_productOver cX2_productOver 6 (some .double), Cond.methodLink RX2 53 yX2_massOf, Cond.instanceMethod yX2_massOf, Cond.selects RX2 yX2_massOf yX2_massOf, Cond.code yX2_massOf cX2_massOf 2 (some .double), Cond.fieldLink RX2 42 "PlateModes$Plate" "density" "D", Cond.static yX4_root, Cond.code yX4_root cX4_root 5 (some .double), Cond.constantDouble RX4 143 (4611686018427387904), Cond.methodLink RX1 51 yX1_measure, Cond.instanceMethod yX1_measure, Cond.selects RX1 yX1_measure yX1_measure, Cond.code yX1_measure cX1_measure 3 none, Cond.fieldLink RX1 26 "PlateModes$ModeSet" "squares" "[D", Cond.fieldLink RX1 30 "PlateModes$ModeSet" "residues" "[D", Cond.fieldLink RX1 33 "PlateModes$ModeSet" "totals" "[D", Cond.methodLink RX1 71 yX2_squareOver]
def wsL_thin_r7 : List Cond := [Cond.instanceMethod yX2_squareOver, Cond.selects RX2 yX2_squareOver yX2_squareOver, Cond.code yX2_squareOver cX2_squareOver 7 (some .double), Cond.methodLink RX1 75 yX2_residueOver, Cond.instanceMethod yX2_residueOver, Cond.selects RX2 yX2_residueOver yX2_residueOver, Cond.code yX2_residueOver cX2_residueOver 13 (some .double), Cond.methodLink RX1 79 yX2_totalOver, Cond.instanceMethod yX2_totalOver, Cond.selects RX2 yX2_totalOver yX2_totalOver, Cond.code yX2_totalOver cX2_totalOver 5 (some .double), Cond.methodLink RX4 166 yX3_missedBy, Cond.instanceMethod yX3_missedBy, Cond.selects RX3 yX3_missedBy yX3_missedBy, Cond.code yX3_missedBy cX3_missedBy 7 (some .double), Cond.fieldLink RX3 15 "PlateModes$Wishes" "wishedSquares" "[D", Cond.methodLink RX3 33 yX1_squareOf, Cond.instanceMethod yX1_squareOf, Cond.selects RX1 yX1_squareOf yX1_squareOf, Cond.code yX1_squareOf cX1_squareOf 2 (some .double), Cond.methodLink RX4 170 yX2_cells, Cond.instanceMethod yX2_cells, Cond.selects RX2 yX2_cells yX2_cells, Cond.code yX2_cells cX2_cells 1 (some .int)]
def wsL_thin_r8 : List Cond := [Cond.methodLink RX4 173 yX2_hasWood, Cond.methodLink RX4 56 yX2_thicknessOf, Cond.instanceMethod yX2_thicknessOf, Cond.selects RX2 yX2_thicknessOf yX2_thicknessOf, Cond.code yX2_thicknessOf cX2_thicknessOf 2 (some .double), Cond.methodLink RX4 177 yX4_tryThinner, Cond.instanceMethod yX4_tryThinner, Cond.selects RX4 yX4_tryThinner yX4_tryThinner, Cond.code yX4_tryThinner cX4_tryThinner 11 (some .double), Cond.methodLink RX4 60 yX2_setThickness, Cond.instanceMethod yX2_setThickness, Cond.selects RX2 yX2_setThickness yX2_setThickness, Cond.code yX2_setThickness cX2_setThickness 4 none]
def wsL_thin : List Cond := .codeWith yL_thin cL_thin 7 (some .int) [(0, 11, 14, 15), (0, 11, 18, 25)] :: ((wsL_thin_r1 ++ (wsL_thin_r2 ++ (wsL_thin_r3 ++ (wsL_thin_r4 ++ (wsL_thin_r5 ++ (wsL_thin_r6 ++ (wsL_thin_r7 ++ wsL_thin_r8))))))) ++ wsX40 ++ wsX30 ++ wsX10 ++ wsX20 ++ wsX00 ++ (vx_atS RX4 85 "java/lang/IllegalStateException" ["java/lang/RuntimeException", "java/lang/Exception"]).filter goodWord ++ (vx_atS RX4 74 "java/lang/IllegalArgumentException" ["java/lang/RuntimeException", "java/lang/Exception"]).filter goodWord)
def wsL_sum_r1 : List Cond := [Cond.classLink RL 25 "java/lang/IllegalStateException", Cond.methodLink RL 54 yX4_sum, Cond.instanceMethod yX4_sum, Cond.selects RX4 yX4_sum yX4_sum, Cond.initialized RX4, Cond.code yX4_sum cX4_sum 2 (some .double), Cond.classLink RX4 81 "java/lang/IllegalStateException", Cond.initialized "java/lang/IllegalStateException", Cond.fieldLink RX4 37 "PlateModes" "wishes" "LPlateModes$Wishes;", Cond.fieldLink RX4 27 "PlateModes" "made" "LPlateModes$ModeSet;", Cond.methodLink RX4 160 yX3_modesNeeded, Cond.instanceMethod yX3_modesNeeded, Cond.selects RX3 yX3_modesNeeded yX3_modesNeeded, Cond.initialized RX3, Cond.code yX3_modesNeeded cX3_modesNeeded 3 (some .int), Cond.fieldLink RX3 19 "PlateModes$Wishes" "count" "I", Cond.fieldLink RX3 9 "PlateModes$Wishes" "wanted" "[I", Cond.methodLink RX3 27 Lib.Math.max.name, Cond.static Lib.Math.max.name, Cond.initialized "java/lang/Math", Cond.code Lib.Math.max.name Lib.Math.max.code 2 (some .int), Cond.methodLink RX4 181 yX1_count, Cond.instanceMethod yX1_count, Cond.selects RX1 yX1_count yX1_count]
def wsL_sum_r2 : List Cond := [Cond.initialized RX1, Cond.code yX1_count cX1_count 1 (some .int), Cond.fieldLink RX1 36 "PlateModes$ModeSet" "count" "I", Cond.methodLink RX4 166 yX3_missedBy, Cond.instanceMethod yX3_missedBy, Cond.selects RX3 yX3_missedBy yX3_missedBy, Cond.code yX3_missedBy cX3_missedBy 7 (some .double), Cond.fieldLink RX3 15 "PlateModes$Wishes" "wishedSquares" "[D", Cond.methodLink RX3 33 yX1_squareOf, Cond.instanceMethod yX1_squareOf, Cond.selects RX1 yX1_squareOf yX1_squareOf, Cond.code yX1_squareOf cX1_squareOf 2 (some .double), Cond.fieldLink RX1 26 "PlateModes$ModeSet" "squares" "[D"]
def wsL_sum : List Cond := .codeWith yL_sum cL_sum 3 (some .int) [(0, 7, 10, 25)] :: ((wsL_sum_r1 ++ wsL_sum_r2) ++ wsX40 ++ wsX30 ++ wsX10 ++ (vx_atS RX4 85 "java/lang/IllegalStateException" ["java/lang/RuntimeException", "java/lang/Exception"]).filter goodWord)
def wsL_tap_r1 : List Cond := [Cond.classLink RL 13 "java/lang/IndexOutOfBoundsException", Cond.classLink RL 15 "java/lang/IllegalArgumentException", Cond.classLink RL 25 "java/lang/IllegalStateException", Cond.methodLink RL 58 yX4_tap, Cond.instanceMethod yX4_tap, Cond.selects RX4 yX4_tap yX4_tap, Cond.initialized RX4, Cond.code yX4_tap cX4_tap 10 (some .double), Cond.constantDouble RX4 149 (4634204016564240384), Cond.fieldLink RX4 27 "PlateModes" "made" "LPlateModes$ModeSet;", Cond.fieldLink RX4 18 "PlateModes" "plate" "LPlateModes$Plate;", Cond.methodLink RX4 103 yX4_requireMode, Cond.static yX4_requireMode, Cond.code yX4_requireMode cX4_requireMode 1 none, Cond.classLink RX4 107 "java/lang/IndexOutOfBoundsException", Cond.initialized "java/lang/IndexOutOfBoundsException", Cond.methodLink RX4 41 yX4_requireCell, Cond.instanceMethod yX4_requireCell, Cond.selects RX4 yX4_requireCell yX4_requireCell, Cond.code yX4_requireCell cX4_requireCell 3 none, Cond.methodLink RX4 186 yX2_hasCell, Cond.instanceMethod yX2_hasCell, Cond.selects RX2 yX2_hasCell yX2_hasCell, Cond.initialized RX2]
def wsL_tap_r2 : List Cond := [Cond.code yX2_hasCell cX2_hasCell 3 (some .boolean), Cond.fieldLink RX2 9 "PlateModes$Plate" "width" "I", Cond.fieldLink RX2 15 "PlateModes$Plate" "height" "I", Cond.methodLink RX4 48 yX4_requireRange, Cond.static yX4_requireRange, Cond.code yX4_requireRange cX4_requireRange 6 none, Cond.classLink RX4 70 "java/lang/IllegalArgumentException", Cond.initialized "java/lang/IllegalArgumentException", Cond.methodLink RX4 112 yX4_requireMade, Cond.instanceMethod yX4_requireMade, Cond.selects RX4 yX4_requireMade yX4_requireMade, Cond.code yX4_requireMade cX4_requireMade 2 none, Cond.classLink RX4 81 "java/lang/IllegalStateException", Cond.initialized "java/lang/IllegalStateException", Cond.methodLink RX4 181 yX1_count, Cond.instanceMethod yX1_count, Cond.selects RX1 yX1_count yX1_count, Cond.initialized RX1, Cond.code yX1_count cX1_count 1 (some .int), Cond.fieldLink RX1 36 "PlateModes$ModeSet" "count" "I", Cond.methodLink RX4 52 yX2_cellAt, Cond.instanceMethod yX2_cellAt, Cond.selects RX2 yX2_cellAt yX2_cellAt, Cond.code yX2_cellAt cX2_cellAt 3 (some .int)]
def wsL_tap_r3 : List Cond := [Cond.methodLink RX4 124 yX1_shapeAt, Cond.instanceMethod yX1_shapeAt, Cond.selects RX1 yX1_shapeAt yX1_shapeAt, Cond.code yX1_shapeAt cX1_shapeAt 3 (some .double), Cond.fieldLink RX1 23 "PlateModes$ModeSet" "shapes" "[[D", Cond.methodLink RX4 115 yX1_squareOf, Cond.instanceMethod yX1_squareOf, Cond.selects RX1 yX1_squareOf yX1_squareOf, Cond.code yX1_squareOf cX1_squareOf 2 (some .double), Cond.fieldLink RX1 26 "PlateModes$ModeSet" "squares" "[D"]
def wsL_tap : List Cond := .codeWith yL_tap cL_tap 8 (some .int) [(0, 13, 16, 13), (0, 13, 20, 15), (0, 13, 24, 25)] :: ((wsL_tap_r1 ++ (wsL_tap_r2 ++ wsL_tap_r3)) ++ wsX40 ++ wsX20 ++ wsX10 ++ (vx_atS RX4 111 "java/lang/IndexOutOfBoundsException" ["java/lang/RuntimeException", "java/lang/Exception"]).filter goodWord ++ (vx_atS RX4 74 "java/lang/IllegalArgumentException" ["java/lang/RuntimeException", "java/lang/Exception"]).filter goodWord ++ (vx_atS RX4 85 "java/lang/IllegalStateException" ["java/lang/RuntimeException", "java/lang/Exception"]).filter goodWord)
def wsL_law0_r1 : List Cond := [Cond.classLink RL 8 RX4, Cond.instantiable RX4 4, Cond.initialized RX4, Cond.classLink RL 71 RX5, Cond.instantiable RX5 19, Cond.initialized RX5, Cond.arrayClass .long, Cond.arrayClass .double, Cond.constantDouble RL 74 (4593671619917905920), Cond.methodLink RL 62 yL_cell, Cond.static yL_cell, Cond.initialized RL, Cond.code yL_cell cL_cell 2 (some .int), Cond.methodLink RL 68 yX4_init, Cond.instanceMethod yX4_init, Cond.code yX4_init cX4_init 3 none, Cond.methodLink RX4 1 objectInit, Cond.instanceMethod objectInit, Cond.code objectInit ⟨#[0xb1]⟩ 1 none, Cond.classLink RX4 7 RX2, Cond.instantiable RX2 9, Cond.initialized RX2, Cond.fieldLink RX4 18 "PlateModes" "plate" "LPlateModes$Plate;", Cond.classLink RX4 22 RX1]
def wsL_law0_r2 : List Cond := [Cond.instantiable RX1 6, Cond.initialized RX1, Cond.fieldLink RX4 27 "PlateModes" "made" "LPlateModes$ModeSet;", Cond.fieldLink RX4 31 "PlateModes" "tried" "LPlateModes$ModeSet;", Cond.classLink RX4 34 RX3, Cond.instantiable RX3 3, Cond.initialized RX3, Cond.fieldLink RX4 37 "PlateModes" "wishes" "LPlateModes$Wishes;", Cond.methodLink RX4 9 yX4_nearestSide, Cond.static yX4_nearestSide, Cond.code yX4_nearestSide cX4_nearestSide 1 (some .int), Cond.methodLink RX4 86 Lib.Math.min.name, Cond.static Lib.Math.min.name, Cond.initialized "java/lang/Math", Cond.code Lib.Math.min.name Lib.Math.min.code 2 (some .int), Cond.methodLink RX4 91 Lib.Math.max.name, Cond.static Lib.Math.max.name, Cond.code Lib.Math.max.name Lib.Math.max.code 2 (some .int), Cond.methodLink RX4 15 yX2_init, Cond.instanceMethod yX2_init, Cond.code yX2_init cX2_init 4 none, Cond.methodLink RX2 3 objectInit, Cond.fieldLink RX2 9 "PlateModes$Plate" "width" "I", Cond.fieldLink RX2 15 "PlateModes$Plate" "height" "I"]
def wsL_law0_r3 : List Cond := [Cond.fieldLink RX2 18 "PlateModes$Plate" "thick" "[D", Cond.fieldLink RX2 22 "PlateModes$Plate" "toRight" "[D", Cond.fieldLink RX2 25 "PlateModes$Plate" "toBelow" "[D", Cond.classLink RX2 28 RX0, Cond.instantiable RX0 5, Cond.initialized RX0, Cond.fieldLink RX2 31 "PlateModes$Plate" "braces" "LPlateModes$Braces;", Cond.fieldLink RX2 35 "PlateModes$Plate" "along" "D", Cond.fieldLink RX2 39 "PlateModes$Plate" "across" "D", Cond.fieldLink RX2 42 "PlateModes$Plate" "density" "D", Cond.methodLink RX2 30 yX0_init, Cond.instanceMethod yX0_init, Cond.code yX0_init cX0_init 1 none, Cond.methodLink RX0 3 objectInit, Cond.arrayClass .int, Cond.fieldLink RX0 9 "PlateModes$Braces" "paces" "[I", Cond.fieldLink RX0 15 "PlateModes$Braces" "firsts" "[I", Cond.fieldLink RX0 18 "PlateModes$Braces" "lasts" "[I", Cond.fieldLink RX0 21 "PlateModes$Braces" "heights" "[D", Cond.methodLink RX4 24 yX1_init, Cond.instanceMethod yX1_init, Cond.code yX1_init cX1_init 2 none, Cond.methodLink RX1 3 objectInit, Cond.fieldLink RX1 9 "PlateModes$ModeSet" "plate" "LPlateModes$Plate;"]
def wsL_law0_r4 : List Cond := [Cond.classLink RX1 21 "[[D", Cond.fieldLink RX1 23 "PlateModes$ModeSet" "shapes" "[[D", Cond.fieldLink RX1 26 "PlateModes$ModeSet" "squares" "[D", Cond.fieldLink RX1 30 "PlateModes$ModeSet" "residues" "[D", Cond.fieldLink RX1 33 "PlateModes$ModeSet" "totals" "[D", Cond.methodLink RX1 15 yX2_cells, Cond.instanceMethod yX2_cells, Cond.selects RX2 yX2_cells yX2_cells, Cond.code yX2_cells cX2_cells 1 (some .int), Cond.methodLink RX4 36 yX3_init, Cond.instanceMethod yX3_init, Cond.code yX3_init cX3_init 1 none, Cond.methodLink RX3 3 objectInit, Cond.fieldLink RX3 9 "PlateModes$Wishes" "wanted" "[I", Cond.fieldLink RX3 15 "PlateModes$Wishes" "wishedSquares" "[D", Cond.methodLink RL 73 yX5_init, Cond.instanceMethod yX5_init, Cond.code yX5_init cX5_init 4 none, Cond.methodLink RX5 1 objectInit, Cond.fieldLink RX5 7 "PlateModesModel" "thicks" "[D", Cond.fieldLink RX5 13 "PlateModesModel" "a" "D", Cond.fieldLink RX5 17 "PlateModesModel" "b" "D", Cond.fieldLink RX5 20 "PlateModesModel" "density" "D", Cond.fieldLink RX5 23 "PlateModesModel" "ends" "[I"]
def wsL_law0_r5 : List Cond := [Cond.fieldLink RX5 27 "PlateModesModel" "heights" "[D", Cond.fieldLink RX5 30 "PlateModesModel" "right" "[D", Cond.fieldLink RX5 33 "PlateModesModel" "down" "[D", Cond.fieldLink RX5 36 "PlateModesModel" "shapes" "[D", Cond.fieldLink RX5 39 "PlateModesModel" "squares" "[D", Cond.fieldLink RX5 42 "PlateModesModel" "wanted" "[I", Cond.fieldLink RX5 45 "PlateModesModel" "wishes" "[D", Cond.fieldLink RX5 48 "PlateModesModel" "width" "I", Cond.fieldLink RX5 52 "PlateModesModel" "height" "I", Cond.methodLink RL 76 yL_wood, Cond.static yL_wood, Cond.codeWith yL_wood cL_wood 7 (some .int) [(0, 19, 22, 13), (0, 19, 26, 15)], Cond.classLink RL 13 "java/lang/IndexOutOfBoundsException", Cond.classLink RL 15 "java/lang/IllegalArgumentException", Cond.methodLink RL 7 yX4_wood, Cond.instanceMethod yX4_wood, Cond.selects RX4 yX4_wood yX4_wood, Cond.code yX4_wood cX4_wood 6 (some .boolean), Cond.constantDouble RX4 44 (4593671619917905920), Cond.constantDouble RX4 46 (4620693217682128896), Cond.methodLink RX4 41 yX4_requireCell, Cond.instanceMethod yX4_requireCell, Cond.selects RX4 yX4_requireCell yX4_requireCell, Cond.code yX4_requireCell cX4_requireCell 3 none]
def wsL_law0_r6 : List Cond := [Cond.classLink RX4 107 "java/lang/IndexOutOfBoundsException", Cond.initialized "java/lang/IndexOutOfBoundsException", Cond.methodLink RX4 186 yX2_hasCell, Cond.instanceMethod yX2_hasCell, Cond.selects RX2 yX2_hasCell yX2_hasCell, Cond.code yX2_hasCell cX2_hasCell 3 (some .boolean), Cond.methodLink RX4 48 yX4_requireRange, Cond.static yX4_requireRange, Cond.code yX4_requireRange cX4_requireRange 6 none, Cond.classLink RX4 70 "java/lang/IllegalArgumentException", Cond.initialized "java/lang/IllegalArgumentException", Cond.methodLink RX4 52 yX2_cellAt, Cond.instanceMethod yX2_cellAt, Cond.selects RX2 yX2_cellAt yX2_cellAt, Cond.code yX2_cellAt cX2_cellAt 3 (some .int), Cond.methodLink RX4 56 yX2_thicknessOf, Cond.instanceMethod yX2_thicknessOf, Cond.selects RX2 yX2_thicknessOf yX2_thicknessOf, Cond.code yX2_thicknessOf cX2_thicknessOf 2 (some .double), Cond.methodLink RX4 60 yX2_setThickness, Cond.instanceMethod yX2_setThickness, Cond.selects RX2 yX2_setThickness yX2_setThickness, Cond.code yX2_setThickness cX2_setThickness 4 none, Cond.methodLink RX4 64 yX1_forget]
def wsL_law0_r7 : List Cond := [Cond.instanceMethod yX1_forget, Cond.selects RX1 yX1_forget yX1_forget, Cond.code yX1_forget cX1_forget 1 none, Cond.fieldLink RX1 36 "PlateModes$ModeSet" "count" "I", Cond.methodLink RL 79 yX5_wood, Cond.instanceMethod yX5_wood, Cond.selects RX5 yX5_wood yX5_wood, Cond.code yX5_wood cX5_wood 6 (some .boolean), Cond.constantDouble RX5 64 (4593671619917905920), Cond.constantDouble RX5 66 (4620693217682128896), Cond.fieldLink RX5 55 "PlateModesModel" "thrown" "I", Cond.fieldLink RX5 72 "PlateModesModel" "made" "Z", Cond.methodLink RX5 60 yX5_noCell, Cond.instanceMethod yX5_noCell, Cond.selects RX5 yX5_noCell yX5_noCell, Cond.code yX5_noCell cX5_noCell 3 (some .boolean), Cond.methodLink RX5 68 yX5_between, Cond.static yX5_between, Cond.code yX5_between cX5_between 6 (some .boolean), Cond.methodLink RL 80 yX5_thrown, Cond.instanceMethod yX5_thrown, Cond.selects RX5 yX5_thrown yX5_thrown, Cond.code yX5_thrown cX5_thrown 1 (some .int), Cond.methodLink RL 84 yL_rates]
def wsL_law0_r8 : List Cond := [Cond.static yL_rates, Cond.codeWith yL_rates cL_rates 8 (some .int) [(0, 8, 11, 15)], Cond.methodLink RL 17 yX4_rates, Cond.instanceMethod yX4_rates, Cond.selects RX4 yX4_rates yX4_rates, Cond.code yX4_rates cX4_rates 7 none, Cond.methodLink RX4 67 yX2_setRates, Cond.instanceMethod yX2_setRates, Cond.selects RX2 yX2_setRates yX2_setRates, Cond.code yX2_setRates cX2_setRates 7 none, Cond.methodLink RL 87 yX5_rates, Cond.instanceMethod yX5_rates, Cond.selects RX5 yX5_rates yX5_rates, Cond.code yX5_rates cX5_rates 7 none, Cond.methodLink RL 88 yL_brace, Cond.static yL_brace, Cond.codeWith yL_brace cL_brace 9 (some .int) [(0, 16, 19, 13), (0, 16, 23, 15), (0, 16, 27, 25)], Cond.classLink RL 25 "java/lang/IllegalStateException", Cond.methodLink RL 21 yX4_brace, Cond.instanceMethod yX4_brace, Cond.selects RX4 yX4_brace yX4_brace, Cond.code yX4_brace cX4_brace 11 (some .int), Cond.classLink RX4 81 "java/lang/IllegalStateException", Cond.initialized "java/lang/IllegalStateException"]
def wsL_law0_r9 : List Cond := [Cond.methodLink RX4 77 yX2_bracesFull, Cond.instanceMethod yX2_bracesFull, Cond.selects RX2 yX2_bracesFull yX2_bracesFull, Cond.code yX2_bracesFull cX2_bracesFull 1 (some .boolean), Cond.methodLink RX2 45 yX0_full, Cond.instanceMethod yX0_full, Cond.selects RX0 yX0_full yX0_full, Cond.code yX0_full cX0_full 1 (some .boolean), Cond.fieldLink RX0 25 "PlateModes$Braces" "count" "I", Cond.methodLink RX4 94 yX2_addBrace, Cond.instanceMethod yX2_addBrace, Cond.selects RX2 yX2_addBrace yX2_addBrace, Cond.code yX2_addBrace cX2_addBrace 6 (some .int), Cond.methodLink RX2 49 yX0_add, Cond.instanceMethod yX0_add, Cond.selects RX0 yX0_add yX0_add, Cond.code yX0_add cX0_add 6 (some .int), Cond.methodLink RX0 29 yX0_full, Cond.methodLink RL 91 yX5_brace, Cond.instanceMethod yX5_brace, Cond.selects RX5 yX5_brace yX5_brace, Cond.code yX5_brace cX5_brace 8 (some .int), Cond.fieldLink RX5 76 "PlateModesModel" "braces" "I", Cond.methodLink RL 92 yL_modes]
def wsL_law0_r10 : List Cond := [Cond.static yL_modes, Cond.codeWith yL_modes cL_modes 4 (some .int) [(0, 9, 12, 15)], Cond.methodLink RL 27 yX4_modes, Cond.instanceMethod yX4_modes, Cond.selects RX4 yX4_modes yX4_modes, Cond.code yX4_modes cX4_modes 2 (some .int), Cond.methodLink RX4 100 yX1_make, Cond.instanceMethod yX1_make, Cond.selects RX1 yX1_make yX1_make, Cond.code yX1_make cX1_make 3 (some .int), Cond.methodLink RX1 44 yX2_bindSprings, Cond.instanceMethod yX2_bindSprings, Cond.selects RX2 yX2_bindSprings yX2_bindSprings, Cond.code yX2_bindSprings cX2_bindSprings 4 none, Cond.methodLink RX2 57 yX2_cellAt, Cond.methodLink RX2 61 yX2_springOf, Cond.instanceMethod yX2_springOf, Cond.selects RX2 yX2_springOf yX2_springOf, Cond.code yX2_springOf cX2_springOf 7 (some .double), Cond.constantDouble RX2 77 (4611686018427387904), Cond.methodLink RX2 73 yX2_hasWood, Cond.instanceMethod yX2_hasWood, Cond.selects RX2 yX2_hasWood yX2_hasWood, Cond.code yX2_hasWood cX2_hasWood 2 (some .boolean)]
def wsL_law0_r11 : List Cond := [Cond.methodLink RX2 65 yX0_count, Cond.instanceMethod yX0_count, Cond.selects RX0 yX0_count yX0_count, Cond.code yX0_count cX0_count 1 (some .int), Cond.methodLink RX2 69 yX2_stiffenBy, Cond.instanceMethod yX2_stiffenBy, Cond.selects RX2 yX2_stiffenBy yX2_stiffenBy, Cond.code yX2_stiffenBy cX2_stiffenBy 9 none, Cond.methodLink RX2 79 yX0_paceOf, Cond.instanceMethod yX0_paceOf, Cond.selects RX0 yX0_paceOf yX0_paceOf, Cond.code yX0_paceOf cX0_paceOf 2 (some .int), Cond.methodLink RX2 83 yX0_heightOf, Cond.instanceMethod yX0_heightOf, Cond.selects RX0 yX0_heightOf yX0_heightOf, Cond.code yX0_heightOf cX0_heightOf 2 (some .double), Cond.methodLink RX2 86 yX0_lastOf, Cond.instanceMethod yX0_lastOf, Cond.selects RX0 yX0_lastOf yX0_lastOf, Cond.code yX0_lastOf cX0_lastOf 2 (some .int), Cond.methodLink RX2 89 yX0_firstOf, Cond.instanceMethod yX0_firstOf, Cond.selects RX0 yX0_firstOf yX0_firstOf, Cond.code yX0_firstOf cX0_firstOf 2 (some .int)]
def wsL_law0_r12 : List Cond := [Cond.methodLink RX1 47 yX1_settle, Cond.instanceMethod yX1_settle, Cond.selects RX1 yX1_settle yX1_settle, Cond.code yX1_settle cX1_settle 7 (some .boolean), Cond.methodLink RX1 55 yX2_beginShape, Cond.instanceMethod yX2_beginShape, Cond.selects RX2 yX2_beginShape yX2_beginShape, Cond.code yX2_beginShape cX2_beginShape 8 none, Cond.constantDouble RX2 96 (4620693217682128896), Cond.methodLink RX1 59 yX2_relax, Cond.instanceMethod yX2_relax, Cond.selects RX2 yX2_relax yX2_relax, Cond.code yX2_relax cX2_relax 5 none, Cond.constantDouble RX2 98 (4602678819172646912), Cond.methodLink RX2 100 yX2_forceAt, Cond.instanceMethod yX2_forceAt, Cond.selects RX2 yX2_forceAt yX2_forceAt, Cond.code yX2_forceAt cX2_forceAt 9 (some .double), Cond.static yX4_ground, Cond.code yX4_ground cX4_ground 0 (some .double), Cond.constantDouble RX4 198 (4589168020290535424), Cond.methodLink RX2 104 yX2_heldAt, Cond.instanceMethod yX2_heldAt, Cond.selects RX2 yX2_heldAt yX2_heldAt]
def wsL_law0_r13 : List Cond := [Cond.code yX2_heldAt cX2_heldAt 6 (some .double), Cond.methodLink RX1 63 yX1_takeOut, Cond.instanceMethod yX1_takeOut, Cond.selects RX1 yX1_takeOut yX1_takeOut, Cond.code yX1_takeOut cX1_takeOut 6 none, Cond.methodLink RX1 40 yX2_productOver, Cond.instanceMethod yX2_productOver, Cond.selects RX2 yX2_productOver yX2_productOver, Cond.code yX2_productOver cX2_productOver 6 (some .double), Cond.methodLink RX2 53 yX2_massOf, Cond.instanceMethod yX2_massOf, Cond.selects RX2 yX2_massOf yX2_massOf, Cond.code yX2_massOf cX2_massOf 2 (some .double), Cond.static yX4_root, Cond.code yX4_root cX4_root 5 (some .double), Cond.constantDouble RX4 143 (4611686018427387904), Cond.methodLink RX1 51 yX1_measure, Cond.instanceMethod yX1_measure, Cond.selects RX1 yX1_measure yX1_measure, Cond.code yX1_measure cX1_measure 3 none, Cond.methodLink RX1 71 yX2_squareOver, Cond.instanceMethod yX2_squareOver, Cond.selects RX2 yX2_squareOver yX2_squareOver, Cond.code yX2_squareOver cX2_squareOver 7 (some .double)]
def wsL_law0_r14 : List Cond := [Cond.methodLink RX1 75 yX2_residueOver, Cond.instanceMethod yX2_residueOver, Cond.selects RX2 yX2_residueOver yX2_residueOver, Cond.code yX2_residueOver cX2_residueOver 13 (some .double), Cond.methodLink RX1 79 yX2_totalOver, Cond.instanceMethod yX2_totalOver, Cond.selects RX2 yX2_totalOver yX2_totalOver, Cond.code yX2_totalOver cX2_totalOver 5 (some .double), Cond.methodLink RL 95 yX5_modes, Cond.instanceMethod yX5_modes, Cond.selects RX5 yX5_modes yX5_modes, Cond.code yX5_modes cX5_modes 2 (some .int), Cond.fieldLink RX5 116 "PlateModesModel" "many" "I", Cond.methodLink RX5 122 yX5_makeAll, Cond.instanceMethod yX5_makeAll, Cond.selects RX5 yX5_makeAll yX5_makeAll, Cond.code yX5_makeAll cX5_makeAll 3 none, Cond.methodLink RX5 113 yX5_springs, Cond.instanceMethod yX5_springs, Cond.selects RX5 yX5_springs yX5_springs, Cond.code yX5_springs cX5_springs 4 none, Cond.methodLink RX5 79 yX5_isWood, Cond.instanceMethod yX5_isWood, Cond.selects RX5 yX5_isWood yX5_isWood]
def wsL_law0_r15 : List Cond := [Cond.code yX5_isWood cX5_isWood 2 (some .boolean), Cond.methodLink RX5 83 yX5_spring, Cond.static yX5_spring, Cond.code yX5_spring cX5_spring 8 (some .double), Cond.constantDouble RX5 58 (4611686018427387904), Cond.methodLink RX5 119 yX5_make, Cond.instanceMethod yX5_make, Cond.selects RX5 yX5_make yX5_make, Cond.code yX5_make cX5_make 6 (some .boolean), Cond.methodLink RX5 110 yX5_sweep, Cond.instanceMethod yX5_sweep, Cond.selects RX5 yX5_sweep yX5_sweep, Cond.code yX5_sweep cX5_sweep 6 (some .boolean), Cond.constantDouble RX5 93 (4602678819172646912), Cond.methodLink RX5 95 yX5_force, Cond.instanceMethod yX5_force, Cond.selects RX5 yX5_force yX5_force, Cond.code yX5_force cX5_force 8 (some .double), Cond.constantDouble RX5 87 (4589168020290535424), Cond.methodLink RX5 99 yX5_hold, Cond.instanceMethod yX5_hold, Cond.selects RX5 yX5_hold yX5_hold, Cond.code yX5_hold cX5_hold 6 (some .double), Cond.methodLink RX5 103 yX5_productOf]
def wsL_law0_r16 : List Cond := [Cond.instanceMethod yX5_productOf, Cond.selects RX5 yX5_productOf yX5_productOf, Cond.code yX5_productOf cX5_productOf 8 (some .double), Cond.methodLink RX5 89 yX5_mass, Cond.instanceMethod yX5_mass, Cond.selects RX5 yX5_mass yX5_mass, Cond.code yX5_mass cX5_mass 2 (some .double), Cond.methodLink RX5 106 yX5_root, Cond.static yX5_root, Cond.code yX5_root cX5_root 5 (some .double), Cond.methodLink RL 96 yL_mode, Cond.static yL_mode, Cond.codeWith yL_mode cL_mode 5 (some .int) [(0, 9, 12, 13), (0, 9, 16, 25)], Cond.methodLink RL 31 yX4_mode, Cond.instanceMethod yX4_mode, Cond.selects RX4 yX4_mode yX4_mode, Cond.code yX4_mode cX4_mode 3 (some .double), Cond.methodLink RX4 103 yX4_requireMode, Cond.static yX4_requireMode, Cond.code yX4_requireMode cX4_requireMode 1 none, Cond.methodLink RX4 112 yX4_requireMade, Cond.instanceMethod yX4_requireMade, Cond.selects RX4 yX4_requireMade yX4_requireMade, Cond.code yX4_requireMade cX4_requireMade 2 none]
def wsL_law0_r17 : List Cond := [Cond.methodLink RX4 181 yX1_count, Cond.instanceMethod yX1_count, Cond.selects RX1 yX1_count yX1_count, Cond.code yX1_count cX1_count 1 (some .int), Cond.methodLink RX4 115 yX1_squareOf, Cond.instanceMethod yX1_squareOf, Cond.selects RX1 yX1_squareOf yX1_squareOf, Cond.code yX1_squareOf cX1_squareOf 2 (some .double), Cond.methodLink RX4 118 yX1_residueOf, Cond.instanceMethod yX1_residueOf, Cond.selects RX1 yX1_residueOf yX1_residueOf, Cond.code yX1_residueOf cX1_residueOf 2 (some .double), Cond.methodLink RX4 121 yX1_totalOf, Cond.instanceMethod yX1_totalOf, Cond.selects RX1 yX1_totalOf yX1_totalOf, Cond.code yX1_totalOf cX1_totalOf 2 (some .double), Cond.methodLink RL 99 yX5_mode, Cond.instanceMethod yX5_mode, Cond.selects RX5 yX5_mode yX5_mode, Cond.code yX5_mode cX5_mode 3 (some .double), Cond.methodLink RX5 126 yX5_noMode, Cond.instanceMethod yX5_noMode, Cond.selects RX5 yX5_noMode yX5_noMode, Cond.code yX5_noMode cX5_noMode 2 (some .boolean)]
def wsL_law0_r18 : List Cond := [Cond.methodLink RX5 129 yX5_check, Cond.instanceMethod yX5_check, Cond.selects RX5 yX5_check yX5_check, Cond.code yX5_check cX5_check 3 (some .int), Cond.methodLink RX5 133 yX5_residue, Cond.instanceMethod yX5_residue, Cond.selects RX5 yX5_residue yX5_residue, Cond.code yX5_residue cX5_residue 9 (some .double), Cond.methodLink RX5 136 yX5_sumOf, Cond.instanceMethod yX5_sumOf, Cond.selects RX5 yX5_sumOf yX5_sumOf, Cond.code yX5_sumOf cX5_sumOf 6 (some .double), Cond.methodLink RL 100 yL_shape, Cond.static yL_shape, Cond.codeWith yL_shape cL_shape 6 (some .int) [(0, 11, 14, 13), (0, 11, 18, 25)], Cond.methodLink RL 35 yX4_shape, Cond.instanceMethod yX4_shape, Cond.selects RX4 yX4_shape yX4_shape, Cond.code yX4_shape cX4_shape 4 (some .double), Cond.methodLink RX4 124 yX1_shapeAt, Cond.instanceMethod yX1_shapeAt, Cond.selects RX1 yX1_shapeAt yX1_shapeAt, Cond.code yX1_shapeAt cX1_shapeAt 3 (some .double), Cond.methodLink RL 103 yX5_shape]
def wsL_law0_r19 : List Cond := [Cond.instanceMethod yX5_shape, Cond.selects RX5 yX5_shape yX5_shape, Cond.code yX5_shape cX5_shape 4 (some .double), Cond.methodLink RL 104 yL_product, Cond.static yL_product, Cond.codeWith yL_product cL_product 5 (some .int) [(0, 9, 12, 13), (0, 9, 16, 25)], Cond.methodLink RL 39 yX4_product, Cond.instanceMethod yX4_product, Cond.selects RX4 yX4_product yX4_product, Cond.code yX4_product cX4_product 3 (some .double), Cond.methodLink RX4 128 yX1_productOf, Cond.instanceMethod yX1_productOf, Cond.selects RX1 yX1_productOf yX1_productOf, Cond.code yX1_productOf cX1_productOf 3 (some .double), Cond.methodLink RL 106 yX5_product, Cond.instanceMethod yX5_product, Cond.selects RX5 yX5_product yX5_product, Cond.code yX5_product cX5_product 3 (some .double), Cond.methodLink RL 107 yX4_mirrored, Cond.instanceMethod yX4_mirrored, Cond.selects RX4 yX4_mirrored yX4_mirrored, Cond.code yX4_mirrored cX4_mirrored 2 (some .boolean), Cond.methodLink RX4 131 yX2_mirroredAlongX, Cond.instanceMethod yX2_mirroredAlongX]
def wsL_law0_r20 : List Cond := [Cond.selects RX2 yX2_mirroredAlongX yX2_mirroredAlongX, Cond.code yX2_mirroredAlongX cX2_mirroredAlongX 3 (some .boolean), Cond.methodLink RX4 134 yX2_mirroredAlongY, Cond.instanceMethod yX2_mirroredAlongY, Cond.selects RX2 yX2_mirroredAlongY yX2_mirroredAlongY, Cond.code yX2_mirroredAlongY cX2_mirroredAlongY 3 (some .boolean), Cond.methodLink RL 111 yX5_mirrored, Cond.instanceMethod yX5_mirrored, Cond.selects RX5 yX5_mirrored yX5_mirrored, Cond.code yX5_mirrored cX5_mirrored 6 (some .boolean), Cond.methodLink RL 112 yL_coupled, Cond.static yL_coupled, Cond.codeWith yL_coupled cL_coupled 9 (some .int) [(0, 14, 17, 13), (0, 14, 21, 15), (0, 14, 25, 25)], Cond.methodLink RL 42 yX4_coupled, Cond.instanceMethod yX4_coupled, Cond.selects RX4 yX4_coupled yX4_coupled, Cond.code yX4_coupled cX4_coupled 15 (some .double), Cond.constantDouble RX4 137 (4616189618054758400), Cond.methodLink RX4 139 yX4_root, Cond.methodLink RL 115 yX5_coupled, Cond.instanceMethod yX5_coupled, Cond.selects RX5 yX5_coupled yX5_coupled, Cond.code yX5_coupled cX5_coupled 13 (some .double), Cond.constantDouble RX5 139 (4616189618054758400)]
def wsL_law0_r21 : List Cond := [Cond.methodLink RL 116 yX4_weight, Cond.instanceMethod yX4_weight, Cond.selects RX4 yX4_weight yX4_weight, Cond.code yX4_weight cX4_weight 1 (some .double), Cond.methodLink RX4 145 yX2_massOfAll, Cond.instanceMethod yX2_massOfAll, Cond.selects RX2 yX2_massOfAll yX2_massOfAll, Cond.code yX2_massOfAll cX2_massOfAll 4 (some .double), Cond.methodLink RL 119 yX5_weight, Cond.instanceMethod yX5_weight, Cond.selects RX5 yX5_weight yX5_weight, Cond.code yX5_weight cX5_weight 5 (some .double), Cond.methodLink RL 120 yL_want, Cond.static yL_want, Cond.codeWith yL_want cL_want 6 (some .int) [(0, 11, 14, 13), (0, 11, 18, 15), (0, 11, 22, 25)], Cond.methodLink RL 46 yX4_want, Cond.instanceMethod yX4_want, Cond.selects RX4 yX4_want yX4_want, Cond.code yX4_want cX4_want 4 (some .int), Cond.constantDouble RX4 149 (4634204016564240384), Cond.methodLink RX4 151 yX3_full, Cond.instanceMethod yX3_full, Cond.selects RX3 yX3_full yX3_full, Cond.code yX3_full cX3_full 1 (some .boolean)]
def wsL_law0_r22 : List Cond := [Cond.fieldLink RX3 19 "PlateModes$Wishes" "count" "I", Cond.methodLink RX4 156 yX3_add, Cond.instanceMethod yX3_add, Cond.selects RX3 yX3_add yX3_add, Cond.code yX3_add cX3_add 4 (some .int), Cond.methodLink RX3 23 yX3_full, Cond.methodLink RL 123 yX5_want, Cond.instanceMethod yX5_want, Cond.selects RX5 yX5_want yX5_want, Cond.code yX5_want cX5_want 4 (some .int), Cond.constantDouble RX5 141 (4634204016564240384), Cond.fieldLink RX5 143 "PlateModesModel" "wants" "I", Cond.methodLink RL 124 yL_thin, Cond.static yL_thin, Cond.codeWith yL_thin cL_thin 7 (some .int) [(0, 11, 14, 15), (0, 11, 18, 25)], Cond.methodLink RL 50 yX4_thin, Cond.instanceMethod yX4_thin, Cond.selects RX4 yX4_thin yX4_thin, Cond.code yX4_thin cX4_thin 12 (some .int), Cond.methodLink RX4 160 yX3_modesNeeded, Cond.instanceMethod yX3_modesNeeded, Cond.selects RX3 yX3_modesNeeded yX3_modesNeeded, Cond.code yX3_modesNeeded cX3_modesNeeded 3 (some .int), Cond.methodLink RX3 27 Lib.Math.max.name]
def wsL_law0_r23 : List Cond := [Cond.methodLink RX4 166 yX3_missedBy, Cond.instanceMethod yX3_missedBy, Cond.selects RX3 yX3_missedBy yX3_missedBy, Cond.code yX3_missedBy cX3_missedBy 7 (some .double), Cond.methodLink RX3 33 yX1_squareOf, Cond.methodLink RX4 170 yX2_cells, Cond.methodLink RX4 173 yX2_hasWood, Cond.methodLink RX4 177 yX4_tryThinner, Cond.instanceMethod yX4_tryThinner, Cond.selects RX4 yX4_tryThinner yX4_tryThinner, Cond.code yX4_tryThinner cX4_tryThinner 11 (some .double), Cond.methodLink RL 127 yX5_thin, Cond.instanceMethod yX5_thin, Cond.selects RX5 yX5_thin yX5_thin, Cond.code yX5_thin cX5_thin 17 (some .int), Cond.methodLink RX5 146 yX5_needed, Cond.instanceMethod yX5_needed, Cond.selects RX5 yX5_needed yX5_needed, Cond.code yX5_needed cX5_needed 3 (some .int), Cond.methodLink RX5 150 yX5_total, Cond.instanceMethod yX5_total, Cond.selects RX5 yX5_total yX5_total, Cond.code yX5_total cX5_total 6 (some .double), Cond.methodLink RL 128 yL_sum]
def wsL_law0_r24 : List Cond := [Cond.static yL_sum, Cond.codeWith yL_sum cL_sum 3 (some .int) [(0, 7, 10, 25)], Cond.methodLink RL 54 yX4_sum, Cond.instanceMethod yX4_sum, Cond.selects RX4 yX4_sum yX4_sum, Cond.code yX4_sum cX4_sum 2 (some .double), Cond.methodLink RL 131 yX5_sum, Cond.instanceMethod yX5_sum, Cond.selects RX5 yX5_sum yX5_sum, Cond.code yX5_sum cX5_sum 1 (some .double), Cond.methodLink RL 132 yL_tap, Cond.static yL_tap, Cond.codeWith yL_tap cL_tap 8 (some .int) [(0, 13, 16, 13), (0, 13, 20, 15), (0, 13, 24, 25)], Cond.methodLink RL 58 yX4_tap, Cond.instanceMethod yX4_tap, Cond.selects RX4 yX4_tap yX4_tap, Cond.code yX4_tap cX4_tap 10 (some .double), Cond.methodLink RL 135 yX5_tap, Cond.instanceMethod yX5_tap, Cond.selects RX5 yX5_tap yX5_tap, Cond.code yX5_tap cX5_tap 8 (some .double)]
def wsL_law0 : List Cond := (wsL_law0_r1 ++ (wsL_law0_r2 ++ (wsL_law0_r3 ++ (wsL_law0_r4 ++ (wsL_law0_r5 ++ (wsL_law0_r6 ++ (wsL_law0_r7 ++ (wsL_law0_r8 ++ (wsL_law0_r9 ++ (wsL_law0_r10 ++ (wsL_law0_r11 ++ (wsL_law0_r12 ++ (wsL_law0_r13 ++ (wsL_law0_r14 ++ (wsL_law0_r15 ++ (wsL_law0_r16 ++ (wsL_law0_r17 ++ (wsL_law0_r18 ++ (wsL_law0_r19 ++ (wsL_law0_r20 ++ (wsL_law0_r21 ++ (wsL_law0_r22 ++ (wsL_law0_r23 ++ wsL_law0_r24))))))))))))))))))))))) ++ wsX40 ++ wsX50 ++ wsX20 ++ wsX10 ++ wsX30 ++ wsX00 ++ ([] : List Cond)
def wsL_law : List Cond := wsL_law0 ++ (vx_atS RX4 111 "java/lang/IndexOutOfBoundsException" ["java/lang/RuntimeException", "java/lang/Exception"]).filter goodWord ++ (vx_atS RX4 74 "java/lang/IllegalArgumentException" ["java/lang/RuntimeException", "java/lang/Exception"]).filter goodWord ++ (vx_atS RX4 85 "java/lang/IllegalStateException" ["java/lang/RuntimeException", "java/lang/Exception"]).filter goodWord
abbrev vwCl : List vw_C := [(RX0, TX0, 5), (RX1, TX1, 6), (RX2, TX2, 9), (RX3, TX3, 3), (RX4, TX4, 4), (RX5, TX5, 19)]
end
section
theorem dX5_thrown_0 : decode cX5_thrown 0 = .ok (.aload_n 0, 1) := by decide +kernel
theorem dX5_thrown_1 : decode cX5_thrown 1 = .ok (.getfield 55, 3) := by decide +kernel
theorem dX5_thrown_4 : decode cX5_thrown 4 = .ok (.ireturn, 1) := by decide +kernel
theorem dX5_between_0 : decode cX5_between 0 = .ok (.dload_n 0, 1) := by decide +kernel
theorem dX5_between_1 : decode cX5_between 1 = .ok (.dload_n 2, 1) := by decide +kernel
theorem dX5_between_2 : decode cX5_between 2 = .ok (.dcmp .l, 1) := by decide +kernel
theorem dX5_between_3 : decode cX5_between 3 = .ok (.ifCond .lt 14, 3) := by decide +kernel
theorem dX5_between_6 : decode cX5_between 6 = .ok (.dload_n 0, 1) := by decide +kernel
theorem dX5_between_7 : decode cX5_between 7 = .ok (.dload 4, 2) := by decide +kernel
theorem dX5_between_9 : decode cX5_between 9 = .ok (.dcmp .g, 1) := by decide +kernel
theorem dX5_between_10 : decode cX5_between 10 = .ok (.ifCond .gt 7, 3) := by decide +kernel
theorem dX5_between_13 : decode cX5_between 13 = .ok (.iconst 1, 1) := by decide +kernel
theorem dX5_between_14 : decode cX5_between 14 = .ok (.goto 4, 3) := by decide +kernel
theorem dX5_between_17 : decode cX5_between 17 = .ok (.iconst 0, 1) := by decide +kernel
theorem dX5_between_18 : decode cX5_between 18 = .ok (.ireturn, 1) := by decide +kernel
theorem dX5_noCell_0 : decode cX5_noCell 0 = .ok (.iload_n 1, 1) := by decide +kernel
theorem dX5_noCell_1 : decode cX5_noCell 1 = .ok (.ifCond .lt 23, 3) := by decide +kernel
theorem dX5_noCell_4 : decode cX5_noCell 4 = .ok (.iload_n 1, 1) := by decide +kernel
theorem dX5_noCell_5 : decode cX5_noCell 5 = .ok (.aload_n 0, 1) := by decide +kernel
theorem dX5_noCell_6 : decode cX5_noCell 6 = .ok (.getfield 48, 3) := by decide +kernel
theorem dX5_noCell_9 : decode cX5_noCell 9 = .ok (.if_icmp .ge 15, 3) := by decide +kernel
theorem dX5_noCell_12 : decode cX5_noCell 12 = .ok (.iload_n 2, 1) := by decide +kernel
theorem dX5_noCell_13 : decode cX5_noCell 13 = .ok (.ifCond .lt 11, 3) := by decide +kernel
theorem dX5_noCell_16 : decode cX5_noCell 16 = .ok (.iload_n 2, 1) := by decide +kernel
theorem dX5_noCell_17 : decode cX5_noCell 17 = .ok (.aload_n 0, 1) := by decide +kernel
theorem dX5_noCell_18 : decode cX5_noCell 18 = .ok (.getfield 52, 3) := by decide +kernel
theorem dX5_noCell_21 : decode cX5_noCell 21 = .ok (.if_icmp .lt 7, 3) := by decide +kernel
theorem dX5_noCell_24 : decode cX5_noCell 24 = .ok (.iconst 1, 1) := by decide +kernel
theorem dX5_noCell_25 : decode cX5_noCell 25 = .ok (.goto 4, 3) := by decide +kernel
theorem dX5_noCell_28 : decode cX5_noCell 28 = .ok (.iconst 0, 1) := by decide +kernel
theorem dX5_noCell_29 : decode cX5_noCell 29 = .ok (.ireturn, 1) := by decide +kernel
theorem dX5_root_0 : decode cX5_root 0 = .ok (.dload_n 0, 1) := by decide +kernel
theorem dX5_root_1 : decode cX5_root 1 = .ok (.dconst 0, 1) := by decide +kernel
theorem dX5_root_2 : decode cX5_root 2 = .ok (.dcmp .l, 1) := by decide +kernel
theorem dX5_root_3 : decode cX5_root 3 = .ok (.ifCond .gt 5, 3) := by decide +kernel
theorem dX5_root_6 : decode cX5_root 6 = .ok (.dconst 0, 1) := by decide +kernel
theorem dX5_root_7 : decode cX5_root 7 = .ok (.dreturn, 1) := by decide +kernel
theorem dX5_root_8 : decode cX5_root 8 = .ok (.dconst 1, 1) := by decide +kernel
theorem dX5_root_9 : decode cX5_root 9 = .ok (.dload_n 0, 1) := by decide +kernel
theorem dX5_root_10 : decode cX5_root 10 = .ok (.dadd, 1) := by decide +kernel
theorem dX5_root_11 : decode cX5_root 11 = .ok (.dstore_n 2, 1) := by decide +kernel
theorem dX5_root_12 : decode cX5_root 12 = .ok (.iconst 0, 1) := by decide +kernel
theorem dX5_root_13 : decode cX5_root 13 = .ok (.istore 4, 2) := by decide +kernel
theorem dX5_root_15 : decode cX5_root 15 = .ok (.iload 4, 2) := by decide +kernel
theorem dX5_root_17 : decode cX5_root 17 = .ok (.bipush 30, 2) := by decide +kernel
theorem dX5_root_19 : decode cX5_root 19 = .ok (.if_icmp .ge 19, 3) := by decide +kernel
theorem dX5_root_22 : decode cX5_root 22 = .ok (.dload_n 2, 1) := by decide +kernel
theorem dX5_root_23 : decode cX5_root 23 = .ok (.dload_n 0, 1) := by decide +kernel
theorem dX5_root_24 : decode cX5_root 24 = .ok (.dload_n 2, 1) := by decide +kernel
theorem dX5_root_25 : decode cX5_root 25 = .ok (.ddiv, 1) := by decide +kernel
theorem dX5_root_26 : decode cX5_root 26 = .ok (.dadd, 1) := by decide +kernel
theorem dX5_root_27 : decode cX5_root 27 = .ok (.ldc2_w 58, 3) := by decide +kernel
theorem dX5_root_30 : decode cX5_root 30 = .ok (.ddiv, 1) := by decide +kernel
theorem dX5_root_31 : decode cX5_root 31 = .ok (.dstore_n 2, 1) := by decide +kernel
theorem dX5_root_32 : decode cX5_root 32 = .ok (.iinc 4 1, 3) := by decide +kernel
theorem dX5_root_35 : decode cX5_root 35 = .ok (.goto (-20), 3) := by decide +kernel
theorem dX5_root_38 : decode cX5_root 38 = .ok (.dload_n 2, 1) := by decide +kernel
theorem dX5_root_39 : decode cX5_root 39 = .ok (.dreturn, 1) := by decide +kernel
theorem dX5_isWood_0 : decode cX5_isWood 0 = .ok (.aload_n 0, 1) := by decide +kernel
theorem dX5_isWood_1 : decode cX5_isWood 1 = .ok (.getfield 7, 3) := by decide +kernel
theorem dX5_isWood_4 : decode cX5_isWood 4 = .ok (.iload_n 1, 1) := by decide +kernel
theorem dX5_isWood_5 : decode cX5_isWood 5 = .ok (.daload, 1) := by decide +kernel
theorem dX5_isWood_6 : decode cX5_isWood 6 = .ok (.dconst 0, 1) := by decide +kernel
theorem dX5_isWood_7 : decode cX5_isWood 7 = .ok (.dcmp .l, 1) := by decide +kernel
theorem dX5_isWood_8 : decode cX5_isWood 8 = .ok (.ifCond .le 7, 3) := by decide +kernel
theorem dX5_isWood_11 : decode cX5_isWood 11 = .ok (.iconst 1, 1) := by decide +kernel
theorem dX5_isWood_12 : decode cX5_isWood 12 = .ok (.goto 4, 3) := by decide +kernel
theorem dX5_isWood_15 : decode cX5_isWood 15 = .ok (.iconst 0, 1) := by decide +kernel
theorem dX5_isWood_16 : decode cX5_isWood 16 = .ok (.ireturn, 1) := by decide +kernel
theorem dX5_spring_0 : decode cX5_spring 0 = .ok (.dload_n 2, 1) := by decide +kernel
theorem dX5_spring_1 : decode cX5_spring 1 = .ok (.dload 4, 2) := by decide +kernel
theorem dX5_spring_3 : decode cX5_spring 3 = .ok (.dadd, 1) := by decide +kernel
theorem dX5_spring_4 : decode cX5_spring 4 = .ok (.ldc2_w 58, 3) := by decide +kernel
theorem dX5_spring_7 : decode cX5_spring 7 = .ok (.ddiv, 1) := by decide +kernel
theorem dX5_spring_8 : decode cX5_spring 8 = .ok (.dstore 6, 2) := by decide +kernel
theorem dX5_spring_10 : decode cX5_spring 10 = .ok (.dload_n 0, 1) := by decide +kernel
theorem dX5_spring_11 : decode cX5_spring 11 = .ok (.dload 6, 2) := by decide +kernel
theorem dX5_spring_13 : decode cX5_spring 13 = .ok (.dmul, 1) := by decide +kernel
theorem dX5_spring_14 : decode cX5_spring 14 = .ok (.dload 6, 2) := by decide +kernel
theorem dX5_spring_16 : decode cX5_spring 16 = .ok (.dmul, 1) := by decide +kernel
theorem dX5_spring_17 : decode cX5_spring 17 = .ok (.dload 6, 2) := by decide +kernel
theorem dX5_spring_19 : decode cX5_spring 19 = .ok (.dmul, 1) := by decide +kernel
theorem dX5_spring_20 : decode cX5_spring 20 = .ok (.dreturn, 1) := by decide +kernel
theorem dX5_force_0 : decode cX5_force 0 = .ok (.bipush 6, 2) := by decide +kernel
theorem dX5_force_2 : decode cX5_force 2 = .ok (.iload_n 3, 1) := by decide +kernel
theorem dX5_force_3 : decode cX5_force 3 = .ok (.imul, 1) := by decide +kernel
theorem dX5_force_4 : decode cX5_force 4 = .ok (.iload_n 2, 1) := by decide +kernel
theorem dX5_force_5 : decode cX5_force 5 = .ok (.iadd, 1) := by decide +kernel
theorem dX5_force_6 : decode cX5_force 6 = .ok (.istore 4, 2) := by decide +kernel
theorem dX5_force_8 : decode cX5_force 8 = .ok (.bipush 36, 2) := by decide +kernel
theorem dX5_force_10 : decode cX5_force 10 = .ok (.iload_n 1, 1) := by decide +kernel
theorem dX5_force_11 : decode cX5_force 11 = .ok (.imul, 1) := by decide +kernel
theorem dX5_force_12 : decode cX5_force 12 = .ok (.iload 4, 2) := by decide +kernel
theorem dX5_force_14 : decode cX5_force 14 = .ok (.iadd, 1) := by decide +kernel
theorem dX5_force_15 : decode cX5_force 15 = .ok (.istore 5, 2) := by decide +kernel
theorem dX5_force_17 : decode cX5_force 17 = .ok (.dconst 0, 1) := by decide +kernel
theorem dX5_force_18 : decode cX5_force 18 = .ok (.dstore 6, 2) := by decide +kernel
theorem dX5_force_20 : decode cX5_force 20 = .ok (.iload_n 2, 1) := by decide +kernel
theorem dX5_force_21 : decode cX5_force 21 = .ok (.iconst 1, 1) := by decide +kernel
theorem dX5_force_22 : decode cX5_force 22 = .ok (.iadd, 1) := by decide +kernel
theorem dX5_force_23 : decode cX5_force 23 = .ok (.aload_n 0, 1) := by decide +kernel
theorem dX5_force_24 : decode cX5_force 24 = .ok (.getfield 48, 3) := by decide +kernel
theorem dX5_force_27 : decode cX5_force 27 = .ok (.if_icmp .ge 34, 3) := by decide +kernel
theorem dX5_force_30 : decode cX5_force 30 = .ok (.dload 6, 2) := by decide +kernel
theorem dX5_force_32 : decode cX5_force 32 = .ok (.aload_n 0, 1) := by decide +kernel
theorem dX5_force_33 : decode cX5_force 33 = .ok (.getfield 30, 3) := by decide +kernel
theorem dX5_force_36 : decode cX5_force 36 = .ok (.iload 4, 2) := by decide +kernel
theorem dX5_force_38 : decode cX5_force 38 = .ok (.daload, 1) := by decide +kernel
theorem dX5_force_39 : decode cX5_force 39 = .ok (.aload_n 0, 1) := by decide +kernel
theorem dX5_force_40 : decode cX5_force 40 = .ok (.getfield 36, 3) := by decide +kernel
theorem dX5_force_43 : decode cX5_force 43 = .ok (.iload 5, 2) := by decide +kernel
theorem dX5_force_45 : decode cX5_force 45 = .ok (.iconst 1, 1) := by decide +kernel
theorem dX5_force_46 : decode cX5_force 46 = .ok (.iadd, 1) := by decide +kernel
theorem dX5_force_47 : decode cX5_force 47 = .ok (.daload, 1) := by decide +kernel
theorem dX5_force_48 : decode cX5_force 48 = .ok (.aload_n 0, 1) := by decide +kernel
theorem dX5_force_49 : decode cX5_force 49 = .ok (.getfield 36, 3) := by decide +kernel
theorem dX5_force_52 : decode cX5_force 52 = .ok (.iload 5, 2) := by decide +kernel
theorem dX5_force_54 : decode cX5_force 54 = .ok (.daload, 1) := by decide +kernel
theorem dX5_force_55 : decode cX5_force 55 = .ok (.dsub, 1) := by decide +kernel
theorem dX5_force_56 : decode cX5_force 56 = .ok (.dmul, 1) := by decide +kernel
theorem dX5_force_57 : decode cX5_force 57 = .ok (.dadd, 1) := by decide +kernel
theorem dX5_force_58 : decode cX5_force 58 = .ok (.goto 5, 3) := by decide +kernel
theorem dX5_force_61 : decode cX5_force 61 = .ok (.dload 6, 2) := by decide +kernel
theorem dX5_force_63 : decode cX5_force 63 = .ok (.dstore 6, 2) := by decide +kernel
theorem dX5_force_65 : decode cX5_force 65 = .ok (.iload_n 2, 1) := by decide +kernel
theorem dX5_force_66 : decode cX5_force 66 = .ok (.ifCond .le 36, 3) := by decide +kernel
theorem dX5_force_69 : decode cX5_force 69 = .ok (.dload 6, 2) := by decide +kernel
theorem dX5_force_71 : decode cX5_force 71 = .ok (.aload_n 0, 1) := by decide +kernel
theorem dX5_force_72 : decode cX5_force 72 = .ok (.getfield 30, 3) := by decide +kernel
theorem dX5_force_75 : decode cX5_force 75 = .ok (.iload 4, 2) := by decide +kernel
theorem dX5_force_77 : decode cX5_force 77 = .ok (.iconst 1, 1) := by decide +kernel
theorem dX5_force_78 : decode cX5_force 78 = .ok (.isub, 1) := by decide +kernel
theorem dX5_force_79 : decode cX5_force 79 = .ok (.daload, 1) := by decide +kernel
theorem dX5_force_80 : decode cX5_force 80 = .ok (.aload_n 0, 1) := by decide +kernel
theorem dX5_force_81 : decode cX5_force 81 = .ok (.getfield 36, 3) := by decide +kernel
theorem dX5_force_84 : decode cX5_force 84 = .ok (.iload 5, 2) := by decide +kernel
theorem dX5_force_86 : decode cX5_force 86 = .ok (.iconst 1, 1) := by decide +kernel
theorem dX5_force_87 : decode cX5_force 87 = .ok (.isub, 1) := by decide +kernel
theorem dX5_force_88 : decode cX5_force 88 = .ok (.daload, 1) := by decide +kernel
theorem dX5_force_89 : decode cX5_force 89 = .ok (.aload_n 0, 1) := by decide +kernel
theorem dX5_force_90 : decode cX5_force 90 = .ok (.getfield 36, 3) := by decide +kernel
theorem dX5_force_93 : decode cX5_force 93 = .ok (.iload 5, 2) := by decide +kernel
theorem dX5_force_95 : decode cX5_force 95 = .ok (.daload, 1) := by decide +kernel
theorem dX5_force_96 : decode cX5_force 96 = .ok (.dsub, 1) := by decide +kernel
theorem dX5_force_97 : decode cX5_force 97 = .ok (.dmul, 1) := by decide +kernel
theorem dX5_force_98 : decode cX5_force 98 = .ok (.dadd, 1) := by decide +kernel
theorem dX5_force_99 : decode cX5_force 99 = .ok (.goto 5, 3) := by decide +kernel
theorem dX5_force_102 : decode cX5_force 102 = .ok (.dload 6, 2) := by decide +kernel
theorem dX5_force_104 : decode cX5_force 104 = .ok (.dstore 6, 2) := by decide +kernel
theorem dX5_force_106 : decode cX5_force 106 = .ok (.iload_n 3, 1) := by decide +kernel
theorem dX5_force_107 : decode cX5_force 107 = .ok (.iconst 1, 1) := by decide +kernel
theorem dX5_force_108 : decode cX5_force 108 = .ok (.iadd, 1) := by decide +kernel
theorem dX5_force_109 : decode cX5_force 109 = .ok (.aload_n 0, 1) := by decide +kernel
theorem dX5_force_110 : decode cX5_force 110 = .ok (.getfield 52, 3) := by decide +kernel
theorem dX5_force_113 : decode cX5_force 113 = .ok (.if_icmp .ge 35, 3) := by decide +kernel
theorem dX5_force_116 : decode cX5_force 116 = .ok (.dload 6, 2) := by decide +kernel
theorem dX5_force_118 : decode cX5_force 118 = .ok (.aload_n 0, 1) := by decide +kernel
theorem dX5_force_119 : decode cX5_force 119 = .ok (.getfield 33, 3) := by decide +kernel
theorem dX5_force_122 : decode cX5_force 122 = .ok (.iload 4, 2) := by decide +kernel
theorem dX5_force_124 : decode cX5_force 124 = .ok (.daload, 1) := by decide +kernel
theorem dX5_force_125 : decode cX5_force 125 = .ok (.aload_n 0, 1) := by decide +kernel
theorem dX5_force_126 : decode cX5_force 126 = .ok (.getfield 36, 3) := by decide +kernel
theorem dX5_force_129 : decode cX5_force 129 = .ok (.iload 5, 2) := by decide +kernel
theorem dX5_force_131 : decode cX5_force 131 = .ok (.bipush 6, 2) := by decide +kernel
theorem dX5_force_133 : decode cX5_force 133 = .ok (.iadd, 1) := by decide +kernel
theorem dX5_force_134 : decode cX5_force 134 = .ok (.daload, 1) := by decide +kernel
theorem dX5_force_135 : decode cX5_force 135 = .ok (.aload_n 0, 1) := by decide +kernel
theorem dX5_force_136 : decode cX5_force 136 = .ok (.getfield 36, 3) := by decide +kernel
theorem dX5_force_139 : decode cX5_force 139 = .ok (.iload 5, 2) := by decide +kernel
theorem dX5_force_141 : decode cX5_force 141 = .ok (.daload, 1) := by decide +kernel
theorem dX5_force_142 : decode cX5_force 142 = .ok (.dsub, 1) := by decide +kernel
theorem dX5_force_143 : decode cX5_force 143 = .ok (.dmul, 1) := by decide +kernel
theorem dX5_force_144 : decode cX5_force 144 = .ok (.dadd, 1) := by decide +kernel
theorem dX5_force_145 : decode cX5_force 145 = .ok (.goto 5, 3) := by decide +kernel
theorem dX5_force_148 : decode cX5_force 148 = .ok (.dload 6, 2) := by decide +kernel
theorem dX5_force_150 : decode cX5_force 150 = .ok (.dstore 6, 2) := by decide +kernel
theorem dX5_force_152 : decode cX5_force 152 = .ok (.iload_n 3, 1) := by decide +kernel
theorem dX5_force_153 : decode cX5_force 153 = .ok (.ifCond .le 38, 3) := by decide +kernel
theorem dX5_force_156 : decode cX5_force 156 = .ok (.dload 6, 2) := by decide +kernel
theorem dX5_force_158 : decode cX5_force 158 = .ok (.aload_n 0, 1) := by decide +kernel
theorem dX5_force_159 : decode cX5_force 159 = .ok (.getfield 33, 3) := by decide +kernel
theorem dX5_force_162 : decode cX5_force 162 = .ok (.iload 4, 2) := by decide +kernel
theorem dX5_force_164 : decode cX5_force 164 = .ok (.bipush 6, 2) := by decide +kernel
theorem dX5_force_166 : decode cX5_force 166 = .ok (.isub, 1) := by decide +kernel
theorem dX5_force_167 : decode cX5_force 167 = .ok (.daload, 1) := by decide +kernel
theorem dX5_force_168 : decode cX5_force 168 = .ok (.aload_n 0, 1) := by decide +kernel
theorem dX5_force_169 : decode cX5_force 169 = .ok (.getfield 36, 3) := by decide +kernel
theorem dX5_force_172 : decode cX5_force 172 = .ok (.iload 5, 2) := by decide +kernel
theorem dX5_force_174 : decode cX5_force 174 = .ok (.bipush 6, 2) := by decide +kernel
theorem dX5_force_176 : decode cX5_force 176 = .ok (.isub, 1) := by decide +kernel
theorem dX5_force_177 : decode cX5_force 177 = .ok (.daload, 1) := by decide +kernel
theorem dX5_force_178 : decode cX5_force 178 = .ok (.aload_n 0, 1) := by decide +kernel
theorem dX5_force_179 : decode cX5_force 179 = .ok (.getfield 36, 3) := by decide +kernel
theorem dX5_force_182 : decode cX5_force 182 = .ok (.iload 5, 2) := by decide +kernel
theorem dX5_force_184 : decode cX5_force 184 = .ok (.daload, 1) := by decide +kernel
theorem dX5_force_185 : decode cX5_force 185 = .ok (.dsub, 1) := by decide +kernel
theorem dX5_force_186 : decode cX5_force 186 = .ok (.dmul, 1) := by decide +kernel
theorem dX5_force_187 : decode cX5_force 187 = .ok (.dadd, 1) := by decide +kernel
theorem dX5_force_188 : decode cX5_force 188 = .ok (.goto 5, 3) := by decide +kernel
theorem dX5_force_191 : decode cX5_force 191 = .ok (.dload 6, 2) := by decide +kernel
theorem dX5_force_193 : decode cX5_force 193 = .ok (.dstore 6, 2) := by decide +kernel
theorem dX5_force_195 : decode cX5_force 195 = .ok (.dload 6, 2) := by decide +kernel
theorem dX5_force_197 : decode cX5_force 197 = .ok (.ldc2_w 87, 3) := by decide +kernel
theorem dX5_force_200 : decode cX5_force 200 = .ok (.aload_n 0, 1) := by decide +kernel
theorem dX5_force_201 : decode cX5_force 201 = .ok (.getfield 36, 3) := by decide +kernel
theorem dX5_force_204 : decode cX5_force 204 = .ok (.iload 5, 2) := by decide +kernel
theorem dX5_force_206 : decode cX5_force 206 = .ok (.daload, 1) := by decide +kernel
theorem dX5_force_207 : decode cX5_force 207 = .ok (.dmul, 1) := by decide +kernel
theorem dX5_force_208 : decode cX5_force 208 = .ok (.dsub, 1) := by decide +kernel
theorem dX5_force_209 : decode cX5_force 209 = .ok (.dreturn, 1) := by decide +kernel
theorem dX5_hold_0 : decode cX5_hold 0 = .ok (.bipush 6, 2) := by decide +kernel
theorem dX5_hold_2 : decode cX5_hold 2 = .ok (.iload_n 2, 1) := by decide +kernel
theorem dX5_hold_3 : decode cX5_hold 3 = .ok (.imul, 1) := by decide +kernel
theorem dX5_hold_4 : decode cX5_hold 4 = .ok (.iload_n 1, 1) := by decide +kernel
theorem dX5_hold_5 : decode cX5_hold 5 = .ok (.iadd, 1) := by decide +kernel
theorem dX5_hold_6 : decode cX5_hold 6 = .ok (.istore_n 3, 1) := by decide +kernel
theorem dX5_hold_7 : decode cX5_hold 7 = .ok (.ldc2_w 87, 3) := by decide +kernel
theorem dX5_hold_10 : decode cX5_hold 10 = .ok (.dstore 4, 2) := by decide +kernel
theorem dX5_hold_12 : decode cX5_hold 12 = .ok (.iload_n 1, 1) := by decide +kernel
theorem dX5_hold_13 : decode cX5_hold 13 = .ok (.iconst 1, 1) := by decide +kernel
theorem dX5_hold_14 : decode cX5_hold 14 = .ok (.iadd, 1) := by decide +kernel
theorem dX5_hold_15 : decode cX5_hold 15 = .ok (.aload_n 0, 1) := by decide +kernel
theorem dX5_hold_16 : decode cX5_hold 16 = .ok (.getfield 48, 3) := by decide +kernel
theorem dX5_hold_19 : decode cX5_hold 19 = .ok (.if_icmp .ge 15, 3) := by decide +kernel
theorem dX5_hold_22 : decode cX5_hold 22 = .ok (.dload 4, 2) := by decide +kernel
theorem dX5_hold_24 : decode cX5_hold 24 = .ok (.aload_n 0, 1) := by decide +kernel
theorem dX5_hold_25 : decode cX5_hold 25 = .ok (.getfield 30, 3) := by decide +kernel
theorem dX5_hold_28 : decode cX5_hold 28 = .ok (.iload_n 3, 1) := by decide +kernel
theorem dX5_hold_29 : decode cX5_hold 29 = .ok (.daload, 1) := by decide +kernel
theorem dX5_hold_30 : decode cX5_hold 30 = .ok (.dadd, 1) := by decide +kernel
theorem dX5_hold_31 : decode cX5_hold 31 = .ok (.goto 5, 3) := by decide +kernel
theorem dX5_hold_34 : decode cX5_hold 34 = .ok (.dload 4, 2) := by decide +kernel
theorem dX5_hold_36 : decode cX5_hold 36 = .ok (.dstore 4, 2) := by decide +kernel
theorem dX5_hold_38 : decode cX5_hold 38 = .ok (.iload_n 1, 1) := by decide +kernel
theorem dX5_hold_39 : decode cX5_hold 39 = .ok (.ifCond .le 17, 3) := by decide +kernel
theorem dX5_hold_42 : decode cX5_hold 42 = .ok (.dload 4, 2) := by decide +kernel
theorem dX5_hold_44 : decode cX5_hold 44 = .ok (.aload_n 0, 1) := by decide +kernel
theorem dX5_hold_45 : decode cX5_hold 45 = .ok (.getfield 30, 3) := by decide +kernel
theorem dX5_hold_48 : decode cX5_hold 48 = .ok (.iload_n 3, 1) := by decide +kernel
theorem dX5_hold_49 : decode cX5_hold 49 = .ok (.iconst 1, 1) := by decide +kernel
theorem dX5_hold_50 : decode cX5_hold 50 = .ok (.isub, 1) := by decide +kernel
theorem dX5_hold_51 : decode cX5_hold 51 = .ok (.daload, 1) := by decide +kernel
theorem dX5_hold_52 : decode cX5_hold 52 = .ok (.dadd, 1) := by decide +kernel
theorem dX5_hold_53 : decode cX5_hold 53 = .ok (.goto 5, 3) := by decide +kernel
theorem dX5_hold_56 : decode cX5_hold 56 = .ok (.dload 4, 2) := by decide +kernel
theorem dX5_hold_58 : decode cX5_hold 58 = .ok (.dstore 4, 2) := by decide +kernel
theorem dX5_hold_60 : decode cX5_hold 60 = .ok (.iload_n 2, 1) := by decide +kernel
theorem dX5_hold_61 : decode cX5_hold 61 = .ok (.iconst 1, 1) := by decide +kernel
theorem dX5_hold_62 : decode cX5_hold 62 = .ok (.iadd, 1) := by decide +kernel
theorem dX5_hold_63 : decode cX5_hold 63 = .ok (.aload_n 0, 1) := by decide +kernel
theorem dX5_hold_64 : decode cX5_hold 64 = .ok (.getfield 52, 3) := by decide +kernel
theorem dX5_hold_67 : decode cX5_hold 67 = .ok (.if_icmp .ge 15, 3) := by decide +kernel
theorem dX5_hold_70 : decode cX5_hold 70 = .ok (.dload 4, 2) := by decide +kernel
theorem dX5_hold_72 : decode cX5_hold 72 = .ok (.aload_n 0, 1) := by decide +kernel
theorem dX5_hold_73 : decode cX5_hold 73 = .ok (.getfield 33, 3) := by decide +kernel
theorem dX5_hold_76 : decode cX5_hold 76 = .ok (.iload_n 3, 1) := by decide +kernel
theorem dX5_hold_77 : decode cX5_hold 77 = .ok (.daload, 1) := by decide +kernel
theorem dX5_hold_78 : decode cX5_hold 78 = .ok (.dadd, 1) := by decide +kernel
theorem dX5_hold_79 : decode cX5_hold 79 = .ok (.goto 5, 3) := by decide +kernel
theorem dX5_hold_82 : decode cX5_hold 82 = .ok (.dload 4, 2) := by decide +kernel
theorem dX5_hold_84 : decode cX5_hold 84 = .ok (.dstore 4, 2) := by decide +kernel
theorem dX5_hold_86 : decode cX5_hold 86 = .ok (.iload_n 2, 1) := by decide +kernel
theorem dX5_hold_87 : decode cX5_hold 87 = .ok (.ifCond .le 18, 3) := by decide +kernel
theorem dX5_hold_90 : decode cX5_hold 90 = .ok (.dload 4, 2) := by decide +kernel
theorem dX5_hold_92 : decode cX5_hold 92 = .ok (.aload_n 0, 1) := by decide +kernel
theorem dX5_hold_93 : decode cX5_hold 93 = .ok (.getfield 33, 3) := by decide +kernel
theorem dX5_hold_96 : decode cX5_hold 96 = .ok (.iload_n 3, 1) := by decide +kernel
theorem dX5_hold_97 : decode cX5_hold 97 = .ok (.bipush 6, 2) := by decide +kernel
theorem dX5_hold_99 : decode cX5_hold 99 = .ok (.isub, 1) := by decide +kernel
theorem dX5_hold_100 : decode cX5_hold 100 = .ok (.daload, 1) := by decide +kernel
theorem dX5_hold_101 : decode cX5_hold 101 = .ok (.dadd, 1) := by decide +kernel
theorem dX5_hold_102 : decode cX5_hold 102 = .ok (.goto 5, 3) := by decide +kernel
theorem dX5_hold_105 : decode cX5_hold 105 = .ok (.dload 4, 2) := by decide +kernel
theorem dX5_hold_107 : decode cX5_hold 107 = .ok (.dreturn, 1) := by decide +kernel
theorem dX5_mass_0 : decode cX5_mass 0 = .ok (.aload_n 0, 1) := by decide +kernel
theorem dX5_mass_1 : decode cX5_mass 1 = .ok (.getfield 7, 3) := by decide +kernel
theorem dX5_mass_4 : decode cX5_mass 4 = .ok (.iload_n 1, 1) := by decide +kernel
theorem dX5_mass_5 : decode cX5_mass 5 = .ok (.daload, 1) := by decide +kernel
theorem dX5_mass_6 : decode cX5_mass 6 = .ok (.aload_n 0, 1) := by decide +kernel
theorem dX5_mass_7 : decode cX5_mass 7 = .ok (.getfield 20, 3) := by decide +kernel
theorem dX5_mass_10 : decode cX5_mass 10 = .ok (.dmul, 1) := by decide +kernel
theorem dX5_mass_11 : decode cX5_mass 11 = .ok (.dreturn, 1) := by decide +kernel
set_option maxRecDepth 20000 in
theorem ggX5_productOf_X5_isWood : GoodIn wsX5_productOf wsX5_isWood := goodIn_r _ [8, 9, 15, 16, 17, 18, 19, 20, 21, 22, 23, 24, 25, 26, 27, 28, 29, 30, 31, 32, 33] (by decide +kernel) (by decide +kernel)
set_option maxRecDepth 20000 in
theorem gX5_productOf_X5_isWood : GoodIn wsX5_productOf (wsV RX5 79 RX5 yX5_isWood wsX5_isWood) := goodIn_app (goodIn_of _ (by decide +kernel)) ggX5_productOf_X5_isWood
set_option maxRecDepth 20000 in
theorem ggX5_productOf_X5_mass : GoodIn wsX5_productOf wsX5_mass := goodIn_r _ [13, 9, 14, 15, 16, 17, 18, 19, 20, 21, 22, 23, 24, 25, 26, 27, 28, 29, 30, 31, 32, 33] (by decide +kernel) (by decide +kernel)
set_option maxRecDepth 20000 in
theorem gX5_productOf_X5_mass : GoodIn wsX5_productOf (wsV RX5 89 RX5 yX5_mass wsX5_mass) := goodIn_app (goodIn_of _ (by decide +kernel)) ggX5_productOf_X5_mass
theorem dX5_productOf_0 : decode cX5_productOf 0 = .ok (.dconst 0, 1) := by decide +kernel
theorem dX5_productOf_1 : decode cX5_productOf 1 = .ok (.dstore_n 3, 1) := by decide +kernel
theorem dX5_productOf_2 : decode cX5_productOf 2 = .ok (.iconst 0, 1) := by decide +kernel
theorem dX5_productOf_3 : decode cX5_productOf 3 = .ok (.istore 5, 2) := by decide +kernel
theorem dX5_productOf_5 : decode cX5_productOf 5 = .ok (.iload 5, 2) := by decide +kernel
theorem dX5_productOf_7 : decode cX5_productOf 7 = .ok (.aload_n 0, 1) := by decide +kernel
theorem dX5_productOf_8 : decode cX5_productOf 8 = .ok (.getfield 52, 3) := by decide +kernel
theorem dX5_productOf_11 : decode cX5_productOf 11 = .ok (.if_icmp .ge 85, 3) := by decide +kernel
theorem dX5_productOf_14 : decode cX5_productOf 14 = .ok (.iconst 0, 1) := by decide +kernel
theorem dX5_productOf_15 : decode cX5_productOf 15 = .ok (.istore 6, 2) := by decide +kernel
theorem dX5_productOf_17 : decode cX5_productOf 17 = .ok (.iload 6, 2) := by decide +kernel
theorem dX5_productOf_19 : decode cX5_productOf 19 = .ok (.aload_n 0, 1) := by decide +kernel
theorem dX5_productOf_20 : decode cX5_productOf 20 = .ok (.getfield 48, 3) := by decide +kernel
theorem dX5_productOf_23 : decode cX5_productOf 23 = .ok (.if_icmp .ge 67, 3) := by decide +kernel
theorem dX5_productOf_26 : decode cX5_productOf 26 = .ok (.bipush 6, 2) := by decide +kernel
theorem dX5_productOf_28 : decode cX5_productOf 28 = .ok (.iload 5, 2) := by decide +kernel
theorem dX5_productOf_30 : decode cX5_productOf 30 = .ok (.imul, 1) := by decide +kernel
theorem dX5_productOf_31 : decode cX5_productOf 31 = .ok (.iload 6, 2) := by decide +kernel
theorem dX5_productOf_33 : decode cX5_productOf 33 = .ok (.iadd, 1) := by decide +kernel
theorem dX5_productOf_34 : decode cX5_productOf 34 = .ok (.istore 7, 2) := by decide +kernel
theorem dX5_productOf_36 : decode cX5_productOf 36 = .ok (.aload_n 0, 1) := by decide +kernel
theorem dX5_productOf_37 : decode cX5_productOf 37 = .ok (.iload 7, 2) := by decide +kernel
theorem dX5_productOf_39 : decode cX5_productOf 39 = .ok (.invokevirtual 79, 3) := by decide +kernel
theorem dX5_productOf_42 : decode cX5_productOf 42 = .ok (.ifCond .eq 40, 3) := by decide +kernel
theorem dX5_productOf_45 : decode cX5_productOf 45 = .ok (.dload_n 3, 1) := by decide +kernel
theorem dX5_productOf_46 : decode cX5_productOf 46 = .ok (.aload_n 0, 1) := by decide +kernel
theorem dX5_productOf_47 : decode cX5_productOf 47 = .ok (.iload 7, 2) := by decide +kernel
theorem dX5_productOf_49 : decode cX5_productOf 49 = .ok (.invokevirtual 89, 3) := by decide +kernel
theorem dX5_productOf_52 : decode cX5_productOf 52 = .ok (.aload_n 0, 1) := by decide +kernel
theorem dX5_productOf_53 : decode cX5_productOf 53 = .ok (.getfield 36, 3) := by decide +kernel
theorem dX5_productOf_56 : decode cX5_productOf 56 = .ok (.bipush 36, 2) := by decide +kernel
theorem dX5_productOf_58 : decode cX5_productOf 58 = .ok (.iload_n 1, 1) := by decide +kernel
theorem dX5_productOf_59 : decode cX5_productOf 59 = .ok (.imul, 1) := by decide +kernel
theorem dX5_productOf_60 : decode cX5_productOf 60 = .ok (.iload 7, 2) := by decide +kernel
theorem dX5_productOf_62 : decode cX5_productOf 62 = .ok (.iadd, 1) := by decide +kernel
theorem dX5_productOf_63 : decode cX5_productOf 63 = .ok (.daload, 1) := by decide +kernel
theorem dX5_productOf_64 : decode cX5_productOf 64 = .ok (.dmul, 1) := by decide +kernel
theorem dX5_productOf_65 : decode cX5_productOf 65 = .ok (.aload_n 0, 1) := by decide +kernel
theorem dX5_productOf_66 : decode cX5_productOf 66 = .ok (.getfield 36, 3) := by decide +kernel
theorem dX5_productOf_69 : decode cX5_productOf 69 = .ok (.bipush 36, 2) := by decide +kernel
theorem dX5_productOf_71 : decode cX5_productOf 71 = .ok (.iload_n 2, 1) := by decide +kernel
theorem dX5_productOf_72 : decode cX5_productOf 72 = .ok (.imul, 1) := by decide +kernel
theorem dX5_productOf_73 : decode cX5_productOf 73 = .ok (.iload 7, 2) := by decide +kernel
theorem dX5_productOf_75 : decode cX5_productOf 75 = .ok (.iadd, 1) := by decide +kernel
theorem dX5_productOf_76 : decode cX5_productOf 76 = .ok (.daload, 1) := by decide +kernel
theorem dX5_productOf_77 : decode cX5_productOf 77 = .ok (.dmul, 1) := by decide +kernel
theorem dX5_productOf_78 : decode cX5_productOf 78 = .ok (.dadd, 1) := by decide +kernel
theorem dX5_productOf_79 : decode cX5_productOf 79 = .ok (.goto 4, 3) := by decide +kernel
theorem dX5_productOf_82 : decode cX5_productOf 82 = .ok (.dload_n 3, 1) := by decide +kernel
theorem dX5_productOf_83 : decode cX5_productOf 83 = .ok (.dstore_n 3, 1) := by decide +kernel
theorem dX5_productOf_84 : decode cX5_productOf 84 = .ok (.iinc 6 1, 3) := by decide +kernel
theorem dX5_productOf_87 : decode cX5_productOf 87 = .ok (.goto (-70), 3) := by decide +kernel
theorem dX5_productOf_90 : decode cX5_productOf 90 = .ok (.iinc 5 1, 3) := by decide +kernel
theorem dX5_productOf_93 : decode cX5_productOf 93 = .ok (.goto (-88), 3) := by decide +kernel
theorem dX5_productOf_96 : decode cX5_productOf 96 = .ok (.dload_n 3, 1) := by decide +kernel
theorem dX5_productOf_97 : decode cX5_productOf 97 = .ok (.dreturn, 1) := by decide +kernel
theorem dX5_noMode_0 : decode cX5_noMode 0 = .ok (.iload_n 1, 1) := by decide +kernel
theorem dX5_noMode_1 : decode cX5_noMode 1 = .ok (.ifCond .lt 8, 3) := by decide +kernel
theorem dX5_noMode_4 : decode cX5_noMode 4 = .ok (.iload_n 1, 1) := by decide +kernel
theorem dX5_noMode_5 : decode cX5_noMode 5 = .ok (.iconst 4, 1) := by decide +kernel
theorem dX5_noMode_6 : decode cX5_noMode 6 = .ok (.if_icmp .lt 7, 3) := by decide +kernel
theorem dX5_noMode_9 : decode cX5_noMode 9 = .ok (.iconst 1, 1) := by decide +kernel
theorem dX5_noMode_10 : decode cX5_noMode 10 = .ok (.goto 4, 3) := by decide +kernel
theorem dX5_noMode_13 : decode cX5_noMode 13 = .ok (.iconst 0, 1) := by decide +kernel
theorem dX5_noMode_14 : decode cX5_noMode 14 = .ok (.ireturn, 1) := by decide +kernel
theorem dX5_check_0 : decode cX5_check 0 = .ok (.iload_n 1, 1) := by decide +kernel
theorem dX5_check_1 : decode cX5_check 1 = .ok (.ifCond .ne 7, 3) := by decide +kernel
theorem dX5_check_4 : decode cX5_check 4 = .ok (.iconst 1, 1) := by decide +kernel
theorem dX5_check_5 : decode cX5_check 5 = .ok (.goto 23, 3) := by decide +kernel
theorem dX5_check_8 : decode cX5_check 8 = .ok (.aload_n 0, 1) := by decide +kernel
theorem dX5_check_9 : decode cX5_check 9 = .ok (.getfield 72, 3) := by decide +kernel
theorem dX5_check_12 : decode cX5_check 12 = .ok (.ifCond .eq 15, 3) := by decide +kernel
theorem dX5_check_15 : decode cX5_check 15 = .ok (.iload_n 2, 1) := by decide +kernel
theorem dX5_check_16 : decode cX5_check 16 = .ok (.aload_n 0, 1) := by decide +kernel
theorem dX5_check_17 : decode cX5_check 17 = .ok (.getfield 116, 3) := by decide +kernel
theorem dX5_check_20 : decode cX5_check 20 = .ok (.if_icmp .ge 7, 3) := by decide +kernel
theorem dX5_check_23 : decode cX5_check 23 = .ok (.iconst 0, 1) := by decide +kernel
theorem dX5_check_24 : decode cX5_check 24 = .ok (.goto 4, 3) := by decide +kernel
theorem dX5_check_27 : decode cX5_check 27 = .ok (.iconst 2, 1) := by decide +kernel
theorem dX5_check_28 : decode cX5_check 28 = .ok (.ireturn, 1) := by decide +kernel
set_option maxRecDepth 20000 in
theorem ggX5_sumOf_X5_isWood : GoodIn wsX5_sumOf wsX5_isWood := goodIn_r _ [8, 9, 10, 11, 12, 13, 14, 15, 16, 17, 18, 19, 20, 21, 22, 23, 24, 25, 26, 27, 28] (by decide +kernel) (by decide +kernel)
set_option maxRecDepth 20000 in
theorem gX5_sumOf_X5_isWood : GoodIn wsX5_sumOf (wsV RX5 79 RX5 yX5_isWood wsX5_isWood) := goodIn_app (goodIn_of _ (by decide +kernel)) ggX5_sumOf_X5_isWood
theorem dX5_sumOf_0 : decode cX5_sumOf 0 = .ok (.dconst 0, 1) := by decide +kernel
theorem dX5_sumOf_1 : decode cX5_sumOf 1 = .ok (.dstore_n 2, 1) := by decide +kernel
theorem dX5_sumOf_2 : decode cX5_sumOf 2 = .ok (.iconst 0, 1) := by decide +kernel
theorem dX5_sumOf_3 : decode cX5_sumOf 3 = .ok (.istore 4, 2) := by decide +kernel
theorem dX5_sumOf_5 : decode cX5_sumOf 5 = .ok (.iload 4, 2) := by decide +kernel
theorem dX5_sumOf_7 : decode cX5_sumOf 7 = .ok (.aload_n 0, 1) := by decide +kernel
theorem dX5_sumOf_8 : decode cX5_sumOf 8 = .ok (.getfield 52, 3) := by decide +kernel
theorem dX5_sumOf_11 : decode cX5_sumOf 11 = .ok (.if_icmp .ge 67, 3) := by decide +kernel
theorem dX5_sumOf_14 : decode cX5_sumOf 14 = .ok (.iconst 0, 1) := by decide +kernel
theorem dX5_sumOf_15 : decode cX5_sumOf 15 = .ok (.istore 5, 2) := by decide +kernel
theorem dX5_sumOf_17 : decode cX5_sumOf 17 = .ok (.iload 5, 2) := by decide +kernel
theorem dX5_sumOf_19 : decode cX5_sumOf 19 = .ok (.aload_n 0, 1) := by decide +kernel
theorem dX5_sumOf_20 : decode cX5_sumOf 20 = .ok (.getfield 48, 3) := by decide +kernel
theorem dX5_sumOf_23 : decode cX5_sumOf 23 = .ok (.if_icmp .ge 49, 3) := by decide +kernel
theorem dX5_sumOf_26 : decode cX5_sumOf 26 = .ok (.aload_n 0, 1) := by decide +kernel
theorem dX5_sumOf_27 : decode cX5_sumOf 27 = .ok (.bipush 6, 2) := by decide +kernel
theorem dX5_sumOf_29 : decode cX5_sumOf 29 = .ok (.iload 4, 2) := by decide +kernel
theorem dX5_sumOf_31 : decode cX5_sumOf 31 = .ok (.imul, 1) := by decide +kernel
theorem dX5_sumOf_32 : decode cX5_sumOf 32 = .ok (.iload 5, 2) := by decide +kernel
theorem dX5_sumOf_34 : decode cX5_sumOf 34 = .ok (.iadd, 1) := by decide +kernel
theorem dX5_sumOf_35 : decode cX5_sumOf 35 = .ok (.invokevirtual 79, 3) := by decide +kernel
theorem dX5_sumOf_38 : decode cX5_sumOf 38 = .ok (.ifCond .eq 26, 3) := by decide +kernel
theorem dX5_sumOf_41 : decode cX5_sumOf 41 = .ok (.dload_n 2, 1) := by decide +kernel
theorem dX5_sumOf_42 : decode cX5_sumOf 42 = .ok (.aload_n 0, 1) := by decide +kernel
theorem dX5_sumOf_43 : decode cX5_sumOf 43 = .ok (.getfield 36, 3) := by decide +kernel
theorem dX5_sumOf_46 : decode cX5_sumOf 46 = .ok (.bipush 36, 2) := by decide +kernel
theorem dX5_sumOf_48 : decode cX5_sumOf 48 = .ok (.iload_n 1, 1) := by decide +kernel
theorem dX5_sumOf_49 : decode cX5_sumOf 49 = .ok (.imul, 1) := by decide +kernel
theorem dX5_sumOf_50 : decode cX5_sumOf 50 = .ok (.bipush 6, 2) := by decide +kernel
theorem dX5_sumOf_52 : decode cX5_sumOf 52 = .ok (.iload 4, 2) := by decide +kernel
theorem dX5_sumOf_54 : decode cX5_sumOf 54 = .ok (.imul, 1) := by decide +kernel
theorem dX5_sumOf_55 : decode cX5_sumOf 55 = .ok (.iadd, 1) := by decide +kernel
theorem dX5_sumOf_56 : decode cX5_sumOf 56 = .ok (.iload 5, 2) := by decide +kernel
theorem dX5_sumOf_58 : decode cX5_sumOf 58 = .ok (.iadd, 1) := by decide +kernel
theorem dX5_sumOf_59 : decode cX5_sumOf 59 = .ok (.daload, 1) := by decide +kernel
theorem dX5_sumOf_60 : decode cX5_sumOf 60 = .ok (.dadd, 1) := by decide +kernel
theorem dX5_sumOf_61 : decode cX5_sumOf 61 = .ok (.goto 4, 3) := by decide +kernel
theorem dX5_sumOf_64 : decode cX5_sumOf 64 = .ok (.dload_n 2, 1) := by decide +kernel
theorem dX5_sumOf_65 : decode cX5_sumOf 65 = .ok (.dstore_n 2, 1) := by decide +kernel
theorem dX5_sumOf_66 : decode cX5_sumOf 66 = .ok (.iinc 5 1, 3) := by decide +kernel
theorem dX5_sumOf_69 : decode cX5_sumOf 69 = .ok (.goto (-52), 3) := by decide +kernel
theorem dX5_sumOf_72 : decode cX5_sumOf 72 = .ok (.iinc 4 1, 3) := by decide +kernel
theorem dX5_sumOf_75 : decode cX5_sumOf 75 = .ok (.goto (-70), 3) := by decide +kernel
theorem dX5_sumOf_78 : decode cX5_sumOf 78 = .ok (.dload_n 2, 1) := by decide +kernel
theorem dX5_sumOf_79 : decode cX5_sumOf 79 = .ok (.dreturn, 1) := by decide +kernel
set_option maxRecDepth 20000 in
theorem ggX5_residue_X5_force : GoodIn wsX5_residue wsX5_force := goodIn_r _ [9, 2, 10, 4, 1, 11, 12, 23, 24, 25, 26, 27, 28, 29, 30, 31, 32, 33, 34, 35, 36, 37, 38, 39, 40, 41] (by decide +kernel) (by decide +kernel)
set_option maxRecDepth 20000 in
theorem gX5_residue_X5_force : GoodIn wsX5_residue (wsV RX5 95 RX5 yX5_force wsX5_force) := goodIn_app (goodIn_of _ (by decide +kernel)) ggX5_residue_X5_force
set_option maxRecDepth 20000 in
theorem ggX5_residue_X5_mass : GoodIn wsX5_residue wsX5_mass := goodIn_r _ [16, 17, 18, 23, 24, 25, 26, 27, 28, 29, 30, 31, 32, 33, 34, 35, 36, 37, 38, 39, 40, 41] (by decide +kernel) (by decide +kernel)
set_option maxRecDepth 20000 in
theorem gX5_residue_X5_mass : GoodIn wsX5_residue (wsV RX5 89 RX5 yX5_mass wsX5_mass) := goodIn_app (goodIn_of _ (by decide +kernel)) ggX5_residue_X5_mass
set_option maxRecDepth 20000 in
theorem ggX5_residue_X5_isWood : GoodIn wsX5_residue wsX5_isWood := goodIn_r _ [22, 17, 23, 24, 25, 26, 27, 28, 29, 30, 31, 32, 33, 34, 35, 36, 37, 38, 39, 40, 41] (by decide +kernel) (by decide +kernel)
set_option maxRecDepth 20000 in
theorem gX5_residue_X5_isWood : GoodIn wsX5_residue (wsV RX5 79 RX5 yX5_isWood wsX5_isWood) := goodIn_app (goodIn_of _ (by decide +kernel)) ggX5_residue_X5_isWood
theorem dX5_residue_0 : decode cX5_residue 0 = .ok (.dconst 0, 1) := by decide +kernel
theorem dX5_residue_1 : decode cX5_residue 1 = .ok (.dstore_n 2, 1) := by decide +kernel
theorem dX5_residue_2 : decode cX5_residue 2 = .ok (.iconst 0, 1) := by decide +kernel
theorem dX5_residue_3 : decode cX5_residue 3 = .ok (.istore 4, 2) := by decide +kernel
theorem dX5_residue_5 : decode cX5_residue 5 = .ok (.iload 4, 2) := by decide +kernel
theorem dX5_residue_7 : decode cX5_residue 7 = .ok (.aload_n 0, 1) := by decide +kernel
theorem dX5_residue_8 : decode cX5_residue 8 = .ok (.getfield 52, 3) := by decide +kernel
theorem dX5_residue_11 : decode cX5_residue 11 = .ok (.if_icmp .ge 115, 3) := by decide +kernel
theorem dX5_residue_14 : decode cX5_residue 14 = .ok (.iconst 0, 1) := by decide +kernel
theorem dX5_residue_15 : decode cX5_residue 15 = .ok (.istore 5, 2) := by decide +kernel
theorem dX5_residue_17 : decode cX5_residue 17 = .ok (.iload 5, 2) := by decide +kernel
theorem dX5_residue_19 : decode cX5_residue 19 = .ok (.aload_n 0, 1) := by decide +kernel
theorem dX5_residue_20 : decode cX5_residue 20 = .ok (.getfield 48, 3) := by decide +kernel
theorem dX5_residue_23 : decode cX5_residue 23 = .ok (.if_icmp .ge 97, 3) := by decide +kernel
theorem dX5_residue_26 : decode cX5_residue 26 = .ok (.bipush 6, 2) := by decide +kernel
theorem dX5_residue_28 : decode cX5_residue 28 = .ok (.iload 4, 2) := by decide +kernel
theorem dX5_residue_30 : decode cX5_residue 30 = .ok (.imul, 1) := by decide +kernel
theorem dX5_residue_31 : decode cX5_residue 31 = .ok (.iload 5, 2) := by decide +kernel
theorem dX5_residue_33 : decode cX5_residue 33 = .ok (.iadd, 1) := by decide +kernel
theorem dX5_residue_34 : decode cX5_residue 34 = .ok (.istore 6, 2) := by decide +kernel
theorem dX5_residue_36 : decode cX5_residue 36 = .ok (.aload_n 0, 1) := by decide +kernel
theorem dX5_residue_37 : decode cX5_residue 37 = .ok (.iload_n 1, 1) := by decide +kernel
theorem dX5_residue_38 : decode cX5_residue 38 = .ok (.iload 5, 2) := by decide +kernel
theorem dX5_residue_40 : decode cX5_residue 40 = .ok (.iload 4, 2) := by decide +kernel
theorem dX5_residue_42 : decode cX5_residue 42 = .ok (.invokevirtual 95, 3) := by decide +kernel
theorem dX5_residue_45 : decode cX5_residue 45 = .ok (.aload_n 0, 1) := by decide +kernel
theorem dX5_residue_46 : decode cX5_residue 46 = .ok (.getfield 39, 3) := by decide +kernel
theorem dX5_residue_49 : decode cX5_residue 49 = .ok (.iload_n 1, 1) := by decide +kernel
theorem dX5_residue_50 : decode cX5_residue 50 = .ok (.daload, 1) := by decide +kernel
theorem dX5_residue_51 : decode cX5_residue 51 = .ok (.aload_n 0, 1) := by decide +kernel
theorem dX5_residue_52 : decode cX5_residue 52 = .ok (.iload 6, 2) := by decide +kernel
theorem dX5_residue_54 : decode cX5_residue 54 = .ok (.invokevirtual 89, 3) := by decide +kernel
theorem dX5_residue_57 : decode cX5_residue 57 = .ok (.dmul, 1) := by decide +kernel
theorem dX5_residue_58 : decode cX5_residue 58 = .ok (.aload_n 0, 1) := by decide +kernel
theorem dX5_residue_59 : decode cX5_residue 59 = .ok (.getfield 36, 3) := by decide +kernel
theorem dX5_residue_62 : decode cX5_residue 62 = .ok (.bipush 36, 2) := by decide +kernel
theorem dX5_residue_64 : decode cX5_residue 64 = .ok (.iload_n 1, 1) := by decide +kernel
theorem dX5_residue_65 : decode cX5_residue 65 = .ok (.imul, 1) := by decide +kernel
theorem dX5_residue_66 : decode cX5_residue 66 = .ok (.iload 6, 2) := by decide +kernel
theorem dX5_residue_68 : decode cX5_residue 68 = .ok (.iadd, 1) := by decide +kernel
theorem dX5_residue_69 : decode cX5_residue 69 = .ok (.daload, 1) := by decide +kernel
theorem dX5_residue_70 : decode cX5_residue 70 = .ok (.dmul, 1) := by decide +kernel
theorem dX5_residue_71 : decode cX5_residue 71 = .ok (.dadd, 1) := by decide +kernel
theorem dX5_residue_72 : decode cX5_residue 72 = .ok (.dstore 7, 2) := by decide +kernel
theorem dX5_residue_74 : decode cX5_residue 74 = .ok (.dload 7, 2) := by decide +kernel
theorem dX5_residue_76 : decode cX5_residue 76 = .ok (.dconst 0, 1) := by decide +kernel
theorem dX5_residue_77 : decode cX5_residue 77 = .ok (.dcmp .g, 1) := by decide +kernel
theorem dX5_residue_78 : decode cX5_residue 78 = .ok (.ifCond .ge 9, 3) := by decide +kernel
theorem dX5_residue_81 : decode cX5_residue 81 = .ok (.dload 7, 2) := by decide +kernel
theorem dX5_residue_83 : decode cX5_residue 83 = .ok (.dneg, 1) := by decide +kernel
theorem dX5_residue_84 : decode cX5_residue 84 = .ok (.goto 5, 3) := by decide +kernel
theorem dX5_residue_87 : decode cX5_residue 87 = .ok (.dload 7, 2) := by decide +kernel
theorem dX5_residue_89 : decode cX5_residue 89 = .ok (.dstore 7, 2) := by decide +kernel
theorem dX5_residue_91 : decode cX5_residue 91 = .ok (.aload_n 0, 1) := by decide +kernel
theorem dX5_residue_92 : decode cX5_residue 92 = .ok (.iload 6, 2) := by decide +kernel
theorem dX5_residue_94 : decode cX5_residue 94 = .ok (.invokevirtual 79, 3) := by decide +kernel
theorem dX5_residue_97 : decode cX5_residue 97 = .ok (.ifCond .eq 15, 3) := by decide +kernel
theorem dX5_residue_100 : decode cX5_residue 100 = .ok (.dload 7, 2) := by decide +kernel
theorem dX5_residue_102 : decode cX5_residue 102 = .ok (.dload_n 2, 1) := by decide +kernel
theorem dX5_residue_103 : decode cX5_residue 103 = .ok (.dcmp .l, 1) := by decide +kernel
theorem dX5_residue_104 : decode cX5_residue 104 = .ok (.ifCond .le 8, 3) := by decide +kernel
theorem dX5_residue_107 : decode cX5_residue 107 = .ok (.dload 7, 2) := by decide +kernel
theorem dX5_residue_109 : decode cX5_residue 109 = .ok (.goto 4, 3) := by decide +kernel
theorem dX5_residue_112 : decode cX5_residue 112 = .ok (.dload_n 2, 1) := by decide +kernel
theorem dX5_residue_113 : decode cX5_residue 113 = .ok (.dstore_n 2, 1) := by decide +kernel
theorem dX5_residue_114 : decode cX5_residue 114 = .ok (.iinc 5 1, 3) := by decide +kernel
theorem dX5_residue_117 : decode cX5_residue 117 = .ok (.goto (-100), 3) := by decide +kernel
theorem dX5_residue_120 : decode cX5_residue 120 = .ok (.iinc 4 1, 3) := by decide +kernel
theorem dX5_residue_123 : decode cX5_residue 123 = .ok (.goto (-118), 3) := by decide +kernel
theorem dX5_residue_126 : decode cX5_residue 126 = .ok (.dload_n 2, 1) := by decide +kernel
theorem dX5_residue_127 : decode cX5_residue 127 = .ok (.dreturn, 1) := by decide +kernel
theorem dX5_needed_0 : decode cX5_needed 0 = .ok (.iconst 0, 1) := by decide +kernel
theorem dX5_needed_1 : decode cX5_needed 1 = .ok (.istore_n 1, 1) := by decide +kernel
theorem dX5_needed_2 : decode cX5_needed 2 = .ok (.iconst 0, 1) := by decide +kernel
theorem dX5_needed_3 : decode cX5_needed 3 = .ok (.istore_n 2, 1) := by decide +kernel
theorem dX5_needed_4 : decode cX5_needed 4 = .ok (.iload_n 2, 1) := by decide +kernel
theorem dX5_needed_5 : decode cX5_needed 5 = .ok (.aload_n 0, 1) := by decide +kernel
theorem dX5_needed_6 : decode cX5_needed 6 = .ok (.getfield 143, 3) := by decide +kernel
theorem dX5_needed_9 : decode cX5_needed 9 = .ok (.if_icmp .ge 34, 3) := by decide +kernel
theorem dX5_needed_12 : decode cX5_needed 12 = .ok (.aload_n 0, 1) := by decide +kernel
theorem dX5_needed_13 : decode cX5_needed 13 = .ok (.getfield 42, 3) := by decide +kernel
theorem dX5_needed_16 : decode cX5_needed 16 = .ok (.iload_n 2, 1) := by decide +kernel
theorem dX5_needed_17 : decode cX5_needed 17 = .ok (.iaload, 1) := by decide +kernel
theorem dX5_needed_18 : decode cX5_needed 18 = .ok (.iconst 1, 1) := by decide +kernel
theorem dX5_needed_19 : decode cX5_needed 19 = .ok (.iadd, 1) := by decide +kernel
theorem dX5_needed_20 : decode cX5_needed 20 = .ok (.iload_n 1, 1) := by decide +kernel
theorem dX5_needed_21 : decode cX5_needed 21 = .ok (.if_icmp .le 14, 3) := by decide +kernel
theorem dX5_needed_24 : decode cX5_needed 24 = .ok (.aload_n 0, 1) := by decide +kernel
theorem dX5_needed_25 : decode cX5_needed 25 = .ok (.getfield 42, 3) := by decide +kernel
theorem dX5_needed_28 : decode cX5_needed 28 = .ok (.iload_n 2, 1) := by decide +kernel
theorem dX5_needed_29 : decode cX5_needed 29 = .ok (.iaload, 1) := by decide +kernel
theorem dX5_needed_30 : decode cX5_needed 30 = .ok (.iconst 1, 1) := by decide +kernel
theorem dX5_needed_31 : decode cX5_needed 31 = .ok (.iadd, 1) := by decide +kernel
theorem dX5_needed_32 : decode cX5_needed 32 = .ok (.goto 4, 3) := by decide +kernel
theorem dX5_needed_35 : decode cX5_needed 35 = .ok (.iload_n 1, 1) := by decide +kernel
theorem dX5_needed_36 : decode cX5_needed 36 = .ok (.istore_n 1, 1) := by decide +kernel
theorem dX5_needed_37 : decode cX5_needed 37 = .ok (.iinc 2 1, 3) := by decide +kernel
theorem dX5_needed_40 : decode cX5_needed 40 = .ok (.goto (-36), 3) := by decide +kernel
theorem dX5_needed_43 : decode cX5_needed 43 = .ok (.iload_n 1, 1) := by decide +kernel
theorem dX5_needed_44 : decode cX5_needed 44 = .ok (.ireturn, 1) := by decide +kernel
theorem dX5_total_0 : decode cX5_total 0 = .ok (.dconst 0, 1) := by decide +kernel
theorem dX5_total_1 : decode cX5_total 1 = .ok (.dstore_n 1, 1) := by decide +kernel
theorem dX5_total_2 : decode cX5_total 2 = .ok (.iconst 0, 1) := by decide +kernel
theorem dX5_total_3 : decode cX5_total 3 = .ok (.istore_n 3, 1) := by decide +kernel
theorem dX5_total_4 : decode cX5_total 4 = .ok (.iload_n 3, 1) := by decide +kernel
theorem dX5_total_5 : decode cX5_total 5 = .ok (.aload_n 0, 1) := by decide +kernel
theorem dX5_total_6 : decode cX5_total 6 = .ok (.getfield 143, 3) := by decide +kernel
theorem dX5_total_9 : decode cX5_total 9 = .ok (.if_icmp .ge 37, 3) := by decide +kernel
theorem dX5_total_12 : decode cX5_total 12 = .ok (.aload_n 0, 1) := by decide +kernel
theorem dX5_total_13 : decode cX5_total 13 = .ok (.getfield 39, 3) := by decide +kernel
theorem dX5_total_16 : decode cX5_total 16 = .ok (.aload_n 0, 1) := by decide +kernel
theorem dX5_total_17 : decode cX5_total 17 = .ok (.getfield 42, 3) := by decide +kernel
theorem dX5_total_20 : decode cX5_total 20 = .ok (.iload_n 3, 1) := by decide +kernel
theorem dX5_total_21 : decode cX5_total 21 = .ok (.iaload, 1) := by decide +kernel
theorem dX5_total_22 : decode cX5_total 22 = .ok (.daload, 1) := by decide +kernel
theorem dX5_total_23 : decode cX5_total 23 = .ok (.aload_n 0, 1) := by decide +kernel
theorem dX5_total_24 : decode cX5_total 24 = .ok (.getfield 45, 3) := by decide +kernel
theorem dX5_total_27 : decode cX5_total 27 = .ok (.iload_n 3, 1) := by decide +kernel
theorem dX5_total_28 : decode cX5_total 28 = .ok (.daload, 1) := by decide +kernel
theorem dX5_total_29 : decode cX5_total 29 = .ok (.dsub, 1) := by decide +kernel
theorem dX5_total_30 : decode cX5_total 30 = .ok (.dstore 4, 2) := by decide +kernel
theorem dX5_total_32 : decode cX5_total 32 = .ok (.dload_n 1, 1) := by decide +kernel
theorem dX5_total_33 : decode cX5_total 33 = .ok (.dload 4, 2) := by decide +kernel
theorem dX5_total_35 : decode cX5_total 35 = .ok (.dload 4, 2) := by decide +kernel
theorem dX5_total_37 : decode cX5_total 37 = .ok (.dmul, 1) := by decide +kernel
theorem dX5_total_38 : decode cX5_total 38 = .ok (.dadd, 1) := by decide +kernel
theorem dX5_total_39 : decode cX5_total 39 = .ok (.dstore_n 1, 1) := by decide +kernel
theorem dX5_total_40 : decode cX5_total 40 = .ok (.iinc 3 1, 3) := by decide +kernel
theorem dX5_total_43 : decode cX5_total 43 = .ok (.goto (-39), 3) := by decide +kernel
theorem dX5_total_46 : decode cX5_total 46 = .ok (.dload_n 1, 1) := by decide +kernel
theorem dX5_total_47 : decode cX5_total 47 = .ok (.dreturn, 1) := by decide +kernel
end
section
set_option maxRecDepth 20000 in
theorem ggX5_springs_X5_isWood : GoodIn wsX5_springs wsX5_isWood := goodIn_r _ [15, 5, 20, 21, 22, 23, 24, 25, 26, 27, 28, 29, 30, 31, 32, 33, 34, 35, 36, 37, 38] (by decide +kernel) (by decide +kernel)
set_option maxRecDepth 20000 in
theorem gX5_springs_X5_isWood : GoodIn wsX5_springs (wsV RX5 79 RX5 yX5_isWood wsX5_isWood) := goodIn_app (goodIn_of _ (by decide +kernel)) ggX5_springs_X5_isWood
set_option maxRecDepth 20000 in
theorem ggX5_springs_X5_spring : GoodIn wsX5_springs wsX5_spring := goodIn_r _ [18, 19] (by decide +kernel) (by decide +kernel)
set_option maxRecDepth 20000 in
theorem gX5_springs_X5_spring : GoodIn wsX5_springs (va_wsS RX5 83 yX5_spring wsX5_spring) := goodIn_app (goodIn_of _ (by decide +kernel)) ggX5_springs_X5_spring
theorem dX5_springs_0 : decode cX5_springs 0 = .ok (.iconst 0, 1) := by decide +kernel
theorem dX5_springs_1 : decode cX5_springs 1 = .ok (.istore_n 1, 1) := by decide +kernel
theorem dX5_springs_2 : decode cX5_springs 2 = .ok (.iload_n 1, 1) := by decide +kernel
theorem dX5_springs_3 : decode cX5_springs 3 = .ok (.aload_n 0, 1) := by decide +kernel
theorem dX5_springs_4 : decode cX5_springs 4 = .ok (.getfield 52, 3) := by decide +kernel
theorem dX5_springs_7 : decode cX5_springs 7 = .ok (.if_icmp .ge 152, 3) := by decide +kernel
theorem dX5_springs_10 : decode cX5_springs 10 = .ok (.iconst 0, 1) := by decide +kernel
theorem dX5_springs_11 : decode cX5_springs 11 = .ok (.istore_n 2, 1) := by decide +kernel
theorem dX5_springs_12 : decode cX5_springs 12 = .ok (.iload_n 2, 1) := by decide +kernel
theorem dX5_springs_13 : decode cX5_springs 13 = .ok (.aload_n 0, 1) := by decide +kernel
theorem dX5_springs_14 : decode cX5_springs 14 = .ok (.getfield 48, 3) := by decide +kernel
theorem dX5_springs_17 : decode cX5_springs 17 = .ok (.if_icmp .ge 136, 3) := by decide +kernel
theorem dX5_springs_20 : decode cX5_springs 20 = .ok (.bipush 6, 2) := by decide +kernel
theorem dX5_springs_22 : decode cX5_springs 22 = .ok (.iload_n 1, 1) := by decide +kernel
theorem dX5_springs_23 : decode cX5_springs 23 = .ok (.imul, 1) := by decide +kernel
theorem dX5_springs_24 : decode cX5_springs 24 = .ok (.iload_n 2, 1) := by decide +kernel
theorem dX5_springs_25 : decode cX5_springs 25 = .ok (.iadd, 1) := by decide +kernel
theorem dX5_springs_26 : decode cX5_springs 26 = .ok (.istore_n 3, 1) := by decide +kernel
theorem dX5_springs_27 : decode cX5_springs 27 = .ok (.aload_n 0, 1) := by decide +kernel
theorem dX5_springs_28 : decode cX5_springs 28 = .ok (.getfield 30, 3) := by decide +kernel
theorem dX5_springs_31 : decode cX5_springs 31 = .ok (.iload_n 3, 1) := by decide +kernel
theorem dX5_springs_32 : decode cX5_springs 32 = .ok (.iload_n 2, 1) := by decide +kernel
theorem dX5_springs_33 : decode cX5_springs 33 = .ok (.iconst 1, 1) := by decide +kernel
theorem dX5_springs_34 : decode cX5_springs 34 = .ok (.iadd, 1) := by decide +kernel
theorem dX5_springs_35 : decode cX5_springs 35 = .ok (.aload_n 0, 1) := by decide +kernel
theorem dX5_springs_36 : decode cX5_springs 36 = .ok (.getfield 48, 3) := by decide +kernel
theorem dX5_springs_39 : decode cX5_springs 39 = .ok (.if_icmp .ge 45, 3) := by decide +kernel
theorem dX5_springs_42 : decode cX5_springs 42 = .ok (.aload_n 0, 1) := by decide +kernel
theorem dX5_springs_43 : decode cX5_springs 43 = .ok (.iload_n 3, 1) := by decide +kernel
theorem dX5_springs_44 : decode cX5_springs 44 = .ok (.invokevirtual 79, 3) := by decide +kernel
theorem dX5_springs_47 : decode cX5_springs 47 = .ok (.ifCond .eq 37, 3) := by decide +kernel
theorem dX5_springs_50 : decode cX5_springs 50 = .ok (.aload_n 0, 1) := by decide +kernel
theorem dX5_springs_51 : decode cX5_springs 51 = .ok (.iload_n 3, 1) := by decide +kernel
theorem dX5_springs_52 : decode cX5_springs 52 = .ok (.iconst 1, 1) := by decide +kernel
theorem dX5_springs_53 : decode cX5_springs 53 = .ok (.iadd, 1) := by decide +kernel
theorem dX5_springs_54 : decode cX5_springs 54 = .ok (.invokevirtual 79, 3) := by decide +kernel
theorem dX5_springs_57 : decode cX5_springs 57 = .ok (.ifCond .eq 27, 3) := by decide +kernel
theorem dX5_springs_60 : decode cX5_springs 60 = .ok (.aload_n 0, 1) := by decide +kernel
theorem dX5_springs_61 : decode cX5_springs 61 = .ok (.getfield 13, 3) := by decide +kernel
theorem dX5_springs_64 : decode cX5_springs 64 = .ok (.aload_n 0, 1) := by decide +kernel
theorem dX5_springs_65 : decode cX5_springs 65 = .ok (.getfield 7, 3) := by decide +kernel
theorem dX5_springs_68 : decode cX5_springs 68 = .ok (.iload_n 3, 1) := by decide +kernel
theorem dX5_springs_69 : decode cX5_springs 69 = .ok (.daload, 1) := by decide +kernel
theorem dX5_springs_70 : decode cX5_springs 70 = .ok (.aload_n 0, 1) := by decide +kernel
theorem dX5_springs_71 : decode cX5_springs 71 = .ok (.getfield 7, 3) := by decide +kernel
theorem dX5_springs_74 : decode cX5_springs 74 = .ok (.iload_n 3, 1) := by decide +kernel
theorem dX5_springs_75 : decode cX5_springs 75 = .ok (.iconst 1, 1) := by decide +kernel
theorem dX5_springs_76 : decode cX5_springs 76 = .ok (.iadd, 1) := by decide +kernel
theorem dX5_springs_77 : decode cX5_springs 77 = .ok (.daload, 1) := by decide +kernel
theorem dX5_springs_78 : decode cX5_springs 78 = .ok (.invokestatic 83, 3) := by decide +kernel
theorem dX5_springs_81 : decode cX5_springs 81 = .ok (.goto 4, 3) := by decide +kernel
theorem dX5_springs_84 : decode cX5_springs 84 = .ok (.dconst 0, 1) := by decide +kernel
theorem dX5_springs_85 : decode cX5_springs 85 = .ok (.dastore, 1) := by decide +kernel
theorem dX5_springs_86 : decode cX5_springs 86 = .ok (.aload_n 0, 1) := by decide +kernel
theorem dX5_springs_87 : decode cX5_springs 87 = .ok (.getfield 33, 3) := by decide +kernel
theorem dX5_springs_90 : decode cX5_springs 90 = .ok (.iload_n 3, 1) := by decide +kernel
theorem dX5_springs_91 : decode cX5_springs 91 = .ok (.iload_n 1, 1) := by decide +kernel
theorem dX5_springs_92 : decode cX5_springs 92 = .ok (.iconst 1, 1) := by decide +kernel
theorem dX5_springs_93 : decode cX5_springs 93 = .ok (.iadd, 1) := by decide +kernel
theorem dX5_springs_94 : decode cX5_springs 94 = .ok (.aload_n 0, 1) := by decide +kernel
theorem dX5_springs_95 : decode cX5_springs 95 = .ok (.getfield 52, 3) := by decide +kernel
theorem dX5_springs_98 : decode cX5_springs 98 = .ok (.if_icmp .ge 47, 3) := by decide +kernel
theorem dX5_springs_101 : decode cX5_springs 101 = .ok (.aload_n 0, 1) := by decide +kernel
theorem dX5_springs_102 : decode cX5_springs 102 = .ok (.iload_n 3, 1) := by decide +kernel
theorem dX5_springs_103 : decode cX5_springs 103 = .ok (.invokevirtual 79, 3) := by decide +kernel
theorem dX5_springs_106 : decode cX5_springs 106 = .ok (.ifCond .eq 39, 3) := by decide +kernel
theorem dX5_springs_109 : decode cX5_springs 109 = .ok (.aload_n 0, 1) := by decide +kernel
theorem dX5_springs_110 : decode cX5_springs 110 = .ok (.iload_n 3, 1) := by decide +kernel
theorem dX5_springs_111 : decode cX5_springs 111 = .ok (.bipush 6, 2) := by decide +kernel
theorem dX5_springs_113 : decode cX5_springs 113 = .ok (.iadd, 1) := by decide +kernel
theorem dX5_springs_114 : decode cX5_springs 114 = .ok (.invokevirtual 79, 3) := by decide +kernel
theorem dX5_springs_117 : decode cX5_springs 117 = .ok (.ifCond .eq 28, 3) := by decide +kernel
theorem dX5_springs_120 : decode cX5_springs 120 = .ok (.aload_n 0, 1) := by decide +kernel
theorem dX5_springs_121 : decode cX5_springs 121 = .ok (.getfield 17, 3) := by decide +kernel
theorem dX5_springs_124 : decode cX5_springs 124 = .ok (.aload_n 0, 1) := by decide +kernel
theorem dX5_springs_125 : decode cX5_springs 125 = .ok (.getfield 7, 3) := by decide +kernel
theorem dX5_springs_128 : decode cX5_springs 128 = .ok (.iload_n 3, 1) := by decide +kernel
theorem dX5_springs_129 : decode cX5_springs 129 = .ok (.daload, 1) := by decide +kernel
theorem dX5_springs_130 : decode cX5_springs 130 = .ok (.aload_n 0, 1) := by decide +kernel
theorem dX5_springs_131 : decode cX5_springs 131 = .ok (.getfield 7, 3) := by decide +kernel
theorem dX5_springs_134 : decode cX5_springs 134 = .ok (.iload_n 3, 1) := by decide +kernel
theorem dX5_springs_135 : decode cX5_springs 135 = .ok (.bipush 6, 2) := by decide +kernel
theorem dX5_springs_137 : decode cX5_springs 137 = .ok (.iadd, 1) := by decide +kernel
theorem dX5_springs_138 : decode cX5_springs 138 = .ok (.daload, 1) := by decide +kernel
theorem dX5_springs_139 : decode cX5_springs 139 = .ok (.invokestatic 83, 3) := by decide +kernel
theorem dX5_springs_142 : decode cX5_springs 142 = .ok (.goto 4, 3) := by decide +kernel
theorem dX5_springs_145 : decode cX5_springs 145 = .ok (.dconst 0, 1) := by decide +kernel
theorem dX5_springs_146 : decode cX5_springs 146 = .ok (.dastore, 1) := by decide +kernel
theorem dX5_springs_147 : decode cX5_springs 147 = .ok (.iinc 2 1, 3) := by decide +kernel
theorem dX5_springs_150 : decode cX5_springs 150 = .ok (.goto (-138), 3) := by decide +kernel
theorem dX5_springs_153 : decode cX5_springs 153 = .ok (.iinc 1 1, 3) := by decide +kernel
theorem dX5_springs_156 : decode cX5_springs 156 = .ok (.goto (-154), 3) := by decide +kernel
theorem dX5_springs_159 : decode cX5_springs 159 = .ok (.iconst 0, 1) := by decide +kernel
theorem dX5_springs_160 : decode cX5_springs 160 = .ok (.istore_n 1, 1) := by decide +kernel
theorem dX5_springs_161 : decode cX5_springs 161 = .ok (.iload_n 1, 1) := by decide +kernel
theorem dX5_springs_162 : decode cX5_springs 162 = .ok (.aload_n 0, 1) := by decide +kernel
theorem dX5_springs_163 : decode cX5_springs 163 = .ok (.getfield 76, 3) := by decide +kernel
theorem dX5_springs_166 : decode cX5_springs 166 = .ok (.if_icmp .ge 192, 3) := by decide +kernel
theorem dX5_springs_169 : decode cX5_springs 169 = .ok (.aload_n 0, 1) := by decide +kernel
theorem dX5_springs_170 : decode cX5_springs 170 = .ok (.getfield 23, 3) := by decide +kernel
theorem dX5_springs_173 : decode cX5_springs 173 = .ok (.iconst 4, 1) := by decide +kernel
theorem dX5_springs_174 : decode cX5_springs 174 = .ok (.iload_n 1, 1) := by decide +kernel
theorem dX5_springs_175 : decode cX5_springs 175 = .ok (.imul, 1) := by decide +kernel
theorem dX5_springs_176 : decode cX5_springs 176 = .ok (.iaload, 1) := by decide +kernel
theorem dX5_springs_177 : decode cX5_springs 177 = .ok (.istore_n 2, 1) := by decide +kernel
theorem dX5_springs_178 : decode cX5_springs 178 = .ok (.iload_n 2, 1) := by decide +kernel
theorem dX5_springs_179 : decode cX5_springs 179 = .ok (.aload_n 0, 1) := by decide +kernel
theorem dX5_springs_180 : decode cX5_springs 180 = .ok (.getfield 23, 3) := by decide +kernel
theorem dX5_springs_183 : decode cX5_springs 183 = .ok (.iconst 4, 1) := by decide +kernel
theorem dX5_springs_184 : decode cX5_springs 184 = .ok (.iload_n 1, 1) := by decide +kernel
theorem dX5_springs_185 : decode cX5_springs 185 = .ok (.imul, 1) := by decide +kernel
theorem dX5_springs_186 : decode cX5_springs 186 = .ok (.iconst 2, 1) := by decide +kernel
theorem dX5_springs_187 : decode cX5_springs 187 = .ok (.iadd, 1) := by decide +kernel
theorem dX5_springs_188 : decode cX5_springs 188 = .ok (.iaload, 1) := by decide +kernel
theorem dX5_springs_189 : decode cX5_springs 189 = .ok (.if_icmp .ge 71, 3) := by decide +kernel
theorem dX5_springs_192 : decode cX5_springs 192 = .ok (.bipush 6, 2) := by decide +kernel
theorem dX5_springs_194 : decode cX5_springs 194 = .ok (.aload_n 0, 1) := by decide +kernel
theorem dX5_springs_195 : decode cX5_springs 195 = .ok (.getfield 23, 3) := by decide +kernel
theorem dX5_springs_198 : decode cX5_springs 198 = .ok (.iconst 4, 1) := by decide +kernel
theorem dX5_springs_199 : decode cX5_springs 199 = .ok (.iload_n 1, 1) := by decide +kernel
theorem dX5_springs_200 : decode cX5_springs 200 = .ok (.imul, 1) := by decide +kernel
theorem dX5_springs_201 : decode cX5_springs 201 = .ok (.iconst 1, 1) := by decide +kernel
theorem dX5_springs_202 : decode cX5_springs 202 = .ok (.iadd, 1) := by decide +kernel
theorem dX5_springs_203 : decode cX5_springs 203 = .ok (.iaload, 1) := by decide +kernel
theorem dX5_springs_204 : decode cX5_springs 204 = .ok (.imul, 1) := by decide +kernel
theorem dX5_springs_205 : decode cX5_springs 205 = .ok (.iload_n 2, 1) := by decide +kernel
theorem dX5_springs_206 : decode cX5_springs 206 = .ok (.iadd, 1) := by decide +kernel
theorem dX5_springs_207 : decode cX5_springs 207 = .ok (.istore_n 3, 1) := by decide +kernel
theorem dX5_springs_208 : decode cX5_springs 208 = .ok (.aload_n 0, 1) := by decide +kernel
theorem dX5_springs_209 : decode cX5_springs 209 = .ok (.getfield 30, 3) := by decide +kernel
theorem dX5_springs_212 : decode cX5_springs 212 = .ok (.iload_n 3, 1) := by decide +kernel
theorem dX5_springs_213 : decode cX5_springs 213 = .ok (.aload_n 0, 1) := by decide +kernel
theorem dX5_springs_214 : decode cX5_springs 214 = .ok (.iload_n 3, 1) := by decide +kernel
theorem dX5_springs_215 : decode cX5_springs 215 = .ok (.invokevirtual 79, 3) := by decide +kernel
theorem dX5_springs_218 : decode cX5_springs 218 = .ok (.ifCond .eq 29, 3) := by decide +kernel
theorem dX5_springs_221 : decode cX5_springs 221 = .ok (.aload_n 0, 1) := by decide +kernel
theorem dX5_springs_222 : decode cX5_springs 222 = .ok (.iload_n 3, 1) := by decide +kernel
theorem dX5_springs_223 : decode cX5_springs 223 = .ok (.iconst 1, 1) := by decide +kernel
theorem dX5_springs_224 : decode cX5_springs 224 = .ok (.iadd, 1) := by decide +kernel
theorem dX5_springs_225 : decode cX5_springs 225 = .ok (.invokevirtual 79, 3) := by decide +kernel
theorem dX5_springs_228 : decode cX5_springs 228 = .ok (.ifCond .eq 19, 3) := by decide +kernel
theorem dX5_springs_231 : decode cX5_springs 231 = .ok (.aload_n 0, 1) := by decide +kernel
theorem dX5_springs_232 : decode cX5_springs 232 = .ok (.getfield 30, 3) := by decide +kernel
theorem dX5_springs_235 : decode cX5_springs 235 = .ok (.iload_n 3, 1) := by decide +kernel
theorem dX5_springs_236 : decode cX5_springs 236 = .ok (.daload, 1) := by decide +kernel
theorem dX5_springs_237 : decode cX5_springs 237 = .ok (.aload_n 0, 1) := by decide +kernel
theorem dX5_springs_238 : decode cX5_springs 238 = .ok (.getfield 27, 3) := by decide +kernel
theorem dX5_springs_241 : decode cX5_springs 241 = .ok (.iload_n 1, 1) := by decide +kernel
theorem dX5_springs_242 : decode cX5_springs 242 = .ok (.daload, 1) := by decide +kernel
theorem dX5_springs_243 : decode cX5_springs 243 = .ok (.dadd, 1) := by decide +kernel
theorem dX5_springs_244 : decode cX5_springs 244 = .ok (.goto 9, 3) := by decide +kernel
theorem dX5_springs_247 : decode cX5_springs 247 = .ok (.aload_n 0, 1) := by decide +kernel
theorem dX5_springs_248 : decode cX5_springs 248 = .ok (.getfield 30, 3) := by decide +kernel
theorem dX5_springs_251 : decode cX5_springs 251 = .ok (.iload_n 3, 1) := by decide +kernel
theorem dX5_springs_252 : decode cX5_springs 252 = .ok (.daload, 1) := by decide +kernel
theorem dX5_springs_253 : decode cX5_springs 253 = .ok (.dastore, 1) := by decide +kernel
theorem dX5_springs_254 : decode cX5_springs 254 = .ok (.iinc 2 1, 3) := by decide +kernel
theorem dX5_springs_257 : decode cX5_springs 257 = .ok (.goto (-79), 3) := by decide +kernel
theorem dX5_springs_260 : decode cX5_springs 260 = .ok (.aload_n 0, 1) := by decide +kernel
theorem dX5_springs_261 : decode cX5_springs 261 = .ok (.getfield 23, 3) := by decide +kernel
theorem dX5_springs_264 : decode cX5_springs 264 = .ok (.iconst 4, 1) := by decide +kernel
theorem dX5_springs_265 : decode cX5_springs 265 = .ok (.iload_n 1, 1) := by decide +kernel
theorem dX5_springs_266 : decode cX5_springs 266 = .ok (.imul, 1) := by decide +kernel
theorem dX5_springs_267 : decode cX5_springs 267 = .ok (.iconst 1, 1) := by decide +kernel
theorem dX5_springs_268 : decode cX5_springs 268 = .ok (.iadd, 1) := by decide +kernel
theorem dX5_springs_269 : decode cX5_springs 269 = .ok (.iaload, 1) := by decide +kernel
theorem dX5_springs_270 : decode cX5_springs 270 = .ok (.istore_n 2, 1) := by decide +kernel
theorem dX5_springs_271 : decode cX5_springs 271 = .ok (.iload_n 2, 1) := by decide +kernel
theorem dX5_springs_272 : decode cX5_springs 272 = .ok (.aload_n 0, 1) := by decide +kernel
theorem dX5_springs_273 : decode cX5_springs 273 = .ok (.getfield 23, 3) := by decide +kernel
theorem dX5_springs_276 : decode cX5_springs 276 = .ok (.iconst 4, 1) := by decide +kernel
theorem dX5_springs_277 : decode cX5_springs 277 = .ok (.iload_n 1, 1) := by decide +kernel
theorem dX5_springs_278 : decode cX5_springs 278 = .ok (.imul, 1) := by decide +kernel
theorem dX5_springs_279 : decode cX5_springs 279 = .ok (.iconst 3, 1) := by decide +kernel
theorem dX5_springs_280 : decode cX5_springs 280 = .ok (.iadd, 1) := by decide +kernel
theorem dX5_springs_281 : decode cX5_springs 281 = .ok (.iaload, 1) := by decide +kernel
theorem dX5_springs_282 : decode cX5_springs 282 = .ok (.if_icmp .ge 70, 3) := by decide +kernel
theorem dX5_springs_285 : decode cX5_springs 285 = .ok (.bipush 6, 2) := by decide +kernel
theorem dX5_springs_287 : decode cX5_springs 287 = .ok (.iload_n 2, 1) := by decide +kernel
theorem dX5_springs_288 : decode cX5_springs 288 = .ok (.imul, 1) := by decide +kernel
theorem dX5_springs_289 : decode cX5_springs 289 = .ok (.aload_n 0, 1) := by decide +kernel
theorem dX5_springs_290 : decode cX5_springs 290 = .ok (.getfield 23, 3) := by decide +kernel
theorem dX5_springs_293 : decode cX5_springs 293 = .ok (.iconst 4, 1) := by decide +kernel
theorem dX5_springs_294 : decode cX5_springs 294 = .ok (.iload_n 1, 1) := by decide +kernel
theorem dX5_springs_295 : decode cX5_springs 295 = .ok (.imul, 1) := by decide +kernel
theorem dX5_springs_296 : decode cX5_springs 296 = .ok (.iaload, 1) := by decide +kernel
theorem dX5_springs_297 : decode cX5_springs 297 = .ok (.iadd, 1) := by decide +kernel
theorem dX5_springs_298 : decode cX5_springs 298 = .ok (.istore_n 3, 1) := by decide +kernel
theorem dX5_springs_299 : decode cX5_springs 299 = .ok (.aload_n 0, 1) := by decide +kernel
theorem dX5_springs_300 : decode cX5_springs 300 = .ok (.getfield 33, 3) := by decide +kernel
theorem dX5_springs_303 : decode cX5_springs 303 = .ok (.iload_n 3, 1) := by decide +kernel
theorem dX5_springs_304 : decode cX5_springs 304 = .ok (.aload_n 0, 1) := by decide +kernel
theorem dX5_springs_305 : decode cX5_springs 305 = .ok (.iload_n 3, 1) := by decide +kernel
theorem dX5_springs_306 : decode cX5_springs 306 = .ok (.invokevirtual 79, 3) := by decide +kernel
theorem dX5_springs_309 : decode cX5_springs 309 = .ok (.ifCond .eq 30, 3) := by decide +kernel
theorem dX5_springs_312 : decode cX5_springs 312 = .ok (.aload_n 0, 1) := by decide +kernel
theorem dX5_springs_313 : decode cX5_springs 313 = .ok (.iload_n 3, 1) := by decide +kernel
theorem dX5_springs_314 : decode cX5_springs 314 = .ok (.bipush 6, 2) := by decide +kernel
theorem dX5_springs_316 : decode cX5_springs 316 = .ok (.iadd, 1) := by decide +kernel
theorem dX5_springs_317 : decode cX5_springs 317 = .ok (.invokevirtual 79, 3) := by decide +kernel
theorem dX5_springs_320 : decode cX5_springs 320 = .ok (.ifCond .eq 19, 3) := by decide +kernel
theorem dX5_springs_323 : decode cX5_springs 323 = .ok (.aload_n 0, 1) := by decide +kernel
theorem dX5_springs_324 : decode cX5_springs 324 = .ok (.getfield 33, 3) := by decide +kernel
theorem dX5_springs_327 : decode cX5_springs 327 = .ok (.iload_n 3, 1) := by decide +kernel
theorem dX5_springs_328 : decode cX5_springs 328 = .ok (.daload, 1) := by decide +kernel
theorem dX5_springs_329 : decode cX5_springs 329 = .ok (.aload_n 0, 1) := by decide +kernel
theorem dX5_springs_330 : decode cX5_springs 330 = .ok (.getfield 27, 3) := by decide +kernel
theorem dX5_springs_333 : decode cX5_springs 333 = .ok (.iload_n 1, 1) := by decide +kernel
theorem dX5_springs_334 : decode cX5_springs 334 = .ok (.daload, 1) := by decide +kernel
theorem dX5_springs_335 : decode cX5_springs 335 = .ok (.dadd, 1) := by decide +kernel
theorem dX5_springs_336 : decode cX5_springs 336 = .ok (.goto 9, 3) := by decide +kernel
theorem dX5_springs_339 : decode cX5_springs 339 = .ok (.aload_n 0, 1) := by decide +kernel
theorem dX5_springs_340 : decode cX5_springs 340 = .ok (.getfield 33, 3) := by decide +kernel
theorem dX5_springs_343 : decode cX5_springs 343 = .ok (.iload_n 3, 1) := by decide +kernel
theorem dX5_springs_344 : decode cX5_springs 344 = .ok (.daload, 1) := by decide +kernel
theorem dX5_springs_345 : decode cX5_springs 345 = .ok (.dastore, 1) := by decide +kernel
theorem dX5_springs_346 : decode cX5_springs 346 = .ok (.iinc 2 1, 3) := by decide +kernel
theorem dX5_springs_349 : decode cX5_springs 349 = .ok (.goto (-78), 3) := by decide +kernel
theorem dX5_springs_352 : decode cX5_springs 352 = .ok (.iinc 1 1, 3) := by decide +kernel
theorem dX5_springs_355 : decode cX5_springs 355 = .ok (.goto (-194), 3) := by decide +kernel
theorem dX5_springs_358 : decode cX5_springs 358 = .ok (.return_, 1) := by decide +kernel
set_option maxRecDepth 20000 in
theorem ggX5_sweep_X5_isWood : GoodIn wsX5_sweep wsX5_isWood := goodIn_r _ [9, 10, 35, 36, 37, 38, 39, 40, 41, 42, 43, 44, 45, 46, 47, 48, 49, 50, 51, 52, 53] (by decide +kernel) (by decide +kernel)
set_option maxRecDepth 20000 in
theorem gX5_sweep_X5_isWood : GoodIn wsX5_sweep (wsV RX5 79 RX5 yX5_isWood wsX5_isWood) := goodIn_app (goodIn_of _ (by decide +kernel)) ggX5_sweep_X5_isWood
set_option maxRecDepth 20000 in
theorem ggX5_sweep_X5_force : GoodIn wsX5_sweep wsX5_force := goodIn_r _ [14, 2, 15, 3, 1, 16, 17, 35, 36, 37, 38, 39, 40, 41, 42, 43, 44, 45, 46, 47, 48, 49, 50, 51, 52, 53] (by decide +kernel) (by decide +kernel)
set_option maxRecDepth 20000 in
theorem gX5_sweep_X5_force : GoodIn wsX5_sweep (wsV RX5 95 RX5 yX5_force wsX5_force) := goodIn_app (goodIn_of _ (by decide +kernel)) ggX5_sweep_X5_force
set_option maxRecDepth 20000 in
theorem ggX5_sweep_X5_hold : GoodIn wsX5_sweep wsX5_hold := goodIn_r _ [21, 17, 2, 15, 1, 16, 35, 36, 37, 38, 39, 40, 41, 42, 43, 44, 45, 46, 47, 48, 49, 50, 51, 52, 53] (by decide +kernel) (by decide +kernel)
set_option maxRecDepth 20000 in
theorem gX5_sweep_X5_hold : GoodIn wsX5_sweep (wsV RX5 99 RX5 yX5_hold wsX5_hold) := goodIn_app (goodIn_of _ (by decide +kernel)) ggX5_sweep_X5_hold
set_option maxRecDepth 20000 in
theorem ggX5_sweep_X5_productOf : GoodIn wsX5_sweep wsX5_productOf := goodIn_r _ [25, 1, 2, 3, 5, 6, 7, 8, 9, 10, 26, 27, 28, 29, 30, 35, 36, 37, 38, 39, 40, 41, 42, 43, 44, 45, 46, 47, 48, 49, 50, 51, 52, 53] (by decide +kernel) (by decide +kernel)
set_option maxRecDepth 20000 in
theorem gX5_sweep_X5_productOf : GoodIn wsX5_sweep (wsV RX5 103 RX5 yX5_productOf wsX5_productOf) := goodIn_app (goodIn_of _ (by decide +kernel)) ggX5_sweep_X5_productOf
set_option maxRecDepth 20000 in
theorem ggX5_sweep_X5_root : GoodIn wsX5_sweep wsX5_root := goodIn_r _ [33, 34] (by decide +kernel) (by decide +kernel)
set_option maxRecDepth 20000 in
theorem gX5_sweep_X5_root : GoodIn wsX5_sweep (va_wsS RX5 106 yX5_root wsX5_root) := goodIn_app (goodIn_of _ (by decide +kernel)) ggX5_sweep_X5_root
theorem dX5_sweep_0 : decode cX5_sweep 0 = .ok (.iconst 0, 1) := by decide +kernel
theorem dX5_sweep_1 : decode cX5_sweep 1 = .ok (.istore_n 2, 1) := by decide +kernel
theorem dX5_sweep_2 : decode cX5_sweep 2 = .ok (.iload_n 2, 1) := by decide +kernel
theorem dX5_sweep_3 : decode cX5_sweep 3 = .ok (.aload_n 0, 1) := by decide +kernel
theorem dX5_sweep_4 : decode cX5_sweep 4 = .ok (.getfield 52, 3) := by decide +kernel
theorem dX5_sweep_7 : decode cX5_sweep 7 = .ok (.if_icmp .ge 84, 3) := by decide +kernel
theorem dX5_sweep_10 : decode cX5_sweep 10 = .ok (.iconst 0, 1) := by decide +kernel
theorem dX5_sweep_11 : decode cX5_sweep 11 = .ok (.istore_n 3, 1) := by decide +kernel
theorem dX5_sweep_12 : decode cX5_sweep 12 = .ok (.iload_n 3, 1) := by decide +kernel
theorem dX5_sweep_13 : decode cX5_sweep 13 = .ok (.aload_n 0, 1) := by decide +kernel
theorem dX5_sweep_14 : decode cX5_sweep 14 = .ok (.getfield 48, 3) := by decide +kernel
theorem dX5_sweep_17 : decode cX5_sweep 17 = .ok (.if_icmp .ge 68, 3) := by decide +kernel
theorem dX5_sweep_20 : decode cX5_sweep 20 = .ok (.bipush 36, 2) := by decide +kernel
theorem dX5_sweep_22 : decode cX5_sweep 22 = .ok (.iload_n 1, 1) := by decide +kernel
theorem dX5_sweep_23 : decode cX5_sweep 23 = .ok (.imul, 1) := by decide +kernel
theorem dX5_sweep_24 : decode cX5_sweep 24 = .ok (.bipush 6, 2) := by decide +kernel
theorem dX5_sweep_26 : decode cX5_sweep 26 = .ok (.iload_n 2, 1) := by decide +kernel
theorem dX5_sweep_27 : decode cX5_sweep 27 = .ok (.imul, 1) := by decide +kernel
theorem dX5_sweep_28 : decode cX5_sweep 28 = .ok (.iadd, 1) := by decide +kernel
theorem dX5_sweep_29 : decode cX5_sweep 29 = .ok (.iload_n 3, 1) := by decide +kernel
theorem dX5_sweep_30 : decode cX5_sweep 30 = .ok (.iadd, 1) := by decide +kernel
theorem dX5_sweep_31 : decode cX5_sweep 31 = .ok (.istore 4, 2) := by decide +kernel
theorem dX5_sweep_33 : decode cX5_sweep 33 = .ok (.aload_n 0, 1) := by decide +kernel
theorem dX5_sweep_34 : decode cX5_sweep 34 = .ok (.bipush 6, 2) := by decide +kernel
theorem dX5_sweep_36 : decode cX5_sweep 36 = .ok (.iload_n 2, 1) := by decide +kernel
theorem dX5_sweep_37 : decode cX5_sweep 37 = .ok (.imul, 1) := by decide +kernel
theorem dX5_sweep_38 : decode cX5_sweep 38 = .ok (.iload_n 3, 1) := by decide +kernel
theorem dX5_sweep_39 : decode cX5_sweep 39 = .ok (.iadd, 1) := by decide +kernel
theorem dX5_sweep_40 : decode cX5_sweep 40 = .ok (.invokevirtual 79, 3) := by decide +kernel
theorem dX5_sweep_43 : decode cX5_sweep 43 = .ok (.ifCond .eq 36, 3) := by decide +kernel
theorem dX5_sweep_46 : decode cX5_sweep 46 = .ok (.aload_n 0, 1) := by decide +kernel
theorem dX5_sweep_47 : decode cX5_sweep 47 = .ok (.getfield 36, 3) := by decide +kernel
theorem dX5_sweep_50 : decode cX5_sweep 50 = .ok (.iload 4, 2) := by decide +kernel
theorem dX5_sweep_52 : decode cX5_sweep 52 = .ok (.aload_n 0, 1) := by decide +kernel
theorem dX5_sweep_53 : decode cX5_sweep 53 = .ok (.getfield 36, 3) := by decide +kernel
theorem dX5_sweep_56 : decode cX5_sweep 56 = .ok (.iload 4, 2) := by decide +kernel
theorem dX5_sweep_58 : decode cX5_sweep 58 = .ok (.daload, 1) := by decide +kernel
theorem dX5_sweep_59 : decode cX5_sweep 59 = .ok (.ldc2_w 93, 3) := by decide +kernel
theorem dX5_sweep_62 : decode cX5_sweep 62 = .ok (.aload_n 0, 1) := by decide +kernel
theorem dX5_sweep_63 : decode cX5_sweep 63 = .ok (.iload_n 1, 1) := by decide +kernel
theorem dX5_sweep_64 : decode cX5_sweep 64 = .ok (.iload_n 3, 1) := by decide +kernel
theorem dX5_sweep_65 : decode cX5_sweep 65 = .ok (.iload_n 2, 1) := by decide +kernel
theorem dX5_sweep_66 : decode cX5_sweep 66 = .ok (.invokevirtual 95, 3) := by decide +kernel
theorem dX5_sweep_69 : decode cX5_sweep 69 = .ok (.dmul, 1) := by decide +kernel
theorem dX5_sweep_70 : decode cX5_sweep 70 = .ok (.aload_n 0, 1) := by decide +kernel
theorem dX5_sweep_71 : decode cX5_sweep 71 = .ok (.iload_n 3, 1) := by decide +kernel
theorem dX5_sweep_72 : decode cX5_sweep 72 = .ok (.iload_n 2, 1) := by decide +kernel
theorem dX5_sweep_73 : decode cX5_sweep 73 = .ok (.invokevirtual 99, 3) := by decide +kernel
theorem dX5_sweep_76 : decode cX5_sweep 76 = .ok (.ddiv, 1) := by decide +kernel
theorem dX5_sweep_77 : decode cX5_sweep 77 = .ok (.dadd, 1) := by decide +kernel
theorem dX5_sweep_78 : decode cX5_sweep 78 = .ok (.dastore, 1) := by decide +kernel
theorem dX5_sweep_79 : decode cX5_sweep 79 = .ok (.iinc 3 1, 3) := by decide +kernel
theorem dX5_sweep_82 : decode cX5_sweep 82 = .ok (.goto (-70), 3) := by decide +kernel
theorem dX5_sweep_85 : decode cX5_sweep 85 = .ok (.iinc 2 1, 3) := by decide +kernel
theorem dX5_sweep_88 : decode cX5_sweep 88 = .ok (.goto (-86), 3) := by decide +kernel
theorem dX5_sweep_91 : decode cX5_sweep 91 = .ok (.iconst 0, 1) := by decide +kernel
theorem dX5_sweep_92 : decode cX5_sweep 92 = .ok (.istore_n 2, 1) := by decide +kernel
theorem dX5_sweep_93 : decode cX5_sweep 93 = .ok (.iload_n 2, 1) := by decide +kernel
theorem dX5_sweep_94 : decode cX5_sweep 94 = .ok (.iload_n 1, 1) := by decide +kernel
theorem dX5_sweep_95 : decode cX5_sweep 95 = .ok (.if_icmp .ge 84, 3) := by decide +kernel
theorem dX5_sweep_98 : decode cX5_sweep 98 = .ok (.aload_n 0, 1) := by decide +kernel
theorem dX5_sweep_99 : decode cX5_sweep 99 = .ok (.iload_n 1, 1) := by decide +kernel
theorem dX5_sweep_100 : decode cX5_sweep 100 = .ok (.iload_n 2, 1) := by decide +kernel
theorem dX5_sweep_101 : decode cX5_sweep 101 = .ok (.invokevirtual 103, 3) := by decide +kernel
theorem dX5_sweep_104 : decode cX5_sweep 104 = .ok (.dstore_n 3, 1) := by decide +kernel
theorem dX5_sweep_105 : decode cX5_sweep 105 = .ok (.iconst 0, 1) := by decide +kernel
theorem dX5_sweep_106 : decode cX5_sweep 106 = .ok (.istore 5, 2) := by decide +kernel
theorem dX5_sweep_108 : decode cX5_sweep 108 = .ok (.iload 5, 2) := by decide +kernel
theorem dX5_sweep_110 : decode cX5_sweep 110 = .ok (.bipush 36, 2) := by decide +kernel
theorem dX5_sweep_112 : decode cX5_sweep 112 = .ok (.if_icmp .ge 61, 3) := by decide +kernel
theorem dX5_sweep_115 : decode cX5_sweep 115 = .ok (.aload_n 0, 1) := by decide +kernel
theorem dX5_sweep_116 : decode cX5_sweep 116 = .ok (.getfield 36, 3) := by decide +kernel
theorem dX5_sweep_119 : decode cX5_sweep 119 = .ok (.bipush 36, 2) := by decide +kernel
theorem dX5_sweep_121 : decode cX5_sweep 121 = .ok (.iload_n 1, 1) := by decide +kernel
theorem dX5_sweep_122 : decode cX5_sweep 122 = .ok (.imul, 1) := by decide +kernel
theorem dX5_sweep_123 : decode cX5_sweep 123 = .ok (.iload 5, 2) := by decide +kernel
theorem dX5_sweep_125 : decode cX5_sweep 125 = .ok (.iadd, 1) := by decide +kernel
theorem dX5_sweep_126 : decode cX5_sweep 126 = .ok (.aload_n 0, 1) := by decide +kernel
theorem dX5_sweep_127 : decode cX5_sweep 127 = .ok (.iload 5, 2) := by decide +kernel
theorem dX5_sweep_129 : decode cX5_sweep 129 = .ok (.invokevirtual 79, 3) := by decide +kernel
theorem dX5_sweep_132 : decode cX5_sweep 132 = .ok (.ifCond .eq 33, 3) := by decide +kernel
theorem dX5_sweep_135 : decode cX5_sweep 135 = .ok (.aload_n 0, 1) := by decide +kernel
theorem dX5_sweep_136 : decode cX5_sweep 136 = .ok (.getfield 36, 3) := by decide +kernel
theorem dX5_sweep_139 : decode cX5_sweep 139 = .ok (.bipush 36, 2) := by decide +kernel
theorem dX5_sweep_141 : decode cX5_sweep 141 = .ok (.iload_n 1, 1) := by decide +kernel
theorem dX5_sweep_142 : decode cX5_sweep 142 = .ok (.imul, 1) := by decide +kernel
theorem dX5_sweep_143 : decode cX5_sweep 143 = .ok (.iload 5, 2) := by decide +kernel
theorem dX5_sweep_145 : decode cX5_sweep 145 = .ok (.iadd, 1) := by decide +kernel
theorem dX5_sweep_146 : decode cX5_sweep 146 = .ok (.daload, 1) := by decide +kernel
theorem dX5_sweep_147 : decode cX5_sweep 147 = .ok (.dload_n 3, 1) := by decide +kernel
theorem dX5_sweep_148 : decode cX5_sweep 148 = .ok (.aload_n 0, 1) := by decide +kernel
theorem dX5_sweep_149 : decode cX5_sweep 149 = .ok (.getfield 36, 3) := by decide +kernel
theorem dX5_sweep_152 : decode cX5_sweep 152 = .ok (.bipush 36, 2) := by decide +kernel
theorem dX5_sweep_154 : decode cX5_sweep 154 = .ok (.iload_n 2, 1) := by decide +kernel
theorem dX5_sweep_155 : decode cX5_sweep 155 = .ok (.imul, 1) := by decide +kernel
theorem dX5_sweep_156 : decode cX5_sweep 156 = .ok (.iload 5, 2) := by decide +kernel
theorem dX5_sweep_158 : decode cX5_sweep 158 = .ok (.iadd, 1) := by decide +kernel
theorem dX5_sweep_159 : decode cX5_sweep 159 = .ok (.daload, 1) := by decide +kernel
theorem dX5_sweep_160 : decode cX5_sweep 160 = .ok (.dmul, 1) := by decide +kernel
theorem dX5_sweep_161 : decode cX5_sweep 161 = .ok (.dsub, 1) := by decide +kernel
theorem dX5_sweep_162 : decode cX5_sweep 162 = .ok (.goto 4, 3) := by decide +kernel
theorem dX5_sweep_165 : decode cX5_sweep 165 = .ok (.dconst 0, 1) := by decide +kernel
theorem dX5_sweep_166 : decode cX5_sweep 166 = .ok (.dastore, 1) := by decide +kernel
theorem dX5_sweep_167 : decode cX5_sweep 167 = .ok (.iinc 5 1, 3) := by decide +kernel
theorem dX5_sweep_170 : decode cX5_sweep 170 = .ok (.goto (-62), 3) := by decide +kernel
theorem dX5_sweep_173 : decode cX5_sweep 173 = .ok (.iinc 2 1, 3) := by decide +kernel
theorem dX5_sweep_176 : decode cX5_sweep 176 = .ok (.goto (-83), 3) := by decide +kernel
theorem dX5_sweep_179 : decode cX5_sweep 179 = .ok (.aload_n 0, 1) := by decide +kernel
theorem dX5_sweep_180 : decode cX5_sweep 180 = .ok (.iload_n 1, 1) := by decide +kernel
theorem dX5_sweep_181 : decode cX5_sweep 181 = .ok (.iload_n 1, 1) := by decide +kernel
theorem dX5_sweep_182 : decode cX5_sweep 182 = .ok (.invokevirtual 103, 3) := by decide +kernel
theorem dX5_sweep_185 : decode cX5_sweep 185 = .ok (.invokestatic 106, 3) := by decide +kernel
theorem dX5_sweep_188 : decode cX5_sweep 188 = .ok (.dstore_n 2, 1) := by decide +kernel
theorem dX5_sweep_189 : decode cX5_sweep 189 = .ok (.iconst 0, 1) := by decide +kernel
theorem dX5_sweep_190 : decode cX5_sweep 190 = .ok (.istore 4, 2) := by decide +kernel
theorem dX5_sweep_192 : decode cX5_sweep 192 = .ok (.iload 4, 2) := by decide +kernel
theorem dX5_sweep_194 : decode cX5_sweep 194 = .ok (.bipush 36, 2) := by decide +kernel
theorem dX5_sweep_196 : decode cX5_sweep 196 = .ok (.if_icmp .ge 54, 3) := by decide +kernel
theorem dX5_sweep_199 : decode cX5_sweep 199 = .ok (.dload_n 2, 1) := by decide +kernel
theorem dX5_sweep_200 : decode cX5_sweep 200 = .ok (.dconst 0, 1) := by decide +kernel
theorem dX5_sweep_201 : decode cX5_sweep 201 = .ok (.dcmp .l, 1) := by decide +kernel
theorem dX5_sweep_202 : decode cX5_sweep 202 = .ok (.ifCond .eq 48, 3) := by decide +kernel
theorem dX5_sweep_205 : decode cX5_sweep 205 = .ok (.aload_n 0, 1) := by decide +kernel
theorem dX5_sweep_206 : decode cX5_sweep 206 = .ok (.getfield 36, 3) := by decide +kernel
theorem dX5_sweep_209 : decode cX5_sweep 209 = .ok (.bipush 36, 2) := by decide +kernel
theorem dX5_sweep_211 : decode cX5_sweep 211 = .ok (.iload_n 1, 1) := by decide +kernel
theorem dX5_sweep_212 : decode cX5_sweep 212 = .ok (.imul, 1) := by decide +kernel
theorem dX5_sweep_213 : decode cX5_sweep 213 = .ok (.iload 4, 2) := by decide +kernel
theorem dX5_sweep_215 : decode cX5_sweep 215 = .ok (.iadd, 1) := by decide +kernel
theorem dX5_sweep_216 : decode cX5_sweep 216 = .ok (.aload_n 0, 1) := by decide +kernel
theorem dX5_sweep_217 : decode cX5_sweep 217 = .ok (.iload 4, 2) := by decide +kernel
theorem dX5_sweep_219 : decode cX5_sweep 219 = .ok (.invokevirtual 79, 3) := by decide +kernel
theorem dX5_sweep_222 : decode cX5_sweep 222 = .ok (.ifCond .eq 20, 3) := by decide +kernel
theorem dX5_sweep_225 : decode cX5_sweep 225 = .ok (.aload_n 0, 1) := by decide +kernel
theorem dX5_sweep_226 : decode cX5_sweep 226 = .ok (.getfield 36, 3) := by decide +kernel
theorem dX5_sweep_229 : decode cX5_sweep 229 = .ok (.bipush 36, 2) := by decide +kernel
theorem dX5_sweep_231 : decode cX5_sweep 231 = .ok (.iload_n 1, 1) := by decide +kernel
theorem dX5_sweep_232 : decode cX5_sweep 232 = .ok (.imul, 1) := by decide +kernel
theorem dX5_sweep_233 : decode cX5_sweep 233 = .ok (.iload 4, 2) := by decide +kernel
theorem dX5_sweep_235 : decode cX5_sweep 235 = .ok (.iadd, 1) := by decide +kernel
theorem dX5_sweep_236 : decode cX5_sweep 236 = .ok (.daload, 1) := by decide +kernel
theorem dX5_sweep_237 : decode cX5_sweep 237 = .ok (.dload_n 2, 1) := by decide +kernel
theorem dX5_sweep_238 : decode cX5_sweep 238 = .ok (.ddiv, 1) := by decide +kernel
theorem dX5_sweep_239 : decode cX5_sweep 239 = .ok (.goto 4, 3) := by decide +kernel
theorem dX5_sweep_242 : decode cX5_sweep 242 = .ok (.dconst 0, 1) := by decide +kernel
theorem dX5_sweep_243 : decode cX5_sweep 243 = .ok (.dastore, 1) := by decide +kernel
theorem dX5_sweep_244 : decode cX5_sweep 244 = .ok (.iinc 4 1, 3) := by decide +kernel
theorem dX5_sweep_247 : decode cX5_sweep 247 = .ok (.goto (-55), 3) := by decide +kernel
theorem dX5_sweep_250 : decode cX5_sweep 250 = .ok (.dload_n 2, 1) := by decide +kernel
theorem dX5_sweep_251 : decode cX5_sweep 251 = .ok (.dconst 0, 1) := by decide +kernel
theorem dX5_sweep_252 : decode cX5_sweep 252 = .ok (.dcmp .l, 1) := by decide +kernel
theorem dX5_sweep_253 : decode cX5_sweep 253 = .ok (.ifCond .eq 7, 3) := by decide +kernel
theorem dX5_sweep_256 : decode cX5_sweep 256 = .ok (.iconst 1, 1) := by decide +kernel
theorem dX5_sweep_257 : decode cX5_sweep 257 = .ok (.goto 4, 3) := by decide +kernel
theorem dX5_sweep_260 : decode cX5_sweep 260 = .ok (.iconst 0, 1) := by decide +kernel
theorem dX5_sweep_261 : decode cX5_sweep 261 = .ok (.ireturn, 1) := by decide +kernel
set_option maxRecDepth 20000 in
theorem ggX5_make_X5_isWood : GoodIn wsX5_make wsX5_isWood := goodIn_r _ [10, 11, 41, 42, 43, 44, 45, 46, 47, 48, 49, 50, 51, 52, 53, 54, 55, 56, 57, 58, 59] (by decide +kernel) (by decide +kernel)
set_option maxRecDepth 20000 in
theorem gX5_make_X5_isWood : GoodIn wsX5_make (wsV RX5 79 RX5 yX5_isWood wsX5_isWood) := goodIn_app (goodIn_of _ (by decide +kernel)) ggX5_make_X5_isWood
set_option maxRecDepth 20000 in
theorem ggX5_make_X5_sweep : GoodIn wsX5_make wsX5_sweep := goodIn_r _ [15, 2, 1, 3, 16, 6, 7, 8, 9, 10, 11, 17, 18, 19, 20, 21, 22, 23, 24, 25, 26, 27, 28, 29, 30, 31, 32, 33, 34, 35, 36, 37, 38, 39, 40, 41, 42, 43, 44, 45, 46, 47, 48, 49, 50, 51, 52, 53, 54, 55, 56, 57, 58, 59] (by decide +kernel) (by decide +kernel)
set_option maxRecDepth 20000 in
theorem gX5_make_X5_sweep : GoodIn wsX5_make (wsV RX5 110 RX5 yX5_sweep wsX5_sweep) := goodIn_app (goodIn_of _ (by decide +kernel)) ggX5_make_X5_sweep
set_option maxRecDepth 20000 in
theorem ggX5_make_X5_force : GoodIn wsX5_make wsX5_force := goodIn_r _ [20, 1, 21, 3, 2, 22, 23, 41, 42, 43, 44, 45, 46, 47, 48, 49, 50, 51, 52, 53, 54, 55, 56, 57, 58, 59] (by decide +kernel) (by decide +kernel)
set_option maxRecDepth 20000 in
theorem gX5_make_X5_force : GoodIn wsX5_make (wsV RX5 95 RX5 yX5_force wsX5_force) := goodIn_app (goodIn_of _ (by decide +kernel)) ggX5_make_X5_force
theorem dX5_make_0 : decode cX5_make 0 = .ok (.iconst 0, 1) := by decide +kernel
theorem dX5_make_1 : decode cX5_make 1 = .ok (.istore_n 2, 1) := by decide +kernel
theorem dX5_make_2 : decode cX5_make 2 = .ok (.iload_n 2, 1) := by decide +kernel
theorem dX5_make_3 : decode cX5_make 3 = .ok (.bipush 6, 2) := by decide +kernel
theorem dX5_make_5 : decode cX5_make 5 = .ok (.if_icmp .ge 106, 3) := by decide +kernel
theorem dX5_make_8 : decode cX5_make 8 = .ok (.iconst 0, 1) := by decide +kernel
theorem dX5_make_9 : decode cX5_make 9 = .ok (.istore_n 3, 1) := by decide +kernel
theorem dX5_make_10 : decode cX5_make 10 = .ok (.iload_n 3, 1) := by decide +kernel
theorem dX5_make_11 : decode cX5_make 11 = .ok (.bipush 6, 2) := by decide +kernel
theorem dX5_make_13 : decode cX5_make 13 = .ok (.if_icmp .ge 92, 3) := by decide +kernel
theorem dX5_make_16 : decode cX5_make 16 = .ok (.iload_n 3, 1) := by decide +kernel
theorem dX5_make_17 : decode cX5_make 17 = .ok (.aload_n 0, 1) := by decide +kernel
theorem dX5_make_18 : decode cX5_make 18 = .ok (.getfield 48, 3) := by decide +kernel
theorem dX5_make_21 : decode cX5_make 21 = .ok (.if_icmp .ge 28, 3) := by decide +kernel
theorem dX5_make_24 : decode cX5_make 24 = .ok (.iload_n 2, 1) := by decide +kernel
theorem dX5_make_25 : decode cX5_make 25 = .ok (.aload_n 0, 1) := by decide +kernel
theorem dX5_make_26 : decode cX5_make 26 = .ok (.getfield 52, 3) := by decide +kernel
theorem dX5_make_29 : decode cX5_make 29 = .ok (.if_icmp .ge 20, 3) := by decide +kernel
theorem dX5_make_32 : decode cX5_make 32 = .ok (.aload_n 0, 1) := by decide +kernel
theorem dX5_make_33 : decode cX5_make 33 = .ok (.bipush 6, 2) := by decide +kernel
theorem dX5_make_35 : decode cX5_make 35 = .ok (.iload_n 2, 1) := by decide +kernel
theorem dX5_make_36 : decode cX5_make 36 = .ok (.imul, 1) := by decide +kernel
theorem dX5_make_37 : decode cX5_make 37 = .ok (.iload_n 3, 1) := by decide +kernel
theorem dX5_make_38 : decode cX5_make 38 = .ok (.iadd, 1) := by decide +kernel
theorem dX5_make_39 : decode cX5_make 39 = .ok (.invokevirtual 79, 3) := by decide +kernel
theorem dX5_make_42 : decode cX5_make 42 = .ok (.ifCond .eq 7, 3) := by decide +kernel
theorem dX5_make_45 : decode cX5_make 45 = .ok (.iconst 1, 1) := by decide +kernel
theorem dX5_make_46 : decode cX5_make 46 = .ok (.goto 4, 3) := by decide +kernel
theorem dX5_make_49 : decode cX5_make 49 = .ok (.iconst 0, 1) := by decide +kernel
theorem dX5_make_50 : decode cX5_make 50 = .ok (.istore 4, 2) := by decide +kernel
theorem dX5_make_52 : decode cX5_make 52 = .ok (.aload_n 0, 1) := by decide +kernel
theorem dX5_make_53 : decode cX5_make 53 = .ok (.getfield 36, 3) := by decide +kernel
theorem dX5_make_56 : decode cX5_make 56 = .ok (.bipush 36, 2) := by decide +kernel
theorem dX5_make_58 : decode cX5_make 58 = .ok (.iload_n 1, 1) := by decide +kernel
theorem dX5_make_59 : decode cX5_make 59 = .ok (.imul, 1) := by decide +kernel
theorem dX5_make_60 : decode cX5_make 60 = .ok (.bipush 6, 2) := by decide +kernel
theorem dX5_make_62 : decode cX5_make 62 = .ok (.iload_n 2, 1) := by decide +kernel
theorem dX5_make_63 : decode cX5_make 63 = .ok (.imul, 1) := by decide +kernel
theorem dX5_make_64 : decode cX5_make 64 = .ok (.iadd, 1) := by decide +kernel
theorem dX5_make_65 : decode cX5_make 65 = .ok (.iload_n 3, 1) := by decide +kernel
theorem dX5_make_66 : decode cX5_make 66 = .ok (.iadd, 1) := by decide +kernel
theorem dX5_make_67 : decode cX5_make 67 = .ok (.iload 4, 2) := by decide +kernel
theorem dX5_make_69 : decode cX5_make 69 = .ok (.ifCond .eq 28, 3) := by decide +kernel
theorem dX5_make_72 : decode cX5_make 72 = .ok (.dconst 1, 1) := by decide +kernel
theorem dX5_make_73 : decode cX5_make 73 = .ok (.iconst 3, 1) := by decide +kernel
theorem dX5_make_74 : decode cX5_make 74 = .ok (.iload_n 3, 1) := by decide +kernel
theorem dX5_make_75 : decode cX5_make 75 = .ok (.imul, 1) := by decide +kernel
theorem dX5_make_76 : decode cX5_make 76 = .ok (.iconst 5, 1) := by decide +kernel
theorem dX5_make_77 : decode cX5_make 77 = .ok (.iload_n 2, 1) := by decide +kernel
theorem dX5_make_78 : decode cX5_make 78 = .ok (.imul, 1) := by decide +kernel
theorem dX5_make_79 : decode cX5_make 79 = .ok (.iadd, 1) := by decide +kernel
theorem dX5_make_80 : decode cX5_make 80 = .ok (.bipush 7, 2) := by decide +kernel
theorem dX5_make_82 : decode cX5_make 82 = .ok (.iload_n 1, 1) := by decide +kernel
theorem dX5_make_83 : decode cX5_make 83 = .ok (.imul, 1) := by decide +kernel
theorem dX5_make_84 : decode cX5_make 84 = .ok (.iadd, 1) := by decide +kernel
theorem dX5_make_85 : decode cX5_make 85 = .ok (.bipush 11, 2) := by decide +kernel
theorem dX5_make_87 : decode cX5_make 87 = .ok (.irem, 1) := by decide +kernel
theorem dX5_make_88 : decode cX5_make 88 = .ok (.i2d, 1) := by decide +kernel
theorem dX5_make_89 : decode cX5_make 89 = .ok (.ldc2_w 66, 3) := by decide +kernel
theorem dX5_make_92 : decode cX5_make 92 = .ok (.ddiv, 1) := by decide +kernel
theorem dX5_make_93 : decode cX5_make 93 = .ok (.dadd, 1) := by decide +kernel
theorem dX5_make_94 : decode cX5_make 94 = .ok (.goto 4, 3) := by decide +kernel
theorem dX5_make_97 : decode cX5_make 97 = .ok (.dconst 0, 1) := by decide +kernel
theorem dX5_make_98 : decode cX5_make 98 = .ok (.dastore, 1) := by decide +kernel
theorem dX5_make_99 : decode cX5_make 99 = .ok (.iinc 3 1, 3) := by decide +kernel
theorem dX5_make_102 : decode cX5_make 102 = .ok (.goto (-92), 3) := by decide +kernel
theorem dX5_make_105 : decode cX5_make 105 = .ok (.iinc 2 1, 3) := by decide +kernel
theorem dX5_make_108 : decode cX5_make 108 = .ok (.goto (-106), 3) := by decide +kernel
theorem dX5_make_111 : decode cX5_make 111 = .ok (.iconst 0, 1) := by decide +kernel
theorem dX5_make_112 : decode cX5_make 112 = .ok (.istore_n 2, 1) := by decide +kernel
theorem dX5_make_113 : decode cX5_make 113 = .ok (.iload_n 2, 1) := by decide +kernel
theorem dX5_make_114 : decode cX5_make 114 = .ok (.bipush 24, 2) := by decide +kernel
theorem dX5_make_116 : decode cX5_make 116 = .ok (.if_icmp .ge 19, 3) := by decide +kernel
theorem dX5_make_119 : decode cX5_make 119 = .ok (.aload_n 0, 1) := by decide +kernel
theorem dX5_make_120 : decode cX5_make 120 = .ok (.iload_n 1, 1) := by decide +kernel
theorem dX5_make_121 : decode cX5_make 121 = .ok (.invokevirtual 110, 3) := by decide +kernel
theorem dX5_make_124 : decode cX5_make 124 = .ok (.ifCond .ne 5, 3) := by decide +kernel
theorem dX5_make_127 : decode cX5_make 127 = .ok (.iconst 0, 1) := by decide +kernel
theorem dX5_make_128 : decode cX5_make 128 = .ok (.ireturn, 1) := by decide +kernel
theorem dX5_make_129 : decode cX5_make 129 = .ok (.iinc 2 1, 3) := by decide +kernel
theorem dX5_make_132 : decode cX5_make 132 = .ok (.goto (-19), 3) := by decide +kernel
theorem dX5_make_135 : decode cX5_make 135 = .ok (.dconst 0, 1) := by decide +kernel
theorem dX5_make_136 : decode cX5_make 136 = .ok (.dstore_n 2, 1) := by decide +kernel
theorem dX5_make_137 : decode cX5_make 137 = .ok (.iconst 0, 1) := by decide +kernel
theorem dX5_make_138 : decode cX5_make 138 = .ok (.istore 4, 2) := by decide +kernel
theorem dX5_make_140 : decode cX5_make 140 = .ok (.iload 4, 2) := by decide +kernel
theorem dX5_make_142 : decode cX5_make 142 = .ok (.aload_n 0, 1) := by decide +kernel
theorem dX5_make_143 : decode cX5_make 143 = .ok (.getfield 52, 3) := by decide +kernel
theorem dX5_make_146 : decode cX5_make 146 = .ok (.if_icmp .ge 77, 3) := by decide +kernel
theorem dX5_make_149 : decode cX5_make 149 = .ok (.iconst 0, 1) := by decide +kernel
theorem dX5_make_150 : decode cX5_make 150 = .ok (.istore 5, 2) := by decide +kernel
theorem dX5_make_152 : decode cX5_make 152 = .ok (.iload 5, 2) := by decide +kernel
theorem dX5_make_154 : decode cX5_make 154 = .ok (.aload_n 0, 1) := by decide +kernel
theorem dX5_make_155 : decode cX5_make 155 = .ok (.getfield 48, 3) := by decide +kernel
theorem dX5_make_158 : decode cX5_make 158 = .ok (.if_icmp .ge 59, 3) := by decide +kernel
theorem dX5_make_161 : decode cX5_make 161 = .ok (.aload_n 0, 1) := by decide +kernel
theorem dX5_make_162 : decode cX5_make 162 = .ok (.bipush 6, 2) := by decide +kernel
theorem dX5_make_164 : decode cX5_make 164 = .ok (.iload 4, 2) := by decide +kernel
theorem dX5_make_166 : decode cX5_make 166 = .ok (.imul, 1) := by decide +kernel
theorem dX5_make_167 : decode cX5_make 167 = .ok (.iload 5, 2) := by decide +kernel
theorem dX5_make_169 : decode cX5_make 169 = .ok (.iadd, 1) := by decide +kernel
theorem dX5_make_170 : decode cX5_make 170 = .ok (.invokevirtual 79, 3) := by decide +kernel
theorem dX5_make_173 : decode cX5_make 173 = .ok (.ifCond .eq 36, 3) := by decide +kernel
theorem dX5_make_176 : decode cX5_make 176 = .ok (.dload_n 2, 1) := by decide +kernel
theorem dX5_make_177 : decode cX5_make 177 = .ok (.aload_n 0, 1) := by decide +kernel
theorem dX5_make_178 : decode cX5_make 178 = .ok (.getfield 36, 3) := by decide +kernel
theorem dX5_make_181 : decode cX5_make 181 = .ok (.bipush 36, 2) := by decide +kernel
theorem dX5_make_183 : decode cX5_make 183 = .ok (.iload_n 1, 1) := by decide +kernel
theorem dX5_make_184 : decode cX5_make 184 = .ok (.imul, 1) := by decide +kernel
theorem dX5_make_185 : decode cX5_make 185 = .ok (.bipush 6, 2) := by decide +kernel
theorem dX5_make_187 : decode cX5_make 187 = .ok (.iload 4, 2) := by decide +kernel
theorem dX5_make_189 : decode cX5_make 189 = .ok (.imul, 1) := by decide +kernel
theorem dX5_make_190 : decode cX5_make 190 = .ok (.iadd, 1) := by decide +kernel
theorem dX5_make_191 : decode cX5_make 191 = .ok (.iload 5, 2) := by decide +kernel
theorem dX5_make_193 : decode cX5_make 193 = .ok (.iadd, 1) := by decide +kernel
theorem dX5_make_194 : decode cX5_make 194 = .ok (.daload, 1) := by decide +kernel
theorem dX5_make_195 : decode cX5_make 195 = .ok (.aload_n 0, 1) := by decide +kernel
theorem dX5_make_196 : decode cX5_make 196 = .ok (.iload_n 1, 1) := by decide +kernel
theorem dX5_make_197 : decode cX5_make 197 = .ok (.iload 5, 2) := by decide +kernel
theorem dX5_make_199 : decode cX5_make 199 = .ok (.iload 4, 2) := by decide +kernel
theorem dX5_make_201 : decode cX5_make 201 = .ok (.invokevirtual 95, 3) := by decide +kernel
theorem dX5_make_204 : decode cX5_make 204 = .ok (.dmul, 1) := by decide +kernel
theorem dX5_make_205 : decode cX5_make 205 = .ok (.dadd, 1) := by decide +kernel
theorem dX5_make_206 : decode cX5_make 206 = .ok (.goto 4, 3) := by decide +kernel
theorem dX5_make_209 : decode cX5_make 209 = .ok (.dload_n 2, 1) := by decide +kernel
theorem dX5_make_210 : decode cX5_make 210 = .ok (.dstore_n 2, 1) := by decide +kernel
theorem dX5_make_211 : decode cX5_make 211 = .ok (.iinc 5 1, 3) := by decide +kernel
theorem dX5_make_214 : decode cX5_make 214 = .ok (.goto (-62), 3) := by decide +kernel
theorem dX5_make_217 : decode cX5_make 217 = .ok (.iinc 4 1, 3) := by decide +kernel
theorem dX5_make_220 : decode cX5_make 220 = .ok (.goto (-80), 3) := by decide +kernel
theorem dX5_make_223 : decode cX5_make 223 = .ok (.aload_n 0, 1) := by decide +kernel
theorem dX5_make_224 : decode cX5_make 224 = .ok (.getfield 39, 3) := by decide +kernel
theorem dX5_make_227 : decode cX5_make 227 = .ok (.iload_n 1, 1) := by decide +kernel
theorem dX5_make_228 : decode cX5_make 228 = .ok (.dconst 0, 1) := by decide +kernel
theorem dX5_make_229 : decode cX5_make 229 = .ok (.dload_n 2, 1) := by decide +kernel
theorem dX5_make_230 : decode cX5_make 230 = .ok (.dsub, 1) := by decide +kernel
theorem dX5_make_231 : decode cX5_make 231 = .ok (.dastore, 1) := by decide +kernel
theorem dX5_make_232 : decode cX5_make 232 = .ok (.iconst 1, 1) := by decide +kernel
theorem dX5_make_233 : decode cX5_make 233 = .ok (.ireturn, 1) := by decide +kernel
set_option maxRecDepth 20000 in
theorem ggX5_makeAll_X5_springs : GoodIn wsX5_makeAll wsX5_springs := goodIn_r _ [7, 8, 9, 10, 11, 12, 13, 14, 15, 16, 17, 18, 19, 20, 6, 21, 22, 23, 24, 25, 59, 60, 61, 62, 63, 64, 65, 66, 67, 68, 69, 70, 71, 72, 73, 74, 75, 76, 77] (by decide +kernel) (by decide +kernel)
set_option maxRecDepth 20000 in
theorem gX5_makeAll_X5_springs : GoodIn wsX5_makeAll (wsV RX5 113 RX5 yX5_springs wsX5_springs) := goodIn_app (goodIn_of _ (by decide +kernel)) ggX5_makeAll_X5_springs
set_option maxRecDepth 20000 in
theorem ggX5_makeAll_X5_make : GoodIn wsX5_makeAll wsX5_make := goodIn_r _ [29, 9, 8, 30, 31, 32, 18, 19, 20, 6, 21, 12, 33, 34, 35, 36, 37, 38, 39, 40, 41, 10, 13, 42, 43, 44, 45, 46, 47, 48, 49, 50, 51, 52, 53, 54, 55, 56, 57, 58, 25, 59, 60, 61, 62, 63, 64, 65, 66, 67, 68, 69, 70, 71, 72, 73, 74, 75, 76, 77] (by decide +kernel) (by decide +kernel)
set_option maxRecDepth 20000 in
theorem gX5_makeAll_X5_make : GoodIn wsX5_makeAll (wsV RX5 119 RX5 yX5_make wsX5_make) := goodIn_app (goodIn_of _ (by decide +kernel)) ggX5_makeAll_X5_make
theorem dX5_makeAll_0 : decode cX5_makeAll 0 = .ok (.aload_n 0, 1) := by decide +kernel
theorem dX5_makeAll_1 : decode cX5_makeAll 1 = .ok (.invokevirtual 113, 3) := by decide +kernel
theorem dX5_makeAll_4 : decode cX5_makeAll 4 = .ok (.aload_n 0, 1) := by decide +kernel
theorem dX5_makeAll_5 : decode cX5_makeAll 5 = .ok (.iconst 0, 1) := by decide +kernel
theorem dX5_makeAll_6 : decode cX5_makeAll 6 = .ok (.putfield 116, 3) := by decide +kernel
theorem dX5_makeAll_9 : decode cX5_makeAll 9 = .ok (.iconst 1, 1) := by decide +kernel
theorem dX5_makeAll_10 : decode cX5_makeAll 10 = .ok (.istore_n 2, 1) := by decide +kernel
theorem dX5_makeAll_11 : decode cX5_makeAll 11 = .ok (.iload_n 2, 1) := by decide +kernel
theorem dX5_makeAll_12 : decode cX5_makeAll 12 = .ok (.ifCond .eq 44, 3) := by decide +kernel
theorem dX5_makeAll_15 : decode cX5_makeAll 15 = .ok (.aload_n 0, 1) := by decide +kernel
theorem dX5_makeAll_16 : decode cX5_makeAll 16 = .ok (.getfield 116, 3) := by decide +kernel
theorem dX5_makeAll_19 : decode cX5_makeAll 19 = .ok (.iload_n 1, 1) := by decide +kernel
theorem dX5_makeAll_20 : decode cX5_makeAll 20 = .ok (.if_icmp .ge 36, 3) := by decide +kernel
theorem dX5_makeAll_23 : decode cX5_makeAll 23 = .ok (.aload_n 0, 1) := by decide +kernel
theorem dX5_makeAll_24 : decode cX5_makeAll 24 = .ok (.aload_n 0, 1) := by decide +kernel
theorem dX5_makeAll_25 : decode cX5_makeAll 25 = .ok (.getfield 116, 3) := by decide +kernel
theorem dX5_makeAll_28 : decode cX5_makeAll 28 = .ok (.invokevirtual 119, 3) := by decide +kernel
theorem dX5_makeAll_31 : decode cX5_makeAll 31 = .ok (.istore_n 2, 1) := by decide +kernel
theorem dX5_makeAll_32 : decode cX5_makeAll 32 = .ok (.aload_n 0, 1) := by decide +kernel
theorem dX5_makeAll_33 : decode cX5_makeAll 33 = .ok (.iload_n 2, 1) := by decide +kernel
theorem dX5_makeAll_34 : decode cX5_makeAll 34 = .ok (.ifCond .eq 12, 3) := by decide +kernel
theorem dX5_makeAll_37 : decode cX5_makeAll 37 = .ok (.aload_n 0, 1) := by decide +kernel
theorem dX5_makeAll_38 : decode cX5_makeAll 38 = .ok (.getfield 116, 3) := by decide +kernel
theorem dX5_makeAll_41 : decode cX5_makeAll 41 = .ok (.iconst 1, 1) := by decide +kernel
theorem dX5_makeAll_42 : decode cX5_makeAll 42 = .ok (.iadd, 1) := by decide +kernel
theorem dX5_makeAll_43 : decode cX5_makeAll 43 = .ok (.goto 7, 3) := by decide +kernel
theorem dX5_makeAll_46 : decode cX5_makeAll 46 = .ok (.aload_n 0, 1) := by decide +kernel
theorem dX5_makeAll_47 : decode cX5_makeAll 47 = .ok (.getfield 116, 3) := by decide +kernel
theorem dX5_makeAll_50 : decode cX5_makeAll 50 = .ok (.putfield 116, 3) := by decide +kernel
theorem dX5_makeAll_53 : decode cX5_makeAll 53 = .ok (.goto (-42), 3) := by decide +kernel
theorem dX5_makeAll_56 : decode cX5_makeAll 56 = .ok (.aload_n 0, 1) := by decide +kernel
theorem dX5_makeAll_57 : decode cX5_makeAll 57 = .ok (.iconst 1, 1) := by decide +kernel
theorem dX5_makeAll_58 : decode cX5_makeAll 58 = .ok (.putfield 72, 3) := by decide +kernel
theorem dX5_makeAll_61 : decode cX5_makeAll 61 = .ok (.return_, 1) := by decide +kernel
end
section
theorem dX5_init_0 : decode cX5_init 0 = .ok (.aload_n 0, 1) := by decide +kernel
theorem dX5_init_1 : decode cX5_init 1 = .ok (.invokespecial 1, 3) := by decide +kernel
theorem dX5_init_4 : decode cX5_init 4 = .ok (.aload_n 0, 1) := by decide +kernel
theorem dX5_init_5 : decode cX5_init 5 = .ok (.bipush 36, 2) := by decide +kernel
theorem dX5_init_7 : decode cX5_init 7 = .ok (.newarray .double, 2) := by decide +kernel
theorem dX5_init_9 : decode cX5_init 9 = .ok (.putfield 7, 3) := by decide +kernel
theorem dX5_init_12 : decode cX5_init 12 = .ok (.aload_n 0, 1) := by decide +kernel
theorem dX5_init_13 : decode cX5_init 13 = .ok (.dconst 1, 1) := by decide +kernel
theorem dX5_init_14 : decode cX5_init 14 = .ok (.putfield 13, 3) := by decide +kernel
theorem dX5_init_17 : decode cX5_init 17 = .ok (.aload_n 0, 1) := by decide +kernel
theorem dX5_init_18 : decode cX5_init 18 = .ok (.dconst 1, 1) := by decide +kernel
theorem dX5_init_19 : decode cX5_init 19 = .ok (.putfield 17, 3) := by decide +kernel
theorem dX5_init_22 : decode cX5_init 22 = .ok (.aload_n 0, 1) := by decide +kernel
theorem dX5_init_23 : decode cX5_init 23 = .ok (.dconst 1, 1) := by decide +kernel
theorem dX5_init_24 : decode cX5_init 24 = .ok (.putfield 20, 3) := by decide +kernel
theorem dX5_init_27 : decode cX5_init 27 = .ok (.aload_n 0, 1) := by decide +kernel
theorem dX5_init_28 : decode cX5_init 28 = .ok (.bipush 48, 2) := by decide +kernel
theorem dX5_init_30 : decode cX5_init 30 = .ok (.newarray .int, 2) := by decide +kernel
theorem dX5_init_32 : decode cX5_init 32 = .ok (.putfield 23, 3) := by decide +kernel
theorem dX5_init_35 : decode cX5_init 35 = .ok (.aload_n 0, 1) := by decide +kernel
theorem dX5_init_36 : decode cX5_init 36 = .ok (.bipush 12, 2) := by decide +kernel
theorem dX5_init_38 : decode cX5_init 38 = .ok (.newarray .double, 2) := by decide +kernel
theorem dX5_init_40 : decode cX5_init 40 = .ok (.putfield 27, 3) := by decide +kernel
theorem dX5_init_43 : decode cX5_init 43 = .ok (.aload_n 0, 1) := by decide +kernel
theorem dX5_init_44 : decode cX5_init 44 = .ok (.bipush 36, 2) := by decide +kernel
theorem dX5_init_46 : decode cX5_init 46 = .ok (.newarray .double, 2) := by decide +kernel
theorem dX5_init_48 : decode cX5_init 48 = .ok (.putfield 30, 3) := by decide +kernel
theorem dX5_init_51 : decode cX5_init 51 = .ok (.aload_n 0, 1) := by decide +kernel
theorem dX5_init_52 : decode cX5_init 52 = .ok (.bipush 36, 2) := by decide +kernel
theorem dX5_init_54 : decode cX5_init 54 = .ok (.newarray .double, 2) := by decide +kernel
theorem dX5_init_56 : decode cX5_init 56 = .ok (.putfield 33, 3) := by decide +kernel
theorem dX5_init_59 : decode cX5_init 59 = .ok (.aload_n 0, 1) := by decide +kernel
theorem dX5_init_60 : decode cX5_init 60 = .ok (.sipush 144, 3) := by decide +kernel
theorem dX5_init_63 : decode cX5_init 63 = .ok (.newarray .double, 2) := by decide +kernel
theorem dX5_init_65 : decode cX5_init 65 = .ok (.putfield 36, 3) := by decide +kernel
theorem dX5_init_68 : decode cX5_init 68 = .ok (.aload_n 0, 1) := by decide +kernel
theorem dX5_init_69 : decode cX5_init 69 = .ok (.iconst 4, 1) := by decide +kernel
theorem dX5_init_70 : decode cX5_init 70 = .ok (.newarray .double, 2) := by decide +kernel
theorem dX5_init_72 : decode cX5_init 72 = .ok (.putfield 39, 3) := by decide +kernel
theorem dX5_init_75 : decode cX5_init 75 = .ok (.aload_n 0, 1) := by decide +kernel
theorem dX5_init_76 : decode cX5_init 76 = .ok (.iconst 4, 1) := by decide +kernel
theorem dX5_init_77 : decode cX5_init 77 = .ok (.newarray .int, 2) := by decide +kernel
theorem dX5_init_79 : decode cX5_init 79 = .ok (.putfield 42, 3) := by decide +kernel
theorem dX5_init_82 : decode cX5_init 82 = .ok (.aload_n 0, 1) := by decide +kernel
theorem dX5_init_83 : decode cX5_init 83 = .ok (.iconst 4, 1) := by decide +kernel
theorem dX5_init_84 : decode cX5_init 84 = .ok (.newarray .double, 2) := by decide +kernel
theorem dX5_init_86 : decode cX5_init 86 = .ok (.putfield 45, 3) := by decide +kernel
theorem dX5_init_89 : decode cX5_init 89 = .ok (.aload_n 0, 1) := by decide +kernel
theorem dX5_init_90 : decode cX5_init 90 = .ok (.iload_n 1, 1) := by decide +kernel
theorem dX5_init_91 : decode cX5_init 91 = .ok (.iconst 2, 1) := by decide +kernel
theorem dX5_init_92 : decode cX5_init 92 = .ok (.if_icmp .ge 7, 3) := by decide +kernel
theorem dX5_init_95 : decode cX5_init 95 = .ok (.iconst 2, 1) := by decide +kernel
theorem dX5_init_96 : decode cX5_init 96 = .ok (.goto 15, 3) := by decide +kernel
theorem dX5_init_99 : decode cX5_init 99 = .ok (.iload_n 1, 1) := by decide +kernel
theorem dX5_init_100 : decode cX5_init 100 = .ok (.bipush 6, 2) := by decide +kernel
theorem dX5_init_102 : decode cX5_init 102 = .ok (.if_icmp .le 8, 3) := by decide +kernel
theorem dX5_init_105 : decode cX5_init 105 = .ok (.bipush 6, 2) := by decide +kernel
theorem dX5_init_107 : decode cX5_init 107 = .ok (.goto 4, 3) := by decide +kernel
theorem dX5_init_110 : decode cX5_init 110 = .ok (.iload_n 1, 1) := by decide +kernel
theorem dX5_init_111 : decode cX5_init 111 = .ok (.putfield 48, 3) := by decide +kernel
theorem dX5_init_114 : decode cX5_init 114 = .ok (.aload_n 0, 1) := by decide +kernel
theorem dX5_init_115 : decode cX5_init 115 = .ok (.iload_n 2, 1) := by decide +kernel
theorem dX5_init_116 : decode cX5_init 116 = .ok (.iconst 2, 1) := by decide +kernel
theorem dX5_init_117 : decode cX5_init 117 = .ok (.if_icmp .ge 7, 3) := by decide +kernel
theorem dX5_init_120 : decode cX5_init 120 = .ok (.iconst 2, 1) := by decide +kernel
theorem dX5_init_121 : decode cX5_init 121 = .ok (.goto 15, 3) := by decide +kernel
theorem dX5_init_124 : decode cX5_init 124 = .ok (.iload_n 2, 1) := by decide +kernel
theorem dX5_init_125 : decode cX5_init 125 = .ok (.bipush 6, 2) := by decide +kernel
theorem dX5_init_127 : decode cX5_init 127 = .ok (.if_icmp .le 8, 3) := by decide +kernel
theorem dX5_init_130 : decode cX5_init 130 = .ok (.bipush 6, 2) := by decide +kernel
theorem dX5_init_132 : decode cX5_init 132 = .ok (.goto 4, 3) := by decide +kernel
theorem dX5_init_135 : decode cX5_init 135 = .ok (.iload_n 2, 1) := by decide +kernel
theorem dX5_init_136 : decode cX5_init 136 = .ok (.putfield 52, 3) := by decide +kernel
theorem dX5_init_139 : decode cX5_init 139 = .ok (.iconst 0, 1) := by decide +kernel
theorem dX5_init_140 : decode cX5_init 140 = .ok (.istore_n 3, 1) := by decide +kernel
theorem dX5_init_141 : decode cX5_init 141 = .ok (.iload_n 3, 1) := by decide +kernel
theorem dX5_init_142 : decode cX5_init 142 = .ok (.bipush 36, 2) := by decide +kernel
theorem dX5_init_144 : decode cX5_init 144 = .ok (.if_icmp .ge 16, 3) := by decide +kernel
theorem dX5_init_147 : decode cX5_init 147 = .ok (.aload_n 0, 1) := by decide +kernel
theorem dX5_init_148 : decode cX5_init 148 = .ok (.getfield 7, 3) := by decide +kernel
theorem dX5_init_151 : decode cX5_init 151 = .ok (.iload_n 3, 1) := by decide +kernel
theorem dX5_init_152 : decode cX5_init 152 = .ok (.dconst 1, 1) := by decide +kernel
theorem dX5_init_153 : decode cX5_init 153 = .ok (.dastore, 1) := by decide +kernel
theorem dX5_init_154 : decode cX5_init 154 = .ok (.iinc 3 1, 3) := by decide +kernel
theorem dX5_init_157 : decode cX5_init 157 = .ok (.goto (-16), 3) := by decide +kernel
theorem dX5_init_160 : decode cX5_init 160 = .ok (.return_, 1) := by decide +kernel
set_option maxRecDepth 20000 in
theorem ggX5_wood_X5_noCell : GoodIn wsX5_wood wsX5_noCell := goodIn_r _ [10, 11, 12, 16, 17, 18, 19, 20, 21, 22, 23, 24, 25, 26, 27, 28, 29, 30, 31, 32, 33, 34] (by decide +kernel) (by decide +kernel)
set_option maxRecDepth 20000 in
theorem gX5_wood_X5_noCell : GoodIn wsX5_wood (wsV RX5 60 RX5 yX5_noCell wsX5_noCell) := goodIn_app (goodIn_of _ (by decide +kernel)) ggX5_wood_X5_noCell
set_option maxRecDepth 20000 in
theorem ggX5_wood_X5_between : GoodIn wsX5_wood wsX5_between := goodIn_r _ [15] (by decide +kernel) (by decide +kernel)
set_option maxRecDepth 20000 in
theorem gX5_wood_X5_between : GoodIn wsX5_wood (va_wsS RX5 68 yX5_between wsX5_between) := goodIn_app (goodIn_of _ (by decide +kernel)) ggX5_wood_X5_between
theorem dX5_wood_0 : decode cX5_wood 0 = .ok (.aload_n 0, 1) := by decide +kernel
theorem dX5_wood_1 : decode cX5_wood 1 = .ok (.aload_n 0, 1) := by decide +kernel
theorem dX5_wood_2 : decode cX5_wood 2 = .ok (.iload_n 1, 1) := by decide +kernel
theorem dX5_wood_3 : decode cX5_wood 3 = .ok (.iload_n 2, 1) := by decide +kernel
theorem dX5_wood_4 : decode cX5_wood 4 = .ok (.invokevirtual 60, 3) := by decide +kernel
theorem dX5_wood_7 : decode cX5_wood 7 = .ok (.ifCond .eq 7, 3) := by decide +kernel
theorem dX5_wood_10 : decode cX5_wood 10 = .ok (.iconst 1, 1) := by decide +kernel
theorem dX5_wood_11 : decode cX5_wood 11 = .ok (.goto 27, 3) := by decide +kernel
theorem dX5_wood_14 : decode cX5_wood 14 = .ok (.dload_n 3, 1) := by decide +kernel
theorem dX5_wood_15 : decode cX5_wood 15 = .ok (.dconst 0, 1) := by decide +kernel
theorem dX5_wood_16 : decode cX5_wood 16 = .ok (.dcmp .l, 1) := by decide +kernel
theorem dX5_wood_17 : decode cX5_wood 17 = .ok (.ifCond .eq 16, 3) := by decide +kernel
theorem dX5_wood_20 : decode cX5_wood 20 = .ok (.dload_n 3, 1) := by decide +kernel
theorem dX5_wood_21 : decode cX5_wood 21 = .ok (.ldc2_w 64, 3) := by decide +kernel
theorem dX5_wood_24 : decode cX5_wood 24 = .ok (.ldc2_w 66, 3) := by decide +kernel
theorem dX5_wood_27 : decode cX5_wood 27 = .ok (.invokestatic 68, 3) := by decide +kernel
theorem dX5_wood_30 : decode cX5_wood 30 = .ok (.ifCond .eq 7, 3) := by decide +kernel
theorem dX5_wood_33 : decode cX5_wood 33 = .ok (.iconst 0, 1) := by decide +kernel
theorem dX5_wood_34 : decode cX5_wood 34 = .ok (.goto 4, 3) := by decide +kernel
theorem dX5_wood_37 : decode cX5_wood 37 = .ok (.iconst 2, 1) := by decide +kernel
theorem dX5_wood_38 : decode cX5_wood 38 = .ok (.putfield 55, 3) := by decide +kernel
theorem dX5_wood_41 : decode cX5_wood 41 = .ok (.aload_n 0, 1) := by decide +kernel
theorem dX5_wood_42 : decode cX5_wood 42 = .ok (.getfield 55, 3) := by decide +kernel
theorem dX5_wood_45 : decode cX5_wood 45 = .ok (.ifCond .le 5, 3) := by decide +kernel
theorem dX5_wood_48 : decode cX5_wood 48 = .ok (.iconst 0, 1) := by decide +kernel
theorem dX5_wood_49 : decode cX5_wood 49 = .ok (.ireturn, 1) := by decide +kernel
theorem dX5_wood_50 : decode cX5_wood 50 = .ok (.aload_n 0, 1) := by decide +kernel
theorem dX5_wood_51 : decode cX5_wood 51 = .ok (.getfield 7, 3) := by decide +kernel
theorem dX5_wood_54 : decode cX5_wood 54 = .ok (.bipush 6, 2) := by decide +kernel
theorem dX5_wood_56 : decode cX5_wood 56 = .ok (.iload_n 2, 1) := by decide +kernel
theorem dX5_wood_57 : decode cX5_wood 57 = .ok (.imul, 1) := by decide +kernel
theorem dX5_wood_58 : decode cX5_wood 58 = .ok (.iload_n 1, 1) := by decide +kernel
theorem dX5_wood_59 : decode cX5_wood 59 = .ok (.iadd, 1) := by decide +kernel
theorem dX5_wood_60 : decode cX5_wood 60 = .ok (.daload, 1) := by decide +kernel
theorem dX5_wood_61 : decode cX5_wood 61 = .ok (.dload_n 3, 1) := by decide +kernel
theorem dX5_wood_62 : decode cX5_wood 62 = .ok (.dcmp .l, 1) := by decide +kernel
theorem dX5_wood_63 : decode cX5_wood 63 = .ok (.ifCond .eq 7, 3) := by decide +kernel
theorem dX5_wood_66 : decode cX5_wood 66 = .ok (.iconst 1, 1) := by decide +kernel
theorem dX5_wood_67 : decode cX5_wood 67 = .ok (.goto 4, 3) := by decide +kernel
theorem dX5_wood_70 : decode cX5_wood 70 = .ok (.iconst 0, 1) := by decide +kernel
theorem dX5_wood_71 : decode cX5_wood 71 = .ok (.istore 5, 2) := by decide +kernel
theorem dX5_wood_73 : decode cX5_wood 73 = .ok (.aload_n 0, 1) := by decide +kernel
theorem dX5_wood_74 : decode cX5_wood 74 = .ok (.getfield 7, 3) := by decide +kernel
theorem dX5_wood_77 : decode cX5_wood 77 = .ok (.bipush 6, 2) := by decide +kernel
theorem dX5_wood_79 : decode cX5_wood 79 = .ok (.iload_n 2, 1) := by decide +kernel
theorem dX5_wood_80 : decode cX5_wood 80 = .ok (.imul, 1) := by decide +kernel
theorem dX5_wood_81 : decode cX5_wood 81 = .ok (.iload_n 1, 1) := by decide +kernel
theorem dX5_wood_82 : decode cX5_wood 82 = .ok (.iadd, 1) := by decide +kernel
theorem dX5_wood_83 : decode cX5_wood 83 = .ok (.dload_n 3, 1) := by decide +kernel
theorem dX5_wood_84 : decode cX5_wood 84 = .ok (.dastore, 1) := by decide +kernel
theorem dX5_wood_85 : decode cX5_wood 85 = .ok (.aload_n 0, 1) := by decide +kernel
theorem dX5_wood_86 : decode cX5_wood 86 = .ok (.aload_n 0, 1) := by decide +kernel
theorem dX5_wood_87 : decode cX5_wood 87 = .ok (.getfield 72, 3) := by decide +kernel
theorem dX5_wood_90 : decode cX5_wood 90 = .ok (.ifCond .eq 12, 3) := by decide +kernel
theorem dX5_wood_93 : decode cX5_wood 93 = .ok (.iload 5, 2) := by decide +kernel
theorem dX5_wood_95 : decode cX5_wood 95 = .ok (.ifCond .ne 7, 3) := by decide +kernel
theorem dX5_wood_98 : decode cX5_wood 98 = .ok (.iconst 1, 1) := by decide +kernel
theorem dX5_wood_99 : decode cX5_wood 99 = .ok (.goto 4, 3) := by decide +kernel
theorem dX5_wood_102 : decode cX5_wood 102 = .ok (.iconst 0, 1) := by decide +kernel
theorem dX5_wood_103 : decode cX5_wood 103 = .ok (.putfield 72, 3) := by decide +kernel
theorem dX5_wood_106 : decode cX5_wood 106 = .ok (.iload 5, 2) := by decide +kernel
theorem dX5_wood_108 : decode cX5_wood 108 = .ok (.ireturn, 1) := by decide +kernel
set_option maxRecDepth 20000 in
theorem ggX5_rates_X5_between : GoodIn wsX5_rates wsX5_between := goodIn_r _ [11] (by decide +kernel) (by decide +kernel)
set_option maxRecDepth 20000 in
theorem gX5_rates_X5_between : GoodIn wsX5_rates (va_wsS RX5 68 yX5_between wsX5_between) := goodIn_app (goodIn_of _ (by decide +kernel)) ggX5_rates_X5_between
theorem dX5_rates_0 : decode cX5_rates 0 = .ok (.aload_n 0, 1) := by decide +kernel
theorem dX5_rates_1 : decode cX5_rates 1 = .ok (.dload_n 1, 1) := by decide +kernel
theorem dX5_rates_2 : decode cX5_rates 2 = .ok (.ldc2_w 64, 3) := by decide +kernel
theorem dX5_rates_5 : decode cX5_rates 5 = .ok (.ldc2_w 66, 3) := by decide +kernel
theorem dX5_rates_8 : decode cX5_rates 8 = .ok (.invokestatic 68, 3) := by decide +kernel
theorem dX5_rates_11 : decode cX5_rates 11 = .ok (.ifCond .eq 34, 3) := by decide +kernel
theorem dX5_rates_14 : decode cX5_rates 14 = .ok (.dload_n 3, 1) := by decide +kernel
theorem dX5_rates_15 : decode cX5_rates 15 = .ok (.ldc2_w 64, 3) := by decide +kernel
theorem dX5_rates_18 : decode cX5_rates 18 = .ok (.ldc2_w 66, 3) := by decide +kernel
theorem dX5_rates_21 : decode cX5_rates 21 = .ok (.invokestatic 68, 3) := by decide +kernel
theorem dX5_rates_24 : decode cX5_rates 24 = .ok (.ifCond .eq 21, 3) := by decide +kernel
theorem dX5_rates_27 : decode cX5_rates 27 = .ok (.dload 5, 2) := by decide +kernel
theorem dX5_rates_29 : decode cX5_rates 29 = .ok (.ldc2_w 64, 3) := by decide +kernel
theorem dX5_rates_32 : decode cX5_rates 32 = .ok (.ldc2_w 66, 3) := by decide +kernel
theorem dX5_rates_35 : decode cX5_rates 35 = .ok (.invokestatic 68, 3) := by decide +kernel
theorem dX5_rates_38 : decode cX5_rates 38 = .ok (.ifCond .eq 7, 3) := by decide +kernel
theorem dX5_rates_41 : decode cX5_rates 41 = .ok (.iconst 0, 1) := by decide +kernel
theorem dX5_rates_42 : decode cX5_rates 42 = .ok (.goto 4, 3) := by decide +kernel
theorem dX5_rates_45 : decode cX5_rates 45 = .ok (.iconst 1, 1) := by decide +kernel
theorem dX5_rates_46 : decode cX5_rates 46 = .ok (.putfield 55, 3) := by decide +kernel
theorem dX5_rates_49 : decode cX5_rates 49 = .ok (.aload_n 0, 1) := by decide +kernel
theorem dX5_rates_50 : decode cX5_rates 50 = .ok (.getfield 55, 3) := by decide +kernel
theorem dX5_rates_53 : decode cX5_rates 53 = .ok (.ifCond .ne 24, 3) := by decide +kernel
theorem dX5_rates_56 : decode cX5_rates 56 = .ok (.aload_n 0, 1) := by decide +kernel
theorem dX5_rates_57 : decode cX5_rates 57 = .ok (.dload_n 1, 1) := by decide +kernel
theorem dX5_rates_58 : decode cX5_rates 58 = .ok (.putfield 13, 3) := by decide +kernel
theorem dX5_rates_61 : decode cX5_rates 61 = .ok (.aload_n 0, 1) := by decide +kernel
theorem dX5_rates_62 : decode cX5_rates 62 = .ok (.dload_n 3, 1) := by decide +kernel
theorem dX5_rates_63 : decode cX5_rates 63 = .ok (.putfield 17, 3) := by decide +kernel
theorem dX5_rates_66 : decode cX5_rates 66 = .ok (.aload_n 0, 1) := by decide +kernel
theorem dX5_rates_67 : decode cX5_rates 67 = .ok (.dload 5, 2) := by decide +kernel
theorem dX5_rates_69 : decode cX5_rates 69 = .ok (.putfield 20, 3) := by decide +kernel
theorem dX5_rates_72 : decode cX5_rates 72 = .ok (.aload_n 0, 1) := by decide +kernel
theorem dX5_rates_73 : decode cX5_rates 73 = .ok (.iconst 0, 1) := by decide +kernel
theorem dX5_rates_74 : decode cX5_rates 74 = .ok (.putfield 72, 3) := by decide +kernel
theorem dX5_rates_77 : decode cX5_rates 77 = .ok (.return_, 1) := by decide +kernel
set_option maxRecDepth 20000 in
theorem ggX5_brace_X5_noCell : GoodIn wsX5_brace wsX5_noCell := goodIn_r _ [12, 13, 14, 18, 19, 20, 21, 22, 23, 24, 25, 26, 27, 28, 29, 30, 31, 32, 33, 34, 35, 36] (by decide +kernel) (by decide +kernel)
set_option maxRecDepth 20000 in
theorem gX5_brace_X5_noCell : GoodIn wsX5_brace (wsV RX5 60 RX5 yX5_noCell wsX5_noCell) := goodIn_app (goodIn_of _ (by decide +kernel)) ggX5_brace_X5_noCell
set_option maxRecDepth 20000 in
theorem ggX5_brace_X5_between : GoodIn wsX5_brace wsX5_between := goodIn_r _ [17] (by decide +kernel) (by decide +kernel)
set_option maxRecDepth 20000 in
theorem gX5_brace_X5_between : GoodIn wsX5_brace (va_wsS RX5 68 yX5_between wsX5_between) := goodIn_app (goodIn_of _ (by decide +kernel)) ggX5_brace_X5_between
theorem dX5_brace_0 : decode cX5_brace 0 = .ok (.iload_n 1, 1) := by decide +kernel
theorem dX5_brace_1 : decode cX5_brace 1 = .ok (.iload_n 3, 1) := by decide +kernel
theorem dX5_brace_2 : decode cX5_brace 2 = .ok (.if_icmp .ne 7, 3) := by decide +kernel
theorem dX5_brace_5 : decode cX5_brace 5 = .ok (.iconst 1, 1) := by decide +kernel
theorem dX5_brace_6 : decode cX5_brace 6 = .ok (.goto 4, 3) := by decide +kernel
theorem dX5_brace_9 : decode cX5_brace 9 = .ok (.iconst 0, 1) := by decide +kernel
theorem dX5_brace_10 : decode cX5_brace 10 = .ok (.iload_n 2, 1) := by decide +kernel
theorem dX5_brace_11 : decode cX5_brace 11 = .ok (.iload 4, 2) := by decide +kernel
theorem dX5_brace_13 : decode cX5_brace 13 = .ok (.if_icmp .ne 7, 3) := by decide +kernel
theorem dX5_brace_16 : decode cX5_brace 16 = .ok (.iconst 1, 1) := by decide +kernel
theorem dX5_brace_17 : decode cX5_brace 17 = .ok (.goto 4, 3) := by decide +kernel
theorem dX5_brace_20 : decode cX5_brace 20 = .ok (.iconst 0, 1) := by decide +kernel
theorem dX5_brace_21 : decode cX5_brace 21 = .ok (.if_icmp .eq 7, 3) := by decide +kernel
theorem dX5_brace_24 : decode cX5_brace 24 = .ok (.iconst 1, 1) := by decide +kernel
theorem dX5_brace_25 : decode cX5_brace 25 = .ok (.goto 4, 3) := by decide +kernel
theorem dX5_brace_28 : decode cX5_brace 28 = .ok (.iconst 0, 1) := by decide +kernel
theorem dX5_brace_29 : decode cX5_brace 29 = .ok (.istore 7, 2) := by decide +kernel
theorem dX5_brace_31 : decode cX5_brace 31 = .ok (.aload_n 0, 1) := by decide +kernel
theorem dX5_brace_32 : decode cX5_brace 32 = .ok (.aload_n 0, 1) := by decide +kernel
theorem dX5_brace_33 : decode cX5_brace 33 = .ok (.iload_n 1, 1) := by decide +kernel
theorem dX5_brace_34 : decode cX5_brace 34 = .ok (.iload_n 2, 1) := by decide +kernel
theorem dX5_brace_35 : decode cX5_brace 35 = .ok (.invokevirtual 60, 3) := by decide +kernel
theorem dX5_brace_38 : decode cX5_brace 38 = .ok (.ifCond .ne 13, 3) := by decide +kernel
theorem dX5_brace_41 : decode cX5_brace 41 = .ok (.aload_n 0, 1) := by decide +kernel
theorem dX5_brace_42 : decode cX5_brace 42 = .ok (.iload_n 3, 1) := by decide +kernel
theorem dX5_brace_43 : decode cX5_brace 43 = .ok (.iload 4, 2) := by decide +kernel
theorem dX5_brace_45 : decode cX5_brace 45 = .ok (.invokevirtual 60, 3) := by decide +kernel
theorem dX5_brace_48 : decode cX5_brace 48 = .ok (.ifCond .eq 7, 3) := by decide +kernel
theorem dX5_brace_51 : decode cX5_brace 51 = .ok (.iconst 1, 1) := by decide +kernel
theorem dX5_brace_52 : decode cX5_brace 52 = .ok (.goto 40, 3) := by decide +kernel
theorem dX5_brace_55 : decode cX5_brace 55 = .ok (.iload 7, 2) := by decide +kernel
theorem dX5_brace_57 : decode cX5_brace 57 = .ok (.ifCond .eq 17, 3) := by decide +kernel
theorem dX5_brace_60 : decode cX5_brace 60 = .ok (.dload 5, 2) := by decide +kernel
theorem dX5_brace_62 : decode cX5_brace 62 = .ok (.ldc2_w 64, 3) := by decide +kernel
theorem dX5_brace_65 : decode cX5_brace 65 = .ok (.ldc2_w 66, 3) := by decide +kernel
theorem dX5_brace_68 : decode cX5_brace 68 = .ok (.invokestatic 68, 3) := by decide +kernel
theorem dX5_brace_71 : decode cX5_brace 71 = .ok (.ifCond .ne 7, 3) := by decide +kernel
theorem dX5_brace_74 : decode cX5_brace 74 = .ok (.iconst 2, 1) := by decide +kernel
theorem dX5_brace_75 : decode cX5_brace 75 = .ok (.goto 17, 3) := by decide +kernel
theorem dX5_brace_78 : decode cX5_brace 78 = .ok (.aload_n 0, 1) := by decide +kernel
theorem dX5_brace_79 : decode cX5_brace 79 = .ok (.getfield 76, 3) := by decide +kernel
theorem dX5_brace_82 : decode cX5_brace 82 = .ok (.bipush 12, 2) := by decide +kernel
theorem dX5_brace_84 : decode cX5_brace 84 = .ok (.if_icmp .ne 7, 3) := by decide +kernel
theorem dX5_brace_87 : decode cX5_brace 87 = .ok (.iconst 3, 1) := by decide +kernel
theorem dX5_brace_88 : decode cX5_brace 88 = .ok (.goto 4, 3) := by decide +kernel
theorem dX5_brace_91 : decode cX5_brace 91 = .ok (.iconst 0, 1) := by decide +kernel
theorem dX5_brace_92 : decode cX5_brace 92 = .ok (.putfield 55, 3) := by decide +kernel
theorem dX5_brace_95 : decode cX5_brace 95 = .ok (.aload_n 0, 1) := by decide +kernel
theorem dX5_brace_96 : decode cX5_brace 96 = .ok (.getfield 55, 3) := by decide +kernel
theorem dX5_brace_99 : decode cX5_brace 99 = .ok (.ifCond .le 5, 3) := by decide +kernel
theorem dX5_brace_102 : decode cX5_brace 102 = .ok (.iconst 0, 1) := by decide +kernel
theorem dX5_brace_103 : decode cX5_brace 103 = .ok (.ireturn, 1) := by decide +kernel
theorem dX5_brace_104 : decode cX5_brace 104 = .ok (.aload_n 0, 1) := by decide +kernel
theorem dX5_brace_105 : decode cX5_brace 105 = .ok (.getfield 23, 3) := by decide +kernel
theorem dX5_brace_108 : decode cX5_brace 108 = .ok (.iconst 4, 1) := by decide +kernel
theorem dX5_brace_109 : decode cX5_brace 109 = .ok (.aload_n 0, 1) := by decide +kernel
theorem dX5_brace_110 : decode cX5_brace 110 = .ok (.getfield 76, 3) := by decide +kernel
theorem dX5_brace_113 : decode cX5_brace 113 = .ok (.imul, 1) := by decide +kernel
theorem dX5_brace_114 : decode cX5_brace 114 = .ok (.iload_n 1, 1) := by decide +kernel
theorem dX5_brace_115 : decode cX5_brace 115 = .ok (.iload_n 3, 1) := by decide +kernel
theorem dX5_brace_116 : decode cX5_brace 116 = .ok (.if_icmp .ge 7, 3) := by decide +kernel
theorem dX5_brace_119 : decode cX5_brace 119 = .ok (.iload_n 1, 1) := by decide +kernel
theorem dX5_brace_120 : decode cX5_brace 120 = .ok (.goto 4, 3) := by decide +kernel
theorem dX5_brace_123 : decode cX5_brace 123 = .ok (.iload_n 3, 1) := by decide +kernel
theorem dX5_brace_124 : decode cX5_brace 124 = .ok (.iastore, 1) := by decide +kernel
theorem dX5_brace_125 : decode cX5_brace 125 = .ok (.aload_n 0, 1) := by decide +kernel
theorem dX5_brace_126 : decode cX5_brace 126 = .ok (.getfield 23, 3) := by decide +kernel
theorem dX5_brace_129 : decode cX5_brace 129 = .ok (.iconst 4, 1) := by decide +kernel
theorem dX5_brace_130 : decode cX5_brace 130 = .ok (.aload_n 0, 1) := by decide +kernel
theorem dX5_brace_131 : decode cX5_brace 131 = .ok (.getfield 76, 3) := by decide +kernel
theorem dX5_brace_134 : decode cX5_brace 134 = .ok (.imul, 1) := by decide +kernel
theorem dX5_brace_135 : decode cX5_brace 135 = .ok (.iconst 1, 1) := by decide +kernel
theorem dX5_brace_136 : decode cX5_brace 136 = .ok (.iadd, 1) := by decide +kernel
theorem dX5_brace_137 : decode cX5_brace 137 = .ok (.iload_n 2, 1) := by decide +kernel
theorem dX5_brace_138 : decode cX5_brace 138 = .ok (.iload 4, 2) := by decide +kernel
theorem dX5_brace_140 : decode cX5_brace 140 = .ok (.if_icmp .ge 7, 3) := by decide +kernel
theorem dX5_brace_143 : decode cX5_brace 143 = .ok (.iload_n 2, 1) := by decide +kernel
theorem dX5_brace_144 : decode cX5_brace 144 = .ok (.goto 5, 3) := by decide +kernel
theorem dX5_brace_147 : decode cX5_brace 147 = .ok (.iload 4, 2) := by decide +kernel
theorem dX5_brace_149 : decode cX5_brace 149 = .ok (.iastore, 1) := by decide +kernel
theorem dX5_brace_150 : decode cX5_brace 150 = .ok (.aload_n 0, 1) := by decide +kernel
theorem dX5_brace_151 : decode cX5_brace 151 = .ok (.getfield 23, 3) := by decide +kernel
theorem dX5_brace_154 : decode cX5_brace 154 = .ok (.iconst 4, 1) := by decide +kernel
theorem dX5_brace_155 : decode cX5_brace 155 = .ok (.aload_n 0, 1) := by decide +kernel
theorem dX5_brace_156 : decode cX5_brace 156 = .ok (.getfield 76, 3) := by decide +kernel
theorem dX5_brace_159 : decode cX5_brace 159 = .ok (.imul, 1) := by decide +kernel
theorem dX5_brace_160 : decode cX5_brace 160 = .ok (.iconst 2, 1) := by decide +kernel
theorem dX5_brace_161 : decode cX5_brace 161 = .ok (.iadd, 1) := by decide +kernel
theorem dX5_brace_162 : decode cX5_brace 162 = .ok (.iload_n 1, 1) := by decide +kernel
theorem dX5_brace_163 : decode cX5_brace 163 = .ok (.iload_n 3, 1) := by decide +kernel
theorem dX5_brace_164 : decode cX5_brace 164 = .ok (.if_icmp .ge 7, 3) := by decide +kernel
theorem dX5_brace_167 : decode cX5_brace 167 = .ok (.iload_n 3, 1) := by decide +kernel
theorem dX5_brace_168 : decode cX5_brace 168 = .ok (.goto 4, 3) := by decide +kernel
theorem dX5_brace_171 : decode cX5_brace 171 = .ok (.iload_n 1, 1) := by decide +kernel
theorem dX5_brace_172 : decode cX5_brace 172 = .ok (.iastore, 1) := by decide +kernel
theorem dX5_brace_173 : decode cX5_brace 173 = .ok (.aload_n 0, 1) := by decide +kernel
theorem dX5_brace_174 : decode cX5_brace 174 = .ok (.getfield 23, 3) := by decide +kernel
theorem dX5_brace_177 : decode cX5_brace 177 = .ok (.iconst 4, 1) := by decide +kernel
theorem dX5_brace_178 : decode cX5_brace 178 = .ok (.aload_n 0, 1) := by decide +kernel
theorem dX5_brace_179 : decode cX5_brace 179 = .ok (.getfield 76, 3) := by decide +kernel
theorem dX5_brace_182 : decode cX5_brace 182 = .ok (.imul, 1) := by decide +kernel
theorem dX5_brace_183 : decode cX5_brace 183 = .ok (.iconst 3, 1) := by decide +kernel
theorem dX5_brace_184 : decode cX5_brace 184 = .ok (.iadd, 1) := by decide +kernel
theorem dX5_brace_185 : decode cX5_brace 185 = .ok (.iload_n 2, 1) := by decide +kernel
theorem dX5_brace_186 : decode cX5_brace 186 = .ok (.iload 4, 2) := by decide +kernel
theorem dX5_brace_188 : decode cX5_brace 188 = .ok (.if_icmp .ge 8, 3) := by decide +kernel
theorem dX5_brace_191 : decode cX5_brace 191 = .ok (.iload 4, 2) := by decide +kernel
theorem dX5_brace_193 : decode cX5_brace 193 = .ok (.goto 4, 3) := by decide +kernel
theorem dX5_brace_196 : decode cX5_brace 196 = .ok (.iload_n 2, 1) := by decide +kernel
theorem dX5_brace_197 : decode cX5_brace 197 = .ok (.iastore, 1) := by decide +kernel
theorem dX5_brace_198 : decode cX5_brace 198 = .ok (.aload_n 0, 1) := by decide +kernel
theorem dX5_brace_199 : decode cX5_brace 199 = .ok (.getfield 27, 3) := by decide +kernel
theorem dX5_brace_202 : decode cX5_brace 202 = .ok (.aload_n 0, 1) := by decide +kernel
theorem dX5_brace_203 : decode cX5_brace 203 = .ok (.getfield 76, 3) := by decide +kernel
theorem dX5_brace_206 : decode cX5_brace 206 = .ok (.dload 5, 2) := by decide +kernel
theorem dX5_brace_208 : decode cX5_brace 208 = .ok (.dastore, 1) := by decide +kernel
theorem dX5_brace_209 : decode cX5_brace 209 = .ok (.aload_n 0, 1) := by decide +kernel
theorem dX5_brace_210 : decode cX5_brace 210 = .ok (.dup, 1) := by decide +kernel
theorem dX5_brace_211 : decode cX5_brace 211 = .ok (.getfield 76, 3) := by decide +kernel
theorem dX5_brace_214 : decode cX5_brace 214 = .ok (.iconst 1, 1) := by decide +kernel
theorem dX5_brace_215 : decode cX5_brace 215 = .ok (.iadd, 1) := by decide +kernel
theorem dX5_brace_216 : decode cX5_brace 216 = .ok (.putfield 76, 3) := by decide +kernel
theorem dX5_brace_219 : decode cX5_brace 219 = .ok (.aload_n 0, 1) := by decide +kernel
theorem dX5_brace_220 : decode cX5_brace 220 = .ok (.iconst 0, 1) := by decide +kernel
theorem dX5_brace_221 : decode cX5_brace 221 = .ok (.putfield 72, 3) := by decide +kernel
theorem dX5_brace_224 : decode cX5_brace 224 = .ok (.aload_n 0, 1) := by decide +kernel
theorem dX5_brace_225 : decode cX5_brace 225 = .ok (.getfield 76, 3) := by decide +kernel
theorem dX5_brace_228 : decode cX5_brace 228 = .ok (.ireturn, 1) := by decide +kernel
set_option maxRecDepth 20000 in
theorem ggX5_modes_X5_makeAll : GoodIn wsX5_modes wsX5_makeAll := goodIn_r _ [7, 2, 8, 9, 10, 11, 6, 12, 13, 14, 15, 16, 17, 18, 19, 20, 21, 22, 23, 24, 25, 26, 27, 28, 29, 30, 31, 32, 33, 34, 35, 36, 37, 38, 39, 40, 41, 42, 43, 44, 45, 46, 47, 48, 49, 50, 51, 52, 53, 54, 55, 56, 57, 58, 59, 60, 61, 62, 63, 64, 65, 66, 67, 68, 69, 70, 71, 72, 73, 74, 75, 76, 77, 78, 79, 80, 81, 82] (by decide +kernel) (by decide +kernel)
set_option maxRecDepth 20000 in
theorem gX5_modes_X5_makeAll : GoodIn wsX5_modes (wsV RX5 122 RX5 yX5_makeAll wsX5_makeAll) := goodIn_app (goodIn_of _ (by decide +kernel)) ggX5_modes_X5_makeAll
theorem dX5_modes_0 : decode cX5_modes 0 = .ok (.aload_n 0, 1) := by decide +kernel
theorem dX5_modes_1 : decode cX5_modes 1 = .ok (.iload_n 1, 1) := by decide +kernel
theorem dX5_modes_2 : decode cX5_modes 2 = .ok (.iconst 1, 1) := by decide +kernel
theorem dX5_modes_3 : decode cX5_modes 3 = .ok (.if_icmp .lt 8, 3) := by decide +kernel
theorem dX5_modes_6 : decode cX5_modes 6 = .ok (.iload_n 1, 1) := by decide +kernel
theorem dX5_modes_7 : decode cX5_modes 7 = .ok (.iconst 4, 1) := by decide +kernel
theorem dX5_modes_8 : decode cX5_modes 8 = .ok (.if_icmp .le 7, 3) := by decide +kernel
theorem dX5_modes_11 : decode cX5_modes 11 = .ok (.iconst 1, 1) := by decide +kernel
theorem dX5_modes_12 : decode cX5_modes 12 = .ok (.goto 4, 3) := by decide +kernel
theorem dX5_modes_15 : decode cX5_modes 15 = .ok (.iconst 0, 1) := by decide +kernel
theorem dX5_modes_16 : decode cX5_modes 16 = .ok (.putfield 55, 3) := by decide +kernel
theorem dX5_modes_19 : decode cX5_modes 19 = .ok (.aload_n 0, 1) := by decide +kernel
theorem dX5_modes_20 : decode cX5_modes 20 = .ok (.getfield 55, 3) := by decide +kernel
theorem dX5_modes_23 : decode cX5_modes 23 = .ok (.ifCond .le 5, 3) := by decide +kernel
theorem dX5_modes_26 : decode cX5_modes 26 = .ok (.iconst 0, 1) := by decide +kernel
theorem dX5_modes_27 : decode cX5_modes 27 = .ok (.ireturn, 1) := by decide +kernel
theorem dX5_modes_28 : decode cX5_modes 28 = .ok (.aload_n 0, 1) := by decide +kernel
theorem dX5_modes_29 : decode cX5_modes 29 = .ok (.iload_n 1, 1) := by decide +kernel
theorem dX5_modes_30 : decode cX5_modes 30 = .ok (.invokevirtual 122, 3) := by decide +kernel
theorem dX5_modes_33 : decode cX5_modes 33 = .ok (.aload_n 0, 1) := by decide +kernel
theorem dX5_modes_34 : decode cX5_modes 34 = .ok (.getfield 116, 3) := by decide +kernel
theorem dX5_modes_37 : decode cX5_modes 37 = .ok (.ireturn, 1) := by decide +kernel
set_option maxRecDepth 20000 in
theorem ggX5_mode_X5_noMode : GoodIn wsX5_mode wsX5_noMode := goodIn_r _ [7] (by decide +kernel) (by decide +kernel)
set_option maxRecDepth 20000 in
theorem gX5_mode_X5_noMode : GoodIn wsX5_mode (wsV RX5 126 RX5 yX5_noMode wsX5_noMode) := goodIn_app (goodIn_of _ (by decide +kernel)) ggX5_mode_X5_noMode
set_option maxRecDepth 20000 in
theorem ggX5_mode_X5_check : GoodIn wsX5_mode wsX5_check := goodIn_r _ [11, 12, 13, 42, 43, 44, 45, 46, 47, 48, 49, 50, 51, 52, 53, 54, 55, 56, 57, 58, 59, 60] (by decide +kernel) (by decide +kernel)
set_option maxRecDepth 20000 in
theorem gX5_mode_X5_check : GoodIn wsX5_mode (wsV RX5 129 RX5 yX5_check wsX5_check) := goodIn_app (goodIn_of _ (by decide +kernel)) ggX5_mode_X5_check
set_option maxRecDepth 20000 in
theorem ggX5_mode_X5_residue : GoodIn wsX5_mode wsX5_residue := goodIn_r _ [17, 18, 19, 2, 20, 21, 22, 23, 6, 24, 25, 26, 27, 28, 29, 30, 31, 32, 33, 34, 35, 36, 37, 42, 43, 44, 45, 46, 47, 48, 49, 50, 51, 52, 53, 54, 55, 56, 57, 58, 59, 60] (by decide +kernel) (by decide +kernel)
set_option maxRecDepth 20000 in
theorem gX5_mode_X5_residue : GoodIn wsX5_mode (wsV RX5 133 RX5 yX5_residue wsX5_residue) := goodIn_app (goodIn_of _ (by decide +kernel)) ggX5_mode_X5_residue
set_option maxRecDepth 20000 in
theorem ggX5_mode_X5_sumOf : GoodIn wsX5_mode wsX5_sumOf := goodIn_r _ [41, 18, 19, 20, 34, 35, 36, 6, 37, 32, 42, 43, 44, 45, 46, 47, 48, 49, 50, 51, 52, 53, 54, 55, 56, 57, 58, 59, 60] (by decide +kernel) (by decide +kernel)
set_option maxRecDepth 20000 in
theorem gX5_mode_X5_sumOf : GoodIn wsX5_mode (wsV RX5 136 RX5 yX5_sumOf wsX5_sumOf) := goodIn_app (goodIn_of _ (by decide +kernel)) ggX5_mode_X5_sumOf
theorem dX5_mode_0 : decode cX5_mode 0 = .ok (.aload_n 0, 1) := by decide +kernel
theorem dX5_mode_1 : decode cX5_mode 1 = .ok (.aload_n 0, 1) := by decide +kernel
theorem dX5_mode_2 : decode cX5_mode 2 = .ok (.aload_n 0, 1) := by decide +kernel
theorem dX5_mode_3 : decode cX5_mode 3 = .ok (.iload_n 1, 1) := by decide +kernel
theorem dX5_mode_4 : decode cX5_mode 4 = .ok (.invokevirtual 126, 3) := by decide +kernel
theorem dX5_mode_7 : decode cX5_mode 7 = .ok (.ifCond .ne 16, 3) := by decide +kernel
theorem dX5_mode_10 : decode cX5_mode 10 = .ok (.iload_n 2, 1) := by decide +kernel
theorem dX5_mode_11 : decode cX5_mode 11 = .ok (.ifCond .lt 12, 3) := by decide +kernel
theorem dX5_mode_14 : decode cX5_mode 14 = .ok (.iload_n 2, 1) := by decide +kernel
theorem dX5_mode_15 : decode cX5_mode 15 = .ok (.iconst 2, 1) := by decide +kernel
theorem dX5_mode_16 : decode cX5_mode 16 = .ok (.if_icmp .gt 7, 3) := by decide +kernel
theorem dX5_mode_19 : decode cX5_mode 19 = .ok (.iconst 1, 1) := by decide +kernel
theorem dX5_mode_20 : decode cX5_mode 20 = .ok (.goto 4, 3) := by decide +kernel
theorem dX5_mode_23 : decode cX5_mode 23 = .ok (.iconst 0, 1) := by decide +kernel
theorem dX5_mode_24 : decode cX5_mode 24 = .ok (.iload_n 1, 1) := by decide +kernel
theorem dX5_mode_25 : decode cX5_mode 25 = .ok (.invokevirtual 129, 3) := by decide +kernel
theorem dX5_mode_28 : decode cX5_mode 28 = .ok (.putfield 55, 3) := by decide +kernel
theorem dX5_mode_31 : decode cX5_mode 31 = .ok (.aload_n 0, 1) := by decide +kernel
theorem dX5_mode_32 : decode cX5_mode 32 = .ok (.getfield 55, 3) := by decide +kernel
theorem dX5_mode_35 : decode cX5_mode 35 = .ok (.ifCond .le 7, 3) := by decide +kernel
theorem dX5_mode_38 : decode cX5_mode 38 = .ok (.dconst 0, 1) := by decide +kernel
theorem dX5_mode_39 : decode cX5_mode 39 = .ok (.goto 34, 3) := by decide +kernel
theorem dX5_mode_42 : decode cX5_mode 42 = .ok (.iload_n 2, 1) := by decide +kernel
theorem dX5_mode_43 : decode cX5_mode 43 = .ok (.ifCond .ne 12, 3) := by decide +kernel
theorem dX5_mode_46 : decode cX5_mode 46 = .ok (.aload_n 0, 1) := by decide +kernel
theorem dX5_mode_47 : decode cX5_mode 47 = .ok (.getfield 39, 3) := by decide +kernel
theorem dX5_mode_50 : decode cX5_mode 50 = .ok (.iload_n 1, 1) := by decide +kernel
theorem dX5_mode_51 : decode cX5_mode 51 = .ok (.daload, 1) := by decide +kernel
theorem dX5_mode_52 : decode cX5_mode 52 = .ok (.goto 21, 3) := by decide +kernel
theorem dX5_mode_55 : decode cX5_mode 55 = .ok (.iload_n 2, 1) := by decide +kernel
theorem dX5_mode_56 : decode cX5_mode 56 = .ok (.iconst 1, 1) := by decide +kernel
theorem dX5_mode_57 : decode cX5_mode 57 = .ok (.if_icmp .ne 11, 3) := by decide +kernel
theorem dX5_mode_60 : decode cX5_mode 60 = .ok (.aload_n 0, 1) := by decide +kernel
theorem dX5_mode_61 : decode cX5_mode 61 = .ok (.iload_n 1, 1) := by decide +kernel
theorem dX5_mode_62 : decode cX5_mode 62 = .ok (.invokevirtual 133, 3) := by decide +kernel
theorem dX5_mode_65 : decode cX5_mode 65 = .ok (.goto 8, 3) := by decide +kernel
theorem dX5_mode_68 : decode cX5_mode 68 = .ok (.aload_n 0, 1) := by decide +kernel
theorem dX5_mode_69 : decode cX5_mode 69 = .ok (.iload_n 1, 1) := by decide +kernel
theorem dX5_mode_70 : decode cX5_mode 70 = .ok (.invokevirtual 136, 3) := by decide +kernel
theorem dX5_mode_73 : decode cX5_mode 73 = .ok (.dreturn, 1) := by decide +kernel
set_option maxRecDepth 20000 in
theorem ggX5_shape_X5_noMode : GoodIn wsX5_shape wsX5_noMode := goodIn_r _ [7] (by decide +kernel) (by decide +kernel)
set_option maxRecDepth 20000 in
theorem gX5_shape_X5_noMode : GoodIn wsX5_shape (wsV RX5 126 RX5 yX5_noMode wsX5_noMode) := goodIn_app (goodIn_of _ (by decide +kernel)) ggX5_shape_X5_noMode
set_option maxRecDepth 20000 in
theorem ggX5_shape_X5_noCell : GoodIn wsX5_shape wsX5_noCell := goodIn_r _ [11, 12, 13, 20, 21, 22, 23, 24, 25, 26, 27, 28, 29, 30, 31, 32, 33, 34, 35, 36, 37, 38] (by decide +kernel) (by decide +kernel)
set_option maxRecDepth 20000 in
theorem gX5_shape_X5_noCell : GoodIn wsX5_shape (wsV RX5 60 RX5 yX5_noCell wsX5_noCell) := goodIn_app (goodIn_of _ (by decide +kernel)) ggX5_shape_X5_noCell
set_option maxRecDepth 20000 in
theorem ggX5_shape_X5_check : GoodIn wsX5_shape wsX5_check := goodIn_r _ [17, 18, 19, 20, 21, 22, 23, 24, 25, 26, 27, 28, 29, 30, 31, 32, 33, 34, 35, 36, 37, 38] (by decide +kernel) (by decide +kernel)
set_option maxRecDepth 20000 in
theorem gX5_shape_X5_check : GoodIn wsX5_shape (wsV RX5 129 RX5 yX5_check wsX5_check) := goodIn_app (goodIn_of _ (by decide +kernel)) ggX5_shape_X5_check
theorem dX5_shape_0 : decode cX5_shape 0 = .ok (.aload_n 0, 1) := by decide +kernel
theorem dX5_shape_1 : decode cX5_shape 1 = .ok (.aload_n 0, 1) := by decide +kernel
theorem dX5_shape_2 : decode cX5_shape 2 = .ok (.aload_n 0, 1) := by decide +kernel
theorem dX5_shape_3 : decode cX5_shape 3 = .ok (.iload_n 1, 1) := by decide +kernel
theorem dX5_shape_4 : decode cX5_shape 4 = .ok (.invokevirtual 126, 3) := by decide +kernel
theorem dX5_shape_7 : decode cX5_shape 7 = .ok (.ifCond .ne 16, 3) := by decide +kernel
theorem dX5_shape_10 : decode cX5_shape 10 = .ok (.aload_n 0, 1) := by decide +kernel
theorem dX5_shape_11 : decode cX5_shape 11 = .ok (.iload_n 2, 1) := by decide +kernel
theorem dX5_shape_12 : decode cX5_shape 12 = .ok (.iload_n 3, 1) := by decide +kernel
theorem dX5_shape_13 : decode cX5_shape 13 = .ok (.invokevirtual 60, 3) := by decide +kernel
theorem dX5_shape_16 : decode cX5_shape 16 = .ok (.ifCond .ne 7, 3) := by decide +kernel
theorem dX5_shape_19 : decode cX5_shape 19 = .ok (.iconst 1, 1) := by decide +kernel
theorem dX5_shape_20 : decode cX5_shape 20 = .ok (.goto 4, 3) := by decide +kernel
theorem dX5_shape_23 : decode cX5_shape 23 = .ok (.iconst 0, 1) := by decide +kernel
theorem dX5_shape_24 : decode cX5_shape 24 = .ok (.iload_n 1, 1) := by decide +kernel
theorem dX5_shape_25 : decode cX5_shape 25 = .ok (.invokevirtual 129, 3) := by decide +kernel
theorem dX5_shape_28 : decode cX5_shape 28 = .ok (.putfield 55, 3) := by decide +kernel
theorem dX5_shape_31 : decode cX5_shape 31 = .ok (.aload_n 0, 1) := by decide +kernel
theorem dX5_shape_32 : decode cX5_shape 32 = .ok (.getfield 55, 3) := by decide +kernel
theorem dX5_shape_35 : decode cX5_shape 35 = .ok (.ifCond .le 7, 3) := by decide +kernel
theorem dX5_shape_38 : decode cX5_shape 38 = .ok (.dconst 0, 1) := by decide +kernel
theorem dX5_shape_39 : decode cX5_shape 39 = .ok (.goto 19, 3) := by decide +kernel
theorem dX5_shape_42 : decode cX5_shape 42 = .ok (.aload_n 0, 1) := by decide +kernel
theorem dX5_shape_43 : decode cX5_shape 43 = .ok (.getfield 36, 3) := by decide +kernel
theorem dX5_shape_46 : decode cX5_shape 46 = .ok (.bipush 36, 2) := by decide +kernel
theorem dX5_shape_48 : decode cX5_shape 48 = .ok (.iload_n 1, 1) := by decide +kernel
theorem dX5_shape_49 : decode cX5_shape 49 = .ok (.imul, 1) := by decide +kernel
theorem dX5_shape_50 : decode cX5_shape 50 = .ok (.bipush 6, 2) := by decide +kernel
theorem dX5_shape_52 : decode cX5_shape 52 = .ok (.iload_n 3, 1) := by decide +kernel
theorem dX5_shape_53 : decode cX5_shape 53 = .ok (.imul, 1) := by decide +kernel
theorem dX5_shape_54 : decode cX5_shape 54 = .ok (.iadd, 1) := by decide +kernel
theorem dX5_shape_55 : decode cX5_shape 55 = .ok (.iload_n 2, 1) := by decide +kernel
theorem dX5_shape_56 : decode cX5_shape 56 = .ok (.iadd, 1) := by decide +kernel
theorem dX5_shape_57 : decode cX5_shape 57 = .ok (.daload, 1) := by decide +kernel
theorem dX5_shape_58 : decode cX5_shape 58 = .ok (.dreturn, 1) := by decide +kernel
set_option maxRecDepth 20000 in
theorem ggX5_product_X5_noMode : GoodIn wsX5_product wsX5_noMode := goodIn_r _ [6] (by decide +kernel) (by decide +kernel)
set_option maxRecDepth 20000 in
theorem gX5_product_X5_noMode : GoodIn wsX5_product (wsV RX5 126 RX5 yX5_noMode wsX5_noMode) := goodIn_app (goodIn_of _ (by decide +kernel)) ggX5_product_X5_noMode
set_option maxRecDepth 20000 in
theorem ggX5_product_X5_check : GoodIn wsX5_product wsX5_check := goodIn_r _ [10, 11, 12, 30, 31, 32, 33, 34, 35, 36, 37, 38, 39, 40, 41, 42, 43, 44, 45, 46, 47, 48] (by decide +kernel) (by decide +kernel)
set_option maxRecDepth 20000 in
theorem gX5_product_X5_check : GoodIn wsX5_product (wsV RX5 129 RX5 yX5_check wsX5_check) := goodIn_app (goodIn_of _ (by decide +kernel)) ggX5_product_X5_check
set_option maxRecDepth 20000 in
theorem ggX5_product_X5_productOf : GoodIn wsX5_product wsX5_productOf := goodIn_r _ [16, 17, 18, 19, 20, 21, 22, 5, 23, 24, 25, 26, 27, 28, 29, 30, 31, 32, 33, 34, 35, 36, 37, 38, 39, 40, 41, 42, 43, 44, 45, 46, 47, 48] (by decide +kernel) (by decide +kernel)
set_option maxRecDepth 20000 in
theorem gX5_product_X5_productOf : GoodIn wsX5_product (wsV RX5 103 RX5 yX5_productOf wsX5_productOf) := goodIn_app (goodIn_of _ (by decide +kernel)) ggX5_product_X5_productOf
theorem dX5_product_0 : decode cX5_product 0 = .ok (.aload_n 0, 1) := by decide +kernel
theorem dX5_product_1 : decode cX5_product 1 = .ok (.aload_n 0, 1) := by decide +kernel
theorem dX5_product_2 : decode cX5_product 2 = .ok (.aload_n 0, 1) := by decide +kernel
theorem dX5_product_3 : decode cX5_product 3 = .ok (.iload_n 1, 1) := by decide +kernel
theorem dX5_product_4 : decode cX5_product 4 = .ok (.invokevirtual 126, 3) := by decide +kernel
theorem dX5_product_7 : decode cX5_product 7 = .ok (.ifCond .ne 15, 3) := by decide +kernel
theorem dX5_product_10 : decode cX5_product 10 = .ok (.aload_n 0, 1) := by decide +kernel
theorem dX5_product_11 : decode cX5_product 11 = .ok (.iload_n 2, 1) := by decide +kernel
theorem dX5_product_12 : decode cX5_product 12 = .ok (.invokevirtual 126, 3) := by decide +kernel
theorem dX5_product_15 : decode cX5_product 15 = .ok (.ifCond .ne 7, 3) := by decide +kernel
theorem dX5_product_18 : decode cX5_product 18 = .ok (.iconst 1, 1) := by decide +kernel
theorem dX5_product_19 : decode cX5_product 19 = .ok (.goto 4, 3) := by decide +kernel
theorem dX5_product_22 : decode cX5_product 22 = .ok (.iconst 0, 1) := by decide +kernel
theorem dX5_product_23 : decode cX5_product 23 = .ok (.iload_n 1, 1) := by decide +kernel
theorem dX5_product_24 : decode cX5_product 24 = .ok (.iload_n 2, 1) := by decide +kernel
theorem dX5_product_25 : decode cX5_product 25 = .ok (.if_icmp .le 7, 3) := by decide +kernel
theorem dX5_product_28 : decode cX5_product 28 = .ok (.iload_n 1, 1) := by decide +kernel
theorem dX5_product_29 : decode cX5_product 29 = .ok (.goto 4, 3) := by decide +kernel
theorem dX5_product_32 : decode cX5_product 32 = .ok (.iload_n 2, 1) := by decide +kernel
theorem dX5_product_33 : decode cX5_product 33 = .ok (.invokevirtual 129, 3) := by decide +kernel
theorem dX5_product_36 : decode cX5_product 36 = .ok (.putfield 55, 3) := by decide +kernel
theorem dX5_product_39 : decode cX5_product 39 = .ok (.aload_n 0, 1) := by decide +kernel
theorem dX5_product_40 : decode cX5_product 40 = .ok (.getfield 55, 3) := by decide +kernel
theorem dX5_product_43 : decode cX5_product 43 = .ok (.ifCond .le 7, 3) := by decide +kernel
theorem dX5_product_46 : decode cX5_product 46 = .ok (.dconst 0, 1) := by decide +kernel
theorem dX5_product_47 : decode cX5_product 47 = .ok (.goto 9, 3) := by decide +kernel
theorem dX5_product_50 : decode cX5_product 50 = .ok (.aload_n 0, 1) := by decide +kernel
theorem dX5_product_51 : decode cX5_product 51 = .ok (.iload_n 1, 1) := by decide +kernel
theorem dX5_product_52 : decode cX5_product 52 = .ok (.iload_n 2, 1) := by decide +kernel
theorem dX5_product_53 : decode cX5_product 53 = .ok (.invokevirtual 103, 3) := by decide +kernel
theorem dX5_product_56 : decode cX5_product 56 = .ok (.dreturn, 1) := by decide +kernel
theorem dX5_mirrored_0 : decode cX5_mirrored 0 = .ok (.aload_n 0, 1) := by decide +kernel
theorem dX5_mirrored_1 : decode cX5_mirrored 1 = .ok (.iconst 0, 1) := by decide +kernel
theorem dX5_mirrored_2 : decode cX5_mirrored 2 = .ok (.putfield 55, 3) := by decide +kernel
theorem dX5_mirrored_5 : decode cX5_mirrored 5 = .ok (.iconst 1, 1) := by decide +kernel
theorem dX5_mirrored_6 : decode cX5_mirrored 6 = .ok (.istore_n 2, 1) := by decide +kernel
theorem dX5_mirrored_7 : decode cX5_mirrored 7 = .ok (.iconst 0, 1) := by decide +kernel
theorem dX5_mirrored_8 : decode cX5_mirrored 8 = .ok (.istore_n 3, 1) := by decide +kernel
theorem dX5_mirrored_9 : decode cX5_mirrored 9 = .ok (.iload_n 3, 1) := by decide +kernel
theorem dX5_mirrored_10 : decode cX5_mirrored 10 = .ok (.aload_n 0, 1) := by decide +kernel
theorem dX5_mirrored_11 : decode cX5_mirrored 11 = .ok (.getfield 52, 3) := by decide +kernel
theorem dX5_mirrored_14 : decode cX5_mirrored 14 = .ok (.if_icmp .ge 97, 3) := by decide +kernel
theorem dX5_mirrored_17 : decode cX5_mirrored 17 = .ok (.iconst 0, 1) := by decide +kernel
theorem dX5_mirrored_18 : decode cX5_mirrored 18 = .ok (.istore 4, 2) := by decide +kernel
theorem dX5_mirrored_20 : decode cX5_mirrored 20 = .ok (.iload 4, 2) := by decide +kernel
theorem dX5_mirrored_22 : decode cX5_mirrored 22 = .ok (.aload_n 0, 1) := by decide +kernel
theorem dX5_mirrored_23 : decode cX5_mirrored 23 = .ok (.getfield 48, 3) := by decide +kernel
theorem dX5_mirrored_26 : decode cX5_mirrored 26 = .ok (.if_icmp .ge 79, 3) := by decide +kernel
theorem dX5_mirrored_29 : decode cX5_mirrored 29 = .ok (.iload_n 1, 1) := by decide +kernel
theorem dX5_mirrored_30 : decode cX5_mirrored 30 = .ok (.ifCond .eq 20, 3) := by decide +kernel
theorem dX5_mirrored_33 : decode cX5_mirrored 33 = .ok (.bipush 6, 2) := by decide +kernel
theorem dX5_mirrored_35 : decode cX5_mirrored 35 = .ok (.iload_n 3, 1) := by decide +kernel
theorem dX5_mirrored_36 : decode cX5_mirrored 36 = .ok (.imul, 1) := by decide +kernel
theorem dX5_mirrored_37 : decode cX5_mirrored 37 = .ok (.aload_n 0, 1) := by decide +kernel
theorem dX5_mirrored_38 : decode cX5_mirrored 38 = .ok (.getfield 48, 3) := by decide +kernel
theorem dX5_mirrored_41 : decode cX5_mirrored 41 = .ok (.iadd, 1) := by decide +kernel
theorem dX5_mirrored_42 : decode cX5_mirrored 42 = .ok (.iconst 1, 1) := by decide +kernel
theorem dX5_mirrored_43 : decode cX5_mirrored 43 = .ok (.isub, 1) := by decide +kernel
theorem dX5_mirrored_44 : decode cX5_mirrored 44 = .ok (.iload 4, 2) := by decide +kernel
theorem dX5_mirrored_46 : decode cX5_mirrored 46 = .ok (.isub, 1) := by decide +kernel
theorem dX5_mirrored_47 : decode cX5_mirrored 47 = .ok (.goto 17, 3) := by decide +kernel
theorem dX5_mirrored_50 : decode cX5_mirrored 50 = .ok (.bipush 6, 2) := by decide +kernel
theorem dX5_mirrored_52 : decode cX5_mirrored 52 = .ok (.aload_n 0, 1) := by decide +kernel
theorem dX5_mirrored_53 : decode cX5_mirrored 53 = .ok (.getfield 52, 3) := by decide +kernel
theorem dX5_mirrored_56 : decode cX5_mirrored 56 = .ok (.iconst 1, 1) := by decide +kernel
theorem dX5_mirrored_57 : decode cX5_mirrored 57 = .ok (.isub, 1) := by decide +kernel
theorem dX5_mirrored_58 : decode cX5_mirrored 58 = .ok (.iload_n 3, 1) := by decide +kernel
theorem dX5_mirrored_59 : decode cX5_mirrored 59 = .ok (.isub, 1) := by decide +kernel
theorem dX5_mirrored_60 : decode cX5_mirrored 60 = .ok (.imul, 1) := by decide +kernel
theorem dX5_mirrored_61 : decode cX5_mirrored 61 = .ok (.iload 4, 2) := by decide +kernel
theorem dX5_mirrored_63 : decode cX5_mirrored 63 = .ok (.iadd, 1) := by decide +kernel
theorem dX5_mirrored_64 : decode cX5_mirrored 64 = .ok (.istore 5, 2) := by decide +kernel
theorem dX5_mirrored_66 : decode cX5_mirrored 66 = .ok (.iload_n 2, 1) := by decide +kernel
theorem dX5_mirrored_67 : decode cX5_mirrored 67 = .ok (.ifCond .eq 30, 3) := by decide +kernel
theorem dX5_mirrored_70 : decode cX5_mirrored 70 = .ok (.aload_n 0, 1) := by decide +kernel
theorem dX5_mirrored_71 : decode cX5_mirrored 71 = .ok (.getfield 7, 3) := by decide +kernel
theorem dX5_mirrored_74 : decode cX5_mirrored 74 = .ok (.bipush 6, 2) := by decide +kernel
theorem dX5_mirrored_76 : decode cX5_mirrored 76 = .ok (.iload_n 3, 1) := by decide +kernel
theorem dX5_mirrored_77 : decode cX5_mirrored 77 = .ok (.imul, 1) := by decide +kernel
theorem dX5_mirrored_78 : decode cX5_mirrored 78 = .ok (.iload 4, 2) := by decide +kernel
theorem dX5_mirrored_80 : decode cX5_mirrored 80 = .ok (.iadd, 1) := by decide +kernel
theorem dX5_mirrored_81 : decode cX5_mirrored 81 = .ok (.daload, 1) := by decide +kernel
theorem dX5_mirrored_82 : decode cX5_mirrored 82 = .ok (.aload_n 0, 1) := by decide +kernel
theorem dX5_mirrored_83 : decode cX5_mirrored 83 = .ok (.getfield 7, 3) := by decide +kernel
theorem dX5_mirrored_86 : decode cX5_mirrored 86 = .ok (.iload 5, 2) := by decide +kernel
theorem dX5_mirrored_88 : decode cX5_mirrored 88 = .ok (.daload, 1) := by decide +kernel
theorem dX5_mirrored_89 : decode cX5_mirrored 89 = .ok (.dcmp .l, 1) := by decide +kernel
theorem dX5_mirrored_90 : decode cX5_mirrored 90 = .ok (.ifCond .ne 7, 3) := by decide +kernel
theorem dX5_mirrored_93 : decode cX5_mirrored 93 = .ok (.iconst 1, 1) := by decide +kernel
theorem dX5_mirrored_94 : decode cX5_mirrored 94 = .ok (.goto 4, 3) := by decide +kernel
theorem dX5_mirrored_97 : decode cX5_mirrored 97 = .ok (.iconst 0, 1) := by decide +kernel
theorem dX5_mirrored_98 : decode cX5_mirrored 98 = .ok (.istore_n 2, 1) := by decide +kernel
theorem dX5_mirrored_99 : decode cX5_mirrored 99 = .ok (.iinc 4 1, 3) := by decide +kernel
theorem dX5_mirrored_102 : decode cX5_mirrored 102 = .ok (.goto (-82), 3) := by decide +kernel
theorem dX5_mirrored_105 : decode cX5_mirrored 105 = .ok (.iinc 3 1, 3) := by decide +kernel
theorem dX5_mirrored_108 : decode cX5_mirrored 108 = .ok (.goto (-99), 3) := by decide +kernel
theorem dX5_mirrored_111 : decode cX5_mirrored 111 = .ok (.iload_n 2, 1) := by decide +kernel
theorem dX5_mirrored_112 : decode cX5_mirrored 112 = .ok (.ireturn, 1) := by decide +kernel
set_option maxRecDepth 20000 in
theorem ggX5_coupled_X5_noMode : GoodIn wsX5_coupled wsX5_noMode := goodIn_r _ [12] (by decide +kernel) (by decide +kernel)
set_option maxRecDepth 20000 in
theorem gX5_coupled_X5_noMode : GoodIn wsX5_coupled (wsV RX5 126 RX5 yX5_noMode wsX5_noMode) := goodIn_app (goodIn_of _ (by decide +kernel)) ggX5_coupled_X5_noMode
set_option maxRecDepth 20000 in
theorem ggX5_coupled_X5_between : GoodIn wsX5_coupled wsX5_between := goodIn_r _ [15] (by decide +kernel) (by decide +kernel)
set_option maxRecDepth 20000 in
theorem gX5_coupled_X5_between : GoodIn wsX5_coupled (va_wsS RX5 68 yX5_between wsX5_between) := goodIn_app (goodIn_of _ (by decide +kernel)) ggX5_coupled_X5_between
set_option maxRecDepth 20000 in
theorem ggX5_coupled_X5_sumOf : GoodIn wsX5_coupled wsX5_sumOf := goodIn_r _ [19, 20, 21, 22, 23, 24, 25, 11, 26, 27, 31, 32, 33, 34, 35, 36, 37, 38, 39, 40, 41, 42, 43, 44, 45, 46, 47, 48, 49] (by decide +kernel) (by decide +kernel)
set_option maxRecDepth 20000 in
theorem gX5_coupled_X5_sumOf : GoodIn wsX5_coupled (wsV RX5 136 RX5 yX5_sumOf wsX5_sumOf) := goodIn_app (goodIn_of _ (by decide +kernel)) ggX5_coupled_X5_sumOf
set_option maxRecDepth 20000 in
theorem ggX5_coupled_X5_root : GoodIn wsX5_coupled wsX5_root := goodIn_r _ [30, 7] (by decide +kernel) (by decide +kernel)
set_option maxRecDepth 20000 in
theorem gX5_coupled_X5_root : GoodIn wsX5_coupled (va_wsS RX5 106 yX5_root wsX5_root) := goodIn_app (goodIn_of _ (by decide +kernel)) ggX5_coupled_X5_root
theorem dX5_coupled_0 : decode cX5_coupled 0 = .ok (.aload_n 0, 1) := by decide +kernel
theorem dX5_coupled_1 : decode cX5_coupled 1 = .ok (.aload_n 0, 1) := by decide +kernel
theorem dX5_coupled_2 : decode cX5_coupled 2 = .ok (.iload_n 1, 1) := by decide +kernel
theorem dX5_coupled_3 : decode cX5_coupled 3 = .ok (.invokevirtual 126, 3) := by decide +kernel
theorem dX5_coupled_6 : decode cX5_coupled 6 = .ok (.ifCond .eq 7, 3) := by decide +kernel
theorem dX5_coupled_9 : decode cX5_coupled 9 = .ok (.iconst 1, 1) := by decide +kernel
theorem dX5_coupled_10 : decode cX5_coupled 10 = .ok (.goto 50, 3) := by decide +kernel
theorem dX5_coupled_13 : decode cX5_coupled 13 = .ok (.dload_n 2, 1) := by decide +kernel
theorem dX5_coupled_14 : decode cX5_coupled 14 = .ok (.dconst 0, 1) := by decide +kernel
theorem dX5_coupled_15 : decode cX5_coupled 15 = .ok (.ldc2_w 66, 3) := by decide +kernel
theorem dX5_coupled_18 : decode cX5_coupled 18 = .ok (.invokestatic 68, 3) := by decide +kernel
theorem dX5_coupled_21 : decode cX5_coupled 21 = .ok (.ifCond .eq 15, 3) := by decide +kernel
theorem dX5_coupled_24 : decode cX5_coupled 24 = .ok (.dload 4, 2) := by decide +kernel
theorem dX5_coupled_26 : decode cX5_coupled 26 = .ok (.dconst 0, 1) := by decide +kernel
theorem dX5_coupled_27 : decode cX5_coupled 27 = .ok (.ldc2_w 66, 3) := by decide +kernel
theorem dX5_coupled_30 : decode cX5_coupled 30 = .ok (.invokestatic 68, 3) := by decide +kernel
theorem dX5_coupled_33 : decode cX5_coupled 33 = .ok (.ifCond .ne 7, 3) := by decide +kernel
theorem dX5_coupled_36 : decode cX5_coupled 36 = .ok (.iconst 2, 1) := by decide +kernel
theorem dX5_coupled_37 : decode cX5_coupled 37 = .ok (.goto 23, 3) := by decide +kernel
theorem dX5_coupled_40 : decode cX5_coupled 40 = .ok (.aload_n 0, 1) := by decide +kernel
theorem dX5_coupled_41 : decode cX5_coupled 41 = .ok (.getfield 72, 3) := by decide +kernel
theorem dX5_coupled_44 : decode cX5_coupled 44 = .ok (.ifCond .eq 15, 3) := by decide +kernel
theorem dX5_coupled_47 : decode cX5_coupled 47 = .ok (.iload_n 1, 1) := by decide +kernel
theorem dX5_coupled_48 : decode cX5_coupled 48 = .ok (.aload_n 0, 1) := by decide +kernel
theorem dX5_coupled_49 : decode cX5_coupled 49 = .ok (.getfield 116, 3) := by decide +kernel
theorem dX5_coupled_52 : decode cX5_coupled 52 = .ok (.if_icmp .ge 7, 3) := by decide +kernel
theorem dX5_coupled_55 : decode cX5_coupled 55 = .ok (.iconst 0, 1) := by decide +kernel
theorem dX5_coupled_56 : decode cX5_coupled 56 = .ok (.goto 4, 3) := by decide +kernel
theorem dX5_coupled_59 : decode cX5_coupled 59 = .ok (.iconst 3, 1) := by decide +kernel
theorem dX5_coupled_60 : decode cX5_coupled 60 = .ok (.putfield 55, 3) := by decide +kernel
theorem dX5_coupled_63 : decode cX5_coupled 63 = .ok (.aload_n 0, 1) := by decide +kernel
theorem dX5_coupled_64 : decode cX5_coupled 64 = .ok (.getfield 55, 3) := by decide +kernel
theorem dX5_coupled_67 : decode cX5_coupled 67 = .ok (.ifCond .le 5, 3) := by decide +kernel
theorem dX5_coupled_70 : decode cX5_coupled 70 = .ok (.dconst 0, 1) := by decide +kernel
theorem dX5_coupled_71 : decode cX5_coupled 71 = .ok (.dreturn, 1) := by decide +kernel
theorem dX5_coupled_72 : decode cX5_coupled 72 = .ok (.aload_n 0, 1) := by decide +kernel
theorem dX5_coupled_73 : decode cX5_coupled 73 = .ok (.iload_n 1, 1) := by decide +kernel
theorem dX5_coupled_74 : decode cX5_coupled 74 = .ok (.invokevirtual 136, 3) := by decide +kernel
theorem dX5_coupled_77 : decode cX5_coupled 77 = .ok (.dstore 7, 2) := by decide +kernel
theorem dX5_coupled_79 : decode cX5_coupled 79 = .ok (.aload_n 0, 1) := by decide +kernel
theorem dX5_coupled_80 : decode cX5_coupled 80 = .ok (.getfield 39, 3) := by decide +kernel
theorem dX5_coupled_83 : decode cX5_coupled 83 = .ok (.iload_n 1, 1) := by decide +kernel
theorem dX5_coupled_84 : decode cX5_coupled 84 = .ok (.daload, 1) := by decide +kernel
theorem dX5_coupled_85 : decode cX5_coupled 85 = .ok (.dload_n 2, 1) := by decide +kernel
theorem dX5_coupled_86 : decode cX5_coupled 86 = .ok (.dload 7, 2) := by decide +kernel
theorem dX5_coupled_88 : decode cX5_coupled 88 = .ok (.dmul, 1) := by decide +kernel
theorem dX5_coupled_89 : decode cX5_coupled 89 = .ok (.dload 7, 2) := by decide +kernel
theorem dX5_coupled_91 : decode cX5_coupled 91 = .ok (.dmul, 1) := by decide +kernel
theorem dX5_coupled_92 : decode cX5_coupled 92 = .ok (.dadd, 1) := by decide +kernel
theorem dX5_coupled_93 : decode cX5_coupled 93 = .ok (.dload 4, 2) := by decide +kernel
theorem dX5_coupled_95 : decode cX5_coupled 95 = .ok (.dadd, 1) := by decide +kernel
theorem dX5_coupled_96 : decode cX5_coupled 96 = .ok (.dstore 9, 2) := by decide +kernel
theorem dX5_coupled_98 : decode cX5_coupled 98 = .ok (.dload 9, 2) := by decide +kernel
theorem dX5_coupled_100 : decode cX5_coupled 100 = .ok (.dload 9, 2) := by decide +kernel
theorem dX5_coupled_102 : decode cX5_coupled 102 = .ok (.dmul, 1) := by decide +kernel
theorem dX5_coupled_103 : decode cX5_coupled 103 = .ok (.ldc2_w 139, 3) := by decide +kernel
theorem dX5_coupled_106 : decode cX5_coupled 106 = .ok (.aload_n 0, 1) := by decide +kernel
theorem dX5_coupled_107 : decode cX5_coupled 107 = .ok (.getfield 39, 3) := by decide +kernel
theorem dX5_coupled_110 : decode cX5_coupled 110 = .ok (.iload_n 1, 1) := by decide +kernel
theorem dX5_coupled_111 : decode cX5_coupled 111 = .ok (.daload, 1) := by decide +kernel
theorem dX5_coupled_112 : decode cX5_coupled 112 = .ok (.dmul, 1) := by decide +kernel
theorem dX5_coupled_113 : decode cX5_coupled 113 = .ok (.dload 4, 2) := by decide +kernel
theorem dX5_coupled_115 : decode cX5_coupled 115 = .ok (.dmul, 1) := by decide +kernel
theorem dX5_coupled_116 : decode cX5_coupled 116 = .ok (.dsub, 1) := by decide +kernel
theorem dX5_coupled_117 : decode cX5_coupled 117 = .ok (.invokestatic 106, 3) := by decide +kernel
theorem dX5_coupled_120 : decode cX5_coupled 120 = .ok (.dstore 11, 2) := by decide +kernel
theorem dX5_coupled_122 : decode cX5_coupled 122 = .ok (.iload 6, 2) := by decide +kernel
theorem dX5_coupled_124 : decode cX5_coupled 124 = .ok (.ifCond .eq 15, 3) := by decide +kernel
theorem dX5_coupled_127 : decode cX5_coupled 127 = .ok (.dload 9, 2) := by decide +kernel
theorem dX5_coupled_129 : decode cX5_coupled 129 = .ok (.dload 11, 2) := by decide +kernel
theorem dX5_coupled_131 : decode cX5_coupled 131 = .ok (.dadd, 1) := by decide +kernel
theorem dX5_coupled_132 : decode cX5_coupled 132 = .ok (.ldc2_w 58, 3) := by decide +kernel
theorem dX5_coupled_135 : decode cX5_coupled 135 = .ok (.ddiv, 1) := by decide +kernel
theorem dX5_coupled_136 : decode cX5_coupled 136 = .ok (.goto 12, 3) := by decide +kernel
theorem dX5_coupled_139 : decode cX5_coupled 139 = .ok (.dload 9, 2) := by decide +kernel
theorem dX5_coupled_141 : decode cX5_coupled 141 = .ok (.dload 11, 2) := by decide +kernel
theorem dX5_coupled_143 : decode cX5_coupled 143 = .ok (.dsub, 1) := by decide +kernel
theorem dX5_coupled_144 : decode cX5_coupled 144 = .ok (.ldc2_w 58, 3) := by decide +kernel
theorem dX5_coupled_147 : decode cX5_coupled 147 = .ok (.ddiv, 1) := by decide +kernel
theorem dX5_coupled_148 : decode cX5_coupled 148 = .ok (.dreturn, 1) := by decide +kernel
set_option maxRecDepth 20000 in
theorem ggX5_weight_X5_mass : GoodIn wsX5_weight wsX5_mass := goodIn_r _ [8, 9, 10, 11, 12, 13, 14, 15, 16, 17, 18, 19, 20, 21, 22, 23, 24, 25, 26, 27, 28, 29] (by decide +kernel) (by decide +kernel)
set_option maxRecDepth 20000 in
theorem gX5_weight_X5_mass : GoodIn wsX5_weight (wsV RX5 89 RX5 yX5_mass wsX5_mass) := goodIn_app (goodIn_of _ (by decide +kernel)) ggX5_weight_X5_mass
theorem dX5_weight_0 : decode cX5_weight 0 = .ok (.aload_n 0, 1) := by decide +kernel
theorem dX5_weight_1 : decode cX5_weight 1 = .ok (.iconst 0, 1) := by decide +kernel
theorem dX5_weight_2 : decode cX5_weight 2 = .ok (.putfield 55, 3) := by decide +kernel
theorem dX5_weight_5 : decode cX5_weight 5 = .ok (.dconst 0, 1) := by decide +kernel
theorem dX5_weight_6 : decode cX5_weight 6 = .ok (.dstore_n 1, 1) := by decide +kernel
theorem dX5_weight_7 : decode cX5_weight 7 = .ok (.iconst 0, 1) := by decide +kernel
theorem dX5_weight_8 : decode cX5_weight 8 = .ok (.istore_n 3, 1) := by decide +kernel
theorem dX5_weight_9 : decode cX5_weight 9 = .ok (.iload_n 3, 1) := by decide +kernel
theorem dX5_weight_10 : decode cX5_weight 10 = .ok (.aload_n 0, 1) := by decide +kernel
theorem dX5_weight_11 : decode cX5_weight 11 = .ok (.getfield 52, 3) := by decide +kernel
theorem dX5_weight_14 : decode cX5_weight 14 = .ok (.if_icmp .ge 41, 3) := by decide +kernel
theorem dX5_weight_17 : decode cX5_weight 17 = .ok (.iconst 0, 1) := by decide +kernel
theorem dX5_weight_18 : decode cX5_weight 18 = .ok (.istore 4, 2) := by decide +kernel
theorem dX5_weight_20 : decode cX5_weight 20 = .ok (.iload 4, 2) := by decide +kernel
theorem dX5_weight_22 : decode cX5_weight 22 = .ok (.aload_n 0, 1) := by decide +kernel
theorem dX5_weight_23 : decode cX5_weight 23 = .ok (.getfield 48, 3) := by decide +kernel
theorem dX5_weight_26 : decode cX5_weight 26 = .ok (.if_icmp .ge 23, 3) := by decide +kernel
theorem dX5_weight_29 : decode cX5_weight 29 = .ok (.dload_n 1, 1) := by decide +kernel
theorem dX5_weight_30 : decode cX5_weight 30 = .ok (.aload_n 0, 1) := by decide +kernel
theorem dX5_weight_31 : decode cX5_weight 31 = .ok (.bipush 6, 2) := by decide +kernel
theorem dX5_weight_33 : decode cX5_weight 33 = .ok (.iload_n 3, 1) := by decide +kernel
theorem dX5_weight_34 : decode cX5_weight 34 = .ok (.imul, 1) := by decide +kernel
theorem dX5_weight_35 : decode cX5_weight 35 = .ok (.iload 4, 2) := by decide +kernel
theorem dX5_weight_37 : decode cX5_weight 37 = .ok (.iadd, 1) := by decide +kernel
theorem dX5_weight_38 : decode cX5_weight 38 = .ok (.invokevirtual 89, 3) := by decide +kernel
theorem dX5_weight_41 : decode cX5_weight 41 = .ok (.dadd, 1) := by decide +kernel
theorem dX5_weight_42 : decode cX5_weight 42 = .ok (.dstore_n 1, 1) := by decide +kernel
theorem dX5_weight_43 : decode cX5_weight 43 = .ok (.iinc 4 1, 3) := by decide +kernel
theorem dX5_weight_46 : decode cX5_weight 46 = .ok (.goto (-26), 3) := by decide +kernel
theorem dX5_weight_49 : decode cX5_weight 49 = .ok (.iinc 3 1, 3) := by decide +kernel
theorem dX5_weight_52 : decode cX5_weight 52 = .ok (.goto (-43), 3) := by decide +kernel
theorem dX5_weight_55 : decode cX5_weight 55 = .ok (.dload_n 1, 1) := by decide +kernel
theorem dX5_weight_56 : decode cX5_weight 56 = .ok (.dreturn, 1) := by decide +kernel
set_option maxRecDepth 20000 in
theorem ggX5_want_X5_between : GoodIn wsX5_want wsX5_between := goodIn_r _ [9] (by decide +kernel) (by decide +kernel)
set_option maxRecDepth 20000 in
theorem gX5_want_X5_between : GoodIn wsX5_want (va_wsS RX5 68 yX5_between wsX5_between) := goodIn_app (goodIn_of _ (by decide +kernel)) ggX5_want_X5_between
theorem dX5_want_0 : decode cX5_want 0 = .ok (.aload_n 0, 1) := by decide +kernel
theorem dX5_want_1 : decode cX5_want 1 = .ok (.iload_n 1, 1) := by decide +kernel
theorem dX5_want_2 : decode cX5_want 2 = .ok (.ifCond .lt 8, 3) := by decide +kernel
theorem dX5_want_5 : decode cX5_want 5 = .ok (.iload_n 1, 1) := by decide +kernel
theorem dX5_want_6 : decode cX5_want 6 = .ok (.iconst 4, 1) := by decide +kernel
theorem dX5_want_7 : decode cX5_want 7 = .ok (.if_icmp .lt 7, 3) := by decide +kernel
theorem dX5_want_10 : decode cX5_want 10 = .ok (.iconst 1, 1) := by decide +kernel
theorem dX5_want_11 : decode cX5_want 11 = .ok (.goto 31, 3) := by decide +kernel
theorem dX5_want_14 : decode cX5_want 14 = .ok (.dload_n 2, 1) := by decide +kernel
theorem dX5_want_15 : decode cX5_want 15 = .ok (.dconst 0, 1) := by decide +kernel
theorem dX5_want_16 : decode cX5_want 16 = .ok (.ldc2_w 141, 3) := by decide +kernel
theorem dX5_want_19 : decode cX5_want 19 = .ok (.invokestatic 68, 3) := by decide +kernel
theorem dX5_want_22 : decode cX5_want 22 = .ok (.ifCond .ne 7, 3) := by decide +kernel
theorem dX5_want_25 : decode cX5_want 25 = .ok (.iconst 2, 1) := by decide +kernel
theorem dX5_want_26 : decode cX5_want 26 = .ok (.goto 16, 3) := by decide +kernel
theorem dX5_want_29 : decode cX5_want 29 = .ok (.aload_n 0, 1) := by decide +kernel
theorem dX5_want_30 : decode cX5_want 30 = .ok (.getfield 143, 3) := by decide +kernel
theorem dX5_want_33 : decode cX5_want 33 = .ok (.iconst 4, 1) := by decide +kernel
theorem dX5_want_34 : decode cX5_want 34 = .ok (.if_icmp .ne 7, 3) := by decide +kernel
theorem dX5_want_37 : decode cX5_want 37 = .ok (.iconst 3, 1) := by decide +kernel
theorem dX5_want_38 : decode cX5_want 38 = .ok (.goto 4, 3) := by decide +kernel
theorem dX5_want_41 : decode cX5_want 41 = .ok (.iconst 0, 1) := by decide +kernel
theorem dX5_want_42 : decode cX5_want 42 = .ok (.putfield 55, 3) := by decide +kernel
theorem dX5_want_45 : decode cX5_want 45 = .ok (.aload_n 0, 1) := by decide +kernel
theorem dX5_want_46 : decode cX5_want 46 = .ok (.getfield 55, 3) := by decide +kernel
theorem dX5_want_49 : decode cX5_want 49 = .ok (.ifCond .le 5, 3) := by decide +kernel
theorem dX5_want_52 : decode cX5_want 52 = .ok (.iconst 0, 1) := by decide +kernel
theorem dX5_want_53 : decode cX5_want 53 = .ok (.ireturn, 1) := by decide +kernel
theorem dX5_want_54 : decode cX5_want 54 = .ok (.aload_n 0, 1) := by decide +kernel
theorem dX5_want_55 : decode cX5_want 55 = .ok (.getfield 42, 3) := by decide +kernel
theorem dX5_want_58 : decode cX5_want 58 = .ok (.aload_n 0, 1) := by decide +kernel
theorem dX5_want_59 : decode cX5_want 59 = .ok (.getfield 143, 3) := by decide +kernel
theorem dX5_want_62 : decode cX5_want 62 = .ok (.iload_n 1, 1) := by decide +kernel
theorem dX5_want_63 : decode cX5_want 63 = .ok (.iastore, 1) := by decide +kernel
theorem dX5_want_64 : decode cX5_want 64 = .ok (.aload_n 0, 1) := by decide +kernel
theorem dX5_want_65 : decode cX5_want 65 = .ok (.getfield 45, 3) := by decide +kernel
theorem dX5_want_68 : decode cX5_want 68 = .ok (.aload_n 0, 1) := by decide +kernel
theorem dX5_want_69 : decode cX5_want 69 = .ok (.getfield 143, 3) := by decide +kernel
theorem dX5_want_72 : decode cX5_want 72 = .ok (.dload_n 2, 1) := by decide +kernel
theorem dX5_want_73 : decode cX5_want 73 = .ok (.dastore, 1) := by decide +kernel
theorem dX5_want_74 : decode cX5_want 74 = .ok (.aload_n 0, 1) := by decide +kernel
theorem dX5_want_75 : decode cX5_want 75 = .ok (.dup, 1) := by decide +kernel
theorem dX5_want_76 : decode cX5_want 76 = .ok (.getfield 143, 3) := by decide +kernel
theorem dX5_want_79 : decode cX5_want 79 = .ok (.iconst 1, 1) := by decide +kernel
theorem dX5_want_80 : decode cX5_want 80 = .ok (.iadd, 1) := by decide +kernel
theorem dX5_want_81 : decode cX5_want 81 = .ok (.putfield 143, 3) := by decide +kernel
theorem dX5_want_84 : decode cX5_want 84 = .ok (.aload_n 0, 1) := by decide +kernel
theorem dX5_want_85 : decode cX5_want 85 = .ok (.getfield 143, 3) := by decide +kernel
theorem dX5_want_88 : decode cX5_want 88 = .ok (.ireturn, 1) := by decide +kernel
set_option maxRecDepth 20000 in
theorem ggX5_thin_X5_between : GoodIn wsX5_thin wsX5_between := goodIn_r _ [12] (by decide +kernel) (by decide +kernel)
set_option maxRecDepth 20000 in
theorem gX5_thin_X5_between : GoodIn wsX5_thin (va_wsS RX5 68 yX5_between wsX5_between) := goodIn_app (goodIn_of _ (by decide +kernel)) ggX5_thin_X5_between
set_option maxRecDepth 20000 in
theorem ggX5_thin_X5_needed : GoodIn wsX5_thin wsX5_needed := goodIn_r _ [16, 17, 18, 79, 80, 81, 82, 83, 84, 85, 86, 87, 88, 89, 90, 91, 92, 93, 94, 95, 96, 97] (by decide +kernel) (by decide +kernel)
set_option maxRecDepth 20000 in
theorem gX5_thin_X5_needed : GoodIn wsX5_thin (wsV RX5 146 RX5 yX5_needed wsX5_needed) := goodIn_app (goodIn_of _ (by decide +kernel)) ggX5_thin_X5_needed
set_option maxRecDepth 20000 in
theorem ggX5_thin_X5_makeAll : GoodIn wsX5_thin wsX5_makeAll := goodIn_r _ [22, 5, 4, 23, 24, 25, 11, 26, 6, 7, 27, 28, 8, 29, 30, 31, 32, 33, 34, 35, 36, 37, 38, 39, 40, 41, 42, 43, 44, 45, 46, 2, 47, 48, 49, 50, 51, 52, 53, 54, 55, 56, 57, 58, 59, 60, 61, 62, 63, 64, 65, 66, 67, 68, 69, 70, 71, 72, 73, 79, 80, 81, 82, 83, 84, 85, 86, 87, 88, 89, 90, 91, 92, 93, 94, 95, 96, 97] (by decide +kernel) (by decide +kernel)
set_option maxRecDepth 20000 in
theorem gX5_thin_X5_makeAll : GoodIn wsX5_thin (wsV RX5 122 RX5 yX5_makeAll wsX5_makeAll) := goodIn_app (goodIn_of _ (by decide +kernel)) ggX5_thin_X5_makeAll
set_option maxRecDepth 20000 in
theorem ggX5_thin_X5_total : GoodIn wsX5_thin wsX5_total := goodIn_r _ [77, 17, 47, 18, 78, 79, 80, 81, 82, 83, 84, 85, 86, 87, 88, 89, 90, 91, 92, 93, 94, 95, 96, 97] (by decide +kernel) (by decide +kernel)
set_option maxRecDepth 20000 in
theorem gX5_thin_X5_total : GoodIn wsX5_thin (wsV RX5 150 RX5 yX5_total wsX5_total) := goodIn_app (goodIn_of _ (by decide +kernel)) ggX5_thin_X5_total
set_option maxRecDepth 20000 in
theorem ggX5_thin_X5_isWood : GoodIn wsX5_thin wsX5_isWood := goodIn_r _ [37, 8, 79, 80, 81, 82, 83, 84, 85, 86, 87, 88, 89, 90, 91, 92, 93, 94, 95, 96, 97] (by decide +kernel) (by decide +kernel)
set_option maxRecDepth 20000 in
theorem gX5_thin_X5_isWood : GoodIn wsX5_thin (wsV RX5 79 RX5 yX5_isWood wsX5_isWood) := goodIn_app (goodIn_of _ (by decide +kernel)) ggX5_thin_X5_isWood
theorem dX5_thin_0 : decode cX5_thin 0 = .ok (.aload_n 0, 1) := by decide +kernel
theorem dX5_thin_1 : decode cX5_thin 1 = .ok (.dload_n 1, 1) := by decide +kernel
theorem dX5_thin_2 : decode cX5_thin 2 = .ok (.ldc2_w 64, 3) := by decide +kernel
theorem dX5_thin_5 : decode cX5_thin 5 = .ok (.dconst 1, 1) := by decide +kernel
theorem dX5_thin_6 : decode cX5_thin 6 = .ok (.invokestatic 68, 3) := by decide +kernel
theorem dX5_thin_9 : decode cX5_thin 9 = .ok (.ifCond .eq 20, 3) := by decide +kernel
theorem dX5_thin_12 : decode cX5_thin 12 = .ok (.dload_n 3, 1) := by decide +kernel
theorem dX5_thin_13 : decode cX5_thin 13 = .ok (.ldc2_w 64, 3) := by decide +kernel
theorem dX5_thin_16 : decode cX5_thin 16 = .ok (.ldc2_w 66, 3) := by decide +kernel
theorem dX5_thin_19 : decode cX5_thin 19 = .ok (.invokestatic 68, 3) := by decide +kernel
theorem dX5_thin_22 : decode cX5_thin 22 = .ok (.ifCond .eq 7, 3) := by decide +kernel
theorem dX5_thin_25 : decode cX5_thin 25 = .ok (.iconst 0, 1) := by decide +kernel
theorem dX5_thin_26 : decode cX5_thin 26 = .ok (.goto 4, 3) := by decide +kernel
theorem dX5_thin_29 : decode cX5_thin 29 = .ok (.iconst 1, 1) := by decide +kernel
theorem dX5_thin_30 : decode cX5_thin 30 = .ok (.putfield 55, 3) := by decide +kernel
theorem dX5_thin_33 : decode cX5_thin 33 = .ok (.aload_n 0, 1) := by decide +kernel
theorem dX5_thin_34 : decode cX5_thin 34 = .ok (.getfield 55, 3) := by decide +kernel
theorem dX5_thin_37 : decode cX5_thin 37 = .ok (.ifCond .le 5, 3) := by decide +kernel
theorem dX5_thin_40 : decode cX5_thin 40 = .ok (.iconst 0, 1) := by decide +kernel
theorem dX5_thin_41 : decode cX5_thin 41 = .ok (.ireturn, 1) := by decide +kernel
theorem dX5_thin_42 : decode cX5_thin 42 = .ok (.aload_n 0, 1) := by decide +kernel
theorem dX5_thin_43 : decode cX5_thin 43 = .ok (.invokevirtual 146, 3) := by decide +kernel
theorem dX5_thin_46 : decode cX5_thin 46 = .ok (.istore 5, 2) := by decide +kernel
theorem dX5_thin_48 : decode cX5_thin 48 = .ok (.aload_n 0, 1) := by decide +kernel
theorem dX5_thin_49 : decode cX5_thin 49 = .ok (.getfield 72, 3) := by decide +kernel
theorem dX5_thin_52 : decode cX5_thin 52 = .ok (.istore 6, 2) := by decide +kernel
theorem dX5_thin_54 : decode cX5_thin 54 = .ok (.aload_n 0, 1) := by decide +kernel
theorem dX5_thin_55 : decode cX5_thin 55 = .ok (.getfield 116, 3) := by decide +kernel
theorem dX5_thin_58 : decode cX5_thin 58 = .ok (.istore 7, 2) := by decide +kernel
theorem dX5_thin_60 : decode cX5_thin 60 = .ok (.iload 5, 2) := by decide +kernel
theorem dX5_thin_62 : decode cX5_thin 62 = .ok (.ifCond .le 9, 3) := by decide +kernel
theorem dX5_thin_65 : decode cX5_thin 65 = .ok (.aload_n 0, 1) := by decide +kernel
theorem dX5_thin_66 : decode cX5_thin 66 = .ok (.iload 5, 2) := by decide +kernel
theorem dX5_thin_68 : decode cX5_thin 68 = .ok (.invokevirtual 122, 3) := by decide +kernel
theorem dX5_thin_71 : decode cX5_thin 71 = .ok (.iload 5, 2) := by decide +kernel
theorem dX5_thin_73 : decode cX5_thin 73 = .ok (.ifCond .eq 12, 3) := by decide +kernel
theorem dX5_thin_76 : decode cX5_thin 76 = .ok (.aload_n 0, 1) := by decide +kernel
theorem dX5_thin_77 : decode cX5_thin 77 = .ok (.getfield 116, 3) := by decide +kernel
theorem dX5_thin_80 : decode cX5_thin 80 = .ok (.iload 5, 2) := by decide +kernel
theorem dX5_thin_82 : decode cX5_thin 82 = .ok (.if_icmp .ge 32, 3) := by decide +kernel
theorem dX5_thin_85 : decode cX5_thin 85 = .ok (.aload_n 0, 1) := by decide +kernel
theorem dX5_thin_86 : decode cX5_thin 86 = .ok (.iconst 2, 1) := by decide +kernel
theorem dX5_thin_87 : decode cX5_thin 87 = .ok (.putfield 55, 3) := by decide +kernel
theorem dX5_thin_90 : decode cX5_thin 90 = .ok (.iload 5, 2) := by decide +kernel
theorem dX5_thin_92 : decode cX5_thin 92 = .ok (.ifCond .le 14, 3) := by decide +kernel
theorem dX5_thin_95 : decode cX5_thin 95 = .ok (.iload 6, 2) := by decide +kernel
theorem dX5_thin_97 : decode cX5_thin 97 = .ok (.ifCond .eq 9, 3) := by decide +kernel
theorem dX5_thin_100 : decode cX5_thin 100 = .ok (.aload_n 0, 1) := by decide +kernel
theorem dX5_thin_101 : decode cX5_thin 101 = .ok (.iload 7, 2) := by decide +kernel
theorem dX5_thin_103 : decode cX5_thin 103 = .ok (.invokevirtual 122, 3) := by decide +kernel
theorem dX5_thin_106 : decode cX5_thin 106 = .ok (.aload_n 0, 1) := by decide +kernel
theorem dX5_thin_107 : decode cX5_thin 107 = .ok (.iload 6, 2) := by decide +kernel
theorem dX5_thin_109 : decode cX5_thin 109 = .ok (.putfield 72, 3) := by decide +kernel
theorem dX5_thin_112 : decode cX5_thin 112 = .ok (.iconst 0, 1) := by decide +kernel
theorem dX5_thin_113 : decode cX5_thin 113 = .ok (.ireturn, 1) := by decide +kernel
theorem dX5_thin_114 : decode cX5_thin 114 = .ok (.aload_n 0, 1) := by decide +kernel
theorem dX5_thin_115 : decode cX5_thin 115 = .ok (.invokevirtual 150, 3) := by decide +kernel
theorem dX5_thin_118 : decode cX5_thin 118 = .ok (.dstore 8, 2) := by decide +kernel
theorem dX5_thin_120 : decode cX5_thin 120 = .ok (.iconst 0, 1) := by decide +kernel
theorem dX5_thin_121 : decode cX5_thin 121 = .ok (.istore 10, 2) := by decide +kernel
theorem dX5_thin_123 : decode cX5_thin 123 = .ok (.iconst 0, 1) := by decide +kernel
theorem dX5_thin_124 : decode cX5_thin 124 = .ok (.istore 11, 2) := by decide +kernel
theorem dX5_thin_126 : decode cX5_thin 126 = .ok (.iload 11, 2) := by decide +kernel
theorem dX5_thin_128 : decode cX5_thin 128 = .ok (.aload_n 0, 1) := by decide +kernel
theorem dX5_thin_129 : decode cX5_thin 129 = .ok (.getfield 52, 3) := by decide +kernel
theorem dX5_thin_132 : decode cX5_thin 132 = .ok (.if_icmp .ge 163, 3) := by decide +kernel
theorem dX5_thin_135 : decode cX5_thin 135 = .ok (.iconst 0, 1) := by decide +kernel
theorem dX5_thin_136 : decode cX5_thin 136 = .ok (.istore 12, 2) := by decide +kernel
theorem dX5_thin_138 : decode cX5_thin 138 = .ok (.iload 12, 2) := by decide +kernel
theorem dX5_thin_140 : decode cX5_thin 140 = .ok (.aload_n 0, 1) := by decide +kernel
theorem dX5_thin_141 : decode cX5_thin 141 = .ok (.getfield 48, 3) := by decide +kernel
theorem dX5_thin_144 : decode cX5_thin 144 = .ok (.if_icmp .ge 145, 3) := by decide +kernel
theorem dX5_thin_147 : decode cX5_thin 147 = .ok (.bipush 6, 2) := by decide +kernel
theorem dX5_thin_149 : decode cX5_thin 149 = .ok (.iload 11, 2) := by decide +kernel
theorem dX5_thin_151 : decode cX5_thin 151 = .ok (.imul, 1) := by decide +kernel
theorem dX5_thin_152 : decode cX5_thin 152 = .ok (.iload 12, 2) := by decide +kernel
theorem dX5_thin_154 : decode cX5_thin 154 = .ok (.iadd, 1) := by decide +kernel
theorem dX5_thin_155 : decode cX5_thin 155 = .ok (.istore 13, 2) := by decide +kernel
theorem dX5_thin_157 : decode cX5_thin 157 = .ok (.aload_n 0, 1) := by decide +kernel
theorem dX5_thin_158 : decode cX5_thin 158 = .ok (.getfield 7, 3) := by decide +kernel
theorem dX5_thin_161 : decode cX5_thin 161 = .ok (.iload 13, 2) := by decide +kernel
theorem dX5_thin_163 : decode cX5_thin 163 = .ok (.daload, 1) := by decide +kernel
theorem dX5_thin_164 : decode cX5_thin 164 = .ok (.dstore 14, 2) := by decide +kernel
theorem dX5_thin_166 : decode cX5_thin 166 = .ok (.aload_n 0, 1) := by decide +kernel
theorem dX5_thin_167 : decode cX5_thin 167 = .ok (.iload 13, 2) := by decide +kernel
theorem dX5_thin_169 : decode cX5_thin 169 = .ok (.invokevirtual 79, 3) := by decide +kernel
theorem dX5_thin_172 : decode cX5_thin 172 = .ok (.ifCond .eq 111, 3) := by decide +kernel
theorem dX5_thin_175 : decode cX5_thin 175 = .ok (.dload 14, 2) := by decide +kernel
theorem dX5_thin_177 : decode cX5_thin 177 = .ok (.dload_n 1, 1) := by decide +kernel
theorem dX5_thin_178 : decode cX5_thin 178 = .ok (.dsub, 1) := by decide +kernel
theorem dX5_thin_179 : decode cX5_thin 179 = .ok (.dload_n 3, 1) := by decide +kernel
theorem dX5_thin_180 : decode cX5_thin 180 = .ok (.dcmp .l, 1) := by decide +kernel
theorem dX5_thin_181 : decode cX5_thin 181 = .ok (.ifCond .lt 102, 3) := by decide +kernel
theorem dX5_thin_184 : decode cX5_thin 184 = .ok (.aload_n 0, 1) := by decide +kernel
theorem dX5_thin_185 : decode cX5_thin 185 = .ok (.getfield 7, 3) := by decide +kernel
theorem dX5_thin_188 : decode cX5_thin 188 = .ok (.iload 13, 2) := by decide +kernel
theorem dX5_thin_190 : decode cX5_thin 190 = .ok (.dload 14, 2) := by decide +kernel
theorem dX5_thin_192 : decode cX5_thin 192 = .ok (.dload_n 1, 1) := by decide +kernel
theorem dX5_thin_193 : decode cX5_thin 193 = .ok (.dsub, 1) := by decide +kernel
theorem dX5_thin_194 : decode cX5_thin 194 = .ok (.dastore, 1) := by decide +kernel
theorem dX5_thin_195 : decode cX5_thin 195 = .ok (.aload_n 0, 1) := by decide +kernel
theorem dX5_thin_196 : decode cX5_thin 196 = .ok (.iload 5, 2) := by decide +kernel
theorem dX5_thin_198 : decode cX5_thin 198 = .ok (.invokevirtual 122, 3) := by decide +kernel
theorem dX5_thin_201 : decode cX5_thin 201 = .ok (.aload_n 0, 1) := by decide +kernel
theorem dX5_thin_202 : decode cX5_thin 202 = .ok (.getfield 116, 3) := by decide +kernel
theorem dX5_thin_205 : decode cX5_thin 205 = .ok (.iload 5, 2) := by decide +kernel
theorem dX5_thin_207 : decode cX5_thin 207 = .ok (.if_icmp .ne 17, 3) := by decide +kernel
theorem dX5_thin_210 : decode cX5_thin 210 = .ok (.aload_n 0, 1) := by decide +kernel
theorem dX5_thin_211 : decode cX5_thin 211 = .ok (.invokevirtual 150, 3) := by decide +kernel
theorem dX5_thin_214 : decode cX5_thin 214 = .ok (.dload 8, 2) := by decide +kernel
theorem dX5_thin_216 : decode cX5_thin 216 = .ok (.dcmp .g, 1) := by decide +kernel
theorem dX5_thin_217 : decode cX5_thin 217 = .ok (.ifCond .ge 7, 3) := by decide +kernel
theorem dX5_thin_220 : decode cX5_thin 220 = .ok (.iconst 1, 1) := by decide +kernel
theorem dX5_thin_221 : decode cX5_thin 221 = .ok (.goto 4, 3) := by decide +kernel
theorem dX5_thin_224 : decode cX5_thin 224 = .ok (.iconst 0, 1) := by decide +kernel
theorem dX5_thin_225 : decode cX5_thin 225 = .ok (.istore 16, 2) := by decide +kernel
theorem dX5_thin_227 : decode cX5_thin 227 = .ok (.iload 16, 2) := by decide +kernel
theorem dX5_thin_229 : decode cX5_thin 229 = .ok (.ifCond .eq 10, 3) := by decide +kernel
theorem dX5_thin_232 : decode cX5_thin 232 = .ok (.aload_n 0, 1) := by decide +kernel
theorem dX5_thin_233 : decode cX5_thin 233 = .ok (.invokevirtual 150, 3) := by decide +kernel
theorem dX5_thin_236 : decode cX5_thin 236 = .ok (.goto 5, 3) := by decide +kernel
theorem dX5_thin_239 : decode cX5_thin 239 = .ok (.dload 8, 2) := by decide +kernel
theorem dX5_thin_241 : decode cX5_thin 241 = .ok (.dstore 8, 2) := by decide +kernel
theorem dX5_thin_243 : decode cX5_thin 243 = .ok (.iload 16, 2) := by decide +kernel
theorem dX5_thin_245 : decode cX5_thin 245 = .ok (.ifCond .eq 10, 3) := by decide +kernel
theorem dX5_thin_248 : decode cX5_thin 248 = .ok (.iload 10, 2) := by decide +kernel
theorem dX5_thin_250 : decode cX5_thin 250 = .ok (.iconst 1, 1) := by decide +kernel
theorem dX5_thin_251 : decode cX5_thin 251 = .ok (.iadd, 1) := by decide +kernel
theorem dX5_thin_252 : decode cX5_thin 252 = .ok (.goto 5, 3) := by decide +kernel
theorem dX5_thin_255 : decode cX5_thin 255 = .ok (.iload 10, 2) := by decide +kernel
theorem dX5_thin_257 : decode cX5_thin 257 = .ok (.istore 10, 2) := by decide +kernel
theorem dX5_thin_259 : decode cX5_thin 259 = .ok (.aload_n 0, 1) := by decide +kernel
theorem dX5_thin_260 : decode cX5_thin 260 = .ok (.getfield 7, 3) := by decide +kernel
theorem dX5_thin_263 : decode cX5_thin 263 = .ok (.iload 13, 2) := by decide +kernel
theorem dX5_thin_265 : decode cX5_thin 265 = .ok (.iload 16, 2) := by decide +kernel
theorem dX5_thin_267 : decode cX5_thin 267 = .ok (.ifCond .eq 13, 3) := by decide +kernel
theorem dX5_thin_270 : decode cX5_thin 270 = .ok (.aload_n 0, 1) := by decide +kernel
theorem dX5_thin_271 : decode cX5_thin 271 = .ok (.getfield 7, 3) := by decide +kernel
theorem dX5_thin_274 : decode cX5_thin 274 = .ok (.iload 13, 2) := by decide +kernel
theorem dX5_thin_276 : decode cX5_thin 276 = .ok (.daload, 1) := by decide +kernel
theorem dX5_thin_277 : decode cX5_thin 277 = .ok (.goto 5, 3) := by decide +kernel
theorem dX5_thin_280 : decode cX5_thin 280 = .ok (.dload 14, 2) := by decide +kernel
theorem dX5_thin_282 : decode cX5_thin 282 = .ok (.dastore, 1) := by decide +kernel
theorem dX5_thin_283 : decode cX5_thin 283 = .ok (.iinc 12 1, 3) := by decide +kernel
theorem dX5_thin_286 : decode cX5_thin 286 = .ok (.goto (-148), 3) := by decide +kernel
theorem dX5_thin_289 : decode cX5_thin 289 = .ok (.iinc 11 1, 3) := by decide +kernel
theorem dX5_thin_292 : decode cX5_thin 292 = .ok (.goto (-166), 3) := by decide +kernel
theorem dX5_thin_295 : decode cX5_thin 295 = .ok (.aload_n 0, 1) := by decide +kernel
theorem dX5_thin_296 : decode cX5_thin 296 = .ok (.iload 5, 2) := by decide +kernel
theorem dX5_thin_298 : decode cX5_thin 298 = .ok (.invokevirtual 122, 3) := by decide +kernel
theorem dX5_thin_301 : decode cX5_thin 301 = .ok (.iload 10, 2) := by decide +kernel
theorem dX5_thin_303 : decode cX5_thin 303 = .ok (.ireturn, 1) := by decide +kernel
set_option maxRecDepth 20000 in
theorem ggX5_sum_X5_needed : GoodIn wsX5_sum wsX5_needed := goodIn_r _ [9, 1, 10, 17, 18, 19, 20, 21, 22, 23, 24, 25, 26, 27, 28, 29, 30, 31, 32, 33, 34, 35] (by decide +kernel) (by decide +kernel)
set_option maxRecDepth 20000 in
theorem gX5_sum_X5_needed : GoodIn wsX5_sum (wsV RX5 146 RX5 yX5_needed wsX5_needed) := goodIn_app (goodIn_of _ (by decide +kernel)) ggX5_sum_X5_needed
set_option maxRecDepth 20000 in
theorem ggX5_sum_X5_total : GoodIn wsX5_sum wsX5_total := goodIn_r _ [14, 1, 15, 10, 16, 17, 18, 19, 20, 21, 22, 23, 24, 25, 26, 27, 28, 29, 30, 31, 32, 33, 34, 35] (by decide +kernel) (by decide +kernel)
set_option maxRecDepth 20000 in
theorem gX5_sum_X5_total : GoodIn wsX5_sum (wsV RX5 150 RX5 yX5_total wsX5_total) := goodIn_app (goodIn_of _ (by decide +kernel)) ggX5_sum_X5_total
theorem dX5_sum_0 : decode cX5_sum 0 = .ok (.aload_n 0, 1) := by decide +kernel
theorem dX5_sum_1 : decode cX5_sum 1 = .ok (.aload_n 0, 1) := by decide +kernel
theorem dX5_sum_2 : decode cX5_sum 2 = .ok (.getfield 143, 3) := by decide +kernel
theorem dX5_sum_5 : decode cX5_sum 5 = .ok (.ifCond .le 25, 3) := by decide +kernel
theorem dX5_sum_8 : decode cX5_sum 8 = .ok (.aload_n 0, 1) := by decide +kernel
theorem dX5_sum_9 : decode cX5_sum 9 = .ok (.getfield 72, 3) := by decide +kernel
theorem dX5_sum_12 : decode cX5_sum 12 = .ok (.ifCond .eq 18, 3) := by decide +kernel
theorem dX5_sum_15 : decode cX5_sum 15 = .ok (.aload_n 0, 1) := by decide +kernel
theorem dX5_sum_16 : decode cX5_sum 16 = .ok (.getfield 116, 3) := by decide +kernel
theorem dX5_sum_19 : decode cX5_sum 19 = .ok (.aload_n 0, 1) := by decide +kernel
theorem dX5_sum_20 : decode cX5_sum 20 = .ok (.invokevirtual 146, 3) := by decide +kernel
theorem dX5_sum_23 : decode cX5_sum 23 = .ok (.if_icmp .lt 7, 3) := by decide +kernel
theorem dX5_sum_26 : decode cX5_sum 26 = .ok (.iconst 0, 1) := by decide +kernel
theorem dX5_sum_27 : decode cX5_sum 27 = .ok (.goto 4, 3) := by decide +kernel
theorem dX5_sum_30 : decode cX5_sum 30 = .ok (.iconst 1, 1) := by decide +kernel
theorem dX5_sum_31 : decode cX5_sum 31 = .ok (.putfield 55, 3) := by decide +kernel
theorem dX5_sum_34 : decode cX5_sum 34 = .ok (.aload_n 0, 1) := by decide +kernel
theorem dX5_sum_35 : decode cX5_sum 35 = .ok (.getfield 55, 3) := by decide +kernel
theorem dX5_sum_38 : decode cX5_sum 38 = .ok (.ifCond .le 7, 3) := by decide +kernel
theorem dX5_sum_41 : decode cX5_sum 41 = .ok (.dconst 0, 1) := by decide +kernel
theorem dX5_sum_42 : decode cX5_sum 42 = .ok (.goto 7, 3) := by decide +kernel
theorem dX5_sum_45 : decode cX5_sum 45 = .ok (.aload_n 0, 1) := by decide +kernel
theorem dX5_sum_46 : decode cX5_sum 46 = .ok (.invokevirtual 150, 3) := by decide +kernel
theorem dX5_sum_49 : decode cX5_sum 49 = .ok (.dreturn, 1) := by decide +kernel
set_option maxRecDepth 20000 in
theorem ggX5_tap_X5_noMode : GoodIn wsX5_tap wsX5_noMode := goodIn_r _ [11] (by decide +kernel) (by decide +kernel)
set_option maxRecDepth 20000 in
theorem gX5_tap_X5_noMode : GoodIn wsX5_tap (wsV RX5 126 RX5 yX5_noMode wsX5_noMode) := goodIn_app (goodIn_of _ (by decide +kernel)) ggX5_tap_X5_noMode
set_option maxRecDepth 20000 in
theorem ggX5_tap_X5_noCell : GoodIn wsX5_tap wsX5_noCell := goodIn_r _ [15, 16, 17, 21, 22, 23, 24, 25, 26, 27, 28, 29, 30, 31, 32, 33, 34, 35, 36, 37, 38, 39] (by decide +kernel) (by decide +kernel)
set_option maxRecDepth 20000 in
theorem gX5_tap_X5_noCell : GoodIn wsX5_tap (wsV RX5 60 RX5 yX5_noCell wsX5_noCell) := goodIn_app (goodIn_of _ (by decide +kernel)) ggX5_tap_X5_noCell
set_option maxRecDepth 20000 in
theorem ggX5_tap_X5_between : GoodIn wsX5_tap wsX5_between := goodIn_r _ [20] (by decide +kernel) (by decide +kernel)
set_option maxRecDepth 20000 in
theorem gX5_tap_X5_between : GoodIn wsX5_tap (va_wsS RX5 68 yX5_between wsX5_between) := goodIn_app (goodIn_of _ (by decide +kernel)) ggX5_tap_X5_between
theorem dX5_tap_0 : decode cX5_tap 0 = .ok (.aload_n 0, 1) := by decide +kernel
theorem dX5_tap_1 : decode cX5_tap 1 = .ok (.aload_n 0, 1) := by decide +kernel
theorem dX5_tap_2 : decode cX5_tap 2 = .ok (.iload_n 1, 1) := by decide +kernel
theorem dX5_tap_3 : decode cX5_tap 3 = .ok (.invokevirtual 126, 3) := by decide +kernel
theorem dX5_tap_6 : decode cX5_tap 6 = .ok (.ifCond .ne 12, 3) := by decide +kernel
theorem dX5_tap_9 : decode cX5_tap 9 = .ok (.aload_n 0, 1) := by decide +kernel
theorem dX5_tap_10 : decode cX5_tap 10 = .ok (.iload_n 2, 1) := by decide +kernel
theorem dX5_tap_11 : decode cX5_tap 11 = .ok (.iload_n 3, 1) := by decide +kernel
theorem dX5_tap_12 : decode cX5_tap 12 = .ok (.invokevirtual 60, 3) := by decide +kernel
theorem dX5_tap_15 : decode cX5_tap 15 = .ok (.ifCond .eq 7, 3) := by decide +kernel
theorem dX5_tap_18 : decode cX5_tap 18 = .ok (.iconst 1, 1) := by decide +kernel
theorem dX5_tap_19 : decode cX5_tap 19 = .ok (.goto 39, 3) := by decide +kernel
theorem dX5_tap_22 : decode cX5_tap 22 = .ok (.dload 4, 2) := by decide +kernel
theorem dX5_tap_24 : decode cX5_tap 24 = .ok (.dconst 0, 1) := by decide +kernel
theorem dX5_tap_25 : decode cX5_tap 25 = .ok (.ldc2_w 141, 3) := by decide +kernel
theorem dX5_tap_28 : decode cX5_tap 28 = .ok (.invokestatic 68, 3) := by decide +kernel
theorem dX5_tap_31 : decode cX5_tap 31 = .ok (.ifCond .ne 7, 3) := by decide +kernel
theorem dX5_tap_34 : decode cX5_tap 34 = .ok (.iconst 2, 1) := by decide +kernel
theorem dX5_tap_35 : decode cX5_tap 35 = .ok (.goto 23, 3) := by decide +kernel
theorem dX5_tap_38 : decode cX5_tap 38 = .ok (.aload_n 0, 1) := by decide +kernel
theorem dX5_tap_39 : decode cX5_tap 39 = .ok (.getfield 72, 3) := by decide +kernel
theorem dX5_tap_42 : decode cX5_tap 42 = .ok (.ifCond .eq 15, 3) := by decide +kernel
theorem dX5_tap_45 : decode cX5_tap 45 = .ok (.iload_n 1, 1) := by decide +kernel
theorem dX5_tap_46 : decode cX5_tap 46 = .ok (.aload_n 0, 1) := by decide +kernel
theorem dX5_tap_47 : decode cX5_tap 47 = .ok (.getfield 116, 3) := by decide +kernel
theorem dX5_tap_50 : decode cX5_tap 50 = .ok (.if_icmp .ge 7, 3) := by decide +kernel
theorem dX5_tap_53 : decode cX5_tap 53 = .ok (.iconst 0, 1) := by decide +kernel
theorem dX5_tap_54 : decode cX5_tap 54 = .ok (.goto 4, 3) := by decide +kernel
theorem dX5_tap_57 : decode cX5_tap 57 = .ok (.iconst 3, 1) := by decide +kernel
theorem dX5_tap_58 : decode cX5_tap 58 = .ok (.putfield 55, 3) := by decide +kernel
theorem dX5_tap_61 : decode cX5_tap 61 = .ok (.aload_n 0, 1) := by decide +kernel
theorem dX5_tap_62 : decode cX5_tap 62 = .ok (.getfield 55, 3) := by decide +kernel
theorem dX5_tap_65 : decode cX5_tap 65 = .ok (.ifCond .le 5, 3) := by decide +kernel
theorem dX5_tap_68 : decode cX5_tap 68 = .ok (.dconst 0, 1) := by decide +kernel
theorem dX5_tap_69 : decode cX5_tap 69 = .ok (.dreturn, 1) := by decide +kernel
theorem dX5_tap_70 : decode cX5_tap 70 = .ok (.aload_n 0, 1) := by decide +kernel
theorem dX5_tap_71 : decode cX5_tap 71 = .ok (.getfield 36, 3) := by decide +kernel
theorem dX5_tap_74 : decode cX5_tap 74 = .ok (.bipush 36, 2) := by decide +kernel
theorem dX5_tap_76 : decode cX5_tap 76 = .ok (.iload_n 1, 1) := by decide +kernel
theorem dX5_tap_77 : decode cX5_tap 77 = .ok (.imul, 1) := by decide +kernel
theorem dX5_tap_78 : decode cX5_tap 78 = .ok (.bipush 6, 2) := by decide +kernel
theorem dX5_tap_80 : decode cX5_tap 80 = .ok (.iload_n 3, 1) := by decide +kernel
theorem dX5_tap_81 : decode cX5_tap 81 = .ok (.imul, 1) := by decide +kernel
theorem dX5_tap_82 : decode cX5_tap 82 = .ok (.iadd, 1) := by decide +kernel
theorem dX5_tap_83 : decode cX5_tap 83 = .ok (.iload_n 2, 1) := by decide +kernel
theorem dX5_tap_84 : decode cX5_tap 84 = .ok (.iadd, 1) := by decide +kernel
theorem dX5_tap_85 : decode cX5_tap 85 = .ok (.daload, 1) := by decide +kernel
theorem dX5_tap_86 : decode cX5_tap 86 = .ok (.dstore 6, 2) := by decide +kernel
theorem dX5_tap_88 : decode cX5_tap 88 = .ok (.dload 6, 2) := by decide +kernel
theorem dX5_tap_90 : decode cX5_tap 90 = .ok (.dload 6, 2) := by decide +kernel
theorem dX5_tap_92 : decode cX5_tap 92 = .ok (.dmul, 1) := by decide +kernel
theorem dX5_tap_93 : decode cX5_tap 93 = .ok (.dconst 1, 1) := by decide +kernel
theorem dX5_tap_94 : decode cX5_tap 94 = .ok (.dload 4, 2) := by decide +kernel
theorem dX5_tap_96 : decode cX5_tap 96 = .ok (.aload_n 0, 1) := by decide +kernel
theorem dX5_tap_97 : decode cX5_tap 97 = .ok (.getfield 39, 3) := by decide +kernel
theorem dX5_tap_100 : decode cX5_tap 100 = .ok (.iload_n 1, 1) := by decide +kernel
theorem dX5_tap_101 : decode cX5_tap 101 = .ok (.daload, 1) := by decide +kernel
theorem dX5_tap_102 : decode cX5_tap 102 = .ok (.dsub, 1) := by decide +kernel
theorem dX5_tap_103 : decode cX5_tap 103 = .ok (.dload 4, 2) := by decide +kernel
theorem dX5_tap_105 : decode cX5_tap 105 = .ok (.aload_n 0, 1) := by decide +kernel
theorem dX5_tap_106 : decode cX5_tap 106 = .ok (.getfield 39, 3) := by decide +kernel
theorem dX5_tap_109 : decode cX5_tap 109 = .ok (.iload_n 1, 1) := by decide +kernel
theorem dX5_tap_110 : decode cX5_tap 110 = .ok (.daload, 1) := by decide +kernel
theorem dX5_tap_111 : decode cX5_tap 111 = .ok (.dsub, 1) := by decide +kernel
theorem dX5_tap_112 : decode cX5_tap 112 = .ok (.dmul, 1) := by decide +kernel
theorem dX5_tap_113 : decode cX5_tap 113 = .ok (.dadd, 1) := by decide +kernel
theorem dX5_tap_114 : decode cX5_tap 114 = .ok (.ddiv, 1) := by decide +kernel
theorem dX5_tap_115 : decode cX5_tap 115 = .ok (.dreturn, 1) := by decide +kernel
end
section
/-! 03: the numbers. A double is spoken of by its datum (FP.Core.val64): a NaN by one datum, whatever its bits. -/
abbrev ZD : Type := FP.Core.Datum
abbrev zv (x : UInt64) : ZD := FP.Core.val64 x
def zA (x y : ZD) : ZD := FP.Core.round FP.Core.b64 (FP.Core.exactSum x y)
def zS (x y : ZD) : ZD := FP.Core.round FP.Core.b64 (FP.Core.exactSum x (FP.Core.negate y))
def zM (x y : ZD) : ZD := FP.Core.round FP.Core.b64 (FP.Core.exactProduct x y)
def zQ (x y : ZD) : ZD := FP.Core.quotient FP.Core.b64 x y
def zN (x : ZD) : ZD := FP.Core.negate x
def zo (x y : ZD) : Option Ordering := FP.Core.order x y
def zlt (x y : ZD) : Bool := decide (zo x y = some .lt)
def zgt (x y : ZD) : Bool := decide (zo x y = some .gt)
def zeq (x y : ZD) : Bool := decide (zo x y = some .eq)
def zle (x y : ZD) : Bool := decide (zo x y = some .lt) || decide (zo x y = some .eq)
def zge (x y : ZD) : Bool := decide (zo x y = some .gt) || decide (zo x y = some .eq)
abbrev z0 : ZD := zv 0
abbrev z1 : ZD := zv 4607182418800017408
abbrev z2 : ZD := zv 4611686018427387904
/-- an int of a truth value -/
def zb (b : Bool) : Int32 := if b then 1 else 0
theorem zb_t : zb true = 1 := rfl
theorem zb_f : zb false = 0 := rfl
theorem z_nan {b : UInt64} (h : isNaN64 b = true) : zv b = .nan := by
  rw [isNaN64_iff] at h
  apply Classical.byContradiction
  intro hn
  have h2 := (FP.Core.ne_nan b).mp hn
  rw [show (0x7fffffffffffffff : Nat) = 2 ^ 63 - 1 from rfl, Nat.and_two_pow_sub_one_eq_mod] at h
  omega
theorem z_alike {r v : UInt64} (h : alike64 r v = true) : zv r = zv v := by
  unfold alike64 at h
  rw [Bool.or_eq_true, Bool.and_eq_true] at h
  rcases h with h | ⟨h1, h2⟩
  · rw [of_decide_eq_true h]
  · rw [z_nan h1, z_nan h2]
theorem zi_add {a b c : Nat} (h : a + b = c) : nI a + nI b = nI c := by rw [nI_add, h]
theorem zi_mul {a b c : Nat} (h : a * b = c) : nI a * nI b = nI c := by rw [pk_mul, h]
theorem zi_sub {a b c : Nat} (h : b ≤ a) (h2 : a - b = c) : nI a - nI b = nI c := by rw [pk_sub h, h2]
theorem zi_inc {a c : Nat} (h : a + 1 = c) : nI c = nI a + 1 := by rw [← h]; exact nI_succ a
/-- the first n steps of f from a -/
def zfold {α : Type} (f : Nat → α → α) : Nat → α → α
  | 0, a => a
  | n + 1, a => f n (zfold f n a)
theorem zfold_0 {α : Type} (f : Nat → α → α) (a : α) : zfold f 0 a = a := rfl
theorem zfold_s {α : Type} (f : Nat → α → α) (n : Nat) (a : α) : zfold f (n + 1) a = f n (zfold f n a) := rfl
/-- f, but v at k -/
def zu {α : Type} (f : Nat → α) (k : Nat) (v : α) : Nat → α := fun j => if j = k then v else f j
theorem zu_s {α : Type} {f : Nat → α} {k : Nat} {v : α} : zu f k v k = v := if_pos rfl
theorem zu_n {α : Type} {f : Nat → α} {k j : Nat} {v : α} (h : j ≠ k) : zu f k v j = f j := if_neg h
theorem zrow {x w y h : Nat} (hx : x < w) (hy : y < h) : y * w + x < w * h := by
  have h1 : (y + 1) * w ≤ h * w := Nat.mul_le_mul_right w hy
  rw [Nat.add_mul, Nat.one_mul] at h1
  rw [Nat.mul_comm w h]
  omega
theorem zrow_end (y w : Nat) : y * w + w = (y + 1) * w := by rw [Nat.add_mul, Nat.one_mul]
/-- the same world after a callee that writes nothing -/
theorem zro {D : va_G} {cl : List vw_C} {ws : va_W} {H0 H : Heap} {locs : List Loc} (hP : va_P D cl ws H0) (hS : va_S (fun _ => False) H0 H locs) : va_P D cl ws H := hP.kept (fun k q hk => hS.2.1 q.1 (hP k q hk).lt (fun h => h))
theorem zro1 {D : va_G} {cl : List vw_C} {ws : va_W} {H H1 : Heap} (hP : va_P D cl ws H) (hk1 : ∀ q : Nat, q < H.size → ¬ (fun _ : Nat => False) q → H1[q]? = H[q]?) : va_P D cl ws H1 := hP.kept (fun k q hk => hk1 q.1 (hP k q hk).lt (fun h => h))
section ZR
variable {p : Program} {l : Launch} {e : Env} {R : Room} {s : State} {m : MethodId} {args : Array Value} {below : List Frame} {meth : Method} {c : Code} {H : Heap} {locs : List Loc} {cells slots : Nat} {Q : State → Prop}
variable {cc : ByteArray} {pc : Nat} {ls : Array Slot} {rest : List Value}
theorem zr_dadd {d0 : Drawn} (hd0 : s.drawn.sameBut d0 lw_cs) (hx : p.tables.exec = Jvm.exec) (hb : c.code = cc) {x y : UInt64} {a b : ZD} (ha : zv x = a) (hbb : zv y = b) (hdg : decode cc pc = .ok (.dadd, 1))
    (k : ∀ (r : UInt64) (d' : Drawn), zv r = zA a b → s.drawn.sameBut d' lw_cs → W p l e R (s.setDrawn d') m args below meth c H locs cells slots Q (F0 m (pc + 1) ls (.double r :: rest))) : W p l e R (s.setDrawn d0) m args below meth c H locs cells slots Q (F0 m pc ls (.double y :: .double x :: rest)) := by
  refine lv_dadd_any hd0 lw_bits hx hb hdg (fun r d1 hal hd1 => k r d1 ?_ hd1)
  rw [← ha, ← hbb]
  exact (z_alike hal).trans (FP.Core.val64_dadd x y)
theorem zr_dsub {d0 : Drawn} (hd0 : s.drawn.sameBut d0 lw_cs) (hx : p.tables.exec = Jvm.exec) (hb : c.code = cc) {x y : UInt64} {a b : ZD} (ha : zv x = a) (hbb : zv y = b) (hdg : decode cc pc = .ok (.dsub, 1))
    (k : ∀ (r : UInt64) (d' : Drawn), zv r = zS a b → s.drawn.sameBut d' lw_cs → W p l e R (s.setDrawn d') m args below meth c H locs cells slots Q (F0 m (pc + 1) ls (.double r :: rest))) : W p l e R (s.setDrawn d0) m args below meth c H locs cells slots Q (F0 m pc ls (.double y :: .double x :: rest)) := by
  refine lv_dsub_any hd0 lw_bits hx hb hdg (fun r d1 hal hd1 => k r d1 ?_ hd1)
  rw [← ha, ← hbb]
  exact (z_alike hal).trans (FP.Core.val64_dsub x y)
theorem zr_dmul {d0 : Drawn} (hd0 : s.drawn.sameBut d0 lw_cs) (hx : p.tables.exec = Jvm.exec) (hb : c.code = cc) {x y : UInt64} {a b : ZD} (ha : zv x = a) (hbb : zv y = b) (hdg : decode cc pc = .ok (.dmul, 1))
    (k : ∀ (r : UInt64) (d' : Drawn), zv r = zM a b → s.drawn.sameBut d' lw_cs → W p l e R (s.setDrawn d') m args below meth c H locs cells slots Q (F0 m (pc + 1) ls (.double r :: rest))) : W p l e R (s.setDrawn d0) m args below meth c H locs cells slots Q (F0 m pc ls (.double y :: .double x :: rest)) := by
  refine lv_dmul_any hd0 lw_bits hx hb hdg (fun r d1 hal hd1 => k r d1 ?_ hd1)
  rw [← ha, ← hbb]
  exact (z_alike hal).trans (FP.Core.val64_dmul x y)
theorem zr_ddiv {d0 : Drawn} (hd0 : s.drawn.sameBut d0 lw_cs) (hx : p.tables.exec = Jvm.exec) (hb : c.code = cc) {x y : UInt64} {a b : ZD} (ha : zv x = a) (hbb : zv y = b) (hdg : decode cc pc = .ok (.ddiv, 1))
    (k : ∀ (r : UInt64) (d' : Drawn), zv r = zQ a b → s.drawn.sameBut d' lw_cs → W p l e R (s.setDrawn d') m args below meth c H locs cells slots Q (F0 m (pc + 1) ls (.double r :: rest))) : W p l e R (s.setDrawn d0) m args below meth c H locs cells slots Q (F0 m pc ls (.double y :: .double x :: rest)) := by
  refine lv_ddiv_any hd0 lw_bits hx hb hdg (fun r d1 hal hd1 => k r d1 ?_ hd1)
  rw [← ha, ← hbb]
  exact (z_alike hal).trans (FP.Core.val64_ddiv x y)
theorem zr_dneg (hx : p.tables.exec = Jvm.exec) (hb : c.code = cc) {x : UInt64} {a : ZD} (ha : zv x = a) (hdg : decode cc pc = .ok (.dneg, 1))
    (k : ∀ r : UInt64, zv r = zN a → W p l e R s m args below meth c H locs cells slots Q (F0 m (pc + 1) ls (.double r :: rest))) : W p l e R s m args below meth c H locs cells slots Q (F0 m pc ls (.double x :: rest)) := by
  refine lv_dneg hx hb hdg (k _ ?_)
  rw [← ha]
  exact FP.val64_dneg x
theorem z_icmp_lt (hx : p.tables.exec = Jvm.exec) (hb : c.code = cc) {a b : Nat} (ha : a < 2 ^ 31) (hbd : b < 2 ^ 31) {off : Int} {tgt : Nat} (hdg : decode cc pc = .ok (.if_icmp .lt off, 3)) (ht : (pc : Int) + off = (tgt : Int))
    (kt : a < b → W p l e R s m args below meth c H locs cells slots Q (F0 m tgt ls rest)) (kf : b ≤ a → W p l e R s m args below meth c H locs cells slots Q (F0 m (pc + 3) ls rest)) : W p l e R s m args below meth c H locs cells slots Q (F0 m pc ls (.int (nI b) :: .int (nI a) :: rest)) :=
  lv_icmp_lt hx hb hdg ht (fun h => kt ((nI_ltI ha hbd).mp h)) (fun h => kf (Nat.le_of_not_lt (fun q => h ((nI_ltI ha hbd).mpr q))))
theorem z_icmp_ge (hx : p.tables.exec = Jvm.exec) (hb : c.code = cc) {a b : Nat} (ha : a < 2 ^ 31) (hbd : b < 2 ^ 31) {off : Int} {tgt : Nat} (hdg : decode cc pc = .ok (.if_icmp .ge off, 3)) (ht : (pc : Int) + off = (tgt : Int))
    (kt : b ≤ a → W p l e R s m args below meth c H locs cells slots Q (F0 m tgt ls rest)) (kf : a < b → W p l e R s m args below meth c H locs cells slots Q (F0 m (pc + 3) ls rest)) : W p l e R s m args below meth c H locs cells slots Q (F0 m pc ls (.int (nI b) :: .int (nI a) :: rest)) :=
  lv_icmp_ge hx hb hdg ht (fun h => kt ((nI_leI hbd ha).mp h)) (fun h => kf (Nat.lt_of_not_le (fun q => h ((nI_leI hbd ha).mpr q))))
theorem z_icmp_gt (hx : p.tables.exec = Jvm.exec) (hb : c.code = cc) {a b : Nat} (ha : a < 2 ^ 31) (hbd : b < 2 ^ 31) {off : Int} {tgt : Nat} (hdg : decode cc pc = .ok (.if_icmp .gt off, 3)) (ht : (pc : Int) + off = (tgt : Int))
    (kt : b < a → W p l e R s m args below meth c H locs cells slots Q (F0 m tgt ls rest)) (kf : a ≤ b → W p l e R s m args below meth c H locs cells slots Q (F0 m (pc + 3) ls rest)) : W p l e R s m args below meth c H locs cells slots Q (F0 m pc ls (.int (nI b) :: .int (nI a) :: rest)) :=
  lv_icmp_gt hx hb hdg ht (fun h => kt ((nI_ltI hbd ha).mp h)) (fun h => kf (Nat.le_of_not_lt (fun q => h ((nI_ltI hbd ha).mpr q))))
theorem z_icmp_le (hx : p.tables.exec = Jvm.exec) (hb : c.code = cc) {a b : Nat} (ha : a < 2 ^ 31) (hbd : b < 2 ^ 31) {off : Int} {tgt : Nat} (hdg : decode cc pc = .ok (.if_icmp .le off, 3)) (ht : (pc : Int) + off = (tgt : Int))
    (kt : a ≤ b → W p l e R s m args below meth c H locs cells slots Q (F0 m tgt ls rest)) (kf : b < a → W p l e R s m args below meth c H locs cells slots Q (F0 m (pc + 3) ls rest)) : W p l e R s m args below meth c H locs cells slots Q (F0 m pc ls (.int (nI b) :: .int (nI a) :: rest)) :=
  lv_icmp_le hx hb hdg ht (fun h => kt ((nI_leI ha hbd).mp h)) (fun h => kf (Nat.lt_of_not_le (fun q => h ((nI_leI ha hbd).mpr q))))
theorem z_icmp_eq (hx : p.tables.exec = Jvm.exec) (hb : c.code = cc) {a b : Nat} (ha : a < 2 ^ 31) (hbd : b < 2 ^ 31) {off : Int} {tgt : Nat} (hdg : decode cc pc = .ok (.if_icmp .eq off, 3)) (ht : (pc : Int) + off = (tgt : Int))
    (kt : a = b → W p l e R s m args below meth c H locs cells slots Q (F0 m tgt ls rest)) (kf : a ≠ b → W p l e R s m args below meth c H locs cells slots Q (F0 m (pc + 3) ls rest)) : W p l e R s m args below meth c H locs cells slots Q (F0 m pc ls (.int (nI b) :: .int (nI a) :: rest)) :=
  lv_icmp_eq hx hb hdg ht (fun h => kt ((nI_eq ha hbd).mp h)) (fun h => kf (fun q => h ((nI_eq ha hbd).mpr q)))
theorem z_icmp_ne (hx : p.tables.exec = Jvm.exec) (hb : c.code = cc) {a b : Nat} (ha : a < 2 ^ 31) (hbd : b < 2 ^ 31) {off : Int} {tgt : Nat} (hdg : decode cc pc = .ok (.if_icmp .ne off, 3)) (ht : (pc : Int) + off = (tgt : Int))
    (kt : a ≠ b → W p l e R s m args below meth c H locs cells slots Q (F0 m tgt ls rest)) (kf : a = b → W p l e R s m args below meth c H locs cells slots Q (F0 m (pc + 3) ls rest)) : W p l e R s m args below meth c H locs cells slots Q (F0 m pc ls (.int (nI b) :: .int (nI a) :: rest)) :=
  lv_icmp_ne hx hb hdg ht (fun h => kt (fun q => h ((nI_eq ha hbd).mpr q))) (fun h => kf ((nI_eq ha hbd).mp h))
theorem z_if_eq_b (hx : p.tables.exec = Jvm.exec) (hb : c.code = cc) {v : Bool} {off : Int} {tgt : Nat} (hdg : decode cc pc = .ok (.ifCond .eq off, 3)) (ht : (pc : Int) + off = (tgt : Int))
    (kt : v = false → W p l e R s m args below meth c H locs cells slots Q (F0 m tgt ls rest)) (kf : v = true → W p l e R s m args below meth c H locs cells slots Q (F0 m (pc + 3) ls rest)) : W p l e R s m args below meth c H locs cells slots Q (F0 m pc ls (.int (zb v) :: rest)) :=
  lv_if_eq hx hb hdg ht (fun h => kt (by cases v; rfl; exact absurd h (by decide))) (fun h => kf (by cases v; exact absurd rfl h; rfl))
theorem z_if_ne_b (hx : p.tables.exec = Jvm.exec) (hb : c.code = cc) {v : Bool} {off : Int} {tgt : Nat} (hdg : decode cc pc = .ok (.ifCond .ne off, 3)) (ht : (pc : Int) + off = (tgt : Int))
    (kt : v = true → W p l e R s m args below meth c H locs cells slots Q (F0 m tgt ls rest)) (kf : v = false → W p l e R s m args below meth c H locs cells slots Q (F0 m (pc + 3) ls rest)) : W p l e R s m args below meth c H locs cells slots Q (F0 m pc ls (.int (zb v) :: rest)) :=
  lv_if_ne hx hb hdg ht (fun h => kt (by cases v; exact absurd rfl h; rfl)) (fun h => kf (by cases v; rfl; exact absurd h (by decide)))
theorem z_if_eq (hx : p.tables.exec = Jvm.exec) (hb : c.code = cc) {a : Nat} (ha : a < 2 ^ 31) {off : Int} {tgt : Nat} (hdg : decode cc pc = .ok (.ifCond .eq off, 3)) (ht : (pc : Int) + off = (tgt : Int))
    (kt : a = 0 → W p l e R s m args below meth c H locs cells slots Q (F0 m tgt ls rest)) (kf : a ≠ 0 → W p l e R s m args below meth c H locs cells slots Q (F0 m (pc + 3) ls rest)) : W p l e R s m args below meth c H locs cells slots Q (F0 m pc ls (.int (nI a) :: rest)) :=
  lv_if_eq hx hb hdg ht (fun h => kt ((nI_eq ha (by decide)).mp (h.trans nI_0.symm))) (fun h => kf (fun q => h (by rw [q]; exact nI_0)))
theorem z_if_ne (hx : p.tables.exec = Jvm.exec) (hb : c.code = cc) {a : Nat} (ha : a < 2 ^ 31) {off : Int} {tgt : Nat} (hdg : decode cc pc = .ok (.ifCond .ne off, 3)) (ht : (pc : Int) + off = (tgt : Int))
    (kt : a ≠ 0 → W p l e R s m args below meth c H locs cells slots Q (F0 m tgt ls rest)) (kf : a = 0 → W p l e R s m args below meth c H locs cells slots Q (F0 m (pc + 3) ls rest)) : W p l e R s m args below meth c H locs cells slots Q (F0 m pc ls (.int (nI a) :: rest)) :=
  lv_if_ne hx hb hdg ht (fun h => kt (fun q => h (by rw [q]; exact nI_0))) (fun h => kf ((nI_eq ha (by decide)).mp (h.trans nI_0.symm)))
theorem z_if_lt (hx : p.tables.exec = Jvm.exec) (hb : c.code = cc) {a : Nat} (ha : a < 2 ^ 31) {off : Int} {tgt : Nat} (hdg : decode cc pc = .ok (.ifCond .lt off, 3)) (ht : (pc : Int) + off = (tgt : Int))
    (kt : False → W p l e R s m args below meth c H locs cells slots Q (F0 m tgt ls rest)) (kf : 0 ≤ a → W p l e R s m args below meth c H locs cells slots Q (F0 m (pc + 3) ls rest)) : W p l e R s m args below meth c H locs cells slots Q (F0 m pc ls (.int (nI a) :: rest)) :=
  lv_if_lt hx hb hdg ht (fun h => kt (nI_pos ha h)) (fun h => kf (Nat.zero_le a))
theorem z_if_ge (hx : p.tables.exec = Jvm.exec) (hb : c.code = cc) {a : Nat} (ha : a < 2 ^ 31) {off : Int} {tgt : Nat} (hdg : decode cc pc = .ok (.ifCond .ge off, 3)) (ht : (pc : Int) + off = (tgt : Int))
    (kt : 0 ≤ a → W p l e R s m args below meth c H locs cells slots Q (F0 m tgt ls rest)) (kf : False → W p l e R s m args below meth c H locs cells slots Q (F0 m (pc + 3) ls rest)) : W p l e R s m args below meth c H locs cells slots Q (F0 m pc ls (.int (nI a) :: rest)) :=
  lv_if_ge hx hb hdg ht (fun h => kt (Nat.zero_le a)) (fun h => kf (h (nI_pos' ha)))
theorem z_if_gt (hx : p.tables.exec = Jvm.exec) (hb : c.code = cc) {a : Nat} (ha : a < 2 ^ 31) {off : Int} {tgt : Nat} (hdg : decode cc pc = .ok (.ifCond .gt off, 3)) (ht : (pc : Int) + off = (tgt : Int))
    (kt : 0 < a → W p l e R s m args below meth c H locs cells slots Q (F0 m tgt ls rest)) (kf : a = 0 → W p l e R s m args below meth c H locs cells slots Q (F0 m (pc + 3) ls rest)) : W p l e R s m args below meth c H locs cells slots Q (F0 m pc ls (.int (nI a) :: rest)) :=
  lv_if_gt hx hb hdg ht (fun h => kt (Nat.pos_of_ne_zero (fun q => by rw [q, nI_0] at h; exact absurd h (by decide)))) (fun h => kf (Classical.byContradiction (fun q => h (by rw [← nI_0]; exact nI_lt (Nat.pos_of_ne_zero q) ha))))
theorem z_if_le (hx : p.tables.exec = Jvm.exec) (hb : c.code = cc) {a : Nat} (ha : a < 2 ^ 31) {off : Int} {tgt : Nat} (hdg : decode cc pc = .ok (.ifCond .le off, 3)) (ht : (pc : Int) + off = (tgt : Int))
    (kt : a = 0 → W p l e R s m args below meth c H locs cells slots Q (F0 m tgt ls rest)) (kf : 0 < a → W p l e R s m args below meth c H locs cells slots Q (F0 m (pc + 3) ls rest)) : W p l e R s m args below meth c H locs cells slots Q (F0 m pc ls (.int (nI a) :: rest)) :=
  lv_if_le hx hb hdg ht (fun h => kt (Classical.byContradiction (fun q => nI_nle (Nat.pos_of_ne_zero q) ha h))) (fun h => kf (Nat.pos_of_ne_zero (fun q => h (by rw [q, nI_0]; decide))))
theorem z_cmp_g_ge (hx : p.tables.exec = Jvm.exec) (hb : c.code = cc) {x y : UInt64} {a b : ZD} (ha : zv x = a) (hbb : zv y = b) {off : Int} {tgt : Nat} (hdg : decode cc pc = .ok (.dcmp .g, 1)) (hdg2 : decode cc (pc + 1) = .ok (.ifCond .ge off, 3)) (ht : ((pc + 1 : Nat) : Int) + off = (tgt : Int))
    (kt : zlt a b = false → W p l e R s m args below meth c H locs cells slots Q (F0 m tgt ls rest)) (kf : zlt a b = true → W p l e R s m args below meth c H locs cells slots Q (F0 m (pc + 1 + 3) ls rest)) : W p l e R s m args below meth c H locs cells slots Q (F0 m pc ls (.double y :: .double x :: rest)) := by
  refine lv_dcmp hx hb hdg ?_
  have e : FP.dcmp x y = zo a b := by rw [← ha, ← hbb]; rfl
  rw [e]
  refine lv_if_ge hx hb hdg2 ht (fun h => kt ?_) (fun h => kf ?_)
  · unfold zlt
    revert h
    rcases zo a b with _ | (_ | _ | _) <;> intro h <;> first | rfl | exact absurd h (by decide) | exact absurd (by decide) h
  · unfold zlt
    revert h
    rcases zo a b with _ | (_ | _ | _) <;> intro h <;> first | rfl | exact absurd h (by decide) | exact absurd (by decide) h
theorem z_cmp_g_gt (hx : p.tables.exec = Jvm.exec) (hb : c.code = cc) {x y : UInt64} {a b : ZD} (ha : zv x = a) (hbb : zv y = b) {off : Int} {tgt : Nat} (hdg : decode cc pc = .ok (.dcmp .g, 1)) (hdg2 : decode cc (pc + 1) = .ok (.ifCond .gt off, 3)) (ht : ((pc + 1 : Nat) : Int) + off = (tgt : Int))
    (kt : zle a b = false → W p l e R s m args below meth c H locs cells slots Q (F0 m tgt ls rest)) (kf : zle a b = true → W p l e R s m args below meth c H locs cells slots Q (F0 m (pc + 1 + 3) ls rest)) : W p l e R s m args below meth c H locs cells slots Q (F0 m pc ls (.double y :: .double x :: rest)) := by
  refine lv_dcmp hx hb hdg ?_
  have e : FP.dcmp x y = zo a b := by rw [← ha, ← hbb]; rfl
  rw [e]
  refine lv_if_gt hx hb hdg2 ht (fun h => kt ?_) (fun h => kf ?_)
  · unfold zle
    revert h
    rcases zo a b with _ | (_ | _ | _) <;> intro h <;> first | rfl | exact absurd h (by decide) | exact absurd (by decide) h
  · unfold zle
    revert h
    rcases zo a b with _ | (_ | _ | _) <;> intro h <;> first | rfl | exact absurd h (by decide) | exact absurd (by decide) h
theorem z_cmp_g_le (hx : p.tables.exec = Jvm.exec) (hb : c.code = cc) {x y : UInt64} {a b : ZD} (ha : zv x = a) (hbb : zv y = b) {off : Int} {tgt : Nat} (hdg : decode cc pc = .ok (.dcmp .g, 1)) (hdg2 : decode cc (pc + 1) = .ok (.ifCond .le off, 3)) (ht : ((pc + 1 : Nat) : Int) + off = (tgt : Int))
    (kt : zle a b = true → W p l e R s m args below meth c H locs cells slots Q (F0 m tgt ls rest)) (kf : zle a b = false → W p l e R s m args below meth c H locs cells slots Q (F0 m (pc + 1 + 3) ls rest)) : W p l e R s m args below meth c H locs cells slots Q (F0 m pc ls (.double y :: .double x :: rest)) := by
  refine lv_dcmp hx hb hdg ?_
  have e : FP.dcmp x y = zo a b := by rw [← ha, ← hbb]; rfl
  rw [e]
  refine lv_if_le hx hb hdg2 ht (fun h => kt ?_) (fun h => kf ?_)
  · unfold zle
    revert h
    rcases zo a b with _ | (_ | _ | _) <;> intro h <;> first | rfl | exact absurd h (by decide) | exact absurd (by decide) h
  · unfold zle
    revert h
    rcases zo a b with _ | (_ | _ | _) <;> intro h <;> first | rfl | exact absurd h (by decide) | exact absurd (by decide) h
theorem z_cmp_l_eq (hx : p.tables.exec = Jvm.exec) (hb : c.code = cc) {x y : UInt64} {a b : ZD} (ha : zv x = a) (hbb : zv y = b) {off : Int} {tgt : Nat} (hdg : decode cc pc = .ok (.dcmp .l, 1)) (hdg2 : decode cc (pc + 1) = .ok (.ifCond .eq off, 3)) (ht : ((pc + 1 : Nat) : Int) + off = (tgt : Int))
    (kt : zeq a b = true → W p l e R s m args below meth c H locs cells slots Q (F0 m tgt ls rest)) (kf : zeq a b = false → W p l e R s m args below meth c H locs cells slots Q (F0 m (pc + 1 + 3) ls rest)) : W p l e R s m args below meth c H locs cells slots Q (F0 m pc ls (.double y :: .double x :: rest)) := by
  refine lv_dcmp hx hb hdg ?_
  have e : FP.dcmp x y = zo a b := by rw [← ha, ← hbb]; rfl
  rw [e]
  refine lv_if_eq hx hb hdg2 ht (fun h => kt ?_) (fun h => kf ?_)
  · unfold zeq
    revert h
    rcases zo a b with _ | (_ | _ | _) <;> intro h <;> first | rfl | exact absurd h (by decide) | exact absurd (by decide) h
  · unfold zeq
    revert h
    rcases zo a b with _ | (_ | _ | _) <;> intro h <;> first | rfl | exact absurd h (by decide) | exact absurd (by decide) h
theorem z_cmp_l_gt (hx : p.tables.exec = Jvm.exec) (hb : c.code = cc) {x y : UInt64} {a b : ZD} (ha : zv x = a) (hbb : zv y = b) {off : Int} {tgt : Nat} (hdg : decode cc pc = .ok (.dcmp .l, 1)) (hdg2 : decode cc (pc + 1) = .ok (.ifCond .gt off, 3)) (ht : ((pc + 1 : Nat) : Int) + off = (tgt : Int))
    (kt : zgt a b = true → W p l e R s m args below meth c H locs cells slots Q (F0 m tgt ls rest)) (kf : zgt a b = false → W p l e R s m args below meth c H locs cells slots Q (F0 m (pc + 1 + 3) ls rest)) : W p l e R s m args below meth c H locs cells slots Q (F0 m pc ls (.double y :: .double x :: rest)) := by
  refine lv_dcmp hx hb hdg ?_
  have e : FP.dcmp x y = zo a b := by rw [← ha, ← hbb]; rfl
  rw [e]
  refine lv_if_gt hx hb hdg2 ht (fun h => kt ?_) (fun h => kf ?_)
  · unfold zgt
    revert h
    rcases zo a b with _ | (_ | _ | _) <;> intro h <;> first | rfl | exact absurd h (by decide) | exact absurd (by decide) h
  · unfold zgt
    revert h
    rcases zo a b with _ | (_ | _ | _) <;> intro h <;> first | rfl | exact absurd h (by decide) | exact absurd (by decide) h
theorem z_cmp_l_le (hx : p.tables.exec = Jvm.exec) (hb : c.code = cc) {x y : UInt64} {a b : ZD} (ha : zv x = a) (hbb : zv y = b) {off : Int} {tgt : Nat} (hdg : decode cc pc = .ok (.dcmp .l, 1)) (hdg2 : decode cc (pc + 1) = .ok (.ifCond .le off, 3)) (ht : ((pc + 1 : Nat) : Int) + off = (tgt : Int))
    (kt : zgt a b = false → W p l e R s m args below meth c H locs cells slots Q (F0 m tgt ls rest)) (kf : zgt a b = true → W p l e R s m args below meth c H locs cells slots Q (F0 m (pc + 1 + 3) ls rest)) : W p l e R s m args below meth c H locs cells slots Q (F0 m pc ls (.double y :: .double x :: rest)) := by
  refine lv_dcmp hx hb hdg ?_
  have e : FP.dcmp x y = zo a b := by rw [← ha, ← hbb]; rfl
  rw [e]
  refine lv_if_le hx hb hdg2 ht (fun h => kt ?_) (fun h => kf ?_)
  · unfold zgt
    revert h
    rcases zo a b with _ | (_ | _ | _) <;> intro h <;> first | rfl | exact absurd h (by decide) | exact absurd (by decide) h
  · unfold zgt
    revert h
    rcases zo a b with _ | (_ | _ | _) <;> intro h <;> first | rfl | exact absurd h (by decide) | exact absurd (by decide) h
theorem z_cmp_l_lt (hx : p.tables.exec = Jvm.exec) (hb : c.code = cc) {x y : UInt64} {a b : ZD} (ha : zv x = a) (hbb : zv y = b) {off : Int} {tgt : Nat} (hdg : decode cc pc = .ok (.dcmp .l, 1)) (hdg2 : decode cc (pc + 1) = .ok (.ifCond .lt off, 3)) (ht : ((pc + 1 : Nat) : Int) + off = (tgt : Int))
    (kt : zge a b = false → W p l e R s m args below meth c H locs cells slots Q (F0 m tgt ls rest)) (kf : zge a b = true → W p l e R s m args below meth c H locs cells slots Q (F0 m (pc + 1 + 3) ls rest)) : W p l e R s m args below meth c H locs cells slots Q (F0 m pc ls (.double y :: .double x :: rest)) := by
  refine lv_dcmp hx hb hdg ?_
  have e : FP.dcmp x y = zo a b := by rw [← ha, ← hbb]; rfl
  rw [e]
  refine lv_if_lt hx hb hdg2 ht (fun h => kt ?_) (fun h => kf ?_)
  · unfold zge
    revert h
    rcases zo a b with _ | (_ | _ | _) <;> intro h <;> first | rfl | exact absurd h (by decide) | exact absurd (by decide) h
  · unfold zge
    revert h
    rcases zo a b with _ | (_ | _ | _) <;> intro h <;> first | rfl | exact absurd h (by decide) | exact absurd (by decide) h
theorem z_cmp_l_ne (hx : p.tables.exec = Jvm.exec) (hb : c.code = cc) {x y : UInt64} {a b : ZD} (ha : zv x = a) (hbb : zv y = b) {off : Int} {tgt : Nat} (hdg : decode cc pc = .ok (.dcmp .l, 1)) (hdg2 : decode cc (pc + 1) = .ok (.ifCond .ne off, 3)) (ht : ((pc + 1 : Nat) : Int) + off = (tgt : Int))
    (kt : zeq a b = false → W p l e R s m args below meth c H locs cells slots Q (F0 m tgt ls rest)) (kf : zeq a b = true → W p l e R s m args below meth c H locs cells slots Q (F0 m (pc + 1 + 3) ls rest)) : W p l e R s m args below meth c H locs cells slots Q (F0 m pc ls (.double y :: .double x :: rest)) := by
  refine lv_dcmp hx hb hdg ?_
  have e : FP.dcmp x y = zo a b := by rw [← ha, ← hbb]; rfl
  rw [e]
  refine lv_if_ne hx hb hdg2 ht (fun h => kt ?_) (fun h => kf ?_)
  · unfold zeq
    revert h
    rcases zo a b with _ | (_ | _ | _) <;> intro h <;> first | rfl | exact absurd h (by decide) | exact absurd (by decide) h
  · unfold zeq
    revert h
    rcases zo a b with _ | (_ | _ | _) <;> intro h <;> first | rfl | exact absurd h (by decide) | exact absurd (by decide) h
theorem z_cmp_g_lt (hx : p.tables.exec = Jvm.exec) (hb : c.code = cc) {x y : UInt64} {a b : ZD} (ha : zv x = a) (hbb : zv y = b) {off : Int} {tgt : Nat} (hdg : decode cc pc = .ok (.dcmp .g, 1)) (hdg2 : decode cc (pc + 1) = .ok (.ifCond .lt off, 3)) (ht : ((pc + 1 : Nat) : Int) + off = (tgt : Int))
    (kt : zlt a b = true → W p l e R s m args below meth c H locs cells slots Q (F0 m tgt ls rest)) (kf : zlt a b = false → W p l e R s m args below meth c H locs cells slots Q (F0 m (pc + 1 + 3) ls rest)) : W p l e R s m args below meth c H locs cells slots Q (F0 m pc ls (.double y :: .double x :: rest)) := by
  refine lv_dcmp hx hb hdg ?_
  have e : FP.dcmp x y = zo a b := by rw [← ha, ← hbb]; rfl
  rw [e]
  refine lv_if_lt hx hb hdg2 ht (fun h => kt ?_) (fun h => kf ?_)
  · unfold zlt
    revert h
    rcases zo a b with _ | (_ | _ | _) <;> intro h <;> first | rfl | exact absurd h (by decide) | exact absurd (by decide) h
  · unfold zlt
    revert h
    rcases zo a b with _ | (_ | _ | _) <;> intro h <;> first | rfl | exact absurd h (by decide) | exact absurd (by decide) h
theorem z_cmp_l_ge (hx : p.tables.exec = Jvm.exec) (hb : c.code = cc) {x y : UInt64} {a b : ZD} (ha : zv x = a) (hbb : zv y = b) {off : Int} {tgt : Nat} (hdg : decode cc pc = .ok (.dcmp .l, 1)) (hdg2 : decode cc (pc + 1) = .ok (.ifCond .ge off, 3)) (ht : ((pc + 1 : Nat) : Int) + off = (tgt : Int))
    (kt : zge a b = true → W p l e R s m args below meth c H locs cells slots Q (F0 m tgt ls rest)) (kf : zge a b = false → W p l e R s m args below meth c H locs cells slots Q (F0 m (pc + 1 + 3) ls rest)) : W p l e R s m args below meth c H locs cells slots Q (F0 m pc ls (.double y :: .double x :: rest)) := by
  refine lv_dcmp hx hb hdg ?_
  have e : FP.dcmp x y = zo a b := by rw [← ha, ← hbb]; rfl
  rw [e]
  refine lv_if_ge hx hb hdg2 ht (fun h => kt ?_) (fun h => kf ?_)
  · unfold zge
    revert h
    rcases zo a b with _ | (_ | _ | _) <;> intro h <;> first | rfl | exact absurd h (by decide) | exact absurd (by decide) h
  · unfold zge
    revert h
    rcases zo a b with _ | (_ | _ | _) <;> intro h <;> first | rfl | exact absurd h (by decide) | exact absurd (by decide) h
/-- a number read from a row of doubles -/
theorem z_dald {D : va_G} {cl : List vw_C} {tys : List (ClassId × FieldType)} {ws : va_W} {a : Nat} (hx : p.tables.exec = Jvm.exec) (hb : c.code = cc) (hK : va_K D cl tys s) (hP : va_P D cl ws H) (q0 t0 : Nat) {cA : ClassId} {n : Nat} {f : Nat → UInt64} (ha : ws[q0]? = some (a, .inl (cA, n, .inr (.inr (.inr (.inl f)))))) (ht : tys[t0]? = some (cA, .double)) {i : Nat} (hi : i < n) (hn : n < 2 ^ 31) (hdg : decode cc pc = .ok (.daload, 1))
    (k : W p l e R s m args below meth c H locs cells slots Q (F0 m (pc + 1) ls (.double (f i) :: rest))) : W p l e R s m args below meth c H locs cells slots Q (F0 m pc ls (.int (nI i) :: .ref a :: rest)) := by
  refine va_dald hx hb hK hP q0 t0 ha ht (vp_in_nI hi hn) hdg ?_
  rw [nI_clamp (Nat.lt_trans hi hn)]
  exact k
theorem z_iald {D : va_G} {cl : List vw_C} {tys : List (ClassId × FieldType)} {ws : va_W} {a : Nat} (hx : p.tables.exec = Jvm.exec) (hb : c.code = cc) (hK : va_K D cl tys s) (hP : va_P D cl ws H) (q0 t0 : Nat) {cA : ClassId} {n : Nat} {f : Nat → Int32} (ha : ws[q0]? = some (a, .inl (cA, n, .inl f))) (ht : tys[t0]? = some (cA, .int)) {i : Nat} (hi : i < n) (hn : n < 2 ^ 31) (hdg : decode cc pc = .ok (.iaload, 1))
    (k : W p l e R s m args below meth c H locs cells slots Q (F0 m (pc + 1) ls (.int (f i) :: rest))) : W p l e R s m args below meth c H locs cells slots Q (F0 m pc ls (.int (nI i) :: .ref a :: rest)) := by
  refine va_iald hx hb hK hP q0 t0 ha ht (vp_in_nI hi hn) hdg ?_
  rw [nI_clamp (Nat.lt_trans hi hn)]
  exact k
theorem z_dast {D : va_G} {cl : List vw_C} {tys : List (ClassId × FieldType)} {ws : va_W} {a : Nat} {A : Nat → Prop} {H0 : Heap} (hx : p.tables.exec = Jvm.exec) (hb : c.code = cc) (hK : va_K D cl tys s) (hP : va_P D cl ws H) (hD : va_D A ws) (hS : va_S A H0 H locs) (q0 t0 : Nat) {cA : ClassId} {n : Nat} {f : Nat → UInt64} (ha : ws[q0]? = some (a, .inl (cA, n, .inr (.inr (.inr (.inl f)))))) (ht : tys[t0]? = some (cA, .double)) {i : Nat} {x : UInt64} (hi : i < n) (hn : n < 2 ^ 31) (hdg : decode cc pc = .ok (.dastore, 1))
    (k : ∀ (H1 : Heap) (locs1 : List Loc), va_P D cl (ws.set q0 (a, .inl (cA, n, .inr (.inr (.inr (.inl (zu f i x))))))) H1 → va_D A (ws.set q0 (a, .inl (cA, n, .inr (.inr (.inr (.inl (zu f i x))))))) → va_S A H0 H1 locs1 → W p l e R s m args below meth c H1 locs1 cells slots Q (F0 m (pc + 1) ls rest)) : W p l e R s m args below meth c H locs cells slots Q (F0 m pc ls (.double x :: .int (nI i) :: .ref a :: rest)) := by
  refine va_dast hx hb hK hP hD hS q0 t0 ha ht (vp_in_nI hi hn) hdg (fun H1 locs1 h1 h2 h3 => ?_)
  rw [nI_clamp (Nat.lt_trans hi hn)] at h1 h2
  exact k H1 locs1 h1 h2 h3
theorem z_iast {D : va_G} {cl : List vw_C} {tys : List (ClassId × FieldType)} {ws : va_W} {a : Nat} {A : Nat → Prop} {H0 : Heap} (hx : p.tables.exec = Jvm.exec) (hb : c.code = cc) (hK : va_K D cl tys s) (hP : va_P D cl ws H) (hD : va_D A ws) (hS : va_S A H0 H locs) (q0 t0 : Nat) {cA : ClassId} {n : Nat} {f : Nat → Int32} (ha : ws[q0]? = some (a, .inl (cA, n, .inl f))) (ht : tys[t0]? = some (cA, .int)) {i : Nat} {x : Int32} (hi : i < n) (hn : n < 2 ^ 31) (hdg : decode cc pc = .ok (.iastore, 1))
    (k : ∀ (H1 : Heap) (locs1 : List Loc), va_P D cl (ws.set q0 (a, .inl (cA, n, .inl (zu f i x)))) H1 → va_D A (ws.set q0 (a, .inl (cA, n, .inl (zu f i x)))) → va_S A H0 H1 locs1 → W p l e R s m args below meth c H1 locs1 cells slots Q (F0 m (pc + 1) ls rest)) : W p l e R s m args below meth c H locs cells slots Q (F0 m pc ls (.int x :: .int (nI i) :: .ref a :: rest)) := by
  refine va_iast hx hb hK hP hD hS q0 t0 ha ht (vp_in_nI hi hn) hdg (fun H1 locs1 h1 h2 h3 => ?_)
  rw [nI_clamp (Nat.lt_trans hi hn)] at h1 h2
  exact k H1 locs1 h1 h2 h3
end ZR
theorem zfb {av : List Value} {D : va_G} {cl : List vw_C} {ws : va_W} {tys : List (ClassId × FieldType)} : FrameBlind (va_Pc av (fun U => va_P D cl ws U.heap ∧ va_K D cl tys U)) := fun a U g mk q => by
  obtain ⟨q1, qP, qK⟩ := q
  exact ⟨q1, qP, va_K.moved (u := U) (U := U.calling g mk a) (Vm.Alike.refl U.vm) qK⟩
theorem zfb0 {av : List Value} : FrameBlind (va_Pc av (fun _ => True)) := fun a U g mk q => q
theorem zpre {av : List Value} {D : va_G} {cl : List vw_C} {ws : va_W} {tys : List (ClassId × FieldType)} {H : Heap} {s : State} (hP : va_P D cl ws H) (hK : va_K D cl tys s) : ∀ U : State, U.heap = H → s.WarmedH U.vm → va_Pc av (fun U => va_P D cl ws U.heap ∧ va_K D cl tys U) av.toArray U := fun U hU hW => ⟨rfl, by rw [hU]; exact hP, va_K.moved hW.alike hK⟩
theorem zpre0 {av : List Value} {H : Heap} {s : State} : ∀ U : State, U.heap = H → s.WarmedH U.vm → va_Pc av (fun _ => True) av.toArray U := fun U hU hW => ⟨rfl, trivial⟩
theorem zfbw {av : List Value} {D : va_G} {cl : List vw_C} {ws : va_W} {tys : List (ClassId × FieldType)} {sz : Nat} {A : Nat → Prop} : FrameBlind (va_Pc av (fun U => U.heap.size = sz ∧ va_P D cl ws U.heap ∧ va_K D cl tys U ∧ va_D A ws)) := fun a U g mk q => by
  obtain ⟨q0, q1, qP, qK, qD⟩ := q
  exact ⟨q0, q1, qP, va_K.moved (u := U) (U := U.calling g mk a) (Vm.Alike.refl U.vm) qK, qD⟩
theorem zprew {av : List Value} {D : va_G} {cl : List vw_C} {ws : va_W} {tys : List (ClassId × FieldType)} {H : Heap} {s : State} {A : Nat → Prop} (hP : va_P D cl ws H) (hK : va_K D cl tys s) (hD : va_D A ws) : ∀ U : State, U.heap = H → s.WarmedH U.vm → va_Pc av (fun U => U.heap.size = H.size ∧ va_P D cl ws U.heap ∧ va_K D cl tys U ∧ va_D (fun _ => True) ws) av.toArray U := fun U hU hW => ⟨rfl, by rw [hU], by rw [hU]; exact hP, va_K.moved hW.alike hK, hD.weaken (fun _ _ _ _ => trivial)⟩
/-- behind a callee whose world is the caller's whole one -/
theorem zself {A0 : Nat → Prop} {ws : va_W} {H0 H : Heap} {locs : List Loc} (hD : va_D A0 ws) (hS : va_S A0 H0 H locs) (hA : ∀ q, H0.size ≤ q → A0 q) : ∀ q, va_A ws H.size q → A0 q := by
  intro q h
  rcases h with ⟨k, e, h⟩ | h
  · exact hD.2 k (q, e) h
  · exact hA q (Nat.le_trans hS.1 h)
theorem zb_nar (b : Bool) : narrow .boolean (.int (zb b)) = .int (zb b) := by cases b <;> rfl
theorem zb_fit (b : Bool) : fits .boolean (.int (zb b)) = true := by cases b <;> rfl
theorem znot_t {b : Bool} (h : (!b) = true) : b = false := by cases b <;> simp_all
theorem znot_f {b : Bool} (h : (!b) = false) : b = true := by cases b <;> simp_all
theorem zmod_x {x w y : Nat} (hx : x < w) : (y * w + x) % w = x := by
  rw [Nat.mul_comm, Nat.mul_add_mod]
  exact Nat.mod_eq_of_lt hx
theorem zdiv_y {x w y : Nat} (hx : x < w) : (y * w + x) / w = y := by
  rw [Nat.mul_comm, Nat.mul_add_div (by omega), Nat.div_eq_of_lt hx, Nat.add_zero]
end
section
/-! 04: what the plate answers, over data: one text for the class and for the reference. Cells by their number y * w + x. -/
abbrev zgc : ZD := zv 4589168020290535424
abbrev zhalf : ZD := zv 4602678819172646912
def zrootF (v : ZD) : Nat → ZD → ZD := fun _ r => zQ (zA r (zQ v r)) z2
def zroot (v : ZD) : ZD := if zgt v z0 = true then zfold (zrootF v) 30 (zA z1 v) else z0
theorem zroot_f {v : ZD} (h : zgt v z0 = false) : zroot v = z0 := if_neg (by rw [h]; decide)
theorem zroot_t {v : ZD} (h : zgt v z0 = true) : zroot v = zfold (zrootF v) 30 (zA z1 v) := if_pos h
def zspring (rate one other : ZD) : ZD := zM (zM (zM rate (zQ (zA one other) z2)) (zQ (zA one other) z2)) (zQ (zA one other) z2)
/-- FORCE, neighbour by neighbour -/
def zf1 (w : Nat) (R S : Nat → ZD) (x y : Nat) : ZD := if x + 1 < w then zA z0 (zM (R (y * w + x)) (zS (S (y * w + (x + 1))) (S (y * w + x)))) else z0
def zf2 (w : Nat) (R S : Nat → ZD) (x y : Nat) : ZD := if 0 < x then zA (zf1 w R S x y) (zM (R (y * w + (x - 1))) (zS (S (y * w + (x - 1))) (S (y * w + x)))) else zf1 w R S x y
def zf3 (w h : Nat) (R N S : Nat → ZD) (x y : Nat) : ZD := if y + 1 < h then zA (zf2 w R S x y) (zM (N (y * w + x)) (zS (S ((y + 1) * w + x)) (S (y * w + x)))) else zf2 w R S x y
def zf4 (w h : Nat) (R N S : Nat → ZD) (x y : Nat) : ZD := if 0 < y then zA (zf3 w h R N S x y) (zM (N ((y - 1) * w + x)) (zS (S ((y - 1) * w + x)) (S (y * w + x)))) else zf3 w h R N S x y
def zforce (w h : Nat) (R N S : Nat → ZD) (x y : Nat) : ZD := zS (zf4 w h R N S x y) (zM zgc (S (y * w + x)))
/-- GROUND + its springs -/
def zh1 (w : Nat) (R : Nat → ZD) (x y : Nat) : ZD := if x + 1 < w then zA zgc (R (y * w + x)) else zgc
def zh2 (w : Nat) (R : Nat → ZD) (x y : Nat) : ZD := if 0 < x then zA (zh1 w R x y) (R (y * w + (x - 1))) else zh1 w R x y
def zh3 (w h : Nat) (R N : Nat → ZD) (x y : Nat) : ZD := if y + 1 < h then zA (zh2 w R x y) (N (y * w + x)) else zh2 w R x y
def zhold (w h : Nat) (R N : Nat → ZD) (x y : Nat) : ZD := if 0 < y then zA (zh3 w h R N x y) (N ((y - 1) * w + x)) else zh3 w h R N x y
/-- PRODUCT over the first n cells -/
def zprodF (T S1 S2 : Nat → ZD) (de : ZD) : Nat → ZD → ZD := fun i a => if zgt (T i) z0 = true then zA a (zM (zM (zM (T i) de) (S1 i)) (S2 i)) else a
def zprod (T S1 S2 : Nat → ZD) (de : ZD) (n : Nat) : ZD := zfold (zprodF T S1 S2 de) n z0
theorem zprod_t {T S1 S2 : Nat → ZD} {de : ZD} {n : Nat} (h : zgt (T n) z0 = true) : zprod T S1 S2 de (n + 1) = zA (zprod T S1 S2 de n) (zM (zM (zM (T n) de) (S1 n)) (S2 n)) := if_pos h
theorem zprod_f {T S1 S2 : Nat → ZD} {de : ZD} {n : Nat} (h : zgt (T n) z0 = false) : zprod T S1 S2 de (n + 1) = zprod T S1 S2 de n := if_neg (by rw [h]; decide)
/-- the sum of the shape over the first n cells -/
def zsumF (T S : Nat → ZD) : Nat → ZD → ZD := fun i a => if zgt (T i) z0 = true then zA a (S i) else a
def zsum (T S : Nat → ZD) (n : Nat) : ZD := zfold (zsumF T S) n z0
theorem zsum_t {T S : Nat → ZD} {n : Nat} (h : zgt (T n) z0 = true) : zsum T S (n + 1) = zA (zsum T S n) (S n) := if_pos h
theorem zsum_f {T S : Nat → ZD} {n : Nat} (h : zgt (T n) z0 = false) : zsum T S (n + 1) = zsum T S n := if_neg (by rw [h]; decide)
/-- the sum of shape * FORCE over the first n cells -/
def zsqF (w h : Nat) (T R N S : Nat → ZD) : Nat → ZD → ZD := fun i a => if zgt (T i) z0 = true then zA a (zM (S i) (zforce w h R N S (i % w) (i / w))) else a
def zsq (w h : Nat) (T R N S : Nat → ZD) (n : Nat) : ZD := zfold (zsqF w h T R N S) n z0
theorem zsq_t {w h : Nat} {T R N S : Nat → ZD} {x y : Nat} (hx : x < w) (hh : zgt (T (y * w + x)) z0 = true) : zsq w h T R N S (y * w + x + 1) = zA (zsq w h T R N S (y * w + x)) (zM (S (y * w + x)) (zforce w h R N S x y)) := by
  refine Eq.trans (if_pos hh) ?_
  rw [zmod_x hx, zdiv_y hx]
  rfl
theorem zsq_f {w h : Nat} {T R N S : Nat → ZD} {n : Nat} (hh : zgt (T n) z0 = false) : zsq w h T R N S (n + 1) = zsq w h T R N S n := if_neg (by rw [hh]; decide)
/-- RESIDUE over the first n cells -/
def zabs (v : ZD) : ZD := if zlt v z0 = true then zN v else v
def zresV (w h : Nat) (T R N S : Nat → ZD) (de sq : ZD) (i x y : Nat) : ZD := zabs (zA (zforce w h R N S x y) (zM (zM sq (zM (T i) de)) (S i)))
def zresF (w h : Nat) (T R N S : Nat → ZD) (de sq : ZD) : Nat → ZD → ZD := fun i a => if zgt (T i) z0 = true then (if zgt (zresV w h T R N S de sq i (i % w) (i / w)) a = true then zresV w h T R N S de sq i (i % w) (i / w) else a) else a
def zres (w h : Nat) (T R N S : Nat → ZD) (de sq : ZD) (n : Nat) : ZD := zfold (zresF w h T R N S de sq) n z0
theorem zres_tt {w h : Nat} {T R N S : Nat → ZD} {de sq : ZD} {x y : Nat} (hx : x < w) (hh : zgt (T (y * w + x)) z0 = true) (hg : zgt (zresV w h T R N S de sq (y * w + x) x y) (zres w h T R N S de sq (y * w + x)) = true) : zres w h T R N S de sq (y * w + x + 1) = zresV w h T R N S de sq (y * w + x) x y := by
  refine Eq.trans (if_pos hh) ?_
  rw [zmod_x hx, zdiv_y hx]
  exact if_pos hg
theorem zres_tf {w h : Nat} {T R N S : Nat → ZD} {de sq : ZD} {x y : Nat} (hx : x < w) (hg : zgt (zresV w h T R N S de sq (y * w + x) x y) (zres w h T R N S de sq (y * w + x)) = false) : zres w h T R N S de sq (y * w + x + 1) = zres w h T R N S de sq (y * w + x) := by
  cases hh : zgt (T (y * w + x)) z0 with
  | false => exact if_neg (by rw [hh]; decide)
  | true =>
    refine Eq.trans (if_pos hh) ?_
    rw [zmod_x hx, zdiv_y hx]
    exact if_neg (by rw [show zgt _ (zfold (zresF w h T R N S de sq) (y * w + x) z0) = false from hg]; decide)
theorem zres_f {w h : Nat} {T R N S : Nat → ZD} {de sq : ZD} {n : Nat} (hh : zgt (T n) z0 = false) : zres w h T R N S de sq (n + 1) = zres w h T R N S de sq n := if_neg (by rw [hh]; decide)
/-- the reference's own rows: a grid of six by six, rows of shapes behind one another -/
def zgr (f : Nat → UInt64) (w h : Nat) (F : Nat → ZD) : Prop := ∀ x y, x < w → y < h → zv (f (6 * y + x)) = F (y * w + x)
def zgs (f : Nat → UInt64) (k w h : Nat) (F : Nat → ZD) : Prop := ∀ x y, x < w → y < h → zv (f (36 * k + 6 * y + x)) = F (y * w + x)
theorem zgr_at {f : Nat → UInt64} {w h : Nat} {F : Nat → ZD} (g : zgr f w h F) (x y : Nat) {i : Nat} (hx : x < w) (hy : y < h) (hi : i = 6 * y + x) : zv (f i) = F (y * w + x) := by
  subst hi
  exact g x y hx hy
theorem zgs_at {f : Nat → UInt64} {k w h : Nat} {F : Nat → ZD} (g : zgs f k w h F) (x y : Nat) {i : Nat} (hx : x < w) (hy : y < h) (hi : i = 36 * k + 6 * y + x) : zv (f i) = F (y * w + x) := by
  subst hi
  exact g x y hx hy
/-- WANTED: how many modes are needed; the SUM -/
def zneed (f : Nat → Nat) : Nat → Nat
  | 0 => 0
  | n + 1 => if f n + 1 > zneed f n then f n + 1 else zneed f n
def ztotF (sq ws : Nat → ZD) : Nat → ZD → ZD := fun i a => zA a (zM (zS (sq i) (ws i)) (zS (sq i) (ws i)))
def ztot (sq ws : Nat → ZD) (n : Nat) : ZD := zfold (ztotF sq ws) n z0
end
section
/-! 04b: springs, sweeps, modes: over data -/
theorem zu_id {α : Type} (f : Nat → α) (k : Nat) : zu f k (f k) = f := by
  funext j
  unfold zu
  split
  · next h => rw [h]
  · rfl
/-- springs without braces -/
def zsR (w : Nat) (T : Nat → ZD) (A : ZD) (x y : Nat) : ZD := if x + 1 < w ∧ zgt (T (y * w + x)) z0 = true ∧ zgt (T (y * w + (x + 1))) z0 = true then zspring A (T (y * w + x)) (T (y * w + (x + 1))) else z0
def zsN (w h : Nat) (T : Nat → ZD) (B : ZD) (x y : Nat) : ZD := if y + 1 < h ∧ zgt (T (y * w + x)) z0 = true ∧ zgt (T ((y + 1) * w + x)) z0 = true then zspring B (T (y * w + x)) (T ((y + 1) * w + x)) else z0
def zR0 (w : Nat) (T : Nat → ZD) (A : ZD) : Nat → ZD := fun i => zsR w T A (i % w) (i / w)
def zN0 (w h : Nat) (T : Nat → ZD) (B : ZD) : Nat → ZD := fun i => zsN w h T B (i % w) (i / w)
theorem zR0_at {w : Nat} {T : Nat → ZD} {A : ZD} {x y : Nat} (hx : x < w) : zR0 w T A (y * w + x) = zsR w T A x y := by unfold zR0; rw [zmod_x hx, zdiv_y hx]
theorem zN0_at {w h : Nat} {T : Nat → ZD} {B : ZD} {x y : Nat} (hx : x < w) : zN0 w h T B (y * w + x) = zsN w h T B x y := by unfold zN0; rw [zmod_x hx, zdiv_y hx]
/-- a brace's springs: the t-th along x from x0, y0; the t-th along y -/
def zbRV (w : Nat) (T : Nat → ZD) (x0 y0 : Nat) (g : ZD) (t : Nat) (R : Nat → ZD) : ZD := if zgt (T (y0 * w + (x0 + t))) z0 = true ∧ zgt (T (y0 * w + (x0 + t + 1))) z0 = true then zA (R (y0 * w + (x0 + t))) g else R (y0 * w + (x0 + t))
def zbRF (w : Nat) (T : Nat → ZD) (x0 y0 : Nat) (g : ZD) : Nat → (Nat → ZD) → Nat → ZD := fun t R => zu R (y0 * w + (x0 + t)) (zbRV w T x0 y0 g t R)
def zbNV (w : Nat) (T : Nat → ZD) (x0 y0 : Nat) (g : ZD) (t : Nat) (N : Nat → ZD) : ZD := if zgt (T ((y0 + t) * w + x0)) z0 = true ∧ zgt (T ((y0 + t + 1) * w + x0)) z0 = true then zA (N ((y0 + t) * w + x0)) g else N ((y0 + t) * w + x0)
def zbNF (w : Nat) (T : Nat → ZD) (x0 y0 : Nat) (g : ZD) : Nat → (Nat → ZD) → Nat → ZD := fun t N => zu N ((y0 + t) * w + x0) (zbNV w T x0 y0 g t N)
def zRB (w : Nat) (T : Nat → ZD) (A : ZD) (x0 y0 x1 : Nat → Nat) (g : Nat → ZD) (n : Nat) : Nat → ZD := zfold (fun k R => zfold (zbRF w T (x0 k) (y0 k) (g k)) (x1 k - x0 k) R) n (zR0 w T A)
def zNB (w h : Nat) (T : Nat → ZD) (B : ZD) (x0 y0 y1 : Nat → Nat) (g : Nat → ZD) (n : Nat) : Nat → ZD := zfold (fun k N => zfold (zbNF w T (x0 k) (y0 k) (g k)) (y1 k - y0 k) N) n (zN0 w h T B)
/-- a sweep -/
def zrelF (w h : Nat) (T R N : Nat → ZD) : Nat → (Nat → ZD) → Nat → ZD := fun i S => if zgt (T i) z0 = true then zu S i (zA (S i) (zQ (zM zhalf (zforce w h R N S (i % w) (i / w))) (zhold w h R N (i % w) (i / w)))) else S
def zrel (w h : Nat) (T R N : Nat → ZD) (n : Nat) (S : Nat → ZD) : Nat → ZD := zfold (zrelF w h T R N) n S
theorem zrel_t {w h : Nat} {T R N S : Nat → ZD} {x y : Nat} (hx : x < w) (hh : zgt (T (y * w + x)) z0 = true) : zrel w h T R N (y * w + x + 1) S = zu (zrel w h T R N (y * w + x) S) (y * w + x) (zA (zrel w h T R N (y * w + x) S (y * w + x)) (zQ (zM zhalf (zforce w h R N (zrel w h T R N (y * w + x) S) x y)) (zhold w h R N x y))) := by
  refine Eq.trans (if_pos hh) ?_
  rw [zmod_x hx, zdiv_y hx]
  rfl
theorem zrel_f {w h : Nat} {T R N S : Nat → ZD} {n : Nat} (hh : zgt (T n) z0 = false) : zrel w h T R N (n + 1) S = zrel w h T R N n S := if_neg (by rw [hh]; decide)
def ztk (T : Nat → ZD) (p : ZD) (L S : Nat → ZD) : Nat → ZD := fun i => if zgt (T i) z0 = true then zS (S i) (zM p (L i)) else z0
def ztake (T : Nat → ZD) (de : ZD) (n : Nat) (L : Nat → Nat → ZD) (k : Nat) (S : Nat → ZD) : Nat → ZD := zfold (fun j S => ztk T (zprod T S (L j) de n) (L j) S) k S
theorem ztake_s {T : Nat → ZD} {de : ZD} {n : Nat} {L : Nat → Nat → ZD} {k : Nat} {S : Nat → ZD} : ztake T de n L (k + 1) S = ztk T (zprod T (ztake T de n L k S) (L k) de n) (L k) (ztake T de n L k S) := rfl
def znrm (T : Nat → ZD) (z : ZD) (S : Nat → ZD) : Nat → ZD := fun i => if zgt (T i) z0 = true then zQ (S i) z else z0
def zsw1 (w h : Nat) (T R N : Nat → ZD) (de : ZD) (k : Nat) (L : Nat → Nat → ZD) (S : Nat → ZD) : Nat → ZD := ztake T de (w * h) L k (zrel w h T R N (w * h) S)
def zsz (w h : Nat) (T R N : Nat → ZD) (de : ZD) (k : Nat) (L : Nat → Nat → ZD) (S : Nat → ZD) : ZD := zroot (zprod T (zsw1 w h T R N de k L S) (zsw1 w h T R N de k L S) de (w * h))
def zswO (w h : Nat) (T R N : Nat → ZD) (de : ZD) (k : Nat) (L : Nat → Nat → ZD) (S0 : Nat → ZD) : Nat → Option (Nat → ZD)
  | 0 => some S0
  | n + 1 => match zswO w h T R N de k L S0 n with
    | none => none
    | some S => if zeq (zsz w h T R N de k L S) z0 = true then none else some (znrm T (zsz w h T R N de k L S) (zsw1 w h T R N de k L S))
theorem zswO_n {w h : Nat} {T R N : Nat → ZD} {de : ZD} {k : Nat} {L : Nat → Nat → ZD} {S0 S : Nat → ZD} {n : Nat} (e : zswO w h T R N de k L S0 n = some S) (hz : zeq (zsz w h T R N de k L S) z0 = true) : zswO w h T R N de k L S0 (n + 1) = none := by
  show (match zswO w h T R N de k L S0 n with | none => none | some S => if zeq (zsz w h T R N de k L S) z0 = true then none else some (znrm T (zsz w h T R N de k L S) (zsw1 w h T R N de k L S))) = none
  rw [e]
  exact if_pos hz
theorem zswO_s {w h : Nat} {T R N : Nat → ZD} {de : ZD} {k : Nat} {L : Nat → Nat → ZD} {S0 S : Nat → ZD} {n : Nat} (e : zswO w h T R N de k L S0 n = some S) (hz : zeq (zsz w h T R N de k L S) z0 = false) : zswO w h T R N de k L S0 (n + 1) = some (znrm T (zsz w h T R N de k L S) (zsw1 w h T R N de k L S)) := by
  show (match zswO w h T R N de k L S0 n with | none => none | some S => if zeq (zsz w h T R N de k L S) z0 = true then none else some (znrm T (zsz w h T R N de k L S) (zsw1 w h T R N de k L S))) = _
  rw [e]
  exact if_neg (by rw [hz]; decide)
theorem zswO_none {w h : Nat} {T R N : Nat → ZD} {de : ZD} {k : Nat} {L : Nat → Nat → ZD} {S0 : Nat → ZD} {n : Nat} (e : zswO w h T R N de k L S0 n = none) : ∀ j, zswO w h T R N de k L S0 (n + j) = none
  | 0 => e
  | j + 1 => by
    have h1 := zswO_none e j
    show (match zswO w h T R N de k L S0 (n + j) with | none => none | some S => if zeq (zsz w h T R N de k L S) z0 = true then none else some (znrm T (zsz w h T R N de k L S) (zsw1 w h T R N de k L S))) = none
    rw [h1]
/-- how a mode begins -/
def zbeg (x y k : Nat) : ZD := zA z1 (zQ (zv (FP.i2d (nI ((3 * x + 5 * y + 7 * k) % 11)))) (zv 4620693217682128896))
def zbegin (w : Nat) (T : Nat → ZD) (k : Nat) : Nat → ZD := fun i => if zgt (T i) z0 = true then zbeg (i % w) (i / w) k else z0
theorem zbegin_t {w : Nat} {T : Nat → ZD} {k x y : Nat} (hx : x < w) (h : zgt (T (y * w + x)) z0 = true) : zbegin w T k (y * w + x) = zbeg x y k := by
  unfold zbegin
  rw [if_pos h, zmod_x hx, zdiv_y hx]
theorem zbegin_f {w : Nat} {T : Nat → ZD} {k i : Nat} (h : zgt (T i) z0 = false) : zbegin w T k i = z0 := if_neg (by rw [h]; decide)
/-- the first n modes' shapes, if all are -/
def zshO (w h : Nat) (T R N : Nat → ZD) (de : ZD) : Nat → Option (Nat → Nat → ZD)
  | 0 => some (fun _ _ => z0)
  | k + 1 => match zshO w h T R N de k with
    | none => none
    | some L => match zswO w h T R N de k L (zbegin w T k) 24 with
      | none => none
      | some S => some (zu L k S)
theorem zshO_n {w h : Nat} {T R N : Nat → ZD} {de : ZD} {k : Nat} {L : Nat → Nat → ZD} (e : zshO w h T R N de k = some L) (e2 : zswO w h T R N de k L (zbegin w T k) 24 = none) : zshO w h T R N de (k + 1) = none := by
  show (match zshO w h T R N de k with | none => none | some L => match zswO w h T R N de k L (zbegin w T k) 24 with | none => none | some S => some (zu L k S)) = none
  rw [e]
  show (match zswO w h T R N de k L (zbegin w T k) 24 with | none => none | some S => some (zu L k S)) = none
  rw [e2]
theorem zshO_s {w h : Nat} {T R N : Nat → ZD} {de : ZD} {k : Nat} {L : Nat → Nat → ZD} {S : Nat → ZD} (e : zshO w h T R N de k = some L) (e2 : zswO w h T R N de k L (zbegin w T k) 24 = some S) : zshO w h T R N de (k + 1) = some (zu L k S) := by
  show (match zshO w h T R N de k with | none => none | some L => match zswO w h T R N de k L (zbegin w T k) 24 with | none => none | some S => some (zu L k S)) = _
  rw [e]
  show (match zswO w h T R N de k L (zbegin w T k) 24 with | none => none | some S => some (zu L k S)) = _
  rw [e2]
theorem zshO_none {w h : Nat} {T R N : Nat → ZD} {de : ZD} {k : Nat} (e : zshO w h T R N de k = none) : ∀ j, zshO w h T R N de (k + j) = none
  | 0 => e
  | j + 1 => by
    have h1 := zshO_none e j
    show (match zshO w h T R N de (k + j) with | none => none | some L => match zswO w h T R N de (k + j) L (zbegin w T (k + j)) 24 with | none => none | some S => some (zu L (k + j) S)) = none
    rw [h1]
/-- how many of the first n modes there are -/
def zcnt (w h : Nat) (T R N : Nat → ZD) (de : ZD) : Nat → Nat
  | 0 => 0
  | n + 1 => if (zshO w h T R N de (n + 1)).isSome = true then n + 1 else zcnt w h T R N de n
theorem zcnt_some {w h : Nat} {T R N : Nat → ZD} {de : ZD} {L : Nat → Nat → ZD} : ∀ {n : Nat}, zshO w h T R N de n = some L → zcnt w h T R N de n = n
  | 0, _ => rfl
  | n + 1, e => if_pos (by rw [e]; rfl)
theorem zcnt_none {w h : Nat} {T R N : Nat → ZD} {de : ZD} {L : Nat → Nat → ZD} {k : Nat} (e : zshO w h T R N de k = some L) (e2 : zshO w h T R N de (k + 1) = none) : ∀ j, zcnt w h T R N de (k + j) = k
  | 0 => zcnt_some e
  | j + 1 => by
    have h1 : zshO w h T R N de (k + j + 1) = none := by
      have h2 := zshO_none e2 j
      rw [show k + 1 + j = k + j + 1 by omega] at h2
      exact h2
    show (if (zshO w h T R N de (k + j + 1)).isSome = true then k + j + 1 else zcnt w h T R N de (k + j)) = k
    rw [if_neg (by rw [h1]; decide)]
    exact zcnt_none e e2 j
theorem zcnt_le {w h : Nat} {T R N : Nat → ZD} {de : ZD} : ∀ n, zcnt w h T R N de n ≤ n
  | 0 => Nat.le_refl _
  | n + 1 => by
    show (if (zshO w h T R N de (n + 1)).isSome = true then n + 1 else zcnt w h T R N de n) ≤ n + 1
    split
    · exact Nat.le_refl _
    · exact Nat.le_succ_of_le (zcnt_le n)
/-- mode j's shape -/
def zshp (w h : Nat) (T R N : Nat → ZD) (de : ZD) (j : Nat) : Nat → ZD := match zshO w h T R N de (j + 1) with
  | none => fun _ => z0
  | some L => L j
theorem zshO_at {w h : Nat} {T R N : Nat → ZD} {de : ZD} : ∀ {n : Nat} {L : Nat → Nat → ZD}, zshO w h T R N de n = some L → ∀ j, j < n → L j = zshp w h T R N de j
  | 0, _, _, j, hj => absurd hj (Nat.not_lt_zero j)
  | n + 1, L, e, j, hj => by
    cases e1 : zshO w h T R N de n with
    | none => rw [zshO_none e1 1] at e; cases e
    | some L1 =>
      cases e2 : zswO w h T R N de n L1 (zbegin w T n) 24 with
      | none => rw [zshO_n e1 e2] at e; cases e
      | some S =>
        have e3 := zshO_s e1 e2
        rw [e3] at e
        cases e
        by_cases hjn : j = n
        · subst hjn
          unfold zshp
          rw [e3]
        · rw [zu_n hjn]
          exact zshO_at e1 j (by omega)
/-! rows of the grid, partly done -/
theorem zgrid {x y x' y' : Nat} (hx : x < 6) (hx' : x' < 6) (h : 6 * y + x = 6 * y' + x') : x = x' ∧ y = y' := by omega
theorem zline {w x y x' y' : Nat} (hx : x < w) (hx' : x' < w) (h : y * w + x = y' * w + x') : x = x' ∧ y = y' := by
  have h1 := zmod_x (y := y) hx
  have h2 := zmod_x (y := y') hx'
  have h3 := zdiv_y (y := y) hx
  have h4 := zdiv_y (y := y') hx'
  rw [h] at h1 h3
  exact ⟨h1.symm.trans h2, h3.symm.trans h4⟩
def zgrp (f : Nat → UInt64) (w h : Nat) (F : Nat → ZD) (n : Nat) : Prop := ∀ x y, x < w → y < h → y * w + x < n → zv (f (6 * y + x)) = F (y * w + x)
theorem zgrp_0 {f : Nat → UInt64} {w h : Nat} {F : Nat → ZD} : zgrp f w h F 0 := fun _ _ _ _ h => absurd h (Nat.not_lt_zero _)
theorem zgrp_put {f : Nat → UInt64} {w h : Nat} {F : Nat → ZD} {x y : Nat} {v : UInt64} (hw : w ≤ 6) (g : zgrp f w h F (y * w + x)) (hx : x < w) (hv : zv v = F (y * w + x)) : zgrp (zu f (6 * y + x) v) w h F (y * w + x + 1) := by
  intro x' y' hx' hy' hn
  by_cases e : 6 * y' + x' = 6 * y + x
  · obtain ⟨rfl, rfl⟩ := zgrid (by omega) (by omega) e
    rw [zu_s]
    exact hv
  · rw [zu_n e]
    refine g x' y' hx' hy' ?_
    rcases Nat.lt_or_eq_of_le (Nat.le_of_lt_succ hn) with h1 | h1
    · exact h1
    · obtain ⟨rfl, rfl⟩ := zline hx' hx h1
      exact absurd rfl e
theorem zgrp_all {f : Nat → UInt64} {w h : Nat} {F : Nat → ZD} {n : Nat} (g : zgrp f w h F n) (hn : n = h * w) : zgr f w h F := fun x y hx hy => g x y hx hy (by
  have := zrow hx hy
  rw [hn, Nat.mul_comm h w]
  exact this)
theorem zgrp_n {f : Nat → UInt64} {w h : Nat} {F : Nat → ZD} {n n' : Nat} (g : zgrp f w h F n) (hn : n = n') : zgrp f w h F n' := hn ▸ g
theorem zgr_put {f : Nat → UInt64} {w h : Nat} {F : Nat → ZD} {x y : Nat} {v : UInt64} {V : ZD} (hw : w ≤ 6) (g : zgr f w h F) (hx : x < w) {i : Nat} (hi : i = 6 * y + x) (hv : zv v = V) : zgr (zu f i v) w h (zu F (y * w + x) V) := by
  subst hi
  intro x' y' hx' hy'
  by_cases e : 6 * y' + x' = 6 * y + x
  · obtain ⟨rfl, rfl⟩ := zgrid (by omega) (by omega) e
    rw [zu_s, zu_s]
    exact hv
  · rw [zu_n e, zu_n (fun e2 => by obtain ⟨rfl, rfl⟩ := zline hx' hx e2; exact e rfl)]
    exact g x' y' hx' hy'
theorem zgs_put {f : Nat → UInt64} {k w h : Nat} {F : Nat → ZD} {x y : Nat} {v : UInt64} {V : ZD} (hw : w ≤ 6) (g : zgs f k w h F) (hx : x < w) {i : Nat} (hi : i = 36 * k + 6 * y + x) (hv : zv v = V) : zgs (zu f i v) k w h (zu F (y * w + x) V) := by
  subst hi
  intro x' y' hx' hy'
  by_cases e : 36 * k + 6 * y' + x' = 36 * k + 6 * y + x
  · obtain ⟨rfl, rfl⟩ := zgrid (x := x') (x' := x) (y := y') (y' := y) (by omega) (by omega) (by omega)
    rw [zu_s, zu_s]
    exact hv
  · rw [zu_n e, zu_n (fun e2 => by obtain ⟨rfl, rfl⟩ := zline hx' hx e2; exact e rfl)]
    exact g x' y' hx' hy'
theorem zgs_low {f t : Nat → UInt64} {k j w h : Nat} {F : Nat → ZD} (hw : w ≤ 6) (hh : h ≤ 6) (hf : ∀ i, i < 36 * k → f i = t i) (hj : j < k) (g : zgs t j w h F) : zgs f j w h F := fun x y hx hy => by
  rw [hf _ (by omega)]
  exact g x y hx hy
/-- shape k, its first c places already new -/
def zgsp (f : Nat → UInt64) (k w h c : Nat) (G F : Nat → ZD) : Prop := ∀ x y, x < w → y < h → zv (f (36 * k + 6 * y + x)) = if 6 * y + x < c then G (y * w + x) else F (y * w + x)
theorem zgsp_0 {f : Nat → UInt64} {k w h : Nat} {G F : Nat → ZD} (g : zgs f k w h F) : zgsp f k w h 0 G F := fun x y hx hy => by
  rw [if_neg (Nat.not_lt_zero _)]
  exact g x y hx hy
theorem zgsp_all {f : Nat → UInt64} {k w h c : Nat} {G F : Nat → ZD} (hw : w ≤ 6) (hh : h ≤ 6) (hc : 36 ≤ c) (g : zgsp f k w h c G F) : zgs f k w h G := fun x y hx hy => by
  rw [g x y hx hy, if_pos (by omega)]
theorem zgsp_put {f : Nat → UInt64} {k w h c : Nat} {G F : Nat → ZD} {v : UInt64} (g : zgsp f k w h c G F) (hv : ∀ x y, x < w → y < h → 6 * y + x = c → zv v = G (y * w + x)) {i : Nat} (hi : i = 36 * k + c) : zgsp (zu f i v) k w h (c + 1) G F := by
  subst hi
  intro x y hx hy
  by_cases e : 6 * y + x = c
  · rw [show 36 * k + 6 * y + x = 36 * k + c by omega, zu_s, if_pos (by omega)]
    exact hv x y hx hy e
  · rw [zu_n (by omega), g x y hx hy]
    by_cases e2 : 6 * y + x < c
    · rw [if_pos e2, if_pos (by omega)]
    · rw [if_neg e2, if_neg (by omega)]
theorem ztk_w {f tT : Nat → UInt64} {k j w h c : Nat} {T G F L : Nat → ZD} {p : ZD} {v : UInt64} (gT : zgr tT w h T) (gp : zgsp f k w h c G F) (gL : zgs f j w h L) (hv : zv v = zS (zv (f (36 * k + c))) (zM p (zv (f (36 * j + c))))) (hw : zgt (zv (tT c)) z0 = true) : ∀ x y, x < w → y < h → 6 * y + x = c → zv v = ztk T p L F (y * w + x) := by
  intro x y hx hy e
  have h1 := gp x y hx hy
  rw [if_neg (by omega)] at h1
  have h2 := gL x y hx hy
  have h3 := gT x y hx hy
  rw [e] at h3
  rw [show 36 * k + 6 * y + x = 36 * k + c by omega] at h1
  rw [show 36 * j + 6 * y + x = 36 * j + c by omega] at h2
  rw [hv, h1, h2]
  rw [h3] at hw
  exact (if_pos hw).symm
theorem ztk_n {tT : Nat → UInt64} {w h c : Nat} {T F L : Nat → ZD} {p : ZD} {v : UInt64} (gT : zgr tT w h T) (hv : zv v = z0) (hw : zgt (zv (tT c)) z0 = false) : ∀ x y, x < w → y < h → 6 * y + x = c → zv v = ztk T p L F (y * w + x) := by
  intro x y hx hy e
  have h3 := gT x y hx hy
  rw [e] at h3
  rw [h3] at hw
  rw [hv]
  exact (if_neg (by rw [hw]; decide)).symm
theorem znrm_w {f tT : Nat → UInt64} {k w h c : Nat} {T G F : Nat → ZD} {z : ZD} {v : UInt64} (gT : zgr tT w h T) (gp : zgsp f k w h c G F) (hv : zv v = zQ (zv (f (36 * k + c))) z) (hw : zgt (zv (tT c)) z0 = true) : ∀ x y, x < w → y < h → 6 * y + x = c → zv v = znrm T z F (y * w + x) := by
  intro x y hx hy e
  have h1 := gp x y hx hy
  rw [if_neg (by omega)] at h1
  have h3 := gT x y hx hy
  rw [e] at h3
  rw [show 36 * k + 6 * y + x = 36 * k + c by omega] at h1
  rw [hv, h1]
  rw [h3] at hw
  exact (if_pos hw).symm
theorem znrm_n {tT : Nat → UInt64} {w h c : Nat} {T F : Nat → ZD} {z : ZD} {v : UInt64} (gT : zgr tT w h T) (hv : zv v = z0) (hw : zgt (zv (tT c)) z0 = false) : ∀ x y, x < w → y < h → 6 * y + x = c → zv v = znrm T z F (y * w + x) := by
  intro x y hx hy e
  have h3 := gT x y hx hy
  rw [e] at h3
  rw [h3] at hw
  rw [hv]
  exact (if_neg (by rw [hw]; decide)).symm
/-- a mode's beginning, the first c places of the grid -/
def zgsb (f : Nat → UInt64) (k w h c : Nat) (G : Nat → ZD) : Prop := ∀ x y, x < w → y < h → 6 * y + x < c → zv (f (36 * k + 6 * y + x)) = G (y * w + x)
theorem zgsb_0 {f : Nat → UInt64} {k w h : Nat} {G : Nat → ZD} : zgsb f k w h 0 G := fun _ _ _ _ h => absurd h (Nat.not_lt_zero _)
theorem zgsb_put {f : Nat → UInt64} {k w h c : Nat} {G : Nat → ZD} {v : UInt64} (g : zgsb f k w h c G) (hv : ∀ x y, x < w → y < h → 6 * y + x = c → zv v = G (y * w + x)) {i : Nat} (hi : i = 36 * k + c) : zgsb (zu f i v) k w h (c + 1) G := by
  subst hi
  intro x y hx hy hc
  by_cases e : 6 * y + x = c
  · rw [show 36 * k + 6 * y + x = 36 * k + c by omega, zu_s]
    exact hv x y hx hy e
  · rw [zu_n (by omega)]
    exact g x y hx hy (by omega)
theorem zgsb_all {f : Nat → UInt64} {k w h c : Nat} {G : Nat → ZD} (hw : w ≤ 6) (hh : h ≤ 6) (hc : 36 ≤ c) (g : zgsb f k w h c G) : zgs f k w h G := fun x y hx hy => g x y hx hy (by omega)
theorem zgsb_n {f : Nat → UInt64} {k w h c c' : Nat} {G : Nat → ZD} (g : zgsb f k w h c G) (e : c = c') : zgsb f k w h c' G := e ▸ g
end
section
/-! 05: the reference: its methods that only read -/
/-- the reference's cells -/
abbrev w5 (a0 aT aE aG aR aN aS aQ aW aX : Nat) (cD cI : ClassId) (th : Int32) (iw ih : Nat) (fa fb fd : UInt64) (ib : Nat) (mk : Bool) (im iq : Nat) (tT : Nat → UInt64) (tE : Nat → Int32) (tG tR tN tS tQ : Nat → UInt64) (tW : Nat → Int32) (tX : Nat → UInt64) : va_W :=
  [(a0, .inr (5, [.int th, .int (nI iw), .int (nI ih), .ref aT, .double fa, .double fb, .double fd, .int (nI ib), .ref aE, .ref aG, .ref aR, .ref aN, .int (zb mk), .int (nI im), .ref aS, .ref aQ, .int (nI iq), .ref aW, .ref aX])), (aT, .inl (cD, 36, .inr (.inr (.inr (.inl tT))))), (aE, .inl (cI, 48, .inl tE)), (aG, .inl (cD, 12, .inr (.inr (.inr (.inl tG))))), (aR, .inl (cD, 36, .inr (.inr (.inr (.inl tR))))), (aN, .inl (cD, 36, .inr (.inr (.inr (.inl tN))))), (aS, .inl (cD, 144, .inr (.inr (.inr (.inl tS))))), (aQ, .inl (cD, 4, .inr (.inr (.inr (.inl tQ))))), (aW, .inl (cI, 4, .inl tW)), (aX, .inl (cD, 4, .inr (.inr (.inr (.inl tX)))))]
set_option maxHeartbeats 4000000 in
set_option maxRecDepth 100000 in
/-- from <= v <= to -/
theorem c5_between (l : Launch) (v v0 v1 : UInt64) : Met l yX5_between wsX5_between ({ frames := 0, cells := 0, slots := 0, locals := 0 } : Room) (va_Pc [.double v, .double v0, .double v1] (fun _ => True)) (va_Qi (fun (r : Int32) (_ : Unit) => r = zb (zge (zv v) (zv v0) && zle (zv v) (zv v1))) (fun _ _ => True) (fun _ => False)) 0 0 (fun _ => False) := by
  refine Met.ofW (cc := cX5_between) (maxL := 6) (ret := (some .boolean)) (by decide) rfl ?_
  intro p e s m args below meth c s₁ B hml hv
  obtain ⟨rfl, -⟩ := hv
  have hx := B.exec
  have hb := B.bytes
  have hr := B.returns
  have hts := atoms_spec (ws := wsX5_between) B.pre
  have hown : s.vm.findClass RX5 = some m.cls := findClass_of_methodNamed B.named
  have hlocks := B.notSynchronized
  have hS : va_S (fun _ => False) s.heap s.heap [] := va_S.rf
  have hl := lv_entry ([.double v, .double v0, .double v1]) (n := 6) (Nat.le_of_ble_eq_true rfl)
  rw [lg_entry_eq]
  generalize (lg_sl ([.double v, .double v0, .double v1]) ++ List.replicate (6 - (lg_sl ([.double v, .double v0, .double v1])).length) Slot.unset).toArray = ls at hl ⊢
  have hl : lv_has ls 6 [(0, .double v), (2, .double v0), (4, .double v1)] := hl
  refine lv_dload_n hx hb dX5_between_0 rfl (lv_at hl 0 rfl) ?_
  refine lv_dload_n hx hb dX5_between_1 rfl (lv_at hl 1 rfl) ?_
  refine z_cmp_l_lt (tgt := 17) hx hb (a := zv v) (b := zv v0) rfl rfl dX5_between_2 dX5_between_3 (by decide) (fun c1 => ?_) (fun c2 => ?_)
  · skip
    have c_ge := c1
    refine lv_iconst (v := (nI 0)) hx hb dX5_between_17 (by decide) ?_
    exact W.zret (v := (nI 0)) hx hb hr rfl (fun t ht hW => ⟨⟨(nI 0), (), rfl, ⟨by rw [c_ge]; rfl, trivial⟩⟩, hS.F ht⟩) hS.2.2 dX5_between_18
  · skip
    have c_ge := c2
    refine lv_dload_n hx hb dX5_between_6 rfl (lv_at hl 0 rfl) ?_
    refine lv_dload hx hb dX5_between_7 (lv_at hl 2 rfl) ?_
    refine z_cmp_g_gt (tgt := 17) hx hb (a := zv v) (b := zv v1) rfl rfl dX5_between_9 dX5_between_10 (by decide) (fun c3 => ?_) (fun c4 => ?_)
    · skip
      have c_le := c3
      refine lv_iconst (v := (nI 0)) hx hb dX5_between_17 (by decide) ?_
      exact W.zret (v := (nI 0)) hx hb hr rfl (fun t ht hW => ⟨⟨(nI 0), (), rfl, ⟨by rw [c_ge, c_le]; rfl, trivial⟩⟩, hS.F ht⟩) hS.2.2 dX5_between_18
    · skip
      have c_le := c4
      refine lv_iconst (v := (nI 1)) hx hb dX5_between_13 (by decide) ?_
      refine lv_goto (tgt := 18) hx hb dX5_between_14 (by decide) ?_
      exact W.zret (v := (nI 1)) hx hb hr rfl (fun t ht hW => ⟨⟨(nI 1), (), rfl, ⟨by rw [c_ge, c_le]; rfl, trivial⟩⟩, hS.F ht⟩) hS.2.2 dX5_between_18
/-- a truth value of ints -/
def zp (c : Prop) [Decidable c] : Int32 := if c then 1 else 0
theorem znc_t (c : Prop) [Decidable c] (h : c) : nI 1 = zp c := by rw [zp, if_pos h]; rfl
theorem znc_f (c : Prop) [Decidable c] (h : ¬ c) : nI 0 = zp c := by rw [zp, if_neg h]; rfl
theorem in_X5_noCell_X5 : ∀ w ∈ wsX50, w ∈ wsX5_noCell := fun w h => List.mem_cons_of_mem _ (List.mem_append_right _ h)
set_option maxHeartbeats 4000000 in
set_option maxRecDepth 100000 in
/-- whether there is no such cell -/
theorem c5_noCell (l : Launch) (dC : Nat → ClassId) (dI : Nat → Nat → Nat) (a0 aT aE aG aR aN aS aQ aW aX : Nat) (cD cI : ClassId) (th : Int32) (iw ih : Nat) (fa fb fd : UInt64) (ib : Nat) (mk : Bool) (im iq : Nat) (tT : Nat → UInt64) (tE : Nat → Int32) (tG tR tN tS tQ : Nat → UInt64) (tW : Nat → Int32) (tX : Nat → UInt64) (x y : Int32) : Met l yX5_noCell wsX5_noCell ({ frames := 0, cells := 0, slots := 0, locals := 0 } : Room) (va_Pc [.ref a0, .int x, .int y] (fun U => va_P (dC, dI) vwCl (w5 a0 aT aE aG aR aN aS aQ aW aX cD cI th iw ih fa fb fd ib mk im iq tT tE tG tR tN tS tQ tW tX) U.heap ∧ va_K (dC, dI) vwCl [(cD, .double), (cI, .int)] U)) (va_Qi (fun (r : Int32) (_ : Unit) => r = zp (x < 0 ∨ nI iw ≤ x ∨ y < 0 ∨ nI ih ≤ y)) (fun _ _ => True) (fun _ => False)) 0 0 (fun _ => False) := by
  refine Met.ofW (cc := cX5_noCell) (maxL := 3) (ret := (some .boolean)) (by decide) rfl ?_
  intro p e s m args below meth c s₁ B hml hv
  obtain ⟨rfl, hP0, hK⟩ := hv
  have hx := B.exec
  have hb := B.bytes
  have hr := B.returns
  have hts := atoms_spec (ws := wsX5_noCell) B.pre
  have hown : s.vm.findClass RX5 = some m.cls := findClass_of_methodNamed B.named
  have hlocks := B.notSynchronized
  have hS : va_S (fun _ => False) s.heap s.heap [] := va_S.rf
  have hP := hP0
  have hl := lv_entry ([.ref a0, .int x, .int y]) (n := 3) (Nat.le_of_ble_eq_true rfl)
  rw [lg_entry_eq]
  generalize (lg_sl ([.ref a0, .int x, .int y]) ++ List.replicate (3 - (lg_sl ([.ref a0, .int x, .int y])).length) Slot.unset).toArray = ls at hl ⊢
  have hl : lv_has ls 3 [(0, .ref a0), (1, .int x), (2, .int y)] := hl
  refine lv_iload_n hx hb dX5_noCell_0 rfl (lv_at hl 1 rfl) ?_
  refine lv_if_lt (tgt := 24) hx hb dX5_noCell_1 (by decide) (fun c1 => ?_) (fun c2 => ?_)
  · skip
    refine lv_iconst (v := (nI 1)) hx hb dX5_noCell_24 (by decide) ?_
    refine lv_goto (tgt := 29) hx hb dX5_noCell_25 (by decide) ?_
    exact W.zret (v := (nI 1)) hx hb hr rfl (fun t ht hW => ⟨⟨(nI 1), (), rfl, ⟨znc_t _ (by simp [*]), trivial⟩⟩, hS.F ht⟩) hS.2.2 dX5_noCell_29
  · skip
    refine lv_iload_n hx hb dX5_noCell_4 rfl (lv_at hl 1 rfl) ?_
    refine lv_aload_n hx hb dX5_noCell_5 rfl (lv_at hl 0 rfl) ?_
    refine va_get (D := (dC, dI)) (ci := 5) (v := .int (nI iw)) (C := RX5) (T := TX5) (N := 19) hx hb hts (in_X5_noCell_X5) hown hK hP 0 rfl rfl 1 (by decide) (hts (.fieldLink RX5 48 "PlateModesModel" "width" "I") (by decide +kernel)) (fun _ h9 => h9) rfl dX5_noCell_6 ?_
    refine lv_icmp_ge (tgt := 24) hx hb dX5_noCell_9 (by decide) (fun c3 => ?_) (fun c4 => ?_)
    · skip
      refine lv_iconst (v := (nI 1)) hx hb dX5_noCell_24 (by decide) ?_
      refine lv_goto (tgt := 29) hx hb dX5_noCell_25 (by decide) ?_
      exact W.zret (v := (nI 1)) hx hb hr rfl (fun t ht hW => ⟨⟨(nI 1), (), rfl, ⟨znc_t _ (by simp [*]), trivial⟩⟩, hS.F ht⟩) hS.2.2 dX5_noCell_29
    · skip
      refine lv_iload_n hx hb dX5_noCell_12 rfl (lv_at hl 2 rfl) ?_
      refine lv_if_lt (tgt := 24) hx hb dX5_noCell_13 (by decide) (fun c5 => ?_) (fun c6 => ?_)
      · skip
        refine lv_iconst (v := (nI 1)) hx hb dX5_noCell_24 (by decide) ?_
        refine lv_goto (tgt := 29) hx hb dX5_noCell_25 (by decide) ?_
        exact W.zret (v := (nI 1)) hx hb hr rfl (fun t ht hW => ⟨⟨(nI 1), (), rfl, ⟨znc_t _ (by simp [*]), trivial⟩⟩, hS.F ht⟩) hS.2.2 dX5_noCell_29
      · skip
        refine lv_iload_n hx hb dX5_noCell_16 rfl (lv_at hl 2 rfl) ?_
        refine lv_aload_n hx hb dX5_noCell_17 rfl (lv_at hl 0 rfl) ?_
        refine va_get (D := (dC, dI)) (ci := 5) (v := .int (nI ih)) (C := RX5) (T := TX5) (N := 19) hx hb hts (in_X5_noCell_X5) hown hK hP 0 rfl rfl 2 (by decide) (hts (.fieldLink RX5 52 "PlateModesModel" "height" "I") (by decide +kernel)) (fun _ h9 => h9) rfl dX5_noCell_18 ?_
        refine lv_icmp_lt (tgt := 28) hx hb dX5_noCell_21 (by decide) (fun c7 => ?_) (fun c8 => ?_)
        · skip
          refine lv_iconst (v := (nI 0)) hx hb dX5_noCell_28 (by decide) ?_
          exact W.zret (v := (nI 0)) hx hb hr rfl (fun t ht hW => ⟨⟨(nI 0), (), rfl, ⟨znc_f _ (by simp [*]), trivial⟩⟩, hS.F ht⟩) hS.2.2 dX5_noCell_29
        · skip
          have cz := Int32.not_lt.mp c8
          refine lv_iconst (v := (nI 1)) hx hb dX5_noCell_24 (by decide) ?_
          refine lv_goto (tgt := 29) hx hb dX5_noCell_25 (by decide) ?_
          exact W.zret (v := (nI 1)) hx hb hr rfl (fun t ht hW => ⟨⟨(nI 1), (), rfl, ⟨znc_t _ (by simp [*]), trivial⟩⟩, hS.F ht⟩) hS.2.2 dX5_noCell_29
set_option maxHeartbeats 4000000 in
set_option maxRecDepth 100000 in
/-- ROOT -/
theorem c5_root (l : Launch) (v : UInt64) : MetD lw_cs l yX5_root wsX5_root ({ frames := 0, cells := 0, slots := 0, locals := 0 } : Room) (va_Pc [.double v] (fun _ => True)) (va_Qd (fun (r : UInt64) (_ : Unit) => zv r = zroot (zv v)) (fun _ _ => True) (fun _ => False)) 0 0 (fun _ => False) := by
  refine MetD.ofW (cc := cX5_root) (maxL := 5) (ret := (some .double)) (by decide) rfl ?_
  intro p e s m args below meth c s₁ B hml hv hd0
  obtain ⟨rfl, -⟩ := hv
  have hx := B.exec
  have hb := B.bytes
  have hr := B.returns
  have hts := atoms_spec (ws := wsX5_root) B.pre
  have hown : s.vm.findClass RX5 = some m.cls := findClass_of_methodNamed B.named
  have hlocks := B.notSynchronized
  have hS : va_S (fun _ => False) s.heap s.heap [] := va_S.rf
  have hl := lv_entry ([.double v]) (n := 5) (Nat.le_of_ble_eq_true rfl)
  rw [lg_entry_eq]
  generalize (lg_sl ([.double v]) ++ List.replicate (5 - (lg_sl ([.double v])).length) Slot.unset).toArray = ls at hl ⊢
  have hl : lv_has ls 5 [(0, .double v)] := hl
  refine lv_dload_n hx hb dX5_root_0 rfl (lv_at hl 0 rfl) ?_
  refine lv_dconst0 hx hb dX5_root_1 ?_
  refine z_cmp_l_gt (tgt := 8) hx hb (a := zv v) (b := z0) rfl rfl dX5_root_2 dX5_root_3 (by decide) (fun c1 => ?_) (fun c2 => ?_)
  · skip
    have c_gt := c1
    refine lv_dconst1 hx hb dX5_root_8 ?_
    refine lv_dload_n hx hb dX5_root_9 rfl (lv_at hl 0 rfl) ?_
    refine zr_dadd hd0 hx hb (a := z1) (b := zv v) rfl rfl dX5_root_10 (fun r3 d4 hr3 hd4 => ?_)
    refine lv_dstore_n (lv' := [(2, .double r3), (0, .double v)]) hx hb dX5_root_11 rfl hl (by decide) rfl (fun ls hl => ?_)
    refine lv_iconst (v := (nI 0)) hx hb dX5_root_12 (by decide) ?_
    refine lv_istore (lv' := [(4, .int (nI 0)), (2, .double r3), (0, .double v)]) hx hb dX5_root_13 hl (by decide) rfl (fun ls hl => ?_)
    have L_15 : ∀ (n : Nat) (i : Nat) (r : UInt64) (d0 : Drawn) (H : Heap) (locs : List Loc) (ls : Array Slot), 30 - i < n → (i ≤ 30) → (zv r = zfold (zrootF (zv v)) i (zA z1 (zv v))) → s.drawn.sameBut d0 lw_cs → va_S (fun _ => False) s.heap H locs → lv_has ls 5 [(4, .int (nI i)), (2, .double r), (0, .double v)] → W p l e (headSpec wsX5_root ({ frames := 0, cells := 0, slots := 0, locals := 0 } : Room)).room (s.setDrawn d0) m ([.double v] : List Value).toArray below meth c H locs 0 0 (MQD lw_cs below (va_Qd (fun (r : UInt64) (_ : Unit) => zv r = zroot (zv v)) (fun _ _ => True) (fun _ => False)) ([.double v] : List Value).toArray s 0 0 (fun _ => False)) (F0 m 15 ls []) := by
      intro n
      induction n with
      | zero => intro i r d0 H locs ls hn; exact absurd hn (Nat.not_lt_zero _)
      | succ n ih_L_15 =>
        intro i r d0 H locs ls hn hi hr0 hd0 hS hl
        refine lv_iload hx hb dX5_root_15 (lv_at hl 0 rfl) ?_
        refine lv_bipush (v := (nI 30)) hx hb dX5_root_17 (by decide) ?_
        refine z_icmp_ge (a := i) (b := 30) (tgt := 38) hx hb (by omega) (by omega) dX5_root_19 (by decide) (fun c5 => ?_) (fun c6 => ?_)
        · skip
          refine lv_dload_n hx hb dX5_root_38 rfl (lv_at hl 1 rfl) ?_
          refine W.endD hd0 ?_
          exact W.dret (v := r) hx hb hr (fun t ht hW => ⟨⟨r, (), rfl, ⟨by dsimp only; rw [zroot_t c_gt, hr0, show i = 30 by omega], trivial⟩⟩, hS.F ht⟩) hS.2.2 dX5_root_39
        · skip
          refine lv_dload_n hx hb dX5_root_22 rfl (lv_at hl 1 rfl) ?_
          refine lv_dload_n hx hb dX5_root_23 rfl (lv_at hl 2 rfl) ?_
          refine lv_dload_n hx hb dX5_root_24 rfl (lv_at hl 1 rfl) ?_
          refine zr_ddiv hd0 hx hb (a := zv v) (b := zfold (zrootF (zv v)) i (zA z1 (zv v))) rfl hr0 dX5_root_25 (fun r7 d8 hr7 hd8 => ?_)
          refine zr_dadd hd8 hx hb (a := zfold (zrootF (zv v)) i (zA z1 (zv v))) (b := zQ (zv v) (zfold (zrootF (zv v)) i (zA z1 (zv v)))) hr0 hr7 dX5_root_26 (fun r9 d10 hr9 hd10 => ?_)
          refine lv_ldc2d (v := 4611686018427387904) hx hb hown (dr_words hts d10 (.constantDouble RX5 58 (4611686018427387904)) (by decide +kernel)) dX5_root_27 ?_
          refine zr_ddiv hd10 hx hb (a := zA (zfold (zrootF (zv v)) i (zA z1 (zv v))) (zQ (zv v) (zfold (zrootF (zv v)) i (zA z1 (zv v))))) (b := zv 4611686018427387904) hr9 rfl dX5_root_30 (fun r11 d12 hr11 hd12 => ?_)
          refine lv_dstore_n (lv' := [(2, .double r11), (4, .int (nI i)), (0, .double v)]) hx hb dX5_root_31 rfl hl (by decide) rfl (fun ls hl => ?_)
          refine lv_iinc (v := nI (i + 1)) (lv' := [(4, .int (nI (i + 1))), (2, .double r11), (0, .double v)]) hx hb dX5_root_32 hl (k := 1) rfl (show nI i + nI 1 = _ from zi_add (by omega)) (by decide) rfl (fun ls hl => ?_)
          refine lv_goto (tgt := 15) hx hb dX5_root_35 (by decide) ?_
          exact ih_L_15 (i + 1) r11 _ _ _ _ (by omega) (by omega) hr11 hd12 hS hl
    exact L_15 _ 0 r3 _ _ _ _ (Nat.lt_succ_self _) (by omega) hr3 hd4 hS hl
  · skip
    have c_gt := c2
    refine lv_dconst0 hx hb dX5_root_6 ?_
    refine W.endD hd0 ?_
    exact W.dret (v := FP.dconst0) hx hb hr (fun t ht hW => ⟨⟨FP.dconst0, (), rfl, ⟨(zroot_f c_gt).symm, trivial⟩⟩, hS.F ht⟩) hS.2.2 dX5_root_7
theorem in_X5_isWood_X5 : ∀ w ∈ wsX50, w ∈ wsX5_isWood := fun w h => List.mem_cons_of_mem _ (List.mem_append_right _ h)
set_option maxHeartbeats 4000000 in
set_option maxRecDepth 100000 in
/-- whether wood is there -/
theorem c5_isWood (l : Launch) (dC : Nat → ClassId) (dI : Nat → Nat → Nat) (a0 aT aE aG aR aN aS aQ aW aX : Nat) (cD cI : ClassId) (th : Int32) (iw ih : Nat) (fa fb fd : UInt64) (ib : Nat) (mk : Bool) (im iq : Nat) (tT : Nat → UInt64) (tE : Nat → Int32) (tG tR tN tS tQ : Nat → UInt64) (tW : Nat → Int32) (tX : Nat → UInt64) (k : Nat) (hk : k < 36) : Met l yX5_isWood wsX5_isWood ({ frames := 0, cells := 0, slots := 0, locals := 0 } : Room) (va_Pc [.ref a0, .int (nI k)] (fun U => va_P (dC, dI) vwCl (w5 a0 aT aE aG aR aN aS aQ aW aX cD cI th iw ih fa fb fd ib mk im iq tT tE tG tR tN tS tQ tW tX) U.heap ∧ va_K (dC, dI) vwCl [(cD, .double), (cI, .int)] U)) (va_Qi (fun (r : Int32) (_ : Unit) => r = zb (zgt (zv (tT k)) z0)) (fun _ _ => True) (fun _ => False)) 0 0 (fun _ => False) := by
  refine Met.ofW (cc := cX5_isWood) (maxL := 2) (ret := (some .boolean)) (by decide) rfl ?_
  intro p e s m args below meth c s₁ B hml hv
  obtain ⟨rfl, hP0, hK⟩ := hv
  have hx := B.exec
  have hb := B.bytes
  have hr := B.returns
  have hts := atoms_spec (ws := wsX5_isWood) B.pre
  have hown : s.vm.findClass RX5 = some m.cls := findClass_of_methodNamed B.named
  have hlocks := B.notSynchronized
  have hS : va_S (fun _ => False) s.heap s.heap [] := va_S.rf
  have hP := hP0
  have hl := lv_entry ([.ref a0, .int (nI k)]) (n := 2) (Nat.le_of_ble_eq_true rfl)
  rw [lg_entry_eq]
  generalize (lg_sl ([.ref a0, .int (nI k)]) ++ List.replicate (2 - (lg_sl ([.ref a0, .int (nI k)])).length) Slot.unset).toArray = ls at hl ⊢
  have hl : lv_has ls 2 [(0, .ref a0), (1, .int (nI k))] := hl
  refine lv_aload_n hx hb dX5_isWood_0 rfl (lv_at hl 0 rfl) ?_
  refine va_get (D := (dC, dI)) (ci := 5) (v := .ref aT) (C := RX5) (T := TX5) (N := 19) hx hb hts (in_X5_isWood_X5) hown hK hP 0 rfl rfl 3 (by decide) (hts (.fieldLink RX5 7 "PlateModesModel" "thicks" "[D") (by decide +kernel)) (fun _ h9 => h9) rfl dX5_isWood_1 ?_
  refine lv_iload_n hx hb dX5_isWood_4 rfl (lv_at hl 1 rfl) ?_
  refine z_dald (n := 36) (i := k) hx hb hK hP 1 0 rfl rfl (by omega) (by decide) dX5_isWood_5 ?_
  refine lv_dconst0 hx hb dX5_isWood_6 ?_
  refine z_cmp_l_le (tgt := 15) hx hb (a := zv (tT k)) (b := z0) rfl rfl dX5_isWood_7 dX5_isWood_8 (by decide) (fun c1 => ?_) (fun c2 => ?_)
  · skip
    have c_gt := c1
    refine lv_iconst (v := (nI 0)) hx hb dX5_isWood_15 (by decide) ?_
    exact W.zret (v := (nI 0)) hx hb hr rfl (fun t ht hW => ⟨⟨(nI 0), (), rfl, ⟨by rw [c_gt]; rfl, trivial⟩⟩, hS.F ht⟩) hS.2.2 dX5_isWood_16
  · skip
    have c_gt := c2
    refine lv_iconst (v := (nI 1)) hx hb dX5_isWood_11 (by decide) ?_
    refine lv_goto (tgt := 16) hx hb dX5_isWood_12 (by decide) ?_
    exact W.zret (v := (nI 1)) hx hb hr rfl (fun t ht hW => ⟨⟨(nI 1), (), rfl, ⟨by rw [c_gt]; rfl, trivial⟩⟩, hS.F ht⟩) hS.2.2 dX5_isWood_16
set_option maxHeartbeats 4000000 in
set_option maxRecDepth 100000 in
/-- a spring -/
theorem c5_spring (l : Launch) (ra v0 v1 : UInt64) : MetD lw_cs l yX5_spring wsX5_spring ({ frames := 0, cells := 0, slots := 0, locals := 0 } : Room) (va_Pc [.double ra, .double v0, .double v1] (fun _ => True)) (va_Qd (fun (r : UInt64) (_ : Unit) => zv r = zspring (zv ra) (zv v0) (zv v1)) (fun _ _ => True) (fun _ => False)) 0 0 (fun _ => False) := by
  refine MetD.ofW (cc := cX5_spring) (maxL := 8) (ret := (some .double)) (by decide) rfl ?_
  intro p e s m args below meth c s₁ B hml hv hd0
  obtain ⟨rfl, -⟩ := hv
  have hx := B.exec
  have hb := B.bytes
  have hr := B.returns
  have hts := atoms_spec (ws := wsX5_spring) B.pre
  have hown : s.vm.findClass RX5 = some m.cls := findClass_of_methodNamed B.named
  have hlocks := B.notSynchronized
  have hS : va_S (fun _ => False) s.heap s.heap [] := va_S.rf
  have hl := lv_entry ([.double ra, .double v0, .double v1]) (n := 8) (Nat.le_of_ble_eq_true rfl)
  rw [lg_entry_eq]
  generalize (lg_sl ([.double ra, .double v0, .double v1]) ++ List.replicate (8 - (lg_sl ([.double ra, .double v0, .double v1])).length) Slot.unset).toArray = ls at hl ⊢
  have hl : lv_has ls 8 [(0, .double ra), (2, .double v0), (4, .double v1)] := hl
  refine lv_dload_n hx hb dX5_spring_0 rfl (lv_at hl 1 rfl) ?_
  refine lv_dload hx hb dX5_spring_1 (lv_at hl 2 rfl) ?_
  refine zr_dadd hd0 hx hb (a := zv v0) (b := zv v1) rfl rfl dX5_spring_3 (fun r1 d2 hr1 hd2 => ?_)
  refine lv_ldc2d (v := 4611686018427387904) hx hb hown (dr_words hts d2 (.constantDouble RX5 58 (4611686018427387904)) (by decide +kernel)) dX5_spring_4 ?_
  refine zr_ddiv hd2 hx hb (a := zA (zv v0) (zv v1)) (b := zv 4611686018427387904) hr1 rfl dX5_spring_7 (fun r3 d4 hr3 hd4 => ?_)
  refine lv_dstore (lv' := [(6, .double r3), (0, .double ra), (2, .double v0), (4, .double v1)]) hx hb dX5_spring_8 hl (by decide) rfl (fun ls hl => ?_)
  refine lv_dload_n hx hb dX5_spring_10 rfl (lv_at hl 1 rfl) ?_
  refine lv_dload hx hb dX5_spring_11 (lv_at hl 0 rfl) ?_
  refine zr_dmul hd4 hx hb (a := zv ra) (b := zQ (zA (zv v0) (zv v1)) (zv 4611686018427387904)) rfl hr3 dX5_spring_13 (fun r5 d6 hr5 hd6 => ?_)
  refine lv_dload hx hb dX5_spring_14 (lv_at hl 0 rfl) ?_
  refine zr_dmul hd6 hx hb (a := zM (zv ra) (zQ (zA (zv v0) (zv v1)) (zv 4611686018427387904))) (b := zQ (zA (zv v0) (zv v1)) (zv 4611686018427387904)) hr5 hr3 dX5_spring_16 (fun r7 d8 hr7 hd8 => ?_)
  refine lv_dload hx hb dX5_spring_17 (lv_at hl 0 rfl) ?_
  refine zr_dmul hd8 hx hb (a := zM (zM (zv ra) (zQ (zA (zv v0) (zv v1)) (zv 4611686018427387904))) (zQ (zA (zv v0) (zv v1)) (zv 4611686018427387904))) (b := zQ (zA (zv v0) (zv v1)) (zv 4611686018427387904)) hr7 hr3 dX5_spring_19 (fun r9 d10 hr9 hd10 => ?_)
  refine W.endD hd10 ?_
  exact W.dret (v := r9) hx hb hr (fun t ht hW => ⟨⟨r9, (), rfl, ⟨hr9, trivial⟩⟩, hS.F ht⟩) hS.2.2 dX5_spring_20
theorem in_X5_mass_X5 : ∀ w ∈ wsX50, w ∈ wsX5_mass := fun w h => List.mem_cons_of_mem _ (List.mem_append_right _ h)
set_option maxHeartbeats 4000000 in
set_option maxRecDepth 100000 in
/-- a mass -/
theorem c5_mass (l : Launch) (dC : Nat → ClassId) (dI : Nat → Nat → Nat) (a0 aT aE aG aR aN aS aQ aW aX : Nat) (cD cI : ClassId) (th : Int32) (iw ih : Nat) (fa fb fd : UInt64) (ib : Nat) (mk : Bool) (im iq : Nat) (tT : Nat → UInt64) (tE : Nat → Int32) (tG tR tN tS tQ : Nat → UInt64) (tW : Nat → Int32) (tX : Nat → UInt64) (k : Nat) (hk : k < 36) : MetD lw_cs l yX5_mass wsX5_mass ({ frames := 0, cells := 0, slots := 0, locals := 0 } : Room) (va_Pc [.ref a0, .int (nI k)] (fun U => va_P (dC, dI) vwCl (w5 a0 aT aE aG aR aN aS aQ aW aX cD cI th iw ih fa fb fd ib mk im iq tT tE tG tR tN tS tQ tW tX) U.heap ∧ va_K (dC, dI) vwCl [(cD, .double), (cI, .int)] U)) (va_Qd (fun (r : UInt64) (_ : Unit) => zv r = zM (zv (tT k)) (zv fd)) (fun _ _ => True) (fun _ => False)) 0 0 (fun _ => False) := by
  refine MetD.ofW (cc := cX5_mass) (maxL := 2) (ret := (some .double)) (by decide) rfl ?_
  intro p e s m args below meth c s₁ B hml hv hd0
  obtain ⟨rfl, hP0, hK⟩ := hv
  have hx := B.exec
  have hb := B.bytes
  have hr := B.returns
  have hts := atoms_spec (ws := wsX5_mass) B.pre
  have hown : s.vm.findClass RX5 = some m.cls := findClass_of_methodNamed B.named
  have hlocks := B.notSynchronized
  have hS : va_S (fun _ => False) s.heap s.heap [] := va_S.rf
  have hP := hP0
  have hl := lv_entry ([.ref a0, .int (nI k)]) (n := 2) (Nat.le_of_ble_eq_true rfl)
  rw [lg_entry_eq]
  generalize (lg_sl ([.ref a0, .int (nI k)]) ++ List.replicate (2 - (lg_sl ([.ref a0, .int (nI k)])).length) Slot.unset).toArray = ls at hl ⊢
  have hl : lv_has ls 2 [(0, .ref a0), (1, .int (nI k))] := hl
  refine lv_aload_n hx hb dX5_mass_0 rfl (lv_at hl 0 rfl) ?_
  refine va_get (D := (dC, dI)) (ci := 5) (v := .ref aT) (C := RX5) (T := TX5) (N := 19) hx hb (dr_words hts s.drawn) (in_X5_mass_X5) hown hK hP 0 rfl rfl 3 (by decide) (dr_words hts s.drawn (.fieldLink RX5 7 "PlateModesModel" "thicks" "[D") (by decide +kernel)) (fun _ h9 => h9) rfl dX5_mass_1 ?_
  refine lv_iload_n hx hb dX5_mass_4 rfl (lv_at hl 1 rfl) ?_
  refine z_dald (s := s.setDrawn s.drawn) (n := 36) (i := k) hx hb hK hP 1 0 rfl rfl (by omega) (by decide) dX5_mass_5 ?_
  refine lv_aload_n hx hb dX5_mass_6 rfl (lv_at hl 0 rfl) ?_
  refine va_get (D := (dC, dI)) (ci := 5) (v := .double fd) (C := RX5) (T := TX5) (N := 19) hx hb (dr_words hts s.drawn) (in_X5_mass_X5) hown hK hP 0 rfl rfl 6 (by decide) (dr_words hts s.drawn (.fieldLink RX5 20 "PlateModesModel" "density" "D") (by decide +kernel)) (fun _ h9 => h9) rfl dX5_mass_7 ?_
  refine zr_dmul hd0 hx hb (a := zv (tT k)) (b := zv fd) rfl rfl dX5_mass_10 (fun r1 d2 hr1 hd2 => ?_)
  refine W.endD hd2 ?_
  exact W.dret (v := r1) hx hb hr (fun t ht hW => ⟨⟨r1, (), rfl, ⟨hr1, trivial⟩⟩, hS.F ht⟩) hS.2.2 dX5_mass_11
theorem in_X5_force_X5 : ∀ w ∈ wsX50, w ∈ wsX5_force := fun w h => List.mem_cons_of_mem _ (List.mem_append_right _ h)
set_option maxHeartbeats 4000000 in
set_option maxRecDepth 100000 in
/-- FORCE at a cell -/
theorem c5_force (l : Launch) (dC : Nat → ClassId) (dI : Nat → Nat → Nat) (a0 aT aE aG aR aN aS aQ aW aX : Nat) (cD cI : ClassId) (th : Int32) (iw ih : Nat) (fa fb fd : UInt64) (ib : Nat) (mk : Bool) (im iq : Nat) (tT : Nat → UInt64) (tE : Nat → Int32) (tG tR tN tS tQ : Nat → UInt64) (tW : Nat → Int32) (tX : Nat → UInt64) (k x y : Nat) (hk : k < 4) (hxw : x < iw) (hyh : y < ih) (hw6 : iw ≤ 6) (hh6 : ih ≤ 6) (R N S : Nat → ZD) (gR : zgr tR iw ih R) (gN : zgr tN iw ih N) (gS : zgs tS k iw ih S) : MetD lw_cs l yX5_force wsX5_force ({ frames := 0, cells := 0, slots := 0, locals := 0 } : Room) (va_Pc [.ref a0, .int (nI k), .int (nI x), .int (nI y)] (fun U => va_P (dC, dI) vwCl (w5 a0 aT aE aG aR aN aS aQ aW aX cD cI th iw ih fa fb fd ib mk im iq tT tE tG tR tN tS tQ tW tX) U.heap ∧ va_K (dC, dI) vwCl [(cD, .double), (cI, .int)] U)) (va_Qd (fun (r : UInt64) (_ : Unit) => zv r = zforce iw ih R N S x y) (fun _ _ => True) (fun _ => False)) 0 0 (fun _ => False) := by
  refine MetD.ofW (cc := cX5_force) (maxL := 8) (ret := (some .double)) (by decide) rfl ?_
  intro p e s m args below meth c s₁ B hml hv hd0
  obtain ⟨rfl, hP0, hK⟩ := hv
  have hx := B.exec
  have hb := B.bytes
  have hr := B.returns
  have hts := atoms_spec (ws := wsX5_force) B.pre
  have hown : s.vm.findClass RX5 = some m.cls := findClass_of_methodNamed B.named
  have hlocks := B.notSynchronized
  have hS : va_S (fun _ => False) s.heap s.heap [] := va_S.rf
  have hP := hP0
  have hl := lv_entry ([.ref a0, .int (nI k), .int (nI x), .int (nI y)]) (n := 8) (Nat.le_of_ble_eq_true rfl)
  rw [lg_entry_eq]
  generalize (lg_sl ([.ref a0, .int (nI k), .int (nI x), .int (nI y)]) ++ List.replicate (8 - (lg_sl ([.ref a0, .int (nI k), .int (nI x), .int (nI y)])).length) Slot.unset).toArray = ls at hl ⊢
  have hl : lv_has ls 8 [(0, .ref a0), (1, .int (nI k)), (2, .int (nI x)), (3, .int (nI y))] := hl
  refine lv_bipush (v := (nI 6)) hx hb dX5_force_0 (by decide) ?_
  refine lv_iload_n hx hb dX5_force_2 rfl (lv_at hl 3 rfl) ?_
  refine t_imul hx hb dX5_force_3 (v := nI (6 * y)) (zi_mul rfl) ?_
  refine lv_iload_n hx hb dX5_force_4 rfl (lv_at hl 2 rfl) ?_
  refine t_iadd hx hb dX5_force_5 (v := nI (6 * y + x)) (zi_add (by omega)) ?_
  refine lv_istore (lv' := [(4, .int (nI (6 * y + x))), (0, .ref a0), (1, .int (nI k)), (2, .int (nI x)), (3, .int (nI y))]) hx hb dX5_force_6 hl (by decide) rfl (fun ls hl => ?_)
  refine lv_bipush (v := (nI 36)) hx hb dX5_force_8 (by decide) ?_
  refine lv_iload_n hx hb dX5_force_10 rfl (lv_at hl 2 rfl) ?_
  refine t_imul hx hb dX5_force_11 (v := nI (36 * k)) (zi_mul rfl) ?_
  refine lv_iload hx hb dX5_force_12 (lv_at hl 0 rfl) ?_
  refine t_iadd hx hb dX5_force_14 (v := nI (36 * k + 6 * y + x)) (zi_add (by omega)) ?_
  refine lv_istore (lv' := [(5, .int (nI (36 * k + 6 * y + x))), (4, .int (nI (6 * y + x))), (0, .ref a0), (1, .int (nI k)), (2, .int (nI x)), (3, .int (nI y))]) hx hb dX5_force_15 hl (by decide) rfl (fun ls hl => ?_)
  refine lv_dconst0 hx hb dX5_force_17 ?_
  refine lv_dstore (lv' := [(6, .double FP.dconst0), (5, .int (nI (36 * k + 6 * y + x))), (4, .int (nI (6 * y + x))), (0, .ref a0), (1, .int (nI k)), (2, .int (nI x)), (3, .int (nI y))]) hx hb dX5_force_18 hl (by decide) rfl (fun ls hl => ?_)
  have J_63 : ∀ (f1 : UInt64) (d0 : Drawn) (H : Heap) (locs : List Loc) (ls : Array Slot), (zv f1 = zf1 iw R S x y) → s.drawn.sameBut d0 lw_cs → va_S (fun _ => False) s.heap H locs → lv_has ls 8 [(6, .double FP.dconst0), (5, .int (nI (36 * k + 6 * y + x))), (4, .int (nI (6 * y + x))), (0, .ref a0), (1, .int (nI k)), (2, .int (nI x)), (3, .int (nI y))] → W p l e (headSpec wsX5_force ({ frames := 0, cells := 0, slots := 0, locals := 0 } : Room)).room (s.setDrawn d0) m ([.ref a0, .int (nI k), .int (nI x), .int (nI y)] : List Value).toArray below meth c H locs 0 0 (MQD lw_cs below (va_Qd (fun (r : UInt64) (_ : Unit) => zv r = zforce iw ih R N S x y) (fun _ _ => True) (fun _ => False)) ([.ref a0, .int (nI k), .int (nI x), .int (nI y)] : List Value).toArray s 0 0 (fun _ => False)) (F0 m 63 ls [.double f1]) := by
    intro f1 d0 H locs ls h1 hd0 hS hl
    have hP := zro hP0 hS
    refine lv_dstore (lv' := [(6, .double f1), (5, .int (nI (36 * k + 6 * y + x))), (4, .int (nI (6 * y + x))), (0, .ref a0), (1, .int (nI k)), (2, .int (nI x)), (3, .int (nI y))]) hx hb dX5_force_63 hl (by decide) rfl (fun ls hl => ?_)
    have J_104 : ∀ (f2 : UInt64) (d0 : Drawn) (H : Heap) (locs : List Loc) (ls : Array Slot), (zv f2 = zf2 iw R S x y) → s.drawn.sameBut d0 lw_cs → va_S (fun _ => False) s.heap H locs → lv_has ls 8 [(6, .double f1), (5, .int (nI (36 * k + 6 * y + x))), (4, .int (nI (6 * y + x))), (0, .ref a0), (1, .int (nI k)), (2, .int (nI x)), (3, .int (nI y))] → W p l e (headSpec wsX5_force ({ frames := 0, cells := 0, slots := 0, locals := 0 } : Room)).room (s.setDrawn d0) m ([.ref a0, .int (nI k), .int (nI x), .int (nI y)] : List Value).toArray below meth c H locs 0 0 (MQD lw_cs below (va_Qd (fun (r : UInt64) (_ : Unit) => zv r = zforce iw ih R N S x y) (fun _ _ => True) (fun _ => False)) ([.ref a0, .int (nI k), .int (nI x), .int (nI y)] : List Value).toArray s 0 0 (fun _ => False)) (F0 m 104 ls [.double f2]) := by
      intro f2 d0 H locs ls h2 hd0 hS hl
      have hP := zro hP0 hS
      refine lv_dstore (lv' := [(6, .double f2), (5, .int (nI (36 * k + 6 * y + x))), (4, .int (nI (6 * y + x))), (0, .ref a0), (1, .int (nI k)), (2, .int (nI x)), (3, .int (nI y))]) hx hb dX5_force_104 hl (by decide) rfl (fun ls hl => ?_)
      have J_150 : ∀ (f3 : UInt64) (d0 : Drawn) (H : Heap) (locs : List Loc) (ls : Array Slot), (zv f3 = zf3 iw ih R N S x y) → s.drawn.sameBut d0 lw_cs → va_S (fun _ => False) s.heap H locs → lv_has ls 8 [(6, .double f2), (5, .int (nI (36 * k + 6 * y + x))), (4, .int (nI (6 * y + x))), (0, .ref a0), (1, .int (nI k)), (2, .int (nI x)), (3, .int (nI y))] → W p l e (headSpec wsX5_force ({ frames := 0, cells := 0, slots := 0, locals := 0 } : Room)).room (s.setDrawn d0) m ([.ref a0, .int (nI k), .int (nI x), .int (nI y)] : List Value).toArray below meth c H locs 0 0 (MQD lw_cs below (va_Qd (fun (r : UInt64) (_ : Unit) => zv r = zforce iw ih R N S x y) (fun _ _ => True) (fun _ => False)) ([.ref a0, .int (nI k), .int (nI x), .int (nI y)] : List Value).toArray s 0 0 (fun _ => False)) (F0 m 150 ls [.double f3]) := by
        intro f3 d0 H locs ls h3 hd0 hS hl
        have hP := zro hP0 hS
        refine lv_dstore (lv' := [(6, .double f3), (5, .int (nI (36 * k + 6 * y + x))), (4, .int (nI (6 * y + x))), (0, .ref a0), (1, .int (nI k)), (2, .int (nI x)), (3, .int (nI y))]) hx hb dX5_force_150 hl (by decide) rfl (fun ls hl => ?_)
        have J_193 : ∀ (f4 : UInt64) (d0 : Drawn) (H : Heap) (locs : List Loc) (ls : Array Slot), (zv f4 = zf4 iw ih R N S x y) → s.drawn.sameBut d0 lw_cs → va_S (fun _ => False) s.heap H locs → lv_has ls 8 [(6, .double f3), (5, .int (nI (36 * k + 6 * y + x))), (4, .int (nI (6 * y + x))), (0, .ref a0), (1, .int (nI k)), (2, .int (nI x)), (3, .int (nI y))] → W p l e (headSpec wsX5_force ({ frames := 0, cells := 0, slots := 0, locals := 0 } : Room)).room (s.setDrawn d0) m ([.ref a0, .int (nI k), .int (nI x), .int (nI y)] : List Value).toArray below meth c H locs 0 0 (MQD lw_cs below (va_Qd (fun (r : UInt64) (_ : Unit) => zv r = zforce iw ih R N S x y) (fun _ _ => True) (fun _ => False)) ([.ref a0, .int (nI k), .int (nI x), .int (nI y)] : List Value).toArray s 0 0 (fun _ => False)) (F0 m 193 ls [.double f4]) := by
          intro f4 d0 H locs ls h4 hd0 hS hl
          have hP := zro hP0 hS
          refine lv_dstore (lv' := [(6, .double f4), (5, .int (nI (36 * k + 6 * y + x))), (4, .int (nI (6 * y + x))), (0, .ref a0), (1, .int (nI k)), (2, .int (nI x)), (3, .int (nI y))]) hx hb dX5_force_193 hl (by decide) rfl (fun ls hl => ?_)
          refine lv_dload hx hb dX5_force_195 (lv_at hl 0 rfl) ?_
          refine lv_ldc2d (v := 4589168020290535424) hx hb hown (dr_words hts d0 (.constantDouble RX5 87 (4589168020290535424)) (by decide +kernel)) dX5_force_197 ?_
          refine lv_aload_n hx hb dX5_force_200 rfl (lv_at hl 3 rfl) ?_
          refine va_get (D := (dC, dI)) (ci := 5) (v := .ref aS) (C := RX5) (T := TX5) (N := 19) hx hb (dr_words hts d0) (in_X5_force_X5) hown hK hP 0 rfl rfl 14 (by decide) (dr_words hts d0 (.fieldLink RX5 36 "PlateModesModel" "shapes" "[D") (by decide +kernel)) (fun _ h9 => h9) rfl dX5_force_201 ?_
          refine lv_iload hx hb dX5_force_204 (lv_at hl 1 rfl) ?_
          refine z_dald (s := s.setDrawn d0) (n := 144) (i := 36 * k + 6 * y + x) hx hb hK hP 6 0 rfl rfl (by omega) (by decide) dX5_force_206 ?_
          refine zr_dmul hd0 hx hb (a := zv 4589168020290535424) (b := S (y * iw + x)) rfl (zgs_at gS x y (by omega) (by omega) (by omega)) dX5_force_207 (fun r1 d2 hr1 hd2 => ?_)
          refine zr_dsub hd2 hx hb (a := zf4 iw ih R N S x y) (b := zM (zv 4589168020290535424) (S (y * iw + x))) h4 hr1 dX5_force_208 (fun r3 d4 hr3 hd4 => ?_)
          refine W.endD hd4 ?_
          exact W.dret (v := r3) hx hb hr (fun t ht hW => ⟨⟨r3, (), rfl, ⟨hr3, trivial⟩⟩, hS.F ht⟩) hS.2.2 dX5_force_209
        refine lv_iload_n hx hb dX5_force_152 rfl (lv_at hl 6 rfl) ?_
        refine z_if_le (tgt := 191) hx hb (by omega) dX5_force_153 (by decide) (fun c5 => ?_) (fun c6 => ?_)
        · skip
          refine lv_dload hx hb dX5_force_191 (lv_at hl 0 rfl) ?_
          exact J_193 f3 _ _ _ _ ((h3).trans (if_neg (show ¬ (0 < y) from by omega)).symm) hd0 hS hl
        · skip
          refine lv_dload hx hb dX5_force_156 (lv_at hl 0 rfl) ?_
          refine lv_aload_n hx hb dX5_force_158 rfl (lv_at hl 3 rfl) ?_
          refine va_get (D := (dC, dI)) (ci := 5) (v := .ref aN) (C := RX5) (T := TX5) (N := 19) hx hb (dr_words hts d0) (in_X5_force_X5) hown hK hP 0 rfl rfl 11 (by decide) (dr_words hts d0 (.fieldLink RX5 33 "PlateModesModel" "down" "[D") (by decide +kernel)) (fun _ h9 => h9) rfl dX5_force_159 ?_
          refine lv_iload hx hb dX5_force_162 (lv_at hl 2 rfl) ?_
          refine lv_bipush (v := (nI 6)) hx hb dX5_force_164 (by decide) ?_
          refine t_isub hx hb dX5_force_166 (v := nI (6 * y + x - 6)) (zi_sub (by omega) (by omega)) ?_
          refine z_dald (s := s.setDrawn d0) (n := 36) (i := 6 * y + x - 6) hx hb hK hP 5 0 rfl rfl (by omega) (by decide) dX5_force_167 ?_
          refine lv_aload_n hx hb dX5_force_168 rfl (lv_at hl 3 rfl) ?_
          refine va_get (D := (dC, dI)) (ci := 5) (v := .ref aS) (C := RX5) (T := TX5) (N := 19) hx hb (dr_words hts d0) (in_X5_force_X5) hown hK hP 0 rfl rfl 14 (by decide) (dr_words hts d0 (.fieldLink RX5 36 "PlateModesModel" "shapes" "[D") (by decide +kernel)) (fun _ h9 => h9) rfl dX5_force_169 ?_
          refine lv_iload hx hb dX5_force_172 (lv_at hl 1 rfl) ?_
          refine lv_bipush (v := (nI 6)) hx hb dX5_force_174 (by decide) ?_
          refine t_isub hx hb dX5_force_176 (v := nI (36 * k + 6 * y + x - 6)) (zi_sub (by omega) (by omega)) ?_
          refine z_dald (s := s.setDrawn d0) (n := 144) (i := 36 * k + 6 * y + x - 6) hx hb hK hP 6 0 rfl rfl (by omega) (by decide) dX5_force_177 ?_
          refine lv_aload_n hx hb dX5_force_178 rfl (lv_at hl 3 rfl) ?_
          refine va_get (D := (dC, dI)) (ci := 5) (v := .ref aS) (C := RX5) (T := TX5) (N := 19) hx hb (dr_words hts d0) (in_X5_force_X5) hown hK hP 0 rfl rfl 14 (by decide) (dr_words hts d0 (.fieldLink RX5 36 "PlateModesModel" "shapes" "[D") (by decide +kernel)) (fun _ h9 => h9) rfl dX5_force_179 ?_
          refine lv_iload hx hb dX5_force_182 (lv_at hl 1 rfl) ?_
          refine z_dald (s := s.setDrawn d0) (n := 144) (i := 36 * k + 6 * y + x) hx hb hK hP 6 0 rfl rfl (by omega) (by decide) dX5_force_184 ?_
          refine zr_dsub hd0 hx hb (a := S ((y - 1) * iw + x)) (b := S (y * iw + x)) (zgs_at gS x (y - 1) (by omega) (by omega) (by omega)) (zgs_at gS x y (by omega) (by omega) (by omega)) dX5_force_185 (fun r7 d8 hr7 hd8 => ?_)
          refine zr_dmul hd8 hx hb (a := N ((y - 1) * iw + x)) (b := zS (S ((y - 1) * iw + x)) (S (y * iw + x))) (zgr_at gN x (y - 1) (by omega) (by omega) (by omega)) hr7 dX5_force_186 (fun r9 d10 hr9 hd10 => ?_)
          refine zr_dadd hd10 hx hb (a := zf3 iw ih R N S x y) (b := zM (N ((y - 1) * iw + x)) (zS (S ((y - 1) * iw + x)) (S (y * iw + x)))) h3 hr9 dX5_force_187 (fun r11 d12 hr11 hd12 => ?_)
          refine lv_goto (tgt := 193) hx hb dX5_force_188 (by decide) ?_
          exact J_193 r11 _ _ _ _ ((hr11).trans (if_pos (show 0 < y from by omega)).symm) hd12 hS hl
      refine lv_iload_n hx hb dX5_force_106 rfl (lv_at hl 6 rfl) ?_
      refine lv_iconst (v := (nI 1)) hx hb dX5_force_107 (by decide) ?_
      refine t_iadd hx hb dX5_force_108 (v := nI (y + 1)) (zi_add (by omega)) ?_
      refine lv_aload_n hx hb dX5_force_109 rfl (lv_at hl 3 rfl) ?_
      refine va_get (D := (dC, dI)) (ci := 5) (v := .int (nI ih)) (C := RX5) (T := TX5) (N := 19) hx hb (dr_words hts d0) (in_X5_force_X5) hown hK hP 0 rfl rfl 2 (by decide) (dr_words hts d0 (.fieldLink RX5 52 "PlateModesModel" "height" "I") (by decide +kernel)) (fun _ h9 => h9) rfl dX5_force_110 ?_
      refine z_icmp_ge (a := y + 1) (b := ih) (tgt := 148) hx hb (by omega) (by omega) dX5_force_113 (by decide) (fun c13 => ?_) (fun c14 => ?_)
      · skip
        refine lv_dload hx hb dX5_force_148 (lv_at hl 0 rfl) ?_
        exact J_150 f2 _ _ _ _ ((h2).trans (if_neg (show ¬ (y + 1 < ih) from by omega)).symm) hd0 hS hl
      · skip
        refine lv_dload hx hb dX5_force_116 (lv_at hl 0 rfl) ?_
        refine lv_aload_n hx hb dX5_force_118 rfl (lv_at hl 3 rfl) ?_
        refine va_get (D := (dC, dI)) (ci := 5) (v := .ref aN) (C := RX5) (T := TX5) (N := 19) hx hb (dr_words hts d0) (in_X5_force_X5) hown hK hP 0 rfl rfl 11 (by decide) (dr_words hts d0 (.fieldLink RX5 33 "PlateModesModel" "down" "[D") (by decide +kernel)) (fun _ h9 => h9) rfl dX5_force_119 ?_
        refine lv_iload hx hb dX5_force_122 (lv_at hl 2 rfl) ?_
        refine z_dald (s := s.setDrawn d0) (n := 36) (i := 6 * y + x) hx hb hK hP 5 0 rfl rfl (by omega) (by decide) dX5_force_124 ?_
        refine lv_aload_n hx hb dX5_force_125 rfl (lv_at hl 3 rfl) ?_
        refine va_get (D := (dC, dI)) (ci := 5) (v := .ref aS) (C := RX5) (T := TX5) (N := 19) hx hb (dr_words hts d0) (in_X5_force_X5) hown hK hP 0 rfl rfl 14 (by decide) (dr_words hts d0 (.fieldLink RX5 36 "PlateModesModel" "shapes" "[D") (by decide +kernel)) (fun _ h9 => h9) rfl dX5_force_126 ?_
        refine lv_iload hx hb dX5_force_129 (lv_at hl 1 rfl) ?_
        refine lv_bipush (v := (nI 6)) hx hb dX5_force_131 (by decide) ?_
        refine t_iadd hx hb dX5_force_133 (v := nI (36 * k + 6 * y + x + 6)) (zi_add (by omega)) ?_
        refine z_dald (s := s.setDrawn d0) (n := 144) (i := 36 * k + 6 * y + x + 6) hx hb hK hP 6 0 rfl rfl (by omega) (by decide) dX5_force_134 ?_
        refine lv_aload_n hx hb dX5_force_135 rfl (lv_at hl 3 rfl) ?_
        refine va_get (D := (dC, dI)) (ci := 5) (v := .ref aS) (C := RX5) (T := TX5) (N := 19) hx hb (dr_words hts d0) (in_X5_force_X5) hown hK hP 0 rfl rfl 14 (by decide) (dr_words hts d0 (.fieldLink RX5 36 "PlateModesModel" "shapes" "[D") (by decide +kernel)) (fun _ h9 => h9) rfl dX5_force_136 ?_
        refine lv_iload hx hb dX5_force_139 (lv_at hl 1 rfl) ?_
        refine z_dald (s := s.setDrawn d0) (n := 144) (i := 36 * k + 6 * y + x) hx hb hK hP 6 0 rfl rfl (by omega) (by decide) dX5_force_141 ?_
        refine zr_dsub hd0 hx hb (a := S ((y + 1) * iw + x)) (b := S (y * iw + x)) (zgs_at gS x (y + 1) (by omega) (by omega) (by omega)) (zgs_at gS x y (by omega) (by omega) (by omega)) dX5_force_142 (fun r15 d16 hr15 hd16 => ?_)
        refine zr_dmul hd16 hx hb (a := N (y * iw + x)) (b := zS (S ((y + 1) * iw + x)) (S (y * iw + x))) (zgr_at gN x y (by omega) (by omega) (by omega)) hr15 dX5_force_143 (fun r17 d18 hr17 hd18 => ?_)
        refine zr_dadd hd18 hx hb (a := zf2 iw R S x y) (b := zM (N (y * iw + x)) (zS (S ((y + 1) * iw + x)) (S (y * iw + x)))) h2 hr17 dX5_force_144 (fun r19 d20 hr19 hd20 => ?_)
        refine lv_goto (tgt := 150) hx hb dX5_force_145 (by decide) ?_
        exact J_150 r19 _ _ _ _ ((hr19).trans (if_pos (show y + 1 < ih from by omega)).symm) hd20 hS hl
    refine lv_iload_n hx hb dX5_force_65 rfl (lv_at hl 5 rfl) ?_
    refine z_if_le (tgt := 102) hx hb (by omega) dX5_force_66 (by decide) (fun c21 => ?_) (fun c22 => ?_)
    · skip
      refine lv_dload hx hb dX5_force_102 (lv_at hl 0 rfl) ?_
      exact J_104 f1 _ _ _ _ ((h1).trans (if_neg (show ¬ (0 < x) from by omega)).symm) hd0 hS hl
    · skip
      refine lv_dload hx hb dX5_force_69 (lv_at hl 0 rfl) ?_
      refine lv_aload_n hx hb dX5_force_71 rfl (lv_at hl 3 rfl) ?_
      refine va_get (D := (dC, dI)) (ci := 5) (v := .ref aR) (C := RX5) (T := TX5) (N := 19) hx hb (dr_words hts d0) (in_X5_force_X5) hown hK hP 0 rfl rfl 10 (by decide) (dr_words hts d0 (.fieldLink RX5 30 "PlateModesModel" "right" "[D") (by decide +kernel)) (fun _ h9 => h9) rfl dX5_force_72 ?_
      refine lv_iload hx hb dX5_force_75 (lv_at hl 2 rfl) ?_
      refine lv_iconst (v := (nI 1)) hx hb dX5_force_77 (by decide) ?_
      refine t_isub hx hb dX5_force_78 (v := nI (6 * y + x - 1)) (zi_sub (by omega) (by omega)) ?_
      refine z_dald (s := s.setDrawn d0) (n := 36) (i := 6 * y + x - 1) hx hb hK hP 4 0 rfl rfl (by omega) (by decide) dX5_force_79 ?_
      refine lv_aload_n hx hb dX5_force_80 rfl (lv_at hl 3 rfl) ?_
      refine va_get (D := (dC, dI)) (ci := 5) (v := .ref aS) (C := RX5) (T := TX5) (N := 19) hx hb (dr_words hts d0) (in_X5_force_X5) hown hK hP 0 rfl rfl 14 (by decide) (dr_words hts d0 (.fieldLink RX5 36 "PlateModesModel" "shapes" "[D") (by decide +kernel)) (fun _ h9 => h9) rfl dX5_force_81 ?_
      refine lv_iload hx hb dX5_force_84 (lv_at hl 1 rfl) ?_
      refine lv_iconst (v := (nI 1)) hx hb dX5_force_86 (by decide) ?_
      refine t_isub hx hb dX5_force_87 (v := nI (36 * k + 6 * y + x - 1)) (zi_sub (by omega) (by omega)) ?_
      refine z_dald (s := s.setDrawn d0) (n := 144) (i := 36 * k + 6 * y + x - 1) hx hb hK hP 6 0 rfl rfl (by omega) (by decide) dX5_force_88 ?_
      refine lv_aload_n hx hb dX5_force_89 rfl (lv_at hl 3 rfl) ?_
      refine va_get (D := (dC, dI)) (ci := 5) (v := .ref aS) (C := RX5) (T := TX5) (N := 19) hx hb (dr_words hts d0) (in_X5_force_X5) hown hK hP 0 rfl rfl 14 (by decide) (dr_words hts d0 (.fieldLink RX5 36 "PlateModesModel" "shapes" "[D") (by decide +kernel)) (fun _ h9 => h9) rfl dX5_force_90 ?_
      refine lv_iload hx hb dX5_force_93 (lv_at hl 1 rfl) ?_
      refine z_dald (s := s.setDrawn d0) (n := 144) (i := 36 * k + 6 * y + x) hx hb hK hP 6 0 rfl rfl (by omega) (by decide) dX5_force_95 ?_
      refine zr_dsub hd0 hx hb (a := S (y * iw + (x - 1))) (b := S (y * iw + x)) (zgs_at gS (x - 1) y (by omega) (by omega) (by omega)) (zgs_at gS x y (by omega) (by omega) (by omega)) dX5_force_96 (fun r23 d24 hr23 hd24 => ?_)
      refine zr_dmul hd24 hx hb (a := R (y * iw + (x - 1))) (b := zS (S (y * iw + (x - 1))) (S (y * iw + x))) (zgr_at gR (x - 1) y (by omega) (by omega) (by omega)) hr23 dX5_force_97 (fun r25 d26 hr25 hd26 => ?_)
      refine zr_dadd hd26 hx hb (a := zf1 iw R S x y) (b := zM (R (y * iw + (x - 1))) (zS (S (y * iw + (x - 1))) (S (y * iw + x)))) h1 hr25 dX5_force_98 (fun r27 d28 hr27 hd28 => ?_)
      refine lv_goto (tgt := 104) hx hb dX5_force_99 (by decide) ?_
      exact J_104 r27 _ _ _ _ ((hr27).trans (if_pos (show 0 < x from by omega)).symm) hd28 hS hl
  refine lv_iload_n hx hb dX5_force_20 rfl (lv_at hl 5 rfl) ?_
  refine lv_iconst (v := (nI 1)) hx hb dX5_force_21 (by decide) ?_
  refine t_iadd hx hb dX5_force_22 (v := nI (x + 1)) (zi_add (by omega)) ?_
  refine lv_aload_n hx hb dX5_force_23 rfl (lv_at hl 3 rfl) ?_
  refine va_get (D := (dC, dI)) (ci := 5) (v := .int (nI iw)) (C := RX5) (T := TX5) (N := 19) hx hb (dr_words hts s.drawn) (in_X5_force_X5) hown hK hP 0 rfl rfl 1 (by decide) (dr_words hts s.drawn (.fieldLink RX5 48 "PlateModesModel" "width" "I") (by decide +kernel)) (fun _ h9 => h9) rfl dX5_force_24 ?_
  refine z_icmp_ge (a := x + 1) (b := iw) (tgt := 61) hx hb (by omega) (by omega) dX5_force_27 (by decide) (fun c29 => ?_) (fun c30 => ?_)
  · skip
    refine lv_dload hx hb dX5_force_61 (lv_at hl 0 rfl) ?_
    exact J_63 FP.dconst0 _ _ _ _ ((rfl).trans (if_neg (show ¬ (x + 1 < iw) from by omega)).symm) hd0 hS hl
  · skip
    refine lv_dload hx hb dX5_force_30 (lv_at hl 0 rfl) ?_
    refine lv_aload_n hx hb dX5_force_32 rfl (lv_at hl 3 rfl) ?_
    refine va_get (D := (dC, dI)) (ci := 5) (v := .ref aR) (C := RX5) (T := TX5) (N := 19) hx hb (dr_words hts s.drawn) (in_X5_force_X5) hown hK hP 0 rfl rfl 10 (by decide) (dr_words hts s.drawn (.fieldLink RX5 30 "PlateModesModel" "right" "[D") (by decide +kernel)) (fun _ h9 => h9) rfl dX5_force_33 ?_
    refine lv_iload hx hb dX5_force_36 (lv_at hl 2 rfl) ?_
    refine z_dald (s := s.setDrawn s.drawn) (n := 36) (i := 6 * y + x) hx hb hK hP 4 0 rfl rfl (by omega) (by decide) dX5_force_38 ?_
    refine lv_aload_n hx hb dX5_force_39 rfl (lv_at hl 3 rfl) ?_
    refine va_get (D := (dC, dI)) (ci := 5) (v := .ref aS) (C := RX5) (T := TX5) (N := 19) hx hb (dr_words hts s.drawn) (in_X5_force_X5) hown hK hP 0 rfl rfl 14 (by decide) (dr_words hts s.drawn (.fieldLink RX5 36 "PlateModesModel" "shapes" "[D") (by decide +kernel)) (fun _ h9 => h9) rfl dX5_force_40 ?_
    refine lv_iload hx hb dX5_force_43 (lv_at hl 1 rfl) ?_
    refine lv_iconst (v := (nI 1)) hx hb dX5_force_45 (by decide) ?_
    refine t_iadd hx hb dX5_force_46 (v := nI (36 * k + 6 * y + x + 1)) (zi_add (by omega)) ?_
    refine z_dald (s := s.setDrawn s.drawn) (n := 144) (i := 36 * k + 6 * y + x + 1) hx hb hK hP 6 0 rfl rfl (by omega) (by decide) dX5_force_47 ?_
    refine lv_aload_n hx hb dX5_force_48 rfl (lv_at hl 3 rfl) ?_
    refine va_get (D := (dC, dI)) (ci := 5) (v := .ref aS) (C := RX5) (T := TX5) (N := 19) hx hb (dr_words hts s.drawn) (in_X5_force_X5) hown hK hP 0 rfl rfl 14 (by decide) (dr_words hts s.drawn (.fieldLink RX5 36 "PlateModesModel" "shapes" "[D") (by decide +kernel)) (fun _ h9 => h9) rfl dX5_force_49 ?_
    refine lv_iload hx hb dX5_force_52 (lv_at hl 1 rfl) ?_
    refine z_dald (s := s.setDrawn s.drawn) (n := 144) (i := 36 * k + 6 * y + x) hx hb hK hP 6 0 rfl rfl (by omega) (by decide) dX5_force_54 ?_
    refine zr_dsub hd0 hx hb (a := S (y * iw + (x + 1))) (b := S (y * iw + x)) (zgs_at gS (x + 1) y (by omega) (by omega) (by omega)) (zgs_at gS x y (by omega) (by omega) (by omega)) dX5_force_55 (fun r31 d32 hr31 hd32 => ?_)
    refine zr_dmul hd32 hx hb (a := R (y * iw + x)) (b := zS (S (y * iw + (x + 1))) (S (y * iw + x))) (zgr_at gR x y (by omega) (by omega) (by omega)) hr31 dX5_force_56 (fun r33 d34 hr33 hd34 => ?_)
    refine zr_dadd hd34 hx hb (a := z0) (b := zM (R (y * iw + x)) (zS (S (y * iw + (x + 1))) (S (y * iw + x)))) rfl hr33 dX5_force_57 (fun r35 d36 hr35 hd36 => ?_)
    refine lv_goto (tgt := 63) hx hb dX5_force_58 (by decide) ?_
    exact J_63 r35 _ _ _ _ ((hr35).trans (if_pos (show x + 1 < iw from by omega)).symm) hd36 hS hl
theorem in_X5_hold_X5 : ∀ w ∈ wsX50, w ∈ wsX5_hold := fun w h => List.mem_cons_of_mem _ (List.mem_append_right _ h)
set_option maxHeartbeats 4000000 in
set_option maxRecDepth 100000 in
/-- GROUND and the springs at a cell -/
theorem c5_hold (l : Launch) (dC : Nat → ClassId) (dI : Nat → Nat → Nat) (a0 aT aE aG aR aN aS aQ aW aX : Nat) (cD cI : ClassId) (th : Int32) (iw ih : Nat) (fa fb fd : UInt64) (ib : Nat) (mk : Bool) (im iq : Nat) (tT : Nat → UInt64) (tE : Nat → Int32) (tG tR tN tS tQ : Nat → UInt64) (tW : Nat → Int32) (tX : Nat → UInt64) (x y : Nat) (hxw : x < iw) (hyh : y < ih) (hw6 : iw ≤ 6) (hh6 : ih ≤ 6) (R N : Nat → ZD) (gR : zgr tR iw ih R) (gN : zgr tN iw ih N) : MetD lw_cs l yX5_hold wsX5_hold ({ frames := 0, cells := 0, slots := 0, locals := 0 } : Room) (va_Pc [.ref a0, .int (nI x), .int (nI y)] (fun U => va_P (dC, dI) vwCl (w5 a0 aT aE aG aR aN aS aQ aW aX cD cI th iw ih fa fb fd ib mk im iq tT tE tG tR tN tS tQ tW tX) U.heap ∧ va_K (dC, dI) vwCl [(cD, .double), (cI, .int)] U)) (va_Qd (fun (r : UInt64) (_ : Unit) => zv r = zhold iw ih R N x y) (fun _ _ => True) (fun _ => False)) 0 0 (fun _ => False) := by
  refine MetD.ofW (cc := cX5_hold) (maxL := 6) (ret := (some .double)) (by decide) rfl ?_
  intro p e s m args below meth c s₁ B hml hv hd0
  obtain ⟨rfl, hP0, hK⟩ := hv
  have hx := B.exec
  have hb := B.bytes
  have hr := B.returns
  have hts := atoms_spec (ws := wsX5_hold) B.pre
  have hown : s.vm.findClass RX5 = some m.cls := findClass_of_methodNamed B.named
  have hlocks := B.notSynchronized
  have hS : va_S (fun _ => False) s.heap s.heap [] := va_S.rf
  have hP := hP0
  have hl := lv_entry ([.ref a0, .int (nI x), .int (nI y)]) (n := 6) (Nat.le_of_ble_eq_true rfl)
  rw [lg_entry_eq]
  generalize (lg_sl ([.ref a0, .int (nI x), .int (nI y)]) ++ List.replicate (6 - (lg_sl ([.ref a0, .int (nI x), .int (nI y)])).length) Slot.unset).toArray = ls at hl ⊢
  have hl : lv_has ls 6 [(0, .ref a0), (1, .int (nI x)), (2, .int (nI y))] := hl
  refine lv_bipush (v := (nI 6)) hx hb dX5_hold_0 (by decide) ?_
  refine lv_iload_n hx hb dX5_hold_2 rfl (lv_at hl 2 rfl) ?_
  refine t_imul hx hb dX5_hold_3 (v := nI (6 * y)) (zi_mul rfl) ?_
  refine lv_iload_n hx hb dX5_hold_4 rfl (lv_at hl 1 rfl) ?_
  refine t_iadd hx hb dX5_hold_5 (v := nI (6 * y + x)) (zi_add (by omega)) ?_
  refine lv_istore_n (lv' := [(3, .int (nI (6 * y + x))), (0, .ref a0), (1, .int (nI x)), (2, .int (nI y))]) hx hb dX5_hold_6 rfl hl (by decide) rfl (fun ls hl => ?_)
  refine lv_ldc2d (v := 4589168020290535424) hx hb hown (dr_words hts s.drawn (.constantDouble RX5 87 (4589168020290535424)) (by decide +kernel)) dX5_hold_7 ?_
  refine lv_dstore (lv' := [(4, .double 4589168020290535424), (3, .int (nI (6 * y + x))), (0, .ref a0), (1, .int (nI x)), (2, .int (nI y))]) hx hb dX5_hold_10 hl (by decide) rfl (fun ls hl => ?_)
  have J_36 : ∀ (f1 : UInt64) (d0 : Drawn) (H : Heap) (locs : List Loc) (ls : Array Slot), (zv f1 = zh1 iw R x y) → s.drawn.sameBut d0 lw_cs → va_S (fun _ => False) s.heap H locs → lv_has ls 6 [(4, .double 4589168020290535424), (3, .int (nI (6 * y + x))), (0, .ref a0), (1, .int (nI x)), (2, .int (nI y))] → W p l e (headSpec wsX5_hold ({ frames := 0, cells := 0, slots := 0, locals := 0 } : Room)).room (s.setDrawn d0) m ([.ref a0, .int (nI x), .int (nI y)] : List Value).toArray below meth c H locs 0 0 (MQD lw_cs below (va_Qd (fun (r : UInt64) (_ : Unit) => zv r = zhold iw ih R N x y) (fun _ _ => True) (fun _ => False)) ([.ref a0, .int (nI x), .int (nI y)] : List Value).toArray s 0 0 (fun _ => False)) (F0 m 36 ls [.double f1]) := by
    intro f1 d0 H locs ls h1 hd0 hS hl
    have hP := zro hP0 hS
    refine lv_dstore (lv' := [(4, .double f1), (3, .int (nI (6 * y + x))), (0, .ref a0), (1, .int (nI x)), (2, .int (nI y))]) hx hb dX5_hold_36 hl (by decide) rfl (fun ls hl => ?_)
    have J_58 : ∀ (f2 : UInt64) (d0 : Drawn) (H : Heap) (locs : List Loc) (ls : Array Slot), (zv f2 = zh2 iw R x y) → s.drawn.sameBut d0 lw_cs → va_S (fun _ => False) s.heap H locs → lv_has ls 6 [(4, .double f1), (3, .int (nI (6 * y + x))), (0, .ref a0), (1, .int (nI x)), (2, .int (nI y))] → W p l e (headSpec wsX5_hold ({ frames := 0, cells := 0, slots := 0, locals := 0 } : Room)).room (s.setDrawn d0) m ([.ref a0, .int (nI x), .int (nI y)] : List Value).toArray below meth c H locs 0 0 (MQD lw_cs below (va_Qd (fun (r : UInt64) (_ : Unit) => zv r = zhold iw ih R N x y) (fun _ _ => True) (fun _ => False)) ([.ref a0, .int (nI x), .int (nI y)] : List Value).toArray s 0 0 (fun _ => False)) (F0 m 58 ls [.double f2]) := by
      intro f2 d0 H locs ls h2 hd0 hS hl
      have hP := zro hP0 hS
      refine lv_dstore (lv' := [(4, .double f2), (3, .int (nI (6 * y + x))), (0, .ref a0), (1, .int (nI x)), (2, .int (nI y))]) hx hb dX5_hold_58 hl (by decide) rfl (fun ls hl => ?_)
      have J_84 : ∀ (f3 : UInt64) (d0 : Drawn) (H : Heap) (locs : List Loc) (ls : Array Slot), (zv f3 = zh3 iw ih R N x y) → s.drawn.sameBut d0 lw_cs → va_S (fun _ => False) s.heap H locs → lv_has ls 6 [(4, .double f2), (3, .int (nI (6 * y + x))), (0, .ref a0), (1, .int (nI x)), (2, .int (nI y))] → W p l e (headSpec wsX5_hold ({ frames := 0, cells := 0, slots := 0, locals := 0 } : Room)).room (s.setDrawn d0) m ([.ref a0, .int (nI x), .int (nI y)] : List Value).toArray below meth c H locs 0 0 (MQD lw_cs below (va_Qd (fun (r : UInt64) (_ : Unit) => zv r = zhold iw ih R N x y) (fun _ _ => True) (fun _ => False)) ([.ref a0, .int (nI x), .int (nI y)] : List Value).toArray s 0 0 (fun _ => False)) (F0 m 84 ls [.double f3]) := by
        intro f3 d0 H locs ls h3 hd0 hS hl
        have hP := zro hP0 hS
        refine lv_dstore (lv' := [(4, .double f3), (3, .int (nI (6 * y + x))), (0, .ref a0), (1, .int (nI x)), (2, .int (nI y))]) hx hb dX5_hold_84 hl (by decide) rfl (fun ls hl => ?_)
        have J_107 : ∀ (f4 : UInt64) (d0 : Drawn) (H : Heap) (locs : List Loc) (ls : Array Slot), (zv f4 = zhold iw ih R N x y) → s.drawn.sameBut d0 lw_cs → va_S (fun _ => False) s.heap H locs → lv_has ls 6 [(4, .double f3), (3, .int (nI (6 * y + x))), (0, .ref a0), (1, .int (nI x)), (2, .int (nI y))] → W p l e (headSpec wsX5_hold ({ frames := 0, cells := 0, slots := 0, locals := 0 } : Room)).room (s.setDrawn d0) m ([.ref a0, .int (nI x), .int (nI y)] : List Value).toArray below meth c H locs 0 0 (MQD lw_cs below (va_Qd (fun (r : UInt64) (_ : Unit) => zv r = zhold iw ih R N x y) (fun _ _ => True) (fun _ => False)) ([.ref a0, .int (nI x), .int (nI y)] : List Value).toArray s 0 0 (fun _ => False)) (F0 m 107 ls [.double f4]) := by
          intro f4 d0 H locs ls h4 hd0 hS hl
          have hP := zro hP0 hS
          refine W.endD hd0 ?_
          exact W.dret (v := f4) hx hb hr (fun t ht hW => ⟨⟨f4, (), rfl, ⟨h4, trivial⟩⟩, hS.F ht⟩) hS.2.2 dX5_hold_107
        refine lv_iload_n hx hb dX5_hold_86 rfl (lv_at hl 4 rfl) ?_
        refine z_if_le (tgt := 105) hx hb (by omega) dX5_hold_87 (by decide) (fun c1 => ?_) (fun c2 => ?_)
        · skip
          refine lv_dload hx hb dX5_hold_105 (lv_at hl 0 rfl) ?_
          exact J_107 f3 _ _ _ _ ((h3).trans (if_neg (show ¬ (0 < y) from by omega)).symm) hd0 hS hl
        · skip
          refine lv_dload hx hb dX5_hold_90 (lv_at hl 0 rfl) ?_
          refine lv_aload_n hx hb dX5_hold_92 rfl (lv_at hl 2 rfl) ?_
          refine va_get (D := (dC, dI)) (ci := 5) (v := .ref aN) (C := RX5) (T := TX5) (N := 19) hx hb (dr_words hts d0) (in_X5_hold_X5) hown hK hP 0 rfl rfl 11 (by decide) (dr_words hts d0 (.fieldLink RX5 33 "PlateModesModel" "down" "[D") (by decide +kernel)) (fun _ h9 => h9) rfl dX5_hold_93 ?_
          refine lv_iload_n hx hb dX5_hold_96 rfl (lv_at hl 1 rfl) ?_
          refine lv_bipush (v := (nI 6)) hx hb dX5_hold_97 (by decide) ?_
          refine t_isub hx hb dX5_hold_99 (v := nI (6 * y + x - 6)) (zi_sub (by omega) (by omega)) ?_
          refine z_dald (s := s.setDrawn d0) (n := 36) (i := 6 * y + x - 6) hx hb hK hP 5 0 rfl rfl (by omega) (by decide) dX5_hold_100 ?_
          refine zr_dadd hd0 hx hb (a := zh3 iw ih R N x y) (b := N ((y - 1) * iw + x)) h3 (zgr_at gN x (y - 1) (by omega) (by omega) (by omega)) dX5_hold_101 (fun r3 d4 hr3 hd4 => ?_)
          refine lv_goto (tgt := 107) hx hb dX5_hold_102 (by decide) ?_
          exact J_107 r3 _ _ _ _ ((hr3).trans (if_pos (show 0 < y from by omega)).symm) hd4 hS hl
      refine lv_iload_n hx hb dX5_hold_60 rfl (lv_at hl 4 rfl) ?_
      refine lv_iconst (v := (nI 1)) hx hb dX5_hold_61 (by decide) ?_
      refine t_iadd hx hb dX5_hold_62 (v := nI (y + 1)) (zi_add (by omega)) ?_
      refine lv_aload_n hx hb dX5_hold_63 rfl (lv_at hl 2 rfl) ?_
      refine va_get (D := (dC, dI)) (ci := 5) (v := .int (nI ih)) (C := RX5) (T := TX5) (N := 19) hx hb (dr_words hts d0) (in_X5_hold_X5) hown hK hP 0 rfl rfl 2 (by decide) (dr_words hts d0 (.fieldLink RX5 52 "PlateModesModel" "height" "I") (by decide +kernel)) (fun _ h9 => h9) rfl dX5_hold_64 ?_
      refine z_icmp_ge (a := y + 1) (b := ih) (tgt := 82) hx hb (by omega) (by omega) dX5_hold_67 (by decide) (fun c5 => ?_) (fun c6 => ?_)
      · skip
        refine lv_dload hx hb dX5_hold_82 (lv_at hl 0 rfl) ?_
        exact J_84 f2 _ _ _ _ ((h2).trans (if_neg (show ¬ (y + 1 < ih) from by omega)).symm) hd0 hS hl
      · skip
        refine lv_dload hx hb dX5_hold_70 (lv_at hl 0 rfl) ?_
        refine lv_aload_n hx hb dX5_hold_72 rfl (lv_at hl 2 rfl) ?_
        refine va_get (D := (dC, dI)) (ci := 5) (v := .ref aN) (C := RX5) (T := TX5) (N := 19) hx hb (dr_words hts d0) (in_X5_hold_X5) hown hK hP 0 rfl rfl 11 (by decide) (dr_words hts d0 (.fieldLink RX5 33 "PlateModesModel" "down" "[D") (by decide +kernel)) (fun _ h9 => h9) rfl dX5_hold_73 ?_
        refine lv_iload_n hx hb dX5_hold_76 rfl (lv_at hl 1 rfl) ?_
        refine z_dald (s := s.setDrawn d0) (n := 36) (i := 6 * y + x) hx hb hK hP 5 0 rfl rfl (by omega) (by decide) dX5_hold_77 ?_
        refine zr_dadd hd0 hx hb (a := zh2 iw R x y) (b := N (y * iw + x)) h2 (zgr_at gN x y (by omega) (by omega) (by omega)) dX5_hold_78 (fun r7 d8 hr7 hd8 => ?_)
        refine lv_goto (tgt := 84) hx hb dX5_hold_79 (by decide) ?_
        exact J_84 r7 _ _ _ _ ((hr7).trans (if_pos (show y + 1 < ih from by omega)).symm) hd8 hS hl
    refine lv_iload_n hx hb dX5_hold_38 rfl (lv_at hl 3 rfl) ?_
    refine z_if_le (tgt := 56) hx hb (by omega) dX5_hold_39 (by decide) (fun c9 => ?_) (fun c10 => ?_)
    · skip
      refine lv_dload hx hb dX5_hold_56 (lv_at hl 0 rfl) ?_
      exact J_58 f1 _ _ _ _ ((h1).trans (if_neg (show ¬ (0 < x) from by omega)).symm) hd0 hS hl
    · skip
      refine lv_dload hx hb dX5_hold_42 (lv_at hl 0 rfl) ?_
      refine lv_aload_n hx hb dX5_hold_44 rfl (lv_at hl 2 rfl) ?_
      refine va_get (D := (dC, dI)) (ci := 5) (v := .ref aR) (C := RX5) (T := TX5) (N := 19) hx hb (dr_words hts d0) (in_X5_hold_X5) hown hK hP 0 rfl rfl 10 (by decide) (dr_words hts d0 (.fieldLink RX5 30 "PlateModesModel" "right" "[D") (by decide +kernel)) (fun _ h9 => h9) rfl dX5_hold_45 ?_
      refine lv_iload_n hx hb dX5_hold_48 rfl (lv_at hl 1 rfl) ?_
      refine lv_iconst (v := (nI 1)) hx hb dX5_hold_49 (by decide) ?_
      refine t_isub hx hb dX5_hold_50 (v := nI (6 * y + x - 1)) (zi_sub (by omega) (by omega)) ?_
      refine z_dald (s := s.setDrawn d0) (n := 36) (i := 6 * y + x - 1) hx hb hK hP 4 0 rfl rfl (by omega) (by decide) dX5_hold_51 ?_
      refine zr_dadd hd0 hx hb (a := zh1 iw R x y) (b := R (y * iw + (x - 1))) h1 (zgr_at gR (x - 1) y (by omega) (by omega) (by omega)) dX5_hold_52 (fun r11 d12 hr11 hd12 => ?_)
      refine lv_goto (tgt := 58) hx hb dX5_hold_53 (by decide) ?_
      exact J_58 r11 _ _ _ _ ((hr11).trans (if_pos (show 0 < x from by omega)).symm) hd12 hS hl
  refine lv_iload_n hx hb dX5_hold_12 rfl (lv_at hl 3 rfl) ?_
  refine lv_iconst (v := (nI 1)) hx hb dX5_hold_13 (by decide) ?_
  refine t_iadd hx hb dX5_hold_14 (v := nI (x + 1)) (zi_add (by omega)) ?_
  refine lv_aload_n hx hb dX5_hold_15 rfl (lv_at hl 2 rfl) ?_
  refine va_get (D := (dC, dI)) (ci := 5) (v := .int (nI iw)) (C := RX5) (T := TX5) (N := 19) hx hb (dr_words hts s.drawn) (in_X5_hold_X5) hown hK hP 0 rfl rfl 1 (by decide) (dr_words hts s.drawn (.fieldLink RX5 48 "PlateModesModel" "width" "I") (by decide +kernel)) (fun _ h9 => h9) rfl dX5_hold_16 ?_
  refine z_icmp_ge (a := x + 1) (b := iw) (tgt := 34) hx hb (by omega) (by omega) dX5_hold_19 (by decide) (fun c13 => ?_) (fun c14 => ?_)
  · skip
    refine lv_dload hx hb dX5_hold_34 (lv_at hl 0 rfl) ?_
    exact J_36 4589168020290535424 _ _ _ _ ((rfl).trans (if_neg (show ¬ (x + 1 < iw) from by omega)).symm) hd0 hS hl
  · skip
    refine lv_dload hx hb dX5_hold_22 (lv_at hl 0 rfl) ?_
    refine lv_aload_n hx hb dX5_hold_24 rfl (lv_at hl 2 rfl) ?_
    refine va_get (D := (dC, dI)) (ci := 5) (v := .ref aR) (C := RX5) (T := TX5) (N := 19) hx hb (dr_words hts s.drawn) (in_X5_hold_X5) hown hK hP 0 rfl rfl 10 (by decide) (dr_words hts s.drawn (.fieldLink RX5 30 "PlateModesModel" "right" "[D") (by decide +kernel)) (fun _ h9 => h9) rfl dX5_hold_25 ?_
    refine lv_iload_n hx hb dX5_hold_28 rfl (lv_at hl 1 rfl) ?_
    refine z_dald (s := s.setDrawn s.drawn) (n := 36) (i := 6 * y + x) hx hb hK hP 4 0 rfl rfl (by omega) (by decide) dX5_hold_29 ?_
    refine zr_dadd hd0 hx hb (a := zv 4589168020290535424) (b := R (y * iw + x)) rfl (zgr_at gR x y (by omega) (by omega) (by omega)) dX5_hold_30 (fun r15 d16 hr15 hd16 => ?_)
    refine lv_goto (tgt := 36) hx hb dX5_hold_31 (by decide) ?_
    exact J_36 r15 _ _ _ _ ((hr15).trans (if_pos (show x + 1 < iw from by omega)).symm) hd16 hS hl
theorem in_X5_productOf_X5 : ∀ w ∈ wsX50, w ∈ wsX5_productOf := fun w h => List.mem_cons_of_mem _ (List.mem_append_right _ h)
set_option maxHeartbeats 4000000 in
set_option maxRecDepth 100000 in
/-- PRODUCT of two rows of shapes -/
theorem c5_productOf (l : Launch) (dC : Nat → ClassId) (dI : Nat → Nat → Nat) (a0 aT aE aG aR aN aS aQ aW aX : Nat) (cD cI : ClassId) (th : Int32) (iw ih : Nat) (fa fb fd : UInt64) (ib : Nat) (mk : Bool) (im iq : Nat) (tT : Nat → UInt64) (tE : Nat → Int32) (tG tR tN tS tQ : Nat → UInt64) (tW : Nat → Int32) (tX : Nat → UInt64) (k j : Nat) (hk : k < 4) (hj : j < 4) (hw6 : iw ≤ 6) (hh6 : ih ≤ 6) (T S1 S2 : Nat → ZD) (gT : zgr tT iw ih T) (g1 : zgs tS k iw ih S1) (g2 : zgs tS j iw ih S2) : MetD lw_cs l yX5_productOf wsX5_productOf ({ frames := 1, cells := 0, slots := 0, locals := 21 } : Room) (va_Pc [.ref a0, .int (nI k), .int (nI j)] (fun U => va_P (dC, dI) vwCl (w5 a0 aT aE aG aR aN aS aQ aW aX cD cI th iw ih fa fb fd ib mk im iq tT tE tG tR tN tS tQ tW tX) U.heap ∧ va_K (dC, dI) vwCl [(cD, .double), (cI, .int)] U)) (va_Qd (fun (r : UInt64) (_ : Unit) => zv r = zprod T S1 S2 (zv fd) (iw * ih)) (fun _ _ => True) (fun _ => False)) 0 0 (fun _ => False) := by
  refine MetD.ofW (cc := cX5_productOf) (maxL := 8) (ret := (some .double)) (by decide) rfl ?_
  intro p e s m args below meth c s₁ B hml hv hd0
  obtain ⟨rfl, hP0, hK⟩ := hv
  have hx := B.exec
  have hb := B.bytes
  have hr := B.returns
  have hts := atoms_spec (ws := wsX5_productOf) B.pre
  have hown : s.vm.findClass RX5 = some m.cls := findClass_of_methodNamed B.named
  have hlocks := B.notSynchronized
  have hS : va_S (fun _ => False) s.heap s.heap [] := va_S.rf
  have hP := hP0
  have hl := lv_entry ([.ref a0, .int (nI k), .int (nI j)]) (n := 8) (Nat.le_of_ble_eq_true rfl)
  rw [lg_entry_eq]
  generalize (lg_sl ([.ref a0, .int (nI k), .int (nI j)]) ++ List.replicate (8 - (lg_sl ([.ref a0, .int (nI k), .int (nI j)])).length) Slot.unset).toArray = ls at hl ⊢
  have hl : lv_has ls 8 [(0, .ref a0), (1, .int (nI k)), (2, .int (nI j))] := hl
  refine lv_dconst0 hx hb dX5_productOf_0 ?_
  refine lv_dstore_n (lv' := [(3, .double FP.dconst0), (0, .ref a0), (1, .int (nI k)), (2, .int (nI j))]) hx hb dX5_productOf_1 rfl hl (by decide) rfl (fun ls hl => ?_)
  refine lv_iconst (v := (nI 0)) hx hb dX5_productOf_2 (by decide) ?_
  refine lv_istore (lv' := [(5, .int (nI 0)), (3, .double FP.dconst0), (0, .ref a0), (1, .int (nI k)), (2, .int (nI j))]) hx hb dX5_productOf_3 hl (by decide) rfl (fun ls hl => ?_)
  have L_5 : ∀ (n : Nat) (y : Nat) (sy : UInt64) (d0 : Drawn) (H : Heap) (locs : List Loc) (ls : Array Slot), ih - y < n → (y ≤ ih) → (zv sy = zprod T S1 S2 (zv fd) (y * iw)) → s.drawn.sameBut d0 lw_cs → va_S (fun _ => False) s.heap H locs → lv_has ls 8 [(5, .int (nI y)), (3, .double sy), (0, .ref a0), (1, .int (nI k)), (2, .int (nI j))] → W p l e (headSpec wsX5_productOf ({ frames := 1, cells := 0, slots := 0, locals := 21 } : Room)).room (s.setDrawn d0) m ([.ref a0, .int (nI k), .int (nI j)] : List Value).toArray below meth c H locs 0 0 (MQD lw_cs below (va_Qd (fun (r : UInt64) (_ : Unit) => zv r = zprod T S1 S2 (zv fd) (iw * ih)) (fun _ _ => True) (fun _ => False)) ([.ref a0, .int (nI k), .int (nI j)] : List Value).toArray s 0 0 (fun _ => False)) (F0 m 5 ls []) := by
    intro n
    induction n with
    | zero => intro y sy d0 H locs ls hn; exact absurd hn (Nat.not_lt_zero _)
    | succ n ih_L_5 =>
      intro y sy d0 H locs ls hn hyh hsy hd0 hS hl
      have hP := zro hP0 hS
      refine lv_iload hx hb dX5_productOf_5 (lv_at hl 0 rfl) ?_
      refine lv_aload_n hx hb dX5_productOf_7 rfl (lv_at hl 2 rfl) ?_
      refine va_get (D := (dC, dI)) (ci := 5) (v := .int (nI ih)) (C := RX5) (T := TX5) (N := 19) hx hb (dr_words hts d0) (in_X5_productOf_X5) hown hK hP 0 rfl rfl 2 (by decide) (dr_words hts d0 (.fieldLink RX5 52 "PlateModesModel" "height" "I") (by decide +kernel)) (fun _ h9 => h9) rfl dX5_productOf_8 ?_
      refine z_icmp_ge (a := y) (b := ih) (tgt := 96) hx hb (by omega) (by omega) dX5_productOf_11 (by decide) (fun c1 => ?_) (fun c2 => ?_)
      · skip
        refine lv_dload_n hx hb dX5_productOf_96 rfl (lv_at hl 1 rfl) ?_
        refine W.endD hd0 ?_
        exact W.dret (v := sy) hx hb hr (fun t ht hW => ⟨⟨sy, (), rfl, ⟨(hsy).trans (congrArg (fun z => zprod T S1 S2 (zv fd) z) (show y * iw = iw * ih from by rw [show y = ih by omega, Nat.mul_comm])), trivial⟩⟩, hS.F ht⟩) hS.2.2 dX5_productOf_97
      · skip
        refine lv_iconst (v := (nI 0)) hx hb dX5_productOf_14 (by decide) ?_
        refine lv_istore (lv' := [(6, .int (nI 0)), (5, .int (nI y)), (3, .double sy), (0, .ref a0), (1, .int (nI k)), (2, .int (nI j))]) hx hb dX5_productOf_15 hl (by decide) rfl (fun ls hl => ?_)
        have L_17 : ∀ (n : Nat) (x : Nat) (sx : UInt64) (d0 : Drawn) (H : Heap) (locs : List Loc) (ls : Array Slot), iw - x < n → (x ≤ iw) → (zv sx = zprod T S1 S2 (zv fd) (y * iw + x)) → s.drawn.sameBut d0 lw_cs → va_S (fun _ => False) s.heap H locs → lv_has ls 8 [(6, .int (nI x)), (5, .int (nI y)), (3, .double sx), (0, .ref a0), (1, .int (nI k)), (2, .int (nI j))] → W p l e (headSpec wsX5_productOf ({ frames := 1, cells := 0, slots := 0, locals := 21 } : Room)).room (s.setDrawn d0) m ([.ref a0, .int (nI k), .int (nI j)] : List Value).toArray below meth c H locs 0 0 (MQD lw_cs below (va_Qd (fun (r : UInt64) (_ : Unit) => zv r = zprod T S1 S2 (zv fd) (iw * ih)) (fun _ _ => True) (fun _ => False)) ([.ref a0, .int (nI k), .int (nI j)] : List Value).toArray s 0 0 (fun _ => False)) (F0 m 17 ls []) := by
          intro n
          induction n with
          | zero => intro x sx d0 H locs ls hn; exact absurd hn (Nat.not_lt_zero _)
          | succ n ih_L_17 =>
            intro x sx d0 H locs ls hn hxw hsx hd0 hS hl
            have hP := zro hP0 hS
            refine lv_iload hx hb dX5_productOf_17 (lv_at hl 0 rfl) ?_
            refine lv_aload_n hx hb dX5_productOf_19 rfl (lv_at hl 3 rfl) ?_
            refine va_get (D := (dC, dI)) (ci := 5) (v := .int (nI iw)) (C := RX5) (T := TX5) (N := 19) hx hb (dr_words hts d0) (in_X5_productOf_X5) hown hK hP 0 rfl rfl 1 (by decide) (dr_words hts d0 (.fieldLink RX5 48 "PlateModesModel" "width" "I") (by decide +kernel)) (fun _ h9 => h9) rfl dX5_productOf_20 ?_
            refine z_icmp_ge (a := x) (b := iw) (tgt := 90) hx hb (by omega) (by omega) dX5_productOf_23 (by decide) (fun c3 => ?_) (fun c4 => ?_)
            · skip
              refine lv_iinc (v := nI (y + 1)) (lv' := [(5, .int (nI (y + 1))), (6, .int (nI x)), (3, .double sx), (0, .ref a0), (1, .int (nI k)), (2, .int (nI j))]) hx hb dX5_productOf_90 hl (k := 1) rfl (show nI y + nI 1 = _ from zi_add (by omega)) (by decide) rfl (fun ls hl => ?_)
              refine lv_goto (tgt := 5) hx hb dX5_productOf_93 (by decide) ?_
              exact ih_L_5 (y + 1) sx _ _ _ _ (by omega) (by omega) ((hsx).trans (congrArg (fun z => zprod T S1 S2 (zv fd) z) (show y * iw + x = (y + 1) * iw from by rw [← zrow_end]; omega))) hd0 hS (lv_sub hl [0, 2, 3, 4, 5] rfl)
            · skip
              refine lv_bipush (v := (nI 6)) hx hb dX5_productOf_26 (by decide) ?_
              refine lv_iload hx hb dX5_productOf_28 (lv_at hl 1 rfl) ?_
              refine t_imul hx hb dX5_productOf_30 (v := nI (6 * y)) (zi_mul rfl) ?_
              refine lv_iload hx hb dX5_productOf_31 (lv_at hl 0 rfl) ?_
              refine t_iadd hx hb dX5_productOf_33 (v := nI (6 * y + x)) (zi_add (by omega)) ?_
              refine lv_istore (lv' := [(7, .int (nI (6 * y + x))), (6, .int (nI x)), (5, .int (nI y)), (3, .double sx), (0, .ref a0), (1, .int (nI k)), (2, .int (nI j))]) hx hb dX5_productOf_34 hl (by decide) rfl (fun ls hl => ?_)
              refine lv_aload_n hx hb dX5_productOf_36 rfl (lv_at hl 4 rfl) ?_
              refine lv_iload hx hb dX5_productOf_37 (lv_at hl 0 rfl) ?_
              have hPc := hP
              refine va_calli (va_runV (As := [.int (nI (6 * y + x))]) (rest := []) ⟨hx, hb, hml, hown, (dr_words hts d0)⟩ (c5_isWood l dC dI a0 aT aE aG aR aN aS aQ aW aX cD cI th iw ih fa fb fd ib mk im iq tT tE tG tR tN tS tQ tW tX (6 * y + x) (by omega)) (cwV 1 (dr_words hts d0) gX5_productOf_X5_isWood rfl rfl rfl (by decide +kernel) ⟨Nat.le_of_ble_eq_true rfl, Nat.le_of_ble_eq_true rfl⟩) ⟨zfb, va_recv hK hP (ci := 5) (q0 := 0) rfl rfl, zpre hPc hK⟩ rfl rfl hl.1 rfl (lv_room (Nat.le_of_ble_eq_true rfl)) dX5_productOf_39 ⟨Nat.le_of_ble_eq_true rfl, Nat.le_of_ble_eq_true rfl⟩) hS (fun q _ h => h.elim) (fun q h => h.elim) (fun r5 u9 t9 H locs ht9 hvm9 hr5 hB9 hz9 hk1 hS => ?_)
              have hP := zro1 hP hk1
              have hr5 : r5 = zb (zgt (T (y * iw + x)) z0) := by rw [hr5, zgr_at gT x y (by omega) (by omega) (by omega)]
              subst hr5
              have J_83 : ∀ (sv : UInt64) (d0 : Drawn) (H : Heap) (locs : List Loc) (ls : Array Slot), (zv sv = zprod T S1 S2 (zv fd) (y * iw + x + 1)) → s.drawn.sameBut d0 lw_cs → va_S (fun _ => False) s.heap H locs → lv_has ls 8 [(7, .int (nI (6 * y + x))), (6, .int (nI x)), (5, .int (nI y)), (3, .double sx), (0, .ref a0), (1, .int (nI k)), (2, .int (nI j))] → W p l e (headSpec wsX5_productOf ({ frames := 1, cells := 0, slots := 0, locals := 21 } : Room)).room (s.setDrawn d0) m ([.ref a0, .int (nI k), .int (nI j)] : List Value).toArray below meth c H locs 0 0 (MQD lw_cs below (va_Qd (fun (r : UInt64) (_ : Unit) => zv r = zprod T S1 S2 (zv fd) (iw * ih)) (fun _ _ => True) (fun _ => False)) ([.ref a0, .int (nI k), .int (nI j)] : List Value).toArray s 0 0 (fun _ => False)) (F0 m 83 ls [.double sv]) := by
                intro sv d0 H locs ls hsv hd0 hS hl
                have hP := zro hP0 hS
                refine lv_dstore_n (lv' := [(3, .double sv), (7, .int (nI (6 * y + x))), (6, .int (nI x)), (5, .int (nI y)), (0, .ref a0), (1, .int (nI k)), (2, .int (nI j))]) hx hb dX5_productOf_83 rfl hl (by decide) rfl (fun ls hl => ?_)
                refine lv_iinc (v := nI (x + 1)) (lv' := [(6, .int (nI (x + 1))), (3, .double sv), (7, .int (nI (6 * y + x))), (5, .int (nI y)), (0, .ref a0), (1, .int (nI k)), (2, .int (nI j))]) hx hb dX5_productOf_84 hl (k := 2) rfl (show nI x + nI 1 = _ from zi_add (by omega)) (by decide) rfl (fun ls hl => ?_)
                refine lv_goto (tgt := 17) hx hb dX5_productOf_87 (by decide) ?_
                exact ih_L_17 (x + 1) sv _ _ _ _ (by omega) (by omega) hsv hd0 hS (lv_sub hl [0, 3, 1, 4, 5, 6] rfl)
              refine z_if_eq_b (tgt := 82) hx hb dX5_productOf_42 (by decide) (fun c6 => ?_) (fun c7 => ?_)
              · skip
                have cw := c6
                refine lv_dload_n hx hb dX5_productOf_82 rfl (lv_at hl 3 rfl) ?_
                exact J_83 sx _ _ _ _ (hsx.trans (zprod_f cw).symm) hd0 hS hl
              · skip
                have cw := c7
                refine lv_dload_n hx hb dX5_productOf_45 rfl (lv_at hl 3 rfl) ?_
                refine lv_aload_n hx hb dX5_productOf_46 rfl (lv_at hl 4 rfl) ?_
                refine lv_iload hx hb dX5_productOf_47 (lv_at hl 0 rfl) ?_
                have hPc := hP
                refine va_calldD hd0 (va_runV_D (As := [.int (nI (6 * y + x))]) (rest := [.double sx]) ⟨hx, hb, hml, hown, (dr_words hts d0)⟩ (c5_mass l dC dI a0 aT aE aG aR aN aS aQ aW aX cD cI th iw ih fa fb fd ib mk im iq tT tE tG tR tN tS tQ tW tX (6 * y + x) (by omega)) (cwV 1 (dr_words hts d0) gX5_productOf_X5_mass rfl rfl rfl (by decide +kernel) ⟨Nat.le_of_ble_eq_true rfl, Nat.le_of_ble_eq_true rfl⟩) ⟨zfb, va_recv hK hP (ci := 5) (q0 := 0) rfl rfl, zpre hPc hK⟩ rfl rfl hl.1 rfl (lv_room (Nat.le_of_ble_eq_true rfl)) dX5_productOf_49 ⟨Nat.le_of_ble_eq_true rfl, Nat.le_of_ble_eq_true rfl⟩) hS (fun q _ h => h.elim) (fun q h => h.elim) (fun r8 u9 t9 H locs ht9 hvm9 hr8 hB9 hz9 hk1 hS dhd9 hd9 => ?_)
                have hP := zro1 hP hk1
                have hr8 : zv r8 = zM (T (y * iw + x)) (zv fd) := by rw [hr8, zgr_at gT x y (by omega) (by omega) (by omega)]
                refine lv_aload_n hx hb dX5_productOf_52 rfl (lv_at hl 4 rfl) ?_
                refine va_get (D := (dC, dI)) (ci := 5) (v := .ref aS) (C := RX5) (T := TX5) (N := 19) hx hb (dr_words hts dhd9) (in_X5_productOf_X5) hown hK hP 0 rfl rfl 14 (by decide) (dr_words hts dhd9 (.fieldLink RX5 36 "PlateModesModel" "shapes" "[D") (by decide +kernel)) (fun _ h9 => h9) rfl dX5_productOf_53 ?_
                refine lv_bipush (v := (nI 36)) hx hb dX5_productOf_56 (by decide) ?_
                refine lv_iload_n hx hb dX5_productOf_58 rfl (lv_at hl 5 rfl) ?_
                refine t_imul hx hb dX5_productOf_59 (v := nI (36 * k)) (zi_mul rfl) ?_
                refine lv_iload hx hb dX5_productOf_60 (lv_at hl 0 rfl) ?_
                refine t_iadd hx hb dX5_productOf_62 (v := nI (36 * k + 6 * y + x)) (zi_add (by omega)) ?_
                refine z_dald (s := s.setDrawn dhd9) (n := 144) (i := 36 * k + 6 * y + x) hx hb hK hP 6 0 rfl rfl (by omega) (by decide) dX5_productOf_63 ?_
                refine zr_dmul hd9 hx hb (a := zM (T (y * iw + x)) (zv fd)) (b := S1 (y * iw + x)) hr8 (zgs_at g1 x y (by omega) (by omega) (by omega)) dX5_productOf_64 (fun r10 d11 hr10 hd11 => ?_)
                refine lv_aload_n hx hb dX5_productOf_65 rfl (lv_at hl 4 rfl) ?_
                refine va_get (D := (dC, dI)) (ci := 5) (v := .ref aS) (C := RX5) (T := TX5) (N := 19) hx hb (dr_words hts d11) (in_X5_productOf_X5) hown hK hP 0 rfl rfl 14 (by decide) (dr_words hts d11 (.fieldLink RX5 36 "PlateModesModel" "shapes" "[D") (by decide +kernel)) (fun _ h9 => h9) rfl dX5_productOf_66 ?_
                refine lv_bipush (v := (nI 36)) hx hb dX5_productOf_69 (by decide) ?_
                refine lv_iload_n hx hb dX5_productOf_71 rfl (lv_at hl 6 rfl) ?_
                refine t_imul hx hb dX5_productOf_72 (v := nI (36 * j)) (zi_mul rfl) ?_
                refine lv_iload hx hb dX5_productOf_73 (lv_at hl 0 rfl) ?_
                refine t_iadd hx hb dX5_productOf_75 (v := nI (36 * j + 6 * y + x)) (zi_add (by omega)) ?_
                refine z_dald (s := s.setDrawn d11) (n := 144) (i := 36 * j + 6 * y + x) hx hb hK hP 6 0 rfl rfl (by omega) (by decide) dX5_productOf_76 ?_
                refine zr_dmul hd11 hx hb (a := zM (zM (T (y * iw + x)) (zv fd)) (S1 (y * iw + x))) (b := S2 (y * iw + x)) hr10 (zgs_at g2 x y (by omega) (by omega) (by omega)) dX5_productOf_77 (fun r12 d13 hr12 hd13 => ?_)
                refine zr_dadd hd13 hx hb (a := zprod T S1 S2 (zv fd) (y * iw + x)) (b := zM (zM (zM (T (y * iw + x)) (zv fd)) (S1 (y * iw + x))) (S2 (y * iw + x))) hsx hr12 dX5_productOf_78 (fun r14 d15 hr14 hd15 => ?_)
                refine lv_goto (tgt := 83) hx hb dX5_productOf_79 (by decide) ?_
                exact J_83 r14 _ _ _ _ (hr14.trans (zprod_t cw).symm) hd15 hS hl
        exact L_17 _ 0 sy _ _ _ _ (Nat.lt_succ_self _) (by omega) hsy hd0 hS hl
  exact L_5 _ 0 FP.dconst0 _ _ _ _ (Nat.lt_succ_self _) (by omega) (by rw [Nat.zero_mul]; rfl) hd0 hS hl
set_option maxHeartbeats 4000000 in
set_option maxRecDepth 100000 in
/-- whether there is no such mode -/
theorem c5_noMode (l : Launch) (dC : Nat → ClassId) (dI : Nat → Nat → Nat) (a0 aT aE aG aR aN aS aQ aW aX : Nat) (cD cI : ClassId) (th : Int32) (iw ih : Nat) (fa fb fd : UInt64) (ib : Nat) (mk : Bool) (im iq : Nat) (tT : Nat → UInt64) (tE : Nat → Int32) (tG tR tN tS tQ : Nat → UInt64) (tW : Nat → Int32) (tX : Nat → UInt64) (k : Int32) : Met l yX5_noMode wsX5_noMode ({ frames := 0, cells := 0, slots := 0, locals := 0 } : Room) (va_Pc [.ref a0, .int k] (fun U => va_P (dC, dI) vwCl (w5 a0 aT aE aG aR aN aS aQ aW aX cD cI th iw ih fa fb fd ib mk im iq tT tE tG tR tN tS tQ tW tX) U.heap ∧ va_K (dC, dI) vwCl [(cD, .double), (cI, .int)] U)) (va_Qi (fun (r : Int32) (_ : Unit) => r = zp (k < 0 ∨ nI 4 ≤ k)) (fun _ _ => True) (fun _ => False)) 0 0 (fun _ => False) := by
  refine Met.ofW (cc := cX5_noMode) (maxL := 2) (ret := (some .boolean)) (by decide) rfl ?_
  intro p e s m args below meth c s₁ B hml hv
  obtain ⟨rfl, hP0, hK⟩ := hv
  have hx := B.exec
  have hb := B.bytes
  have hr := B.returns
  have hts := atoms_spec (ws := wsX5_noMode) B.pre
  have hown : s.vm.findClass RX5 = some m.cls := findClass_of_methodNamed B.named
  have hlocks := B.notSynchronized
  have hS : va_S (fun _ => False) s.heap s.heap [] := va_S.rf
  have hP := hP0
  have hl := lv_entry ([.ref a0, .int k]) (n := 2) (Nat.le_of_ble_eq_true rfl)
  rw [lg_entry_eq]
  generalize (lg_sl ([.ref a0, .int k]) ++ List.replicate (2 - (lg_sl ([.ref a0, .int k])).length) Slot.unset).toArray = ls at hl ⊢
  have hl : lv_has ls 2 [(0, .ref a0), (1, .int k)] := hl
  refine lv_iload_n hx hb dX5_noMode_0 rfl (lv_at hl 1 rfl) ?_
  refine lv_if_lt (tgt := 9) hx hb dX5_noMode_1 (by decide) (fun c1 => ?_) (fun c2 => ?_)
  · skip
    refine lv_iconst (v := (nI 1)) hx hb dX5_noMode_9 (by decide) ?_
    refine lv_goto (tgt := 14) hx hb dX5_noMode_10 (by decide) ?_
    exact W.zret (v := (nI 1)) hx hb hr rfl (fun t ht hW => ⟨⟨(nI 1), (), rfl, ⟨znc_t _ (by simp [*]), trivial⟩⟩, hS.F ht⟩) hS.2.2 dX5_noMode_14
  · skip
    refine lv_iload_n hx hb dX5_noMode_4 rfl (lv_at hl 1 rfl) ?_
    refine lv_iconst (v := (nI 4)) hx hb dX5_noMode_5 (by decide) ?_
    refine lv_icmp_lt (tgt := 13) hx hb dX5_noMode_6 (by decide) (fun c3 => ?_) (fun c4 => ?_)
    · skip
      refine lv_iconst (v := (nI 0)) hx hb dX5_noMode_13 (by decide) ?_
      exact W.zret (v := (nI 0)) hx hb hr rfl (fun t ht hW => ⟨⟨(nI 0), (), rfl, ⟨znc_f _ (by simp [*]), trivial⟩⟩, hS.F ht⟩) hS.2.2 dX5_noMode_14
    · skip
      have cz := Int32.not_lt.mp c4
      refine lv_iconst (v := (nI 1)) hx hb dX5_noMode_9 (by decide) ?_
      refine lv_goto (tgt := 14) hx hb dX5_noMode_10 (by decide) ?_
      exact W.zret (v := (nI 1)) hx hb hr rfl (fun t ht hW => ⟨⟨(nI 1), (), rfl, ⟨znc_t _ (by simp [*]), trivial⟩⟩, hS.F ht⟩) hS.2.2 dX5_noMode_14
def zchk (there mk : Bool) (many : Nat) (k : Int32) : Int32 := if there = false then nI 1 else if mk = true ∧ k < nI many then nI 0 else nI 2
theorem in_X5_check_X5 : ∀ w ∈ wsX50, w ∈ wsX5_check := fun w h => List.mem_cons_of_mem _ (List.mem_append_right _ h)
set_option maxHeartbeats 4000000 in
set_option maxRecDepth 100000 in
/-- what check says -/
theorem c5_check (l : Launch) (dC : Nat → ClassId) (dI : Nat → Nat → Nat) (a0 aT aE aG aR aN aS aQ aW aX : Nat) (cD cI : ClassId) (th : Int32) (iw ih : Nat) (fa fb fd : UInt64) (ib : Nat) (mk : Bool) (im iq : Nat) (tT : Nat → UInt64) (tE : Nat → Int32) (tG tR tN tS tQ : Nat → UInt64) (tW : Nat → Int32) (tX : Nat → UInt64) (there : Bool) (k : Int32) : Met l yX5_check wsX5_check ({ frames := 0, cells := 0, slots := 0, locals := 0 } : Room) (va_Pc [.ref a0, .int (zb there), .int k] (fun U => va_P (dC, dI) vwCl (w5 a0 aT aE aG aR aN aS aQ aW aX cD cI th iw ih fa fb fd ib mk im iq tT tE tG tR tN tS tQ tW tX) U.heap ∧ va_K (dC, dI) vwCl [(cD, .double), (cI, .int)] U)) (va_Qi (fun (r : Int32) (_ : Unit) => r = zchk there mk im k) (fun _ _ => True) (fun _ => False)) 0 0 (fun _ => False) := by
  refine Met.ofW (cc := cX5_check) (maxL := 3) (ret := (some .int)) (by decide) rfl ?_
  intro p e s m args below meth c s₁ B hml hv
  obtain ⟨rfl, hP0, hK⟩ := hv
  have hx := B.exec
  have hb := B.bytes
  have hr := B.returns
  have hts := atoms_spec (ws := wsX5_check) B.pre
  have hown : s.vm.findClass RX5 = some m.cls := findClass_of_methodNamed B.named
  have hlocks := B.notSynchronized
  have hS : va_S (fun _ => False) s.heap s.heap [] := va_S.rf
  have hP := hP0
  have hl := lv_entry ([.ref a0, .int (zb there), .int k]) (n := 3) (Nat.le_of_ble_eq_true rfl)
  rw [lg_entry_eq]
  generalize (lg_sl ([.ref a0, .int (zb there), .int k]) ++ List.replicate (3 - (lg_sl ([.ref a0, .int (zb there), .int k])).length) Slot.unset).toArray = ls at hl ⊢
  have hl : lv_has ls 3 [(0, .ref a0), (1, .int (zb there)), (2, .int k)] := hl
  refine lv_iload_n hx hb dX5_check_0 rfl (lv_at hl 1 rfl) ?_
  refine z_if_ne_b (tgt := 8) hx hb dX5_check_1 (by decide) (fun c1 => ?_) (fun c2 => ?_)
  · skip
    have ct := c1
    refine lv_aload_n hx hb dX5_check_8 rfl (lv_at hl 0 rfl) ?_
    refine va_get (D := (dC, dI)) (ci := 5) (v := .int (zb mk)) (C := RX5) (T := TX5) (N := 19) hx hb hts (in_X5_check_X5) hown hK hP 0 rfl rfl 12 (by decide) (hts (.fieldLink RX5 72 "PlateModesModel" "made" "Z") (by decide +kernel)) (fun _ h9 => h9) rfl dX5_check_9 ?_
    refine z_if_eq_b (tgt := 27) hx hb dX5_check_12 (by decide) (fun c3 => ?_) (fun c4 => ?_)
    · skip
      have cm := c3
      refine lv_iconst (v := (nI 2)) hx hb dX5_check_27 (by decide) ?_
      exact W.iret (v := (nI 2)) hx hb hr (fun t ht hW => ⟨⟨(nI 2), (), rfl, ⟨by simp [zchk, *], trivial⟩⟩, hS.F ht⟩) hS.2.2 dX5_check_28
    · skip
      have cm := c4
      refine lv_iload_n hx hb dX5_check_15 rfl (lv_at hl 2 rfl) ?_
      refine lv_aload_n hx hb dX5_check_16 rfl (lv_at hl 0 rfl) ?_
      refine va_get (D := (dC, dI)) (ci := 5) (v := .int (nI im)) (C := RX5) (T := TX5) (N := 19) hx hb hts (in_X5_check_X5) hown hK hP 0 rfl rfl 13 (by decide) (hts (.fieldLink RX5 116 "PlateModesModel" "many" "I") (by decide +kernel)) (fun _ h9 => h9) rfl dX5_check_17 ?_
      refine lv_icmp_ge (tgt := 27) hx hb dX5_check_20 (by decide) (fun c5 => ?_) (fun c6 => ?_)
      · skip
        have ck := Int32.not_lt.mpr c5
        refine lv_iconst (v := (nI 2)) hx hb dX5_check_27 (by decide) ?_
        exact W.iret (v := (nI 2)) hx hb hr (fun t ht hW => ⟨⟨(nI 2), (), rfl, ⟨by simp [zchk, *], trivial⟩⟩, hS.F ht⟩) hS.2.2 dX5_check_28
      · skip
        have ck := c6
        refine lv_iconst (v := (nI 0)) hx hb dX5_check_23 (by decide) ?_
        refine lv_goto (tgt := 28) hx hb dX5_check_24 (by decide) ?_
        exact W.iret (v := (nI 0)) hx hb hr (fun t ht hW => ⟨⟨(nI 0), (), rfl, ⟨by simp [zchk, *], trivial⟩⟩, hS.F ht⟩) hS.2.2 dX5_check_28
  · skip
    have ct := c2
    refine lv_iconst (v := (nI 1)) hx hb dX5_check_4 (by decide) ?_
    refine lv_goto (tgt := 28) hx hb dX5_check_5 (by decide) ?_
    exact W.iret (v := (nI 1)) hx hb hr (fun t ht hW => ⟨⟨(nI 1), (), rfl, ⟨by simp [zchk, *], trivial⟩⟩, hS.F ht⟩) hS.2.2 dX5_check_28
theorem in_X5_sumOf_X5 : ∀ w ∈ wsX50, w ∈ wsX5_sumOf := fun w h => List.mem_cons_of_mem _ (List.mem_append_right _ h)
set_option maxHeartbeats 4000000 in
set_option maxRecDepth 100000 in
/-- the sum of a shape -/
theorem c5_sumOf (l : Launch) (dC : Nat → ClassId) (dI : Nat → Nat → Nat) (a0 aT aE aG aR aN aS aQ aW aX : Nat) (cD cI : ClassId) (th : Int32) (iw ih : Nat) (fa fb fd : UInt64) (ib : Nat) (mk : Bool) (im iq : Nat) (tT : Nat → UInt64) (tE : Nat → Int32) (tG tR tN tS tQ : Nat → UInt64) (tW : Nat → Int32) (tX : Nat → UInt64) (k : Nat) (hk : k < 4) (hw6 : iw ≤ 6) (hh6 : ih ≤ 6) (T S : Nat → ZD) (gT : zgr tT iw ih T) (gS : zgs tS k iw ih S) : MetD lw_cs l yX5_sumOf wsX5_sumOf ({ frames := 1, cells := 0, slots := 0, locals := 21 } : Room) (va_Pc [.ref a0, .int (nI k)] (fun U => va_P (dC, dI) vwCl (w5 a0 aT aE aG aR aN aS aQ aW aX cD cI th iw ih fa fb fd ib mk im iq tT tE tG tR tN tS tQ tW tX) U.heap ∧ va_K (dC, dI) vwCl [(cD, .double), (cI, .int)] U)) (va_Qd (fun (r : UInt64) (_ : Unit) => zv r = zsum T S (iw * ih)) (fun _ _ => True) (fun _ => False)) 0 0 (fun _ => False) := by
  refine MetD.ofW (cc := cX5_sumOf) (maxL := 6) (ret := (some .double)) (by decide) rfl ?_
  intro p e s m args below meth c s₁ B hml hv hd0
  obtain ⟨rfl, hP0, hK⟩ := hv
  have hx := B.exec
  have hb := B.bytes
  have hr := B.returns
  have hts := atoms_spec (ws := wsX5_sumOf) B.pre
  have hown : s.vm.findClass RX5 = some m.cls := findClass_of_methodNamed B.named
  have hlocks := B.notSynchronized
  have hS : va_S (fun _ => False) s.heap s.heap [] := va_S.rf
  have hP := hP0
  have hl := lv_entry ([.ref a0, .int (nI k)]) (n := 6) (Nat.le_of_ble_eq_true rfl)
  rw [lg_entry_eq]
  generalize (lg_sl ([.ref a0, .int (nI k)]) ++ List.replicate (6 - (lg_sl ([.ref a0, .int (nI k)])).length) Slot.unset).toArray = ls at hl ⊢
  have hl : lv_has ls 6 [(0, .ref a0), (1, .int (nI k))] := hl
  refine lv_dconst0 hx hb dX5_sumOf_0 ?_
  refine lv_dstore_n (lv' := [(2, .double FP.dconst0), (0, .ref a0), (1, .int (nI k))]) hx hb dX5_sumOf_1 rfl hl (by decide) rfl (fun ls hl => ?_)
  refine lv_iconst (v := (nI 0)) hx hb dX5_sumOf_2 (by decide) ?_
  refine lv_istore (lv' := [(4, .int (nI 0)), (2, .double FP.dconst0), (0, .ref a0), (1, .int (nI k))]) hx hb dX5_sumOf_3 hl (by decide) rfl (fun ls hl => ?_)
  have L_5 : ∀ (n : Nat) (y : Nat) (sy : UInt64) (d0 : Drawn) (H : Heap) (locs : List Loc) (ls : Array Slot), ih - y < n → (y ≤ ih) → (zv sy = zsum T S (y * iw)) → s.drawn.sameBut d0 lw_cs → va_S (fun _ => False) s.heap H locs → lv_has ls 6 [(4, .int (nI y)), (2, .double sy), (0, .ref a0), (1, .int (nI k))] → W p l e (headSpec wsX5_sumOf ({ frames := 1, cells := 0, slots := 0, locals := 21 } : Room)).room (s.setDrawn d0) m ([.ref a0, .int (nI k)] : List Value).toArray below meth c H locs 0 0 (MQD lw_cs below (va_Qd (fun (r : UInt64) (_ : Unit) => zv r = zsum T S (iw * ih)) (fun _ _ => True) (fun _ => False)) ([.ref a0, .int (nI k)] : List Value).toArray s 0 0 (fun _ => False)) (F0 m 5 ls []) := by
    intro n
    induction n with
    | zero => intro y sy d0 H locs ls hn; exact absurd hn (Nat.not_lt_zero _)
    | succ n ih_L_5 =>
      intro y sy d0 H locs ls hn hyh hsy hd0 hS hl
      have hP := zro hP0 hS
      refine lv_iload hx hb dX5_sumOf_5 (lv_at hl 0 rfl) ?_
      refine lv_aload_n hx hb dX5_sumOf_7 rfl (lv_at hl 2 rfl) ?_
      refine va_get (D := (dC, dI)) (ci := 5) (v := .int (nI ih)) (C := RX5) (T := TX5) (N := 19) hx hb (dr_words hts d0) (in_X5_sumOf_X5) hown hK hP 0 rfl rfl 2 (by decide) (dr_words hts d0 (.fieldLink RX5 52 "PlateModesModel" "height" "I") (by decide +kernel)) (fun _ h9 => h9) rfl dX5_sumOf_8 ?_
      refine z_icmp_ge (a := y) (b := ih) (tgt := 78) hx hb (by omega) (by omega) dX5_sumOf_11 (by decide) (fun c1 => ?_) (fun c2 => ?_)
      · skip
        refine lv_dload_n hx hb dX5_sumOf_78 rfl (lv_at hl 1 rfl) ?_
        refine W.endD hd0 ?_
        exact W.dret (v := sy) hx hb hr (fun t ht hW => ⟨⟨sy, (), rfl, ⟨(hsy).trans (congrArg (fun z => zsum T S z) (show y * iw = iw * ih from by rw [show y = ih by omega, Nat.mul_comm])), trivial⟩⟩, hS.F ht⟩) hS.2.2 dX5_sumOf_79
      · skip
        refine lv_iconst (v := (nI 0)) hx hb dX5_sumOf_14 (by decide) ?_
        refine lv_istore (lv' := [(5, .int (nI 0)), (4, .int (nI y)), (2, .double sy), (0, .ref a0), (1, .int (nI k))]) hx hb dX5_sumOf_15 hl (by decide) rfl (fun ls hl => ?_)
        have L_17 : ∀ (n : Nat) (x : Nat) (sx : UInt64) (d0 : Drawn) (H : Heap) (locs : List Loc) (ls : Array Slot), iw - x < n → (x ≤ iw) → (zv sx = zsum T S (y * iw + x)) → s.drawn.sameBut d0 lw_cs → va_S (fun _ => False) s.heap H locs → lv_has ls 6 [(5, .int (nI x)), (4, .int (nI y)), (2, .double sx), (0, .ref a0), (1, .int (nI k))] → W p l e (headSpec wsX5_sumOf ({ frames := 1, cells := 0, slots := 0, locals := 21 } : Room)).room (s.setDrawn d0) m ([.ref a0, .int (nI k)] : List Value).toArray below meth c H locs 0 0 (MQD lw_cs below (va_Qd (fun (r : UInt64) (_ : Unit) => zv r = zsum T S (iw * ih)) (fun _ _ => True) (fun _ => False)) ([.ref a0, .int (nI k)] : List Value).toArray s 0 0 (fun _ => False)) (F0 m 17 ls []) := by
          intro n
          induction n with
          | zero => intro x sx d0 H locs ls hn; exact absurd hn (Nat.not_lt_zero _)
          | succ n ih_L_17 =>
            intro x sx d0 H locs ls hn hxw hsx hd0 hS hl
            have hP := zro hP0 hS
            refine lv_iload hx hb dX5_sumOf_17 (lv_at hl 0 rfl) ?_
            refine lv_aload_n hx hb dX5_sumOf_19 rfl (lv_at hl 3 rfl) ?_
            refine va_get (D := (dC, dI)) (ci := 5) (v := .int (nI iw)) (C := RX5) (T := TX5) (N := 19) hx hb (dr_words hts d0) (in_X5_sumOf_X5) hown hK hP 0 rfl rfl 1 (by decide) (dr_words hts d0 (.fieldLink RX5 48 "PlateModesModel" "width" "I") (by decide +kernel)) (fun _ h9 => h9) rfl dX5_sumOf_20 ?_
            refine z_icmp_ge (a := x) (b := iw) (tgt := 72) hx hb (by omega) (by omega) dX5_sumOf_23 (by decide) (fun c3 => ?_) (fun c4 => ?_)
            · skip
              refine lv_iinc (v := nI (y + 1)) (lv' := [(4, .int (nI (y + 1))), (5, .int (nI x)), (2, .double sx), (0, .ref a0), (1, .int (nI k))]) hx hb dX5_sumOf_72 hl (k := 1) rfl (show nI y + nI 1 = _ from zi_add (by omega)) (by decide) rfl (fun ls hl => ?_)
              refine lv_goto (tgt := 5) hx hb dX5_sumOf_75 (by decide) ?_
              exact ih_L_5 (y + 1) sx _ _ _ _ (by omega) (by omega) ((hsx).trans (congrArg (fun z => zsum T S z) (show y * iw + x = (y + 1) * iw from by rw [← zrow_end]; omega))) hd0 hS (lv_sub hl [0, 2, 3, 4] rfl)
            · skip
              refine lv_aload_n hx hb dX5_sumOf_26 rfl (lv_at hl 3 rfl) ?_
              refine lv_bipush (v := (nI 6)) hx hb dX5_sumOf_27 (by decide) ?_
              refine lv_iload hx hb dX5_sumOf_29 (lv_at hl 1 rfl) ?_
              refine t_imul hx hb dX5_sumOf_31 (v := nI (6 * y)) (zi_mul rfl) ?_
              refine lv_iload hx hb dX5_sumOf_32 (lv_at hl 0 rfl) ?_
              refine t_iadd hx hb dX5_sumOf_34 (v := nI (6 * y + x)) (zi_add (by omega)) ?_
              have hPc := hP
              refine va_calli (va_runV (As := [.int (nI (6 * y + x))]) (rest := []) ⟨hx, hb, hml, hown, (dr_words hts d0)⟩ (c5_isWood l dC dI a0 aT aE aG aR aN aS aQ aW aX cD cI th iw ih fa fb fd ib mk im iq tT tE tG tR tN tS tQ tW tX (6 * y + x) (by omega)) (cwV 1 (dr_words hts d0) gX5_sumOf_X5_isWood rfl rfl rfl (by decide +kernel) ⟨Nat.le_of_ble_eq_true rfl, Nat.le_of_ble_eq_true rfl⟩) ⟨zfb, va_recv hK hP (ci := 5) (q0 := 0) rfl rfl, zpre hPc hK⟩ rfl rfl hl.1 rfl (lv_room (Nat.le_of_ble_eq_true rfl)) dX5_sumOf_35 ⟨Nat.le_of_ble_eq_true rfl, Nat.le_of_ble_eq_true rfl⟩) hS (fun q _ h => h.elim) (fun q h => h.elim) (fun r5 u9 t9 H locs ht9 hvm9 hr5 hB9 hz9 hk1 hS => ?_)
              have hP := zro1 hP hk1
              have hr5 : r5 = zb (zgt (T (y * iw + x)) z0) := by rw [hr5, zgr_at gT x y (by omega) (by omega) (by omega)]
              subst hr5
              have J_65 : ∀ (sv : UInt64) (d0 : Drawn) (H : Heap) (locs : List Loc) (ls : Array Slot), (zv sv = zsum T S (y * iw + x + 1)) → s.drawn.sameBut d0 lw_cs → va_S (fun _ => False) s.heap H locs → lv_has ls 6 [(5, .int (nI x)), (4, .int (nI y)), (2, .double sx), (0, .ref a0), (1, .int (nI k))] → W p l e (headSpec wsX5_sumOf ({ frames := 1, cells := 0, slots := 0, locals := 21 } : Room)).room (s.setDrawn d0) m ([.ref a0, .int (nI k)] : List Value).toArray below meth c H locs 0 0 (MQD lw_cs below (va_Qd (fun (r : UInt64) (_ : Unit) => zv r = zsum T S (iw * ih)) (fun _ _ => True) (fun _ => False)) ([.ref a0, .int (nI k)] : List Value).toArray s 0 0 (fun _ => False)) (F0 m 65 ls [.double sv]) := by
                intro sv d0 H locs ls hsv hd0 hS hl
                have hP := zro hP0 hS
                refine lv_dstore_n (lv' := [(2, .double sv), (5, .int (nI x)), (4, .int (nI y)), (0, .ref a0), (1, .int (nI k))]) hx hb dX5_sumOf_65 rfl hl (by decide) rfl (fun ls hl => ?_)
                refine lv_iinc (v := nI (x + 1)) (lv' := [(5, .int (nI (x + 1))), (2, .double sv), (4, .int (nI y)), (0, .ref a0), (1, .int (nI k))]) hx hb dX5_sumOf_66 hl (k := 1) rfl (show nI x + nI 1 = _ from zi_add (by omega)) (by decide) rfl (fun ls hl => ?_)
                refine lv_goto (tgt := 17) hx hb dX5_sumOf_69 (by decide) ?_
                exact ih_L_17 (x + 1) sv _ _ _ _ (by omega) (by omega) hsv hd0 hS (lv_sub hl [0, 2, 1, 3, 4] rfl)
              refine z_if_eq_b (tgt := 64) hx hb dX5_sumOf_38 (by decide) (fun c6 => ?_) (fun c7 => ?_)
              · skip
                have cw := c6
                refine lv_dload_n hx hb dX5_sumOf_64 rfl (lv_at hl 2 rfl) ?_
                exact J_65 sx _ _ _ _ (hsx.trans (zsum_f cw).symm) hd0 hS hl
              · skip
                have cw := c7
                refine lv_dload_n hx hb dX5_sumOf_41 rfl (lv_at hl 2 rfl) ?_
                refine lv_aload_n hx hb dX5_sumOf_42 rfl (lv_at hl 3 rfl) ?_
                refine va_get (D := (dC, dI)) (ci := 5) (v := .ref aS) (C := RX5) (T := TX5) (N := 19) hx hb (dr_words hts d0) (in_X5_sumOf_X5) hown hK hP 0 rfl rfl 14 (by decide) (dr_words hts d0 (.fieldLink RX5 36 "PlateModesModel" "shapes" "[D") (by decide +kernel)) (fun _ h9 => h9) rfl dX5_sumOf_43 ?_
                refine lv_bipush (v := (nI 36)) hx hb dX5_sumOf_46 (by decide) ?_
                refine lv_iload_n hx hb dX5_sumOf_48 rfl (lv_at hl 4 rfl) ?_
                refine t_imul hx hb dX5_sumOf_49 (v := nI (36 * k)) (zi_mul rfl) ?_
                refine lv_bipush (v := (nI 6)) hx hb dX5_sumOf_50 (by decide) ?_
                refine lv_iload hx hb dX5_sumOf_52 (lv_at hl 1 rfl) ?_
                refine t_imul hx hb dX5_sumOf_54 (v := nI (6 * y)) (zi_mul rfl) ?_
                refine t_iadd hx hb dX5_sumOf_55 (v := nI (36 * k + 6 * y)) (zi_add (by omega)) ?_
                refine lv_iload hx hb dX5_sumOf_56 (lv_at hl 0 rfl) ?_
                refine t_iadd hx hb dX5_sumOf_58 (v := nI (36 * k + 6 * y + x)) (zi_add (by omega)) ?_
                refine z_dald (s := s.setDrawn d0) (n := 144) (i := 36 * k + 6 * y + x) hx hb hK hP 6 0 rfl rfl (by omega) (by decide) dX5_sumOf_59 ?_
                refine zr_dadd hd0 hx hb (a := zsum T S (y * iw + x)) (b := S (y * iw + x)) hsx (zgs_at gS x y (by omega) (by omega) (by omega)) dX5_sumOf_60 (fun r8 d9 hr8 hd9 => ?_)
                refine lv_goto (tgt := 65) hx hb dX5_sumOf_61 (by decide) ?_
                exact J_65 r8 _ _ _ _ (hr8.trans (zsum_t cw).symm) hd9 hS hl
        exact L_17 _ 0 sy _ _ _ _ (Nat.lt_succ_self _) (by omega) hsy hd0 hS hl
  exact L_5 _ 0 FP.dconst0 _ _ _ _ (Nat.lt_succ_self _) (by omega) (by rw [Nat.zero_mul]; rfl) hd0 hS hl
theorem zabs_t {v : ZD} (h : zlt v z0 = true) : zabs v = zN v := if_pos h
theorem zabs_f {v : ZD} (h : zlt v z0 = false) : zabs v = v := if_neg (by rw [h]; decide)
theorem in_X5_residue_X5 : ∀ w ∈ wsX50, w ∈ wsX5_residue := fun w h => List.mem_cons_of_mem _ (List.mem_append_right _ h)
set_option maxHeartbeats 4000000 in
set_option maxRecDepth 100000 in
/-- RESIDUE -/
theorem c5_residue (l : Launch) (dC : Nat → ClassId) (dI : Nat → Nat → Nat) (a0 aT aE aG aR aN aS aQ aW aX : Nat) (cD cI : ClassId) (th : Int32) (iw ih : Nat) (fa fb fd : UInt64) (ib : Nat) (mk : Bool) (im iq : Nat) (tT : Nat → UInt64) (tE : Nat → Int32) (tG tR tN tS tQ : Nat → UInt64) (tW : Nat → Int32) (tX : Nat → UInt64) (k : Nat) (hk : k < 4) (hw6 : iw ≤ 6) (hh6 : ih ≤ 6) (T R N S : Nat → ZD) (gT : zgr tT iw ih T) (gR : zgr tR iw ih R) (gN : zgr tN iw ih N) (gS : zgs tS k iw ih S) : MetD lw_cs l yX5_residue wsX5_residue ({ frames := 1, cells := 0, slots := 0, locals := 27 } : Room) (va_Pc [.ref a0, .int (nI k)] (fun U => va_P (dC, dI) vwCl (w5 a0 aT aE aG aR aN aS aQ aW aX cD cI th iw ih fa fb fd ib mk im iq tT tE tG tR tN tS tQ tW tX) U.heap ∧ va_K (dC, dI) vwCl [(cD, .double), (cI, .int)] U)) (va_Qd (fun (r : UInt64) (_ : Unit) => zv r = zres iw ih T R N S (zv fd) (zv (tQ k)) (iw * ih)) (fun _ _ => True) (fun _ => False)) 0 0 (fun _ => False) := by
  refine MetD.ofW (cc := cX5_residue) (maxL := 9) (ret := (some .double)) (by decide) rfl ?_
  intro p e s m args below meth c s₁ B hml hv hd0
  obtain ⟨rfl, hP0, hK⟩ := hv
  have hx := B.exec
  have hb := B.bytes
  have hr := B.returns
  have hts := atoms_spec (ws := wsX5_residue) B.pre
  have hown : s.vm.findClass RX5 = some m.cls := findClass_of_methodNamed B.named
  have hlocks := B.notSynchronized
  have hS : va_S (fun _ => False) s.heap s.heap [] := va_S.rf
  have hP := hP0
  have hl := lv_entry ([.ref a0, .int (nI k)]) (n := 9) (Nat.le_of_ble_eq_true rfl)
  rw [lg_entry_eq]
  generalize (lg_sl ([.ref a0, .int (nI k)]) ++ List.replicate (9 - (lg_sl ([.ref a0, .int (nI k)])).length) Slot.unset).toArray = ls at hl ⊢
  have hl : lv_has ls 9 [(0, .ref a0), (1, .int (nI k))] := hl
  refine lv_dconst0 hx hb dX5_residue_0 ?_
  refine lv_dstore_n (lv' := [(2, .double FP.dconst0), (0, .ref a0), (1, .int (nI k))]) hx hb dX5_residue_1 rfl hl (by decide) rfl (fun ls hl => ?_)
  refine lv_iconst (v := (nI 0)) hx hb dX5_residue_2 (by decide) ?_
  refine lv_istore (lv' := [(4, .int (nI 0)), (2, .double FP.dconst0), (0, .ref a0), (1, .int (nI k))]) hx hb dX5_residue_3 hl (by decide) rfl (fun ls hl => ?_)
  have L_5 : ∀ (n : Nat) (y : Nat) (sy : UInt64) (d0 : Drawn) (H : Heap) (locs : List Loc) (ls : Array Slot), ih - y < n → (y ≤ ih) → (zv sy = zres iw ih T R N S (zv fd) (zv (tQ k)) (y * iw)) → s.drawn.sameBut d0 lw_cs → va_S (fun _ => False) s.heap H locs → lv_has ls 9 [(4, .int (nI y)), (2, .double sy), (0, .ref a0), (1, .int (nI k))] → W p l e (headSpec wsX5_residue ({ frames := 1, cells := 0, slots := 0, locals := 27 } : Room)).room (s.setDrawn d0) m ([.ref a0, .int (nI k)] : List Value).toArray below meth c H locs 0 0 (MQD lw_cs below (va_Qd (fun (r : UInt64) (_ : Unit) => zv r = zres iw ih T R N S (zv fd) (zv (tQ k)) (iw * ih)) (fun _ _ => True) (fun _ => False)) ([.ref a0, .int (nI k)] : List Value).toArray s 0 0 (fun _ => False)) (F0 m 5 ls []) := by
    intro n
    induction n with
    | zero => intro y sy d0 H locs ls hn; exact absurd hn (Nat.not_lt_zero _)
    | succ n ih_L_5 =>
      intro y sy d0 H locs ls hn hyh hsy hd0 hS hl
      have hP := zro hP0 hS
      refine lv_iload hx hb dX5_residue_5 (lv_at hl 0 rfl) ?_
      refine lv_aload_n hx hb dX5_residue_7 rfl (lv_at hl 2 rfl) ?_
      refine va_get (D := (dC, dI)) (ci := 5) (v := .int (nI ih)) (C := RX5) (T := TX5) (N := 19) hx hb (dr_words hts d0) (in_X5_residue_X5) hown hK hP 0 rfl rfl 2 (by decide) (dr_words hts d0 (.fieldLink RX5 52 "PlateModesModel" "height" "I") (by decide +kernel)) (fun _ h9 => h9) rfl dX5_residue_8 ?_
      refine z_icmp_ge (a := y) (b := ih) (tgt := 126) hx hb (by omega) (by omega) dX5_residue_11 (by decide) (fun c1 => ?_) (fun c2 => ?_)
      · skip
        refine lv_dload_n hx hb dX5_residue_126 rfl (lv_at hl 1 rfl) ?_
        refine W.endD hd0 ?_
        exact W.dret (v := sy) hx hb hr (fun t ht hW => ⟨⟨sy, (), rfl, ⟨(hsy).trans (congrArg (fun z => zres iw ih T R N S (zv fd) (zv (tQ k)) z) (show y * iw = iw * ih from by rw [show y = ih by omega, Nat.mul_comm])), trivial⟩⟩, hS.F ht⟩) hS.2.2 dX5_residue_127
      · skip
        refine lv_iconst (v := (nI 0)) hx hb dX5_residue_14 (by decide) ?_
        refine lv_istore (lv' := [(5, .int (nI 0)), (4, .int (nI y)), (2, .double sy), (0, .ref a0), (1, .int (nI k))]) hx hb dX5_residue_15 hl (by decide) rfl (fun ls hl => ?_)
        have L_17 : ∀ (n : Nat) (x : Nat) (sx : UInt64) (d0 : Drawn) (H : Heap) (locs : List Loc) (ls : Array Slot), iw - x < n → (x ≤ iw) → (zv sx = zres iw ih T R N S (zv fd) (zv (tQ k)) (y * iw + x)) → s.drawn.sameBut d0 lw_cs → va_S (fun _ => False) s.heap H locs → lv_has ls 9 [(5, .int (nI x)), (4, .int (nI y)), (2, .double sx), (0, .ref a0), (1, .int (nI k))] → W p l e (headSpec wsX5_residue ({ frames := 1, cells := 0, slots := 0, locals := 27 } : Room)).room (s.setDrawn d0) m ([.ref a0, .int (nI k)] : List Value).toArray below meth c H locs 0 0 (MQD lw_cs below (va_Qd (fun (r : UInt64) (_ : Unit) => zv r = zres iw ih T R N S (zv fd) (zv (tQ k)) (iw * ih)) (fun _ _ => True) (fun _ => False)) ([.ref a0, .int (nI k)] : List Value).toArray s 0 0 (fun _ => False)) (F0 m 17 ls []) := by
          intro n
          induction n with
          | zero => intro x sx d0 H locs ls hn; exact absurd hn (Nat.not_lt_zero _)
          | succ n ih_L_17 =>
            intro x sx d0 H locs ls hn hxw hsx hd0 hS hl
            have hP := zro hP0 hS
            refine lv_iload hx hb dX5_residue_17 (lv_at hl 0 rfl) ?_
            refine lv_aload_n hx hb dX5_residue_19 rfl (lv_at hl 3 rfl) ?_
            refine va_get (D := (dC, dI)) (ci := 5) (v := .int (nI iw)) (C := RX5) (T := TX5) (N := 19) hx hb (dr_words hts d0) (in_X5_residue_X5) hown hK hP 0 rfl rfl 1 (by decide) (dr_words hts d0 (.fieldLink RX5 48 "PlateModesModel" "width" "I") (by decide +kernel)) (fun _ h9 => h9) rfl dX5_residue_20 ?_
            refine z_icmp_ge (a := x) (b := iw) (tgt := 120) hx hb (by omega) (by omega) dX5_residue_23 (by decide) (fun c3 => ?_) (fun c4 => ?_)
            · skip
              refine lv_iinc (v := nI (y + 1)) (lv' := [(4, .int (nI (y + 1))), (5, .int (nI x)), (2, .double sx), (0, .ref a0), (1, .int (nI k))]) hx hb dX5_residue_120 hl (k := 1) rfl (show nI y + nI 1 = _ from zi_add (by omega)) (by decide) rfl (fun ls hl => ?_)
              refine lv_goto (tgt := 5) hx hb dX5_residue_123 (by decide) ?_
              exact ih_L_5 (y + 1) sx _ _ _ _ (by omega) (by omega) ((hsx).trans (congrArg (fun z => zres iw ih T R N S (zv fd) (zv (tQ k)) z) (show y * iw + x = (y + 1) * iw from by rw [← zrow_end]; omega))) hd0 hS (lv_sub hl [0, 2, 3, 4] rfl)
            · skip
              refine lv_bipush (v := (nI 6)) hx hb dX5_residue_26 (by decide) ?_
              refine lv_iload hx hb dX5_residue_28 (lv_at hl 1 rfl) ?_
              refine t_imul hx hb dX5_residue_30 (v := nI (6 * y)) (zi_mul rfl) ?_
              refine lv_iload hx hb dX5_residue_31 (lv_at hl 0 rfl) ?_
              refine t_iadd hx hb dX5_residue_33 (v := nI (6 * y + x)) (zi_add (by omega)) ?_
              refine lv_istore (lv' := [(6, .int (nI (6 * y + x))), (5, .int (nI x)), (4, .int (nI y)), (2, .double sx), (0, .ref a0), (1, .int (nI k))]) hx hb dX5_residue_34 hl (by decide) rfl (fun ls hl => ?_)
              refine lv_aload_n hx hb dX5_residue_36 rfl (lv_at hl 4 rfl) ?_
              refine lv_iload_n hx hb dX5_residue_37 rfl (lv_at hl 5 rfl) ?_
              refine lv_iload hx hb dX5_residue_38 (lv_at hl 1 rfl) ?_
              refine lv_iload hx hb dX5_residue_40 (lv_at hl 2 rfl) ?_
              have hPc := hP
              refine va_calldD hd0 (va_runV_D (As := [.int (nI k), .int (nI x), .int (nI y)]) (rest := []) ⟨hx, hb, hml, hown, (dr_words hts d0)⟩ (c5_force l dC dI a0 aT aE aG aR aN aS aQ aW aX cD cI th iw ih fa fb fd ib mk im iq tT tE tG tR tN tS tQ tW tX k x y (by omega) (by omega) (by omega) hw6 hh6 R N S gR gN gS) (cwV 3 (dr_words hts d0) gX5_residue_X5_force rfl rfl rfl (by decide +kernel) ⟨Nat.le_of_ble_eq_true rfl, Nat.le_of_ble_eq_true rfl⟩) ⟨zfb, va_recv hK hP (ci := 5) (q0 := 0) rfl rfl, zpre hPc hK⟩ rfl rfl hl.1 rfl (lv_room (Nat.le_of_ble_eq_true rfl)) dX5_residue_42 ⟨Nat.le_of_ble_eq_true rfl, Nat.le_of_ble_eq_true rfl⟩) hS (fun q _ h => h.elim) (fun q h => h.elim) (fun r5 u9 t9 H locs ht9 hvm9 hr5 hB9 hz9 hk1 hS dhd6 hd6 => ?_)
              have hP := zro1 hP hk1
              refine lv_aload_n hx hb dX5_residue_45 rfl (lv_at hl 4 rfl) ?_
              refine va_get (D := (dC, dI)) (ci := 5) (v := .ref aQ) (C := RX5) (T := TX5) (N := 19) hx hb (dr_words hts dhd6) (in_X5_residue_X5) hown hK hP 0 rfl rfl 15 (by decide) (dr_words hts dhd6 (.fieldLink RX5 39 "PlateModesModel" "squares" "[D") (by decide +kernel)) (fun _ h9 => h9) rfl dX5_residue_46 ?_
              refine lv_iload_n hx hb dX5_residue_49 rfl (lv_at hl 5 rfl) ?_
              refine z_dald (s := s.setDrawn dhd6) (n := 4) (i := k) hx hb hK hP 7 0 rfl rfl (by omega) (by decide) dX5_residue_50 ?_
              refine lv_aload_n hx hb dX5_residue_51 rfl (lv_at hl 4 rfl) ?_
              refine lv_iload hx hb dX5_residue_52 (lv_at hl 0 rfl) ?_
              have hPc := hP
              refine va_calldD hd6 (va_runV_D (As := [.int (nI (6 * y + x))]) (rest := [.double (tQ k), .double r5]) ⟨hx, hb, hml, hown, (dr_words hts dhd6)⟩ (c5_mass l dC dI a0 aT aE aG aR aN aS aQ aW aX cD cI th iw ih fa fb fd ib mk im iq tT tE tG tR tN tS tQ tW tX (6 * y + x) (by omega)) (cwV 1 (dr_words hts dhd6) gX5_residue_X5_mass rfl rfl rfl (by decide +kernel) ⟨Nat.le_of_ble_eq_true rfl, Nat.le_of_ble_eq_true rfl⟩) ⟨zfb, va_recv hK hP (ci := 5) (q0 := 0) rfl rfl, zpre hPc hK⟩ rfl rfl hl.1 rfl (lv_room (Nat.le_of_ble_eq_true rfl)) dX5_residue_54 ⟨Nat.le_of_ble_eq_true rfl, Nat.le_of_ble_eq_true rfl⟩) hS (fun q _ h => h.elim) (fun q h => h.elim) (fun r7 u9 t9 H locs ht9 hvm9 hr7 hB9 hz9 hk1 hS dhd8 hd8 => ?_)
              have hP := zro1 hP hk1
              have hr7 : zv r7 = zM (T (y * iw + x)) (zv fd) := by rw [hr7, zgr_at gT x y (by omega) (by omega) (by omega)]
              refine zr_dmul hd8 hx hb (a := zv (tQ k)) (b := zM (T (y * iw + x)) (zv fd)) rfl hr7 dX5_residue_57 (fun r9 d10 hr9 hd10 => ?_)
              refine lv_aload_n hx hb dX5_residue_58 rfl (lv_at hl 4 rfl) ?_
              refine va_get (D := (dC, dI)) (ci := 5) (v := .ref aS) (C := RX5) (T := TX5) (N := 19) hx hb (dr_words hts d10) (in_X5_residue_X5) hown hK hP 0 rfl rfl 14 (by decide) (dr_words hts d10 (.fieldLink RX5 36 "PlateModesModel" "shapes" "[D") (by decide +kernel)) (fun _ h9 => h9) rfl dX5_residue_59 ?_
              refine lv_bipush (v := (nI 36)) hx hb dX5_residue_62 (by decide) ?_
              refine lv_iload_n hx hb dX5_residue_64 rfl (lv_at hl 5 rfl) ?_
              refine t_imul hx hb dX5_residue_65 (v := nI (36 * k)) (zi_mul rfl) ?_
              refine lv_iload hx hb dX5_residue_66 (lv_at hl 0 rfl) ?_
              refine t_iadd hx hb dX5_residue_68 (v := nI (36 * k + 6 * y + x)) (zi_add (by omega)) ?_
              refine z_dald (s := s.setDrawn d10) (n := 144) (i := 36 * k + 6 * y + x) hx hb hK hP 6 0 rfl rfl (by omega) (by decide) dX5_residue_69 ?_
              refine zr_dmul hd10 hx hb (a := zM (zv (tQ k)) (zM (T (y * iw + x)) (zv fd))) (b := S (y * iw + x)) hr9 (zgs_at gS x y (by omega) (by omega) (by omega)) dX5_residue_70 (fun r11 d12 hr11 hd12 => ?_)
              refine zr_dadd hd12 hx hb (a := zforce iw ih R N S x y) (b := zM (zM (zv (tQ k)) (zM (T (y * iw + x)) (zv fd))) (S (y * iw + x))) hr5 hr11 dX5_residue_71 (fun r13 d14 hr13 hd14 => ?_)
              refine lv_dstore (lv' := [(7, .double r13), (6, .int (nI (6 * y + x))), (5, .int (nI x)), (4, .int (nI y)), (2, .double sx), (0, .ref a0), (1, .int (nI k))]) hx hb dX5_residue_72 hl (by decide) rfl (fun ls hl => ?_)
              have J_89 : ∀ (v2 : UInt64) (d0 : Drawn) (H : Heap) (locs : List Loc) (ls : Array Slot), (zv v2 = zresV iw ih T R N S (zv fd) (zv (tQ k)) (y * iw + x) x y) → s.drawn.sameBut d0 lw_cs → va_S (fun _ => False) s.heap H locs → lv_has ls 9 [(6, .int (nI (6 * y + x))), (5, .int (nI x)), (4, .int (nI y)), (2, .double sx), (0, .ref a0), (1, .int (nI k))] → W p l e (headSpec wsX5_residue ({ frames := 1, cells := 0, slots := 0, locals := 27 } : Room)).room (s.setDrawn d0) m ([.ref a0, .int (nI k)] : List Value).toArray below meth c H locs 0 0 (MQD lw_cs below (va_Qd (fun (r : UInt64) (_ : Unit) => zv r = zres iw ih T R N S (zv fd) (zv (tQ k)) (iw * ih)) (fun _ _ => True) (fun _ => False)) ([.ref a0, .int (nI k)] : List Value).toArray s 0 0 (fun _ => False)) (F0 m 89 ls [.double v2]) := by
                intro v2 d0 H locs ls hv2 hd0 hS hl
                have hP := zro hP0 hS
                refine lv_dstore (lv' := [(7, .double v2), (6, .int (nI (6 * y + x))), (5, .int (nI x)), (4, .int (nI y)), (2, .double sx), (0, .ref a0), (1, .int (nI k))]) hx hb dX5_residue_89 hl (by decide) rfl (fun ls hl => ?_)
                have J_113 : ∀ (sv : UInt64) (d0 : Drawn) (H : Heap) (locs : List Loc) (ls : Array Slot), (zv sv = zres iw ih T R N S (zv fd) (zv (tQ k)) (y * iw + x + 1)) → s.drawn.sameBut d0 lw_cs → va_S (fun _ => False) s.heap H locs → lv_has ls 9 [(6, .int (nI (6 * y + x))), (5, .int (nI x)), (4, .int (nI y)), (2, .double sx), (0, .ref a0), (1, .int (nI k))] → W p l e (headSpec wsX5_residue ({ frames := 1, cells := 0, slots := 0, locals := 27 } : Room)).room (s.setDrawn d0) m ([.ref a0, .int (nI k)] : List Value).toArray below meth c H locs 0 0 (MQD lw_cs below (va_Qd (fun (r : UInt64) (_ : Unit) => zv r = zres iw ih T R N S (zv fd) (zv (tQ k)) (iw * ih)) (fun _ _ => True) (fun _ => False)) ([.ref a0, .int (nI k)] : List Value).toArray s 0 0 (fun _ => False)) (F0 m 113 ls [.double sv]) := by
                  intro sv d0 H locs ls hsv hd0 hS hl
                  have hP := zro hP0 hS
                  refine lv_dstore_n (lv' := [(2, .double sv), (6, .int (nI (6 * y + x))), (5, .int (nI x)), (4, .int (nI y)), (0, .ref a0), (1, .int (nI k))]) hx hb dX5_residue_113 rfl hl (by decide) rfl (fun ls hl => ?_)
                  refine lv_iinc (v := nI (x + 1)) (lv' := [(5, .int (nI (x + 1))), (2, .double sv), (6, .int (nI (6 * y + x))), (4, .int (nI y)), (0, .ref a0), (1, .int (nI k))]) hx hb dX5_residue_114 hl (k := 2) rfl (show nI x + nI 1 = _ from zi_add (by omega)) (by decide) rfl (fun ls hl => ?_)
                  refine lv_goto (tgt := 17) hx hb dX5_residue_117 (by decide) ?_
                  exact ih_L_17 (x + 1) sv _ _ _ _ (by omega) (by omega) hsv hd0 hS (lv_sub hl [0, 3, 1, 4, 5] rfl)
                refine lv_aload_n hx hb dX5_residue_91 rfl (lv_at hl 5 rfl) ?_
                refine lv_iload hx hb dX5_residue_92 (lv_at hl 1 rfl) ?_
                have hPc := hP
                refine va_calli (va_runV (As := [.int (nI (6 * y + x))]) (rest := []) ⟨hx, hb, hml, hown, (dr_words hts d0)⟩ (c5_isWood l dC dI a0 aT aE aG aR aN aS aQ aW aX cD cI th iw ih fa fb fd ib mk im iq tT tE tG tR tN tS tQ tW tX (6 * y + x) (by omega)) (cwV 1 (dr_words hts d0) gX5_residue_X5_isWood rfl rfl rfl (by decide +kernel) ⟨Nat.le_of_ble_eq_true rfl, Nat.le_of_ble_eq_true rfl⟩) ⟨zfb, va_recv hK hP (ci := 5) (q0 := 0) rfl rfl, zpre hPc hK⟩ rfl rfl hl.1 rfl (lv_room (Nat.le_of_ble_eq_true rfl)) dX5_residue_94 ⟨Nat.le_of_ble_eq_true rfl, Nat.le_of_ble_eq_true rfl⟩) hS (fun q _ h => h.elim) (fun q h => h.elim) (fun r15 u9 t9 H locs ht9 hvm9 hr15 hB9 hz9 hk1 hS => ?_)
                have hP := zro1 hP hk1
                have hr15 : r15 = zb (zgt (T (y * iw + x)) z0) := by rw [hr15, zgr_at gT x y (by omega) (by omega) (by omega)]
                subst hr15
                refine z_if_eq_b (tgt := 112) hx hb dX5_residue_97 (by decide) (fun c16 => ?_) (fun c17 => ?_)
                · skip
                  have cw := c16
                  refine lv_dload_n hx hb dX5_residue_112 rfl (lv_at hl 4 rfl) ?_
                  exact J_113 sx _ _ _ _ (hsx.trans (zres_f cw).symm) hd0 hS (lv_sub hl [1, 2, 3, 4, 5, 6] rfl)
                · skip
                  have cw := c17
                  refine lv_dload hx hb dX5_residue_100 (lv_at hl 0 rfl) ?_
                  refine lv_dload_n hx hb dX5_residue_102 rfl (lv_at hl 4 rfl) ?_
                  refine z_cmp_l_le (tgt := 112) hx hb (a := zresV iw ih T R N S (zv fd) (zv (tQ k)) (y * iw + x) x y) (b := zres iw ih T R N S (zv fd) (zv (tQ k)) (y * iw + x)) hv2 hsx dX5_residue_103 dX5_residue_104 (by decide) (fun c18 => ?_) (fun c19 => ?_)
                  · skip
                    have cg := c18
                    refine lv_dload_n hx hb dX5_residue_112 rfl (lv_at hl 4 rfl) ?_
                    exact J_113 sx _ _ _ _ (hsx.trans (zres_tf (by omega) cg).symm) hd0 hS (lv_sub hl [1, 2, 3, 4, 5, 6] rfl)
                  · skip
                    have cg := c19
                    refine lv_dload hx hb dX5_residue_107 (lv_at hl 0 rfl) ?_
                    refine lv_goto (tgt := 113) hx hb dX5_residue_109 (by decide) ?_
                    exact J_113 v2 _ _ _ _ (hv2.trans (zres_tt (by omega) cw cg).symm) hd0 hS (lv_sub hl [1, 2, 3, 4, 5, 6] rfl)
              refine lv_dload hx hb dX5_residue_74 (lv_at hl 0 rfl) ?_
              refine lv_dconst0 hx hb dX5_residue_76 ?_
              refine z_cmp_g_ge (tgt := 87) hx hb (a := zA (zforce iw ih R N S x y) (zM (zM (zv (tQ k)) (zM (T (y * iw + x)) (zv fd))) (S (y * iw + x)))) (b := z0) hr13 rfl dX5_residue_77 dX5_residue_78 (by decide) (fun c20 => ?_) (fun c21 => ?_)
              · skip
                have ca := c20
                refine lv_dload hx hb dX5_residue_87 (lv_at hl 0 rfl) ?_
                exact J_89 r13 _ _ _ _ (hr13.trans (zabs_f ca).symm) hd14 hS (lv_sub hl [1, 2, 3, 4, 5, 6] rfl)
              · skip
                have ca := c21
                refine lv_dload hx hb dX5_residue_81 (lv_at hl 0 rfl) ?_
                refine zr_dneg hx hb (a := zA (zforce iw ih R N S x y) (zM (zM (zv (tQ k)) (zM (T (y * iw + x)) (zv fd))) (S (y * iw + x)))) hr13 dX5_residue_83 (fun r22 hr22 => ?_)
                refine lv_goto (tgt := 89) hx hb dX5_residue_84 (by decide) ?_
                exact J_89 r22 _ _ _ _ (hr22.trans (zabs_t ca).symm) hd14 hS (lv_sub hl [1, 2, 3, 4, 5, 6] rfl)
        exact L_17 _ 0 sy _ _ _ _ (Nat.lt_succ_self _) (by omega) hsy hd0 hS hl
  exact L_5 _ 0 FP.dconst0 _ _ _ _ (Nat.lt_succ_self _) (by omega) (by rw [Nat.zero_mul]; rfl) hd0 hS hl
theorem zneed_le {f : Nat → Nat} {n : Nat} (h : ∀ i, i < n → f i < 4) : ∀ k, k ≤ n → zneed f k ≤ 4
  | 0, _ => Nat.zero_le _
  | k + 1, hk => by
    have h1 := zneed_le h k (Nat.le_of_succ_le hk)
    have h2 := h k hk
    show (if f k + 1 > zneed f k then f k + 1 else zneed f k) ≤ 4
    split <;> omega
theorem in_X5_needed_X5 : ∀ w ∈ wsX50, w ∈ wsX5_needed := fun w h => List.mem_cons_of_mem _ (List.mem_append_right _ h)
set_option maxHeartbeats 4000000 in
set_option maxRecDepth 100000 in
/-- how many modes are needed -/
theorem c5_needed (l : Launch) (dC : Nat → ClassId) (dI : Nat → Nat → Nat) (a0 aT aE aG aR aN aS aQ aW aX : Nat) (cD cI : ClassId) (th : Int32) (iw ih : Nat) (fa fb fd : UInt64) (ib : Nat) (mk : Bool) (im iq : Nat) (tT : Nat → UInt64) (tE : Nat → Int32) (tG tR tN tS tQ : Nat → UInt64) (tW : Nat → Int32) (tX : Nat → UInt64) (wn : Nat → Nat) (hq4 : iq ≤ 4) (gW : ∀ i, i < iq → tW i = nI (wn i)) (gw4 : ∀ i, i < iq → wn i < 4) : Met l yX5_needed wsX5_needed ({ frames := 0, cells := 0, slots := 0, locals := 0 } : Room) (va_Pc [.ref a0] (fun U => va_P (dC, dI) vwCl (w5 a0 aT aE aG aR aN aS aQ aW aX cD cI th iw ih fa fb fd ib mk im iq tT tE tG tR tN tS tQ tW tX) U.heap ∧ va_K (dC, dI) vwCl [(cD, .double), (cI, .int)] U)) (va_Qi (fun (r : Int32) (_ : Unit) => r = nI (zneed wn iq)) (fun _ _ => True) (fun _ => False)) 0 0 (fun _ => False) := by
  refine Met.ofW (cc := cX5_needed) (maxL := 3) (ret := (some .int)) (by decide) rfl ?_
  intro p e s m args below meth c s₁ B hml hv
  obtain ⟨rfl, hP0, hK⟩ := hv
  have hx := B.exec
  have hb := B.bytes
  have hr := B.returns
  have hts := atoms_spec (ws := wsX5_needed) B.pre
  have hown : s.vm.findClass RX5 = some m.cls := findClass_of_methodNamed B.named
  have hlocks := B.notSynchronized
  have hS : va_S (fun _ => False) s.heap s.heap [] := va_S.rf
  have hP := hP0
  have hl := lv_entry ([.ref a0]) (n := 3) (Nat.le_of_ble_eq_true rfl)
  rw [lg_entry_eq]
  generalize (lg_sl ([.ref a0]) ++ List.replicate (3 - (lg_sl ([.ref a0])).length) Slot.unset).toArray = ls at hl ⊢
  have hl : lv_has ls 3 [(0, .ref a0)] := hl
  refine lv_iconst (v := (nI 0)) hx hb dX5_needed_0 (by decide) ?_
  refine lv_istore_n (lv' := [(1, .int (nI 0)), (0, .ref a0)]) hx hb dX5_needed_1 rfl hl (by decide) rfl (fun ls hl => ?_)
  refine lv_iconst (v := (nI 0)) hx hb dX5_needed_2 (by decide) ?_
  refine lv_istore_n (lv' := [(2, .int (nI 0)), (1, .int (nI 0)), (0, .ref a0)]) hx hb dX5_needed_3 rfl hl (by decide) rfl (fun ls hl => ?_)
  have L_4 : ∀ (n : Nat) (i : Nat) (nd : Nat) (H : Heap) (locs : List Loc) (ls : Array Slot), iq - i < n → (i ≤ iq) → (nd = zneed wn i) → va_S (fun _ => False) s.heap H locs → lv_has ls 3 [(2, .int (nI i)), (1, .int (nI nd)), (0, .ref a0)] → W p l e (headSpec wsX5_needed ({ frames := 0, cells := 0, slots := 0, locals := 0 } : Room)).room s m ([.ref a0] : List Value).toArray below meth c H locs 0 0 (MQ below (va_Qi (fun (r : Int32) (_ : Unit) => r = nI (zneed wn iq)) (fun _ _ => True) (fun _ => False)) ([.ref a0] : List Value).toArray s 0 0 (fun _ => False)) (F0 m 4 ls []) := by
    intro n
    induction n with
    | zero => intro i nd H locs ls hn; exact absurd hn (Nat.not_lt_zero _)
    | succ n ih_L_4 =>
      intro i nd H locs ls hn hi hnd hS hl
      have hP := zro hP0 hS
      have hz4 := zneed_le gw4 i hi
      refine lv_iload_n hx hb dX5_needed_4 rfl (lv_at hl 0 rfl) ?_
      refine lv_aload_n hx hb dX5_needed_5 rfl (lv_at hl 2 rfl) ?_
      refine va_get (D := (dC, dI)) (ci := 5) (v := .int (nI iq)) (C := RX5) (T := TX5) (N := 19) hx hb hts (in_X5_needed_X5) hown hK hP 0 rfl rfl 16 (by decide) (hts (.fieldLink RX5 143 "PlateModesModel" "wants" "I") (by decide +kernel)) (fun _ h9 => h9) rfl dX5_needed_6 ?_
      refine z_icmp_ge (a := i) (b := iq) (tgt := 43) hx hb (by omega) (by omega) dX5_needed_9 (by decide) (fun c1 => ?_) (fun c2 => ?_)
      · skip
        refine lv_iload_n hx hb dX5_needed_43 rfl (lv_at hl 1 rfl) ?_
        exact W.iret (v := (nI nd)) hx hb hr (fun t ht hW => ⟨⟨(nI nd), (), rfl, ⟨by dsimp only; rw [hnd, show i = iq by omega], trivial⟩⟩, hS.F ht⟩) hS.2.2 dX5_needed_44
      · skip
        have J_36 : ∀ (v : Nat) (H : Heap) (locs : List Loc) (ls : Array Slot), (v = zneed wn (i + 1)) → va_S (fun _ => False) s.heap H locs → lv_has ls 3 [(2, .int (nI i)), (1, .int (nI nd)), (0, .ref a0)] → W p l e (headSpec wsX5_needed ({ frames := 0, cells := 0, slots := 0, locals := 0 } : Room)).room s m ([.ref a0] : List Value).toArray below meth c H locs 0 0 (MQ below (va_Qi (fun (r : Int32) (_ : Unit) => r = nI (zneed wn iq)) (fun _ _ => True) (fun _ => False)) ([.ref a0] : List Value).toArray s 0 0 (fun _ => False)) (F0 m 36 ls [.int (nI v)]) := by
          intro v H locs ls hv hS hl
          have hP := zro hP0 hS
          have hz4 := zneed_le gw4 (i + 1) (by omega)
          refine lv_istore_n (lv' := [(1, .int (nI v)), (2, .int (nI i)), (0, .ref a0)]) hx hb dX5_needed_36 rfl hl (by decide) rfl (fun ls hl => ?_)
          refine lv_iinc (v := nI (i + 1)) (lv' := [(2, .int (nI (i + 1))), (1, .int (nI v)), (0, .ref a0)]) hx hb dX5_needed_37 hl (k := 1) rfl (show nI i + nI 1 = _ from zi_add (by omega)) (by decide) rfl (fun ls hl => ?_)
          refine lv_goto (tgt := 4) hx hb dX5_needed_40 (by decide) ?_
          exact ih_L_4 (i + 1) v _ _ _ (by omega) (by omega) hv hS hl
        refine lv_aload_n hx hb dX5_needed_12 rfl (lv_at hl 2 rfl) ?_
        refine va_get (D := (dC, dI)) (ci := 5) (v := .ref aW) (C := RX5) (T := TX5) (N := 19) hx hb hts (in_X5_needed_X5) hown hK hP 0 rfl rfl 17 (by decide) (hts (.fieldLink RX5 42 "PlateModesModel" "wanted" "[I") (by decide +kernel)) (fun _ h9 => h9) rfl dX5_needed_13 ?_
        refine lv_iload_n hx hb dX5_needed_16 rfl (lv_at hl 0 rfl) ?_
        refine z_iald (n := 4) (i := i) hx hb hK hP 8 1 rfl rfl (by omega) (by decide) dX5_needed_17 ?_
        rw [gW i (by omega)]
        have hwn := gw4 i (by omega)
        refine lv_iconst (v := (nI 1)) hx hb dX5_needed_18 (by decide) ?_
        refine t_iadd hx hb dX5_needed_19 (v := nI ((wn i) + 1)) (zi_add (by omega)) ?_
        refine lv_iload_n hx hb dX5_needed_20 rfl (lv_at hl 1 rfl) ?_
        refine z_icmp_le (a := (wn i) + 1) (b := nd) (tgt := 35) hx hb (by omega) (by omega) dX5_needed_21 (by decide) (fun c3 => ?_) (fun c4 => ?_)
        · skip
          refine lv_iload_n hx hb dX5_needed_35 rfl (lv_at hl 1 rfl) ?_
          exact J_36 nd _ _ _ (hnd.trans (if_neg (show ¬ (wn i + 1 > zneed wn i) from by omega)).symm) hS hl
        · skip
          refine lv_aload_n hx hb dX5_needed_24 rfl (lv_at hl 2 rfl) ?_
          refine va_get (D := (dC, dI)) (ci := 5) (v := .ref aW) (C := RX5) (T := TX5) (N := 19) hx hb hts (in_X5_needed_X5) hown hK hP 0 rfl rfl 17 (by decide) (hts (.fieldLink RX5 42 "PlateModesModel" "wanted" "[I") (by decide +kernel)) (fun _ h9 => h9) rfl dX5_needed_25 ?_
          refine lv_iload_n hx hb dX5_needed_28 rfl (lv_at hl 0 rfl) ?_
          refine z_iald (n := 4) (i := i) hx hb hK hP 8 1 rfl rfl (by omega) (by decide) dX5_needed_29 ?_
          rw [gW i (by omega)]
          have hwn := gw4 i (by omega)
          refine lv_iconst (v := (nI 1)) hx hb dX5_needed_30 (by decide) ?_
          refine t_iadd hx hb dX5_needed_31 (v := nI ((wn i) + 1)) (zi_add (by omega)) ?_
          refine lv_goto (tgt := 36) hx hb dX5_needed_32 (by decide) ?_
          exact J_36 ((wn i) + 1) _ _ _ ((if_pos (show wn i + 1 > zneed wn i from by omega)).symm) hS hl
  exact L_4 _ 0 0 _ _ _ (Nat.lt_succ_self _) (by omega) rfl hS hl
theorem in_X5_total_X5 : ∀ w ∈ wsX50, w ∈ wsX5_total := fun w h => List.mem_cons_of_mem _ (List.mem_append_right _ h)
set_option maxHeartbeats 4000000 in
set_option maxRecDepth 100000 in
/-- the SUM -/
theorem c5_total (l : Launch) (dC : Nat → ClassId) (dI : Nat → Nat → Nat) (a0 aT aE aG aR aN aS aQ aW aX : Nat) (cD cI : ClassId) (th : Int32) (iw ih : Nat) (fa fb fd : UInt64) (ib : Nat) (mk : Bool) (im iq : Nat) (tT : Nat → UInt64) (tE : Nat → Int32) (tG tR tN tS tQ : Nat → UInt64) (tW : Nat → Int32) (tX : Nat → UInt64) (wn : Nat → Nat) (hq4 : iq ≤ 4) (gW : ∀ i, i < iq → tW i = nI (wn i)) (gw4 : ∀ i, i < iq → wn i < 4) (sq ws : Nat → ZD) (gq : ∀ i, i < iq → zv (tQ (wn i)) = sq i) (gx : ∀ i, i < iq → zv (tX i) = ws i) : MetD lw_cs l yX5_total wsX5_total ({ frames := 0, cells := 0, slots := 0, locals := 0 } : Room) (va_Pc [.ref a0] (fun U => va_P (dC, dI) vwCl (w5 a0 aT aE aG aR aN aS aQ aW aX cD cI th iw ih fa fb fd ib mk im iq tT tE tG tR tN tS tQ tW tX) U.heap ∧ va_K (dC, dI) vwCl [(cD, .double), (cI, .int)] U)) (va_Qd (fun (r : UInt64) (_ : Unit) => zv r = ztot sq ws iq) (fun _ _ => True) (fun _ => False)) 0 0 (fun _ => False) := by
  refine MetD.ofW (cc := cX5_total) (maxL := 6) (ret := (some .double)) (by decide) rfl ?_
  intro p e s m args below meth c s₁ B hml hv hd0
  obtain ⟨rfl, hP0, hK⟩ := hv
  have hx := B.exec
  have hb := B.bytes
  have hr := B.returns
  have hts := atoms_spec (ws := wsX5_total) B.pre
  have hown : s.vm.findClass RX5 = some m.cls := findClass_of_methodNamed B.named
  have hlocks := B.notSynchronized
  have hS : va_S (fun _ => False) s.heap s.heap [] := va_S.rf
  have hP := hP0
  have hl := lv_entry ([.ref a0]) (n := 6) (Nat.le_of_ble_eq_true rfl)
  rw [lg_entry_eq]
  generalize (lg_sl ([.ref a0]) ++ List.replicate (6 - (lg_sl ([.ref a0])).length) Slot.unset).toArray = ls at hl ⊢
  have hl : lv_has ls 6 [(0, .ref a0)] := hl
  refine lv_dconst0 hx hb dX5_total_0 ?_
  refine lv_dstore_n (lv' := [(1, .double FP.dconst0), (0, .ref a0)]) hx hb dX5_total_1 rfl hl (by decide) rfl (fun ls hl => ?_)
  refine lv_iconst (v := (nI 0)) hx hb dX5_total_2 (by decide) ?_
  refine lv_istore_n (lv' := [(3, .int (nI 0)), (1, .double FP.dconst0), (0, .ref a0)]) hx hb dX5_total_3 rfl hl (by decide) rfl (fun ls hl => ?_)
  have L_4 : ∀ (n : Nat) (i : Nat) (sx : UInt64) (d0 : Drawn) (H : Heap) (locs : List Loc) (ls : Array Slot), iq - i < n → (i ≤ iq) → (zv sx = ztot sq ws i) → s.drawn.sameBut d0 lw_cs → va_S (fun _ => False) s.heap H locs → lv_has ls 6 [(3, .int (nI i)), (1, .double sx), (0, .ref a0)] → W p l e (headSpec wsX5_total ({ frames := 0, cells := 0, slots := 0, locals := 0 } : Room)).room (s.setDrawn d0) m ([.ref a0] : List Value).toArray below meth c H locs 0 0 (MQD lw_cs below (va_Qd (fun (r : UInt64) (_ : Unit) => zv r = ztot sq ws iq) (fun _ _ => True) (fun _ => False)) ([.ref a0] : List Value).toArray s 0 0 (fun _ => False)) (F0 m 4 ls []) := by
    intro n
    induction n with
    | zero => intro i sx d0 H locs ls hn; exact absurd hn (Nat.not_lt_zero _)
    | succ n ih_L_4 =>
      intro i sx d0 H locs ls hn hi hsx hd0 hS hl
      have hP := zro hP0 hS
      refine lv_iload_n hx hb dX5_total_4 rfl (lv_at hl 0 rfl) ?_
      refine lv_aload_n hx hb dX5_total_5 rfl (lv_at hl 2 rfl) ?_
      refine va_get (D := (dC, dI)) (ci := 5) (v := .int (nI iq)) (C := RX5) (T := TX5) (N := 19) hx hb (dr_words hts d0) (in_X5_total_X5) hown hK hP 0 rfl rfl 16 (by decide) (dr_words hts d0 (.fieldLink RX5 143 "PlateModesModel" "wants" "I") (by decide +kernel)) (fun _ h9 => h9) rfl dX5_total_6 ?_
      refine z_icmp_ge (a := i) (b := iq) (tgt := 46) hx hb (by omega) (by omega) dX5_total_9 (by decide) (fun c1 => ?_) (fun c2 => ?_)
      · skip
        refine lv_dload_n hx hb dX5_total_46 rfl (lv_at hl 1 rfl) ?_
        refine W.endD hd0 ?_
        exact W.dret (v := sx) hx hb hr (fun t ht hW => ⟨⟨sx, (), rfl, ⟨by dsimp only; rw [hsx, show i = iq by omega], trivial⟩⟩, hS.F ht⟩) hS.2.2 dX5_total_47
      · skip
        refine lv_aload_n hx hb dX5_total_12 rfl (lv_at hl 2 rfl) ?_
        refine va_get (D := (dC, dI)) (ci := 5) (v := .ref aQ) (C := RX5) (T := TX5) (N := 19) hx hb (dr_words hts d0) (in_X5_total_X5) hown hK hP 0 rfl rfl 15 (by decide) (dr_words hts d0 (.fieldLink RX5 39 "PlateModesModel" "squares" "[D") (by decide +kernel)) (fun _ h9 => h9) rfl dX5_total_13 ?_
        refine lv_aload_n hx hb dX5_total_16 rfl (lv_at hl 2 rfl) ?_
        refine va_get (D := (dC, dI)) (ci := 5) (v := .ref aW) (C := RX5) (T := TX5) (N := 19) hx hb (dr_words hts d0) (in_X5_total_X5) hown hK hP 0 rfl rfl 17 (by decide) (dr_words hts d0 (.fieldLink RX5 42 "PlateModesModel" "wanted" "[I") (by decide +kernel)) (fun _ h9 => h9) rfl dX5_total_17 ?_
        refine lv_iload_n hx hb dX5_total_20 rfl (lv_at hl 0 rfl) ?_
        refine z_iald (s := s.setDrawn d0) (n := 4) (i := i) hx hb hK hP 8 1 rfl rfl (by omega) (by decide) dX5_total_21 ?_
        rw [gW i (by omega)]
        have hwn := gw4 i (by omega)
        refine z_dald (s := s.setDrawn d0) (n := 4) (i := (wn i)) hx hb hK hP 7 0 rfl rfl (by omega) (by decide) dX5_total_22 ?_
        refine lv_aload_n hx hb dX5_total_23 rfl (lv_at hl 2 rfl) ?_
        refine va_get (D := (dC, dI)) (ci := 5) (v := .ref aX) (C := RX5) (T := TX5) (N := 19) hx hb (dr_words hts d0) (in_X5_total_X5) hown hK hP 0 rfl rfl 18 (by decide) (dr_words hts d0 (.fieldLink RX5 45 "PlateModesModel" "wishes" "[D") (by decide +kernel)) (fun _ h9 => h9) rfl dX5_total_24 ?_
        refine lv_iload_n hx hb dX5_total_27 rfl (lv_at hl 0 rfl) ?_
        refine z_dald (s := s.setDrawn d0) (n := 4) (i := i) hx hb hK hP 9 0 rfl rfl (by omega) (by decide) dX5_total_28 ?_
        refine zr_dsub hd0 hx hb (a := sq i) (b := ws i) (gq i (by omega)) (gx i (by omega)) dX5_total_29 (fun r3 d4 hr3 hd4 => ?_)
        refine lv_dstore (lv' := [(4, .double r3), (3, .int (nI i)), (1, .double sx), (0, .ref a0)]) hx hb dX5_total_30 hl (by decide) rfl (fun ls hl => ?_)
        refine lv_dload_n hx hb dX5_total_32 rfl (lv_at hl 2 rfl) ?_
        refine lv_dload hx hb dX5_total_33 (lv_at hl 0 rfl) ?_
        refine lv_dload hx hb dX5_total_35 (lv_at hl 0 rfl) ?_
        refine zr_dmul hd4 hx hb (a := zS (sq i) (ws i)) (b := zS (sq i) (ws i)) hr3 hr3 dX5_total_37 (fun r5 d6 hr5 hd6 => ?_)
        refine zr_dadd hd6 hx hb (a := ztot sq ws i) (b := zM (zS (sq i) (ws i)) (zS (sq i) (ws i))) hsx hr5 dX5_total_38 (fun r7 d8 hr7 hd8 => ?_)
        refine lv_dstore_n (lv' := [(1, .double r7), (4, .double r3), (3, .int (nI i)), (0, .ref a0)]) hx hb dX5_total_39 rfl hl (by decide) rfl (fun ls hl => ?_)
        refine lv_iinc (v := nI (i + 1)) (lv' := [(3, .int (nI (i + 1))), (1, .double r7), (4, .double r3), (0, .ref a0)]) hx hb dX5_total_40 hl (k := 2) rfl (show nI i + nI 1 = _ from zi_add (by omega)) (by decide) rfl (fun ls hl => ?_)
        refine lv_goto (tgt := 4) hx hb dX5_total_43 (by decide) ?_
        exact ih_L_4 (i + 1) r7 _ _ _ _ (by omega) (by omega) hr7 hd8 hS (lv_sub hl [0, 1, 3] rfl)
  exact L_4 _ 0 FP.dconst0 _ _ _ _ (Nat.lt_succ_self _) (by omega) rfl hd0 hS hl
end
section
/-! 06: the reference: springs, sweeps, modes -/
theorem zgs_c {f : Nat → UInt64} {k w h : Nat} {F G : Nat → ZD} (e : F = G) (g : zgs f k w h F) : zgs f k w h G := e ▸ g
theorem zgr_c {f : Nat → UInt64} {w h : Nat} {F G : Nat → ZD} (e : F = G) (g : zgr f w h F) : zgr f w h G := e ▸ g
theorem zbg_put {tT : Nat → UInt64} {w h x y k : Nat} {T : Nat → ZD} {bi : Bool} {v : UInt64} (hw : w ≤ 6) (gT : zgr tT w h T) (hx : x < 6) (hbi : bi = decide (x < w ∧ y < h ∧ zgt (zv (tT (6 * y + x))) z0 = true)) (ht : bi = true → zv v = zbeg x y k) (hf : bi = false → zv v = z0) : ∀ x' y', x' < w → y' < h → 6 * y' + x' = 6 * y + x → zv v = zbegin w T k (y' * w + x') := by
  intro x' y' hx' hy' e
  obtain ⟨rfl, rfl⟩ := zgrid (by omega) hx e
  have h1 := gT x' y' hx' hy'
  rw [h1] at hbi
  cases hg : zgt (T (y' * w + x')) z0 with
  | true =>
    rw [zbegin_t hx' hg]
    exact ht (hbi.trans (decide_eq_true ⟨hx', hy', hg⟩))
  | false =>
    rw [zbegin_f hg]
    exact hf (hbi.trans (decide_eq_false (fun q => by rw [hg] at q; exact absurd q.2.2 (by decide))))
theorem zsh_step {fS gS fQ gQ : Nat → UInt64} {w h m : Nat} {T R N F : Nat → ZD} {L : Nat → Nat → ZD} (hw : w ≤ 6) (hh : h ≤ 6) (hs : ∀ j, j < m → zgs fS j w h (L j) ∧ zv (fQ j) = zS z0 (zsq w h T R N (L j) (w * h))) (hf : ∀ i, i < 36 * m → gS i = fS i) (hq : ∀ i, i ≠ m → gQ i = fQ i) (hF : zgs gS m w h F ∧ zv (gQ m) = zS z0 (zsq w h T R N F (w * h))) :
    ∀ j, j < m + 1 → zgs gS j w h (zu L m F j) ∧ zv (gQ j) = zS z0 (zsq w h T R N (zu L m F j) (w * h)) := by
  intro j hj
  by_cases e : j = m
  · subst e
    rw [zu_s]
    exact hF
  · rw [zu_n e, hq j e]
    exact ⟨zgs_low hw hh hf (by omega) (hs j (by omega)).1, (hs j (by omega)).2⟩
theorem zsh_keep {fS gS fQ gQ : Nat → UInt64} {w h m : Nat} {T R N : Nat → ZD} {L : Nat → Nat → ZD} (hw : w ≤ 6) (hh : h ≤ 6) (hs : ∀ j, j < m → zgs fS j w h (L j) ∧ zv (fQ j) = zS z0 (zsq w h T R N (L j) (w * h))) (hf : ∀ i, i < 36 * m → gS i = fS i) (hq : ∀ i, i ≠ m → gQ i = fQ i) :
    ∀ j, j < m → zgs gS j w h (L j) ∧ zv (gQ j) = zS z0 (zsq w h T R N (L j) (w * h)) := fun j hj => ⟨zgs_low hw hh hf hj (hs j hj).1, by rw [hq j (by omega)]; exact (hs j hj).2⟩
theorem in_X5_springs_X5 : ∀ w ∈ wsX50, w ∈ wsX5_springs := fun w h => List.mem_cons_of_mem _ (List.mem_append_right _ h)
set_option maxHeartbeats 4000000 in
set_option maxRecDepth 100000 in
/-- the springs -/
theorem c5_springs (l : Launch) (dC : Nat → ClassId) (dI : Nat → Nat → Nat) (a0 aT aE aG aR aN aS aQ aW aX : Nat) (cD cI : ClassId) (th : Int32) (iw ih : Nat) (fa fb fd : UInt64) (ib : Nat) (mk : Bool) (im iq : Nat) (tT : Nat → UInt64) (tE : Nat → Int32) (tG tR tN tS tQ : Nat → UInt64) (tW : Nat → Int32) (tX : Nat → UInt64) (hw6 : iw ≤ 6) (hh6 : ih ≤ 6) (T : Nat → ZD) (gT : zgr tT iw ih T) (bx0 by0 bx1 by1 : Nat → Nat) (bg : Nat → ZD) (hb12 : ib ≤ 12) (gE : ∀ k, k < ib → tE (4 * k) = nI (bx0 k) ∧ tE (4 * k + 1) = nI (by0 k) ∧ tE (4 * k + 2) = nI (bx1 k) ∧ tE (4 * k + 3) = nI (by1 k)) (gB : ∀ k, k < ib → bx0 k ≤ bx1 k ∧ bx1 k < iw ∧ by0 k ≤ by1 k ∧ by1 k < ih) (gG : ∀ k, k < ib → zv (tG k) = bg k) (sz : Nat) : MetD lw_cs l yX5_springs wsX5_springs ({ frames := 1, cells := 0, slots := 0, locals := 27 } : Room) (va_Pc [.ref a0] (fun U => U.heap.size = sz ∧ va_P (dC, dI) vwCl (w5 a0 aT aE aG aR aN aS aQ aW aX cD cI th iw ih fa fb fd ib mk im iq tT tE tG tR tN tS tQ tW tX) U.heap ∧ va_K (dC, dI) vwCl [(cD, .double), (cI, .int)] U ∧ va_D (fun _ => True) (w5 a0 aT aE aG aR aN aS aQ aW aX cD cI th iw ih fa fb fd ib mk im iq tT tE tG tR tN tS tQ tW tX))) (va_Qv (fun u : (Nat → UInt64) × (Nat → UInt64) => zgr u.1 iw ih (zRB iw T (zv fa) bx0 by0 bx1 bg ib) ∧ zgr u.2 iw ih (zNB iw ih T (zv fb) bx0 by0 by1 bg ib)) (fun u t => (va_P (dC, dI) vwCl (w5 a0 aT aE aG aR aN aS aQ aW aX cD cI th iw ih fa fb fd ib mk im iq tT tE tG u.1 u.2 tS tQ tW tX) t.heap ∧ va_K (dC, dI) vwCl [(cD, .double), (cI, .int)] t ∧ va_D (va_A (w5 a0 aT aE aG aR aN aS aQ aW aX cD cI th iw ih fa fb fd ib mk im iq tT tE tG tR tN tS tQ tW tX) sz) (w5 a0 aT aE aG aR aN aS aQ aW aX cD cI th iw ih fa fb fd ib mk im iq tT tE tG u.1 u.2 tS tQ tW tX))) (va_A (w5 a0 aT aE aG aR aN aS aQ aW aX cD cI th iw ih fa fb fd ib mk im iq tT tE tG tR tN tS tQ tW tX) sz)) 0 0 (va_A (w5 a0 aT aE aG aR aN aS aQ aW aX cD cI th iw ih fa fb fd ib mk im iq tT tE tG tR tN tS tQ tW tX) sz) := by
  refine MetD.ofW (cc := cX5_springs) (maxL := 4) (ret := none) (by decide) rfl ?_
  intro p e s m args below meth c s₁ B hml hv hd0
  obtain ⟨rfl, hsz, hP, hK, hD0⟩ := hv
  have hx := B.exec
  have hb := B.bytes
  have hr := B.returns
  have hts := atoms_spec (ws := wsX5_springs) B.pre
  have hown : s.vm.findClass RX5 = some m.cls := findClass_of_methodNamed B.named
  have hlocks := B.notSynchronized
  subst hsz
  have hD := hD0.self (sz := s.heap.size)
  generalize hAe : va_A (w5 a0 aT aE aG aR aN aS aQ aW aX cD cI th iw ih fa fb fd ib mk im iq tT tE tG tR tN tS tQ tW tX) s.heap.size = A at hD ⊢
  have hA : ∀ q : Nat, s.heap.size ≤ q → A q := fun q h => by rw [← hAe]; exact Or.inr h
  have hS : va_S A s.heap s.heap [] := va_S.rf
  have hl := lv_entry ([.ref a0]) (n := 4) (Nat.le_of_ble_eq_true rfl)
  rw [lg_entry_eq]
  generalize (lg_sl ([.ref a0]) ++ List.replicate (4 - (lg_sl ([.ref a0])).length) Slot.unset).toArray = ls at hl ⊢
  have hl : lv_has ls 4 [(0, .ref a0)] := hl
  refine lv_iconst (v := (nI 0)) hx hb dX5_springs_0 (by decide) ?_
  refine lv_istore_n (lv' := [(1, .int (nI 0)), (0, .ref a0)]) hx hb dX5_springs_1 rfl hl (by decide) rfl (fun ls hl => ?_)
  have L_2 : ∀ (n : Nat) (y : Nat) (fR : Nat → UInt64) (fN : Nat → UInt64) (d0 : Drawn) (H : Heap) (locs : List Loc) (ls : Array Slot), ih - y < n → (y ≤ ih) → (zgrp fR iw ih (zR0 iw T (zv fa)) (y * iw)) → (zgrp fN iw ih (zN0 iw ih T (zv fb)) (y * iw)) → s.drawn.sameBut d0 lw_cs → va_P (dC, dI) vwCl (w5 a0 aT aE aG aR aN aS aQ aW aX cD cI th iw ih fa fb fd ib mk im iq tT tE tG fR fN tS tQ tW tX) H → va_D A (w5 a0 aT aE aG aR aN aS aQ aW aX cD cI th iw ih fa fb fd ib mk im iq tT tE tG fR fN tS tQ tW tX) → va_S A s.heap H locs → lv_has ls 4 [(1, .int (nI y)), (0, .ref a0)] → W p l e (headSpec wsX5_springs ({ frames := 1, cells := 0, slots := 0, locals := 27 } : Room)).room (s.setDrawn d0) m ([.ref a0] : List Value).toArray below meth c H locs 0 0 (MQD lw_cs below (va_Qv (fun u : (Nat → UInt64) × (Nat → UInt64) => zgr u.1 iw ih (zRB iw T (zv fa) bx0 by0 bx1 bg ib) ∧ zgr u.2 iw ih (zNB iw ih T (zv fb) bx0 by0 by1 bg ib)) (fun u t => (va_P (dC, dI) vwCl (w5 a0 aT aE aG aR aN aS aQ aW aX cD cI th iw ih fa fb fd ib mk im iq tT tE tG u.1 u.2 tS tQ tW tX) t.heap ∧ va_K (dC, dI) vwCl [(cD, .double), (cI, .int)] t ∧ va_D A (w5 a0 aT aE aG aR aN aS aQ aW aX cD cI th iw ih fa fb fd ib mk im iq tT tE tG u.1 u.2 tS tQ tW tX))) A) ([.ref a0] : List Value).toArray s 0 0 A) (F0 m 2 ls []) := by
    intro n
    induction n with
    | zero => intro y fR fN d0 H locs ls hn; exact absurd hn (Nat.not_lt_zero _)
    | succ n ih_L_2 =>
      intro y fR fN d0 H locs ls hn hyh hR hN hd0 hP hD hS hl
      refine lv_iload_n hx hb dX5_springs_2 rfl (lv_at hl 0 rfl) ?_
      refine lv_aload_n hx hb dX5_springs_3 rfl (lv_at hl 1 rfl) ?_
      refine va_get (D := (dC, dI)) (ci := 5) (v := .int (nI ih)) (C := RX5) (T := TX5) (N := 19) hx hb (dr_words hts d0) (in_X5_springs_X5) hown hK hP 0 rfl rfl 2 (by decide) (dr_words hts d0 (.fieldLink RX5 52 "PlateModesModel" "height" "I") (by decide +kernel)) (fun _ h9 => h9) rfl dX5_springs_4 ?_
      refine z_icmp_ge (a := y) (b := ih) (tgt := 159) hx hb (by omega) (by omega) dX5_springs_7 (by decide) (fun c1 => ?_) (fun c2 => ?_)
      · skip
        refine lv_iconst (v := (nI 0)) hx hb dX5_springs_159 (by decide) ?_
        refine lv_istore_n (lv' := [(1, .int (nI 0)), (0, .ref a0)]) hx hb dX5_springs_160 rfl hl (by decide) rfl (fun ls hl => ?_)
        have L_161 : ∀ (n : Nat) (k : Nat) (qR : Nat → UInt64) (qN : Nat → UInt64) (d0 : Drawn) (H : Heap) (locs : List Loc) (ls : Array Slot), ib - k < n → (k ≤ ib) → (zgr qR iw ih (zRB iw T (zv fa) bx0 by0 bx1 bg k)) → (zgr qN iw ih (zNB iw ih T (zv fb) bx0 by0 by1 bg k)) → s.drawn.sameBut d0 lw_cs → va_P (dC, dI) vwCl (w5 a0 aT aE aG aR aN aS aQ aW aX cD cI th iw ih fa fb fd ib mk im iq tT tE tG qR qN tS tQ tW tX) H → va_D A (w5 a0 aT aE aG aR aN aS aQ aW aX cD cI th iw ih fa fb fd ib mk im iq tT tE tG qR qN tS tQ tW tX) → va_S A s.heap H locs → lv_has ls 4 [(1, .int (nI k)), (0, .ref a0)] → W p l e (headSpec wsX5_springs ({ frames := 1, cells := 0, slots := 0, locals := 27 } : Room)).room (s.setDrawn d0) m ([.ref a0] : List Value).toArray below meth c H locs 0 0 (MQD lw_cs below (va_Qv (fun u : (Nat → UInt64) × (Nat → UInt64) => zgr u.1 iw ih (zRB iw T (zv fa) bx0 by0 bx1 bg ib) ∧ zgr u.2 iw ih (zNB iw ih T (zv fb) bx0 by0 by1 bg ib)) (fun u t => (va_P (dC, dI) vwCl (w5 a0 aT aE aG aR aN aS aQ aW aX cD cI th iw ih fa fb fd ib mk im iq tT tE tG u.1 u.2 tS tQ tW tX) t.heap ∧ va_K (dC, dI) vwCl [(cD, .double), (cI, .int)] t ∧ va_D A (w5 a0 aT aE aG aR aN aS aQ aW aX cD cI th iw ih fa fb fd ib mk im iq tT tE tG u.1 u.2 tS tQ tW tX))) A) ([.ref a0] : List Value).toArray s 0 0 A) (F0 m 161 ls []) := by
          intro n
          induction n with
          | zero => intro k qR qN d0 H locs ls hn; exact absurd hn (Nat.not_lt_zero _)
          | succ n ih_L_161 =>
            intro k qR qN d0 H locs ls hn hk hR2 hN2 hd0 hP hD hS hl
            refine lv_iload_n hx hb dX5_springs_161 rfl (lv_at hl 0 rfl) ?_
            refine lv_aload_n hx hb dX5_springs_162 rfl (lv_at hl 1 rfl) ?_
            refine va_get (D := (dC, dI)) (ci := 5) (v := .int (nI ib)) (C := RX5) (T := TX5) (N := 19) hx hb (dr_words hts d0) (in_X5_springs_X5) hown hK hP 0 rfl rfl 7 (by decide) (dr_words hts d0 (.fieldLink RX5 76 "PlateModesModel" "braces" "I") (by decide +kernel)) (fun _ h9 => h9) rfl dX5_springs_163 ?_
            refine z_icmp_ge (a := k) (b := ib) (tgt := 358) hx hb (by omega) (by omega) dX5_springs_166 (by decide) (fun c3 => ?_) (fun c4 => ?_)
            · skip
              refine W.endD hd0 ?_
              exact W.vret hx hb hr (fun t ht hW => ⟨⟨(qR, qN), rfl, ⟨by have e : k = ib := (by omega); subst e; exact hR2, by have e : k = ib := (by omega); subst e; exact hN2⟩, by rw [ht]; exact hP, va_K.moved hW.alike hK, hD⟩, hS.F ht⟩) hS.2.2 dX5_springs_358
            · skip
              obtain ⟨gb1, gb2, gb3, gb4⟩ := gB k (by omega)
              refine lv_aload_n hx hb dX5_springs_169 rfl (lv_at hl 1 rfl) ?_
              refine va_get (D := (dC, dI)) (ci := 5) (v := .ref aE) (C := RX5) (T := TX5) (N := 19) hx hb (dr_words hts d0) (in_X5_springs_X5) hown hK hP 0 rfl rfl 8 (by decide) (dr_words hts d0 (.fieldLink RX5 23 "PlateModesModel" "ends" "[I") (by decide +kernel)) (fun _ h9 => h9) rfl dX5_springs_170 ?_
              refine lv_iconst (v := (nI 4)) hx hb dX5_springs_173 (by decide) ?_
              refine lv_iload_n hx hb dX5_springs_174 rfl (lv_at hl 0 rfl) ?_
              refine t_imul hx hb dX5_springs_175 (v := nI (4 * k)) (zi_mul rfl) ?_
              refine z_iald (s := s.setDrawn d0) (n := 48) (i := 4 * k) hx hb hK hP 2 1 rfl rfl (by omega) (by decide) dX5_springs_176 ?_
              rw [(gE k (by omega)).1]
              refine lv_istore_n (lv' := [(2, .int (nI ((bx0 k)))), (1, .int (nI k)), (0, .ref a0)]) hx hb dX5_springs_177 rfl hl (by decide) rfl (fun ls hl => ?_)
              have L_178 : ∀ (n : Nat) (t : Nat) (pR : Nat → UInt64) (d0 : Drawn) (H : Heap) (locs : List Loc) (ls : Array Slot), bx1 k - (bx0 k + t) < n → (bx0 k + t ≤ bx1 k) → (zgr pR iw ih (zfold (zbRF iw T (bx0 k) (by0 k) (bg k)) t (zRB iw T (zv fa) bx0 by0 bx1 bg k))) → s.drawn.sameBut d0 lw_cs → va_P (dC, dI) vwCl (w5 a0 aT aE aG aR aN aS aQ aW aX cD cI th iw ih fa fb fd ib mk im iq tT tE tG pR qN tS tQ tW tX) H → va_D A (w5 a0 aT aE aG aR aN aS aQ aW aX cD cI th iw ih fa fb fd ib mk im iq tT tE tG pR qN tS tQ tW tX) → va_S A s.heap H locs → lv_has ls 4 [(2, .int (nI ((bx0 k) + t))), (1, .int (nI k)), (0, .ref a0)] → W p l e (headSpec wsX5_springs ({ frames := 1, cells := 0, slots := 0, locals := 27 } : Room)).room (s.setDrawn d0) m ([.ref a0] : List Value).toArray below meth c H locs 0 0 (MQD lw_cs below (va_Qv (fun u : (Nat → UInt64) × (Nat → UInt64) => zgr u.1 iw ih (zRB iw T (zv fa) bx0 by0 bx1 bg ib) ∧ zgr u.2 iw ih (zNB iw ih T (zv fb) bx0 by0 by1 bg ib)) (fun u t => (va_P (dC, dI) vwCl (w5 a0 aT aE aG aR aN aS aQ aW aX cD cI th iw ih fa fb fd ib mk im iq tT tE tG u.1 u.2 tS tQ tW tX) t.heap ∧ va_K (dC, dI) vwCl [(cD, .double), (cI, .int)] t ∧ va_D A (w5 a0 aT aE aG aR aN aS aQ aW aX cD cI th iw ih fa fb fd ib mk im iq tT tE tG u.1 u.2 tS tQ tW tX))) A) ([.ref a0] : List Value).toArray s 0 0 A) (F0 m 178 ls []) := by
                intro n
                induction n with
                | zero => intro t pR d0 H locs ls hn; exact absurd hn (Nat.not_lt_zero _)
                | succ n ih_L_178 =>
                  intro t pR d0 H locs ls hn htb hR3 hd0 hP hD hS hl
                  refine lv_iload_n hx hb dX5_springs_178 rfl (lv_at hl 0 rfl) ?_
                  refine lv_aload_n hx hb dX5_springs_179 rfl (lv_at hl 2 rfl) ?_
                  refine va_get (D := (dC, dI)) (ci := 5) (v := .ref aE) (C := RX5) (T := TX5) (N := 19) hx hb (dr_words hts d0) (in_X5_springs_X5) hown hK hP 0 rfl rfl 8 (by decide) (dr_words hts d0 (.fieldLink RX5 23 "PlateModesModel" "ends" "[I") (by decide +kernel)) (fun _ h9 => h9) rfl dX5_springs_180 ?_
                  refine lv_iconst (v := (nI 4)) hx hb dX5_springs_183 (by decide) ?_
                  refine lv_iload_n hx hb dX5_springs_184 rfl (lv_at hl 1 rfl) ?_
                  refine t_imul hx hb dX5_springs_185 (v := nI (4 * k)) (zi_mul rfl) ?_
                  refine lv_iconst (v := (nI 2)) hx hb dX5_springs_186 (by decide) ?_
                  refine t_iadd hx hb dX5_springs_187 (v := nI (4 * k + 2)) (zi_add (by omega)) ?_
                  refine z_iald (s := s.setDrawn d0) (n := 48) (i := 4 * k + 2) hx hb hK hP 2 1 rfl rfl (by omega) (by decide) dX5_springs_188 ?_
                  rw [(gE k (by omega)).2.2.1]
                  refine z_icmp_ge (a := (bx0 k) + t) (b := (bx1 k)) (tgt := 260) hx hb (by omega) (by omega) dX5_springs_189 (by decide) (fun c5 => ?_) (fun c6 => ?_)
                  · skip
                    have hR4 : zgr pR iw ih (zRB iw T (zv fa) bx0 by0 bx1 bg (k + 1)) := by rw [show t = bx1 k - bx0 k by omega] at hR3; exact hR3
                    refine lv_aload_n hx hb dX5_springs_260 rfl (lv_at hl 2 rfl) ?_
                    refine va_get (D := (dC, dI)) (ci := 5) (v := .ref aE) (C := RX5) (T := TX5) (N := 19) hx hb (dr_words hts d0) (in_X5_springs_X5) hown hK hP 0 rfl rfl 8 (by decide) (dr_words hts d0 (.fieldLink RX5 23 "PlateModesModel" "ends" "[I") (by decide +kernel)) (fun _ h9 => h9) rfl dX5_springs_261 ?_
                    refine lv_iconst (v := (nI 4)) hx hb dX5_springs_264 (by decide) ?_
                    refine lv_iload_n hx hb dX5_springs_265 rfl (lv_at hl 1 rfl) ?_
                    refine t_imul hx hb dX5_springs_266 (v := nI (4 * k)) (zi_mul rfl) ?_
                    refine lv_iconst (v := (nI 1)) hx hb dX5_springs_267 (by decide) ?_
                    refine t_iadd hx hb dX5_springs_268 (v := nI (4 * k + 1)) (zi_add (by omega)) ?_
                    refine z_iald (s := s.setDrawn d0) (n := 48) (i := 4 * k + 1) hx hb hK hP 2 1 rfl rfl (by omega) (by decide) dX5_springs_269 ?_
                    rw [(gE k (by omega)).2.1]
                    refine lv_istore_n (lv' := [(2, .int (nI ((by0 k)))), (1, .int (nI k)), (0, .ref a0)]) hx hb dX5_springs_270 rfl hl (by decide) rfl (fun ls hl => ?_)
                    have L_271 : ∀ (n : Nat) (t : Nat) (pN : Nat → UInt64) (d0 : Drawn) (H : Heap) (locs : List Loc) (ls : Array Slot), by1 k - (by0 k + t) < n → (by0 k + t ≤ by1 k) → (zgr pN iw ih (zfold (zbNF iw T (bx0 k) (by0 k) (bg k)) t (zNB iw ih T (zv fb) bx0 by0 by1 bg k))) → s.drawn.sameBut d0 lw_cs → va_P (dC, dI) vwCl (w5 a0 aT aE aG aR aN aS aQ aW aX cD cI th iw ih fa fb fd ib mk im iq tT tE tG pR pN tS tQ tW tX) H → va_D A (w5 a0 aT aE aG aR aN aS aQ aW aX cD cI th iw ih fa fb fd ib mk im iq tT tE tG pR pN tS tQ tW tX) → va_S A s.heap H locs → lv_has ls 4 [(2, .int (nI ((by0 k) + t))), (1, .int (nI k)), (0, .ref a0)] → W p l e (headSpec wsX5_springs ({ frames := 1, cells := 0, slots := 0, locals := 27 } : Room)).room (s.setDrawn d0) m ([.ref a0] : List Value).toArray below meth c H locs 0 0 (MQD lw_cs below (va_Qv (fun u : (Nat → UInt64) × (Nat → UInt64) => zgr u.1 iw ih (zRB iw T (zv fa) bx0 by0 bx1 bg ib) ∧ zgr u.2 iw ih (zNB iw ih T (zv fb) bx0 by0 by1 bg ib)) (fun u t => (va_P (dC, dI) vwCl (w5 a0 aT aE aG aR aN aS aQ aW aX cD cI th iw ih fa fb fd ib mk im iq tT tE tG u.1 u.2 tS tQ tW tX) t.heap ∧ va_K (dC, dI) vwCl [(cD, .double), (cI, .int)] t ∧ va_D A (w5 a0 aT aE aG aR aN aS aQ aW aX cD cI th iw ih fa fb fd ib mk im iq tT tE tG u.1 u.2 tS tQ tW tX))) A) ([.ref a0] : List Value).toArray s 0 0 A) (F0 m 271 ls []) := by
                      intro n
                      induction n with
                      | zero => intro t pN d0 H locs ls hn; exact absurd hn (Nat.not_lt_zero _)
                      | succ n ih_L_271 =>
                        intro t pN d0 H locs ls hn htb hN3 hd0 hP hD hS hl
                        refine lv_iload_n hx hb dX5_springs_271 rfl (lv_at hl 0 rfl) ?_
                        refine lv_aload_n hx hb dX5_springs_272 rfl (lv_at hl 2 rfl) ?_
                        refine va_get (D := (dC, dI)) (ci := 5) (v := .ref aE) (C := RX5) (T := TX5) (N := 19) hx hb (dr_words hts d0) (in_X5_springs_X5) hown hK hP 0 rfl rfl 8 (by decide) (dr_words hts d0 (.fieldLink RX5 23 "PlateModesModel" "ends" "[I") (by decide +kernel)) (fun _ h9 => h9) rfl dX5_springs_273 ?_
                        refine lv_iconst (v := (nI 4)) hx hb dX5_springs_276 (by decide) ?_
                        refine lv_iload_n hx hb dX5_springs_277 rfl (lv_at hl 1 rfl) ?_
                        refine t_imul hx hb dX5_springs_278 (v := nI (4 * k)) (zi_mul rfl) ?_
                        refine lv_iconst (v := (nI 3)) hx hb dX5_springs_279 (by decide) ?_
                        refine t_iadd hx hb dX5_springs_280 (v := nI (4 * k + 3)) (zi_add (by omega)) ?_
                        refine z_iald (s := s.setDrawn d0) (n := 48) (i := 4 * k + 3) hx hb hK hP 2 1 rfl rfl (by omega) (by decide) dX5_springs_281 ?_
                        rw [(gE k (by omega)).2.2.2]
                        refine z_icmp_ge (a := (by0 k) + t) (b := (by1 k)) (tgt := 352) hx hb (by omega) (by omega) dX5_springs_282 (by decide) (fun c7 => ?_) (fun c8 => ?_)
                        · skip
                          have hN4 : zgr pN iw ih (zNB iw ih T (zv fb) bx0 by0 by1 bg (k + 1)) := by rw [show t = by1 k - by0 k by omega] at hN3; exact hN3
                          refine lv_iinc (v := nI (k + 1)) (lv' := [(1, .int (nI (k + 1))), (2, .int (nI ((by0 k) + t))), (0, .ref a0)]) hx hb dX5_springs_352 hl (k := 1) rfl (show nI k + nI 1 = _ from zi_add (by omega)) (by decide) rfl (fun ls hl => ?_)
                          refine lv_goto (tgt := 161) hx hb dX5_springs_355 (by decide) ?_
                          exact ih_L_161 (k + 1) pR pN _ _ _ _ (by omega) (by omega) hR4 hN4 hd0 hP hD hS (lv_sub hl [0, 2] rfl)
                        · skip
                          refine lv_bipush (v := (nI 6)) hx hb dX5_springs_285 (by decide) ?_
                          refine lv_iload_n hx hb dX5_springs_287 rfl (lv_at hl 0 rfl) ?_
                          refine t_imul hx hb dX5_springs_288 (v := nI (6 * (by0 k) + 6 * t)) (zi_mul (by omega)) ?_
                          refine lv_aload_n hx hb dX5_springs_289 rfl (lv_at hl 2 rfl) ?_
                          refine va_get (D := (dC, dI)) (ci := 5) (v := .ref aE) (C := RX5) (T := TX5) (N := 19) hx hb (dr_words hts d0) (in_X5_springs_X5) hown hK hP 0 rfl rfl 8 (by decide) (dr_words hts d0 (.fieldLink RX5 23 "PlateModesModel" "ends" "[I") (by decide +kernel)) (fun _ h9 => h9) rfl dX5_springs_290 ?_
                          refine lv_iconst (v := (nI 4)) hx hb dX5_springs_293 (by decide) ?_
                          refine lv_iload_n hx hb dX5_springs_294 rfl (lv_at hl 1 rfl) ?_
                          refine t_imul hx hb dX5_springs_295 (v := nI (4 * k)) (zi_mul rfl) ?_
                          refine z_iald (s := s.setDrawn d0) (n := 48) (i := 4 * k) hx hb hK hP 2 1 rfl rfl (by omega) (by decide) dX5_springs_296 ?_
                          rw [(gE k (by omega)).1]
                          refine t_iadd hx hb dX5_springs_297 (v := nI ((bx0 k) + 6 * (by0 k) + 6 * t)) (zi_add (by omega)) ?_
                          refine lv_istore_n (lv' := [(3, .int (nI ((bx0 k) + 6 * (by0 k) + 6 * t))), (2, .int (nI ((by0 k) + t))), (1, .int (nI k)), (0, .ref a0)]) hx hb dX5_springs_298 rfl hl (by decide) rfl (fun ls hl => ?_)
                          have J_345 : ∀ (v : UInt64) (d0 : Drawn) (H : Heap) (locs : List Loc) (ls : Array Slot), (zv v = zbNV iw T (bx0 k) (by0 k) (bg k) t (zfold (zbNF iw T (bx0 k) (by0 k) (bg k)) t (zNB iw ih T (zv fb) bx0 by0 by1 bg k))) → s.drawn.sameBut d0 lw_cs → va_P (dC, dI) vwCl (w5 a0 aT aE aG aR aN aS aQ aW aX cD cI th iw ih fa fb fd ib mk im iq tT tE tG pR pN tS tQ tW tX) H → va_D A (w5 a0 aT aE aG aR aN aS aQ aW aX cD cI th iw ih fa fb fd ib mk im iq tT tE tG pR pN tS tQ tW tX) → va_S A s.heap H locs → lv_has ls 4 [(2, .int (nI ((by0 k) + t))), (1, .int (nI k)), (0, .ref a0)] → W p l e (headSpec wsX5_springs ({ frames := 1, cells := 0, slots := 0, locals := 27 } : Room)).room (s.setDrawn d0) m ([.ref a0] : List Value).toArray below meth c H locs 0 0 (MQD lw_cs below (va_Qv (fun u : (Nat → UInt64) × (Nat → UInt64) => zgr u.1 iw ih (zRB iw T (zv fa) bx0 by0 bx1 bg ib) ∧ zgr u.2 iw ih (zNB iw ih T (zv fb) bx0 by0 by1 bg ib)) (fun u t => (va_P (dC, dI) vwCl (w5 a0 aT aE aG aR aN aS aQ aW aX cD cI th iw ih fa fb fd ib mk im iq tT tE tG u.1 u.2 tS tQ tW tX) t.heap ∧ va_K (dC, dI) vwCl [(cD, .double), (cI, .int)] t ∧ va_D A (w5 a0 aT aE aG aR aN aS aQ aW aX cD cI th iw ih fa fb fd ib mk im iq tT tE tG u.1 u.2 tS tQ tW tX))) A) ([.ref a0] : List Value).toArray s 0 0 A) (F0 m 345 ls [.double v, .int (nI ((bx0 k) + 6 * (by0 k) + 6 * t)), .ref aN]) := by
                            intro v d0 H locs ls hv hd0 hP hD hS hl
                            refine z_dast (s := s.setDrawn d0) (n := 36) (i := (bx0 k) + 6 * (by0 k) + 6 * t) hx hb hK hP hD hS 5 0 rfl rfl (by omega) (by decide) dX5_springs_345 (fun H locs hP hD hS => ?_)
                            have hP : va_P (dC, dI) vwCl (w5 a0 aT aE aG aR aN aS aQ aW aX cD cI th iw ih fa fb fd ib mk im iq tT tE tG pR (zu pN ((bx0 k) + 6 * (by0 k) + 6 * t) v) tS tQ tW tX) H := hP
                            have hD : va_D A (w5 a0 aT aE aG aR aN aS aQ aW aX cD cI th iw ih fa fb fd ib mk im iq tT tE tG pR (zu pN ((bx0 k) + 6 * (by0 k) + 6 * t) v) tS tQ tW tX) := hD
                            refine lv_iinc (v := nI ((by0 k) + t + 1)) (lv' := [(2, .int (nI ((by0 k) + t + 1))), (1, .int (nI k)), (0, .ref a0)]) hx hb dX5_springs_346 hl (k := 0) rfl (show nI ((by0 k) + t) + nI 1 = _ from zi_add (by omega)) (by decide) rfl (fun ls hl => ?_)
                            refine lv_goto (tgt := 271) hx hb dX5_springs_349 (by decide) ?_
                            exact ih_L_271 (t + 1) (zu pN ((bx0 k) + 6 * (by0 k) + 6 * t) v) _ _ _ _ (by omega) (by omega) (zgr_put (x := bx0 k) (y := by0 k + t) hw6 hN3 (by omega) (by omega) hv) hd0 hP hD hS hl
                          refine lv_aload_n hx hb dX5_springs_299 rfl (lv_at hl 3 rfl) ?_
                          refine va_get (D := (dC, dI)) (ci := 5) (v := .ref aN) (C := RX5) (T := TX5) (N := 19) hx hb (dr_words hts d0) (in_X5_springs_X5) hown hK hP 0 rfl rfl 11 (by decide) (dr_words hts d0 (.fieldLink RX5 33 "PlateModesModel" "down" "[D") (by decide +kernel)) (fun _ h9 => h9) rfl dX5_springs_300 ?_
                          refine lv_iload_n hx hb dX5_springs_303 rfl (lv_at hl 0 rfl) ?_
                          refine lv_aload_n hx hb dX5_springs_304 rfl (lv_at hl 3 rfl) ?_
                          refine lv_iload_n hx hb dX5_springs_305 rfl (lv_at hl 0 rfl) ?_
                          have hPc := hP
                          refine va_calli (va_runV (As := [.int (nI ((bx0 k) + 6 * (by0 k) + 6 * t))]) (rest := [.int (nI ((bx0 k) + 6 * (by0 k) + 6 * t)), .ref aN]) ⟨hx, hb, hml, hown, (dr_words hts d0)⟩ (c5_isWood l dC dI a0 aT aE aG aR aN aS aQ aW aX cD cI th iw ih fa fb fd ib mk im iq tT tE tG pR pN tS tQ tW tX ((bx0 k) + 6 * (by0 k) + 6 * t) (by omega)) (cwV 1 (dr_words hts d0) gX5_springs_X5_isWood rfl rfl rfl (by decide +kernel) ⟨Nat.le_of_ble_eq_true rfl, Nat.le_of_ble_eq_true rfl⟩) ⟨zfb, va_recv hK hP (ci := 5) (q0 := 0) rfl rfl, zpre hPc hK⟩ rfl rfl hl.1 rfl (lv_room (Nat.le_of_ble_eq_true rfl)) dX5_springs_306 ⟨Nat.le_of_ble_eq_true rfl, Nat.le_of_ble_eq_true rfl⟩) hS (fun q _ h => h.elim) (fun q h => h.elim) (fun r9 u9 t9 H locs ht9 hvm9 hr9 hB9 hz9 hk1 hS => ?_)
                          have hP := zro1 hP hk1
                          have hr9 : r9 = zb (zgt (T (((by0 k) + t) * iw + ((bx0 k)))) z0) := by rw [hr9, zgr_at gT ((bx0 k)) ((by0 k) + t) (by omega) (by omega) (by omega)]
                          subst hr9
                          refine z_if_eq_b (tgt := 339) hx hb dX5_springs_309 (by decide) (fun c10 => ?_) (fun c11 => ?_)
                          · skip
                            have cw := c10
                            refine lv_aload_n hx hb dX5_springs_339 rfl (lv_at hl 3 rfl) ?_
                            refine va_get (D := (dC, dI)) (ci := 5) (v := .ref aN) (C := RX5) (T := TX5) (N := 19) hx hb (dr_words hts d0) (in_X5_springs_X5) hown hK hP 0 rfl rfl 11 (by decide) (dr_words hts d0 (.fieldLink RX5 33 "PlateModesModel" "down" "[D") (by decide +kernel)) (fun _ h9 => h9) rfl dX5_springs_340 ?_
                            refine lv_iload_n hx hb dX5_springs_343 rfl (lv_at hl 0 rfl) ?_
                            refine z_dald (s := s.setDrawn d0) (n := 36) (i := (bx0 k) + 6 * (by0 k) + 6 * t) hx hb hK hP 5 0 rfl rfl (by omega) (by decide) dX5_springs_344 ?_
                            exact J_345 (pN ((bx0 k) + 6 * (by0 k) + 6 * t)) _ _ _ _ ((zgr_at hN3 ((bx0 k)) ((by0 k) + t) (by omega) (by omega) (by omega)).trans (if_neg (fun hh => by first | (rw [cw] at hh; exact absurd hh.1 (by decide)) | (rw [cw2] at hh; exact absurd hh.2 (by decide)))).symm) hd0 hP hD hS (lv_sub hl [1, 2, 3] rfl)
                          · skip
                            have cw := c11
                            refine lv_aload_n hx hb dX5_springs_312 rfl (lv_at hl 3 rfl) ?_
                            refine lv_iload_n hx hb dX5_springs_313 rfl (lv_at hl 0 rfl) ?_
                            refine lv_bipush (v := (nI 6)) hx hb dX5_springs_314 (by decide) ?_
                            refine t_iadd hx hb dX5_springs_316 (v := nI ((bx0 k) + 6 * (by0 k) + 6 * t + 6)) (zi_add (by omega)) ?_
                            have hPc := hP
                            refine va_calli (va_runV (As := [.int (nI ((bx0 k) + 6 * (by0 k) + 6 * t + 6))]) (rest := [.int (nI ((bx0 k) + 6 * (by0 k) + 6 * t)), .ref aN]) ⟨hx, hb, hml, hown, (dr_words hts d0)⟩ (c5_isWood l dC dI a0 aT aE aG aR aN aS aQ aW aX cD cI th iw ih fa fb fd ib mk im iq tT tE tG pR pN tS tQ tW tX ((bx0 k) + 6 * (by0 k) + 6 * t + 6) (by omega)) (cwV 1 (dr_words hts d0) gX5_springs_X5_isWood rfl rfl rfl (by decide +kernel) ⟨Nat.le_of_ble_eq_true rfl, Nat.le_of_ble_eq_true rfl⟩) ⟨zfb, va_recv hK hP (ci := 5) (q0 := 0) rfl rfl, zpre hPc hK⟩ rfl rfl hl.1 rfl (lv_room (Nat.le_of_ble_eq_true rfl)) dX5_springs_317 ⟨Nat.le_of_ble_eq_true rfl, Nat.le_of_ble_eq_true rfl⟩) hS (fun q _ h => h.elim) (fun q h => h.elim) (fun r12 u9 t9 H locs ht9 hvm9 hr12 hB9 hz9 hk1 hS => ?_)
                            have hP := zro1 hP hk1
                            have hr12 : r12 = zb (zgt (T (((by0 k) + t + 1) * iw + ((bx0 k)))) z0) := by rw [hr12, zgr_at gT ((bx0 k)) ((by0 k) + t + 1) (by omega) (by omega) (by omega)]
                            subst hr12
                            refine z_if_eq_b (tgt := 339) hx hb dX5_springs_320 (by decide) (fun c13 => ?_) (fun c14 => ?_)
                            · skip
                              have cw2 := c13
                              refine lv_aload_n hx hb dX5_springs_339 rfl (lv_at hl 3 rfl) ?_
                              refine va_get (D := (dC, dI)) (ci := 5) (v := .ref aN) (C := RX5) (T := TX5) (N := 19) hx hb (dr_words hts d0) (in_X5_springs_X5) hown hK hP 0 rfl rfl 11 (by decide) (dr_words hts d0 (.fieldLink RX5 33 "PlateModesModel" "down" "[D") (by decide +kernel)) (fun _ h9 => h9) rfl dX5_springs_340 ?_
                              refine lv_iload_n hx hb dX5_springs_343 rfl (lv_at hl 0 rfl) ?_
                              refine z_dald (s := s.setDrawn d0) (n := 36) (i := (bx0 k) + 6 * (by0 k) + 6 * t) hx hb hK hP 5 0 rfl rfl (by omega) (by decide) dX5_springs_344 ?_
                              exact J_345 (pN ((bx0 k) + 6 * (by0 k) + 6 * t)) _ _ _ _ ((zgr_at hN3 ((bx0 k)) ((by0 k) + t) (by omega) (by omega) (by omega)).trans (if_neg (fun hh => by first | (rw [cw] at hh; exact absurd hh.1 (by decide)) | (rw [cw2] at hh; exact absurd hh.2 (by decide)))).symm) hd0 hP hD hS (lv_sub hl [1, 2, 3] rfl)
                            · skip
                              have cw2 := c14
                              refine lv_aload_n hx hb dX5_springs_323 rfl (lv_at hl 3 rfl) ?_
                              refine va_get (D := (dC, dI)) (ci := 5) (v := .ref aN) (C := RX5) (T := TX5) (N := 19) hx hb (dr_words hts d0) (in_X5_springs_X5) hown hK hP 0 rfl rfl 11 (by decide) (dr_words hts d0 (.fieldLink RX5 33 "PlateModesModel" "down" "[D") (by decide +kernel)) (fun _ h9 => h9) rfl dX5_springs_324 ?_
                              refine lv_iload_n hx hb dX5_springs_327 rfl (lv_at hl 0 rfl) ?_
                              refine z_dald (s := s.setDrawn d0) (n := 36) (i := (bx0 k) + 6 * (by0 k) + 6 * t) hx hb hK hP 5 0 rfl rfl (by omega) (by decide) dX5_springs_328 ?_
                              refine lv_aload_n hx hb dX5_springs_329 rfl (lv_at hl 3 rfl) ?_
                              refine va_get (D := (dC, dI)) (ci := 5) (v := .ref aG) (C := RX5) (T := TX5) (N := 19) hx hb (dr_words hts d0) (in_X5_springs_X5) hown hK hP 0 rfl rfl 9 (by decide) (dr_words hts d0 (.fieldLink RX5 27 "PlateModesModel" "heights" "[D") (by decide +kernel)) (fun _ h9 => h9) rfl dX5_springs_330 ?_
                              refine lv_iload_n hx hb dX5_springs_333 rfl (lv_at hl 2 rfl) ?_
                              refine z_dald (s := s.setDrawn d0) (n := 12) (i := k) hx hb hK hP 3 0 rfl rfl (by omega) (by decide) dX5_springs_334 ?_
                              refine zr_dadd hd0 hx hb (a := (zfold (zbNF iw T (bx0 k) (by0 k) (bg k)) t (zNB iw ih T (zv fb) bx0 by0 by1 bg k)) (((by0 k) + t) * iw + ((bx0 k)))) (b := bg k) (zgr_at hN3 ((bx0 k)) ((by0 k) + t) (by omega) (by omega) (by omega)) (gG k (by omega)) dX5_springs_335 (fun r15 d16 hr15 hd16 => ?_)
                              refine lv_goto (tgt := 345) hx hb dX5_springs_336 (by decide) ?_
                              exact J_345 r15 _ _ _ _ ((hr15).trans (if_pos (And.intro cw cw2)).symm) hd16 hP hD hS (lv_sub hl [1, 2, 3] rfl)
                    exact L_271 _ 0 qN _ _ _ _ (Nat.lt_succ_self _) (by omega) hN2 hd0 hP hD hS hl
                  · skip
                    refine lv_bipush (v := (nI 6)) hx hb dX5_springs_192 (by decide) ?_
                    refine lv_aload_n hx hb dX5_springs_194 rfl (lv_at hl 2 rfl) ?_
                    refine va_get (D := (dC, dI)) (ci := 5) (v := .ref aE) (C := RX5) (T := TX5) (N := 19) hx hb (dr_words hts d0) (in_X5_springs_X5) hown hK hP 0 rfl rfl 8 (by decide) (dr_words hts d0 (.fieldLink RX5 23 "PlateModesModel" "ends" "[I") (by decide +kernel)) (fun _ h9 => h9) rfl dX5_springs_195 ?_
                    refine lv_iconst (v := (nI 4)) hx hb dX5_springs_198 (by decide) ?_
                    refine lv_iload_n hx hb dX5_springs_199 rfl (lv_at hl 1 rfl) ?_
                    refine t_imul hx hb dX5_springs_200 (v := nI (4 * k)) (zi_mul rfl) ?_
                    refine lv_iconst (v := (nI 1)) hx hb dX5_springs_201 (by decide) ?_
                    refine t_iadd hx hb dX5_springs_202 (v := nI (4 * k + 1)) (zi_add (by omega)) ?_
                    refine z_iald (s := s.setDrawn d0) (n := 48) (i := 4 * k + 1) hx hb hK hP 2 1 rfl rfl (by omega) (by decide) dX5_springs_203 ?_
                    rw [(gE k (by omega)).2.1]
                    refine t_imul hx hb dX5_springs_204 (v := nI (6 * (by0 k))) (zi_mul (by omega)) ?_
                    refine lv_iload_n hx hb dX5_springs_205 rfl (lv_at hl 0 rfl) ?_
                    refine t_iadd hx hb dX5_springs_206 (v := nI ((bx0 k) + 6 * (by0 k) + t)) (zi_add (by omega)) ?_
                    refine lv_istore_n (lv' := [(3, .int (nI ((bx0 k) + 6 * (by0 k) + t))), (2, .int (nI ((bx0 k) + t))), (1, .int (nI k)), (0, .ref a0)]) hx hb dX5_springs_207 rfl hl (by decide) rfl (fun ls hl => ?_)
                    have J_253 : ∀ (v : UInt64) (d0 : Drawn) (H : Heap) (locs : List Loc) (ls : Array Slot), (zv v = zbRV iw T (bx0 k) (by0 k) (bg k) t (zfold (zbRF iw T (bx0 k) (by0 k) (bg k)) t (zRB iw T (zv fa) bx0 by0 bx1 bg k))) → s.drawn.sameBut d0 lw_cs → va_P (dC, dI) vwCl (w5 a0 aT aE aG aR aN aS aQ aW aX cD cI th iw ih fa fb fd ib mk im iq tT tE tG pR qN tS tQ tW tX) H → va_D A (w5 a0 aT aE aG aR aN aS aQ aW aX cD cI th iw ih fa fb fd ib mk im iq tT tE tG pR qN tS tQ tW tX) → va_S A s.heap H locs → lv_has ls 4 [(2, .int (nI ((bx0 k) + t))), (1, .int (nI k)), (0, .ref a0)] → W p l e (headSpec wsX5_springs ({ frames := 1, cells := 0, slots := 0, locals := 27 } : Room)).room (s.setDrawn d0) m ([.ref a0] : List Value).toArray below meth c H locs 0 0 (MQD lw_cs below (va_Qv (fun u : (Nat → UInt64) × (Nat → UInt64) => zgr u.1 iw ih (zRB iw T (zv fa) bx0 by0 bx1 bg ib) ∧ zgr u.2 iw ih (zNB iw ih T (zv fb) bx0 by0 by1 bg ib)) (fun u t => (va_P (dC, dI) vwCl (w5 a0 aT aE aG aR aN aS aQ aW aX cD cI th iw ih fa fb fd ib mk im iq tT tE tG u.1 u.2 tS tQ tW tX) t.heap ∧ va_K (dC, dI) vwCl [(cD, .double), (cI, .int)] t ∧ va_D A (w5 a0 aT aE aG aR aN aS aQ aW aX cD cI th iw ih fa fb fd ib mk im iq tT tE tG u.1 u.2 tS tQ tW tX))) A) ([.ref a0] : List Value).toArray s 0 0 A) (F0 m 253 ls [.double v, .int (nI ((bx0 k) + 6 * (by0 k) + t)), .ref aR]) := by
                      intro v d0 H locs ls hv hd0 hP hD hS hl
                      refine z_dast (s := s.setDrawn d0) (n := 36) (i := (bx0 k) + 6 * (by0 k) + t) hx hb hK hP hD hS 4 0 rfl rfl (by omega) (by decide) dX5_springs_253 (fun H locs hP hD hS => ?_)
                      have hP : va_P (dC, dI) vwCl (w5 a0 aT aE aG aR aN aS aQ aW aX cD cI th iw ih fa fb fd ib mk im iq tT tE tG (zu pR ((bx0 k) + 6 * (by0 k) + t) v) qN tS tQ tW tX) H := hP
                      have hD : va_D A (w5 a0 aT aE aG aR aN aS aQ aW aX cD cI th iw ih fa fb fd ib mk im iq tT tE tG (zu pR ((bx0 k) + 6 * (by0 k) + t) v) qN tS tQ tW tX) := hD
                      refine lv_iinc (v := nI ((bx0 k) + t + 1)) (lv' := [(2, .int (nI ((bx0 k) + t + 1))), (1, .int (nI k)), (0, .ref a0)]) hx hb dX5_springs_254 hl (k := 0) rfl (show nI ((bx0 k) + t) + nI 1 = _ from zi_add (by omega)) (by decide) rfl (fun ls hl => ?_)
                      refine lv_goto (tgt := 178) hx hb dX5_springs_257 (by decide) ?_
                      exact ih_L_178 (t + 1) (zu pR ((bx0 k) + 6 * (by0 k) + t) v) _ _ _ _ (by omega) (by omega) (zgr_put (x := bx0 k + t) (y := by0 k) hw6 hR3 (by omega) (by omega) hv) hd0 hP hD hS hl
                    refine lv_aload_n hx hb dX5_springs_208 rfl (lv_at hl 3 rfl) ?_
                    refine va_get (D := (dC, dI)) (ci := 5) (v := .ref aR) (C := RX5) (T := TX5) (N := 19) hx hb (dr_words hts d0) (in_X5_springs_X5) hown hK hP 0 rfl rfl 10 (by decide) (dr_words hts d0 (.fieldLink RX5 30 "PlateModesModel" "right" "[D") (by decide +kernel)) (fun _ h9 => h9) rfl dX5_springs_209 ?_
                    refine lv_iload_n hx hb dX5_springs_212 rfl (lv_at hl 0 rfl) ?_
                    refine lv_aload_n hx hb dX5_springs_213 rfl (lv_at hl 3 rfl) ?_
                    refine lv_iload_n hx hb dX5_springs_214 rfl (lv_at hl 0 rfl) ?_
                    have hPc := hP
                    refine va_calli (va_runV (As := [.int (nI ((bx0 k) + 6 * (by0 k) + t))]) (rest := [.int (nI ((bx0 k) + 6 * (by0 k) + t)), .ref aR]) ⟨hx, hb, hml, hown, (dr_words hts d0)⟩ (c5_isWood l dC dI a0 aT aE aG aR aN aS aQ aW aX cD cI th iw ih fa fb fd ib mk im iq tT tE tG pR qN tS tQ tW tX ((bx0 k) + 6 * (by0 k) + t) (by omega)) (cwV 1 (dr_words hts d0) gX5_springs_X5_isWood rfl rfl rfl (by decide +kernel) ⟨Nat.le_of_ble_eq_true rfl, Nat.le_of_ble_eq_true rfl⟩) ⟨zfb, va_recv hK hP (ci := 5) (q0 := 0) rfl rfl, zpre hPc hK⟩ rfl rfl hl.1 rfl (lv_room (Nat.le_of_ble_eq_true rfl)) dX5_springs_215 ⟨Nat.le_of_ble_eq_true rfl, Nat.le_of_ble_eq_true rfl⟩) hS (fun q _ h => h.elim) (fun q h => h.elim) (fun r17 u9 t9 H locs ht9 hvm9 hr17 hB9 hz9 hk1 hS => ?_)
                    have hP := zro1 hP hk1
                    have hr17 : r17 = zb (zgt (T (((by0 k)) * iw + ((bx0 k) + t))) z0) := by rw [hr17, zgr_at gT ((bx0 k) + t) ((by0 k)) (by omega) (by omega) (by omega)]
                    subst hr17
                    refine z_if_eq_b (tgt := 247) hx hb dX5_springs_218 (by decide) (fun c18 => ?_) (fun c19 => ?_)
                    · skip
                      have cw := c18
                      refine lv_aload_n hx hb dX5_springs_247 rfl (lv_at hl 3 rfl) ?_
                      refine va_get (D := (dC, dI)) (ci := 5) (v := .ref aR) (C := RX5) (T := TX5) (N := 19) hx hb (dr_words hts d0) (in_X5_springs_X5) hown hK hP 0 rfl rfl 10 (by decide) (dr_words hts d0 (.fieldLink RX5 30 "PlateModesModel" "right" "[D") (by decide +kernel)) (fun _ h9 => h9) rfl dX5_springs_248 ?_
                      refine lv_iload_n hx hb dX5_springs_251 rfl (lv_at hl 0 rfl) ?_
                      refine z_dald (s := s.setDrawn d0) (n := 36) (i := (bx0 k) + 6 * (by0 k) + t) hx hb hK hP 4 0 rfl rfl (by omega) (by decide) dX5_springs_252 ?_
                      exact J_253 (pR ((bx0 k) + 6 * (by0 k) + t)) _ _ _ _ ((zgr_at hR3 ((bx0 k) + t) ((by0 k)) (by omega) (by omega) (by omega)).trans (if_neg (fun hh => by first | (rw [cw] at hh; exact absurd hh.1 (by decide)) | (rw [cw2] at hh; exact absurd hh.2 (by decide)))).symm) hd0 hP hD hS (lv_sub hl [1, 2, 3] rfl)
                    · skip
                      have cw := c19
                      refine lv_aload_n hx hb dX5_springs_221 rfl (lv_at hl 3 rfl) ?_
                      refine lv_iload_n hx hb dX5_springs_222 rfl (lv_at hl 0 rfl) ?_
                      refine lv_iconst (v := (nI 1)) hx hb dX5_springs_223 (by decide) ?_
                      refine t_iadd hx hb dX5_springs_224 (v := nI ((bx0 k) + 6 * (by0 k) + t + 1)) (zi_add (by omega)) ?_
                      have hPc := hP
                      refine va_calli (va_runV (As := [.int (nI ((bx0 k) + 6 * (by0 k) + t + 1))]) (rest := [.int (nI ((bx0 k) + 6 * (by0 k) + t)), .ref aR]) ⟨hx, hb, hml, hown, (dr_words hts d0)⟩ (c5_isWood l dC dI a0 aT aE aG aR aN aS aQ aW aX cD cI th iw ih fa fb fd ib mk im iq tT tE tG pR qN tS tQ tW tX ((bx0 k) + 6 * (by0 k) + t + 1) (by omega)) (cwV 1 (dr_words hts d0) gX5_springs_X5_isWood rfl rfl rfl (by decide +kernel) ⟨Nat.le_of_ble_eq_true rfl, Nat.le_of_ble_eq_true rfl⟩) ⟨zfb, va_recv hK hP (ci := 5) (q0 := 0) rfl rfl, zpre hPc hK⟩ rfl rfl hl.1 rfl (lv_room (Nat.le_of_ble_eq_true rfl)) dX5_springs_225 ⟨Nat.le_of_ble_eq_true rfl, Nat.le_of_ble_eq_true rfl⟩) hS (fun q _ h => h.elim) (fun q h => h.elim) (fun r20 u9 t9 H locs ht9 hvm9 hr20 hB9 hz9 hk1 hS => ?_)
                      have hP := zro1 hP hk1
                      have hr20 : r20 = zb (zgt (T (((by0 k)) * iw + ((bx0 k) + t + 1))) z0) := by rw [hr20, zgr_at gT ((bx0 k) + t + 1) ((by0 k)) (by omega) (by omega) (by omega)]
                      subst hr20
                      refine z_if_eq_b (tgt := 247) hx hb dX5_springs_228 (by decide) (fun c21 => ?_) (fun c22 => ?_)
                      · skip
                        have cw2 := c21
                        refine lv_aload_n hx hb dX5_springs_247 rfl (lv_at hl 3 rfl) ?_
                        refine va_get (D := (dC, dI)) (ci := 5) (v := .ref aR) (C := RX5) (T := TX5) (N := 19) hx hb (dr_words hts d0) (in_X5_springs_X5) hown hK hP 0 rfl rfl 10 (by decide) (dr_words hts d0 (.fieldLink RX5 30 "PlateModesModel" "right" "[D") (by decide +kernel)) (fun _ h9 => h9) rfl dX5_springs_248 ?_
                        refine lv_iload_n hx hb dX5_springs_251 rfl (lv_at hl 0 rfl) ?_
                        refine z_dald (s := s.setDrawn d0) (n := 36) (i := (bx0 k) + 6 * (by0 k) + t) hx hb hK hP 4 0 rfl rfl (by omega) (by decide) dX5_springs_252 ?_
                        exact J_253 (pR ((bx0 k) + 6 * (by0 k) + t)) _ _ _ _ ((zgr_at hR3 ((bx0 k) + t) ((by0 k)) (by omega) (by omega) (by omega)).trans (if_neg (fun hh => by first | (rw [cw] at hh; exact absurd hh.1 (by decide)) | (rw [cw2] at hh; exact absurd hh.2 (by decide)))).symm) hd0 hP hD hS (lv_sub hl [1, 2, 3] rfl)
                      · skip
                        have cw2 := c22
                        refine lv_aload_n hx hb dX5_springs_231 rfl (lv_at hl 3 rfl) ?_
                        refine va_get (D := (dC, dI)) (ci := 5) (v := .ref aR) (C := RX5) (T := TX5) (N := 19) hx hb (dr_words hts d0) (in_X5_springs_X5) hown hK hP 0 rfl rfl 10 (by decide) (dr_words hts d0 (.fieldLink RX5 30 "PlateModesModel" "right" "[D") (by decide +kernel)) (fun _ h9 => h9) rfl dX5_springs_232 ?_
                        refine lv_iload_n hx hb dX5_springs_235 rfl (lv_at hl 0 rfl) ?_
                        refine z_dald (s := s.setDrawn d0) (n := 36) (i := (bx0 k) + 6 * (by0 k) + t) hx hb hK hP 4 0 rfl rfl (by omega) (by decide) dX5_springs_236 ?_
                        refine lv_aload_n hx hb dX5_springs_237 rfl (lv_at hl 3 rfl) ?_
                        refine va_get (D := (dC, dI)) (ci := 5) (v := .ref aG) (C := RX5) (T := TX5) (N := 19) hx hb (dr_words hts d0) (in_X5_springs_X5) hown hK hP 0 rfl rfl 9 (by decide) (dr_words hts d0 (.fieldLink RX5 27 "PlateModesModel" "heights" "[D") (by decide +kernel)) (fun _ h9 => h9) rfl dX5_springs_238 ?_
                        refine lv_iload_n hx hb dX5_springs_241 rfl (lv_at hl 2 rfl) ?_
                        refine z_dald (s := s.setDrawn d0) (n := 12) (i := k) hx hb hK hP 3 0 rfl rfl (by omega) (by decide) dX5_springs_242 ?_
                        refine zr_dadd hd0 hx hb (a := (zfold (zbRF iw T (bx0 k) (by0 k) (bg k)) t (zRB iw T (zv fa) bx0 by0 bx1 bg k)) (((by0 k)) * iw + ((bx0 k) + t))) (b := bg k) (zgr_at hR3 ((bx0 k) + t) ((by0 k)) (by omega) (by omega) (by omega)) (gG k (by omega)) dX5_springs_243 (fun r23 d24 hr23 hd24 => ?_)
                        refine lv_goto (tgt := 253) hx hb dX5_springs_244 (by decide) ?_
                        exact J_253 r23 _ _ _ _ ((hr23).trans (if_pos (And.intro cw cw2)).symm) hd24 hP hD hS (lv_sub hl [1, 2, 3] rfl)
              exact L_178 _ 0 qR _ _ _ _ (Nat.lt_succ_self _) (by omega) hR2 hd0 hP hD hS hl
        exact L_161 _ 0 fR fN _ _ _ _ (Nat.lt_succ_self _) (by omega) (zgrp_all hR (by rw [show y = ih by omega])) (zgrp_all hN (by rw [show y = ih by omega])) hd0 hP hD hS hl
      · skip
        refine lv_iconst (v := (nI 0)) hx hb dX5_springs_10 (by decide) ?_
        refine lv_istore_n (lv' := [(2, .int (nI 0)), (1, .int (nI y)), (0, .ref a0)]) hx hb dX5_springs_11 rfl hl (by decide) rfl (fun ls hl => ?_)
        have L_12 : ∀ (n : Nat) (x : Nat) (fR : Nat → UInt64) (fN : Nat → UInt64) (d0 : Drawn) (H : Heap) (locs : List Loc) (ls : Array Slot), iw - x < n → (x ≤ iw) → (zgrp fR iw ih (zR0 iw T (zv fa)) (y * iw + x)) → (zgrp fN iw ih (zN0 iw ih T (zv fb)) (y * iw + x)) → s.drawn.sameBut d0 lw_cs → va_P (dC, dI) vwCl (w5 a0 aT aE aG aR aN aS aQ aW aX cD cI th iw ih fa fb fd ib mk im iq tT tE tG fR fN tS tQ tW tX) H → va_D A (w5 a0 aT aE aG aR aN aS aQ aW aX cD cI th iw ih fa fb fd ib mk im iq tT tE tG fR fN tS tQ tW tX) → va_S A s.heap H locs → lv_has ls 4 [(2, .int (nI x)), (1, .int (nI y)), (0, .ref a0)] → W p l e (headSpec wsX5_springs ({ frames := 1, cells := 0, slots := 0, locals := 27 } : Room)).room (s.setDrawn d0) m ([.ref a0] : List Value).toArray below meth c H locs 0 0 (MQD lw_cs below (va_Qv (fun u : (Nat → UInt64) × (Nat → UInt64) => zgr u.1 iw ih (zRB iw T (zv fa) bx0 by0 bx1 bg ib) ∧ zgr u.2 iw ih (zNB iw ih T (zv fb) bx0 by0 by1 bg ib)) (fun u t => (va_P (dC, dI) vwCl (w5 a0 aT aE aG aR aN aS aQ aW aX cD cI th iw ih fa fb fd ib mk im iq tT tE tG u.1 u.2 tS tQ tW tX) t.heap ∧ va_K (dC, dI) vwCl [(cD, .double), (cI, .int)] t ∧ va_D A (w5 a0 aT aE aG aR aN aS aQ aW aX cD cI th iw ih fa fb fd ib mk im iq tT tE tG u.1 u.2 tS tQ tW tX))) A) ([.ref a0] : List Value).toArray s 0 0 A) (F0 m 12 ls []) := by
          intro n
          induction n with
          | zero => intro x fR fN d0 H locs ls hn; exact absurd hn (Nat.not_lt_zero _)
          | succ n ih_L_12 =>
            intro x fR fN d0 H locs ls hn hxw hR hN hd0 hP hD hS hl
            refine lv_iload_n hx hb dX5_springs_12 rfl (lv_at hl 0 rfl) ?_
            refine lv_aload_n hx hb dX5_springs_13 rfl (lv_at hl 2 rfl) ?_
            refine va_get (D := (dC, dI)) (ci := 5) (v := .int (nI iw)) (C := RX5) (T := TX5) (N := 19) hx hb (dr_words hts d0) (in_X5_springs_X5) hown hK hP 0 rfl rfl 1 (by decide) (dr_words hts d0 (.fieldLink RX5 48 "PlateModesModel" "width" "I") (by decide +kernel)) (fun _ h9 => h9) rfl dX5_springs_14 ?_
            refine z_icmp_ge (a := x) (b := iw) (tgt := 153) hx hb (by omega) (by omega) dX5_springs_17 (by decide) (fun c25 => ?_) (fun c26 => ?_)
            · skip
              refine lv_iinc (v := nI (y + 1)) (lv' := [(1, .int (nI (y + 1))), (2, .int (nI x)), (0, .ref a0)]) hx hb dX5_springs_153 hl (k := 1) rfl (show nI y + nI 1 = _ from zi_add (by omega)) (by decide) rfl (fun ls hl => ?_)
              refine lv_goto (tgt := 2) hx hb dX5_springs_156 (by decide) ?_
              exact ih_L_2 (y + 1) fR fN _ _ _ _ (by omega) (by omega) (zgrp_n hR (by rw [← zrow_end]; omega)) (zgrp_n hN (by rw [← zrow_end]; omega)) hd0 hP hD hS (lv_sub hl [0, 2] rfl)
            · skip
              refine lv_bipush (v := (nI 6)) hx hb dX5_springs_20 (by decide) ?_
              refine lv_iload_n hx hb dX5_springs_22 rfl (lv_at hl 1 rfl) ?_
              refine t_imul hx hb dX5_springs_23 (v := nI (6 * y)) (zi_mul rfl) ?_
              refine lv_iload_n hx hb dX5_springs_24 rfl (lv_at hl 0 rfl) ?_
              refine t_iadd hx hb dX5_springs_25 (v := nI (6 * y + x)) (zi_add (by omega)) ?_
              refine lv_istore_n (lv' := [(3, .int (nI (6 * y + x))), (2, .int (nI x)), (1, .int (nI y)), (0, .ref a0)]) hx hb dX5_springs_26 rfl hl (by decide) rfl (fun ls hl => ?_)
              have J_85 : ∀ (v1 : UInt64) (d0 : Drawn) (H : Heap) (locs : List Loc) (ls : Array Slot), (zv v1 = (zR0 iw T (zv fa)) (y * iw + x)) → s.drawn.sameBut d0 lw_cs → va_P (dC, dI) vwCl (w5 a0 aT aE aG aR aN aS aQ aW aX cD cI th iw ih fa fb fd ib mk im iq tT tE tG fR fN tS tQ tW tX) H → va_D A (w5 a0 aT aE aG aR aN aS aQ aW aX cD cI th iw ih fa fb fd ib mk im iq tT tE tG fR fN tS tQ tW tX) → va_S A s.heap H locs → lv_has ls 4 [(3, .int (nI (6 * y + x))), (2, .int (nI x)), (1, .int (nI y)), (0, .ref a0)] → W p l e (headSpec wsX5_springs ({ frames := 1, cells := 0, slots := 0, locals := 27 } : Room)).room (s.setDrawn d0) m ([.ref a0] : List Value).toArray below meth c H locs 0 0 (MQD lw_cs below (va_Qv (fun u : (Nat → UInt64) × (Nat → UInt64) => zgr u.1 iw ih (zRB iw T (zv fa) bx0 by0 bx1 bg ib) ∧ zgr u.2 iw ih (zNB iw ih T (zv fb) bx0 by0 by1 bg ib)) (fun u t => (va_P (dC, dI) vwCl (w5 a0 aT aE aG aR aN aS aQ aW aX cD cI th iw ih fa fb fd ib mk im iq tT tE tG u.1 u.2 tS tQ tW tX) t.heap ∧ va_K (dC, dI) vwCl [(cD, .double), (cI, .int)] t ∧ va_D A (w5 a0 aT aE aG aR aN aS aQ aW aX cD cI th iw ih fa fb fd ib mk im iq tT tE tG u.1 u.2 tS tQ tW tX))) A) ([.ref a0] : List Value).toArray s 0 0 A) (F0 m 85 ls [.double v1, .int (nI (6 * y + x)), .ref aR]) := by
                intro v1 d0 H locs ls hv1 hd0 hP hD hS hl
                refine z_dast (s := s.setDrawn d0) (n := 36) (i := 6 * y + x) hx hb hK hP hD hS 4 0 rfl rfl (by omega) (by decide) dX5_springs_85 (fun H locs hP hD hS => ?_)
                have hP : va_P (dC, dI) vwCl (w5 a0 aT aE aG aR aN aS aQ aW aX cD cI th iw ih fa fb fd ib mk im iq tT tE tG (zu fR (6 * y + x) v1) fN tS tQ tW tX) H := hP
                have hD : va_D A (w5 a0 aT aE aG aR aN aS aQ aW aX cD cI th iw ih fa fb fd ib mk im iq tT tE tG (zu fR (6 * y + x) v1) fN tS tQ tW tX) := hD
                have J_146 : ∀ (v2 : UInt64) (d0 : Drawn) (H : Heap) (locs : List Loc) (ls : Array Slot), (zv v2 = (zN0 iw ih T (zv fb)) (y * iw + x)) → s.drawn.sameBut d0 lw_cs → va_P (dC, dI) vwCl (w5 a0 aT aE aG aR aN aS aQ aW aX cD cI th iw ih fa fb fd ib mk im iq tT tE tG (zu fR (6 * y + x) v1) fN tS tQ tW tX) H → va_D A (w5 a0 aT aE aG aR aN aS aQ aW aX cD cI th iw ih fa fb fd ib mk im iq tT tE tG (zu fR (6 * y + x) v1) fN tS tQ tW tX) → va_S A s.heap H locs → lv_has ls 4 [(3, .int (nI (6 * y + x))), (2, .int (nI x)), (1, .int (nI y)), (0, .ref a0)] → W p l e (headSpec wsX5_springs ({ frames := 1, cells := 0, slots := 0, locals := 27 } : Room)).room (s.setDrawn d0) m ([.ref a0] : List Value).toArray below meth c H locs 0 0 (MQD lw_cs below (va_Qv (fun u : (Nat → UInt64) × (Nat → UInt64) => zgr u.1 iw ih (zRB iw T (zv fa) bx0 by0 bx1 bg ib) ∧ zgr u.2 iw ih (zNB iw ih T (zv fb) bx0 by0 by1 bg ib)) (fun u t => (va_P (dC, dI) vwCl (w5 a0 aT aE aG aR aN aS aQ aW aX cD cI th iw ih fa fb fd ib mk im iq tT tE tG u.1 u.2 tS tQ tW tX) t.heap ∧ va_K (dC, dI) vwCl [(cD, .double), (cI, .int)] t ∧ va_D A (w5 a0 aT aE aG aR aN aS aQ aW aX cD cI th iw ih fa fb fd ib mk im iq tT tE tG u.1 u.2 tS tQ tW tX))) A) ([.ref a0] : List Value).toArray s 0 0 A) (F0 m 146 ls [.double v2, .int (nI (6 * y + x)), .ref aN]) := by
                  intro v2 d0 H locs ls hv2 hd0 hP hD hS hl
                  refine z_dast (s := s.setDrawn d0) (n := 36) (i := 6 * y + x) hx hb hK hP hD hS 5 0 rfl rfl (by omega) (by decide) dX5_springs_146 (fun H locs hP hD hS => ?_)
                  have hP : va_P (dC, dI) vwCl (w5 a0 aT aE aG aR aN aS aQ aW aX cD cI th iw ih fa fb fd ib mk im iq tT tE tG (zu fR (6 * y + x) v1) (zu fN (6 * y + x) v2) tS tQ tW tX) H := hP
                  have hD : va_D A (w5 a0 aT aE aG aR aN aS aQ aW aX cD cI th iw ih fa fb fd ib mk im iq tT tE tG (zu fR (6 * y + x) v1) (zu fN (6 * y + x) v2) tS tQ tW tX) := hD
                  refine lv_iinc (v := nI (x + 1)) (lv' := [(2, .int (nI (x + 1))), (3, .int (nI (6 * y + x))), (1, .int (nI y)), (0, .ref a0)]) hx hb dX5_springs_147 hl (k := 1) rfl (show nI x + nI 1 = _ from zi_add (by omega)) (by decide) rfl (fun ls hl => ?_)
                  refine lv_goto (tgt := 12) hx hb dX5_springs_150 (by decide) ?_
                  exact ih_L_12 (x + 1) (zu fR (6 * y + x) v1) (zu fN (6 * y + x) v2) _ _ _ _ (by omega) (by omega) (zgrp_put hw6 hR (by omega) hv1) (zgrp_put hw6 hN (by omega) hv2) hd0 hP hD hS (lv_sub hl [0, 2, 3] rfl)
                refine lv_aload_n hx hb dX5_springs_86 rfl (lv_at hl 3 rfl) ?_
                refine va_get (D := (dC, dI)) (ci := 5) (v := .ref aN) (C := RX5) (T := TX5) (N := 19) hx hb (dr_words hts d0) (in_X5_springs_X5) hown hK hP 0 rfl rfl 11 (by decide) (dr_words hts d0 (.fieldLink RX5 33 "PlateModesModel" "down" "[D") (by decide +kernel)) (fun _ h9 => h9) rfl dX5_springs_87 ?_
                refine lv_iload_n hx hb dX5_springs_90 rfl (lv_at hl 0 rfl) ?_
                refine lv_iload_n hx hb dX5_springs_91 rfl (lv_at hl 2 rfl) ?_
                refine lv_iconst (v := (nI 1)) hx hb dX5_springs_92 (by decide) ?_
                refine t_iadd hx hb dX5_springs_93 (v := nI (y + 1)) (zi_add (by omega)) ?_
                refine lv_aload_n hx hb dX5_springs_94 rfl (lv_at hl 3 rfl) ?_
                refine va_get (D := (dC, dI)) (ci := 5) (v := .int (nI ih)) (C := RX5) (T := TX5) (N := 19) hx hb (dr_words hts d0) (in_X5_springs_X5) hown hK hP 0 rfl rfl 2 (by decide) (dr_words hts d0 (.fieldLink RX5 52 "PlateModesModel" "height" "I") (by decide +kernel)) (fun _ h9 => h9) rfl dX5_springs_95 ?_
                refine z_icmp_ge (a := y + 1) (b := ih) (tgt := 145) hx hb (by omega) (by omega) dX5_springs_98 (by decide) (fun c27 => ?_) (fun c28 => ?_)
                · skip
                  refine lv_dconst0 hx hb dX5_springs_145 ?_
                  exact J_146 FP.dconst0 _ _ _ _ (by rw [zN0_at (by omega)]; exact (if_neg (fun hh => by obtain ⟨h1, h2, h3⟩ := hh; first | omega | (rw [cw] at h2; exact absurd h2 (by decide)) | (rw [cw2] at h3; exact absurd h3 (by decide)))).symm) hd0 hP hD hS hl
                · skip
                  refine lv_aload_n hx hb dX5_springs_101 rfl (lv_at hl 3 rfl) ?_
                  refine lv_iload_n hx hb dX5_springs_102 rfl (lv_at hl 0 rfl) ?_
                  have hPc := hP
                  refine va_calli (va_runV (As := [.int (nI (6 * y + x))]) (rest := [.int (nI (6 * y + x)), .ref aN]) ⟨hx, hb, hml, hown, (dr_words hts d0)⟩ (c5_isWood l dC dI a0 aT aE aG aR aN aS aQ aW aX cD cI th iw ih fa fb fd ib mk im iq tT tE tG (zu fR (6 * y + x) v1) fN tS tQ tW tX (6 * y + x) (by omega)) (cwV 1 (dr_words hts d0) gX5_springs_X5_isWood rfl rfl rfl (by decide +kernel) ⟨Nat.le_of_ble_eq_true rfl, Nat.le_of_ble_eq_true rfl⟩) ⟨zfb, va_recv hK hP (ci := 5) (q0 := 0) rfl rfl, zpre hPc hK⟩ rfl rfl hl.1 rfl (lv_room (Nat.le_of_ble_eq_true rfl)) dX5_springs_103 ⟨Nat.le_of_ble_eq_true rfl, Nat.le_of_ble_eq_true rfl⟩) hS (fun q _ h => h.elim) (fun q h => h.elim) (fun r29 u9 t9 H locs ht9 hvm9 hr29 hB9 hz9 hk1 hS => ?_)
                  have hP := zro1 hP hk1
                  have hr29 : r29 = zb (zgt (T (y * iw + x)) z0) := by rw [hr29, zgr_at gT x y (by omega) (by omega) (by omega)]
                  subst hr29
                  refine z_if_eq_b (tgt := 145) hx hb dX5_springs_106 (by decide) (fun c30 => ?_) (fun c31 => ?_)
                  · skip
                    have cw := c30
                    refine lv_dconst0 hx hb dX5_springs_145 ?_
                    exact J_146 FP.dconst0 _ _ _ _ (by rw [zN0_at (by omega)]; exact (if_neg (fun hh => by obtain ⟨h1, h2, h3⟩ := hh; first | omega | (rw [cw] at h2; exact absurd h2 (by decide)) | (rw [cw2] at h3; exact absurd h3 (by decide)))).symm) hd0 hP hD hS hl
                  · skip
                    have cw := c31
                    refine lv_aload_n hx hb dX5_springs_109 rfl (lv_at hl 3 rfl) ?_
                    refine lv_iload_n hx hb dX5_springs_110 rfl (lv_at hl 0 rfl) ?_
                    refine lv_bipush (v := (nI 6)) hx hb dX5_springs_111 (by decide) ?_
                    refine t_iadd hx hb dX5_springs_113 (v := nI (6 * y + x + 6)) (zi_add (by omega)) ?_
                    have hPc := hP
                    refine va_calli (va_runV (As := [.int (nI (6 * y + x + 6))]) (rest := [.int (nI (6 * y + x)), .ref aN]) ⟨hx, hb, hml, hown, (dr_words hts d0)⟩ (c5_isWood l dC dI a0 aT aE aG aR aN aS aQ aW aX cD cI th iw ih fa fb fd ib mk im iq tT tE tG (zu fR (6 * y + x) v1) fN tS tQ tW tX (6 * y + x + 6) (by omega)) (cwV 1 (dr_words hts d0) gX5_springs_X5_isWood rfl rfl rfl (by decide +kernel) ⟨Nat.le_of_ble_eq_true rfl, Nat.le_of_ble_eq_true rfl⟩) ⟨zfb, va_recv hK hP (ci := 5) (q0 := 0) rfl rfl, zpre hPc hK⟩ rfl rfl hl.1 rfl (lv_room (Nat.le_of_ble_eq_true rfl)) dX5_springs_114 ⟨Nat.le_of_ble_eq_true rfl, Nat.le_of_ble_eq_true rfl⟩) hS (fun q _ h => h.elim) (fun q h => h.elim) (fun r32 u9 t9 H locs ht9 hvm9 hr32 hB9 hz9 hk1 hS => ?_)
                    have hP := zro1 hP hk1
                    have hr32 : r32 = zb (zgt (T ((y + 1) * iw + x)) z0) := by rw [hr32, zgr_at gT x (y + 1) (by omega) (by omega) (by omega)]
                    subst hr32
                    refine z_if_eq_b (tgt := 145) hx hb dX5_springs_117 (by decide) (fun c33 => ?_) (fun c34 => ?_)
                    · skip
                      have cw2 := c33
                      refine lv_dconst0 hx hb dX5_springs_145 ?_
                      exact J_146 FP.dconst0 _ _ _ _ (by rw [zN0_at (by omega)]; exact (if_neg (fun hh => by obtain ⟨h1, h2, h3⟩ := hh; first | omega | (rw [cw] at h2; exact absurd h2 (by decide)) | (rw [cw2] at h3; exact absurd h3 (by decide)))).symm) hd0 hP hD hS hl
                    · skip
                      have cw2 := c34
                      refine lv_aload_n hx hb dX5_springs_120 rfl (lv_at hl 3 rfl) ?_
                      refine va_get (D := (dC, dI)) (ci := 5) (v := .double fb) (C := RX5) (T := TX5) (N := 19) hx hb (dr_words hts d0) (in_X5_springs_X5) hown hK hP 0 rfl rfl 5 (by decide) (dr_words hts d0 (.fieldLink RX5 17 "PlateModesModel" "b" "D") (by decide +kernel)) (fun _ h9 => h9) rfl dX5_springs_121 ?_
                      refine lv_aload_n hx hb dX5_springs_124 rfl (lv_at hl 3 rfl) ?_
                      refine va_get (D := (dC, dI)) (ci := 5) (v := .ref aT) (C := RX5) (T := TX5) (N := 19) hx hb (dr_words hts d0) (in_X5_springs_X5) hown hK hP 0 rfl rfl 3 (by decide) (dr_words hts d0 (.fieldLink RX5 7 "PlateModesModel" "thicks" "[D") (by decide +kernel)) (fun _ h9 => h9) rfl dX5_springs_125 ?_
                      refine lv_iload_n hx hb dX5_springs_128 rfl (lv_at hl 0 rfl) ?_
                      refine z_dald (s := s.setDrawn d0) (n := 36) (i := 6 * y + x) hx hb hK hP 1 0 rfl rfl (by omega) (by decide) dX5_springs_129 ?_
                      refine lv_aload_n hx hb dX5_springs_130 rfl (lv_at hl 3 rfl) ?_
                      refine va_get (D := (dC, dI)) (ci := 5) (v := .ref aT) (C := RX5) (T := TX5) (N := 19) hx hb (dr_words hts d0) (in_X5_springs_X5) hown hK hP 0 rfl rfl 3 (by decide) (dr_words hts d0 (.fieldLink RX5 7 "PlateModesModel" "thicks" "[D") (by decide +kernel)) (fun _ h9 => h9) rfl dX5_springs_131 ?_
                      refine lv_iload_n hx hb dX5_springs_134 rfl (lv_at hl 0 rfl) ?_
                      refine lv_bipush (v := (nI 6)) hx hb dX5_springs_135 (by decide) ?_
                      refine t_iadd hx hb dX5_springs_137 (v := nI (6 * y + x + 6)) (zi_add (by omega)) ?_
                      refine z_dald (s := s.setDrawn d0) (n := 36) (i := 6 * y + x + 6) hx hb hK hP 1 0 rfl rfl (by omega) (by decide) dX5_springs_138 ?_
                      refine va_calldD hd0 (va_runS_D (As := [.double fb, .double (tT (6 * y + x)), .double (tT (6 * y + x + 6))]) (rest := [.int (nI (6 * y + x)), .ref aN]) ⟨hx, hb, hml, hown, (dr_words hts d0)⟩ (c5_spring l fb (tT (6 * y + x)) (tT (6 * y + x + 6))) (va_cwS 3 (dr_words hts d0) gX5_springs_X5_spring rfl rfl rfl (by decide +kernel) ⟨Nat.le_of_ble_eq_true rfl, Nat.le_of_ble_eq_true rfl⟩) ⟨zfb0, zpre0⟩ rfl rfl hl.1 rfl (lv_room (Nat.le_of_ble_eq_true rfl)) dX5_springs_139 ⟨Nat.le_of_ble_eq_true rfl, Nat.le_of_ble_eq_true rfl⟩) hS (fun q _ h => h.elim) (fun q h => h.elim) (fun r35 u9 t9 H locs ht9 hvm9 hr35 hB9 hz9 hk1 hS dhd36 hd36 => ?_)
                      have hP := zro1 hP hk1
                      have hr35 : zv r35 = zspring (zv fb) (T (y * iw + x)) (T ((y + 1) * iw + x)) := by rw [hr35, (show zv (tT (6 * y + x)) = T (y * iw + x) from zgr_at gT x y (by omega) (by omega) (by omega)), (show zv (tT (6 * y + x + 6)) = T ((y + 1) * iw + x) from zgr_at gT x (y + 1) (by omega) (by omega) (by omega))]
                      refine lv_goto (tgt := 146) hx hb dX5_springs_142 (by decide) ?_
                      exact J_146 r35 _ _ _ _ (by rw [zN0_at (by omega)]; exact (hr35).trans (if_pos ⟨by omega, cw, cw2⟩).symm) hd36 hP hD hS hl
              refine lv_aload_n hx hb dX5_springs_27 rfl (lv_at hl 3 rfl) ?_
              refine va_get (D := (dC, dI)) (ci := 5) (v := .ref aR) (C := RX5) (T := TX5) (N := 19) hx hb (dr_words hts d0) (in_X5_springs_X5) hown hK hP 0 rfl rfl 10 (by decide) (dr_words hts d0 (.fieldLink RX5 30 "PlateModesModel" "right" "[D") (by decide +kernel)) (fun _ h9 => h9) rfl dX5_springs_28 ?_
              refine lv_iload_n hx hb dX5_springs_31 rfl (lv_at hl 0 rfl) ?_
              refine lv_iload_n hx hb dX5_springs_32 rfl (lv_at hl 1 rfl) ?_
              refine lv_iconst (v := (nI 1)) hx hb dX5_springs_33 (by decide) ?_
              refine t_iadd hx hb dX5_springs_34 (v := nI (x + 1)) (zi_add (by omega)) ?_
              refine lv_aload_n hx hb dX5_springs_35 rfl (lv_at hl 3 rfl) ?_
              refine va_get (D := (dC, dI)) (ci := 5) (v := .int (nI iw)) (C := RX5) (T := TX5) (N := 19) hx hb (dr_words hts d0) (in_X5_springs_X5) hown hK hP 0 rfl rfl 1 (by decide) (dr_words hts d0 (.fieldLink RX5 48 "PlateModesModel" "width" "I") (by decide +kernel)) (fun _ h9 => h9) rfl dX5_springs_36 ?_
              refine z_icmp_ge (a := x + 1) (b := iw) (tgt := 84) hx hb (by omega) (by omega) dX5_springs_39 (by decide) (fun c37 => ?_) (fun c38 => ?_)
              · skip
                refine lv_dconst0 hx hb dX5_springs_84 ?_
                exact J_85 FP.dconst0 _ _ _ _ (by rw [zR0_at (by omega)]; exact (if_neg (fun hh => by obtain ⟨h1, h2, h3⟩ := hh; first | omega | (rw [cw] at h2; exact absurd h2 (by decide)) | (rw [cw2] at h3; exact absurd h3 (by decide)))).symm) hd0 hP hD hS hl
              · skip
                refine lv_aload_n hx hb dX5_springs_42 rfl (lv_at hl 3 rfl) ?_
                refine lv_iload_n hx hb dX5_springs_43 rfl (lv_at hl 0 rfl) ?_
                have hPc := hP
                refine va_calli (va_runV (As := [.int (nI (6 * y + x))]) (rest := [.int (nI (6 * y + x)), .ref aR]) ⟨hx, hb, hml, hown, (dr_words hts d0)⟩ (c5_isWood l dC dI a0 aT aE aG aR aN aS aQ aW aX cD cI th iw ih fa fb fd ib mk im iq tT tE tG fR fN tS tQ tW tX (6 * y + x) (by omega)) (cwV 1 (dr_words hts d0) gX5_springs_X5_isWood rfl rfl rfl (by decide +kernel) ⟨Nat.le_of_ble_eq_true rfl, Nat.le_of_ble_eq_true rfl⟩) ⟨zfb, va_recv hK hP (ci := 5) (q0 := 0) rfl rfl, zpre hPc hK⟩ rfl rfl hl.1 rfl (lv_room (Nat.le_of_ble_eq_true rfl)) dX5_springs_44 ⟨Nat.le_of_ble_eq_true rfl, Nat.le_of_ble_eq_true rfl⟩) hS (fun q _ h => h.elim) (fun q h => h.elim) (fun r39 u9 t9 H locs ht9 hvm9 hr39 hB9 hz9 hk1 hS => ?_)
                have hP := zro1 hP hk1
                have hr39 : r39 = zb (zgt (T (y * iw + x)) z0) := by rw [hr39, zgr_at gT x y (by omega) (by omega) (by omega)]
                subst hr39
                refine z_if_eq_b (tgt := 84) hx hb dX5_springs_47 (by decide) (fun c40 => ?_) (fun c41 => ?_)
                · skip
                  have cw := c40
                  refine lv_dconst0 hx hb dX5_springs_84 ?_
                  exact J_85 FP.dconst0 _ _ _ _ (by rw [zR0_at (by omega)]; exact (if_neg (fun hh => by obtain ⟨h1, h2, h3⟩ := hh; first | omega | (rw [cw] at h2; exact absurd h2 (by decide)) | (rw [cw2] at h3; exact absurd h3 (by decide)))).symm) hd0 hP hD hS hl
                · skip
                  have cw := c41
                  refine lv_aload_n hx hb dX5_springs_50 rfl (lv_at hl 3 rfl) ?_
                  refine lv_iload_n hx hb dX5_springs_51 rfl (lv_at hl 0 rfl) ?_
                  refine lv_iconst (v := (nI 1)) hx hb dX5_springs_52 (by decide) ?_
                  refine t_iadd hx hb dX5_springs_53 (v := nI (6 * y + x + 1)) (zi_add (by omega)) ?_
                  have hPc := hP
                  refine va_calli (va_runV (As := [.int (nI (6 * y + x + 1))]) (rest := [.int (nI (6 * y + x)), .ref aR]) ⟨hx, hb, hml, hown, (dr_words hts d0)⟩ (c5_isWood l dC dI a0 aT aE aG aR aN aS aQ aW aX cD cI th iw ih fa fb fd ib mk im iq tT tE tG fR fN tS tQ tW tX (6 * y + x + 1) (by omega)) (cwV 1 (dr_words hts d0) gX5_springs_X5_isWood rfl rfl rfl (by decide +kernel) ⟨Nat.le_of_ble_eq_true rfl, Nat.le_of_ble_eq_true rfl⟩) ⟨zfb, va_recv hK hP (ci := 5) (q0 := 0) rfl rfl, zpre hPc hK⟩ rfl rfl hl.1 rfl (lv_room (Nat.le_of_ble_eq_true rfl)) dX5_springs_54 ⟨Nat.le_of_ble_eq_true rfl, Nat.le_of_ble_eq_true rfl⟩) hS (fun q _ h => h.elim) (fun q h => h.elim) (fun r42 u9 t9 H locs ht9 hvm9 hr42 hB9 hz9 hk1 hS => ?_)
                  have hP := zro1 hP hk1
                  have hr42 : r42 = zb (zgt (T (y * iw + (x + 1))) z0) := by rw [hr42, zgr_at gT (x + 1) y (by omega) (by omega) (by omega)]
                  subst hr42
                  refine z_if_eq_b (tgt := 84) hx hb dX5_springs_57 (by decide) (fun c43 => ?_) (fun c44 => ?_)
                  · skip
                    have cw2 := c43
                    refine lv_dconst0 hx hb dX5_springs_84 ?_
                    exact J_85 FP.dconst0 _ _ _ _ (by rw [zR0_at (by omega)]; exact (if_neg (fun hh => by obtain ⟨h1, h2, h3⟩ := hh; first | omega | (rw [cw] at h2; exact absurd h2 (by decide)) | (rw [cw2] at h3; exact absurd h3 (by decide)))).symm) hd0 hP hD hS hl
                  · skip
                    have cw2 := c44
                    refine lv_aload_n hx hb dX5_springs_60 rfl (lv_at hl 3 rfl) ?_
                    refine va_get (D := (dC, dI)) (ci := 5) (v := .double fa) (C := RX5) (T := TX5) (N := 19) hx hb (dr_words hts d0) (in_X5_springs_X5) hown hK hP 0 rfl rfl 4 (by decide) (dr_words hts d0 (.fieldLink RX5 13 "PlateModesModel" "a" "D") (by decide +kernel)) (fun _ h9 => h9) rfl dX5_springs_61 ?_
                    refine lv_aload_n hx hb dX5_springs_64 rfl (lv_at hl 3 rfl) ?_
                    refine va_get (D := (dC, dI)) (ci := 5) (v := .ref aT) (C := RX5) (T := TX5) (N := 19) hx hb (dr_words hts d0) (in_X5_springs_X5) hown hK hP 0 rfl rfl 3 (by decide) (dr_words hts d0 (.fieldLink RX5 7 "PlateModesModel" "thicks" "[D") (by decide +kernel)) (fun _ h9 => h9) rfl dX5_springs_65 ?_
                    refine lv_iload_n hx hb dX5_springs_68 rfl (lv_at hl 0 rfl) ?_
                    refine z_dald (s := s.setDrawn d0) (n := 36) (i := 6 * y + x) hx hb hK hP 1 0 rfl rfl (by omega) (by decide) dX5_springs_69 ?_
                    refine lv_aload_n hx hb dX5_springs_70 rfl (lv_at hl 3 rfl) ?_
                    refine va_get (D := (dC, dI)) (ci := 5) (v := .ref aT) (C := RX5) (T := TX5) (N := 19) hx hb (dr_words hts d0) (in_X5_springs_X5) hown hK hP 0 rfl rfl 3 (by decide) (dr_words hts d0 (.fieldLink RX5 7 "PlateModesModel" "thicks" "[D") (by decide +kernel)) (fun _ h9 => h9) rfl dX5_springs_71 ?_
                    refine lv_iload_n hx hb dX5_springs_74 rfl (lv_at hl 0 rfl) ?_
                    refine lv_iconst (v := (nI 1)) hx hb dX5_springs_75 (by decide) ?_
                    refine t_iadd hx hb dX5_springs_76 (v := nI (6 * y + x + 1)) (zi_add (by omega)) ?_
                    refine z_dald (s := s.setDrawn d0) (n := 36) (i := 6 * y + x + 1) hx hb hK hP 1 0 rfl rfl (by omega) (by decide) dX5_springs_77 ?_
                    refine va_calldD hd0 (va_runS_D (As := [.double fa, .double (tT (6 * y + x)), .double (tT (6 * y + x + 1))]) (rest := [.int (nI (6 * y + x)), .ref aR]) ⟨hx, hb, hml, hown, (dr_words hts d0)⟩ (c5_spring l fa (tT (6 * y + x)) (tT (6 * y + x + 1))) (va_cwS 3 (dr_words hts d0) gX5_springs_X5_spring rfl rfl rfl (by decide +kernel) ⟨Nat.le_of_ble_eq_true rfl, Nat.le_of_ble_eq_true rfl⟩) ⟨zfb0, zpre0⟩ rfl rfl hl.1 rfl (lv_room (Nat.le_of_ble_eq_true rfl)) dX5_springs_78 ⟨Nat.le_of_ble_eq_true rfl, Nat.le_of_ble_eq_true rfl⟩) hS (fun q _ h => h.elim) (fun q h => h.elim) (fun r45 u9 t9 H locs ht9 hvm9 hr45 hB9 hz9 hk1 hS dhd46 hd46 => ?_)
                    have hP := zro1 hP hk1
                    have hr45 : zv r45 = zspring (zv fa) (T (y * iw + x)) (T (y * iw + (x + 1))) := by rw [hr45, (show zv (tT (6 * y + x)) = T (y * iw + x) from zgr_at gT x y (by omega) (by omega) (by omega)), (show zv (tT (6 * y + x + 1)) = T (y * iw + (x + 1)) from zgr_at gT (x + 1) y (by omega) (by omega) (by omega))]
                    refine lv_goto (tgt := 85) hx hb dX5_springs_81 (by decide) ?_
                    exact J_85 r45 _ _ _ _ (by rw [zR0_at (by omega)]; exact (hr45).trans (if_pos ⟨by omega, cw, cw2⟩).symm) hd46 hP hD hS hl
        exact L_12 _ 0 fR fN _ _ _ _ (Nat.lt_succ_self _) (by omega) hR hN hd0 hP hD hS hl
  exact L_2 _ 0 tR tN _ _ _ _ (Nat.lt_succ_self _) (by omega) (zgrp_n zgrp_0 (Nat.zero_mul _).symm) (zgrp_n zgrp_0 (Nat.zero_mul _).symm) hd0 hP hD hS hl
theorem in_X5_sweep_X5 : ∀ w ∈ wsX50, w ∈ wsX5_sweep := fun w h => List.mem_cons_of_mem _ (List.mem_append_right _ h)
set_option maxHeartbeats 4000000 in
set_option maxRecDepth 100000 in
/-- a sweep -/
theorem c5_sweep (l : Launch) (dC : Nat → ClassId) (dI : Nat → Nat → Nat) (a0 aT aE aG aR aN aS aQ aW aX : Nat) (cD cI : ClassId) (th : Int32) (iw ih : Nat) (fa fb fd : UInt64) (ib : Nat) (mk : Bool) (im iq : Nat) (tT : Nat → UInt64) (tE : Nat → Int32) (tG tR tN tS tQ : Nat → UInt64) (tW : Nat → Int32) (tX : Nat → UInt64) (k : Nat) (hk : k < 4) (hw6 : iw ≤ 6) (hh6 : ih ≤ 6) (T R N : Nat → ZD) (gT : zgr tT iw ih T) (gR : zgr tR iw ih R) (gN : zgr tN iw ih N) (S : Nat → ZD) (gS : zgs tS k iw ih S) (L : Nat → Nat → ZD) (gL : ∀ j, j < k → zgs tS j iw ih (L j)) (sz : Nat) : MetD lw_cs l yX5_sweep wsX5_sweep ({ frames := 2, cells := 0, slots := 0, locals := 48 } : Room) (va_Pc [.ref a0, .int (nI k)] (fun U => U.heap.size = sz ∧ va_P (dC, dI) vwCl (w5 a0 aT aE aG aR aN aS aQ aW aX cD cI th iw ih fa fb fd ib mk im iq tT tE tG tR tN tS tQ tW tX) U.heap ∧ va_K (dC, dI) vwCl [(cD, .double), (cI, .int)] U ∧ va_D (fun _ => True) (w5 a0 aT aE aG aR aN aS aQ aW aX cD cI th iw ih fa fb fd ib mk im iq tT tE tG tR tN tS tQ tW tX))) (va_Qi (fun (r : Int32) (u : Nat → UInt64) => r = zb (!zeq (zsz iw ih T R N (zv fd) k L S) z0) ∧ zgs u k iw ih (if zeq (zsz iw ih T R N (zv fd) k L S) z0 = true then (zsw1 iw ih T R N (zv fd) k L S) else znrm T (zsz iw ih T R N (zv fd) k L S) (zsw1 iw ih T R N (zv fd) k L S)) ∧ ∀ i, i < 36 * k → u i = tS i) (fun u t => (va_P (dC, dI) vwCl (w5 a0 aT aE aG aR aN aS aQ aW aX cD cI th iw ih fa fb fd ib mk im iq tT tE tG tR tN u tQ tW tX) t.heap ∧ va_K (dC, dI) vwCl [(cD, .double), (cI, .int)] t ∧ va_D (va_A (w5 a0 aT aE aG aR aN aS aQ aW aX cD cI th iw ih fa fb fd ib mk im iq tT tE tG tR tN tS tQ tW tX) sz) (w5 a0 aT aE aG aR aN aS aQ aW aX cD cI th iw ih fa fb fd ib mk im iq tT tE tG tR tN u tQ tW tX))) (va_A (w5 a0 aT aE aG aR aN aS aQ aW aX cD cI th iw ih fa fb fd ib mk im iq tT tE tG tR tN tS tQ tW tX) sz)) 0 0 (va_A (w5 a0 aT aE aG aR aN aS aQ aW aX cD cI th iw ih fa fb fd ib mk im iq tT tE tG tR tN tS tQ tW tX) sz) := by
  refine MetD.ofW (cc := cX5_sweep) (maxL := 6) (ret := (some .boolean)) (by decide) rfl ?_
  intro p e s m args below meth c s₁ B hml hv hd0
  obtain ⟨rfl, hsz, hP, hK, hD0⟩ := hv
  have hx := B.exec
  have hb := B.bytes
  have hr := B.returns
  have hts := atoms_spec (ws := wsX5_sweep) B.pre
  have hown : s.vm.findClass RX5 = some m.cls := findClass_of_methodNamed B.named
  have hlocks := B.notSynchronized
  subst hsz
  have hD := hD0.self (sz := s.heap.size)
  generalize hAe : va_A (w5 a0 aT aE aG aR aN aS aQ aW aX cD cI th iw ih fa fb fd ib mk im iq tT tE tG tR tN tS tQ tW tX) s.heap.size = A at hD ⊢
  have hA : ∀ q : Nat, s.heap.size ≤ q → A q := fun q h => by rw [← hAe]; exact Or.inr h
  have hS : va_S A s.heap s.heap [] := va_S.rf
  have hl := lv_entry ([.ref a0, .int (nI k)]) (n := 6) (Nat.le_of_ble_eq_true rfl)
  rw [lg_entry_eq]
  generalize (lg_sl ([.ref a0, .int (nI k)]) ++ List.replicate (6 - (lg_sl ([.ref a0, .int (nI k)])).length) Slot.unset).toArray = ls at hl ⊢
  have hl : lv_has ls 6 [(0, .ref a0), (1, .int (nI k))] := hl
  refine lv_iconst (v := (nI 0)) hx hb dX5_sweep_0 (by decide) ?_
  refine lv_istore_n (lv' := [(2, .int (nI 0)), (0, .ref a0), (1, .int (nI k))]) hx hb dX5_sweep_1 rfl hl (by decide) rfl (fun ls hl => ?_)
  have L_2 : ∀ (n : Nat) (y : Nat) (fS : Nat → UInt64) (d0 : Drawn) (H : Heap) (locs : List Loc) (ls : Array Slot), ih - y < n → (y ≤ ih) → (zgs fS k iw ih (zrel iw ih T R N (y * iw) S)) → (∀ i, i < 36 * k → fS i = tS i) → s.drawn.sameBut d0 lw_cs → va_P (dC, dI) vwCl (w5 a0 aT aE aG aR aN aS aQ aW aX cD cI th iw ih fa fb fd ib mk im iq tT tE tG tR tN fS tQ tW tX) H → va_D A (w5 a0 aT aE aG aR aN aS aQ aW aX cD cI th iw ih fa fb fd ib mk im iq tT tE tG tR tN fS tQ tW tX) → va_S A s.heap H locs → lv_has ls 6 [(2, .int (nI y)), (0, .ref a0), (1, .int (nI k))] → W p l e (headSpec wsX5_sweep ({ frames := 2, cells := 0, slots := 0, locals := 48 } : Room)).room (s.setDrawn d0) m ([.ref a0, .int (nI k)] : List Value).toArray below meth c H locs 0 0 (MQD lw_cs below (va_Qi (fun (r : Int32) (u : Nat → UInt64) => r = zb (!zeq (zsz iw ih T R N (zv fd) k L S) z0) ∧ zgs u k iw ih (if zeq (zsz iw ih T R N (zv fd) k L S) z0 = true then (zsw1 iw ih T R N (zv fd) k L S) else znrm T (zsz iw ih T R N (zv fd) k L S) (zsw1 iw ih T R N (zv fd) k L S)) ∧ ∀ i, i < 36 * k → u i = tS i) (fun u t => (va_P (dC, dI) vwCl (w5 a0 aT aE aG aR aN aS aQ aW aX cD cI th iw ih fa fb fd ib mk im iq tT tE tG tR tN u tQ tW tX) t.heap ∧ va_K (dC, dI) vwCl [(cD, .double), (cI, .int)] t ∧ va_D A (w5 a0 aT aE aG aR aN aS aQ aW aX cD cI th iw ih fa fb fd ib mk im iq tT tE tG tR tN u tQ tW tX))) A) ([.ref a0, .int (nI k)] : List Value).toArray s 0 0 A) (F0 m 2 ls []) := by
    intro n
    induction n with
    | zero => intro y fS d0 H locs ls hn; exact absurd hn (Nat.not_lt_zero _)
    | succ n ih_L_2 =>
      intro y fS d0 H locs ls hn hyh hq1 hf1 hd0 hP hD hS hl
      refine lv_iload_n hx hb dX5_sweep_2 rfl (lv_at hl 0 rfl) ?_
      refine lv_aload_n hx hb dX5_sweep_3 rfl (lv_at hl 1 rfl) ?_
      refine va_get (D := (dC, dI)) (ci := 5) (v := .int (nI ih)) (C := RX5) (T := TX5) (N := 19) hx hb (dr_words hts d0) (in_X5_sweep_X5) hown hK hP 0 rfl rfl 2 (by decide) (dr_words hts d0 (.fieldLink RX5 52 "PlateModesModel" "height" "I") (by decide +kernel)) (fun _ h9 => h9) rfl dX5_sweep_4 ?_
      refine z_icmp_ge (a := y) (b := ih) (tgt := 91) hx hb (by omega) (by omega) dX5_sweep_7 (by decide) (fun c1 => ?_) (fun c2 => ?_)
      · skip
        refine lv_iconst (v := (nI 0)) hx hb dX5_sweep_91 (by decide) ?_
        refine lv_istore_n (lv' := [(2, .int (nI 0)), (0, .ref a0), (1, .int (nI k))]) hx hb dX5_sweep_92 rfl hl (by decide) rfl (fun ls hl => ?_)
        have L_93 : ∀ (n : Nat) (j : Nat) (fJ : Nat → UInt64) (d0 : Drawn) (H : Heap) (locs : List Loc) (ls : Array Slot), k - j < n → (j ≤ k) → (zgs fJ k iw ih (ztake T (zv fd) (iw * ih) L j (zrel iw ih T R N (iw * ih) S))) → (∀ i, i < 36 * k → fJ i = tS i) → s.drawn.sameBut d0 lw_cs → va_P (dC, dI) vwCl (w5 a0 aT aE aG aR aN aS aQ aW aX cD cI th iw ih fa fb fd ib mk im iq tT tE tG tR tN fJ tQ tW tX) H → va_D A (w5 a0 aT aE aG aR aN aS aQ aW aX cD cI th iw ih fa fb fd ib mk im iq tT tE tG tR tN fJ tQ tW tX) → va_S A s.heap H locs → lv_has ls 6 [(2, .int (nI j)), (0, .ref a0), (1, .int (nI k))] → W p l e (headSpec wsX5_sweep ({ frames := 2, cells := 0, slots := 0, locals := 48 } : Room)).room (s.setDrawn d0) m ([.ref a0, .int (nI k)] : List Value).toArray below meth c H locs 0 0 (MQD lw_cs below (va_Qi (fun (r : Int32) (u : Nat → UInt64) => r = zb (!zeq (zsz iw ih T R N (zv fd) k L S) z0) ∧ zgs u k iw ih (if zeq (zsz iw ih T R N (zv fd) k L S) z0 = true then (zsw1 iw ih T R N (zv fd) k L S) else znrm T (zsz iw ih T R N (zv fd) k L S) (zsw1 iw ih T R N (zv fd) k L S)) ∧ ∀ i, i < 36 * k → u i = tS i) (fun u t => (va_P (dC, dI) vwCl (w5 a0 aT aE aG aR aN aS aQ aW aX cD cI th iw ih fa fb fd ib mk im iq tT tE tG tR tN u tQ tW tX) t.heap ∧ va_K (dC, dI) vwCl [(cD, .double), (cI, .int)] t ∧ va_D A (w5 a0 aT aE aG aR aN aS aQ aW aX cD cI th iw ih fa fb fd ib mk im iq tT tE tG tR tN u tQ tW tX))) A) ([.ref a0, .int (nI k)] : List Value).toArray s 0 0 A) (F0 m 93 ls []) := by
          intro n
          induction n with
          | zero => intro j fJ d0 H locs ls hn; exact absurd hn (Nat.not_lt_zero _)
          | succ n ih_L_93 =>
            intro j fJ d0 H locs ls hn hj hq3 hf3 hd0 hP hD hS hl
            refine lv_iload_n hx hb dX5_sweep_93 rfl (lv_at hl 0 rfl) ?_
            refine lv_iload_n hx hb dX5_sweep_94 rfl (lv_at hl 2 rfl) ?_
            refine z_icmp_ge (a := j) (b := k) (tgt := 179) hx hb (by omega) (by omega) dX5_sweep_95 (by decide) (fun c3 => ?_) (fun c4 => ?_)
            · skip
              have hq5 : zgs fJ k iw ih (zsw1 iw ih T R N (zv fd) k L S) := by rw [show j = k by omega] at hq3; exact hq3
              refine lv_aload_n hx hb dX5_sweep_179 rfl (lv_at hl 1 rfl) ?_
              refine lv_iload_n hx hb dX5_sweep_180 rfl (lv_at hl 2 rfl) ?_
              refine lv_iload_n hx hb dX5_sweep_181 rfl (lv_at hl 2 rfl) ?_
              have hPc := hP
              refine va_calldD hd0 (va_runV_D (As := [.int (nI k), .int (nI k)]) (rest := []) ⟨hx, hb, hml, hown, (dr_words hts d0)⟩ (c5_productOf l dC dI a0 aT aE aG aR aN aS aQ aW aX cD cI th iw ih fa fb fd ib mk im iq tT tE tG tR tN fJ tQ tW tX k k (by omega) (by omega) hw6 hh6 T (zsw1 iw ih T R N (zv fd) k L S) (zsw1 iw ih T R N (zv fd) k L S) gT hq5 hq5) (cwV 2 (dr_words hts d0) gX5_sweep_X5_productOf rfl rfl rfl (by decide +kernel) ⟨Nat.le_of_ble_eq_true rfl, Nat.le_of_ble_eq_true rfl⟩) ⟨zfb, va_recv hK hP (ci := 5) (q0 := 0) rfl rfl, zpre hPc hK⟩ rfl rfl hl.1 rfl (lv_room (Nat.le_of_ble_eq_true rfl)) dX5_sweep_182 ⟨Nat.le_of_ble_eq_true rfl, Nat.le_of_ble_eq_true rfl⟩) hS (fun q _ h => h.elim) (fun q h => h.elim) (fun r5 u9 t9 H locs ht9 hvm9 hr5 hB9 hz9 hk1 hS dhd6 hd6 => ?_)
              have hP := zro1 hP hk1
              refine va_calldD hd6 (va_runS_D (As := [.double r5]) (rest := []) ⟨hx, hb, hml, hown, (dr_words hts dhd6)⟩ (c5_root l r5) (va_cwS 1 (dr_words hts dhd6) gX5_sweep_X5_root rfl rfl rfl (by decide +kernel) ⟨Nat.le_of_ble_eq_true rfl, Nat.le_of_ble_eq_true rfl⟩) ⟨zfb0, zpre0⟩ rfl rfl hl.1 rfl (lv_room (Nat.le_of_ble_eq_true rfl)) dX5_sweep_185 ⟨Nat.le_of_ble_eq_true rfl, Nat.le_of_ble_eq_true rfl⟩) hS (fun q _ h => h.elim) (fun q h => h.elim) (fun r7 u9 t9 H locs ht9 hvm9 hr7 hB9 hz9 hk1 hS dhd8 hd8 => ?_)
              have hP := zro1 hP hk1
              have hr7 : zv r7 = (zsz iw ih T R N (zv fd) k L S) := hr7.trans (congrArg zroot hr5)
              refine lv_dstore_n (lv' := [(2, .double r7), (0, .ref a0), (1, .int (nI k))]) hx hb dX5_sweep_188 rfl hl (by decide) rfl (fun ls hl => ?_)
              by_cases hz : zeq (zsz iw ih T R N (zv fd) k L S) z0 = true
              · skip
                refine lv_iconst (v := (nI 0)) hx hb dX5_sweep_189 (by decide) ?_
                refine lv_istore (lv' := [(4, .int (nI 0)), (2, .double r7), (0, .ref a0), (1, .int (nI k))]) hx hb dX5_sweep_190 hl (by decide) rfl (fun ls hl => ?_)
                refine lv_iload hx hb dX5_sweep_192 (lv_at hl 0 rfl) ?_
                refine lv_bipush (v := (nI 36)) hx hb dX5_sweep_194 (by decide) ?_
                refine z_icmp_ge (a := 0) (b := 36) (tgt := 250) hx hb (by omega) (by omega) dX5_sweep_196 (by decide) (fun c9 => ?_) (fun c10 => ?_)
                · skip
                  omega
                · skip
                  refine lv_dload_n hx hb dX5_sweep_199 rfl (lv_at hl 1 rfl) ?_
                  refine lv_dconst0 hx hb dX5_sweep_200 ?_
                  refine z_cmp_l_eq (tgt := 250) hx hb (a := (zsz iw ih T R N (zv fd) k L S)) (b := z0) hr7 rfl dX5_sweep_201 dX5_sweep_202 (by decide) (fun c11 => ?_) (fun c12 => ?_)
                  · skip
                    refine lv_dload_n hx hb dX5_sweep_250 rfl (lv_at hl 1 rfl) ?_
                    refine lv_dconst0 hx hb dX5_sweep_251 ?_
                    refine z_cmp_l_eq (tgt := 260) hx hb (a := (zsz iw ih T R N (zv fd) k L S)) (b := z0) hr7 rfl dX5_sweep_252 dX5_sweep_253 (by decide) (fun c13 => ?_) (fun c14 => ?_)
                    · skip
                      refine lv_iconst (v := (nI 0)) hx hb dX5_sweep_260 (by decide) ?_
                      refine W.endD hd8 ?_
                      exact W.zret (v := (nI 0)) hx hb hr rfl (fun t ht hW => ⟨⟨(nI 0), fJ, rfl, ⟨by rw [hz]; rfl, by rw [if_pos hz]; exact hq5, hf3⟩, by rw [ht]; exact hP, va_K.moved hW.alike hK, hD⟩, hS.F ht⟩) hS.2.2 dX5_sweep_261
                    · skip
                      exact absurd (hz.symm.trans c14) (by decide)
                  · skip
                    exact absurd (hz.symm.trans c12) (by decide)
              · skip
                have hz : zeq (zsz iw ih T R N (zv fd) k L S) z0 = false := (Bool.not_eq_true _).mp hz
                refine lv_iconst (v := (nI 0)) hx hb dX5_sweep_189 (by decide) ?_
                refine lv_istore (lv' := [(4, .int (nI 0)), (2, .double r7), (0, .ref a0), (1, .int (nI k))]) hx hb dX5_sweep_190 hl (by decide) rfl (fun ls hl => ?_)
                have L_192 : ∀ (n : Nat) (c0 : Nat) (fC : Nat → UInt64) (d0 : Drawn) (H : Heap) (locs : List Loc) (ls : Array Slot), 36 - c0 < n → (c0 ≤ 36) → (zgsp fC k iw ih c0 (znrm T (zsz iw ih T R N (zv fd) k L S) (zsw1 iw ih T R N (zv fd) k L S)) (zsw1 iw ih T R N (zv fd) k L S)) → (∀ i, i < 36 * k → fC i = tS i) → s.drawn.sameBut d0 lw_cs → va_P (dC, dI) vwCl (w5 a0 aT aE aG aR aN aS aQ aW aX cD cI th iw ih fa fb fd ib mk im iq tT tE tG tR tN fC tQ tW tX) H → va_D A (w5 a0 aT aE aG aR aN aS aQ aW aX cD cI th iw ih fa fb fd ib mk im iq tT tE tG tR tN fC tQ tW tX) → va_S A s.heap H locs → lv_has ls 6 [(4, .int (nI c0)), (2, .double r7), (0, .ref a0), (1, .int (nI k))] → W p l e (headSpec wsX5_sweep ({ frames := 2, cells := 0, slots := 0, locals := 48 } : Room)).room (s.setDrawn d0) m ([.ref a0, .int (nI k)] : List Value).toArray below meth c H locs 0 0 (MQD lw_cs below (va_Qi (fun (r : Int32) (u : Nat → UInt64) => r = zb (!zeq (zsz iw ih T R N (zv fd) k L S) z0) ∧ zgs u k iw ih (if zeq (zsz iw ih T R N (zv fd) k L S) z0 = true then (zsw1 iw ih T R N (zv fd) k L S) else znrm T (zsz iw ih T R N (zv fd) k L S) (zsw1 iw ih T R N (zv fd) k L S)) ∧ ∀ i, i < 36 * k → u i = tS i) (fun u t => (va_P (dC, dI) vwCl (w5 a0 aT aE aG aR aN aS aQ aW aX cD cI th iw ih fa fb fd ib mk im iq tT tE tG tR tN u tQ tW tX) t.heap ∧ va_K (dC, dI) vwCl [(cD, .double), (cI, .int)] t ∧ va_D A (w5 a0 aT aE aG aR aN aS aQ aW aX cD cI th iw ih fa fb fd ib mk im iq tT tE tG tR tN u tQ tW tX))) A) ([.ref a0, .int (nI k)] : List Value).toArray s 0 0 A) (F0 m 192 ls []) := by
                  intro n
                  induction n with
                  | zero => intro c0 fC d0 H locs ls hn; exact absurd hn (Nat.not_lt_zero _)
                  | succ n ih_L_192 =>
                    intro c0 fC d0 H locs ls hn hc hq6 hf6 hd0 hP hD hS hl
                    refine lv_iload hx hb dX5_sweep_192 (lv_at hl 0 rfl) ?_
                    refine lv_bipush (v := (nI 36)) hx hb dX5_sweep_194 (by decide) ?_
                    refine z_icmp_ge (a := c0) (b := 36) (tgt := 250) hx hb (by omega) (by omega) dX5_sweep_196 (by decide) (fun c15 => ?_) (fun c16 => ?_)
                    · skip
                      refine lv_dload_n hx hb dX5_sweep_250 rfl (lv_at hl 1 rfl) ?_
                      refine lv_dconst0 hx hb dX5_sweep_251 ?_
                      refine z_cmp_l_eq (tgt := 260) hx hb (a := (zsz iw ih T R N (zv fd) k L S)) (b := z0) hr7 rfl dX5_sweep_252 dX5_sweep_253 (by decide) (fun c17 => ?_) (fun c18 => ?_)
                      · skip
                        exact absurd (hz.symm.trans c17) (by decide)
                      · skip
                        refine lv_iconst (v := (nI 1)) hx hb dX5_sweep_256 (by decide) ?_
                        refine lv_goto (tgt := 261) hx hb dX5_sweep_257 (by decide) ?_
                        refine W.endD hd0 ?_
                        exact W.zret (v := (nI 1)) hx hb hr rfl (fun t ht hW => ⟨⟨(nI 1), fC, rfl, ⟨by rw [hz]; rfl, by rw [if_neg (by rw [hz]; decide)]; exact zgsp_all hw6 hh6 (by omega) hq6, hf6⟩, by rw [ht]; exact hP, va_K.moved hW.alike hK, hD⟩, hS.F ht⟩) hS.2.2 dX5_sweep_261
                    · skip
                      refine lv_dload_n hx hb dX5_sweep_199 rfl (lv_at hl 1 rfl) ?_
                      refine lv_dconst0 hx hb dX5_sweep_200 ?_
                      refine z_cmp_l_eq (tgt := 250) hx hb (a := (zsz iw ih T R N (zv fd) k L S)) (b := z0) hr7 rfl dX5_sweep_201 dX5_sweep_202 (by decide) (fun c19 => ?_) (fun c20 => ?_)
                      · skip
                        exact absurd (hz.symm.trans c19) (by decide)
                      · skip
                        refine lv_aload_n hx hb dX5_sweep_205 rfl (lv_at hl 2 rfl) ?_
                        refine va_get (D := (dC, dI)) (ci := 5) (v := .ref aS) (C := RX5) (T := TX5) (N := 19) hx hb (dr_words hts d0) (in_X5_sweep_X5) hown hK hP 0 rfl rfl 14 (by decide) (dr_words hts d0 (.fieldLink RX5 36 "PlateModesModel" "shapes" "[D") (by decide +kernel)) (fun _ h9 => h9) rfl dX5_sweep_206 ?_
                        refine lv_bipush (v := (nI 36)) hx hb dX5_sweep_209 (by decide) ?_
                        refine lv_iload_n hx hb dX5_sweep_211 rfl (lv_at hl 3 rfl) ?_
                        refine t_imul hx hb dX5_sweep_212 (v := nI (36 * k)) (zi_mul rfl) ?_
                        refine lv_iload hx hb dX5_sweep_213 (lv_at hl 0 rfl) ?_
                        refine t_iadd hx hb dX5_sweep_215 (v := nI (36 * k + c0)) (zi_add (by omega)) ?_
                        refine lv_aload_n hx hb dX5_sweep_216 rfl (lv_at hl 2 rfl) ?_
                        refine lv_iload hx hb dX5_sweep_217 (lv_at hl 0 rfl) ?_
                        have hPc := hP
                        refine va_calli (va_runV (As := [.int (nI c0)]) (rest := [.int (nI (36 * k + c0)), .ref aS]) ⟨hx, hb, hml, hown, (dr_words hts d0)⟩ (c5_isWood l dC dI a0 aT aE aG aR aN aS aQ aW aX cD cI th iw ih fa fb fd ib mk im iq tT tE tG tR tN fC tQ tW tX c0 (by omega)) (cwV 1 (dr_words hts d0) gX5_sweep_X5_isWood rfl rfl rfl (by decide +kernel) ⟨Nat.le_of_ble_eq_true rfl, Nat.le_of_ble_eq_true rfl⟩) ⟨zfb, va_recv hK hP (ci := 5) (q0 := 0) rfl rfl, zpre hPc hK⟩ rfl rfl hl.1 rfl (lv_room (Nat.le_of_ble_eq_true rfl)) dX5_sweep_219 ⟨Nat.le_of_ble_eq_true rfl, Nat.le_of_ble_eq_true rfl⟩) hS (fun q _ h => h.elim) (fun q h => h.elim) (fun r21 u9 t9 H locs ht9 hvm9 hr21 hB9 hz9 hk1 hS => ?_)
                        have hP := zro1 hP hk1
                        subst hr21
                        refine z_if_eq_b (tgt := 242) hx hb dX5_sweep_222 (by decide) (fun c22 => ?_) (fun c23 => ?_)
                        · skip
                          have cw := c22
                          refine lv_dconst0 hx hb dX5_sweep_242 ?_
                          refine z_dast (s := s.setDrawn d0) (n := 144) (i := 36 * k + c0) hx hb hK hP hD hS 6 0 rfl rfl (by omega) (by decide) dX5_sweep_243 (fun H locs hP hD hS => ?_)
                          have hP : va_P (dC, dI) vwCl (w5 a0 aT aE aG aR aN aS aQ aW aX cD cI th iw ih fa fb fd ib mk im iq tT tE tG tR tN (zu fC (36 * k + c0) FP.dconst0) tQ tW tX) H := hP
                          have hD : va_D A (w5 a0 aT aE aG aR aN aS aQ aW aX cD cI th iw ih fa fb fd ib mk im iq tT tE tG tR tN (zu fC (36 * k + c0) FP.dconst0) tQ tW tX) := hD
                          refine lv_iinc (v := nI (c0 + 1)) (lv' := [(4, .int (nI (c0 + 1))), (2, .double r7), (0, .ref a0), (1, .int (nI k))]) hx hb dX5_sweep_244 hl (k := 0) rfl (show nI c0 + nI 1 = _ from zi_add (by omega)) (by decide) rfl (fun ls hl => ?_)
                          refine lv_goto (tgt := 192) hx hb dX5_sweep_247 (by decide) ?_
                          exact ih_L_192 (c0 + 1) (zu fC (36 * k + c0) FP.dconst0) _ _ _ _ (by omega) (by omega) (zgsp_put hq6 (znrm_n gT rfl cw) rfl) (fun i hi => (zu_n (by omega)).trans (hf6 i hi)) hd0 hP hD hS hl
                        · skip
                          have cw := c23
                          refine lv_aload_n hx hb dX5_sweep_225 rfl (lv_at hl 2 rfl) ?_
                          refine va_get (D := (dC, dI)) (ci := 5) (v := .ref aS) (C := RX5) (T := TX5) (N := 19) hx hb (dr_words hts d0) (in_X5_sweep_X5) hown hK hP 0 rfl rfl 14 (by decide) (dr_words hts d0 (.fieldLink RX5 36 "PlateModesModel" "shapes" "[D") (by decide +kernel)) (fun _ h9 => h9) rfl dX5_sweep_226 ?_
                          refine lv_bipush (v := (nI 36)) hx hb dX5_sweep_229 (by decide) ?_
                          refine lv_iload_n hx hb dX5_sweep_231 rfl (lv_at hl 3 rfl) ?_
                          refine t_imul hx hb dX5_sweep_232 (v := nI (36 * k)) (zi_mul rfl) ?_
                          refine lv_iload hx hb dX5_sweep_233 (lv_at hl 0 rfl) ?_
                          refine t_iadd hx hb dX5_sweep_235 (v := nI (36 * k + c0)) (zi_add (by omega)) ?_
                          refine z_dald (s := s.setDrawn d0) (n := 144) (i := 36 * k + c0) hx hb hK hP 6 0 rfl rfl (by omega) (by decide) dX5_sweep_236 ?_
                          refine lv_dload_n hx hb dX5_sweep_237 rfl (lv_at hl 1 rfl) ?_
                          refine zr_ddiv hd0 hx hb (a := zv (fC (36 * k + c0))) (b := (zsz iw ih T R N (zv fd) k L S)) rfl hr7 dX5_sweep_238 (fun r24 d25 hr24 hd25 => ?_)
                          refine lv_goto (tgt := 243) hx hb dX5_sweep_239 (by decide) ?_
                          refine z_dast (s := s.setDrawn d25) (n := 144) (i := 36 * k + c0) hx hb hK hP hD hS 6 0 rfl rfl (by omega) (by decide) dX5_sweep_243 (fun H locs hP hD hS => ?_)
                          have hP : va_P (dC, dI) vwCl (w5 a0 aT aE aG aR aN aS aQ aW aX cD cI th iw ih fa fb fd ib mk im iq tT tE tG tR tN (zu fC (36 * k + c0) r24) tQ tW tX) H := hP
                          have hD : va_D A (w5 a0 aT aE aG aR aN aS aQ aW aX cD cI th iw ih fa fb fd ib mk im iq tT tE tG tR tN (zu fC (36 * k + c0) r24) tQ tW tX) := hD
                          refine lv_iinc (v := nI (c0 + 1)) (lv' := [(4, .int (nI (c0 + 1))), (2, .double r7), (0, .ref a0), (1, .int (nI k))]) hx hb dX5_sweep_244 hl (k := 0) rfl (show nI c0 + nI 1 = _ from zi_add (by omega)) (by decide) rfl (fun ls hl => ?_)
                          refine lv_goto (tgt := 192) hx hb dX5_sweep_247 (by decide) ?_
                          exact ih_L_192 (c0 + 1) (zu fC (36 * k + c0) r24) _ _ _ _ (by omega) (by omega) (zgsp_put hq6 (znrm_w gT hq6 hr24 cw) rfl) (fun i hi => (zu_n (by omega)).trans (hf6 i hi)) hd25 hP hD hS hl
                exact L_192 _ 0 fJ _ _ _ _ (Nat.lt_succ_self _) (by omega) (zgsp_0 hq5) hf3 hd8 hP hD hS hl
            · skip
              refine lv_aload_n hx hb dX5_sweep_98 rfl (lv_at hl 1 rfl) ?_
              refine lv_iload_n hx hb dX5_sweep_99 rfl (lv_at hl 2 rfl) ?_
              refine lv_iload_n hx hb dX5_sweep_100 rfl (lv_at hl 0 rfl) ?_
              have hPc := hP
              refine va_calldD hd0 (va_runV_D (As := [.int (nI k), .int (nI j)]) (rest := []) ⟨hx, hb, hml, hown, (dr_words hts d0)⟩ (c5_productOf l dC dI a0 aT aE aG aR aN aS aQ aW aX cD cI th iw ih fa fb fd ib mk im iq tT tE tG tR tN fJ tQ tW tX k j (by omega) (by omega) hw6 hh6 T (ztake T (zv fd) (iw * ih) L j (zrel iw ih T R N (iw * ih) S)) (L j) gT hq3 (zgs_low hw6 hh6 hf3 (by omega) (gL j (by omega)))) (cwV 2 (dr_words hts d0) gX5_sweep_X5_productOf rfl rfl rfl (by decide +kernel) ⟨Nat.le_of_ble_eq_true rfl, Nat.le_of_ble_eq_true rfl⟩) ⟨zfb, va_recv hK hP (ci := 5) (q0 := 0) rfl rfl, zpre hPc hK⟩ rfl rfl hl.1 rfl (lv_room (Nat.le_of_ble_eq_true rfl)) dX5_sweep_101 ⟨Nat.le_of_ble_eq_true rfl, Nat.le_of_ble_eq_true rfl⟩) hS (fun q _ h => h.elim) (fun q h => h.elim) (fun r26 u9 t9 H locs ht9 hvm9 hr26 hB9 hz9 hk1 hS dhd27 hd27 => ?_)
              have hP := zro1 hP hk1
              refine lv_dstore_n (lv' := [(3, .double r26), (2, .int (nI j)), (0, .ref a0), (1, .int (nI k))]) hx hb dX5_sweep_104 rfl hl (by decide) rfl (fun ls hl => ?_)
              refine lv_iconst (v := (nI 0)) hx hb dX5_sweep_105 (by decide) ?_
              refine lv_istore (lv' := [(5, .int (nI 0)), (3, .double r26), (2, .int (nI j)), (0, .ref a0), (1, .int (nI k))]) hx hb dX5_sweep_106 hl (by decide) rfl (fun ls hl => ?_)
              have L_108 : ∀ (n : Nat) (c0 : Nat) (fC : Nat → UInt64) (d0 : Drawn) (H : Heap) (locs : List Loc) (ls : Array Slot), 36 - c0 < n → (c0 ≤ 36) → (zgsp fC k iw ih c0 (ztk T (zprod T (ztake T (zv fd) (iw * ih) L j (zrel iw ih T R N (iw * ih) S)) (L j) (zv fd) (iw * ih)) (L j) (ztake T (zv fd) (iw * ih) L j (zrel iw ih T R N (iw * ih) S))) (ztake T (zv fd) (iw * ih) L j (zrel iw ih T R N (iw * ih) S))) → (∀ i, i < 36 * k → fC i = tS i) → s.drawn.sameBut d0 lw_cs → va_P (dC, dI) vwCl (w5 a0 aT aE aG aR aN aS aQ aW aX cD cI th iw ih fa fb fd ib mk im iq tT tE tG tR tN fC tQ tW tX) H → va_D A (w5 a0 aT aE aG aR aN aS aQ aW aX cD cI th iw ih fa fb fd ib mk im iq tT tE tG tR tN fC tQ tW tX) → va_S A s.heap H locs → lv_has ls 6 [(5, .int (nI c0)), (3, .double r26), (2, .int (nI j)), (0, .ref a0), (1, .int (nI k))] → W p l e (headSpec wsX5_sweep ({ frames := 2, cells := 0, slots := 0, locals := 48 } : Room)).room (s.setDrawn d0) m ([.ref a0, .int (nI k)] : List Value).toArray below meth c H locs 0 0 (MQD lw_cs below (va_Qi (fun (r : Int32) (u : Nat → UInt64) => r = zb (!zeq (zsz iw ih T R N (zv fd) k L S) z0) ∧ zgs u k iw ih (if zeq (zsz iw ih T R N (zv fd) k L S) z0 = true then (zsw1 iw ih T R N (zv fd) k L S) else znrm T (zsz iw ih T R N (zv fd) k L S) (zsw1 iw ih T R N (zv fd) k L S)) ∧ ∀ i, i < 36 * k → u i = tS i) (fun u t => (va_P (dC, dI) vwCl (w5 a0 aT aE aG aR aN aS aQ aW aX cD cI th iw ih fa fb fd ib mk im iq tT tE tG tR tN u tQ tW tX) t.heap ∧ va_K (dC, dI) vwCl [(cD, .double), (cI, .int)] t ∧ va_D A (w5 a0 aT aE aG aR aN aS aQ aW aX cD cI th iw ih fa fb fd ib mk im iq tT tE tG tR tN u tQ tW tX))) A) ([.ref a0, .int (nI k)] : List Value).toArray s 0 0 A) (F0 m 108 ls []) := by
                intro n
                induction n with
                | zero => intro c0 fC d0 H locs ls hn; exact absurd hn (Nat.not_lt_zero _)
                | succ n ih_L_108 =>
                  intro c0 fC d0 H locs ls hn hc hq4 hf4 hd0 hP hD hS hl
                  refine lv_iload hx hb dX5_sweep_108 (lv_at hl 0 rfl) ?_
                  refine lv_bipush (v := (nI 36)) hx hb dX5_sweep_110 (by decide) ?_
                  refine z_icmp_ge (a := c0) (b := 36) (tgt := 173) hx hb (by omega) (by omega) dX5_sweep_112 (by decide) (fun c28 => ?_) (fun c29 => ?_)
                  · skip
                    refine lv_iinc (v := nI (j + 1)) (lv' := [(2, .int (nI (j + 1))), (5, .int (nI c0)), (3, .double r26), (0, .ref a0), (1, .int (nI k))]) hx hb dX5_sweep_173 hl (k := 2) rfl (show nI j + nI 1 = _ from zi_add (by omega)) (by decide) rfl (fun ls hl => ?_)
                    refine lv_goto (tgt := 93) hx hb dX5_sweep_176 (by decide) ?_
                    exact ih_L_93 (j + 1) fC _ _ _ _ (by omega) (by omega) (zgs_c ztake_s.symm (zgsp_all hw6 hh6 (by omega) hq4)) hf4 hd0 hP hD hS (lv_sub hl [0, 3, 4] rfl)
                  · skip
                    refine lv_aload_n hx hb dX5_sweep_115 rfl (lv_at hl 3 rfl) ?_
                    refine va_get (D := (dC, dI)) (ci := 5) (v := .ref aS) (C := RX5) (T := TX5) (N := 19) hx hb (dr_words hts d0) (in_X5_sweep_X5) hown hK hP 0 rfl rfl 14 (by decide) (dr_words hts d0 (.fieldLink RX5 36 "PlateModesModel" "shapes" "[D") (by decide +kernel)) (fun _ h9 => h9) rfl dX5_sweep_116 ?_
                    refine lv_bipush (v := (nI 36)) hx hb dX5_sweep_119 (by decide) ?_
                    refine lv_iload_n hx hb dX5_sweep_121 rfl (lv_at hl 4 rfl) ?_
                    refine t_imul hx hb dX5_sweep_122 (v := nI (36 * k)) (zi_mul rfl) ?_
                    refine lv_iload hx hb dX5_sweep_123 (lv_at hl 0 rfl) ?_
                    refine t_iadd hx hb dX5_sweep_125 (v := nI (36 * k + c0)) (zi_add (by omega)) ?_
                    refine lv_aload_n hx hb dX5_sweep_126 rfl (lv_at hl 3 rfl) ?_
                    refine lv_iload hx hb dX5_sweep_127 (lv_at hl 0 rfl) ?_
                    have hPc := hP
                    refine va_calli (va_runV (As := [.int (nI c0)]) (rest := [.int (nI (36 * k + c0)), .ref aS]) ⟨hx, hb, hml, hown, (dr_words hts d0)⟩ (c5_isWood l dC dI a0 aT aE aG aR aN aS aQ aW aX cD cI th iw ih fa fb fd ib mk im iq tT tE tG tR tN fC tQ tW tX c0 (by omega)) (cwV 1 (dr_words hts d0) gX5_sweep_X5_isWood rfl rfl rfl (by decide +kernel) ⟨Nat.le_of_ble_eq_true rfl, Nat.le_of_ble_eq_true rfl⟩) ⟨zfb, va_recv hK hP (ci := 5) (q0 := 0) rfl rfl, zpre hPc hK⟩ rfl rfl hl.1 rfl (lv_room (Nat.le_of_ble_eq_true rfl)) dX5_sweep_129 ⟨Nat.le_of_ble_eq_true rfl, Nat.le_of_ble_eq_true rfl⟩) hS (fun q _ h => h.elim) (fun q h => h.elim) (fun r30 u9 t9 H locs ht9 hvm9 hr30 hB9 hz9 hk1 hS => ?_)
                    have hP := zro1 hP hk1
                    subst hr30
                    refine z_if_eq_b (tgt := 165) hx hb dX5_sweep_132 (by decide) (fun c31 => ?_) (fun c32 => ?_)
                    · skip
                      have cw := c31
                      refine lv_dconst0 hx hb dX5_sweep_165 ?_
                      refine z_dast (s := s.setDrawn d0) (n := 144) (i := 36 * k + c0) hx hb hK hP hD hS 6 0 rfl rfl (by omega) (by decide) dX5_sweep_166 (fun H locs hP hD hS => ?_)
                      have hP : va_P (dC, dI) vwCl (w5 a0 aT aE aG aR aN aS aQ aW aX cD cI th iw ih fa fb fd ib mk im iq tT tE tG tR tN (zu fC (36 * k + c0) FP.dconst0) tQ tW tX) H := hP
                      have hD : va_D A (w5 a0 aT aE aG aR aN aS aQ aW aX cD cI th iw ih fa fb fd ib mk im iq tT tE tG tR tN (zu fC (36 * k + c0) FP.dconst0) tQ tW tX) := hD
                      refine lv_iinc (v := nI (c0 + 1)) (lv' := [(5, .int (nI (c0 + 1))), (3, .double r26), (2, .int (nI j)), (0, .ref a0), (1, .int (nI k))]) hx hb dX5_sweep_167 hl (k := 0) rfl (show nI c0 + nI 1 = _ from zi_add (by omega)) (by decide) rfl (fun ls hl => ?_)
                      refine lv_goto (tgt := 108) hx hb dX5_sweep_170 (by decide) ?_
                      exact ih_L_108 (c0 + 1) (zu fC (36 * k + c0) FP.dconst0) _ _ _ _ (by omega) (by omega) (zgsp_put hq4 (ztk_n gT rfl cw) rfl) (fun i hi => (zu_n (by omega)).trans (hf4 i hi)) hd0 hP hD hS hl
                    · skip
                      have cw := c32
                      refine lv_aload_n hx hb dX5_sweep_135 rfl (lv_at hl 3 rfl) ?_
                      refine va_get (D := (dC, dI)) (ci := 5) (v := .ref aS) (C := RX5) (T := TX5) (N := 19) hx hb (dr_words hts d0) (in_X5_sweep_X5) hown hK hP 0 rfl rfl 14 (by decide) (dr_words hts d0 (.fieldLink RX5 36 "PlateModesModel" "shapes" "[D") (by decide +kernel)) (fun _ h9 => h9) rfl dX5_sweep_136 ?_
                      refine lv_bipush (v := (nI 36)) hx hb dX5_sweep_139 (by decide) ?_
                      refine lv_iload_n hx hb dX5_sweep_141 rfl (lv_at hl 4 rfl) ?_
                      refine t_imul hx hb dX5_sweep_142 (v := nI (36 * k)) (zi_mul rfl) ?_
                      refine lv_iload hx hb dX5_sweep_143 (lv_at hl 0 rfl) ?_
                      refine t_iadd hx hb dX5_sweep_145 (v := nI (36 * k + c0)) (zi_add (by omega)) ?_
                      refine z_dald (s := s.setDrawn d0) (n := 144) (i := 36 * k + c0) hx hb hK hP 6 0 rfl rfl (by omega) (by decide) dX5_sweep_146 ?_
                      refine lv_dload_n hx hb dX5_sweep_147 rfl (lv_at hl 1 rfl) ?_
                      refine lv_aload_n hx hb dX5_sweep_148 rfl (lv_at hl 3 rfl) ?_
                      refine va_get (D := (dC, dI)) (ci := 5) (v := .ref aS) (C := RX5) (T := TX5) (N := 19) hx hb (dr_words hts d0) (in_X5_sweep_X5) hown hK hP 0 rfl rfl 14 (by decide) (dr_words hts d0 (.fieldLink RX5 36 "PlateModesModel" "shapes" "[D") (by decide +kernel)) (fun _ h9 => h9) rfl dX5_sweep_149 ?_
                      refine lv_bipush (v := (nI 36)) hx hb dX5_sweep_152 (by decide) ?_
                      refine lv_iload_n hx hb dX5_sweep_154 rfl (lv_at hl 2 rfl) ?_
                      refine t_imul hx hb dX5_sweep_155 (v := nI (36 * j)) (zi_mul rfl) ?_
                      refine lv_iload hx hb dX5_sweep_156 (lv_at hl 0 rfl) ?_
                      refine t_iadd hx hb dX5_sweep_158 (v := nI (36 * j + c0)) (zi_add (by omega)) ?_
                      refine z_dald (s := s.setDrawn d0) (n := 144) (i := 36 * j + c0) hx hb hK hP 6 0 rfl rfl (by omega) (by decide) dX5_sweep_159 ?_
                      refine zr_dmul hd0 hx hb (a := zprod T (ztake T (zv fd) (iw * ih) L j (zrel iw ih T R N (iw * ih) S)) (L j) (zv fd) (iw * ih)) (b := zv (fC (36 * j + c0))) hr26 rfl dX5_sweep_160 (fun r33 d34 hr33 hd34 => ?_)
                      refine zr_dsub hd34 hx hb (a := zv (fC (36 * k + c0))) (b := zM (zprod T (ztake T (zv fd) (iw * ih) L j (zrel iw ih T R N (iw * ih) S)) (L j) (zv fd) (iw * ih)) (zv (fC (36 * j + c0)))) rfl hr33 dX5_sweep_161 (fun r35 d36 hr35 hd36 => ?_)
                      refine lv_goto (tgt := 166) hx hb dX5_sweep_162 (by decide) ?_
                      refine z_dast (s := s.setDrawn d36) (n := 144) (i := 36 * k + c0) hx hb hK hP hD hS 6 0 rfl rfl (by omega) (by decide) dX5_sweep_166 (fun H locs hP hD hS => ?_)
                      have hP : va_P (dC, dI) vwCl (w5 a0 aT aE aG aR aN aS aQ aW aX cD cI th iw ih fa fb fd ib mk im iq tT tE tG tR tN (zu fC (36 * k + c0) r35) tQ tW tX) H := hP
                      have hD : va_D A (w5 a0 aT aE aG aR aN aS aQ aW aX cD cI th iw ih fa fb fd ib mk im iq tT tE tG tR tN (zu fC (36 * k + c0) r35) tQ tW tX) := hD
                      refine lv_iinc (v := nI (c0 + 1)) (lv' := [(5, .int (nI (c0 + 1))), (3, .double r26), (2, .int (nI j)), (0, .ref a0), (1, .int (nI k))]) hx hb dX5_sweep_167 hl (k := 0) rfl (show nI c0 + nI 1 = _ from zi_add (by omega)) (by decide) rfl (fun ls hl => ?_)
                      refine lv_goto (tgt := 108) hx hb dX5_sweep_170 (by decide) ?_
                      exact ih_L_108 (c0 + 1) (zu fC (36 * k + c0) r35) _ _ _ _ (by omega) (by omega) (zgsp_put hq4 (ztk_w gT hq4 (zgs_low hw6 hh6 hf4 (by omega) (gL j (by omega))) hr35 cw) rfl) (fun i hi => (zu_n (by omega)).trans (hf4 i hi)) hd36 hP hD hS hl
              exact L_108 _ 0 fJ _ _ _ _ (Nat.lt_succ_self _) (by omega) (zgsp_0 hq3) hf3 hd27 hP hD hS hl
        exact L_93 _ 0 fS _ _ _ _ (Nat.lt_succ_self _) (by omega) (zgs_c (congrArg (fun z => zrel iw ih T R N z S) (show y * iw = iw * ih from by rw [show y = ih by omega, Nat.mul_comm])) hq1) hf1 hd0 hP hD hS hl
      · skip
        refine lv_iconst (v := (nI 0)) hx hb dX5_sweep_10 (by decide) ?_
        refine lv_istore_n (lv' := [(3, .int (nI 0)), (2, .int (nI y)), (0, .ref a0), (1, .int (nI k))]) hx hb dX5_sweep_11 rfl hl (by decide) rfl (fun ls hl => ?_)
        have L_12 : ∀ (n : Nat) (x : Nat) (fS : Nat → UInt64) (d0 : Drawn) (H : Heap) (locs : List Loc) (ls : Array Slot), iw - x < n → (x ≤ iw) → (zgs fS k iw ih (zrel iw ih T R N (y * iw + x) S)) → (∀ i, i < 36 * k → fS i = tS i) → s.drawn.sameBut d0 lw_cs → va_P (dC, dI) vwCl (w5 a0 aT aE aG aR aN aS aQ aW aX cD cI th iw ih fa fb fd ib mk im iq tT tE tG tR tN fS tQ tW tX) H → va_D A (w5 a0 aT aE aG aR aN aS aQ aW aX cD cI th iw ih fa fb fd ib mk im iq tT tE tG tR tN fS tQ tW tX) → va_S A s.heap H locs → lv_has ls 6 [(3, .int (nI x)), (2, .int (nI y)), (0, .ref a0), (1, .int (nI k))] → W p l e (headSpec wsX5_sweep ({ frames := 2, cells := 0, slots := 0, locals := 48 } : Room)).room (s.setDrawn d0) m ([.ref a0, .int (nI k)] : List Value).toArray below meth c H locs 0 0 (MQD lw_cs below (va_Qi (fun (r : Int32) (u : Nat → UInt64) => r = zb (!zeq (zsz iw ih T R N (zv fd) k L S) z0) ∧ zgs u k iw ih (if zeq (zsz iw ih T R N (zv fd) k L S) z0 = true then (zsw1 iw ih T R N (zv fd) k L S) else znrm T (zsz iw ih T R N (zv fd) k L S) (zsw1 iw ih T R N (zv fd) k L S)) ∧ ∀ i, i < 36 * k → u i = tS i) (fun u t => (va_P (dC, dI) vwCl (w5 a0 aT aE aG aR aN aS aQ aW aX cD cI th iw ih fa fb fd ib mk im iq tT tE tG tR tN u tQ tW tX) t.heap ∧ va_K (dC, dI) vwCl [(cD, .double), (cI, .int)] t ∧ va_D A (w5 a0 aT aE aG aR aN aS aQ aW aX cD cI th iw ih fa fb fd ib mk im iq tT tE tG tR tN u tQ tW tX))) A) ([.ref a0, .int (nI k)] : List Value).toArray s 0 0 A) (F0 m 12 ls []) := by
          intro n
          induction n with
          | zero => intro x fS d0 H locs ls hn; exact absurd hn (Nat.not_lt_zero _)
          | succ n ih_L_12 =>
            intro x fS d0 H locs ls hn hxw hq2 hf2 hd0 hP hD hS hl
            refine lv_iload_n hx hb dX5_sweep_12 rfl (lv_at hl 0 rfl) ?_
            refine lv_aload_n hx hb dX5_sweep_13 rfl (lv_at hl 2 rfl) ?_
            refine va_get (D := (dC, dI)) (ci := 5) (v := .int (nI iw)) (C := RX5) (T := TX5) (N := 19) hx hb (dr_words hts d0) (in_X5_sweep_X5) hown hK hP 0 rfl rfl 1 (by decide) (dr_words hts d0 (.fieldLink RX5 48 "PlateModesModel" "width" "I") (by decide +kernel)) (fun _ h9 => h9) rfl dX5_sweep_14 ?_
            refine z_icmp_ge (a := x) (b := iw) (tgt := 85) hx hb (by omega) (by omega) dX5_sweep_17 (by decide) (fun c37 => ?_) (fun c38 => ?_)
            · skip
              refine lv_iinc (v := nI (y + 1)) (lv' := [(2, .int (nI (y + 1))), (3, .int (nI x)), (0, .ref a0), (1, .int (nI k))]) hx hb dX5_sweep_85 hl (k := 1) rfl (show nI y + nI 1 = _ from zi_add (by omega)) (by decide) rfl (fun ls hl => ?_)
              refine lv_goto (tgt := 2) hx hb dX5_sweep_88 (by decide) ?_
              exact ih_L_2 (y + 1) fS _ _ _ _ (by omega) (by omega) (zgs_c (congrArg (fun z => zrel iw ih T R N z S) (show y * iw + x = (y + 1) * iw from by rw [← zrow_end]; omega)) hq2) hf2 hd0 hP hD hS (lv_sub hl [0, 2, 3] rfl)
            · skip
              refine lv_bipush (v := (nI 36)) hx hb dX5_sweep_20 (by decide) ?_
              refine lv_iload_n hx hb dX5_sweep_22 rfl (lv_at hl 3 rfl) ?_
              refine t_imul hx hb dX5_sweep_23 (v := nI (36 * k)) (zi_mul rfl) ?_
              refine lv_bipush (v := (nI 6)) hx hb dX5_sweep_24 (by decide) ?_
              refine lv_iload_n hx hb dX5_sweep_26 rfl (lv_at hl 1 rfl) ?_
              refine t_imul hx hb dX5_sweep_27 (v := nI (6 * y)) (zi_mul rfl) ?_
              refine t_iadd hx hb dX5_sweep_28 (v := nI (36 * k + 6 * y)) (zi_add (by omega)) ?_
              refine lv_iload_n hx hb dX5_sweep_29 rfl (lv_at hl 0 rfl) ?_
              refine t_iadd hx hb dX5_sweep_30 (v := nI (36 * k + 6 * y + x)) (zi_add (by omega)) ?_
              refine lv_istore (lv' := [(4, .int (nI (36 * k + 6 * y + x))), (3, .int (nI x)), (2, .int (nI y)), (0, .ref a0), (1, .int (nI k))]) hx hb dX5_sweep_31 hl (by decide) rfl (fun ls hl => ?_)
              refine lv_aload_n hx hb dX5_sweep_33 rfl (lv_at hl 3 rfl) ?_
              refine lv_bipush (v := (nI 6)) hx hb dX5_sweep_34 (by decide) ?_
              refine lv_iload_n hx hb dX5_sweep_36 rfl (lv_at hl 2 rfl) ?_
              refine t_imul hx hb dX5_sweep_37 (v := nI (6 * y)) (zi_mul rfl) ?_
              refine lv_iload_n hx hb dX5_sweep_38 rfl (lv_at hl 1 rfl) ?_
              refine t_iadd hx hb dX5_sweep_39 (v := nI (6 * y + x)) (zi_add (by omega)) ?_
              have hPc := hP
              refine va_calli (va_runV (As := [.int (nI (6 * y + x))]) (rest := []) ⟨hx, hb, hml, hown, (dr_words hts d0)⟩ (c5_isWood l dC dI a0 aT aE aG aR aN aS aQ aW aX cD cI th iw ih fa fb fd ib mk im iq tT tE tG tR tN fS tQ tW tX (6 * y + x) (by omega)) (cwV 1 (dr_words hts d0) gX5_sweep_X5_isWood rfl rfl rfl (by decide +kernel) ⟨Nat.le_of_ble_eq_true rfl, Nat.le_of_ble_eq_true rfl⟩) ⟨zfb, va_recv hK hP (ci := 5) (q0 := 0) rfl rfl, zpre hPc hK⟩ rfl rfl hl.1 rfl (lv_room (Nat.le_of_ble_eq_true rfl)) dX5_sweep_40 ⟨Nat.le_of_ble_eq_true rfl, Nat.le_of_ble_eq_true rfl⟩) hS (fun q _ h => h.elim) (fun q h => h.elim) (fun r39 u9 t9 H locs ht9 hvm9 hr39 hB9 hz9 hk1 hS => ?_)
              have hP := zro1 hP hk1
              have hr39 : r39 = zb (zgt (T (y * iw + x)) z0) := by rw [hr39, zgr_at gT x y (by omega) (by omega) (by omega)]
              subst hr39
              refine z_if_eq_b (tgt := 79) hx hb dX5_sweep_43 (by decide) (fun c40 => ?_) (fun c41 => ?_)
              · skip
                have cw := c40
                refine lv_iinc (v := nI (x + 1)) (lv' := [(3, .int (nI (x + 1))), (4, .int (nI (36 * k + 6 * y + x))), (2, .int (nI y)), (0, .ref a0), (1, .int (nI k))]) hx hb dX5_sweep_79 hl (k := 1) rfl (show nI x + nI 1 = _ from zi_add (by omega)) (by decide) rfl (fun ls hl => ?_)
                refine lv_goto (tgt := 12) hx hb dX5_sweep_82 (by decide) ?_
                exact ih_L_12 (x + 1) fS _ _ _ _ (by omega) (by omega) (zgs_c (zrel_f cw).symm hq2) hf2 hd0 hP hD hS (lv_sub hl [0, 2, 3, 4] rfl)
              · skip
                have cw := c41
                refine lv_aload_n hx hb dX5_sweep_46 rfl (lv_at hl 3 rfl) ?_
                refine va_get (D := (dC, dI)) (ci := 5) (v := .ref aS) (C := RX5) (T := TX5) (N := 19) hx hb (dr_words hts d0) (in_X5_sweep_X5) hown hK hP 0 rfl rfl 14 (by decide) (dr_words hts d0 (.fieldLink RX5 36 "PlateModesModel" "shapes" "[D") (by decide +kernel)) (fun _ h9 => h9) rfl dX5_sweep_47 ?_
                refine lv_iload hx hb dX5_sweep_50 (lv_at hl 0 rfl) ?_
                refine lv_aload_n hx hb dX5_sweep_52 rfl (lv_at hl 3 rfl) ?_
                refine va_get (D := (dC, dI)) (ci := 5) (v := .ref aS) (C := RX5) (T := TX5) (N := 19) hx hb (dr_words hts d0) (in_X5_sweep_X5) hown hK hP 0 rfl rfl 14 (by decide) (dr_words hts d0 (.fieldLink RX5 36 "PlateModesModel" "shapes" "[D") (by decide +kernel)) (fun _ h9 => h9) rfl dX5_sweep_53 ?_
                refine lv_iload hx hb dX5_sweep_56 (lv_at hl 0 rfl) ?_
                refine z_dald (s := s.setDrawn d0) (n := 144) (i := 36 * k + 6 * y + x) hx hb hK hP 6 0 rfl rfl (by omega) (by decide) dX5_sweep_58 ?_
                refine lv_ldc2d (v := 4602678819172646912) hx hb hown (dr_words hts d0 (.constantDouble RX5 93 (4602678819172646912)) (by decide +kernel)) dX5_sweep_59 ?_
                refine lv_aload_n hx hb dX5_sweep_62 rfl (lv_at hl 3 rfl) ?_
                refine lv_iload_n hx hb dX5_sweep_63 rfl (lv_at hl 4 rfl) ?_
                refine lv_iload_n hx hb dX5_sweep_64 rfl (lv_at hl 1 rfl) ?_
                refine lv_iload_n hx hb dX5_sweep_65 rfl (lv_at hl 2 rfl) ?_
                have hPc := hP
                refine va_calldD hd0 (va_runV_D (As := [.int (nI k), .int (nI x), .int (nI y)]) (rest := [.double 4602678819172646912, .double (fS (36 * k + 6 * y + x)), .int (nI (36 * k + 6 * y + x)), .ref aS]) ⟨hx, hb, hml, hown, (dr_words hts d0)⟩ (c5_force l dC dI a0 aT aE aG aR aN aS aQ aW aX cD cI th iw ih fa fb fd ib mk im iq tT tE tG tR tN fS tQ tW tX k x y (by omega) (by omega) (by omega) hw6 hh6 R N (zrel iw ih T R N (y * iw + x) S) gR gN hq2) (cwV 3 (dr_words hts d0) gX5_sweep_X5_force rfl rfl rfl (by decide +kernel) ⟨Nat.le_of_ble_eq_true rfl, Nat.le_of_ble_eq_true rfl⟩) ⟨zfb, va_recv hK hP (ci := 5) (q0 := 0) rfl rfl, zpre hPc hK⟩ rfl rfl hl.1 rfl (lv_room (Nat.le_of_ble_eq_true rfl)) dX5_sweep_66 ⟨Nat.le_of_ble_eq_true rfl, Nat.le_of_ble_eq_true rfl⟩) hS (fun q _ h => h.elim) (fun q h => h.elim) (fun r42 u9 t9 H locs ht9 hvm9 hr42 hB9 hz9 hk1 hS dhd43 hd43 => ?_)
                have hP := zro1 hP hk1
                refine zr_dmul hd43 hx hb (a := zv 4602678819172646912) (b := zforce iw ih R N (zrel iw ih T R N (y * iw + x) S) x y) rfl hr42 dX5_sweep_69 (fun r44 d45 hr44 hd45 => ?_)
                refine lv_aload_n hx hb dX5_sweep_70 rfl (lv_at hl 3 rfl) ?_
                refine lv_iload_n hx hb dX5_sweep_71 rfl (lv_at hl 1 rfl) ?_
                refine lv_iload_n hx hb dX5_sweep_72 rfl (lv_at hl 2 rfl) ?_
                have hPc := hP
                refine va_calldD hd45 (va_runV_D (As := [.int (nI x), .int (nI y)]) (rest := [.double r44, .double (fS (36 * k + 6 * y + x)), .int (nI (36 * k + 6 * y + x)), .ref aS]) ⟨hx, hb, hml, hown, (dr_words hts d45)⟩ (c5_hold l dC dI a0 aT aE aG aR aN aS aQ aW aX cD cI th iw ih fa fb fd ib mk im iq tT tE tG tR tN fS tQ tW tX x y (by omega) (by omega) hw6 hh6 R N gR gN) (cwV 2 (dr_words hts d45) gX5_sweep_X5_hold rfl rfl rfl (by decide +kernel) ⟨Nat.le_of_ble_eq_true rfl, Nat.le_of_ble_eq_true rfl⟩) ⟨zfb, va_recv hK hP (ci := 5) (q0 := 0) rfl rfl, zpre hPc hK⟩ rfl rfl hl.1 rfl (lv_room (Nat.le_of_ble_eq_true rfl)) dX5_sweep_73 ⟨Nat.le_of_ble_eq_true rfl, Nat.le_of_ble_eq_true rfl⟩) hS (fun q _ h => h.elim) (fun q h => h.elim) (fun r46 u9 t9 H locs ht9 hvm9 hr46 hB9 hz9 hk1 hS dhd47 hd47 => ?_)
                have hP := zro1 hP hk1
                refine zr_ddiv hd47 hx hb (a := zM (zv 4602678819172646912) (zforce iw ih R N (zrel iw ih T R N (y * iw + x) S) x y)) (b := zhold iw ih R N x y) hr44 hr46 dX5_sweep_76 (fun r48 d49 hr48 hd49 => ?_)
                refine zr_dadd hd49 hx hb (a := (zrel iw ih T R N (y * iw + x) S) (y * iw + x)) (b := zQ (zM (zv 4602678819172646912) (zforce iw ih R N (zrel iw ih T R N (y * iw + x) S) x y)) (zhold iw ih R N x y)) (zgs_at hq2 x y (by omega) (by omega) (by omega)) hr48 dX5_sweep_77 (fun r50 d51 hr50 hd51 => ?_)
                refine z_dast (s := s.setDrawn d51) (n := 144) (i := 36 * k + 6 * y + x) hx hb hK hP hD hS 6 0 rfl rfl (by omega) (by decide) dX5_sweep_78 (fun H locs hP hD hS => ?_)
                have hP : va_P (dC, dI) vwCl (w5 a0 aT aE aG aR aN aS aQ aW aX cD cI th iw ih fa fb fd ib mk im iq tT tE tG tR tN (zu fS (36 * k + 6 * y + x) r50) tQ tW tX) H := hP
                have hD : va_D A (w5 a0 aT aE aG aR aN aS aQ aW aX cD cI th iw ih fa fb fd ib mk im iq tT tE tG tR tN (zu fS (36 * k + 6 * y + x) r50) tQ tW tX) := hD
                refine lv_iinc (v := nI (x + 1)) (lv' := [(3, .int (nI (x + 1))), (4, .int (nI (36 * k + 6 * y + x))), (2, .int (nI y)), (0, .ref a0), (1, .int (nI k))]) hx hb dX5_sweep_79 hl (k := 1) rfl (show nI x + nI 1 = _ from zi_add (by omega)) (by decide) rfl (fun ls hl => ?_)
                refine lv_goto (tgt := 12) hx hb dX5_sweep_82 (by decide) ?_
                exact ih_L_12 (x + 1) (zu fS (36 * k + 6 * y + x) r50) _ _ _ _ (by omega) (by omega) (zgs_c (zrel_t (by omega) cw).symm (zgs_put hw6 hq2 (by omega) rfl hr50)) (fun i hi => (zu_n (by omega)).trans (hf2 i hi)) hd51 hP hD hS (lv_sub hl [0, 2, 3, 4] rfl)
        exact L_12 _ 0 fS _ _ _ _ (Nat.lt_succ_self _) (by omega) hq1 hf1 hd0 hP hD hS hl
  exact L_2 _ 0 tS _ _ _ _ (Nat.lt_succ_self _) (by omega) (zgs_c (show S = (zrel iw ih T R N (0 * iw) S) from by rw [Nat.zero_mul]; rfl) gS) (fun _ _ => rfl) hd0 hP hD hS hl
end
section
/-! 07: the reference: make, makeAll -/
theorem in_X5_make_X5 : ∀ w ∈ wsX50, w ∈ wsX5_make := fun w h => List.mem_cons_of_mem _ (List.mem_append_right _ h)
set_option maxHeartbeats 4000000 in
set_option maxRecDepth 100000 in
/-- a mode -/
theorem c5_make (l : Launch) (dC : Nat → ClassId) (dI : Nat → Nat → Nat) (a0 aT aE aG aR aN aS aQ aW aX : Nat) (cD cI : ClassId) (th : Int32) (iw ih : Nat) (fa fb fd : UInt64) (ib : Nat) (mk : Bool) (im iq : Nat) (tT : Nat → UInt64) (tE : Nat → Int32) (tG tR tN tS tQ : Nat → UInt64) (tW : Nat → Int32) (tX : Nat → UInt64) (k : Nat) (hk : k < 4) (hw6 : iw ≤ 6) (hh6 : ih ≤ 6) (T R N : Nat → ZD) (gT : zgr tT iw ih T) (gR : zgr tR iw ih R) (gN : zgr tN iw ih N) (L : Nat → Nat → ZD) (gL : ∀ j, j < k → zgs tS j iw ih (L j)) (sz : Nat) : MetD lw_cs l yX5_make wsX5_make ({ frames := 3, cells := 0, slots := 0, locals := 73 } : Room) (va_Pc [.ref a0, .int (nI k)] (fun U => U.heap.size = sz ∧ va_P (dC, dI) vwCl (w5 a0 aT aE aG aR aN aS aQ aW aX cD cI th iw ih fa fb fd ib mk im iq tT tE tG tR tN tS tQ tW tX) U.heap ∧ va_K (dC, dI) vwCl [(cD, .double), (cI, .int)] U ∧ va_D (fun _ => True) (w5 a0 aT aE aG aR aN aS aQ aW aX cD cI th iw ih fa fb fd ib mk im iq tT tE tG tR tN tS tQ tW tX))) (va_Qi (fun (r : Int32) (u : (Nat → UInt64) × (Nat → UInt64)) => ∃ o, zswO iw ih T R N (zv fd) k L (zbegin iw T k) 24 = o ∧ r = zb o.isSome ∧ (∀ F, o = some F → zgs u.1 k iw ih F ∧ zv (u.2 k) = zS z0 (zsq iw ih T R N F (iw * ih))) ∧ (∀ i, i < 36 * k → u.1 i = tS i) ∧ (∀ i, i ≠ k → u.2 i = tQ i)) (fun u t => (va_P (dC, dI) vwCl (w5 a0 aT aE aG aR aN aS aQ aW aX cD cI th iw ih fa fb fd ib mk im iq tT tE tG tR tN u.1 u.2 tW tX) t.heap ∧ va_K (dC, dI) vwCl [(cD, .double), (cI, .int)] t ∧ va_D (va_A (w5 a0 aT aE aG aR aN aS aQ aW aX cD cI th iw ih fa fb fd ib mk im iq tT tE tG tR tN tS tQ tW tX) sz) (w5 a0 aT aE aG aR aN aS aQ aW aX cD cI th iw ih fa fb fd ib mk im iq tT tE tG tR tN u.1 u.2 tW tX))) (va_A (w5 a0 aT aE aG aR aN aS aQ aW aX cD cI th iw ih fa fb fd ib mk im iq tT tE tG tR tN tS tQ tW tX) sz)) 0 0 (va_A (w5 a0 aT aE aG aR aN aS aQ aW aX cD cI th iw ih fa fb fd ib mk im iq tT tE tG tR tN tS tQ tW tX) sz) := by
  refine MetD.ofW (cc := cX5_make) (maxL := 6) (ret := (some .boolean)) (by decide) rfl ?_
  intro p e s m args below meth c s₁ B hml hv hd0
  obtain ⟨rfl, hsz, hP, hK, hD0⟩ := hv
  have hx := B.exec
  have hb := B.bytes
  have hr := B.returns
  have hts := atoms_spec (ws := wsX5_make) B.pre
  have hown : s.vm.findClass RX5 = some m.cls := findClass_of_methodNamed B.named
  have hlocks := B.notSynchronized
  subst hsz
  have hD := hD0.self (sz := s.heap.size)
  generalize hAe : va_A (w5 a0 aT aE aG aR aN aS aQ aW aX cD cI th iw ih fa fb fd ib mk im iq tT tE tG tR tN tS tQ tW tX) s.heap.size = A at hD ⊢
  have hA : ∀ q : Nat, s.heap.size ≤ q → A q := fun q h => by rw [← hAe]; exact Or.inr h
  have hS : va_S A s.heap s.heap [] := va_S.rf
  have hl := lv_entry ([.ref a0, .int (nI k)]) (n := 6) (Nat.le_of_ble_eq_true rfl)
  rw [lg_entry_eq]
  generalize (lg_sl ([.ref a0, .int (nI k)]) ++ List.replicate (6 - (lg_sl ([.ref a0, .int (nI k)])).length) Slot.unset).toArray = ls at hl ⊢
  have hl : lv_has ls 6 [(0, .ref a0), (1, .int (nI k))] := hl
  refine lv_iconst (v := (nI 0)) hx hb dX5_make_0 (by decide) ?_
  refine lv_istore_n (lv' := [(2, .int (nI 0)), (0, .ref a0), (1, .int (nI k))]) hx hb dX5_make_1 rfl hl (by decide) rfl (fun ls hl => ?_)
  have L_2 : ∀ (n : Nat) (y : Nat) (fS : Nat → UInt64) (d0 : Drawn) (H : Heap) (locs : List Loc) (ls : Array Slot), 6 - y < n → (y ≤ 6) → (zgsb fS k iw ih (6 * y) (zbegin iw T k)) → (∀ i, i < 36 * k → fS i = tS i) → s.drawn.sameBut d0 lw_cs → va_P (dC, dI) vwCl (w5 a0 aT aE aG aR aN aS aQ aW aX cD cI th iw ih fa fb fd ib mk im iq tT tE tG tR tN fS tQ tW tX) H → va_D A (w5 a0 aT aE aG aR aN aS aQ aW aX cD cI th iw ih fa fb fd ib mk im iq tT tE tG tR tN fS tQ tW tX) → va_S A s.heap H locs → lv_has ls 6 [(2, .int (nI y)), (0, .ref a0), (1, .int (nI k))] → W p l e (headSpec wsX5_make ({ frames := 3, cells := 0, slots := 0, locals := 73 } : Room)).room (s.setDrawn d0) m ([.ref a0, .int (nI k)] : List Value).toArray below meth c H locs 0 0 (MQD lw_cs below (va_Qi (fun (r : Int32) (u : (Nat → UInt64) × (Nat → UInt64)) => ∃ o, zswO iw ih T R N (zv fd) k L (zbegin iw T k) 24 = o ∧ r = zb o.isSome ∧ (∀ F, o = some F → zgs u.1 k iw ih F ∧ zv (u.2 k) = zS z0 (zsq iw ih T R N F (iw * ih))) ∧ (∀ i, i < 36 * k → u.1 i = tS i) ∧ (∀ i, i ≠ k → u.2 i = tQ i)) (fun u t => (va_P (dC, dI) vwCl (w5 a0 aT aE aG aR aN aS aQ aW aX cD cI th iw ih fa fb fd ib mk im iq tT tE tG tR tN u.1 u.2 tW tX) t.heap ∧ va_K (dC, dI) vwCl [(cD, .double), (cI, .int)] t ∧ va_D A (w5 a0 aT aE aG aR aN aS aQ aW aX cD cI th iw ih fa fb fd ib mk im iq tT tE tG tR tN u.1 u.2 tW tX))) A) ([.ref a0, .int (nI k)] : List Value).toArray s 0 0 A) (F0 m 2 ls []) := by
    intro n
    induction n with
    | zero => intro y fS d0 H locs ls hn; exact absurd hn (Nat.not_lt_zero _)
    | succ n ih_L_2 =>
      intro y fS d0 H locs ls hn hy6 hq1 hf1 hd0 hP hD hS hl
      refine lv_iload_n hx hb dX5_make_2 rfl (lv_at hl 0 rfl) ?_
      refine lv_bipush (v := (nI 6)) hx hb dX5_make_3 (by decide) ?_
      refine z_icmp_ge (a := y) (b := 6) (tgt := 111) hx hb (by omega) (by omega) dX5_make_5 (by decide) (fun c1 => ?_) (fun c2 => ?_)
      · skip
        refine lv_iconst (v := (nI 0)) hx hb dX5_make_111 (by decide) ?_
        refine lv_istore_n (lv' := [(2, .int (nI 0)), (0, .ref a0), (1, .int (nI k))]) hx hb dX5_make_112 rfl hl (by decide) rfl (fun ls hl => ?_)
        have L_113 : ∀ (n : Nat) (i : Nat) (fS : Nat → UInt64) (F : Nat → ZD) (d0 : Drawn) (H : Heap) (locs : List Loc) (ls : Array Slot), 24 - i < n → (i ≤ 24) → (zswO iw ih T R N (zv fd) k L (zbegin iw T k) i = some F) → (zgs fS k iw ih F) → (∀ i, i < 36 * k → fS i = tS i) → s.drawn.sameBut d0 lw_cs → va_P (dC, dI) vwCl (w5 a0 aT aE aG aR aN aS aQ aW aX cD cI th iw ih fa fb fd ib mk im iq tT tE tG tR tN fS tQ tW tX) H → va_D A (w5 a0 aT aE aG aR aN aS aQ aW aX cD cI th iw ih fa fb fd ib mk im iq tT tE tG tR tN fS tQ tW tX) → va_S A s.heap H locs → lv_has ls 6 [(2, .int (nI i)), (0, .ref a0), (1, .int (nI k))] → W p l e (headSpec wsX5_make ({ frames := 3, cells := 0, slots := 0, locals := 73 } : Room)).room (s.setDrawn d0) m ([.ref a0, .int (nI k)] : List Value).toArray below meth c H locs 0 0 (MQD lw_cs below (va_Qi (fun (r : Int32) (u : (Nat → UInt64) × (Nat → UInt64)) => ∃ o, zswO iw ih T R N (zv fd) k L (zbegin iw T k) 24 = o ∧ r = zb o.isSome ∧ (∀ F, o = some F → zgs u.1 k iw ih F ∧ zv (u.2 k) = zS z0 (zsq iw ih T R N F (iw * ih))) ∧ (∀ i, i < 36 * k → u.1 i = tS i) ∧ (∀ i, i ≠ k → u.2 i = tQ i)) (fun u t => (va_P (dC, dI) vwCl (w5 a0 aT aE aG aR aN aS aQ aW aX cD cI th iw ih fa fb fd ib mk im iq tT tE tG tR tN u.1 u.2 tW tX) t.heap ∧ va_K (dC, dI) vwCl [(cD, .double), (cI, .int)] t ∧ va_D A (w5 a0 aT aE aG aR aN aS aQ aW aX cD cI th iw ih fa fb fd ib mk im iq tT tE tG tR tN u.1 u.2 tW tX))) A) ([.ref a0, .int (nI k)] : List Value).toArray s 0 0 A) (F0 m 113 ls []) := by
          intro n
          induction n with
          | zero => intro i fS F d0 H locs ls hn; exact absurd hn (Nat.not_lt_zero _)
          | succ n ih_L_113 =>
            intro i fS F d0 H locs ls hn hi ho hq3 hf3 hd0 hP hD hS hl
            refine lv_iload_n hx hb dX5_make_113 rfl (lv_at hl 0 rfl) ?_
            refine lv_bipush (v := (nI 24)) hx hb dX5_make_114 (by decide) ?_
            refine z_icmp_ge (a := i) (b := 24) (tgt := 135) hx hb (by omega) (by omega) dX5_make_116 (by decide) (fun c3 => ?_) (fun c4 => ?_)
            · skip
              refine lv_dconst0 hx hb dX5_make_135 ?_
              refine lv_dstore_n (lv' := [(2, .double FP.dconst0), (0, .ref a0), (1, .int (nI k))]) hx hb dX5_make_136 rfl hl (by decide) rfl (fun ls hl => ?_)
              refine lv_iconst (v := (nI 0)) hx hb dX5_make_137 (by decide) ?_
              refine lv_istore (lv' := [(4, .int (nI 0)), (2, .double FP.dconst0), (0, .ref a0), (1, .int (nI k))]) hx hb dX5_make_138 hl (by decide) rfl (fun ls hl => ?_)
              have L_140 : ∀ (n : Nat) (y : Nat) (sy : UInt64) (d0 : Drawn) (H : Heap) (locs : List Loc) (ls : Array Slot), ih - y < n → (y ≤ ih) → (zv sy = zsq iw ih T R N F (y * iw)) → s.drawn.sameBut d0 lw_cs → va_P (dC, dI) vwCl (w5 a0 aT aE aG aR aN aS aQ aW aX cD cI th iw ih fa fb fd ib mk im iq tT tE tG tR tN fS tQ tW tX) H → va_D A (w5 a0 aT aE aG aR aN aS aQ aW aX cD cI th iw ih fa fb fd ib mk im iq tT tE tG tR tN fS tQ tW tX) → va_S A s.heap H locs → lv_has ls 6 [(4, .int (nI y)), (2, .double sy), (0, .ref a0), (1, .int (nI k))] → W p l e (headSpec wsX5_make ({ frames := 3, cells := 0, slots := 0, locals := 73 } : Room)).room (s.setDrawn d0) m ([.ref a0, .int (nI k)] : List Value).toArray below meth c H locs 0 0 (MQD lw_cs below (va_Qi (fun (r : Int32) (u : (Nat → UInt64) × (Nat → UInt64)) => ∃ o, zswO iw ih T R N (zv fd) k L (zbegin iw T k) 24 = o ∧ r = zb o.isSome ∧ (∀ F, o = some F → zgs u.1 k iw ih F ∧ zv (u.2 k) = zS z0 (zsq iw ih T R N F (iw * ih))) ∧ (∀ i, i < 36 * k → u.1 i = tS i) ∧ (∀ i, i ≠ k → u.2 i = tQ i)) (fun u t => (va_P (dC, dI) vwCl (w5 a0 aT aE aG aR aN aS aQ aW aX cD cI th iw ih fa fb fd ib mk im iq tT tE tG tR tN u.1 u.2 tW tX) t.heap ∧ va_K (dC, dI) vwCl [(cD, .double), (cI, .int)] t ∧ va_D A (w5 a0 aT aE aG aR aN aS aQ aW aX cD cI th iw ih fa fb fd ib mk im iq tT tE tG tR tN u.1 u.2 tW tX))) A) ([.ref a0, .int (nI k)] : List Value).toArray s 0 0 A) (F0 m 140 ls []) := by
                intro n
                induction n with
                | zero => intro y sy d0 H locs ls hn; exact absurd hn (Nat.not_lt_zero _)
                | succ n ih_L_140 =>
                  intro y sy d0 H locs ls hn hyh hsy hd0 hP hD hS hl
                  refine lv_iload hx hb dX5_make_140 (lv_at hl 0 rfl) ?_
                  refine lv_aload_n hx hb dX5_make_142 rfl (lv_at hl 2 rfl) ?_
                  refine va_get (D := (dC, dI)) (ci := 5) (v := .int (nI ih)) (C := RX5) (T := TX5) (N := 19) hx hb (dr_words hts d0) (in_X5_make_X5) hown hK hP 0 rfl rfl 2 (by decide) (dr_words hts d0 (.fieldLink RX5 52 "PlateModesModel" "height" "I") (by decide +kernel)) (fun _ h9 => h9) rfl dX5_make_143 ?_
                  refine z_icmp_ge (a := y) (b := ih) (tgt := 223) hx hb (by omega) (by omega) dX5_make_146 (by decide) (fun c5 => ?_) (fun c6 => ?_)
                  · skip
                    refine lv_aload_n hx hb dX5_make_223 rfl (lv_at hl 2 rfl) ?_
                    refine va_get (D := (dC, dI)) (ci := 5) (v := .ref aQ) (C := RX5) (T := TX5) (N := 19) hx hb (dr_words hts d0) (in_X5_make_X5) hown hK hP 0 rfl rfl 15 (by decide) (dr_words hts d0 (.fieldLink RX5 39 "PlateModesModel" "squares" "[D") (by decide +kernel)) (fun _ h9 => h9) rfl dX5_make_224 ?_
                    refine lv_iload_n hx hb dX5_make_227 rfl (lv_at hl 3 rfl) ?_
                    refine lv_dconst0 hx hb dX5_make_228 ?_
                    refine lv_dload_n hx hb dX5_make_229 rfl (lv_at hl 1 rfl) ?_
                    refine zr_dsub hd0 hx hb (a := z0) (b := zsq iw ih T R N F (y * iw)) rfl hsy dX5_make_230 (fun r7 d8 hr7 hd8 => ?_)
                    refine z_dast (s := s.setDrawn d8) (n := 4) (i := k) hx hb hK hP hD hS 7 0 rfl rfl (by omega) (by decide) dX5_make_231 (fun H locs hP hD hS => ?_)
                    have hP : va_P (dC, dI) vwCl (w5 a0 aT aE aG aR aN aS aQ aW aX cD cI th iw ih fa fb fd ib mk im iq tT tE tG tR tN fS (zu tQ k r7) tW tX) H := hP
                    have hD : va_D A (w5 a0 aT aE aG aR aN aS aQ aW aX cD cI th iw ih fa fb fd ib mk im iq tT tE tG tR tN fS (zu tQ k r7) tW tX) := hD
                    refine lv_iconst (v := (nI 1)) hx hb dX5_make_232 (by decide) ?_
                    refine W.endD hd8 ?_
                    exact W.zret (v := (nI 1)) hx hb hr rfl (fun t ht hW => ⟨⟨(nI 1), (fS, zu tQ k r7), rfl, ⟨some F, (by rw [show i = 24 by omega] at ho; exact ho), rfl, fun F2 hF => (by cases hF; exact ⟨hq3, (congrArg zv zu_s).trans (hr7.trans (congrArg (fun z => zS z0 (zsq iw ih T R N F z)) (show y * iw = iw * ih from by rw [show y = ih by omega, Nat.mul_comm])))⟩), hf3, fun i hi => zu_n hi⟩, by rw [ht]; exact hP, va_K.moved hW.alike hK, hD⟩, hS.F ht⟩) hS.2.2 dX5_make_233
                  · skip
                    refine lv_iconst (v := (nI 0)) hx hb dX5_make_149 (by decide) ?_
                    refine lv_istore (lv' := [(5, .int (nI 0)), (4, .int (nI y)), (2, .double sy), (0, .ref a0), (1, .int (nI k))]) hx hb dX5_make_150 hl (by decide) rfl (fun ls hl => ?_)
                    have L_152 : ∀ (n : Nat) (x : Nat) (sx : UInt64) (d0 : Drawn) (H : Heap) (locs : List Loc) (ls : Array Slot), iw - x < n → (x ≤ iw) → (zv sx = zsq iw ih T R N F (y * iw + x)) → s.drawn.sameBut d0 lw_cs → va_P (dC, dI) vwCl (w5 a0 aT aE aG aR aN aS aQ aW aX cD cI th iw ih fa fb fd ib mk im iq tT tE tG tR tN fS tQ tW tX) H → va_D A (w5 a0 aT aE aG aR aN aS aQ aW aX cD cI th iw ih fa fb fd ib mk im iq tT tE tG tR tN fS tQ tW tX) → va_S A s.heap H locs → lv_has ls 6 [(5, .int (nI x)), (4, .int (nI y)), (2, .double sx), (0, .ref a0), (1, .int (nI k))] → W p l e (headSpec wsX5_make ({ frames := 3, cells := 0, slots := 0, locals := 73 } : Room)).room (s.setDrawn d0) m ([.ref a0, .int (nI k)] : List Value).toArray below meth c H locs 0 0 (MQD lw_cs below (va_Qi (fun (r : Int32) (u : (Nat → UInt64) × (Nat → UInt64)) => ∃ o, zswO iw ih T R N (zv fd) k L (zbegin iw T k) 24 = o ∧ r = zb o.isSome ∧ (∀ F, o = some F → zgs u.1 k iw ih F ∧ zv (u.2 k) = zS z0 (zsq iw ih T R N F (iw * ih))) ∧ (∀ i, i < 36 * k → u.1 i = tS i) ∧ (∀ i, i ≠ k → u.2 i = tQ i)) (fun u t => (va_P (dC, dI) vwCl (w5 a0 aT aE aG aR aN aS aQ aW aX cD cI th iw ih fa fb fd ib mk im iq tT tE tG tR tN u.1 u.2 tW tX) t.heap ∧ va_K (dC, dI) vwCl [(cD, .double), (cI, .int)] t ∧ va_D A (w5 a0 aT aE aG aR aN aS aQ aW aX cD cI th iw ih fa fb fd ib mk im iq tT tE tG tR tN u.1 u.2 tW tX))) A) ([.ref a0, .int (nI k)] : List Value).toArray s 0 0 A) (F0 m 152 ls []) := by
                      intro n
                      induction n with
                      | zero => intro x sx d0 H locs ls hn; exact absurd hn (Nat.not_lt_zero _)
                      | succ n ih_L_152 =>
                        intro x sx d0 H locs ls hn hxw hsx hd0 hP hD hS hl
                        refine lv_iload hx hb dX5_make_152 (lv_at hl 0 rfl) ?_
                        refine lv_aload_n hx hb dX5_make_154 rfl (lv_at hl 3 rfl) ?_
                        refine va_get (D := (dC, dI)) (ci := 5) (v := .int (nI iw)) (C := RX5) (T := TX5) (N := 19) hx hb (dr_words hts d0) (in_X5_make_X5) hown hK hP 0 rfl rfl 1 (by decide) (dr_words hts d0 (.fieldLink RX5 48 "PlateModesModel" "width" "I") (by decide +kernel)) (fun _ h9 => h9) rfl dX5_make_155 ?_
                        refine z_icmp_ge (a := x) (b := iw) (tgt := 217) hx hb (by omega) (by omega) dX5_make_158 (by decide) (fun c9 => ?_) (fun c10 => ?_)
                        · skip
                          refine lv_iinc (v := nI (y + 1)) (lv' := [(4, .int (nI (y + 1))), (5, .int (nI x)), (2, .double sx), (0, .ref a0), (1, .int (nI k))]) hx hb dX5_make_217 hl (k := 1) rfl (show nI y + nI 1 = _ from zi_add (by omega)) (by decide) rfl (fun ls hl => ?_)
                          refine lv_goto (tgt := 140) hx hb dX5_make_220 (by decide) ?_
                          exact ih_L_140 (y + 1) sx _ _ _ _ (by omega) (by omega) ((hsx).trans (congrArg (fun z => zsq iw ih T R N F z) (show y * iw + x = (y + 1) * iw from by rw [← zrow_end]; omega))) hd0 hP hD hS (lv_sub hl [0, 2, 3, 4] rfl)
                        · skip
                          refine lv_aload_n hx hb dX5_make_161 rfl (lv_at hl 3 rfl) ?_
                          refine lv_bipush (v := (nI 6)) hx hb dX5_make_162 (by decide) ?_
                          refine lv_iload hx hb dX5_make_164 (lv_at hl 1 rfl) ?_
                          refine t_imul hx hb dX5_make_166 (v := nI (6 * y)) (zi_mul rfl) ?_
                          refine lv_iload hx hb dX5_make_167 (lv_at hl 0 rfl) ?_
                          refine t_iadd hx hb dX5_make_169 (v := nI (6 * y + x)) (zi_add (by omega)) ?_
                          have hPc := hP
                          refine va_calli (va_runV (As := [.int (nI (6 * y + x))]) (rest := []) ⟨hx, hb, hml, hown, (dr_words hts d0)⟩ (c5_isWood l dC dI a0 aT aE aG aR aN aS aQ aW aX cD cI th iw ih fa fb fd ib mk im iq tT tE tG tR tN fS tQ tW tX (6 * y + x) (by omega)) (cwV 1 (dr_words hts d0) gX5_make_X5_isWood rfl rfl rfl (by decide +kernel) ⟨Nat.le_of_ble_eq_true rfl, Nat.le_of_ble_eq_true rfl⟩) ⟨zfb, va_recv hK hP (ci := 5) (q0 := 0) rfl rfl, zpre hPc hK⟩ rfl rfl hl.1 rfl (lv_room (Nat.le_of_ble_eq_true rfl)) dX5_make_170 ⟨Nat.le_of_ble_eq_true rfl, Nat.le_of_ble_eq_true rfl⟩) hS (fun q _ h => h.elim) (fun q h => h.elim) (fun r11 u9 t9 H locs ht9 hvm9 hr11 hB9 hz9 hk1 hS => ?_)
                          have hP := zro1 hP hk1
                          have hr11 : r11 = zb (zgt (T (y * iw + x)) z0) := by rw [hr11, zgr_at gT x y (by omega) (by omega) (by omega)]
                          subst hr11
                          have J_210 : ∀ (sv : UInt64) (d0 : Drawn) (H : Heap) (locs : List Loc) (ls : Array Slot), (zv sv = zsq iw ih T R N F (y * iw + x + 1)) → s.drawn.sameBut d0 lw_cs → va_P (dC, dI) vwCl (w5 a0 aT aE aG aR aN aS aQ aW aX cD cI th iw ih fa fb fd ib mk im iq tT tE tG tR tN fS tQ tW tX) H → va_D A (w5 a0 aT aE aG aR aN aS aQ aW aX cD cI th iw ih fa fb fd ib mk im iq tT tE tG tR tN fS tQ tW tX) → va_S A s.heap H locs → lv_has ls 6 [(5, .int (nI x)), (4, .int (nI y)), (2, .double sx), (0, .ref a0), (1, .int (nI k))] → W p l e (headSpec wsX5_make ({ frames := 3, cells := 0, slots := 0, locals := 73 } : Room)).room (s.setDrawn d0) m ([.ref a0, .int (nI k)] : List Value).toArray below meth c H locs 0 0 (MQD lw_cs below (va_Qi (fun (r : Int32) (u : (Nat → UInt64) × (Nat → UInt64)) => ∃ o, zswO iw ih T R N (zv fd) k L (zbegin iw T k) 24 = o ∧ r = zb o.isSome ∧ (∀ F, o = some F → zgs u.1 k iw ih F ∧ zv (u.2 k) = zS z0 (zsq iw ih T R N F (iw * ih))) ∧ (∀ i, i < 36 * k → u.1 i = tS i) ∧ (∀ i, i ≠ k → u.2 i = tQ i)) (fun u t => (va_P (dC, dI) vwCl (w5 a0 aT aE aG aR aN aS aQ aW aX cD cI th iw ih fa fb fd ib mk im iq tT tE tG tR tN u.1 u.2 tW tX) t.heap ∧ va_K (dC, dI) vwCl [(cD, .double), (cI, .int)] t ∧ va_D A (w5 a0 aT aE aG aR aN aS aQ aW aX cD cI th iw ih fa fb fd ib mk im iq tT tE tG tR tN u.1 u.2 tW tX))) A) ([.ref a0, .int (nI k)] : List Value).toArray s 0 0 A) (F0 m 210 ls [.double sv]) := by
                            intro sv d0 H locs ls hsv hd0 hP hD hS hl
                            refine lv_dstore_n (lv' := [(2, .double sv), (5, .int (nI x)), (4, .int (nI y)), (0, .ref a0), (1, .int (nI k))]) hx hb dX5_make_210 rfl hl (by decide) rfl (fun ls hl => ?_)
                            refine lv_iinc (v := nI (x + 1)) (lv' := [(5, .int (nI (x + 1))), (2, .double sv), (4, .int (nI y)), (0, .ref a0), (1, .int (nI k))]) hx hb dX5_make_211 hl (k := 1) rfl (show nI x + nI 1 = _ from zi_add (by omega)) (by decide) rfl (fun ls hl => ?_)
                            refine lv_goto (tgt := 152) hx hb dX5_make_214 (by decide) ?_
                            exact ih_L_152 (x + 1) sv _ _ _ _ (by omega) (by omega) hsv hd0 hP hD hS (lv_sub hl [0, 2, 1, 3, 4] rfl)
                          refine z_if_eq_b (tgt := 209) hx hb dX5_make_173 (by decide) (fun c12 => ?_) (fun c13 => ?_)
                          · skip
                            have cw := c12
                            refine lv_dload_n hx hb dX5_make_209 rfl (lv_at hl 2 rfl) ?_
                            exact J_210 sx _ _ _ _ (hsx.trans (zsq_f cw).symm) hd0 hP hD hS hl
                          · skip
                            have cw := c13
                            refine lv_dload_n hx hb dX5_make_176 rfl (lv_at hl 2 rfl) ?_
                            refine lv_aload_n hx hb dX5_make_177 rfl (lv_at hl 3 rfl) ?_
                            refine va_get (D := (dC, dI)) (ci := 5) (v := .ref aS) (C := RX5) (T := TX5) (N := 19) hx hb (dr_words hts d0) (in_X5_make_X5) hown hK hP 0 rfl rfl 14 (by decide) (dr_words hts d0 (.fieldLink RX5 36 "PlateModesModel" "shapes" "[D") (by decide +kernel)) (fun _ h9 => h9) rfl dX5_make_178 ?_
                            refine lv_bipush (v := (nI 36)) hx hb dX5_make_181 (by decide) ?_
                            refine lv_iload_n hx hb dX5_make_183 rfl (lv_at hl 4 rfl) ?_
                            refine t_imul hx hb dX5_make_184 (v := nI (36 * k)) (zi_mul rfl) ?_
                            refine lv_bipush (v := (nI 6)) hx hb dX5_make_185 (by decide) ?_
                            refine lv_iload hx hb dX5_make_187 (lv_at hl 1 rfl) ?_
                            refine t_imul hx hb dX5_make_189 (v := nI (6 * y)) (zi_mul rfl) ?_
                            refine t_iadd hx hb dX5_make_190 (v := nI (36 * k + 6 * y)) (zi_add (by omega)) ?_
                            refine lv_iload hx hb dX5_make_191 (lv_at hl 0 rfl) ?_
                            refine t_iadd hx hb dX5_make_193 (v := nI (36 * k + 6 * y + x)) (zi_add (by omega)) ?_
                            refine z_dald (s := s.setDrawn d0) (n := 144) (i := 36 * k + 6 * y + x) hx hb hK hP 6 0 rfl rfl (by omega) (by decide) dX5_make_194 ?_
                            refine lv_aload_n hx hb dX5_make_195 rfl (lv_at hl 3 rfl) ?_
                            refine lv_iload_n hx hb dX5_make_196 rfl (lv_at hl 4 rfl) ?_
                            refine lv_iload hx hb dX5_make_197 (lv_at hl 0 rfl) ?_
                            refine lv_iload hx hb dX5_make_199 (lv_at hl 1 rfl) ?_
                            have hPc := hP
                            refine va_calldD hd0 (va_runV_D (As := [.int (nI k), .int (nI x), .int (nI y)]) (rest := [.double (fS (36 * k + 6 * y + x)), .double sx]) ⟨hx, hb, hml, hown, (dr_words hts d0)⟩ (c5_force l dC dI a0 aT aE aG aR aN aS aQ aW aX cD cI th iw ih fa fb fd ib mk im iq tT tE tG tR tN fS tQ tW tX k x y (by omega) (by omega) (by omega) hw6 hh6 R N F gR gN hq3) (cwV 3 (dr_words hts d0) gX5_make_X5_force rfl rfl rfl (by decide +kernel) ⟨Nat.le_of_ble_eq_true rfl, Nat.le_of_ble_eq_true rfl⟩) ⟨zfb, va_recv hK hP (ci := 5) (q0 := 0) rfl rfl, zpre hPc hK⟩ rfl rfl hl.1 rfl (lv_room (Nat.le_of_ble_eq_true rfl)) dX5_make_201 ⟨Nat.le_of_ble_eq_true rfl, Nat.le_of_ble_eq_true rfl⟩) hS (fun q _ h => h.elim) (fun q h => h.elim) (fun r14 u9 t9 H locs ht9 hvm9 hr14 hB9 hz9 hk1 hS dhd15 hd15 => ?_)
                            have hP := zro1 hP hk1
                            refine zr_dmul hd15 hx hb (a := F (y * iw + x)) (b := zforce iw ih R N F x y) (zgs_at hq3 x y (by omega) (by omega) (by omega)) hr14 dX5_make_204 (fun r16 d17 hr16 hd17 => ?_)
                            refine zr_dadd hd17 hx hb (a := zsq iw ih T R N F (y * iw + x)) (b := zM (F (y * iw + x)) (zforce iw ih R N F x y)) hsx hr16 dX5_make_205 (fun r18 d19 hr18 hd19 => ?_)
                            refine lv_goto (tgt := 210) hx hb dX5_make_206 (by decide) ?_
                            exact J_210 r18 _ _ _ _ (hr18.trans (zsq_t (by omega) cw).symm) hd19 hP hD hS hl
                    exact L_152 _ 0 sy _ _ _ _ (Nat.lt_succ_self _) (by omega) hsy hd0 hP hD hS hl
              exact L_140 _ 0 FP.dconst0 _ _ _ _ (Nat.lt_succ_self _) (by omega) (by rw [Nat.zero_mul]; rfl) hd0 hP hD hS hl
            · skip
              refine lv_aload_n hx hb dX5_make_119 rfl (lv_at hl 1 rfl) ?_
              refine lv_iload_n hx hb dX5_make_120 rfl (lv_at hl 2 rfl) ?_
              have hFc := zself hD hS hA
              refine va_calliD hd0 (va_runV_D (As := [.int (nI k)]) (rest := []) ⟨hx, hb, hml, hown, (dr_words hts d0)⟩ (c5_sweep l dC dI a0 aT aE aG aR aN aS aQ aW aX cD cI th iw ih fa fb fd ib mk im iq tT tE tG tR tN fS tQ tW tX k hk hw6 hh6 T R N gT gR gN F hq3 L (fun j hj => zgs_low hw6 hh6 hf3 hj (gL j hj)) _) (cwV 1 (dr_words hts d0) gX5_make_X5_sweep rfl rfl rfl (by decide +kernel) ⟨Nat.le_of_ble_eq_true rfl, Nat.le_of_ble_eq_true rfl⟩) ⟨zfbw, va_recv hK hP (ci := 5) (q0 := 0) rfl rfl, zprew hP hK hD⟩ rfl rfl hl.1 rfl (lv_room (Nat.le_of_ble_eq_true rfl)) dX5_make_121 ⟨Nat.le_of_ble_eq_true rfl, Nat.le_of_ble_eq_true rfl⟩) hS (fun q _ h => hFc q h) hFc (fun r20 u21 t9 H1 locs ht9 hvm9 hr20 hB9 hz9 hk1 hS dhd22 hd22 => ?_)
              obtain ⟨hb7, hq7, hf7⟩ := hr20
              subst hb7
              obtain ⟨hP1, hK1, hD1⟩ := hB9
              rw [ht9] at hP1
              have hD := hD1.weaken (fun k q _ h => hFc q.1 h)
              have hP := hP1
              generalize H1 = H at hP hS ⊢
              have hP : va_P (dC, dI) vwCl (w5 a0 aT aE aG aR aN aS aQ aW aX cD cI th iw ih fa fb fd ib mk im iq tT tE tG tR tN u21 tQ tW tX) H := hP
              have hD : va_D A (w5 a0 aT aE aG aR aN aS aQ aW aX cD cI th iw ih fa fb fd ib mk im iq tT tE tG tR tN u21 tQ tW tX) := hD
              have hf7 : ∀ i, i < 36 * k → u21 i = tS i := fun i hi => (hf7 i hi).trans (hf3 i hi)
              refine z_if_ne_b (tgt := 129) hx hb dX5_make_124 (by decide) (fun c23 => ?_) (fun c24 => ?_)
              · skip
                have hz := znot_t c23
                have hq7 := zgs_c (if_neg (by rw [hz]; decide)) hq7
                refine lv_iinc (v := nI (i + 1)) (lv' := [(2, .int (nI (i + 1))), (0, .ref a0), (1, .int (nI k))]) hx hb dX5_make_129 hl (k := 0) rfl (show nI i + nI 1 = _ from zi_add (by omega)) (by decide) rfl (fun ls hl => ?_)
                refine lv_goto (tgt := 113) hx hb dX5_make_132 (by decide) ?_
                exact ih_L_113 (i + 1) u21 (znrm T (zsz iw ih T R N (zv fd) k L F) (zsw1 iw ih T R N (zv fd) k L F)) _ _ _ _ (by omega) (by omega) (zswO_s ho hz) hq7 hf7 hd22 hP hD hS hl
              · skip
                have hz := znot_f c24
                refine lv_iconst (v := (nI 0)) hx hb dX5_make_127 (by decide) ?_
                refine W.endD hd22 ?_
                exact W.zret (v := (nI 0)) hx hb hr rfl (fun t ht hW => ⟨⟨(nI 0), (u21, tQ), rfl, ⟨none, (by have h1 := zswO_none (zswO_n ho hz) (23 - i); rw [show i + 1 + (23 - i) = 24 by omega] at h1; exact h1), rfl, fun F hF => (by cases hF), hf7, fun _ _ => rfl⟩, by rw [ht]; exact hP, va_K.moved hW.alike hK, hD⟩, hS.F ht⟩) hS.2.2 dX5_make_128
        exact L_113 _ 0 fS (zbegin iw T k) _ _ _ _ (Nat.lt_succ_self _) (by omega) rfl (zgsb_all hw6 hh6 (by omega) hq1) hf1 hd0 hP hD hS hl
      · skip
        refine lv_iconst (v := (nI 0)) hx hb dX5_make_8 (by decide) ?_
        refine lv_istore_n (lv' := [(3, .int (nI 0)), (2, .int (nI y)), (0, .ref a0), (1, .int (nI k))]) hx hb dX5_make_9 rfl hl (by decide) rfl (fun ls hl => ?_)
        have L_10 : ∀ (n : Nat) (x : Nat) (fS : Nat → UInt64) (d0 : Drawn) (H : Heap) (locs : List Loc) (ls : Array Slot), 6 - x < n → (x ≤ 6) → (zgsb fS k iw ih (6 * y + x) (zbegin iw T k)) → (∀ i, i < 36 * k → fS i = tS i) → s.drawn.sameBut d0 lw_cs → va_P (dC, dI) vwCl (w5 a0 aT aE aG aR aN aS aQ aW aX cD cI th iw ih fa fb fd ib mk im iq tT tE tG tR tN fS tQ tW tX) H → va_D A (w5 a0 aT aE aG aR aN aS aQ aW aX cD cI th iw ih fa fb fd ib mk im iq tT tE tG tR tN fS tQ tW tX) → va_S A s.heap H locs → lv_has ls 6 [(3, .int (nI x)), (2, .int (nI y)), (0, .ref a0), (1, .int (nI k))] → W p l e (headSpec wsX5_make ({ frames := 3, cells := 0, slots := 0, locals := 73 } : Room)).room (s.setDrawn d0) m ([.ref a0, .int (nI k)] : List Value).toArray below meth c H locs 0 0 (MQD lw_cs below (va_Qi (fun (r : Int32) (u : (Nat → UInt64) × (Nat → UInt64)) => ∃ o, zswO iw ih T R N (zv fd) k L (zbegin iw T k) 24 = o ∧ r = zb o.isSome ∧ (∀ F, o = some F → zgs u.1 k iw ih F ∧ zv (u.2 k) = zS z0 (zsq iw ih T R N F (iw * ih))) ∧ (∀ i, i < 36 * k → u.1 i = tS i) ∧ (∀ i, i ≠ k → u.2 i = tQ i)) (fun u t => (va_P (dC, dI) vwCl (w5 a0 aT aE aG aR aN aS aQ aW aX cD cI th iw ih fa fb fd ib mk im iq tT tE tG tR tN u.1 u.2 tW tX) t.heap ∧ va_K (dC, dI) vwCl [(cD, .double), (cI, .int)] t ∧ va_D A (w5 a0 aT aE aG aR aN aS aQ aW aX cD cI th iw ih fa fb fd ib mk im iq tT tE tG tR tN u.1 u.2 tW tX))) A) ([.ref a0, .int (nI k)] : List Value).toArray s 0 0 A) (F0 m 10 ls []) := by
          intro n
          induction n with
          | zero => intro x fS d0 H locs ls hn; exact absurd hn (Nat.not_lt_zero _)
          | succ n ih_L_10 =>
            intro x fS d0 H locs ls hn hx6 hq2 hf2 hd0 hP hD hS hl
            refine lv_iload_n hx hb dX5_make_10 rfl (lv_at hl 0 rfl) ?_
            refine lv_bipush (v := (nI 6)) hx hb dX5_make_11 (by decide) ?_
            refine z_icmp_ge (a := x) (b := 6) (tgt := 105) hx hb (by omega) (by omega) dX5_make_13 (by decide) (fun c25 => ?_) (fun c26 => ?_)
            · skip
              refine lv_iinc (v := nI (y + 1)) (lv' := [(2, .int (nI (y + 1))), (3, .int (nI x)), (0, .ref a0), (1, .int (nI k))]) hx hb dX5_make_105 hl (k := 1) rfl (show nI y + nI 1 = _ from zi_add (by omega)) (by decide) rfl (fun ls hl => ?_)
              refine lv_goto (tgt := 2) hx hb dX5_make_108 (by decide) ?_
              exact ih_L_2 (y + 1) fS _ _ _ _ (by omega) (by omega) (zgsb_n hq2 (by omega)) hf2 hd0 hP hD hS (lv_sub hl [0, 2, 3] rfl)
            · skip
              have J_50 : ∀ (bi : Bool) (d0 : Drawn) (H : Heap) (locs : List Loc) (ls : Array Slot), (bi = decide (x < iw ∧ y < ih ∧ zgt (zv (tT (6 * y + x))) z0 = true)) → s.drawn.sameBut d0 lw_cs → va_P (dC, dI) vwCl (w5 a0 aT aE aG aR aN aS aQ aW aX cD cI th iw ih fa fb fd ib mk im iq tT tE tG tR tN fS tQ tW tX) H → va_D A (w5 a0 aT aE aG aR aN aS aQ aW aX cD cI th iw ih fa fb fd ib mk im iq tT tE tG tR tN fS tQ tW tX) → va_S A s.heap H locs → lv_has ls 6 [(3, .int (nI x)), (2, .int (nI y)), (0, .ref a0), (1, .int (nI k))] → W p l e (headSpec wsX5_make ({ frames := 3, cells := 0, slots := 0, locals := 73 } : Room)).room (s.setDrawn d0) m ([.ref a0, .int (nI k)] : List Value).toArray below meth c H locs 0 0 (MQD lw_cs below (va_Qi (fun (r : Int32) (u : (Nat → UInt64) × (Nat → UInt64)) => ∃ o, zswO iw ih T R N (zv fd) k L (zbegin iw T k) 24 = o ∧ r = zb o.isSome ∧ (∀ F, o = some F → zgs u.1 k iw ih F ∧ zv (u.2 k) = zS z0 (zsq iw ih T R N F (iw * ih))) ∧ (∀ i, i < 36 * k → u.1 i = tS i) ∧ (∀ i, i ≠ k → u.2 i = tQ i)) (fun u t => (va_P (dC, dI) vwCl (w5 a0 aT aE aG aR aN aS aQ aW aX cD cI th iw ih fa fb fd ib mk im iq tT tE tG tR tN u.1 u.2 tW tX) t.heap ∧ va_K (dC, dI) vwCl [(cD, .double), (cI, .int)] t ∧ va_D A (w5 a0 aT aE aG aR aN aS aQ aW aX cD cI th iw ih fa fb fd ib mk im iq tT tE tG tR tN u.1 u.2 tW tX))) A) ([.ref a0, .int (nI k)] : List Value).toArray s 0 0 A) (F0 m 50 ls [.int (zb bi)]) := by
                intro bi d0 H locs ls hbi hd0 hP hD hS hl
                refine lv_istore (lv' := [(4, .int (zb bi)), (3, .int (nI x)), (2, .int (nI y)), (0, .ref a0), (1, .int (nI k))]) hx hb dX5_make_50 hl (by decide) rfl (fun ls hl => ?_)
                refine lv_aload_n hx hb dX5_make_52 rfl (lv_at hl 3 rfl) ?_
                refine va_get (D := (dC, dI)) (ci := 5) (v := .ref aS) (C := RX5) (T := TX5) (N := 19) hx hb (dr_words hts d0) (in_X5_make_X5) hown hK hP 0 rfl rfl 14 (by decide) (dr_words hts d0 (.fieldLink RX5 36 "PlateModesModel" "shapes" "[D") (by decide +kernel)) (fun _ h9 => h9) rfl dX5_make_53 ?_
                refine lv_bipush (v := (nI 36)) hx hb dX5_make_56 (by decide) ?_
                refine lv_iload_n hx hb dX5_make_58 rfl (lv_at hl 4 rfl) ?_
                refine t_imul hx hb dX5_make_59 (v := nI (36 * k)) (zi_mul rfl) ?_
                refine lv_bipush (v := (nI 6)) hx hb dX5_make_60 (by decide) ?_
                refine lv_iload_n hx hb dX5_make_62 rfl (lv_at hl 2 rfl) ?_
                refine t_imul hx hb dX5_make_63 (v := nI (6 * y)) (zi_mul rfl) ?_
                refine t_iadd hx hb dX5_make_64 (v := nI (36 * k + 6 * y)) (zi_add (by omega)) ?_
                refine lv_iload_n hx hb dX5_make_65 rfl (lv_at hl 1 rfl) ?_
                refine t_iadd hx hb dX5_make_66 (v := nI (36 * k + 6 * y + x)) (zi_add (by omega)) ?_
                refine lv_iload hx hb dX5_make_67 (lv_at hl 0 rfl) ?_
                refine z_if_eq_b (tgt := 97) hx hb dX5_make_69 (by decide) (fun c27 => ?_) (fun c28 => ?_)
                · skip
                  have cb := c27
                  refine lv_dconst0 hx hb dX5_make_97 ?_
                  refine z_dast (s := s.setDrawn d0) (n := 144) (i := 36 * k + 6 * y + x) hx hb hK hP hD hS 6 0 rfl rfl (by omega) (by decide) dX5_make_98 (fun H locs hP hD hS => ?_)
                  have hP : va_P (dC, dI) vwCl (w5 a0 aT aE aG aR aN aS aQ aW aX cD cI th iw ih fa fb fd ib mk im iq tT tE tG tR tN (zu fS (36 * k + 6 * y + x) FP.dconst0) tQ tW tX) H := hP
                  have hD : va_D A (w5 a0 aT aE aG aR aN aS aQ aW aX cD cI th iw ih fa fb fd ib mk im iq tT tE tG tR tN (zu fS (36 * k + 6 * y + x) FP.dconst0) tQ tW tX) := hD
                  refine lv_iinc (v := nI (x + 1)) (lv' := [(3, .int (nI (x + 1))), (4, .int (zb bi)), (2, .int (nI y)), (0, .ref a0), (1, .int (nI k))]) hx hb dX5_make_99 hl (k := 1) rfl (show nI x + nI 1 = _ from zi_add (by omega)) (by decide) rfl (fun ls hl => ?_)
                  refine lv_goto (tgt := 10) hx hb dX5_make_102 (by decide) ?_
                  exact ih_L_10 (x + 1) (zu fS (36 * k + 6 * y + x) FP.dconst0) _ _ _ _ (by omega) (by omega) (zgsb_n (zgsb_put (c := 6 * y + x) hq2 (zbg_put hw6 gT (by omega) hbi (fun h => absurd (h.symm.trans cb) (by decide)) (fun _ => rfl)) (by omega)) (by omega)) (fun i hi => (zu_n (by omega)).trans (hf2 i hi)) hd0 hP hD hS (lv_sub hl [0, 2, 3, 4] rfl)
                · skip
                  have cb := c28
                  refine lv_dconst1 hx hb dX5_make_72 ?_
                  refine lv_iconst (v := (nI 3)) hx hb dX5_make_73 (by decide) ?_
                  refine lv_iload_n hx hb dX5_make_74 rfl (lv_at hl 1 rfl) ?_
                  refine t_imul hx hb dX5_make_75 (v := nI (3 * x)) (zi_mul rfl) ?_
                  refine lv_iconst (v := (nI 5)) hx hb dX5_make_76 (by decide) ?_
                  refine lv_iload_n hx hb dX5_make_77 rfl (lv_at hl 2 rfl) ?_
                  refine t_imul hx hb dX5_make_78 (v := nI (5 * y)) (zi_mul rfl) ?_
                  refine t_iadd hx hb dX5_make_79 (v := nI (5 * y + 3 * x)) (zi_add (by omega)) ?_
                  refine lv_bipush (v := (nI 7)) hx hb dX5_make_80 (by decide) ?_
                  refine lv_iload_n hx hb dX5_make_82 rfl (lv_at hl 4 rfl) ?_
                  refine t_imul hx hb dX5_make_83 (v := nI (7 * k)) (zi_mul rfl) ?_
                  refine t_iadd hx hb dX5_make_84 (v := nI (7 * k + 5 * y + 3 * x)) (zi_add (by omega)) ?_
                  refine lv_bipush (v := (nI 11)) hx hb dX5_make_85 (by decide) ?_
                  refine t_irem hx hb dX5_make_87 (fun h => absurd h (by decide)) (v := nI ((7 * k + 5 * y + 3 * x) % 11)) (pk_rem (by omega) (by omega) (by omega)) ?_
                  refine lv_i2d hx hb dX5_make_88 ?_
                  refine lv_ldc2d (v := 4620693217682128896) hx hb hown (dr_words hts d0 (.constantDouble RX5 66 (4620693217682128896)) (by decide +kernel)) dX5_make_89 ?_
                  refine zr_ddiv hd0 hx hb (a := zv (FP.i2d (nI (((7 * k + 5 * y + 3 * x) % 11))))) (b := zv 4620693217682128896) rfl rfl dX5_make_92 (fun r29 d30 hr29 hd30 => ?_)
                  refine zr_dadd hd30 hx hb (a := z1) (b := zQ (zv (FP.i2d (nI (((7 * k + 5 * y + 3 * x) % 11))))) (zv 4620693217682128896)) rfl hr29 dX5_make_93 (fun r31 d32 hr31 hd32 => ?_)
                  refine lv_goto (tgt := 98) hx hb dX5_make_94 (by decide) ?_
                  refine z_dast (s := s.setDrawn d32) (n := 144) (i := 36 * k + 6 * y + x) hx hb hK hP hD hS 6 0 rfl rfl (by omega) (by decide) dX5_make_98 (fun H locs hP hD hS => ?_)
                  have hP : va_P (dC, dI) vwCl (w5 a0 aT aE aG aR aN aS aQ aW aX cD cI th iw ih fa fb fd ib mk im iq tT tE tG tR tN (zu fS (36 * k + 6 * y + x) r31) tQ tW tX) H := hP
                  have hD : va_D A (w5 a0 aT aE aG aR aN aS aQ aW aX cD cI th iw ih fa fb fd ib mk im iq tT tE tG tR tN (zu fS (36 * k + 6 * y + x) r31) tQ tW tX) := hD
                  refine lv_iinc (v := nI (x + 1)) (lv' := [(3, .int (nI (x + 1))), (4, .int (zb bi)), (2, .int (nI y)), (0, .ref a0), (1, .int (nI k))]) hx hb dX5_make_99 hl (k := 1) rfl (show nI x + nI 1 = _ from zi_add (by omega)) (by decide) rfl (fun ls hl => ?_)
                  refine lv_goto (tgt := 10) hx hb dX5_make_102 (by decide) ?_
                  exact ih_L_10 (x + 1) (zu fS (36 * k + 6 * y + x) r31) _ _ _ _ (by omega) (by omega) (zgsb_n (zgsb_put (c := 6 * y + x) hq2 (zbg_put hw6 gT (by omega) hbi (fun _ => by unfold zbeg; rw [show 3 * x + 5 * y + 7 * k = 7 * k + 5 * y + 3 * x by omega]; exact hr31) (fun h => absurd (h.symm.trans cb) (by decide))) (by omega)) (by omega)) (fun i hi => (zu_n (by omega)).trans (hf2 i hi)) hd32 hP hD hS (lv_sub hl [0, 2, 3, 4] rfl)
              refine lv_iload_n hx hb dX5_make_16 rfl (lv_at hl 0 rfl) ?_
              refine lv_aload_n hx hb dX5_make_17 rfl (lv_at hl 2 rfl) ?_
              refine va_get (D := (dC, dI)) (ci := 5) (v := .int (nI iw)) (C := RX5) (T := TX5) (N := 19) hx hb (dr_words hts d0) (in_X5_make_X5) hown hK hP 0 rfl rfl 1 (by decide) (dr_words hts d0 (.fieldLink RX5 48 "PlateModesModel" "width" "I") (by decide +kernel)) (fun _ h9 => h9) rfl dX5_make_18 ?_
              refine z_icmp_ge (a := x) (b := iw) (tgt := 49) hx hb (by omega) (by omega) dX5_make_21 (by decide) (fun c33 => ?_) (fun c34 => ?_)
              · skip
                refine lv_iconst (v := (nI 0)) hx hb dX5_make_49 (by decide) ?_
                exact J_50 false _ _ _ _ ((decide_eq_false (fun hh => by obtain ⟨h1, h2, h3⟩ := hh; first | omega | (rw [cw] at h3; exact absurd h3 (by decide)))).symm) hd0 hP hD hS hl
              · skip
                refine lv_iload_n hx hb dX5_make_24 rfl (lv_at hl 1 rfl) ?_
                refine lv_aload_n hx hb dX5_make_25 rfl (lv_at hl 2 rfl) ?_
                refine va_get (D := (dC, dI)) (ci := 5) (v := .int (nI ih)) (C := RX5) (T := TX5) (N := 19) hx hb (dr_words hts d0) (in_X5_make_X5) hown hK hP 0 rfl rfl 2 (by decide) (dr_words hts d0 (.fieldLink RX5 52 "PlateModesModel" "height" "I") (by decide +kernel)) (fun _ h9 => h9) rfl dX5_make_26 ?_
                refine z_icmp_ge (a := y) (b := ih) (tgt := 49) hx hb (by omega) (by omega) dX5_make_29 (by decide) (fun c35 => ?_) (fun c36 => ?_)
                · skip
                  refine lv_iconst (v := (nI 0)) hx hb dX5_make_49 (by decide) ?_
                  exact J_50 false _ _ _ _ ((decide_eq_false (fun hh => by obtain ⟨h1, h2, h3⟩ := hh; first | omega | (rw [cw] at h3; exact absurd h3 (by decide)))).symm) hd0 hP hD hS hl
                · skip
                  refine lv_aload_n hx hb dX5_make_32 rfl (lv_at hl 2 rfl) ?_
                  refine lv_bipush (v := (nI 6)) hx hb dX5_make_33 (by decide) ?_
                  refine lv_iload_n hx hb dX5_make_35 rfl (lv_at hl 1 rfl) ?_
                  refine t_imul hx hb dX5_make_36 (v := nI (6 * y)) (zi_mul rfl) ?_
                  refine lv_iload_n hx hb dX5_make_37 rfl (lv_at hl 0 rfl) ?_
                  refine t_iadd hx hb dX5_make_38 (v := nI (6 * y + x)) (zi_add (by omega)) ?_
                  have hPc := hP
                  refine va_calli (va_runV (As := [.int (nI (6 * y + x))]) (rest := []) ⟨hx, hb, hml, hown, (dr_words hts d0)⟩ (c5_isWood l dC dI a0 aT aE aG aR aN aS aQ aW aX cD cI th iw ih fa fb fd ib mk im iq tT tE tG tR tN fS tQ tW tX (6 * y + x) (by omega)) (cwV 1 (dr_words hts d0) gX5_make_X5_isWood rfl rfl rfl (by decide +kernel) ⟨Nat.le_of_ble_eq_true rfl, Nat.le_of_ble_eq_true rfl⟩) ⟨zfb, va_recv hK hP (ci := 5) (q0 := 0) rfl rfl, zpre hPc hK⟩ rfl rfl hl.1 rfl (lv_room (Nat.le_of_ble_eq_true rfl)) dX5_make_39 ⟨Nat.le_of_ble_eq_true rfl, Nat.le_of_ble_eq_true rfl⟩) hS (fun q _ h => h.elim) (fun q h => h.elim) (fun r37 u9 t9 H locs ht9 hvm9 hr37 hB9 hz9 hk1 hS => ?_)
                  have hP := zro1 hP hk1
                  subst hr37
                  refine z_if_eq_b (tgt := 49) hx hb dX5_make_42 (by decide) (fun c38 => ?_) (fun c39 => ?_)
                  · skip
                    have cw := c38
                    refine lv_iconst (v := (nI 0)) hx hb dX5_make_49 (by decide) ?_
                    exact J_50 false _ _ _ _ ((decide_eq_false (fun hh => by obtain ⟨h1, h2, h3⟩ := hh; first | omega | (rw [cw] at h3; exact absurd h3 (by decide)))).symm) hd0 hP hD hS hl
                  · skip
                    have cw := c39
                    refine lv_iconst (v := (nI 1)) hx hb dX5_make_45 (by decide) ?_
                    refine lv_goto (tgt := 50) hx hb dX5_make_46 (by decide) ?_
                    exact J_50 true _ _ _ _ ((decide_eq_true ⟨by omega, by omega, cw⟩).symm) hd0 hP hD hS hl
        exact L_10 _ 0 fS _ _ _ _ (Nat.lt_succ_self _) (by omega) hq1 hf1 hd0 hP hD hS hl
  exact L_2 _ 0 tS _ _ _ _ (Nat.lt_succ_self _) (by omega) (zgsb_n zgsb_0 (by omega)) (fun _ _ => rfl) hd0 hP hD hS hl
theorem in_X5_makeAll_X5 : ∀ w ∈ wsX50, w ∈ wsX5_makeAll := fun w h => List.mem_cons_of_mem _ (List.mem_append_right _ h)
set_option maxHeartbeats 4000000 in
set_option maxRecDepth 100000 in
/-- all modes -/
theorem c5_makeAll (l : Launch) (dC : Nat → ClassId) (dI : Nat → Nat → Nat) (a0 aT aE aG aR aN aS aQ aW aX : Nat) (cD cI : ClassId) (th : Int32) (iw ih : Nat) (fa fb fd : UInt64) (ib : Nat) (mk : Bool) (im iq : Nat) (tT : Nat → UInt64) (tE : Nat → Int32) (tG tR tN tS tQ : Nat → UInt64) (tW : Nat → Int32) (tX : Nat → UInt64) (n1 : Nat) (hn4 : n1 ≤ 4) (hw6 : iw ≤ 6) (hh6 : ih ≤ 6) (T : Nat → ZD) (gT : zgr tT iw ih T) (bx0 by0 bx1 by1 : Nat → Nat) (bg : Nat → ZD) (hb12 : ib ≤ 12) (gE : ∀ k, k < ib → tE (4 * k) = nI (bx0 k) ∧ tE (4 * k + 1) = nI (by0 k) ∧ tE (4 * k + 2) = nI (bx1 k) ∧ tE (4 * k + 3) = nI (by1 k)) (gB : ∀ k, k < ib → bx0 k ≤ bx1 k ∧ bx1 k < iw ∧ by0 k ≤ by1 k ∧ by1 k < ih) (gG : ∀ k, k < ib → zv (tG k) = bg k) (sz : Nat) : MetD lw_cs l yX5_makeAll wsX5_makeAll ({ frames := 4, cells := 0, slots := 0, locals := 98 } : Room) (va_Pc [.ref a0, .int (nI n1)] (fun U => U.heap.size = sz ∧ va_P (dC, dI) vwCl (w5 a0 aT aE aG aR aN aS aQ aW aX cD cI th iw ih fa fb fd ib mk im iq tT tE tG tR tN tS tQ tW tX) U.heap ∧ va_K (dC, dI) vwCl [(cD, .double), (cI, .int)] U ∧ va_D (fun _ => True) (w5 a0 aT aE aG aR aN aS aQ aW aX cD cI th iw ih fa fb fd ib mk im iq tT tE tG tR tN tS tQ tW tX))) (va_Qv (fun u : (Nat → UInt64) × (Nat → UInt64) × (Nat → UInt64) × (Nat → UInt64) => zgr u.1 iw ih (zRB iw T (zv fa) bx0 by0 bx1 bg ib) ∧ zgr u.2.1 iw ih (zNB iw ih T (zv fb) bx0 by0 by1 bg ib) ∧ ∀ j, j < zcnt iw ih T (zRB iw T (zv fa) bx0 by0 bx1 bg ib) (zNB iw ih T (zv fb) bx0 by0 by1 bg ib) (zv fd) n1 → zgs u.2.2.1 j iw ih (zshp iw ih T (zRB iw T (zv fa) bx0 by0 bx1 bg ib) (zNB iw ih T (zv fb) bx0 by0 by1 bg ib) (zv fd) j) ∧ zv (u.2.2.2 j) = zS z0 (zsq iw ih T (zRB iw T (zv fa) bx0 by0 bx1 bg ib) (zNB iw ih T (zv fb) bx0 by0 by1 bg ib) (zshp iw ih T (zRB iw T (zv fa) bx0 by0 bx1 bg ib) (zNB iw ih T (zv fb) bx0 by0 by1 bg ib) (zv fd) j) (iw * ih))) (fun u t => (va_P (dC, dI) vwCl (w5 a0 aT aE aG aR aN aS aQ aW aX cD cI th iw ih fa fb fd ib true ((zcnt iw ih T (zRB iw T (zv fa) bx0 by0 bx1 bg ib) (zNB iw ih T (zv fb) bx0 by0 by1 bg ib) (zv fd) n1)) iq tT tE tG u.1 u.2.1 u.2.2.1 u.2.2.2 tW tX) t.heap ∧ va_K (dC, dI) vwCl [(cD, .double), (cI, .int)] t ∧ va_D (va_A (w5 a0 aT aE aG aR aN aS aQ aW aX cD cI th iw ih fa fb fd ib mk im iq tT tE tG tR tN tS tQ tW tX) sz) (w5 a0 aT aE aG aR aN aS aQ aW aX cD cI th iw ih fa fb fd ib true ((zcnt iw ih T (zRB iw T (zv fa) bx0 by0 bx1 bg ib) (zNB iw ih T (zv fb) bx0 by0 by1 bg ib) (zv fd) n1)) iq tT tE tG u.1 u.2.1 u.2.2.1 u.2.2.2 tW tX))) (va_A (w5 a0 aT aE aG aR aN aS aQ aW aX cD cI th iw ih fa fb fd ib mk im iq tT tE tG tR tN tS tQ tW tX) sz)) 0 0 (va_A (w5 a0 aT aE aG aR aN aS aQ aW aX cD cI th iw ih fa fb fd ib mk im iq tT tE tG tR tN tS tQ tW tX) sz) := by
  refine MetD.ofW (cc := cX5_makeAll) (maxL := 3) (ret := none) (by decide) rfl ?_
  intro p e s m args below meth c s₁ B hml hv hd0
  obtain ⟨rfl, hsz, hP, hK, hD0⟩ := hv
  have hx := B.exec
  have hb := B.bytes
  have hr := B.returns
  have hts := atoms_spec (ws := wsX5_makeAll) B.pre
  have hown : s.vm.findClass RX5 = some m.cls := findClass_of_methodNamed B.named
  have hlocks := B.notSynchronized
  subst hsz
  have hD := hD0.self (sz := s.heap.size)
  generalize hAe : va_A (w5 a0 aT aE aG aR aN aS aQ aW aX cD cI th iw ih fa fb fd ib mk im iq tT tE tG tR tN tS tQ tW tX) s.heap.size = A at hD ⊢
  have hA : ∀ q : Nat, s.heap.size ≤ q → A q := fun q h => by rw [← hAe]; exact Or.inr h
  have hS : va_S A s.heap s.heap [] := va_S.rf
  have hl := lv_entry ([.ref a0, .int (nI n1)]) (n := 3) (Nat.le_of_ble_eq_true rfl)
  rw [lg_entry_eq]
  generalize (lg_sl ([.ref a0, .int (nI n1)]) ++ List.replicate (3 - (lg_sl ([.ref a0, .int (nI n1)])).length) Slot.unset).toArray = ls at hl ⊢
  have hl : lv_has ls 3 [(0, .ref a0), (1, .int (nI n1))] := hl
  refine lv_aload_n hx hb dX5_makeAll_0 rfl (lv_at hl 0 rfl) ?_
  have hFc := zself hD hS hA
  refine va_callvD hd0 (va_runV_D (As := []) (rest := []) ⟨hx, hb, hml, hown, (dr_words hts s.drawn)⟩ (c5_springs l dC dI a0 aT aE aG aR aN aS aQ aW aX cD cI th iw ih fa fb fd ib mk im iq tT tE tG tR tN tS tQ tW tX hw6 hh6 T gT bx0 by0 bx1 by1 bg hb12 gE gB gG _) (cwV 0 (dr_words hts s.drawn) gX5_makeAll_X5_springs rfl rfl rfl (by decide +kernel) ⟨Nat.le_of_ble_eq_true rfl, Nat.le_of_ble_eq_true rfl⟩) ⟨zfbw, va_recv hK hP (ci := 5) (q0 := 0) rfl rfl, zprew hP hK hD⟩ rfl rfl hl.1 rfl (lv_room (Nat.le_of_ble_eq_true rfl)) dX5_makeAll_1 ⟨Nat.le_of_ble_eq_true rfl, Nat.le_of_ble_eq_true rfl⟩) hS (fun q _ h => hFc q h) hFc (fun u2 t9 H1 locs ht9 hvm9 hr1 hB9 hz9 hk1 hS dhd3 hd3 => ?_)
  obtain ⟨gR, gN⟩ := hr1
  obtain ⟨hP1, hK1, hD1⟩ := hB9
  rw [ht9] at hP1
  have hD := hD1.weaken (fun k q _ h => hFc q.1 h)
  have hP := hP1
  generalize H1 = H at hP hS ⊢
  have hP : va_P (dC, dI) vwCl (w5 a0 aT aE aG aR aN aS aQ aW aX cD cI th iw ih fa fb fd ib mk im iq tT tE tG u2.1 u2.2 tS tQ tW tX) H := hP
  have hD : va_D A (w5 a0 aT aE aG aR aN aS aQ aW aX cD cI th iw ih fa fb fd ib mk im iq tT tE tG u2.1 u2.2 tS tQ tW tX) := hD
  obtain ⟨sR, sN⟩ := u2
  dsimp only at gR gN
  have hP : va_P (dC, dI) vwCl (w5 a0 aT aE aG aR aN aS aQ aW aX cD cI th iw ih fa fb fd ib mk im iq tT tE tG sR sN tS tQ tW tX) H := hP
  have hD : va_D A (w5 a0 aT aE aG aR aN aS aQ aW aX cD cI th iw ih fa fb fd ib mk im iq tT tE tG sR sN tS tQ tW tX) := hD
  refine lv_aload_n hx hb dX5_makeAll_4 rfl (lv_at hl 0 rfl) ?_
  refine lv_iconst (v := (nI 0)) hx hb dX5_makeAll_5 (by decide) ?_
  refine va_put (D := (dC, dI)) (ci := 5) (v := .int (nI 0)) (ty := .int) (C := RX5) (T := TX5) (N := 19) hx hb (dr_words hts dhd3) (in_X5_makeAll_X5) tyX5 tyX5_ok nmX5 hown hK hP hD hS 0 rfl rfl 13 (by decide) (dr_words hts dhd3 (.fieldLink RX5 116 "PlateModesModel" "many" "I") (by decide +kernel)) (fun _ h9 => h9) rfl (by decide +kernel) rfl rfl (Nat.le_of_ble_eq_true rfl) dX5_makeAll_6 (fun H locs hP hD hS => ?_)
  have hP : va_P (dC, dI) vwCl (w5 a0 aT aE aG aR aN aS aQ aW aX cD cI th iw ih fa fb fd ib mk 0 iq tT tE tG sR sN tS tQ tW tX) H := hP
  have hD : va_D A (w5 a0 aT aE aG aR aN aS aQ aW aX cD cI th iw ih fa fb fd ib mk 0 iq tT tE tG sR sN tS tQ tW tX) := hD
  refine lv_iconst (v := (nI 1)) hx hb dX5_makeAll_9 (by decide) ?_
  refine lv_istore_n (lv' := [(2, .int (nI 1)), (0, .ref a0), (1, .int (nI n1))]) hx hb dX5_makeAll_10 rfl hl (by decide) rfl (fun ls hl => ?_)
  have L_11 : ∀ (n : Nat) (mn : Nat) (gb : Bool) (L : Nat → Nat → ZD) (fS : Nat → UInt64) (fQ : Nat → UInt64) (d0 : Drawn) (H : Heap) (locs : List Loc) (ls : Array Slot), (n1 - mn) + (if gb = true then 1 else 0) < n → (mn ≤ n1) → (zshO iw ih T (zRB iw T (zv fa) bx0 by0 bx1 bg ib) (zNB iw ih T (zv fb) bx0 by0 by1 bg ib) (zv fd) mn = some L) → (∀ j, j < mn → zgs fS j iw ih (L j) ∧ zv (fQ j) = zS z0 (zsq iw ih T (zRB iw T (zv fa) bx0 by0 bx1 bg ib) (zNB iw ih T (zv fb) bx0 by0 by1 bg ib) (L j) (iw * ih))) → (gb = false → mn < n1 ∧ zshO iw ih T (zRB iw T (zv fa) bx0 by0 bx1 bg ib) (zNB iw ih T (zv fb) bx0 by0 by1 bg ib) (zv fd) (mn + 1) = none) → s.drawn.sameBut d0 lw_cs → va_P (dC, dI) vwCl (w5 a0 aT aE aG aR aN aS aQ aW aX cD cI th iw ih fa fb fd ib mk mn iq tT tE tG sR sN fS fQ tW tX) H → va_D A (w5 a0 aT aE aG aR aN aS aQ aW aX cD cI th iw ih fa fb fd ib mk mn iq tT tE tG sR sN fS fQ tW tX) → va_S A s.heap H locs → lv_has ls 3 [(2, .int (zb gb)), (0, .ref a0), (1, .int (nI n1))] → W p l e (headSpec wsX5_makeAll ({ frames := 4, cells := 0, slots := 0, locals := 98 } : Room)).room (s.setDrawn d0) m ([.ref a0, .int (nI n1)] : List Value).toArray below meth c H locs 0 0 (MQD lw_cs below (va_Qv (fun u : (Nat → UInt64) × (Nat → UInt64) × (Nat → UInt64) × (Nat → UInt64) => zgr u.1 iw ih (zRB iw T (zv fa) bx0 by0 bx1 bg ib) ∧ zgr u.2.1 iw ih (zNB iw ih T (zv fb) bx0 by0 by1 bg ib) ∧ ∀ j, j < zcnt iw ih T (zRB iw T (zv fa) bx0 by0 bx1 bg ib) (zNB iw ih T (zv fb) bx0 by0 by1 bg ib) (zv fd) n1 → zgs u.2.2.1 j iw ih (zshp iw ih T (zRB iw T (zv fa) bx0 by0 bx1 bg ib) (zNB iw ih T (zv fb) bx0 by0 by1 bg ib) (zv fd) j) ∧ zv (u.2.2.2 j) = zS z0 (zsq iw ih T (zRB iw T (zv fa) bx0 by0 bx1 bg ib) (zNB iw ih T (zv fb) bx0 by0 by1 bg ib) (zshp iw ih T (zRB iw T (zv fa) bx0 by0 bx1 bg ib) (zNB iw ih T (zv fb) bx0 by0 by1 bg ib) (zv fd) j) (iw * ih))) (fun u t => (va_P (dC, dI) vwCl (w5 a0 aT aE aG aR aN aS aQ aW aX cD cI th iw ih fa fb fd ib true ((zcnt iw ih T (zRB iw T (zv fa) bx0 by0 bx1 bg ib) (zNB iw ih T (zv fb) bx0 by0 by1 bg ib) (zv fd) n1)) iq tT tE tG u.1 u.2.1 u.2.2.1 u.2.2.2 tW tX) t.heap ∧ va_K (dC, dI) vwCl [(cD, .double), (cI, .int)] t ∧ va_D A (w5 a0 aT aE aG aR aN aS aQ aW aX cD cI th iw ih fa fb fd ib true ((zcnt iw ih T (zRB iw T (zv fa) bx0 by0 bx1 bg ib) (zNB iw ih T (zv fb) bx0 by0 by1 bg ib) (zv fd) n1)) iq tT tE tG u.1 u.2.1 u.2.2.1 u.2.2.2 tW tX))) A) ([.ref a0, .int (nI n1)] : List Value).toArray s 0 0 A) (F0 m 11 ls []) := by
    intro n
    induction n with
    | zero => intro mn gb L fS fQ d0 H locs ls hn; exact absurd hn (Nat.not_lt_zero _)
    | succ n ih_L_11 =>
      intro mn gb L fS fQ d0 H locs ls hn hmn ho hsh hgb hd0 hP hD hS hl
      refine lv_iload_n hx hb dX5_makeAll_11 rfl (lv_at hl 0 rfl) ?_
      refine z_if_eq_b (tgt := 56) hx hb dX5_makeAll_12 (by decide) (fun c4 => ?_) (fun c5 => ?_)
      · skip
        have cb := c4
        have hcnt : zcnt iw ih T (zRB iw T (zv fa) bx0 by0 bx1 bg ib) (zNB iw ih T (zv fb) bx0 by0 by1 bg ib) (zv fd) n1 = mn := by
          have h1 := zcnt_none ho (hgb cb).2 (n1 - mn)
          rw [show mn + (n1 - mn) = n1 by omega] at h1
          exact h1
        refine lv_aload_n hx hb dX5_makeAll_56 rfl (lv_at hl 1 rfl) ?_
        refine lv_iconst (v := (nI 1)) hx hb dX5_makeAll_57 (by decide) ?_
        refine va_put (D := (dC, dI)) (ci := 5) (v := .int (zb true)) (ty := .boolean) (C := RX5) (T := TX5) (N := 19) hx hb (dr_words hts d0) (in_X5_makeAll_X5) tyX5 tyX5_ok nmX5 hown hK hP hD hS 0 rfl rfl 12 (by decide) (dr_words hts d0 (.fieldLink RX5 72 "PlateModesModel" "made" "Z") (by decide +kernel)) (fun _ h9 => h9) rfl (by decide +kernel) rfl rfl (Nat.le_of_ble_eq_true rfl) dX5_makeAll_58 (fun H locs hP hD hS => ?_)
        have hP : va_P (dC, dI) vwCl (w5 a0 aT aE aG aR aN aS aQ aW aX cD cI th iw ih fa fb fd ib true mn iq tT tE tG sR sN fS fQ tW tX) H := hP
        have hD : va_D A (w5 a0 aT aE aG aR aN aS aQ aW aX cD cI th iw ih fa fb fd ib true mn iq tT tE tG sR sN fS fQ tW tX) := hD
        refine W.endD hd0 ?_
        exact W.vret hx hb hr (fun t ht hW => ⟨⟨(sR, sN, fS, fQ), rfl, ⟨gR, gN, fun j hj => by rw [hcnt] at hj; rw [← zshO_at ho j hj]; exact hsh j hj⟩, by rw [ht, hcnt]; exact hP, va_K.moved hW.alike hK, by rw [hcnt]; exact hD⟩, hS.F ht⟩) hS.2.2 dX5_makeAll_61
      · skip
        have cg := c5
        refine lv_aload_n hx hb dX5_makeAll_15 rfl (lv_at hl 1 rfl) ?_
        refine va_get (D := (dC, dI)) (ci := 5) (v := .int (nI mn)) (C := RX5) (T := TX5) (N := 19) hx hb (dr_words hts d0) (in_X5_makeAll_X5) hown hK hP 0 rfl rfl 13 (by decide) (dr_words hts d0 (.fieldLink RX5 116 "PlateModesModel" "many" "I") (by decide +kernel)) (fun _ h9 => h9) rfl dX5_makeAll_16 ?_
        refine lv_iload_n hx hb dX5_makeAll_19 rfl (lv_at hl 2 rfl) ?_
        refine z_icmp_ge (a := mn) (b := n1) (tgt := 56) hx hb (by omega) (by omega) dX5_makeAll_20 (by decide) (fun c6 => ?_) (fun c7 => ?_)
        · skip
          have hcnt : zcnt iw ih T (zRB iw T (zv fa) bx0 by0 bx1 bg ib) (zNB iw ih T (zv fb) bx0 by0 by1 bg ib) (zv fd) n1 = mn := by
            rw [show mn = n1 by omega] at ho ⊢
            exact zcnt_some ho
          refine lv_aload_n hx hb dX5_makeAll_56 rfl (lv_at hl 1 rfl) ?_
          refine lv_iconst (v := (nI 1)) hx hb dX5_makeAll_57 (by decide) ?_
          refine va_put (D := (dC, dI)) (ci := 5) (v := .int (zb true)) (ty := .boolean) (C := RX5) (T := TX5) (N := 19) hx hb (dr_words hts d0) (in_X5_makeAll_X5) tyX5 tyX5_ok nmX5 hown hK hP hD hS 0 rfl rfl 12 (by decide) (dr_words hts d0 (.fieldLink RX5 72 "PlateModesModel" "made" "Z") (by decide +kernel)) (fun _ h9 => h9) rfl (by decide +kernel) rfl rfl (Nat.le_of_ble_eq_true rfl) dX5_makeAll_58 (fun H locs hP hD hS => ?_)
          have hP : va_P (dC, dI) vwCl (w5 a0 aT aE aG aR aN aS aQ aW aX cD cI th iw ih fa fb fd ib true mn iq tT tE tG sR sN fS fQ tW tX) H := hP
          have hD : va_D A (w5 a0 aT aE aG aR aN aS aQ aW aX cD cI th iw ih fa fb fd ib true mn iq tT tE tG sR sN fS fQ tW tX) := hD
          refine W.endD hd0 ?_
          exact W.vret hx hb hr (fun t ht hW => ⟨⟨(sR, sN, fS, fQ), rfl, ⟨gR, gN, fun j hj => by rw [hcnt] at hj; rw [← zshO_at ho j hj]; exact hsh j hj⟩, by rw [ht, hcnt]; exact hP, va_K.moved hW.alike hK, by rw [hcnt]; exact hD⟩, hS.F ht⟩) hS.2.2 dX5_makeAll_61
        · skip
          refine lv_aload_n hx hb dX5_makeAll_23 rfl (lv_at hl 1 rfl) ?_
          refine lv_aload_n hx hb dX5_makeAll_24 rfl (lv_at hl 1 rfl) ?_
          refine va_get (D := (dC, dI)) (ci := 5) (v := .int (nI mn)) (C := RX5) (T := TX5) (N := 19) hx hb (dr_words hts d0) (in_X5_makeAll_X5) hown hK hP 0 rfl rfl 13 (by decide) (dr_words hts d0 (.fieldLink RX5 116 "PlateModesModel" "many" "I") (by decide +kernel)) (fun _ h9 => h9) rfl dX5_makeAll_25 ?_
          have hFc := zself hD hS hA
          refine va_calliD hd0 (va_runV_D (As := [.int (nI mn)]) (rest := []) ⟨hx, hb, hml, hown, (dr_words hts d0)⟩ (c5_make l dC dI a0 aT aE aG aR aN aS aQ aW aX cD cI th iw ih fa fb fd ib mk mn iq tT tE tG sR sN fS fQ tW tX mn (by omega) hw6 hh6 T (zRB iw T (zv fa) bx0 by0 bx1 bg ib) (zNB iw ih T (zv fb) bx0 by0 by1 bg ib) gT gR gN L (fun j hj => (hsh j hj).1) _) (cwV 1 (dr_words hts d0) gX5_makeAll_X5_make rfl rfl rfl (by decide +kernel) ⟨Nat.le_of_ble_eq_true rfl, Nat.le_of_ble_eq_true rfl⟩) ⟨zfbw, va_recv hK hP (ci := 5) (q0 := 0) rfl rfl, zprew hP hK hD⟩ rfl rfl hl.1 rfl (lv_room (Nat.le_of_ble_eq_true rfl)) dX5_makeAll_28 ⟨Nat.le_of_ble_eq_true rfl, Nat.le_of_ble_eq_true rfl⟩) hS (fun q _ h => hFc q h) hFc (fun r8 u9 t9 H1 locs ht9 hvm9 hr8 hB9 hz9 hk1 hS dhd10 hd10 => ?_)
          obtain ⟨o, ho2, hb8, hs8, hf8, hq8⟩ := hr8
          subst hb8
          obtain ⟨hP1, hK1, hD1⟩ := hB9
          rw [ht9] at hP1
          have hD := hD1.weaken (fun k q _ h => hFc q.1 h)
          have hP := hP1
          generalize H1 = H at hP hS ⊢
          have hP : va_P (dC, dI) vwCl (w5 a0 aT aE aG aR aN aS aQ aW aX cD cI th iw ih fa fb fd ib mk mn iq tT tE tG sR sN u9.1 u9.2 tW tX) H := hP
          have hD : va_D A (w5 a0 aT aE aG aR aN aS aQ aW aX cD cI th iw ih fa fb fd ib mk mn iq tT tE tG sR sN u9.1 u9.2 tW tX) := hD
          obtain ⟨gS, gQ⟩ := u9
          dsimp only at hs8 hf8 hq8
          have hP : va_P (dC, dI) vwCl (w5 a0 aT aE aG aR aN aS aQ aW aX cD cI th iw ih fa fb fd ib mk mn iq tT tE tG sR sN gS gQ tW tX) H := hP
          have hD : va_D A (w5 a0 aT aE aG aR aN aS aQ aW aX cD cI th iw ih fa fb fd ib mk mn iq tT tE tG sR sN gS gQ tW tX) := hD
          refine lv_istore_n (lv' := [(2, .int (zb o.isSome)), (0, .ref a0), (1, .int (nI n1))]) hx hb dX5_makeAll_31 rfl hl (by decide) rfl (fun ls hl => ?_)
          refine lv_aload_n hx hb dX5_makeAll_32 rfl (lv_at hl 1 rfl) ?_
          refine lv_iload_n hx hb dX5_makeAll_33 rfl (lv_at hl 0 rfl) ?_
          refine z_if_eq_b (tgt := 46) hx hb dX5_makeAll_34 (by decide) (fun c11 => ?_) (fun c12 => ?_)
          · skip
            have cb := c11
            refine lv_aload_n hx hb dX5_makeAll_46 rfl (lv_at hl 1 rfl) ?_
            refine va_get (D := (dC, dI)) (ci := 5) (v := .int (nI mn)) (C := RX5) (T := TX5) (N := 19) hx hb (dr_words hts dhd10) (in_X5_makeAll_X5) hown hK hP 0 rfl rfl 13 (by decide) (dr_words hts dhd10 (.fieldLink RX5 116 "PlateModesModel" "many" "I") (by decide +kernel)) (fun _ h9 => h9) rfl dX5_makeAll_47 ?_
            refine va_put (D := (dC, dI)) (ci := 5) (v := .int (nI mn)) (ty := .int) (C := RX5) (T := TX5) (N := 19) hx hb (dr_words hts dhd10) (in_X5_makeAll_X5) tyX5 tyX5_ok nmX5 hown hK hP hD hS 0 rfl rfl 13 (by decide) (dr_words hts dhd10 (.fieldLink RX5 116 "PlateModesModel" "many" "I") (by decide +kernel)) (fun _ h9 => h9) rfl (by decide +kernel) rfl rfl (Nat.le_of_ble_eq_true rfl) dX5_makeAll_50 (fun H locs hP hD hS => ?_)
            have hP : va_P (dC, dI) vwCl (w5 a0 aT aE aG aR aN aS aQ aW aX cD cI th iw ih fa fb fd ib mk mn iq tT tE tG sR sN gS gQ tW tX) H := hP
            have hD : va_D A (w5 a0 aT aE aG aR aN aS aQ aW aX cD cI th iw ih fa fb fd ib mk mn iq tT tE tG sR sN gS gQ tW tX) := hD
            refine lv_goto (tgt := 11) hx hb dX5_makeAll_53 (by decide) ?_
            exact ih_L_11 mn o.isSome L gS gQ _ _ _ _ (by rw [if_pos cg] at hn; rw [if_neg (by rw [cb]; decide)]; omega) (by omega) ho (zsh_keep hw6 hh6 hsh hf8 hq8) (fun _ => ⟨by omega, zshO_n ho (ho2.trans (Option.not_isSome_iff_eq_none.mp (by rw [cb]; decide)))⟩) hd10 hP hD hS hl
          · skip
            have cb := c12
            obtain ⟨F, hF⟩ := Option.isSome_iff_exists.mp cb
            refine lv_aload_n hx hb dX5_makeAll_37 rfl (lv_at hl 1 rfl) ?_
            refine va_get (D := (dC, dI)) (ci := 5) (v := .int (nI mn)) (C := RX5) (T := TX5) (N := 19) hx hb (dr_words hts dhd10) (in_X5_makeAll_X5) hown hK hP 0 rfl rfl 13 (by decide) (dr_words hts dhd10 (.fieldLink RX5 116 "PlateModesModel" "many" "I") (by decide +kernel)) (fun _ h9 => h9) rfl dX5_makeAll_38 ?_
            refine lv_iconst (v := (nI 1)) hx hb dX5_makeAll_41 (by decide) ?_
            refine t_iadd hx hb dX5_makeAll_42 (v := nI (mn + 1)) (zi_add (by omega)) ?_
            refine lv_goto (tgt := 50) hx hb dX5_makeAll_43 (by decide) ?_
            refine va_put (D := (dC, dI)) (ci := 5) (v := .int (nI (mn + 1))) (ty := .int) (C := RX5) (T := TX5) (N := 19) hx hb (dr_words hts dhd10) (in_X5_makeAll_X5) tyX5 tyX5_ok nmX5 hown hK hP hD hS 0 rfl rfl 13 (by decide) (dr_words hts dhd10 (.fieldLink RX5 116 "PlateModesModel" "many" "I") (by decide +kernel)) (fun _ h9 => h9) rfl (by decide +kernel) rfl rfl (Nat.le_of_ble_eq_true rfl) dX5_makeAll_50 (fun H locs hP hD hS => ?_)
            have hP : va_P (dC, dI) vwCl (w5 a0 aT aE aG aR aN aS aQ aW aX cD cI th iw ih fa fb fd ib mk (mn + 1) iq tT tE tG sR sN gS gQ tW tX) H := hP
            have hD : va_D A (w5 a0 aT aE aG aR aN aS aQ aW aX cD cI th iw ih fa fb fd ib mk (mn + 1) iq tT tE tG sR sN gS gQ tW tX) := hD
            refine lv_goto (tgt := 11) hx hb dX5_makeAll_53 (by decide) ?_
            exact ih_L_11 (mn + 1) o.isSome (zu L mn F) gS gQ _ _ _ _ (by rw [if_pos cg] at hn; rw [if_pos cb]; omega) (by omega) (zshO_s ho (ho2.trans hF)) (zsh_step hw6 hh6 hsh hf8 hq8 (hs8 F hF)) (fun h => absurd (h.symm.trans cb) (by decide)) hd10 hP hD hS hl
  exact L_11 _ 0 true (fun _ _ => z0) tS tQ _ _ _ _ (Nat.lt_succ_self _) (by omega) rfl (fun j hj => absurd hj (Nat.not_lt_zero j)) (fun h => absurd h (by decide)) hd3 hP hD hS hl
end
section
/-! 08: the face over data: which exception a call ends with (0: none), what it answers -/
abbrev c18 : ZD := zv 4593671619917905920
abbrev c8 : ZD := zv 4620693217682128896
abbrev c64 : ZD := zv 4634204016564240384
/-- there is no such cell; no such mode -/
abbrev zncl (iw ih : Nat) (x y : Int32) : Prop := x < 0 ∨ nI iw ≤ x ∨ y < 0 ∨ nI ih ≤ y
abbrev znmd (k : Int32) : Prop := k < 0 ∨ nI 4 ≤ k
def zbt (v a b : ZD) : Bool := zge v a && zle v b
def zn (x : Int32) : Nat := x.toNatClampNeg
theorem zn_nI {n : Nat} (h : n < 2 ^ 31) : zn (nI n) = n := nI_clamp h
def zmin (a b : Nat) : Nat := if a < b then a else b
def zmax (a b : Nat) : Nat := if a < b then b else a
theorem zcl_of {iw ih : Nat} (hw : iw ≤ 6) (hh : ih ≤ 6) {x y : Int32} (h : ¬ zncl iw ih x y) : ∃ xn yn : Nat, xn < iw ∧ yn < ih ∧ x = nI xn ∧ y = nI yn := by
  have h1 : ¬ x < 0 := fun q => h (Or.inl q)
  have h2 : ¬ nI iw ≤ x := fun q => h (Or.inr (Or.inl q))
  have h3 : ¬ y < 0 := fun q => h (Or.inr (Or.inr (Or.inl q)))
  have h4 : ¬ nI ih ≤ y := fun q => h (Or.inr (Or.inr (Or.inr q)))
  obtain ⟨xn, hx, rfl⟩ := nI_of h1
  obtain ⟨yn, hy, rfl⟩ := nI_of h3
  exact ⟨xn, yn, Nat.lt_of_not_le (fun q => h2 (nI_le q hx)), Nat.lt_of_not_le (fun q => h4 (nI_le q hy)), rfl, rfl⟩
theorem zmd_of {k : Int32} (h : ¬ znmd k) : ∃ kn : Nat, kn < 4 ∧ k = nI kn := by
  have h1 : ¬ k < 0 := fun q => h (Or.inl q)
  have h2 : ¬ nI 4 ≤ k := fun q => h (Or.inr q)
  obtain ⟨kn, hk, rfl⟩ := nI_of h1
  exact ⟨kn, Nat.lt_of_not_le (fun q => h2 (nI_le q hk)), rfl⟩
def zcW (iw ih : Nat) (x y : Int32) (v : ZD) : Nat := if zncl iw ih x y then 1 else if (zeq v z0 || zbt v c18 c8) = true then 0 else 2
def zcR (a b d : ZD) : Nat := if (zbt a c18 c8 && zbt b c18 c8 && zbt d c18 c8) = true then 0 else 1
abbrev zline2 (x0 y0 x1 y1 : Int32) : Prop := (x0 = x1 ∧ ¬ y0 = y1) ∨ (¬ x0 = x1 ∧ y0 = y1)
def zcB (iw ih nb : Nat) (x0 y0 x1 y1 : Int32) (g : ZD) : Nat := if zncl iw ih x0 y0 ∨ zncl iw ih x1 y1 then 1 else if ¬ zline2 x0 y0 x1 y1 ∨ zbt g c18 c8 = false then 2 else if nb = 12 then 3 else 0
def zcMs (n : Int32) : Nat := if n < nI 1 ∨ nI 4 < n then 1 else 0
/-- a mode among M: 1 if what else is asked isn't there, 2 (or 3) if she isn't -/
def zckM (there : Bool) (M : Nat) (k : Int32) : Nat := if there = false then 1 else if k < nI M then 0 else 2
def zcC (M : Nat) (k : Int32) (q g : ZD) : Nat := if znmd k then 1 else if (zbt q z0 c8 && zbt g z0 c8) = false then 2 else if k < nI M then 0 else 3
def zcT (iw ih M : Nat) (k x y : Int32) (v : ZD) : Nat := if znmd k ∨ zncl iw ih x y then 1 else if zbt v z0 c64 = false then 2 else if k < nI M then 0 else 3
def zcWt (nq : Nat) (k : Int32) (v : ZD) : Nat := if znmd k then 1 else if zbt v z0 c64 = false then 2 else if nq = 4 then 3 else 0
def zcTh1 (st lo : ZD) : Bool := zbt st c18 z1 && zbt lo c18 c8
def zcS (nq M need : Nat) : Nat := if 0 < nq ∧ need ≤ M then 0 else 1
/-- how many modes stand -/
def zmks (mk : Bool) (im : Nat) : Nat := if mk = true then im else 0
theorem zmks_t {im : Nat} : zmks true im = im := rfl
theorem zmks_f {im : Nat} : zmks false im = 0 := rfl
theorem zmks_lt {mk : Bool} {im k : Nat} (h : k < zmks mk im) : mk = true ∧ k < im := by
  cases mk
  · exact absurd h (Nat.not_lt_zero _)
  · exact ⟨rfl, h⟩
theorem zcp (c : Prop) [Decidable c] : (zp c = 0 → ¬ c) ∧ (¬ zp c = 0 → c) := by
  unfold zp
  by_cases h : c
  · rw [if_pos h]; exact ⟨fun q => absurd q (by decide), fun _ => h⟩
  · rw [if_neg h]; exact ⟨fun _ => h, fun q => absurd rfl q⟩
section ZP
variable {p : Program} {l : Launch} {e : Env} {R : Room} {s : State} {m : MethodId} {args : Array Value} {below : List Frame} {meth : Method} {c : Code} {H : Heap} {locs : List Loc} {cells slots : Nat} {Q : State → Prop}
variable {cc : ByteArray} {pc : Nat} {ls : Array Slot} {rest : List Value}
theorem z_if_eq_p (hx : p.tables.exec = Jvm.exec) (hb : c.code = cc) (v : Prop) [Decidable v] {off : Int} {tgt : Nat} (hdg : decode cc pc = .ok (.ifCond .eq off, 3)) (ht : (pc : Int) + off = (tgt : Int))
    (kt : ¬ v → W p l e R s m args below meth c H locs cells slots Q (F0 m tgt ls rest)) (kf : v → W p l e R s m args below meth c H locs cells slots Q (F0 m (pc + 3) ls rest)) : W p l e R s m args below meth c H locs cells slots Q (F0 m pc ls (.int (zp v) :: rest)) :=
  lv_if_eq hx hb hdg ht (fun h => kt ((zcp v).1 h)) (fun h => kf ((zcp v).2 h))
theorem z_if_ne_p (hx : p.tables.exec = Jvm.exec) (hb : c.code = cc) (v : Prop) [Decidable v] {off : Int} {tgt : Nat} (hdg : decode cc pc = .ok (.ifCond .ne off, 3)) (ht : (pc : Int) + off = (tgt : Int))
    (kt : v → W p l e R s m args below meth c H locs cells slots Q (F0 m tgt ls rest)) (kf : ¬ v → W p l e R s m args below meth c H locs cells slots Q (F0 m (pc + 3) ls rest)) : W p l e R s m args below meth c H locs cells slots Q (F0 m pc ls (.int (zp v) :: rest)) :=
  lv_if_ne hx hb hdg ht (fun h => kt ((zcp v).2 h)) (fun h => kf ((zcp v).1 h))
end ZP
/-- a square, as the reference reckons it -/
def zSQ (w h : Nat) (T R N : Nat → ZD) (de : ZD) (j : Nat) : ZD := zS z0 (zsq w h T R N (zshp w h T R N de j) (w * h))
/-- the reference's modes stand, where they are made -/
def q5m (iw ih : Nat) (mk : Bool) (im : Nat) (tR tN tS tQ : Nat → UInt64) (T R N : Nat → ZD) (de : ZD) : Prop := im ≤ 4 ∧ (mk = true → zgr tR iw ih R ∧ zgr tN iw ih N ∧ zcnt iw ih T R N de im = im ∧ ∀ j, j < im → zgs tS j iw ih (zshp iw ih T R N de j) ∧ zv (tQ j) = zSQ iw ih T R N de j)
theorem q5m_f {iw ih im : Nat} {tR tN tS tQ : Nat → UInt64} {T R N : Nat → ZD} {de : ZD} (h : im ≤ 4) : q5m iw ih false im tR tN tS tQ T R N de := ⟨h, fun q => absurd q (by decide)⟩
end
section
/-! 09: the reference: its face -/
theorem in_X5_thrown_X5 : ∀ w ∈ wsX50, w ∈ wsX5_thrown := fun w h => List.mem_cons_of_mem _ (List.mem_append_right _ h)
set_option maxHeartbeats 4000000 in
set_option maxRecDepth 100000 in
/-- thrown() -/
theorem c5_thrown (l : Launch) (dC : Nat → ClassId) (dI : Nat → Nat → Nat) (a0 aT aE aG aR aN aS aQ aW aX : Nat) (cD cI : ClassId) (th : Int32) (iw ih : Nat) (fa fb fd : UInt64) (ib : Nat) (mk : Bool) (im iq : Nat) (tT : Nat → UInt64) (tE : Nat → Int32) (tG tR tN tS tQ : Nat → UInt64) (tW : Nat → Int32) (tX : Nat → UInt64) : Met l yX5_thrown wsX5_thrown ({ frames := 0, cells := 0, slots := 0, locals := 0 } : Room) (va_Pc [.ref a0] (fun U => va_P (dC, dI) vwCl (w5 a0 aT aE aG aR aN aS aQ aW aX cD cI th iw ih fa fb fd ib mk im iq tT tE tG tR tN tS tQ tW tX) U.heap ∧ va_K (dC, dI) vwCl [(cD, .double), (cI, .int)] U)) (va_Qi (fun (r : Int32) (_ : Unit) => r = th) (fun _ _ => True) (fun _ => False)) 0 0 (fun _ => False) := by
  refine Met.ofW (cc := cX5_thrown) (maxL := 1) (ret := (some .int)) (by decide) rfl ?_
  intro p e s m args below meth c s₁ B hml hv
  obtain ⟨rfl, hP0, hK⟩ := hv
  have hx := B.exec
  have hb := B.bytes
  have hr := B.returns
  have hts := atoms_spec (ws := wsX5_thrown) B.pre
  have hown : s.vm.findClass RX5 = some m.cls := findClass_of_methodNamed B.named
  have hlocks := B.notSynchronized
  have hS : va_S (fun _ => False) s.heap s.heap [] := va_S.rf
  have hP := hP0
  have hl := lv_entry ([.ref a0]) (n := 1) (Nat.le_of_ble_eq_true rfl)
  rw [lg_entry_eq]
  generalize (lg_sl ([.ref a0]) ++ List.replicate (1 - (lg_sl ([.ref a0])).length) Slot.unset).toArray = ls at hl ⊢
  have hl : lv_has ls 1 [(0, .ref a0)] := hl
  refine lv_aload_n hx hb dX5_thrown_0 rfl (lv_at hl 0 rfl) ?_
  refine va_get (D := (dC, dI)) (ci := 5) (v := .int th) (C := RX5) (T := TX5) (N := 19) hx hb hts (in_X5_thrown_X5) hown hK hP 0 rfl rfl 0 (by decide) (hts (.fieldLink RX5 55 "PlateModesModel" "thrown" "I") (by decide +kernel)) (fun _ h9 => h9) rfl dX5_thrown_1 ?_
  exact W.iret (v := th) hx hb hr (fun t ht hW => ⟨⟨th, (), rfl, ⟨rfl, trivial⟩⟩, hS.F ht⟩) hS.2.2 dX5_thrown_4
theorem in_X5_wood_X5 : ∀ w ∈ wsX50, w ∈ wsX5_wood := fun w h => List.mem_cons_of_mem _ (List.mem_append_right _ h)
set_option maxHeartbeats 4000000 in
set_option maxRecDepth 100000 in
/-- wood -/
theorem c5_wood (l : Launch) (dC : Nat → ClassId) (dI : Nat → Nat → Nat) (a0 aT aE aG aR aN aS aQ aW aX : Nat) (cD cI : ClassId) (th : Int32) (iw ih : Nat) (fa fb fd : UInt64) (ib : Nat) (mk : Bool) (im iq : Nat) (tT : Nat → UInt64) (tE : Nat → Int32) (tG tR tN tS tQ : Nat → UInt64) (tW : Nat → Int32) (tX : Nat → UInt64) (x y : Int32) (v : UInt64) (hw6 : iw ≤ 6) (hh6 : ih ≤ 6) (sz : Nat) : Met l yX5_wood wsX5_wood ({ frames := 1, cells := 0, slots := 0, locals := 25 } : Room) (va_Pc [.ref a0, .int x, .int y, .double v] (fun U => U.heap.size = sz ∧ va_P (dC, dI) vwCl (w5 a0 aT aE aG aR aN aS aQ aW aX cD cI th iw ih fa fb fd ib mk im iq tT tE tG tR tN tS tQ tW tX) U.heap ∧ va_K (dC, dI) vwCl [(cD, .double), (cI, .int)] U ∧ va_D (fun _ => True) (w5 a0 aT aE aG aR aN aS aQ aW aX cD cI th iw ih fa fb fd ib mk im iq tT tE tG tR tN tS tQ tW tX))) (va_Qi (fun (r : Int32) (u : Int32 × (Nat → UInt64) × Bool) => u.1 = nI (zcW iw ih x y (zv v)) ∧ (zcW iw ih x y (zv v) = 0 → r = zb (!zeq (zv (tT (6 * zn y + zn x))) (zv v)) ∧ u.2.1 = zu tT (6 * zn y + zn x) v ∧ u.2.2 = (mk && !(!zeq (zv (tT (6 * zn y + zn x))) (zv v)))) ∧ (¬ zcW iw ih x y (zv v) = 0 → u.2.1 = tT ∧ u.2.2 = mk)) (fun u t => (va_P (dC, dI) vwCl (w5 a0 aT aE aG aR aN aS aQ aW aX cD cI u.1 iw ih fa fb fd ib u.2.2 im iq u.2.1 tE tG tR tN tS tQ tW tX) t.heap ∧ va_K (dC, dI) vwCl [(cD, .double), (cI, .int)] t ∧ va_D (va_A (w5 a0 aT aE aG aR aN aS aQ aW aX cD cI th iw ih fa fb fd ib mk im iq tT tE tG tR tN tS tQ tW tX) sz) (w5 a0 aT aE aG aR aN aS aQ aW aX cD cI u.1 iw ih fa fb fd ib u.2.2 im iq u.2.1 tE tG tR tN tS tQ tW tX))) (va_A (w5 a0 aT aE aG aR aN aS aQ aW aX cD cI th iw ih fa fb fd ib mk im iq tT tE tG tR tN tS tQ tW tX) sz)) 0 0 (va_A (w5 a0 aT aE aG aR aN aS aQ aW aX cD cI th iw ih fa fb fd ib mk im iq tT tE tG tR tN tS tQ tW tX) sz) := by
  refine Met.ofW (cc := cX5_wood) (maxL := 6) (ret := (some .boolean)) (by decide) rfl ?_
  intro p e s m args below meth c s₁ B hml hv
  obtain ⟨rfl, hsz, hP, hK, hD0⟩ := hv
  have hx := B.exec
  have hb := B.bytes
  have hr := B.returns
  have hts := atoms_spec (ws := wsX5_wood) B.pre
  have hown : s.vm.findClass RX5 = some m.cls := findClass_of_methodNamed B.named
  have hlocks := B.notSynchronized
  subst hsz
  have hD := hD0.self (sz := s.heap.size)
  generalize hAe : va_A (w5 a0 aT aE aG aR aN aS aQ aW aX cD cI th iw ih fa fb fd ib mk im iq tT tE tG tR tN tS tQ tW tX) s.heap.size = A at hD ⊢
  have hA : ∀ q : Nat, s.heap.size ≤ q → A q := fun q h => by rw [← hAe]; exact Or.inr h
  have hS : va_S A s.heap s.heap [] := va_S.rf
  have hl := lv_entry ([.ref a0, .int x, .int y, .double v]) (n := 6) (Nat.le_of_ble_eq_true rfl)
  rw [lg_entry_eq]
  generalize (lg_sl ([.ref a0, .int x, .int y, .double v]) ++ List.replicate (6 - (lg_sl ([.ref a0, .int x, .int y, .double v])).length) Slot.unset).toArray = ls at hl ⊢
  have hl : lv_has ls 6 [(0, .ref a0), (1, .int x), (2, .int y), (3, .double v)] := hl
  refine lv_aload_n hx hb dX5_wood_0 rfl (lv_at hl 0 rfl) ?_
  refine lv_aload_n hx hb dX5_wood_1 rfl (lv_at hl 0 rfl) ?_
  refine lv_iload_n hx hb dX5_wood_2 rfl (lv_at hl 1 rfl) ?_
  refine lv_iload_n hx hb dX5_wood_3 rfl (lv_at hl 2 rfl) ?_
  have hPc := hP
  refine va_calli (va_runV (As := [.int x, .int y]) (rest := [.ref a0]) ⟨hx, hb, hml, hown, hts⟩ (c5_noCell l dC dI a0 aT aE aG aR aN aS aQ aW aX cD cI th iw ih fa fb fd ib mk im iq tT tE tG tR tN tS tQ tW tX x y) (cwV 2 hts gX5_wood_X5_noCell rfl rfl rfl (by decide +kernel) ⟨Nat.le_of_ble_eq_true rfl, Nat.le_of_ble_eq_true rfl⟩) ⟨zfb, va_recv hK hP (ci := 5) (q0 := 0) rfl rfl, zpre hPc hK⟩ rfl rfl hl.1 rfl (lv_room (Nat.le_of_ble_eq_true rfl)) dX5_wood_4 ⟨Nat.le_of_ble_eq_true rfl, Nat.le_of_ble_eq_true rfl⟩) hS (fun q _ h => h.elim) (fun q h => h.elim) (fun r1 u9 t9 H locs ht9 hvm9 hr1 hB9 hz9 hk1 hS => ?_)
  have hP := zro1 hP hk1
  subst hr1
  refine z_if_eq_p (tgt := 14) hx hb (zncl iw ih x y) dX5_wood_7 (by decide) (fun c2 => ?_) (fun c3 => ?_)
  · skip
    have c_7 := c2
    obtain ⟨xn, yn, hxw, hyh, rfl, rfl⟩ := zcl_of hw6 hh6 c2
    refine lv_dload_n hx hb dX5_wood_14 rfl (lv_at hl 3 rfl) ?_
    refine lv_dconst0 hx hb dX5_wood_15 ?_
    refine z_cmp_l_eq (tgt := 33) hx hb (a := zv v) (b := z0) rfl rfl dX5_wood_16 dX5_wood_17 (by decide) (fun c4 => ?_) (fun c5 => ?_)
    · skip
      have c_16 := c4
      refine lv_iconst (v := (nI 0)) hx hb dX5_wood_33 (by decide) ?_
      refine lv_goto (tgt := 38) hx hb dX5_wood_34 (by decide) ?_
      refine va_put (D := (dC, dI)) (ci := 5) (v := .int (nI 0)) (ty := .int) (C := RX5) (T := TX5) (N := 19) hx hb hts (in_X5_wood_X5) tyX5 tyX5_ok nmX5 hown hK hP hD hS 0 rfl rfl 0 (by decide) (hts (.fieldLink RX5 55 "PlateModesModel" "thrown" "I") (by decide +kernel)) (fun _ h9 => h9) rfl (by decide +kernel) rfl rfl (Nat.le_of_ble_eq_true rfl) dX5_wood_38 (fun H locs hP hD hS => ?_)
      have hP : va_P (dC, dI) vwCl (w5 a0 aT aE aG aR aN aS aQ aW aX cD cI (nI 0) iw ih fa fb fd ib mk im iq tT tE tG tR tN tS tQ tW tX) H := hP
      have hD : va_D A (w5 a0 aT aE aG aR aN aS aQ aW aX cD cI (nI 0) iw ih fa fb fd ib mk im iq tT tE tG tR tN tS tQ tW tX) := hD
      refine lv_aload_n hx hb dX5_wood_41 rfl (lv_at hl 0 rfl) ?_
      refine va_get (D := (dC, dI)) (ci := 5) (v := .int (nI 0)) (C := RX5) (T := TX5) (N := 19) hx hb hts (in_X5_wood_X5) hown hK hP 0 rfl rfl 0 (by decide) (hts (.fieldLink RX5 55 "PlateModesModel" "thrown" "I") (by decide +kernel)) (fun _ h9 => h9) rfl dX5_wood_42 ?_
      refine z_if_le (tgt := 50) hx hb (by omega) dX5_wood_45 (by decide) (fun c6 => ?_) (fun c7 => ?_)
      · skip
        refine lv_aload_n hx hb dX5_wood_50 rfl (lv_at hl 0 rfl) ?_
        refine va_get (D := (dC, dI)) (ci := 5) (v := .ref aT) (C := RX5) (T := TX5) (N := 19) hx hb hts (in_X5_wood_X5) hown hK hP 0 rfl rfl 3 (by decide) (hts (.fieldLink RX5 7 "PlateModesModel" "thicks" "[D") (by decide +kernel)) (fun _ h9 => h9) rfl dX5_wood_51 ?_
        refine lv_bipush (v := (nI 6)) hx hb dX5_wood_54 (by decide) ?_
        refine lv_iload_n hx hb dX5_wood_56 rfl (lv_at hl 2 rfl) ?_
        refine t_imul hx hb dX5_wood_57 (v := nI (6 * yn)) (zi_mul rfl) ?_
        refine lv_iload_n hx hb dX5_wood_58 rfl (lv_at hl 1 rfl) ?_
        refine t_iadd hx hb dX5_wood_59 (v := nI (6 * yn + xn)) (zi_add (by omega)) ?_
        refine z_dald (n := 36) (i := 6 * yn + xn) hx hb hK hP 1 0 rfl rfl (by omega) (by decide) dX5_wood_60 ?_
        refine lv_dload_n hx hb dX5_wood_61 rfl (lv_at hl 3 rfl) ?_
        refine z_cmp_l_eq (tgt := 70) hx hb (a := zv (tT (6 * yn + xn))) (b := zv v) rfl rfl dX5_wood_62 dX5_wood_63 (by decide) (fun c8 => ?_) (fun c9 => ?_)
        · skip
          have c_62 := c8
          refine lv_iconst (v := (nI 0)) hx hb dX5_wood_70 (by decide) ?_
          refine lv_istore (lv' := [(5, .int (nI 0)), (0, .ref a0), (1, .int (nI xn)), (2, .int (nI yn)), (3, .double v)]) hx hb dX5_wood_71 hl (by decide) rfl (fun ls hl => ?_)
          refine lv_aload_n hx hb dX5_wood_73 rfl (lv_at hl 1 rfl) ?_
          refine va_get (D := (dC, dI)) (ci := 5) (v := .ref aT) (C := RX5) (T := TX5) (N := 19) hx hb hts (in_X5_wood_X5) hown hK hP 0 rfl rfl 3 (by decide) (hts (.fieldLink RX5 7 "PlateModesModel" "thicks" "[D") (by decide +kernel)) (fun _ h9 => h9) rfl dX5_wood_74 ?_
          refine lv_bipush (v := (nI 6)) hx hb dX5_wood_77 (by decide) ?_
          refine lv_iload_n hx hb dX5_wood_79 rfl (lv_at hl 3 rfl) ?_
          refine t_imul hx hb dX5_wood_80 (v := nI (6 * yn)) (zi_mul rfl) ?_
          refine lv_iload_n hx hb dX5_wood_81 rfl (lv_at hl 2 rfl) ?_
          refine t_iadd hx hb dX5_wood_82 (v := nI (6 * yn + xn)) (zi_add (by omega)) ?_
          refine lv_dload_n hx hb dX5_wood_83 rfl (lv_at hl 4 rfl) ?_
          refine z_dast (n := 36) (i := 6 * yn + xn) hx hb hK hP hD hS 1 0 rfl rfl (by omega) (by decide) dX5_wood_84 (fun H locs hP hD hS => ?_)
          have hP : va_P (dC, dI) vwCl (w5 a0 aT aE aG aR aN aS aQ aW aX cD cI (nI 0) iw ih fa fb fd ib mk im iq (zu tT (6 * yn + xn) v) tE tG tR tN tS tQ tW tX) H := hP
          have hD : va_D A (w5 a0 aT aE aG aR aN aS aQ aW aX cD cI (nI 0) iw ih fa fb fd ib mk im iq (zu tT (6 * yn + xn) v) tE tG tR tN tS tQ tW tX) := hD
          refine lv_aload_n hx hb dX5_wood_85 rfl (lv_at hl 1 rfl) ?_
          refine lv_aload_n hx hb dX5_wood_86 rfl (lv_at hl 1 rfl) ?_
          refine va_get (D := (dC, dI)) (ci := 5) (v := .int (zb mk)) (C := RX5) (T := TX5) (N := 19) hx hb hts (in_X5_wood_X5) hown hK hP 0 rfl rfl 12 (by decide) (hts (.fieldLink RX5 72 "PlateModesModel" "made" "Z") (by decide +kernel)) (fun _ h9 => h9) rfl dX5_wood_87 ?_
          refine z_if_eq_b (tgt := 102) hx hb dX5_wood_90 (by decide) (fun c10 => ?_) (fun c11 => ?_)
          · skip
            have c_90 := c10
            refine lv_iconst (v := (nI 0)) hx hb dX5_wood_102 (by decide) ?_
            refine va_put (D := (dC, dI)) (ci := 5) (v := .int (zb false)) (ty := .boolean) (C := RX5) (T := TX5) (N := 19) hx hb hts (in_X5_wood_X5) tyX5 tyX5_ok nmX5 hown hK hP hD hS 0 rfl rfl 12 (by decide) (hts (.fieldLink RX5 72 "PlateModesModel" "made" "Z") (by decide +kernel)) (fun _ h9 => h9) rfl (by decide +kernel) rfl rfl (Nat.le_of_ble_eq_true rfl) dX5_wood_103 (fun H locs hP hD hS => ?_)
            have hP : va_P (dC, dI) vwCl (w5 a0 aT aE aG aR aN aS aQ aW aX cD cI (nI 0) iw ih fa fb fd ib false im iq (zu tT (6 * yn + xn) v) tE tG tR tN tS tQ tW tX) H := hP
            have hD : va_D A (w5 a0 aT aE aG aR aN aS aQ aW aX cD cI (nI 0) iw ih fa fb fd ib false im iq (zu tT (6 * yn + xn) v) tE tG tR tN tS tQ tW tX) := hD
            refine lv_iload hx hb dX5_wood_106 (lv_at hl 0 rfl) ?_
            exact W.zret (v := (nI 0)) hx hb hr rfl (fun t ht hW => ⟨⟨(nI 0), ((nI 0), zu tT (6 * yn + xn) v, false), rfl, ⟨congrArg nI ((if_neg c_7).trans (if_pos (by first | (rw [c_16]; rfl) | (rw [c_16, c_30]; rfl)))).symm, fun _ => by rw [zn_nI (by omega), zn_nI (by omega), c_62]; exact ⟨by first | rfl | (rw [c_90]; rfl), rfl, by first | rfl | (rw [c_90]; rfl)⟩, fun h => absurd ((if_neg c_7).trans (if_pos (by first | (rw [c_16]; rfl) | (rw [c_16, c_30]; rfl)))) h⟩, by rw [ht]; exact hP, va_K.moved hW.alike hK, hD⟩, hS.F ht⟩) hS.2.2 dX5_wood_108
          · skip
            have c_90 := c11
            refine lv_iload hx hb dX5_wood_93 (lv_at hl 0 rfl) ?_
            refine z_if_ne (tgt := 102) hx hb (by omega) dX5_wood_95 (by decide) (fun c12 => ?_) (fun c13 => ?_)
            · skip
              have c_95 := c12
              exact absurd c12 (by decide)
            · skip
              have c_95 := c13
              refine lv_iconst (v := (nI 1)) hx hb dX5_wood_98 (by decide) ?_
              refine lv_goto (tgt := 103) hx hb dX5_wood_99 (by decide) ?_
              refine va_put (D := (dC, dI)) (ci := 5) (v := .int (zb true)) (ty := .boolean) (C := RX5) (T := TX5) (N := 19) hx hb hts (in_X5_wood_X5) tyX5 tyX5_ok nmX5 hown hK hP hD hS 0 rfl rfl 12 (by decide) (hts (.fieldLink RX5 72 "PlateModesModel" "made" "Z") (by decide +kernel)) (fun _ h9 => h9) rfl (by decide +kernel) rfl rfl (Nat.le_of_ble_eq_true rfl) dX5_wood_103 (fun H locs hP hD hS => ?_)
              have hP : va_P (dC, dI) vwCl (w5 a0 aT aE aG aR aN aS aQ aW aX cD cI (nI 0) iw ih fa fb fd ib true im iq (zu tT (6 * yn + xn) v) tE tG tR tN tS tQ tW tX) H := hP
              have hD : va_D A (w5 a0 aT aE aG aR aN aS aQ aW aX cD cI (nI 0) iw ih fa fb fd ib true im iq (zu tT (6 * yn + xn) v) tE tG tR tN tS tQ tW tX) := hD
              refine lv_iload hx hb dX5_wood_106 (lv_at hl 0 rfl) ?_
              exact W.zret (v := (nI 0)) hx hb hr rfl (fun t ht hW => ⟨⟨(nI 0), ((nI 0), zu tT (6 * yn + xn) v, true), rfl, ⟨congrArg nI ((if_neg c_7).trans (if_pos (by first | (rw [c_16]; rfl) | (rw [c_16, c_30]; rfl)))).symm, fun _ => by rw [zn_nI (by omega), zn_nI (by omega), c_62]; exact ⟨by first | rfl | (rw [c_90]; rfl), rfl, by first | rfl | (rw [c_90]; rfl)⟩, fun h => absurd ((if_neg c_7).trans (if_pos (by first | (rw [c_16]; rfl) | (rw [c_16, c_30]; rfl)))) h⟩, by rw [ht]; exact hP, va_K.moved hW.alike hK, hD⟩, hS.F ht⟩) hS.2.2 dX5_wood_108
        · skip
          have c_62 := c9
          refine lv_iconst (v := (nI 1)) hx hb dX5_wood_66 (by decide) ?_
          refine lv_goto (tgt := 71) hx hb dX5_wood_67 (by decide) ?_
          refine lv_istore (lv' := [(5, .int (nI 1)), (0, .ref a0), (1, .int (nI xn)), (2, .int (nI yn)), (3, .double v)]) hx hb dX5_wood_71 hl (by decide) rfl (fun ls hl => ?_)
          refine lv_aload_n hx hb dX5_wood_73 rfl (lv_at hl 1 rfl) ?_
          refine va_get (D := (dC, dI)) (ci := 5) (v := .ref aT) (C := RX5) (T := TX5) (N := 19) hx hb hts (in_X5_wood_X5) hown hK hP 0 rfl rfl 3 (by decide) (hts (.fieldLink RX5 7 "PlateModesModel" "thicks" "[D") (by decide +kernel)) (fun _ h9 => h9) rfl dX5_wood_74 ?_
          refine lv_bipush (v := (nI 6)) hx hb dX5_wood_77 (by decide) ?_
          refine lv_iload_n hx hb dX5_wood_79 rfl (lv_at hl 3 rfl) ?_
          refine t_imul hx hb dX5_wood_80 (v := nI (6 * yn)) (zi_mul rfl) ?_
          refine lv_iload_n hx hb dX5_wood_81 rfl (lv_at hl 2 rfl) ?_
          refine t_iadd hx hb dX5_wood_82 (v := nI (6 * yn + xn)) (zi_add (by omega)) ?_
          refine lv_dload_n hx hb dX5_wood_83 rfl (lv_at hl 4 rfl) ?_
          refine z_dast (n := 36) (i := 6 * yn + xn) hx hb hK hP hD hS 1 0 rfl rfl (by omega) (by decide) dX5_wood_84 (fun H locs hP hD hS => ?_)
          have hP : va_P (dC, dI) vwCl (w5 a0 aT aE aG aR aN aS aQ aW aX cD cI (nI 0) iw ih fa fb fd ib mk im iq (zu tT (6 * yn + xn) v) tE tG tR tN tS tQ tW tX) H := hP
          have hD : va_D A (w5 a0 aT aE aG aR aN aS aQ aW aX cD cI (nI 0) iw ih fa fb fd ib mk im iq (zu tT (6 * yn + xn) v) tE tG tR tN tS tQ tW tX) := hD
          refine lv_aload_n hx hb dX5_wood_85 rfl (lv_at hl 1 rfl) ?_
          refine lv_aload_n hx hb dX5_wood_86 rfl (lv_at hl 1 rfl) ?_
          refine va_get (D := (dC, dI)) (ci := 5) (v := .int (zb mk)) (C := RX5) (T := TX5) (N := 19) hx hb hts (in_X5_wood_X5) hown hK hP 0 rfl rfl 12 (by decide) (hts (.fieldLink RX5 72 "PlateModesModel" "made" "Z") (by decide +kernel)) (fun _ h9 => h9) rfl dX5_wood_87 ?_
          refine z_if_eq_b (tgt := 102) hx hb dX5_wood_90 (by decide) (fun c14 => ?_) (fun c15 => ?_)
          · skip
            have c_90 := c14
            refine lv_iconst (v := (nI 0)) hx hb dX5_wood_102 (by decide) ?_
            refine va_put (D := (dC, dI)) (ci := 5) (v := .int (zb false)) (ty := .boolean) (C := RX5) (T := TX5) (N := 19) hx hb hts (in_X5_wood_X5) tyX5 tyX5_ok nmX5 hown hK hP hD hS 0 rfl rfl 12 (by decide) (hts (.fieldLink RX5 72 "PlateModesModel" "made" "Z") (by decide +kernel)) (fun _ h9 => h9) rfl (by decide +kernel) rfl rfl (Nat.le_of_ble_eq_true rfl) dX5_wood_103 (fun H locs hP hD hS => ?_)
            have hP : va_P (dC, dI) vwCl (w5 a0 aT aE aG aR aN aS aQ aW aX cD cI (nI 0) iw ih fa fb fd ib false im iq (zu tT (6 * yn + xn) v) tE tG tR tN tS tQ tW tX) H := hP
            have hD : va_D A (w5 a0 aT aE aG aR aN aS aQ aW aX cD cI (nI 0) iw ih fa fb fd ib false im iq (zu tT (6 * yn + xn) v) tE tG tR tN tS tQ tW tX) := hD
            refine lv_iload hx hb dX5_wood_106 (lv_at hl 0 rfl) ?_
            exact W.zret (v := (nI 1)) hx hb hr rfl (fun t ht hW => ⟨⟨(nI 1), ((nI 0), zu tT (6 * yn + xn) v, false), rfl, ⟨congrArg nI ((if_neg c_7).trans (if_pos (by first | (rw [c_16]; rfl) | (rw [c_16, c_30]; rfl)))).symm, fun _ => by rw [zn_nI (by omega), zn_nI (by omega), c_62]; exact ⟨by first | rfl | (rw [c_90]; rfl), rfl, by first | rfl | (rw [c_90]; rfl)⟩, fun h => absurd ((if_neg c_7).trans (if_pos (by first | (rw [c_16]; rfl) | (rw [c_16, c_30]; rfl)))) h⟩, by rw [ht]; exact hP, va_K.moved hW.alike hK, hD⟩, hS.F ht⟩) hS.2.2 dX5_wood_108
          · skip
            have c_90 := c15
            refine lv_iload hx hb dX5_wood_93 (lv_at hl 0 rfl) ?_
            refine z_if_ne (tgt := 102) hx hb (by omega) dX5_wood_95 (by decide) (fun c16 => ?_) (fun c17 => ?_)
            · skip
              have c_95 := c16
              refine lv_iconst (v := (nI 0)) hx hb dX5_wood_102 (by decide) ?_
              refine va_put (D := (dC, dI)) (ci := 5) (v := .int (zb false)) (ty := .boolean) (C := RX5) (T := TX5) (N := 19) hx hb hts (in_X5_wood_X5) tyX5 tyX5_ok nmX5 hown hK hP hD hS 0 rfl rfl 12 (by decide) (hts (.fieldLink RX5 72 "PlateModesModel" "made" "Z") (by decide +kernel)) (fun _ h9 => h9) rfl (by decide +kernel) rfl rfl (Nat.le_of_ble_eq_true rfl) dX5_wood_103 (fun H locs hP hD hS => ?_)
              have hP : va_P (dC, dI) vwCl (w5 a0 aT aE aG aR aN aS aQ aW aX cD cI (nI 0) iw ih fa fb fd ib false im iq (zu tT (6 * yn + xn) v) tE tG tR tN tS tQ tW tX) H := hP
              have hD : va_D A (w5 a0 aT aE aG aR aN aS aQ aW aX cD cI (nI 0) iw ih fa fb fd ib false im iq (zu tT (6 * yn + xn) v) tE tG tR tN tS tQ tW tX) := hD
              refine lv_iload hx hb dX5_wood_106 (lv_at hl 0 rfl) ?_
              exact W.zret (v := (nI 1)) hx hb hr rfl (fun t ht hW => ⟨⟨(nI 1), ((nI 0), zu tT (6 * yn + xn) v, false), rfl, ⟨congrArg nI ((if_neg c_7).trans (if_pos (by first | (rw [c_16]; rfl) | (rw [c_16, c_30]; rfl)))).symm, fun _ => by rw [zn_nI (by omega), zn_nI (by omega), c_62]; exact ⟨by first | rfl | (rw [c_90]; rfl), rfl, by first | rfl | (rw [c_90]; rfl)⟩, fun h => absurd ((if_neg c_7).trans (if_pos (by first | (rw [c_16]; rfl) | (rw [c_16, c_30]; rfl)))) h⟩, by rw [ht]; exact hP, va_K.moved hW.alike hK, hD⟩, hS.F ht⟩) hS.2.2 dX5_wood_108
            · skip
              have c_95 := c17
              exact absurd c17 (by decide)
      · skip
        exact absurd c7 (by decide)
    · skip
      have c_16 := c5
      refine lv_dload_n hx hb dX5_wood_20 rfl (lv_at hl 3 rfl) ?_
      refine lv_ldc2d (v := 4593671619917905920) hx hb hown (hts (.constantDouble RX5 64 (4593671619917905920)) (by decide +kernel)) dX5_wood_21 ?_
      refine lv_ldc2d (v := 4620693217682128896) hx hb hown (hts (.constantDouble RX5 66 (4620693217682128896)) (by decide +kernel)) dX5_wood_24 ?_
      refine va_calli (va_runS (As := [.double v, .double 4593671619917905920, .double 4620693217682128896]) (rest := [.ref a0]) ⟨hx, hb, hml, hown, hts⟩ (c5_between l v 4593671619917905920 4620693217682128896) (va_cwS 3 hts gX5_wood_X5_between rfl rfl rfl (by decide +kernel) ⟨Nat.le_of_ble_eq_true rfl, Nat.le_of_ble_eq_true rfl⟩) ⟨zfb0, zpre0⟩ rfl rfl hl.1 rfl (lv_room (Nat.le_of_ble_eq_true rfl)) dX5_wood_27 ⟨Nat.le_of_ble_eq_true rfl, Nat.le_of_ble_eq_true rfl⟩) hS (fun q _ h => h.elim) (fun q h => h.elim) (fun r18 u9 t9 H locs ht9 hvm9 hr18 hB9 hz9 hk1 hS => ?_)
      have hP := zro1 hP hk1
      have hr18 : r18 = zb (zbt (zv v) (zv 4593671619917905920) (zv 4620693217682128896)) := hr18
      subst hr18
      refine z_if_eq_b (tgt := 37) hx hb dX5_wood_30 (by decide) (fun c19 => ?_) (fun c20 => ?_)
      · skip
        have c_30 := c19
        refine lv_iconst (v := (nI 2)) hx hb dX5_wood_37 (by decide) ?_
        refine va_put (D := (dC, dI)) (ci := 5) (v := .int (nI 2)) (ty := .int) (C := RX5) (T := TX5) (N := 19) hx hb hts (in_X5_wood_X5) tyX5 tyX5_ok nmX5 hown hK hP hD hS 0 rfl rfl 0 (by decide) (hts (.fieldLink RX5 55 "PlateModesModel" "thrown" "I") (by decide +kernel)) (fun _ h9 => h9) rfl (by decide +kernel) rfl rfl (Nat.le_of_ble_eq_true rfl) dX5_wood_38 (fun H locs hP hD hS => ?_)
        have hP : va_P (dC, dI) vwCl (w5 a0 aT aE aG aR aN aS aQ aW aX cD cI (nI 2) iw ih fa fb fd ib mk im iq tT tE tG tR tN tS tQ tW tX) H := hP
        have hD : va_D A (w5 a0 aT aE aG aR aN aS aQ aW aX cD cI (nI 2) iw ih fa fb fd ib mk im iq tT tE tG tR tN tS tQ tW tX) := hD
        refine lv_aload_n hx hb dX5_wood_41 rfl (lv_at hl 0 rfl) ?_
        refine va_get (D := (dC, dI)) (ci := 5) (v := .int (nI 2)) (C := RX5) (T := TX5) (N := 19) hx hb hts (in_X5_wood_X5) hown hK hP 0 rfl rfl 0 (by decide) (hts (.fieldLink RX5 55 "PlateModesModel" "thrown" "I") (by decide +kernel)) (fun _ h9 => h9) rfl dX5_wood_42 ?_
        refine z_if_le (tgt := 50) hx hb (by omega) dX5_wood_45 (by decide) (fun c21 => ?_) (fun c22 => ?_)
        · skip
          exact absurd c21 (by decide)
        · skip
          refine lv_iconst (v := (nI 0)) hx hb dX5_wood_48 (by decide) ?_
          exact W.zret (v := (nI 0)) hx hb hr rfl (fun t ht hW => ⟨⟨(nI 0), ((nI 2), tT, mk), rfl, ⟨congrArg nI ((if_neg c_7).trans (if_neg (by rw [c_16, c_30]; decide))).symm, fun h => absurd (((if_neg c_7).trans (if_neg (by rw [c_16, c_30]; decide))).symm.trans h) (by decide), fun _ => ⟨rfl, rfl⟩⟩, by rw [ht]; exact hP, va_K.moved hW.alike hK, hD⟩, hS.F ht⟩) hS.2.2 dX5_wood_49
      · skip
        have c_30 := c20
        refine lv_iconst (v := (nI 0)) hx hb dX5_wood_33 (by decide) ?_
        refine lv_goto (tgt := 38) hx hb dX5_wood_34 (by decide) ?_
        refine va_put (D := (dC, dI)) (ci := 5) (v := .int (nI 0)) (ty := .int) (C := RX5) (T := TX5) (N := 19) hx hb hts (in_X5_wood_X5) tyX5 tyX5_ok nmX5 hown hK hP hD hS 0 rfl rfl 0 (by decide) (hts (.fieldLink RX5 55 "PlateModesModel" "thrown" "I") (by decide +kernel)) (fun _ h9 => h9) rfl (by decide +kernel) rfl rfl (Nat.le_of_ble_eq_true rfl) dX5_wood_38 (fun H locs hP hD hS => ?_)
        have hP : va_P (dC, dI) vwCl (w5 a0 aT aE aG aR aN aS aQ aW aX cD cI (nI 0) iw ih fa fb fd ib mk im iq tT tE tG tR tN tS tQ tW tX) H := hP
        have hD : va_D A (w5 a0 aT aE aG aR aN aS aQ aW aX cD cI (nI 0) iw ih fa fb fd ib mk im iq tT tE tG tR tN tS tQ tW tX) := hD
        refine lv_aload_n hx hb dX5_wood_41 rfl (lv_at hl 0 rfl) ?_
        refine va_get (D := (dC, dI)) (ci := 5) (v := .int (nI 0)) (C := RX5) (T := TX5) (N := 19) hx hb hts (in_X5_wood_X5) hown hK hP 0 rfl rfl 0 (by decide) (hts (.fieldLink RX5 55 "PlateModesModel" "thrown" "I") (by decide +kernel)) (fun _ h9 => h9) rfl dX5_wood_42 ?_
        refine z_if_le (tgt := 50) hx hb (by omega) dX5_wood_45 (by decide) (fun c23 => ?_) (fun c24 => ?_)
        · skip
          refine lv_aload_n hx hb dX5_wood_50 rfl (lv_at hl 0 rfl) ?_
          refine va_get (D := (dC, dI)) (ci := 5) (v := .ref aT) (C := RX5) (T := TX5) (N := 19) hx hb hts (in_X5_wood_X5) hown hK hP 0 rfl rfl 3 (by decide) (hts (.fieldLink RX5 7 "PlateModesModel" "thicks" "[D") (by decide +kernel)) (fun _ h9 => h9) rfl dX5_wood_51 ?_
          refine lv_bipush (v := (nI 6)) hx hb dX5_wood_54 (by decide) ?_
          refine lv_iload_n hx hb dX5_wood_56 rfl (lv_at hl 2 rfl) ?_
          refine t_imul hx hb dX5_wood_57 (v := nI (6 * yn)) (zi_mul rfl) ?_
          refine lv_iload_n hx hb dX5_wood_58 rfl (lv_at hl 1 rfl) ?_
          refine t_iadd hx hb dX5_wood_59 (v := nI (6 * yn + xn)) (zi_add (by omega)) ?_
          refine z_dald (n := 36) (i := 6 * yn + xn) hx hb hK hP 1 0 rfl rfl (by omega) (by decide) dX5_wood_60 ?_
          refine lv_dload_n hx hb dX5_wood_61 rfl (lv_at hl 3 rfl) ?_
          refine z_cmp_l_eq (tgt := 70) hx hb (a := zv (tT (6 * yn + xn))) (b := zv v) rfl rfl dX5_wood_62 dX5_wood_63 (by decide) (fun c25 => ?_) (fun c26 => ?_)
          · skip
            have c_62 := c25
            refine lv_iconst (v := (nI 0)) hx hb dX5_wood_70 (by decide) ?_
            refine lv_istore (lv' := [(5, .int (nI 0)), (0, .ref a0), (1, .int (nI xn)), (2, .int (nI yn)), (3, .double v)]) hx hb dX5_wood_71 hl (by decide) rfl (fun ls hl => ?_)
            refine lv_aload_n hx hb dX5_wood_73 rfl (lv_at hl 1 rfl) ?_
            refine va_get (D := (dC, dI)) (ci := 5) (v := .ref aT) (C := RX5) (T := TX5) (N := 19) hx hb hts (in_X5_wood_X5) hown hK hP 0 rfl rfl 3 (by decide) (hts (.fieldLink RX5 7 "PlateModesModel" "thicks" "[D") (by decide +kernel)) (fun _ h9 => h9) rfl dX5_wood_74 ?_
            refine lv_bipush (v := (nI 6)) hx hb dX5_wood_77 (by decide) ?_
            refine lv_iload_n hx hb dX5_wood_79 rfl (lv_at hl 3 rfl) ?_
            refine t_imul hx hb dX5_wood_80 (v := nI (6 * yn)) (zi_mul rfl) ?_
            refine lv_iload_n hx hb dX5_wood_81 rfl (lv_at hl 2 rfl) ?_
            refine t_iadd hx hb dX5_wood_82 (v := nI (6 * yn + xn)) (zi_add (by omega)) ?_
            refine lv_dload_n hx hb dX5_wood_83 rfl (lv_at hl 4 rfl) ?_
            refine z_dast (n := 36) (i := 6 * yn + xn) hx hb hK hP hD hS 1 0 rfl rfl (by omega) (by decide) dX5_wood_84 (fun H locs hP hD hS => ?_)
            have hP : va_P (dC, dI) vwCl (w5 a0 aT aE aG aR aN aS aQ aW aX cD cI (nI 0) iw ih fa fb fd ib mk im iq (zu tT (6 * yn + xn) v) tE tG tR tN tS tQ tW tX) H := hP
            have hD : va_D A (w5 a0 aT aE aG aR aN aS aQ aW aX cD cI (nI 0) iw ih fa fb fd ib mk im iq (zu tT (6 * yn + xn) v) tE tG tR tN tS tQ tW tX) := hD
            refine lv_aload_n hx hb dX5_wood_85 rfl (lv_at hl 1 rfl) ?_
            refine lv_aload_n hx hb dX5_wood_86 rfl (lv_at hl 1 rfl) ?_
            refine va_get (D := (dC, dI)) (ci := 5) (v := .int (zb mk)) (C := RX5) (T := TX5) (N := 19) hx hb hts (in_X5_wood_X5) hown hK hP 0 rfl rfl 12 (by decide) (hts (.fieldLink RX5 72 "PlateModesModel" "made" "Z") (by decide +kernel)) (fun _ h9 => h9) rfl dX5_wood_87 ?_
            refine z_if_eq_b (tgt := 102) hx hb dX5_wood_90 (by decide) (fun c27 => ?_) (fun c28 => ?_)
            · skip
              have c_90 := c27
              refine lv_iconst (v := (nI 0)) hx hb dX5_wood_102 (by decide) ?_
              refine va_put (D := (dC, dI)) (ci := 5) (v := .int (zb false)) (ty := .boolean) (C := RX5) (T := TX5) (N := 19) hx hb hts (in_X5_wood_X5) tyX5 tyX5_ok nmX5 hown hK hP hD hS 0 rfl rfl 12 (by decide) (hts (.fieldLink RX5 72 "PlateModesModel" "made" "Z") (by decide +kernel)) (fun _ h9 => h9) rfl (by decide +kernel) rfl rfl (Nat.le_of_ble_eq_true rfl) dX5_wood_103 (fun H locs hP hD hS => ?_)
              have hP : va_P (dC, dI) vwCl (w5 a0 aT aE aG aR aN aS aQ aW aX cD cI (nI 0) iw ih fa fb fd ib false im iq (zu tT (6 * yn + xn) v) tE tG tR tN tS tQ tW tX) H := hP
              have hD : va_D A (w5 a0 aT aE aG aR aN aS aQ aW aX cD cI (nI 0) iw ih fa fb fd ib false im iq (zu tT (6 * yn + xn) v) tE tG tR tN tS tQ tW tX) := hD
              refine lv_iload hx hb dX5_wood_106 (lv_at hl 0 rfl) ?_
              exact W.zret (v := (nI 0)) hx hb hr rfl (fun t ht hW => ⟨⟨(nI 0), ((nI 0), zu tT (6 * yn + xn) v, false), rfl, ⟨congrArg nI ((if_neg c_7).trans (if_pos (by first | (rw [c_16]; rfl) | (rw [c_16, c_30]; rfl)))).symm, fun _ => by rw [zn_nI (by omega), zn_nI (by omega), c_62]; exact ⟨by first | rfl | (rw [c_90]; rfl), rfl, by first | rfl | (rw [c_90]; rfl)⟩, fun h => absurd ((if_neg c_7).trans (if_pos (by first | (rw [c_16]; rfl) | (rw [c_16, c_30]; rfl)))) h⟩, by rw [ht]; exact hP, va_K.moved hW.alike hK, hD⟩, hS.F ht⟩) hS.2.2 dX5_wood_108
            · skip
              have c_90 := c28
              refine lv_iload hx hb dX5_wood_93 (lv_at hl 0 rfl) ?_
              refine z_if_ne (tgt := 102) hx hb (by omega) dX5_wood_95 (by decide) (fun c29 => ?_) (fun c30 => ?_)
              · skip
                have c_95 := c29
                exact absurd c29 (by decide)
              · skip
                have c_95 := c30
                refine lv_iconst (v := (nI 1)) hx hb dX5_wood_98 (by decide) ?_
                refine lv_goto (tgt := 103) hx hb dX5_wood_99 (by decide) ?_
                refine va_put (D := (dC, dI)) (ci := 5) (v := .int (zb true)) (ty := .boolean) (C := RX5) (T := TX5) (N := 19) hx hb hts (in_X5_wood_X5) tyX5 tyX5_ok nmX5 hown hK hP hD hS 0 rfl rfl 12 (by decide) (hts (.fieldLink RX5 72 "PlateModesModel" "made" "Z") (by decide +kernel)) (fun _ h9 => h9) rfl (by decide +kernel) rfl rfl (Nat.le_of_ble_eq_true rfl) dX5_wood_103 (fun H locs hP hD hS => ?_)
                have hP : va_P (dC, dI) vwCl (w5 a0 aT aE aG aR aN aS aQ aW aX cD cI (nI 0) iw ih fa fb fd ib true im iq (zu tT (6 * yn + xn) v) tE tG tR tN tS tQ tW tX) H := hP
                have hD : va_D A (w5 a0 aT aE aG aR aN aS aQ aW aX cD cI (nI 0) iw ih fa fb fd ib true im iq (zu tT (6 * yn + xn) v) tE tG tR tN tS tQ tW tX) := hD
                refine lv_iload hx hb dX5_wood_106 (lv_at hl 0 rfl) ?_
                exact W.zret (v := (nI 0)) hx hb hr rfl (fun t ht hW => ⟨⟨(nI 0), ((nI 0), zu tT (6 * yn + xn) v, true), rfl, ⟨congrArg nI ((if_neg c_7).trans (if_pos (by first | (rw [c_16]; rfl) | (rw [c_16, c_30]; rfl)))).symm, fun _ => by rw [zn_nI (by omega), zn_nI (by omega), c_62]; exact ⟨by first | rfl | (rw [c_90]; rfl), rfl, by first | rfl | (rw [c_90]; rfl)⟩, fun h => absurd ((if_neg c_7).trans (if_pos (by first | (rw [c_16]; rfl) | (rw [c_16, c_30]; rfl)))) h⟩, by rw [ht]; exact hP, va_K.moved hW.alike hK, hD⟩, hS.F ht⟩) hS.2.2 dX5_wood_108
          · skip
            have c_62 := c26
            refine lv_iconst (v := (nI 1)) hx hb dX5_wood_66 (by decide) ?_
            refine lv_goto (tgt := 71) hx hb dX5_wood_67 (by decide) ?_
            refine lv_istore (lv' := [(5, .int (nI 1)), (0, .ref a0), (1, .int (nI xn)), (2, .int (nI yn)), (3, .double v)]) hx hb dX5_wood_71 hl (by decide) rfl (fun ls hl => ?_)
            refine lv_aload_n hx hb dX5_wood_73 rfl (lv_at hl 1 rfl) ?_
            refine va_get (D := (dC, dI)) (ci := 5) (v := .ref aT) (C := RX5) (T := TX5) (N := 19) hx hb hts (in_X5_wood_X5) hown hK hP 0 rfl rfl 3 (by decide) (hts (.fieldLink RX5 7 "PlateModesModel" "thicks" "[D") (by decide +kernel)) (fun _ h9 => h9) rfl dX5_wood_74 ?_
            refine lv_bipush (v := (nI 6)) hx hb dX5_wood_77 (by decide) ?_
            refine lv_iload_n hx hb dX5_wood_79 rfl (lv_at hl 3 rfl) ?_
            refine t_imul hx hb dX5_wood_80 (v := nI (6 * yn)) (zi_mul rfl) ?_
            refine lv_iload_n hx hb dX5_wood_81 rfl (lv_at hl 2 rfl) ?_
            refine t_iadd hx hb dX5_wood_82 (v := nI (6 * yn + xn)) (zi_add (by omega)) ?_
            refine lv_dload_n hx hb dX5_wood_83 rfl (lv_at hl 4 rfl) ?_
            refine z_dast (n := 36) (i := 6 * yn + xn) hx hb hK hP hD hS 1 0 rfl rfl (by omega) (by decide) dX5_wood_84 (fun H locs hP hD hS => ?_)
            have hP : va_P (dC, dI) vwCl (w5 a0 aT aE aG aR aN aS aQ aW aX cD cI (nI 0) iw ih fa fb fd ib mk im iq (zu tT (6 * yn + xn) v) tE tG tR tN tS tQ tW tX) H := hP
            have hD : va_D A (w5 a0 aT aE aG aR aN aS aQ aW aX cD cI (nI 0) iw ih fa fb fd ib mk im iq (zu tT (6 * yn + xn) v) tE tG tR tN tS tQ tW tX) := hD
            refine lv_aload_n hx hb dX5_wood_85 rfl (lv_at hl 1 rfl) ?_
            refine lv_aload_n hx hb dX5_wood_86 rfl (lv_at hl 1 rfl) ?_
            refine va_get (D := (dC, dI)) (ci := 5) (v := .int (zb mk)) (C := RX5) (T := TX5) (N := 19) hx hb hts (in_X5_wood_X5) hown hK hP 0 rfl rfl 12 (by decide) (hts (.fieldLink RX5 72 "PlateModesModel" "made" "Z") (by decide +kernel)) (fun _ h9 => h9) rfl dX5_wood_87 ?_
            refine z_if_eq_b (tgt := 102) hx hb dX5_wood_90 (by decide) (fun c31 => ?_) (fun c32 => ?_)
            · skip
              have c_90 := c31
              refine lv_iconst (v := (nI 0)) hx hb dX5_wood_102 (by decide) ?_
              refine va_put (D := (dC, dI)) (ci := 5) (v := .int (zb false)) (ty := .boolean) (C := RX5) (T := TX5) (N := 19) hx hb hts (in_X5_wood_X5) tyX5 tyX5_ok nmX5 hown hK hP hD hS 0 rfl rfl 12 (by decide) (hts (.fieldLink RX5 72 "PlateModesModel" "made" "Z") (by decide +kernel)) (fun _ h9 => h9) rfl (by decide +kernel) rfl rfl (Nat.le_of_ble_eq_true rfl) dX5_wood_103 (fun H locs hP hD hS => ?_)
              have hP : va_P (dC, dI) vwCl (w5 a0 aT aE aG aR aN aS aQ aW aX cD cI (nI 0) iw ih fa fb fd ib false im iq (zu tT (6 * yn + xn) v) tE tG tR tN tS tQ tW tX) H := hP
              have hD : va_D A (w5 a0 aT aE aG aR aN aS aQ aW aX cD cI (nI 0) iw ih fa fb fd ib false im iq (zu tT (6 * yn + xn) v) tE tG tR tN tS tQ tW tX) := hD
              refine lv_iload hx hb dX5_wood_106 (lv_at hl 0 rfl) ?_
              exact W.zret (v := (nI 1)) hx hb hr rfl (fun t ht hW => ⟨⟨(nI 1), ((nI 0), zu tT (6 * yn + xn) v, false), rfl, ⟨congrArg nI ((if_neg c_7).trans (if_pos (by first | (rw [c_16]; rfl) | (rw [c_16, c_30]; rfl)))).symm, fun _ => by rw [zn_nI (by omega), zn_nI (by omega), c_62]; exact ⟨by first | rfl | (rw [c_90]; rfl), rfl, by first | rfl | (rw [c_90]; rfl)⟩, fun h => absurd ((if_neg c_7).trans (if_pos (by first | (rw [c_16]; rfl) | (rw [c_16, c_30]; rfl)))) h⟩, by rw [ht]; exact hP, va_K.moved hW.alike hK, hD⟩, hS.F ht⟩) hS.2.2 dX5_wood_108
            · skip
              have c_90 := c32
              refine lv_iload hx hb dX5_wood_93 (lv_at hl 0 rfl) ?_
              refine z_if_ne (tgt := 102) hx hb (by omega) dX5_wood_95 (by decide) (fun c33 => ?_) (fun c34 => ?_)
              · skip
                have c_95 := c33
                refine lv_iconst (v := (nI 0)) hx hb dX5_wood_102 (by decide) ?_
                refine va_put (D := (dC, dI)) (ci := 5) (v := .int (zb false)) (ty := .boolean) (C := RX5) (T := TX5) (N := 19) hx hb hts (in_X5_wood_X5) tyX5 tyX5_ok nmX5 hown hK hP hD hS 0 rfl rfl 12 (by decide) (hts (.fieldLink RX5 72 "PlateModesModel" "made" "Z") (by decide +kernel)) (fun _ h9 => h9) rfl (by decide +kernel) rfl rfl (Nat.le_of_ble_eq_true rfl) dX5_wood_103 (fun H locs hP hD hS => ?_)
                have hP : va_P (dC, dI) vwCl (w5 a0 aT aE aG aR aN aS aQ aW aX cD cI (nI 0) iw ih fa fb fd ib false im iq (zu tT (6 * yn + xn) v) tE tG tR tN tS tQ tW tX) H := hP
                have hD : va_D A (w5 a0 aT aE aG aR aN aS aQ aW aX cD cI (nI 0) iw ih fa fb fd ib false im iq (zu tT (6 * yn + xn) v) tE tG tR tN tS tQ tW tX) := hD
                refine lv_iload hx hb dX5_wood_106 (lv_at hl 0 rfl) ?_
                exact W.zret (v := (nI 1)) hx hb hr rfl (fun t ht hW => ⟨⟨(nI 1), ((nI 0), zu tT (6 * yn + xn) v, false), rfl, ⟨congrArg nI ((if_neg c_7).trans (if_pos (by first | (rw [c_16]; rfl) | (rw [c_16, c_30]; rfl)))).symm, fun _ => by rw [zn_nI (by omega), zn_nI (by omega), c_62]; exact ⟨by first | rfl | (rw [c_90]; rfl), rfl, by first | rfl | (rw [c_90]; rfl)⟩, fun h => absurd ((if_neg c_7).trans (if_pos (by first | (rw [c_16]; rfl) | (rw [c_16, c_30]; rfl)))) h⟩, by rw [ht]; exact hP, va_K.moved hW.alike hK, hD⟩, hS.F ht⟩) hS.2.2 dX5_wood_108
              · skip
                have c_95 := c34
                exact absurd c34 (by decide)
        · skip
          exact absurd c24 (by decide)
  · skip
    have c_7 := c3
    refine lv_iconst (v := (nI 1)) hx hb dX5_wood_10 (by decide) ?_
    refine lv_goto (tgt := 38) hx hb dX5_wood_11 (by decide) ?_
    refine va_put (D := (dC, dI)) (ci := 5) (v := .int (nI 1)) (ty := .int) (C := RX5) (T := TX5) (N := 19) hx hb hts (in_X5_wood_X5) tyX5 tyX5_ok nmX5 hown hK hP hD hS 0 rfl rfl 0 (by decide) (hts (.fieldLink RX5 55 "PlateModesModel" "thrown" "I") (by decide +kernel)) (fun _ h9 => h9) rfl (by decide +kernel) rfl rfl (Nat.le_of_ble_eq_true rfl) dX5_wood_38 (fun H locs hP hD hS => ?_)
    have hP : va_P (dC, dI) vwCl (w5 a0 aT aE aG aR aN aS aQ aW aX cD cI (nI 1) iw ih fa fb fd ib mk im iq tT tE tG tR tN tS tQ tW tX) H := hP
    have hD : va_D A (w5 a0 aT aE aG aR aN aS aQ aW aX cD cI (nI 1) iw ih fa fb fd ib mk im iq tT tE tG tR tN tS tQ tW tX) := hD
    refine lv_aload_n hx hb dX5_wood_41 rfl (lv_at hl 0 rfl) ?_
    refine va_get (D := (dC, dI)) (ci := 5) (v := .int (nI 1)) (C := RX5) (T := TX5) (N := 19) hx hb hts (in_X5_wood_X5) hown hK hP 0 rfl rfl 0 (by decide) (hts (.fieldLink RX5 55 "PlateModesModel" "thrown" "I") (by decide +kernel)) (fun _ h9 => h9) rfl dX5_wood_42 ?_
    refine z_if_le (tgt := 50) hx hb (by omega) dX5_wood_45 (by decide) (fun c35 => ?_) (fun c36 => ?_)
    · skip
      exact absurd c35 (by decide)
    · skip
      refine lv_iconst (v := (nI 0)) hx hb dX5_wood_48 (by decide) ?_
      exact W.zret (v := (nI 0)) hx hb hr rfl (fun t ht hW => ⟨⟨(nI 0), ((nI 1), tT, mk), rfl, ⟨congrArg nI (if_pos c_7).symm, fun h => absurd ((if_pos c_7).symm.trans h) (by decide), fun _ => ⟨rfl, rfl⟩⟩, by rw [ht]; exact hP, va_K.moved hW.alike hK, hD⟩, hS.F ht⟩) hS.2.2 dX5_wood_49
theorem in_X5_rates_X5 : ∀ w ∈ wsX50, w ∈ wsX5_rates := fun w h => List.mem_cons_of_mem _ (List.mem_append_right _ h)
set_option maxHeartbeats 4000000 in
set_option maxRecDepth 100000 in
/-- rates -/
theorem c5_rates (l : Launch) (dC : Nat → ClassId) (dI : Nat → Nat → Nat) (a0 aT aE aG aR aN aS aQ aW aX : Nat) (cD cI : ClassId) (th : Int32) (iw ih : Nat) (fa fb fd : UInt64) (ib : Nat) (mk : Bool) (im iq : Nat) (tT : Nat → UInt64) (tE : Nat → Int32) (tG tR tN tS tQ : Nat → UInt64) (tW : Nat → Int32) (tX : Nat → UInt64) (va vb vd : UInt64) (sz : Nat) : Met l yX5_rates wsX5_rates ({ frames := 1, cells := 0, slots := 0, locals := 25 } : Room) (va_Pc [.ref a0, .double va, .double vb, .double vd] (fun U => U.heap.size = sz ∧ va_P (dC, dI) vwCl (w5 a0 aT aE aG aR aN aS aQ aW aX cD cI th iw ih fa fb fd ib mk im iq tT tE tG tR tN tS tQ tW tX) U.heap ∧ va_K (dC, dI) vwCl [(cD, .double), (cI, .int)] U ∧ va_D (fun _ => True) (w5 a0 aT aE aG aR aN aS aQ aW aX cD cI th iw ih fa fb fd ib mk im iq tT tE tG tR tN tS tQ tW tX))) (va_Qv (fun u : Int32 × UInt64 × UInt64 × UInt64 × Bool => u.1 = nI (zcR (zv va) (zv vb) (zv vd)) ∧ (zcR (zv va) (zv vb) (zv vd) = 0 → u.2.1 = va ∧ u.2.2.1 = vb ∧ u.2.2.2.1 = vd ∧ u.2.2.2.2 = false) ∧ (¬ zcR (zv va) (zv vb) (zv vd) = 0 → u.2.1 = fa ∧ u.2.2.1 = fb ∧ u.2.2.2.1 = fd ∧ u.2.2.2.2 = mk)) (fun u t => (va_P (dC, dI) vwCl (w5 a0 aT aE aG aR aN aS aQ aW aX cD cI u.1 iw ih u.2.1 u.2.2.1 u.2.2.2.1 ib u.2.2.2.2 im iq tT tE tG tR tN tS tQ tW tX) t.heap ∧ va_K (dC, dI) vwCl [(cD, .double), (cI, .int)] t ∧ va_D (va_A (w5 a0 aT aE aG aR aN aS aQ aW aX cD cI th iw ih fa fb fd ib mk im iq tT tE tG tR tN tS tQ tW tX) sz) (w5 a0 aT aE aG aR aN aS aQ aW aX cD cI u.1 iw ih u.2.1 u.2.2.1 u.2.2.2.1 ib u.2.2.2.2 im iq tT tE tG tR tN tS tQ tW tX))) (va_A (w5 a0 aT aE aG aR aN aS aQ aW aX cD cI th iw ih fa fb fd ib mk im iq tT tE tG tR tN tS tQ tW tX) sz)) 0 0 (va_A (w5 a0 aT aE aG aR aN aS aQ aW aX cD cI th iw ih fa fb fd ib mk im iq tT tE tG tR tN tS tQ tW tX) sz) := by
  refine Met.ofW (cc := cX5_rates) (maxL := 7) (ret := none) (by decide) rfl ?_
  intro p e s m args below meth c s₁ B hml hv
  obtain ⟨rfl, hsz, hP, hK, hD0⟩ := hv
  have hx := B.exec
  have hb := B.bytes
  have hr := B.returns
  have hts := atoms_spec (ws := wsX5_rates) B.pre
  have hown : s.vm.findClass RX5 = some m.cls := findClass_of_methodNamed B.named
  have hlocks := B.notSynchronized
  subst hsz
  have hD := hD0.self (sz := s.heap.size)
  generalize hAe : va_A (w5 a0 aT aE aG aR aN aS aQ aW aX cD cI th iw ih fa fb fd ib mk im iq tT tE tG tR tN tS tQ tW tX) s.heap.size = A at hD ⊢
  have hA : ∀ q : Nat, s.heap.size ≤ q → A q := fun q h => by rw [← hAe]; exact Or.inr h
  have hS : va_S A s.heap s.heap [] := va_S.rf
  have hl := lv_entry ([.ref a0, .double va, .double vb, .double vd]) (n := 7) (Nat.le_of_ble_eq_true rfl)
  rw [lg_entry_eq]
  generalize (lg_sl ([.ref a0, .double va, .double vb, .double vd]) ++ List.replicate (7 - (lg_sl ([.ref a0, .double va, .double vb, .double vd])).length) Slot.unset).toArray = ls at hl ⊢
  have hl : lv_has ls 7 [(0, .ref a0), (1, .double va), (3, .double vb), (5, .double vd)] := hl
  refine lv_aload_n hx hb dX5_rates_0 rfl (lv_at hl 0 rfl) ?_
  refine lv_dload_n hx hb dX5_rates_1 rfl (lv_at hl 1 rfl) ?_
  refine lv_ldc2d (v := 4593671619917905920) hx hb hown (hts (.constantDouble RX5 64 (4593671619917905920)) (by decide +kernel)) dX5_rates_2 ?_
  refine lv_ldc2d (v := 4620693217682128896) hx hb hown (hts (.constantDouble RX5 66 (4620693217682128896)) (by decide +kernel)) dX5_rates_5 ?_
  refine va_calli (va_runS (As := [.double va, .double 4593671619917905920, .double 4620693217682128896]) (rest := [.ref a0]) ⟨hx, hb, hml, hown, hts⟩ (c5_between l va 4593671619917905920 4620693217682128896) (va_cwS 3 hts gX5_rates_X5_between rfl rfl rfl (by decide +kernel) ⟨Nat.le_of_ble_eq_true rfl, Nat.le_of_ble_eq_true rfl⟩) ⟨zfb0, zpre0⟩ rfl rfl hl.1 rfl (lv_room (Nat.le_of_ble_eq_true rfl)) dX5_rates_8 ⟨Nat.le_of_ble_eq_true rfl, Nat.le_of_ble_eq_true rfl⟩) hS (fun q _ h => h.elim) (fun q h => h.elim) (fun r1 u9 t9 H locs ht9 hvm9 hr1 hB9 hz9 hk1 hS => ?_)
  have hP := zro1 hP hk1
  have hr1 : r1 = zb (zbt (zv va) (zv 4593671619917905920) (zv 4620693217682128896)) := hr1
  subst hr1
  refine z_if_eq_b (tgt := 45) hx hb dX5_rates_11 (by decide) (fun c2 => ?_) (fun c3 => ?_)
  · skip
    have c_11 := c2
    refine lv_iconst (v := (nI 1)) hx hb dX5_rates_45 (by decide) ?_
    refine va_put (D := (dC, dI)) (ci := 5) (v := .int (nI 1)) (ty := .int) (C := RX5) (T := TX5) (N := 19) hx hb hts (in_X5_rates_X5) tyX5 tyX5_ok nmX5 hown hK hP hD hS 0 rfl rfl 0 (by decide) (hts (.fieldLink RX5 55 "PlateModesModel" "thrown" "I") (by decide +kernel)) (fun _ h9 => h9) rfl (by decide +kernel) rfl rfl (Nat.le_of_ble_eq_true rfl) dX5_rates_46 (fun H locs hP hD hS => ?_)
    have hP : va_P (dC, dI) vwCl (w5 a0 aT aE aG aR aN aS aQ aW aX cD cI (nI 1) iw ih fa fb fd ib mk im iq tT tE tG tR tN tS tQ tW tX) H := hP
    have hD : va_D A (w5 a0 aT aE aG aR aN aS aQ aW aX cD cI (nI 1) iw ih fa fb fd ib mk im iq tT tE tG tR tN tS tQ tW tX) := hD
    refine lv_aload_n hx hb dX5_rates_49 rfl (lv_at hl 0 rfl) ?_
    refine va_get (D := (dC, dI)) (ci := 5) (v := .int (nI 1)) (C := RX5) (T := TX5) (N := 19) hx hb hts (in_X5_rates_X5) hown hK hP 0 rfl rfl 0 (by decide) (hts (.fieldLink RX5 55 "PlateModesModel" "thrown" "I") (by decide +kernel)) (fun _ h9 => h9) rfl dX5_rates_50 ?_
    refine z_if_ne (tgt := 77) hx hb (by omega) dX5_rates_53 (by decide) (fun c4 => ?_) (fun c5 => ?_)
    · skip
      exact W.vret hx hb hr (fun t ht hW => ⟨⟨((nI 1), fa, fb, fd, mk), rfl, ⟨congrArg nI (if_neg (by first | (rw [c_11]; simp; done) | (rw [c_11, c_24]; simp; done) | (rw [c_11, c_24, c_38]; simp; done))).symm, fun h => absurd ((if_neg (by first | (rw [c_11]; simp; done) | (rw [c_11, c_24]; simp; done) | (rw [c_11, c_24, c_38]; simp; done))).symm.trans h) (by decide), fun _ => ⟨rfl, rfl, rfl, rfl⟩⟩, by rw [ht]; exact hP, va_K.moved hW.alike hK, hD⟩, hS.F ht⟩) hS.2.2 dX5_rates_77
    · skip
      exact absurd c5 (by decide)
  · skip
    have c_11 := c3
    refine lv_dload_n hx hb dX5_rates_14 rfl (lv_at hl 2 rfl) ?_
    refine lv_ldc2d (v := 4593671619917905920) hx hb hown (hts (.constantDouble RX5 64 (4593671619917905920)) (by decide +kernel)) dX5_rates_15 ?_
    refine lv_ldc2d (v := 4620693217682128896) hx hb hown (hts (.constantDouble RX5 66 (4620693217682128896)) (by decide +kernel)) dX5_rates_18 ?_
    refine va_calli (va_runS (As := [.double vb, .double 4593671619917905920, .double 4620693217682128896]) (rest := [.ref a0]) ⟨hx, hb, hml, hown, hts⟩ (c5_between l vb 4593671619917905920 4620693217682128896) (va_cwS 3 hts gX5_rates_X5_between rfl rfl rfl (by decide +kernel) ⟨Nat.le_of_ble_eq_true rfl, Nat.le_of_ble_eq_true rfl⟩) ⟨zfb0, zpre0⟩ rfl rfl hl.1 rfl (lv_room (Nat.le_of_ble_eq_true rfl)) dX5_rates_21 ⟨Nat.le_of_ble_eq_true rfl, Nat.le_of_ble_eq_true rfl⟩) hS (fun q _ h => h.elim) (fun q h => h.elim) (fun r6 u9 t9 H locs ht9 hvm9 hr6 hB9 hz9 hk1 hS => ?_)
    have hP := zro1 hP hk1
    have hr6 : r6 = zb (zbt (zv vb) (zv 4593671619917905920) (zv 4620693217682128896)) := hr6
    subst hr6
    refine z_if_eq_b (tgt := 45) hx hb dX5_rates_24 (by decide) (fun c7 => ?_) (fun c8 => ?_)
    · skip
      have c_24 := c7
      refine lv_iconst (v := (nI 1)) hx hb dX5_rates_45 (by decide) ?_
      refine va_put (D := (dC, dI)) (ci := 5) (v := .int (nI 1)) (ty := .int) (C := RX5) (T := TX5) (N := 19) hx hb hts (in_X5_rates_X5) tyX5 tyX5_ok nmX5 hown hK hP hD hS 0 rfl rfl 0 (by decide) (hts (.fieldLink RX5 55 "PlateModesModel" "thrown" "I") (by decide +kernel)) (fun _ h9 => h9) rfl (by decide +kernel) rfl rfl (Nat.le_of_ble_eq_true rfl) dX5_rates_46 (fun H locs hP hD hS => ?_)
      have hP : va_P (dC, dI) vwCl (w5 a0 aT aE aG aR aN aS aQ aW aX cD cI (nI 1) iw ih fa fb fd ib mk im iq tT tE tG tR tN tS tQ tW tX) H := hP
      have hD : va_D A (w5 a0 aT aE aG aR aN aS aQ aW aX cD cI (nI 1) iw ih fa fb fd ib mk im iq tT tE tG tR tN tS tQ tW tX) := hD
      refine lv_aload_n hx hb dX5_rates_49 rfl (lv_at hl 0 rfl) ?_
      refine va_get (D := (dC, dI)) (ci := 5) (v := .int (nI 1)) (C := RX5) (T := TX5) (N := 19) hx hb hts (in_X5_rates_X5) hown hK hP 0 rfl rfl 0 (by decide) (hts (.fieldLink RX5 55 "PlateModesModel" "thrown" "I") (by decide +kernel)) (fun _ h9 => h9) rfl dX5_rates_50 ?_
      refine z_if_ne (tgt := 77) hx hb (by omega) dX5_rates_53 (by decide) (fun c9 => ?_) (fun c10 => ?_)
      · skip
        exact W.vret hx hb hr (fun t ht hW => ⟨⟨((nI 1), fa, fb, fd, mk), rfl, ⟨congrArg nI (if_neg (by first | (rw [c_11]; simp; done) | (rw [c_11, c_24]; simp; done) | (rw [c_11, c_24, c_38]; simp; done))).symm, fun h => absurd ((if_neg (by first | (rw [c_11]; simp; done) | (rw [c_11, c_24]; simp; done) | (rw [c_11, c_24, c_38]; simp; done))).symm.trans h) (by decide), fun _ => ⟨rfl, rfl, rfl, rfl⟩⟩, by rw [ht]; exact hP, va_K.moved hW.alike hK, hD⟩, hS.F ht⟩) hS.2.2 dX5_rates_77
      · skip
        exact absurd c10 (by decide)
    · skip
      have c_24 := c8
      refine lv_dload hx hb dX5_rates_27 (lv_at hl 3 rfl) ?_
      refine lv_ldc2d (v := 4593671619917905920) hx hb hown (hts (.constantDouble RX5 64 (4593671619917905920)) (by decide +kernel)) dX5_rates_29 ?_
      refine lv_ldc2d (v := 4620693217682128896) hx hb hown (hts (.constantDouble RX5 66 (4620693217682128896)) (by decide +kernel)) dX5_rates_32 ?_
      refine va_calli (va_runS (As := [.double vd, .double 4593671619917905920, .double 4620693217682128896]) (rest := [.ref a0]) ⟨hx, hb, hml, hown, hts⟩ (c5_between l vd 4593671619917905920 4620693217682128896) (va_cwS 3 hts gX5_rates_X5_between rfl rfl rfl (by decide +kernel) ⟨Nat.le_of_ble_eq_true rfl, Nat.le_of_ble_eq_true rfl⟩) ⟨zfb0, zpre0⟩ rfl rfl hl.1 rfl (lv_room (Nat.le_of_ble_eq_true rfl)) dX5_rates_35 ⟨Nat.le_of_ble_eq_true rfl, Nat.le_of_ble_eq_true rfl⟩) hS (fun q _ h => h.elim) (fun q h => h.elim) (fun r11 u9 t9 H locs ht9 hvm9 hr11 hB9 hz9 hk1 hS => ?_)
      have hP := zro1 hP hk1
      have hr11 : r11 = zb (zbt (zv vd) (zv 4593671619917905920) (zv 4620693217682128896)) := hr11
      subst hr11
      refine z_if_eq_b (tgt := 45) hx hb dX5_rates_38 (by decide) (fun c12 => ?_) (fun c13 => ?_)
      · skip
        have c_38 := c12
        refine lv_iconst (v := (nI 1)) hx hb dX5_rates_45 (by decide) ?_
        refine va_put (D := (dC, dI)) (ci := 5) (v := .int (nI 1)) (ty := .int) (C := RX5) (T := TX5) (N := 19) hx hb hts (in_X5_rates_X5) tyX5 tyX5_ok nmX5 hown hK hP hD hS 0 rfl rfl 0 (by decide) (hts (.fieldLink RX5 55 "PlateModesModel" "thrown" "I") (by decide +kernel)) (fun _ h9 => h9) rfl (by decide +kernel) rfl rfl (Nat.le_of_ble_eq_true rfl) dX5_rates_46 (fun H locs hP hD hS => ?_)
        have hP : va_P (dC, dI) vwCl (w5 a0 aT aE aG aR aN aS aQ aW aX cD cI (nI 1) iw ih fa fb fd ib mk im iq tT tE tG tR tN tS tQ tW tX) H := hP
        have hD : va_D A (w5 a0 aT aE aG aR aN aS aQ aW aX cD cI (nI 1) iw ih fa fb fd ib mk im iq tT tE tG tR tN tS tQ tW tX) := hD
        refine lv_aload_n hx hb dX5_rates_49 rfl (lv_at hl 0 rfl) ?_
        refine va_get (D := (dC, dI)) (ci := 5) (v := .int (nI 1)) (C := RX5) (T := TX5) (N := 19) hx hb hts (in_X5_rates_X5) hown hK hP 0 rfl rfl 0 (by decide) (hts (.fieldLink RX5 55 "PlateModesModel" "thrown" "I") (by decide +kernel)) (fun _ h9 => h9) rfl dX5_rates_50 ?_
        refine z_if_ne (tgt := 77) hx hb (by omega) dX5_rates_53 (by decide) (fun c14 => ?_) (fun c15 => ?_)
        · skip
          exact W.vret hx hb hr (fun t ht hW => ⟨⟨((nI 1), fa, fb, fd, mk), rfl, ⟨congrArg nI (if_neg (by first | (rw [c_11]; simp; done) | (rw [c_11, c_24]; simp; done) | (rw [c_11, c_24, c_38]; simp; done))).symm, fun h => absurd ((if_neg (by first | (rw [c_11]; simp; done) | (rw [c_11, c_24]; simp; done) | (rw [c_11, c_24, c_38]; simp; done))).symm.trans h) (by decide), fun _ => ⟨rfl, rfl, rfl, rfl⟩⟩, by rw [ht]; exact hP, va_K.moved hW.alike hK, hD⟩, hS.F ht⟩) hS.2.2 dX5_rates_77
        · skip
          exact absurd c15 (by decide)
      · skip
        have c_38 := c13
        refine lv_iconst (v := (nI 0)) hx hb dX5_rates_41 (by decide) ?_
        refine lv_goto (tgt := 46) hx hb dX5_rates_42 (by decide) ?_
        refine va_put (D := (dC, dI)) (ci := 5) (v := .int (nI 0)) (ty := .int) (C := RX5) (T := TX5) (N := 19) hx hb hts (in_X5_rates_X5) tyX5 tyX5_ok nmX5 hown hK hP hD hS 0 rfl rfl 0 (by decide) (hts (.fieldLink RX5 55 "PlateModesModel" "thrown" "I") (by decide +kernel)) (fun _ h9 => h9) rfl (by decide +kernel) rfl rfl (Nat.le_of_ble_eq_true rfl) dX5_rates_46 (fun H locs hP hD hS => ?_)
        have hP : va_P (dC, dI) vwCl (w5 a0 aT aE aG aR aN aS aQ aW aX cD cI (nI 0) iw ih fa fb fd ib mk im iq tT tE tG tR tN tS tQ tW tX) H := hP
        have hD : va_D A (w5 a0 aT aE aG aR aN aS aQ aW aX cD cI (nI 0) iw ih fa fb fd ib mk im iq tT tE tG tR tN tS tQ tW tX) := hD
        refine lv_aload_n hx hb dX5_rates_49 rfl (lv_at hl 0 rfl) ?_
        refine va_get (D := (dC, dI)) (ci := 5) (v := .int (nI 0)) (C := RX5) (T := TX5) (N := 19) hx hb hts (in_X5_rates_X5) hown hK hP 0 rfl rfl 0 (by decide) (hts (.fieldLink RX5 55 "PlateModesModel" "thrown" "I") (by decide +kernel)) (fun _ h9 => h9) rfl dX5_rates_50 ?_
        refine z_if_ne (tgt := 77) hx hb (by omega) dX5_rates_53 (by decide) (fun c16 => ?_) (fun c17 => ?_)
        · skip
          exact absurd c16 (by decide)
        · skip
          refine lv_aload_n hx hb dX5_rates_56 rfl (lv_at hl 0 rfl) ?_
          refine lv_dload_n hx hb dX5_rates_57 rfl (lv_at hl 1 rfl) ?_
          refine va_put (D := (dC, dI)) (ci := 5) (v := .double va) (ty := .double) (C := RX5) (T := TX5) (N := 19) hx hb hts (in_X5_rates_X5) tyX5 tyX5_ok nmX5 hown hK hP hD hS 0 rfl rfl 4 (by decide) (hts (.fieldLink RX5 13 "PlateModesModel" "a" "D") (by decide +kernel)) (fun _ h9 => h9) rfl (by decide +kernel) rfl rfl (Nat.le_of_ble_eq_true rfl) dX5_rates_58 (fun H locs hP hD hS => ?_)
          have hP : va_P (dC, dI) vwCl (w5 a0 aT aE aG aR aN aS aQ aW aX cD cI (nI 0) iw ih va fb fd ib mk im iq tT tE tG tR tN tS tQ tW tX) H := hP
          have hD : va_D A (w5 a0 aT aE aG aR aN aS aQ aW aX cD cI (nI 0) iw ih va fb fd ib mk im iq tT tE tG tR tN tS tQ tW tX) := hD
          refine lv_aload_n hx hb dX5_rates_61 rfl (lv_at hl 0 rfl) ?_
          refine lv_dload_n hx hb dX5_rates_62 rfl (lv_at hl 2 rfl) ?_
          refine va_put (D := (dC, dI)) (ci := 5) (v := .double vb) (ty := .double) (C := RX5) (T := TX5) (N := 19) hx hb hts (in_X5_rates_X5) tyX5 tyX5_ok nmX5 hown hK hP hD hS 0 rfl rfl 5 (by decide) (hts (.fieldLink RX5 17 "PlateModesModel" "b" "D") (by decide +kernel)) (fun _ h9 => h9) rfl (by decide +kernel) rfl rfl (Nat.le_of_ble_eq_true rfl) dX5_rates_63 (fun H locs hP hD hS => ?_)
          have hP : va_P (dC, dI) vwCl (w5 a0 aT aE aG aR aN aS aQ aW aX cD cI (nI 0) iw ih va vb fd ib mk im iq tT tE tG tR tN tS tQ tW tX) H := hP
          have hD : va_D A (w5 a0 aT aE aG aR aN aS aQ aW aX cD cI (nI 0) iw ih va vb fd ib mk im iq tT tE tG tR tN tS tQ tW tX) := hD
          refine lv_aload_n hx hb dX5_rates_66 rfl (lv_at hl 0 rfl) ?_
          refine lv_dload hx hb dX5_rates_67 (lv_at hl 3 rfl) ?_
          refine va_put (D := (dC, dI)) (ci := 5) (v := .double vd) (ty := .double) (C := RX5) (T := TX5) (N := 19) hx hb hts (in_X5_rates_X5) tyX5 tyX5_ok nmX5 hown hK hP hD hS 0 rfl rfl 6 (by decide) (hts (.fieldLink RX5 20 "PlateModesModel" "density" "D") (by decide +kernel)) (fun _ h9 => h9) rfl (by decide +kernel) rfl rfl (Nat.le_of_ble_eq_true rfl) dX5_rates_69 (fun H locs hP hD hS => ?_)
          have hP : va_P (dC, dI) vwCl (w5 a0 aT aE aG aR aN aS aQ aW aX cD cI (nI 0) iw ih va vb vd ib mk im iq tT tE tG tR tN tS tQ tW tX) H := hP
          have hD : va_D A (w5 a0 aT aE aG aR aN aS aQ aW aX cD cI (nI 0) iw ih va vb vd ib mk im iq tT tE tG tR tN tS tQ tW tX) := hD
          refine lv_aload_n hx hb dX5_rates_72 rfl (lv_at hl 0 rfl) ?_
          refine lv_iconst (v := (nI 0)) hx hb dX5_rates_73 (by decide) ?_
          refine va_put (D := (dC, dI)) (ci := 5) (v := .int (zb false)) (ty := .boolean) (C := RX5) (T := TX5) (N := 19) hx hb hts (in_X5_rates_X5) tyX5 tyX5_ok nmX5 hown hK hP hD hS 0 rfl rfl 12 (by decide) (hts (.fieldLink RX5 72 "PlateModesModel" "made" "Z") (by decide +kernel)) (fun _ h9 => h9) rfl (by decide +kernel) rfl rfl (Nat.le_of_ble_eq_true rfl) dX5_rates_74 (fun H locs hP hD hS => ?_)
          have hP : va_P (dC, dI) vwCl (w5 a0 aT aE aG aR aN aS aQ aW aX cD cI (nI 0) iw ih va vb vd ib false im iq tT tE tG tR tN tS tQ tW tX) H := hP
          have hD : va_D A (w5 a0 aT aE aG aR aN aS aQ aW aX cD cI (nI 0) iw ih va vb vd ib false im iq tT tE tG tR tN tS tQ tW tX) := hD
          exact W.vret hx hb hr (fun t ht hW => ⟨⟨((nI 0), va, vb, vd, false), rfl, ⟨congrArg nI (if_pos (by rw [c_11, c_24, c_38]; rfl)).symm, fun _ => ⟨rfl, rfl, rfl, rfl⟩, fun h => absurd (if_pos (by rw [c_11, c_24, c_38]; rfl)) h⟩, by rw [ht]; exact hP, va_K.moved hW.alike hK, hD⟩, hS.F ht⟩) hS.2.2 dX5_rates_77
theorem in_X5_brace_X5 : ∀ w ∈ wsX50, w ∈ wsX5_brace := fun w h => List.mem_cons_of_mem _ (List.mem_append_right _ h)
set_option maxHeartbeats 4000000 in
set_option maxRecDepth 100000 in
/-- brace -/
theorem c5_brace (l : Launch) (dC : Nat → ClassId) (dI : Nat → Nat → Nat) (a0 aT aE aG aR aN aS aQ aW aX : Nat) (cD cI : ClassId) (th : Int32) (iw ih : Nat) (fa fb fd : UInt64) (ib : Nat) (mk : Bool) (im iq : Nat) (tT : Nat → UInt64) (tE : Nat → Int32) (tG tR tN tS tQ : Nat → UInt64) (tW : Nat → Int32) (tX : Nat → UInt64) (x0 y0 x1 y1 : Int32) (v : UInt64) (hw6 : iw ≤ 6) (hh6 : ih ≤ 6) (hb12 : ib ≤ 12) (sz : Nat) : Met l yX5_brace wsX5_brace ({ frames := 1, cells := 0, slots := 0, locals := 25 } : Room) (va_Pc [.ref a0, .int x0, .int y0, .int x1, .int y1, .double v] (fun U => U.heap.size = sz ∧ va_P (dC, dI) vwCl (w5 a0 aT aE aG aR aN aS aQ aW aX cD cI th iw ih fa fb fd ib mk im iq tT tE tG tR tN tS tQ tW tX) U.heap ∧ va_K (dC, dI) vwCl [(cD, .double), (cI, .int)] U ∧ va_D (fun _ => True) (w5 a0 aT aE aG aR aN aS aQ aW aX cD cI th iw ih fa fb fd ib mk im iq tT tE tG tR tN tS tQ tW tX))) (va_Qi (fun (r : Int32) (u : Int32 × Nat × Bool × (Nat → Int32) × (Nat → UInt64)) => u.1 = nI (zcB iw ih ib x0 y0 x1 y1 (zv v)) ∧ (zcB iw ih ib x0 y0 x1 y1 (zv v) = 0 → r = nI (ib + 1) ∧ u.2.1 = ib + 1 ∧ u.2.2.1 = false ∧ u.2.2.2.1 = zu (zu (zu (zu tE (4 * ib) (nI (zmin (zn x0) (zn x1)))) (4 * ib + 1) (nI (zmin (zn y0) (zn y1)))) (4 * ib + 2) (nI (zmax (zn x0) (zn x1)))) (4 * ib + 3) (nI (zmax (zn y0) (zn y1))) ∧ u.2.2.2.2 = zu tG ib v) ∧ (¬ zcB iw ih ib x0 y0 x1 y1 (zv v) = 0 → u.2.1 = ib ∧ u.2.2.1 = mk ∧ u.2.2.2.1 = tE ∧ u.2.2.2.2 = tG)) (fun u t => (va_P (dC, dI) vwCl (w5 a0 aT aE aG aR aN aS aQ aW aX cD cI u.1 iw ih fa fb fd u.2.1 u.2.2.1 im iq tT u.2.2.2.1 u.2.2.2.2 tR tN tS tQ tW tX) t.heap ∧ va_K (dC, dI) vwCl [(cD, .double), (cI, .int)] t ∧ va_D (va_A (w5 a0 aT aE aG aR aN aS aQ aW aX cD cI th iw ih fa fb fd ib mk im iq tT tE tG tR tN tS tQ tW tX) sz) (w5 a0 aT aE aG aR aN aS aQ aW aX cD cI u.1 iw ih fa fb fd u.2.1 u.2.2.1 im iq tT u.2.2.2.1 u.2.2.2.2 tR tN tS tQ tW tX))) (va_A (w5 a0 aT aE aG aR aN aS aQ aW aX cD cI th iw ih fa fb fd ib mk im iq tT tE tG tR tN tS tQ tW tX) sz)) 0 0 (va_A (w5 a0 aT aE aG aR aN aS aQ aW aX cD cI th iw ih fa fb fd ib mk im iq tT tE tG tR tN tS tQ tW tX) sz) := by
  refine Met.ofW (cc := cX5_brace) (maxL := 8) (ret := (some .int)) (by decide) rfl ?_
  intro p e s m args below meth c s₁ B hml hv
  obtain ⟨rfl, hsz, hP, hK, hD0⟩ := hv
  have hx := B.exec
  have hb := B.bytes
  have hr := B.returns
  have hts := atoms_spec (ws := wsX5_brace) B.pre
  have hown : s.vm.findClass RX5 = some m.cls := findClass_of_methodNamed B.named
  have hlocks := B.notSynchronized
  subst hsz
  have hD := hD0.self (sz := s.heap.size)
  generalize hAe : va_A (w5 a0 aT aE aG aR aN aS aQ aW aX cD cI th iw ih fa fb fd ib mk im iq tT tE tG tR tN tS tQ tW tX) s.heap.size = A at hD ⊢
  have hA : ∀ q : Nat, s.heap.size ≤ q → A q := fun q h => by rw [← hAe]; exact Or.inr h
  have hS : va_S A s.heap s.heap [] := va_S.rf
  have hl := lv_entry ([.ref a0, .int x0, .int y0, .int x1, .int y1, .double v]) (n := 8) (Nat.le_of_ble_eq_true rfl)
  rw [lg_entry_eq]
  generalize (lg_sl ([.ref a0, .int x0, .int y0, .int x1, .int y1, .double v]) ++ List.replicate (8 - (lg_sl ([.ref a0, .int x0, .int y0, .int x1, .int y1, .double v])).length) Slot.unset).toArray = ls at hl ⊢
  have hl : lv_has ls 8 [(0, .ref a0), (1, .int x0), (2, .int y0), (3, .int x1), (4, .int y1), (5, .double v)] := hl
  have J_29 : ∀ (ln : Bool) (H : Heap) (locs : List Loc) (ls : Array Slot), (ln = decide (zline2 x0 y0 x1 y1)) → va_P (dC, dI) vwCl (w5 a0 aT aE aG aR aN aS aQ aW aX cD cI th iw ih fa fb fd ib mk im iq tT tE tG tR tN tS tQ tW tX) H → va_D A (w5 a0 aT aE aG aR aN aS aQ aW aX cD cI th iw ih fa fb fd ib mk im iq tT tE tG tR tN tS tQ tW tX) → va_S A s.heap H locs → lv_has ls 8 [(0, .ref a0), (1, .int x0), (2, .int y0), (3, .int x1), (4, .int y1), (5, .double v)] → W p l e (headSpec wsX5_brace ({ frames := 1, cells := 0, slots := 0, locals := 25 } : Room)).room s m ([.ref a0, .int x0, .int y0, .int x1, .int y1, .double v] : List Value).toArray below meth c H locs 0 0 (MQ below (va_Qi (fun (r : Int32) (u : Int32 × Nat × Bool × (Nat → Int32) × (Nat → UInt64)) => u.1 = nI (zcB iw ih ib x0 y0 x1 y1 (zv v)) ∧ (zcB iw ih ib x0 y0 x1 y1 (zv v) = 0 → r = nI (ib + 1) ∧ u.2.1 = ib + 1 ∧ u.2.2.1 = false ∧ u.2.2.2.1 = zu (zu (zu (zu tE (4 * ib) (nI (zmin (zn x0) (zn x1)))) (4 * ib + 1) (nI (zmin (zn y0) (zn y1)))) (4 * ib + 2) (nI (zmax (zn x0) (zn x1)))) (4 * ib + 3) (nI (zmax (zn y0) (zn y1))) ∧ u.2.2.2.2 = zu tG ib v) ∧ (¬ zcB iw ih ib x0 y0 x1 y1 (zv v) = 0 → u.2.1 = ib ∧ u.2.2.1 = mk ∧ u.2.2.2.1 = tE ∧ u.2.2.2.2 = tG)) (fun u t => (va_P (dC, dI) vwCl (w5 a0 aT aE aG aR aN aS aQ aW aX cD cI u.1 iw ih fa fb fd u.2.1 u.2.2.1 im iq tT u.2.2.2.1 u.2.2.2.2 tR tN tS tQ tW tX) t.heap ∧ va_K (dC, dI) vwCl [(cD, .double), (cI, .int)] t ∧ va_D A (w5 a0 aT aE aG aR aN aS aQ aW aX cD cI u.1 iw ih fa fb fd u.2.1 u.2.2.1 im iq tT u.2.2.2.1 u.2.2.2.2 tR tN tS tQ tW tX))) A) ([.ref a0, .int x0, .int y0, .int x1, .int y1, .double v] : List Value).toArray s 0 0 A) (F0 m 29 ls [.int (zb ln)]) := by
    intro ln H locs ls hln hP hD hS hl
    refine lv_istore (lv' := [(7, .int (zb ln)), (0, .ref a0), (1, .int x0), (2, .int y0), (3, .int x1), (4, .int y1), (5, .double v)]) hx hb dX5_brace_29 hl (by decide) rfl (fun ls hl => ?_)
    refine lv_aload_n hx hb dX5_brace_31 rfl (lv_at hl 1 rfl) ?_
    refine lv_aload_n hx hb dX5_brace_32 rfl (lv_at hl 1 rfl) ?_
    refine lv_iload_n hx hb dX5_brace_33 rfl (lv_at hl 2 rfl) ?_
    refine lv_iload_n hx hb dX5_brace_34 rfl (lv_at hl 3 rfl) ?_
    have hPc := hP
    refine va_calli (va_runV (As := [.int x0, .int y0]) (rest := [.ref a0]) ⟨hx, hb, hml, hown, hts⟩ (c5_noCell l dC dI a0 aT aE aG aR aN aS aQ aW aX cD cI th iw ih fa fb fd ib mk im iq tT tE tG tR tN tS tQ tW tX x0 y0) (cwV 2 hts gX5_brace_X5_noCell rfl rfl rfl (by decide +kernel) ⟨Nat.le_of_ble_eq_true rfl, Nat.le_of_ble_eq_true rfl⟩) ⟨zfb, va_recv hK hP (ci := 5) (q0 := 0) rfl rfl, zpre hPc hK⟩ rfl rfl hl.1 rfl (lv_room (Nat.le_of_ble_eq_true rfl)) dX5_brace_35 ⟨Nat.le_of_ble_eq_true rfl, Nat.le_of_ble_eq_true rfl⟩) hS (fun q _ h => h.elim) (fun q h => h.elim) (fun r1 u9 t9 H locs ht9 hvm9 hr1 hB9 hz9 hk1 hS => ?_)
    have hP := zro1 hP hk1
    subst hr1
    refine z_if_ne_p (tgt := 51) hx hb (zncl iw ih x0 y0) dX5_brace_38 (by decide) (fun c2 => ?_) (fun c3 => ?_)
    · skip
      have c_38 := c2
      refine lv_iconst (v := (nI 1)) hx hb dX5_brace_51 (by decide) ?_
      refine lv_goto (tgt := 92) hx hb dX5_brace_52 (by decide) ?_
      refine va_put (D := (dC, dI)) (ci := 5) (v := .int (nI 1)) (ty := .int) (C := RX5) (T := TX5) (N := 19) hx hb hts (in_X5_brace_X5) tyX5 tyX5_ok nmX5 hown hK hP hD hS 0 rfl rfl 0 (by decide) (hts (.fieldLink RX5 55 "PlateModesModel" "thrown" "I") (by decide +kernel)) (fun _ h9 => h9) rfl (by decide +kernel) rfl rfl (Nat.le_of_ble_eq_true rfl) dX5_brace_92 (fun H locs hP hD hS => ?_)
      have hP : va_P (dC, dI) vwCl (w5 a0 aT aE aG aR aN aS aQ aW aX cD cI (nI 1) iw ih fa fb fd ib mk im iq tT tE tG tR tN tS tQ tW tX) H := hP
      have hD : va_D A (w5 a0 aT aE aG aR aN aS aQ aW aX cD cI (nI 1) iw ih fa fb fd ib mk im iq tT tE tG tR tN tS tQ tW tX) := hD
      refine lv_aload_n hx hb dX5_brace_95 rfl (lv_at hl 1 rfl) ?_
      refine va_get (D := (dC, dI)) (ci := 5) (v := .int (nI 1)) (C := RX5) (T := TX5) (N := 19) hx hb hts (in_X5_brace_X5) hown hK hP 0 rfl rfl 0 (by decide) (hts (.fieldLink RX5 55 "PlateModesModel" "thrown" "I") (by decide +kernel)) (fun _ h9 => h9) rfl dX5_brace_96 ?_
      refine z_if_le (tgt := 104) hx hb (by omega) dX5_brace_99 (by decide) (fun c4 => ?_) (fun c5 => ?_)
      · skip
        exact absurd c4 (by decide)
      · skip
        refine lv_iconst (v := (nI 0)) hx hb dX5_brace_102 (by decide) ?_
        exact W.iret (v := (nI 0)) hx hb hr (fun t ht hW => ⟨⟨(nI 0), ((nI 1), ib, mk, tE, tG), rfl, ⟨congrArg nI (if_pos (by first | exact Or.inl c_38 | exact Or.inr c_48)).symm, fun h => absurd ((if_pos (by first | exact Or.inl c_38 | exact Or.inr c_48)).symm.trans h) (by decide), fun _ => ⟨rfl, rfl, rfl, rfl⟩⟩, by rw [ht]; exact hP, va_K.moved hW.alike hK, hD⟩, hS.F ht⟩) hS.2.2 dX5_brace_103
    · skip
      have c_38 := c3
      refine lv_aload_n hx hb dX5_brace_41 rfl (lv_at hl 1 rfl) ?_
      refine lv_iload_n hx hb dX5_brace_42 rfl (lv_at hl 4 rfl) ?_
      refine lv_iload hx hb dX5_brace_43 (lv_at hl 5 rfl) ?_
      have hPc := hP
      refine va_calli (va_runV (As := [.int x1, .int y1]) (rest := [.ref a0]) ⟨hx, hb, hml, hown, hts⟩ (c5_noCell l dC dI a0 aT aE aG aR aN aS aQ aW aX cD cI th iw ih fa fb fd ib mk im iq tT tE tG tR tN tS tQ tW tX x1 y1) (cwV 2 hts gX5_brace_X5_noCell rfl rfl rfl (by decide +kernel) ⟨Nat.le_of_ble_eq_true rfl, Nat.le_of_ble_eq_true rfl⟩) ⟨zfb, va_recv hK hP (ci := 5) (q0 := 0) rfl rfl, zpre hPc hK⟩ rfl rfl hl.1 rfl (lv_room (Nat.le_of_ble_eq_true rfl)) dX5_brace_45 ⟨Nat.le_of_ble_eq_true rfl, Nat.le_of_ble_eq_true rfl⟩) hS (fun q _ h => h.elim) (fun q h => h.elim) (fun r6 u9 t9 H locs ht9 hvm9 hr6 hB9 hz9 hk1 hS => ?_)
      have hP := zro1 hP hk1
      subst hr6
      refine z_if_eq_p (tgt := 55) hx hb (zncl iw ih x1 y1) dX5_brace_48 (by decide) (fun c7 => ?_) (fun c8 => ?_)
      · skip
        have c_48 := c7
        refine lv_iload hx hb dX5_brace_55 (lv_at hl 0 rfl) ?_
        refine z_if_eq_b (tgt := 74) hx hb dX5_brace_57 (by decide) (fun c9 => ?_) (fun c10 => ?_)
        · skip
          have c_57 := c9
          refine lv_iconst (v := (nI 2)) hx hb dX5_brace_74 (by decide) ?_
          refine lv_goto (tgt := 92) hx hb dX5_brace_75 (by decide) ?_
          refine va_put (D := (dC, dI)) (ci := 5) (v := .int (nI 2)) (ty := .int) (C := RX5) (T := TX5) (N := 19) hx hb hts (in_X5_brace_X5) tyX5 tyX5_ok nmX5 hown hK hP hD hS 0 rfl rfl 0 (by decide) (hts (.fieldLink RX5 55 "PlateModesModel" "thrown" "I") (by decide +kernel)) (fun _ h9 => h9) rfl (by decide +kernel) rfl rfl (Nat.le_of_ble_eq_true rfl) dX5_brace_92 (fun H locs hP hD hS => ?_)
          have hP : va_P (dC, dI) vwCl (w5 a0 aT aE aG aR aN aS aQ aW aX cD cI (nI 2) iw ih fa fb fd ib mk im iq tT tE tG tR tN tS tQ tW tX) H := hP
          have hD : va_D A (w5 a0 aT aE aG aR aN aS aQ aW aX cD cI (nI 2) iw ih fa fb fd ib mk im iq tT tE tG tR tN tS tQ tW tX) := hD
          refine lv_aload_n hx hb dX5_brace_95 rfl (lv_at hl 1 rfl) ?_
          refine va_get (D := (dC, dI)) (ci := 5) (v := .int (nI 2)) (C := RX5) (T := TX5) (N := 19) hx hb hts (in_X5_brace_X5) hown hK hP 0 rfl rfl 0 (by decide) (hts (.fieldLink RX5 55 "PlateModesModel" "thrown" "I") (by decide +kernel)) (fun _ h9 => h9) rfl dX5_brace_96 ?_
          refine z_if_le (tgt := 104) hx hb (by omega) dX5_brace_99 (by decide) (fun c11 => ?_) (fun c12 => ?_)
          · skip
            exact absurd c11 (by decide)
          · skip
            refine lv_iconst (v := (nI 0)) hx hb dX5_brace_102 (by decide) ?_
            exact W.iret (v := (nI 0)) hx hb hr (fun t ht hW => ⟨⟨(nI 0), ((nI 2), ib, mk, tE, tG), rfl, ⟨congrArg nI ((if_neg (fun q => q.elim c_38 c_48)).trans (if_pos (by first | exact Or.inl (of_decide_eq_false (hln.symm.trans c_57)) | exact Or.inr c_71))).symm, fun h => absurd (((if_neg (fun q => q.elim c_38 c_48)).trans (if_pos (by first | exact Or.inl (of_decide_eq_false (hln.symm.trans c_57)) | exact Or.inr c_71))).symm.trans h) (by decide), fun _ => ⟨rfl, rfl, rfl, rfl⟩⟩, by rw [ht]; exact hP, va_K.moved hW.alike hK, hD⟩, hS.F ht⟩) hS.2.2 dX5_brace_103
        · skip
          have c_57 := c10
          refine lv_dload hx hb dX5_brace_60 (lv_at hl 6 rfl) ?_
          refine lv_ldc2d (v := 4593671619917905920) hx hb hown (hts (.constantDouble RX5 64 (4593671619917905920)) (by decide +kernel)) dX5_brace_62 ?_
          refine lv_ldc2d (v := 4620693217682128896) hx hb hown (hts (.constantDouble RX5 66 (4620693217682128896)) (by decide +kernel)) dX5_brace_65 ?_
          refine va_calli (va_runS (As := [.double v, .double 4593671619917905920, .double 4620693217682128896]) (rest := [.ref a0]) ⟨hx, hb, hml, hown, hts⟩ (c5_between l v 4593671619917905920 4620693217682128896) (va_cwS 3 hts gX5_brace_X5_between rfl rfl rfl (by decide +kernel) ⟨Nat.le_of_ble_eq_true rfl, Nat.le_of_ble_eq_true rfl⟩) ⟨zfb0, zpre0⟩ rfl rfl hl.1 rfl (lv_room (Nat.le_of_ble_eq_true rfl)) dX5_brace_68 ⟨Nat.le_of_ble_eq_true rfl, Nat.le_of_ble_eq_true rfl⟩) hS (fun q _ h => h.elim) (fun q h => h.elim) (fun r13 u9 t9 H locs ht9 hvm9 hr13 hB9 hz9 hk1 hS => ?_)
          have hP := zro1 hP hk1
          have hr13 : r13 = zb (zbt (zv v) (zv 4593671619917905920) (zv 4620693217682128896)) := hr13
          subst hr13
          refine z_if_ne_b (tgt := 78) hx hb dX5_brace_71 (by decide) (fun c14 => ?_) (fun c15 => ?_)
          · skip
            have c_71 := c14
            refine lv_aload_n hx hb dX5_brace_78 rfl (lv_at hl 1 rfl) ?_
            refine va_get (D := (dC, dI)) (ci := 5) (v := .int (nI ib)) (C := RX5) (T := TX5) (N := 19) hx hb hts (in_X5_brace_X5) hown hK hP 0 rfl rfl 7 (by decide) (hts (.fieldLink RX5 76 "PlateModesModel" "braces" "I") (by decide +kernel)) (fun _ h9 => h9) rfl dX5_brace_79 ?_
            refine lv_bipush (v := (nI 12)) hx hb dX5_brace_82 (by decide) ?_
            refine z_icmp_ne (a := ib) (b := 12) (tgt := 91) hx hb (by omega) (by omega) dX5_brace_84 (by decide) (fun c16 => ?_) (fun c17 => ?_)
            · skip
              have c_84 := c16
              obtain ⟨x0n, y0n, hx0, hy0, rfl, rfl⟩ := zcl_of hw6 hh6 c_38
              obtain ⟨x1n, y1n, hx1, hy1, rfl, rfl⟩ := zcl_of hw6 hh6 c_48
              refine lv_iconst (v := (nI 0)) hx hb dX5_brace_91 (by decide) ?_
              refine va_put (D := (dC, dI)) (ci := 5) (v := .int (nI 0)) (ty := .int) (C := RX5) (T := TX5) (N := 19) hx hb hts (in_X5_brace_X5) tyX5 tyX5_ok nmX5 hown hK hP hD hS 0 rfl rfl 0 (by decide) (hts (.fieldLink RX5 55 "PlateModesModel" "thrown" "I") (by decide +kernel)) (fun _ h9 => h9) rfl (by decide +kernel) rfl rfl (Nat.le_of_ble_eq_true rfl) dX5_brace_92 (fun H locs hP hD hS => ?_)
              have hP : va_P (dC, dI) vwCl (w5 a0 aT aE aG aR aN aS aQ aW aX cD cI (nI 0) iw ih fa fb fd ib mk im iq tT tE tG tR tN tS tQ tW tX) H := hP
              have hD : va_D A (w5 a0 aT aE aG aR aN aS aQ aW aX cD cI (nI 0) iw ih fa fb fd ib mk im iq tT tE tG tR tN tS tQ tW tX) := hD
              refine lv_aload_n hx hb dX5_brace_95 rfl (lv_at hl 1 rfl) ?_
              refine va_get (D := (dC, dI)) (ci := 5) (v := .int (nI 0)) (C := RX5) (T := TX5) (N := 19) hx hb hts (in_X5_brace_X5) hown hK hP 0 rfl rfl 0 (by decide) (hts (.fieldLink RX5 55 "PlateModesModel" "thrown" "I") (by decide +kernel)) (fun _ h9 => h9) rfl dX5_brace_96 ?_
              refine z_if_le (tgt := 104) hx hb (by omega) dX5_brace_99 (by decide) (fun c18 => ?_) (fun c19 => ?_)
              · skip
                have J_124 : ∀ (m0 : Nat) (H : Heap) (locs : List Loc) (ls : Array Slot), (m0 = zmin x0n x1n) → va_P (dC, dI) vwCl (w5 a0 aT aE aG aR aN aS aQ aW aX cD cI (nI 0) iw ih fa fb fd ib mk im iq tT tE tG tR tN tS tQ tW tX) H → va_D A (w5 a0 aT aE aG aR aN aS aQ aW aX cD cI (nI 0) iw ih fa fb fd ib mk im iq tT tE tG tR tN tS tQ tW tX) → va_S A s.heap H locs → lv_has ls 8 [(0, .ref a0), (1, .int (nI x0n)), (2, .int (nI y0n)), (3, .int (nI x1n)), (4, .int (nI y1n)), (5, .double v)] → W p l e (headSpec wsX5_brace ({ frames := 1, cells := 0, slots := 0, locals := 25 } : Room)).room s m ([.ref a0, .int (nI x0n), .int (nI y0n), .int (nI x1n), .int (nI y1n), .double v] : List Value).toArray below meth c H locs 0 0 (MQ below (va_Qi (fun (r : Int32) (u : Int32 × Nat × Bool × (Nat → Int32) × (Nat → UInt64)) => u.1 = nI (zcB iw ih ib (nI x0n) (nI y0n) (nI x1n) (nI y1n) (zv v)) ∧ (zcB iw ih ib (nI x0n) (nI y0n) (nI x1n) (nI y1n) (zv v) = 0 → r = nI (ib + 1) ∧ u.2.1 = ib + 1 ∧ u.2.2.1 = false ∧ u.2.2.2.1 = zu (zu (zu (zu tE (4 * ib) (nI (zmin (zn (nI x0n)) (zn (nI x1n))))) (4 * ib + 1) (nI (zmin (zn (nI y0n)) (zn (nI y1n))))) (4 * ib + 2) (nI (zmax (zn (nI x0n)) (zn (nI x1n))))) (4 * ib + 3) (nI (zmax (zn (nI y0n)) (zn (nI y1n)))) ∧ u.2.2.2.2 = zu tG ib v) ∧ (¬ zcB iw ih ib (nI x0n) (nI y0n) (nI x1n) (nI y1n) (zv v) = 0 → u.2.1 = ib ∧ u.2.2.1 = mk ∧ u.2.2.2.1 = tE ∧ u.2.2.2.2 = tG)) (fun u t => (va_P (dC, dI) vwCl (w5 a0 aT aE aG aR aN aS aQ aW aX cD cI u.1 iw ih fa fb fd u.2.1 u.2.2.1 im iq tT u.2.2.2.1 u.2.2.2.2 tR tN tS tQ tW tX) t.heap ∧ va_K (dC, dI) vwCl [(cD, .double), (cI, .int)] t ∧ va_D A (w5 a0 aT aE aG aR aN aS aQ aW aX cD cI u.1 iw ih fa fb fd u.2.1 u.2.2.1 im iq tT u.2.2.2.1 u.2.2.2.2 tR tN tS tQ tW tX))) A) ([.ref a0, .int (nI x0n), .int (nI y0n), .int (nI x1n), .int (nI y1n), .double v] : List Value).toArray s 0 0 A) (F0 m 124 ls [.int (nI m0), .int (nI (4 * ib)), .ref aE]) := by
                  intro m0 H locs ls hm0 hP hD hS hl
                  refine z_iast (n := 48) (i := 4 * ib) hx hb hK hP hD hS 2 1 rfl rfl (by omega) (by decide) dX5_brace_124 (fun H locs hP hD hS => ?_)
                  have hP : va_P (dC, dI) vwCl (w5 a0 aT aE aG aR aN aS aQ aW aX cD cI (nI 0) iw ih fa fb fd ib mk im iq tT (zu tE (4 * ib) (nI m0)) tG tR tN tS tQ tW tX) H := hP
                  have hD : va_D A (w5 a0 aT aE aG aR aN aS aQ aW aX cD cI (nI 0) iw ih fa fb fd ib mk im iq tT (zu tE (4 * ib) (nI m0)) tG tR tN tS tQ tW tX) := hD
                  have J_149 : ∀ (m1 : Nat) (H : Heap) (locs : List Loc) (ls : Array Slot), (m1 = zmin y0n y1n) → va_P (dC, dI) vwCl (w5 a0 aT aE aG aR aN aS aQ aW aX cD cI (nI 0) iw ih fa fb fd ib mk im iq tT (zu tE (4 * ib) (nI m0)) tG tR tN tS tQ tW tX) H → va_D A (w5 a0 aT aE aG aR aN aS aQ aW aX cD cI (nI 0) iw ih fa fb fd ib mk im iq tT (zu tE (4 * ib) (nI m0)) tG tR tN tS tQ tW tX) → va_S A s.heap H locs → lv_has ls 8 [(0, .ref a0), (1, .int (nI x0n)), (2, .int (nI y0n)), (3, .int (nI x1n)), (4, .int (nI y1n)), (5, .double v)] → W p l e (headSpec wsX5_brace ({ frames := 1, cells := 0, slots := 0, locals := 25 } : Room)).room s m ([.ref a0, .int (nI x0n), .int (nI y0n), .int (nI x1n), .int (nI y1n), .double v] : List Value).toArray below meth c H locs 0 0 (MQ below (va_Qi (fun (r : Int32) (u : Int32 × Nat × Bool × (Nat → Int32) × (Nat → UInt64)) => u.1 = nI (zcB iw ih ib (nI x0n) (nI y0n) (nI x1n) (nI y1n) (zv v)) ∧ (zcB iw ih ib (nI x0n) (nI y0n) (nI x1n) (nI y1n) (zv v) = 0 → r = nI (ib + 1) ∧ u.2.1 = ib + 1 ∧ u.2.2.1 = false ∧ u.2.2.2.1 = zu (zu (zu (zu tE (4 * ib) (nI (zmin (zn (nI x0n)) (zn (nI x1n))))) (4 * ib + 1) (nI (zmin (zn (nI y0n)) (zn (nI y1n))))) (4 * ib + 2) (nI (zmax (zn (nI x0n)) (zn (nI x1n))))) (4 * ib + 3) (nI (zmax (zn (nI y0n)) (zn (nI y1n)))) ∧ u.2.2.2.2 = zu tG ib v) ∧ (¬ zcB iw ih ib (nI x0n) (nI y0n) (nI x1n) (nI y1n) (zv v) = 0 → u.2.1 = ib ∧ u.2.2.1 = mk ∧ u.2.2.2.1 = tE ∧ u.2.2.2.2 = tG)) (fun u t => (va_P (dC, dI) vwCl (w5 a0 aT aE aG aR aN aS aQ aW aX cD cI u.1 iw ih fa fb fd u.2.1 u.2.2.1 im iq tT u.2.2.2.1 u.2.2.2.2 tR tN tS tQ tW tX) t.heap ∧ va_K (dC, dI) vwCl [(cD, .double), (cI, .int)] t ∧ va_D A (w5 a0 aT aE aG aR aN aS aQ aW aX cD cI u.1 iw ih fa fb fd u.2.1 u.2.2.1 im iq tT u.2.2.2.1 u.2.2.2.2 tR tN tS tQ tW tX))) A) ([.ref a0, .int (nI x0n), .int (nI y0n), .int (nI x1n), .int (nI y1n), .double v] : List Value).toArray s 0 0 A) (F0 m 149 ls [.int (nI m1), .int (nI (4 * ib + 1)), .ref aE]) := by
                    intro m1 H locs ls hm1 hP hD hS hl
                    refine z_iast (n := 48) (i := 4 * ib + 1) hx hb hK hP hD hS 2 1 rfl rfl (by omega) (by decide) dX5_brace_149 (fun H locs hP hD hS => ?_)
                    have hP : va_P (dC, dI) vwCl (w5 a0 aT aE aG aR aN aS aQ aW aX cD cI (nI 0) iw ih fa fb fd ib mk im iq tT (zu (zu tE (4 * ib) (nI m0)) (4 * ib + 1) (nI m1)) tG tR tN tS tQ tW tX) H := hP
                    have hD : va_D A (w5 a0 aT aE aG aR aN aS aQ aW aX cD cI (nI 0) iw ih fa fb fd ib mk im iq tT (zu (zu tE (4 * ib) (nI m0)) (4 * ib + 1) (nI m1)) tG tR tN tS tQ tW tX) := hD
                    have J_172 : ∀ (m2 : Nat) (H : Heap) (locs : List Loc) (ls : Array Slot), (m2 = zmax x0n x1n) → va_P (dC, dI) vwCl (w5 a0 aT aE aG aR aN aS aQ aW aX cD cI (nI 0) iw ih fa fb fd ib mk im iq tT (zu (zu tE (4 * ib) (nI m0)) (4 * ib + 1) (nI m1)) tG tR tN tS tQ tW tX) H → va_D A (w5 a0 aT aE aG aR aN aS aQ aW aX cD cI (nI 0) iw ih fa fb fd ib mk im iq tT (zu (zu tE (4 * ib) (nI m0)) (4 * ib + 1) (nI m1)) tG tR tN tS tQ tW tX) → va_S A s.heap H locs → lv_has ls 8 [(0, .ref a0), (1, .int (nI x0n)), (2, .int (nI y0n)), (3, .int (nI x1n)), (4, .int (nI y1n)), (5, .double v)] → W p l e (headSpec wsX5_brace ({ frames := 1, cells := 0, slots := 0, locals := 25 } : Room)).room s m ([.ref a0, .int (nI x0n), .int (nI y0n), .int (nI x1n), .int (nI y1n), .double v] : List Value).toArray below meth c H locs 0 0 (MQ below (va_Qi (fun (r : Int32) (u : Int32 × Nat × Bool × (Nat → Int32) × (Nat → UInt64)) => u.1 = nI (zcB iw ih ib (nI x0n) (nI y0n) (nI x1n) (nI y1n) (zv v)) ∧ (zcB iw ih ib (nI x0n) (nI y0n) (nI x1n) (nI y1n) (zv v) = 0 → r = nI (ib + 1) ∧ u.2.1 = ib + 1 ∧ u.2.2.1 = false ∧ u.2.2.2.1 = zu (zu (zu (zu tE (4 * ib) (nI (zmin (zn (nI x0n)) (zn (nI x1n))))) (4 * ib + 1) (nI (zmin (zn (nI y0n)) (zn (nI y1n))))) (4 * ib + 2) (nI (zmax (zn (nI x0n)) (zn (nI x1n))))) (4 * ib + 3) (nI (zmax (zn (nI y0n)) (zn (nI y1n)))) ∧ u.2.2.2.2 = zu tG ib v) ∧ (¬ zcB iw ih ib (nI x0n) (nI y0n) (nI x1n) (nI y1n) (zv v) = 0 → u.2.1 = ib ∧ u.2.2.1 = mk ∧ u.2.2.2.1 = tE ∧ u.2.2.2.2 = tG)) (fun u t => (va_P (dC, dI) vwCl (w5 a0 aT aE aG aR aN aS aQ aW aX cD cI u.1 iw ih fa fb fd u.2.1 u.2.2.1 im iq tT u.2.2.2.1 u.2.2.2.2 tR tN tS tQ tW tX) t.heap ∧ va_K (dC, dI) vwCl [(cD, .double), (cI, .int)] t ∧ va_D A (w5 a0 aT aE aG aR aN aS aQ aW aX cD cI u.1 iw ih fa fb fd u.2.1 u.2.2.1 im iq tT u.2.2.2.1 u.2.2.2.2 tR tN tS tQ tW tX))) A) ([.ref a0, .int (nI x0n), .int (nI y0n), .int (nI x1n), .int (nI y1n), .double v] : List Value).toArray s 0 0 A) (F0 m 172 ls [.int (nI m2), .int (nI (4 * ib + 2)), .ref aE]) := by
                      intro m2 H locs ls hm2 hP hD hS hl
                      refine z_iast (n := 48) (i := 4 * ib + 2) hx hb hK hP hD hS 2 1 rfl rfl (by omega) (by decide) dX5_brace_172 (fun H locs hP hD hS => ?_)
                      have hP : va_P (dC, dI) vwCl (w5 a0 aT aE aG aR aN aS aQ aW aX cD cI (nI 0) iw ih fa fb fd ib mk im iq tT (zu (zu (zu tE (4 * ib) (nI m0)) (4 * ib + 1) (nI m1)) (4 * ib + 2) (nI m2)) tG tR tN tS tQ tW tX) H := hP
                      have hD : va_D A (w5 a0 aT aE aG aR aN aS aQ aW aX cD cI (nI 0) iw ih fa fb fd ib mk im iq tT (zu (zu (zu tE (4 * ib) (nI m0)) (4 * ib + 1) (nI m1)) (4 * ib + 2) (nI m2)) tG tR tN tS tQ tW tX) := hD
                      have J_197 : ∀ (m3 : Nat) (H : Heap) (locs : List Loc) (ls : Array Slot), (m3 = zmax y0n y1n) → va_P (dC, dI) vwCl (w5 a0 aT aE aG aR aN aS aQ aW aX cD cI (nI 0) iw ih fa fb fd ib mk im iq tT (zu (zu (zu tE (4 * ib) (nI m0)) (4 * ib + 1) (nI m1)) (4 * ib + 2) (nI m2)) tG tR tN tS tQ tW tX) H → va_D A (w5 a0 aT aE aG aR aN aS aQ aW aX cD cI (nI 0) iw ih fa fb fd ib mk im iq tT (zu (zu (zu tE (4 * ib) (nI m0)) (4 * ib + 1) (nI m1)) (4 * ib + 2) (nI m2)) tG tR tN tS tQ tW tX) → va_S A s.heap H locs → lv_has ls 8 [(0, .ref a0), (1, .int (nI x0n)), (2, .int (nI y0n)), (3, .int (nI x1n)), (4, .int (nI y1n)), (5, .double v)] → W p l e (headSpec wsX5_brace ({ frames := 1, cells := 0, slots := 0, locals := 25 } : Room)).room s m ([.ref a0, .int (nI x0n), .int (nI y0n), .int (nI x1n), .int (nI y1n), .double v] : List Value).toArray below meth c H locs 0 0 (MQ below (va_Qi (fun (r : Int32) (u : Int32 × Nat × Bool × (Nat → Int32) × (Nat → UInt64)) => u.1 = nI (zcB iw ih ib (nI x0n) (nI y0n) (nI x1n) (nI y1n) (zv v)) ∧ (zcB iw ih ib (nI x0n) (nI y0n) (nI x1n) (nI y1n) (zv v) = 0 → r = nI (ib + 1) ∧ u.2.1 = ib + 1 ∧ u.2.2.1 = false ∧ u.2.2.2.1 = zu (zu (zu (zu tE (4 * ib) (nI (zmin (zn (nI x0n)) (zn (nI x1n))))) (4 * ib + 1) (nI (zmin (zn (nI y0n)) (zn (nI y1n))))) (4 * ib + 2) (nI (zmax (zn (nI x0n)) (zn (nI x1n))))) (4 * ib + 3) (nI (zmax (zn (nI y0n)) (zn (nI y1n)))) ∧ u.2.2.2.2 = zu tG ib v) ∧ (¬ zcB iw ih ib (nI x0n) (nI y0n) (nI x1n) (nI y1n) (zv v) = 0 → u.2.1 = ib ∧ u.2.2.1 = mk ∧ u.2.2.2.1 = tE ∧ u.2.2.2.2 = tG)) (fun u t => (va_P (dC, dI) vwCl (w5 a0 aT aE aG aR aN aS aQ aW aX cD cI u.1 iw ih fa fb fd u.2.1 u.2.2.1 im iq tT u.2.2.2.1 u.2.2.2.2 tR tN tS tQ tW tX) t.heap ∧ va_K (dC, dI) vwCl [(cD, .double), (cI, .int)] t ∧ va_D A (w5 a0 aT aE aG aR aN aS aQ aW aX cD cI u.1 iw ih fa fb fd u.2.1 u.2.2.1 im iq tT u.2.2.2.1 u.2.2.2.2 tR tN tS tQ tW tX))) A) ([.ref a0, .int (nI x0n), .int (nI y0n), .int (nI x1n), .int (nI y1n), .double v] : List Value).toArray s 0 0 A) (F0 m 197 ls [.int (nI m3), .int (nI (4 * ib + 3)), .ref aE]) := by
                        intro m3 H locs ls hm3 hP hD hS hl
                        refine z_iast (n := 48) (i := 4 * ib + 3) hx hb hK hP hD hS 2 1 rfl rfl (by omega) (by decide) dX5_brace_197 (fun H locs hP hD hS => ?_)
                        have hP : va_P (dC, dI) vwCl (w5 a0 aT aE aG aR aN aS aQ aW aX cD cI (nI 0) iw ih fa fb fd ib mk im iq tT (zu (zu (zu (zu tE (4 * ib) (nI m0)) (4 * ib + 1) (nI m1)) (4 * ib + 2) (nI m2)) (4 * ib + 3) (nI m3)) tG tR tN tS tQ tW tX) H := hP
                        have hD : va_D A (w5 a0 aT aE aG aR aN aS aQ aW aX cD cI (nI 0) iw ih fa fb fd ib mk im iq tT (zu (zu (zu (zu tE (4 * ib) (nI m0)) (4 * ib + 1) (nI m1)) (4 * ib + 2) (nI m2)) (4 * ib + 3) (nI m3)) tG tR tN tS tQ tW tX) := hD
                        refine lv_aload_n hx hb dX5_brace_198 rfl (lv_at hl 0 rfl) ?_
                        refine va_get (D := (dC, dI)) (ci := 5) (v := .ref aG) (C := RX5) (T := TX5) (N := 19) hx hb hts (in_X5_brace_X5) hown hK hP 0 rfl rfl 9 (by decide) (hts (.fieldLink RX5 27 "PlateModesModel" "heights" "[D") (by decide +kernel)) (fun _ h9 => h9) rfl dX5_brace_199 ?_
                        refine lv_aload_n hx hb dX5_brace_202 rfl (lv_at hl 0 rfl) ?_
                        refine va_get (D := (dC, dI)) (ci := 5) (v := .int (nI ib)) (C := RX5) (T := TX5) (N := 19) hx hb hts (in_X5_brace_X5) hown hK hP 0 rfl rfl 7 (by decide) (hts (.fieldLink RX5 76 "PlateModesModel" "braces" "I") (by decide +kernel)) (fun _ h9 => h9) rfl dX5_brace_203 ?_
                        refine lv_dload hx hb dX5_brace_206 (lv_at hl 5 rfl) ?_
                        refine z_dast (n := 12) (i := ib) hx hb hK hP hD hS 3 0 rfl rfl (by omega) (by decide) dX5_brace_208 (fun H locs hP hD hS => ?_)
                        have hP : va_P (dC, dI) vwCl (w5 a0 aT aE aG aR aN aS aQ aW aX cD cI (nI 0) iw ih fa fb fd ib mk im iq tT (zu (zu (zu (zu tE (4 * ib) (nI m0)) (4 * ib + 1) (nI m1)) (4 * ib + 2) (nI m2)) (4 * ib + 3) (nI m3)) (zu tG ib v) tR tN tS tQ tW tX) H := hP
                        have hD : va_D A (w5 a0 aT aE aG aR aN aS aQ aW aX cD cI (nI 0) iw ih fa fb fd ib mk im iq tT (zu (zu (zu (zu tE (4 * ib) (nI m0)) (4 * ib + 1) (nI m1)) (4 * ib + 2) (nI m2)) (4 * ib + 3) (nI m3)) (zu tG ib v) tR tN tS tQ tW tX) := hD
                        refine lv_aload_n hx hb dX5_brace_209 rfl (lv_at hl 0 rfl) ?_
                        refine lv_dup hx hb dX5_brace_210 rfl ?_
                        refine va_get (D := (dC, dI)) (ci := 5) (v := .int (nI ib)) (C := RX5) (T := TX5) (N := 19) hx hb hts (in_X5_brace_X5) hown hK hP 0 rfl rfl 7 (by decide) (hts (.fieldLink RX5 76 "PlateModesModel" "braces" "I") (by decide +kernel)) (fun _ h9 => h9) rfl dX5_brace_211 ?_
                        refine lv_iconst (v := (nI 1)) hx hb dX5_brace_214 (by decide) ?_
                        refine t_iadd hx hb dX5_brace_215 (v := nI (ib + 1)) (zi_add (by omega)) ?_
                        refine va_put (D := (dC, dI)) (ci := 5) (v := .int (nI (ib + 1))) (ty := .int) (C := RX5) (T := TX5) (N := 19) hx hb hts (in_X5_brace_X5) tyX5 tyX5_ok nmX5 hown hK hP hD hS 0 rfl rfl 7 (by decide) (hts (.fieldLink RX5 76 "PlateModesModel" "braces" "I") (by decide +kernel)) (fun _ h9 => h9) rfl (by decide +kernel) rfl rfl (Nat.le_of_ble_eq_true rfl) dX5_brace_216 (fun H locs hP hD hS => ?_)
                        have hP : va_P (dC, dI) vwCl (w5 a0 aT aE aG aR aN aS aQ aW aX cD cI (nI 0) iw ih fa fb fd (ib + 1) mk im iq tT (zu (zu (zu (zu tE (4 * ib) (nI m0)) (4 * ib + 1) (nI m1)) (4 * ib + 2) (nI m2)) (4 * ib + 3) (nI m3)) (zu tG ib v) tR tN tS tQ tW tX) H := hP
                        have hD : va_D A (w5 a0 aT aE aG aR aN aS aQ aW aX cD cI (nI 0) iw ih fa fb fd (ib + 1) mk im iq tT (zu (zu (zu (zu tE (4 * ib) (nI m0)) (4 * ib + 1) (nI m1)) (4 * ib + 2) (nI m2)) (4 * ib + 3) (nI m3)) (zu tG ib v) tR tN tS tQ tW tX) := hD
                        refine lv_aload_n hx hb dX5_brace_219 rfl (lv_at hl 0 rfl) ?_
                        refine lv_iconst (v := (nI 0)) hx hb dX5_brace_220 (by decide) ?_
                        refine va_put (D := (dC, dI)) (ci := 5) (v := .int (zb false)) (ty := .boolean) (C := RX5) (T := TX5) (N := 19) hx hb hts (in_X5_brace_X5) tyX5 tyX5_ok nmX5 hown hK hP hD hS 0 rfl rfl 12 (by decide) (hts (.fieldLink RX5 72 "PlateModesModel" "made" "Z") (by decide +kernel)) (fun _ h9 => h9) rfl (by decide +kernel) rfl rfl (Nat.le_of_ble_eq_true rfl) dX5_brace_221 (fun H locs hP hD hS => ?_)
                        have hP : va_P (dC, dI) vwCl (w5 a0 aT aE aG aR aN aS aQ aW aX cD cI (nI 0) iw ih fa fb fd (ib + 1) false im iq tT (zu (zu (zu (zu tE (4 * ib) (nI m0)) (4 * ib + 1) (nI m1)) (4 * ib + 2) (nI m2)) (4 * ib + 3) (nI m3)) (zu tG ib v) tR tN tS tQ tW tX) H := hP
                        have hD : va_D A (w5 a0 aT aE aG aR aN aS aQ aW aX cD cI (nI 0) iw ih fa fb fd (ib + 1) false im iq tT (zu (zu (zu (zu tE (4 * ib) (nI m0)) (4 * ib + 1) (nI m1)) (4 * ib + 2) (nI m2)) (4 * ib + 3) (nI m3)) (zu tG ib v) tR tN tS tQ tW tX) := hD
                        refine lv_aload_n hx hb dX5_brace_224 rfl (lv_at hl 0 rfl) ?_
                        refine va_get (D := (dC, dI)) (ci := 5) (v := .int (nI (ib + 1))) (C := RX5) (T := TX5) (N := 19) hx hb hts (in_X5_brace_X5) hown hK hP 0 rfl rfl 7 (by decide) (hts (.fieldLink RX5 76 "PlateModesModel" "braces" "I") (by decide +kernel)) (fun _ h9 => h9) rfl dX5_brace_225 ?_
                        exact W.iret (v := (nI (ib + 1))) hx hb hr (fun t ht hW => ⟨⟨(nI (ib + 1)), ((nI 0), ib + 1, false, zu (zu (zu (zu tE (4 * ib) (nI m0)) (4 * ib + 1) (nI m1)) (4 * ib + 2) (nI m2)) (4 * ib + 3) (nI m3), zu tG ib v), rfl, ⟨congrArg nI ((if_neg (fun q => q.elim c_38 c_48)).trans ((if_neg (fun q => q.elim (fun z => z (of_decide_eq_true (hln.symm.trans c_57))) (fun z => absurd (z.symm.trans c_71) (by decide)))).trans (if_neg c_84))).symm, fun _ => by rw [zn_nI (by omega), zn_nI (by omega), zn_nI (by omega), zn_nI (by omega), ← hm0, ← hm1, ← hm2, ← hm3]; exact ⟨rfl, rfl, rfl, rfl, rfl⟩, fun h => absurd ((if_neg (fun q => q.elim c_38 c_48)).trans ((if_neg (fun q => q.elim (fun z => z (of_decide_eq_true (hln.symm.trans c_57))) (fun z => absurd (z.symm.trans c_71) (by decide)))).trans (if_neg c_84))) h⟩, by rw [ht]; exact hP, va_K.moved hW.alike hK, hD⟩, hS.F ht⟩) hS.2.2 dX5_brace_228
                      refine lv_aload_n hx hb dX5_brace_173 rfl (lv_at hl 0 rfl) ?_
                      refine va_get (D := (dC, dI)) (ci := 5) (v := .ref aE) (C := RX5) (T := TX5) (N := 19) hx hb hts (in_X5_brace_X5) hown hK hP 0 rfl rfl 8 (by decide) (hts (.fieldLink RX5 23 "PlateModesModel" "ends" "[I") (by decide +kernel)) (fun _ h9 => h9) rfl dX5_brace_174 ?_
                      refine lv_iconst (v := (nI 4)) hx hb dX5_brace_177 (by decide) ?_
                      refine lv_aload_n hx hb dX5_brace_178 rfl (lv_at hl 0 rfl) ?_
                      refine va_get (D := (dC, dI)) (ci := 5) (v := .int (nI ib)) (C := RX5) (T := TX5) (N := 19) hx hb hts (in_X5_brace_X5) hown hK hP 0 rfl rfl 7 (by decide) (hts (.fieldLink RX5 76 "PlateModesModel" "braces" "I") (by decide +kernel)) (fun _ h9 => h9) rfl dX5_brace_179 ?_
                      refine t_imul hx hb dX5_brace_182 (v := nI (4 * ib)) (zi_mul rfl) ?_
                      refine lv_iconst (v := (nI 3)) hx hb dX5_brace_183 (by decide) ?_
                      refine t_iadd hx hb dX5_brace_184 (v := nI (4 * ib + 3)) (zi_add (by omega)) ?_
                      refine lv_iload_n hx hb dX5_brace_185 rfl (lv_at hl 2 rfl) ?_
                      refine lv_iload hx hb dX5_brace_186 (lv_at hl 4 rfl) ?_
                      refine z_icmp_ge (a := y0n) (b := y1n) (tgt := 196) hx hb (by omega) (by omega) dX5_brace_188 (by decide) (fun c20 => ?_) (fun c21 => ?_)
                      · skip
                        refine lv_iload_n hx hb dX5_brace_196 rfl (lv_at hl 2 rfl) ?_
                        exact J_197 y0n _ _ _ ((if_neg (show ¬ y0n < y1n from by omega)).symm) hP hD hS hl
                      · skip
                        refine lv_iload hx hb dX5_brace_191 (lv_at hl 4 rfl) ?_
                        refine lv_goto (tgt := 197) hx hb dX5_brace_193 (by decide) ?_
                        exact J_197 y1n _ _ _ ((if_pos (show y0n < y1n from by omega)).symm) hP hD hS hl
                    refine lv_aload_n hx hb dX5_brace_150 rfl (lv_at hl 0 rfl) ?_
                    refine va_get (D := (dC, dI)) (ci := 5) (v := .ref aE) (C := RX5) (T := TX5) (N := 19) hx hb hts (in_X5_brace_X5) hown hK hP 0 rfl rfl 8 (by decide) (hts (.fieldLink RX5 23 "PlateModesModel" "ends" "[I") (by decide +kernel)) (fun _ h9 => h9) rfl dX5_brace_151 ?_
                    refine lv_iconst (v := (nI 4)) hx hb dX5_brace_154 (by decide) ?_
                    refine lv_aload_n hx hb dX5_brace_155 rfl (lv_at hl 0 rfl) ?_
                    refine va_get (D := (dC, dI)) (ci := 5) (v := .int (nI ib)) (C := RX5) (T := TX5) (N := 19) hx hb hts (in_X5_brace_X5) hown hK hP 0 rfl rfl 7 (by decide) (hts (.fieldLink RX5 76 "PlateModesModel" "braces" "I") (by decide +kernel)) (fun _ h9 => h9) rfl dX5_brace_156 ?_
                    refine t_imul hx hb dX5_brace_159 (v := nI (4 * ib)) (zi_mul rfl) ?_
                    refine lv_iconst (v := (nI 2)) hx hb dX5_brace_160 (by decide) ?_
                    refine t_iadd hx hb dX5_brace_161 (v := nI (4 * ib + 2)) (zi_add (by omega)) ?_
                    refine lv_iload_n hx hb dX5_brace_162 rfl (lv_at hl 1 rfl) ?_
                    refine lv_iload_n hx hb dX5_brace_163 rfl (lv_at hl 3 rfl) ?_
                    refine z_icmp_ge (a := x0n) (b := x1n) (tgt := 171) hx hb (by omega) (by omega) dX5_brace_164 (by decide) (fun c22 => ?_) (fun c23 => ?_)
                    · skip
                      refine lv_iload_n hx hb dX5_brace_171 rfl (lv_at hl 1 rfl) ?_
                      exact J_172 x0n _ _ _ ((if_neg (show ¬ x0n < x1n from by omega)).symm) hP hD hS hl
                    · skip
                      refine lv_iload_n hx hb dX5_brace_167 rfl (lv_at hl 3 rfl) ?_
                      refine lv_goto (tgt := 172) hx hb dX5_brace_168 (by decide) ?_
                      exact J_172 x1n _ _ _ ((if_pos (show x0n < x1n from by omega)).symm) hP hD hS hl
                  refine lv_aload_n hx hb dX5_brace_125 rfl (lv_at hl 0 rfl) ?_
                  refine va_get (D := (dC, dI)) (ci := 5) (v := .ref aE) (C := RX5) (T := TX5) (N := 19) hx hb hts (in_X5_brace_X5) hown hK hP 0 rfl rfl 8 (by decide) (hts (.fieldLink RX5 23 "PlateModesModel" "ends" "[I") (by decide +kernel)) (fun _ h9 => h9) rfl dX5_brace_126 ?_
                  refine lv_iconst (v := (nI 4)) hx hb dX5_brace_129 (by decide) ?_
                  refine lv_aload_n hx hb dX5_brace_130 rfl (lv_at hl 0 rfl) ?_
                  refine va_get (D := (dC, dI)) (ci := 5) (v := .int (nI ib)) (C := RX5) (T := TX5) (N := 19) hx hb hts (in_X5_brace_X5) hown hK hP 0 rfl rfl 7 (by decide) (hts (.fieldLink RX5 76 "PlateModesModel" "braces" "I") (by decide +kernel)) (fun _ h9 => h9) rfl dX5_brace_131 ?_
                  refine t_imul hx hb dX5_brace_134 (v := nI (4 * ib)) (zi_mul rfl) ?_
                  refine lv_iconst (v := (nI 1)) hx hb dX5_brace_135 (by decide) ?_
                  refine t_iadd hx hb dX5_brace_136 (v := nI (4 * ib + 1)) (zi_add (by omega)) ?_
                  refine lv_iload_n hx hb dX5_brace_137 rfl (lv_at hl 2 rfl) ?_
                  refine lv_iload hx hb dX5_brace_138 (lv_at hl 4 rfl) ?_
                  refine z_icmp_ge (a := y0n) (b := y1n) (tgt := 147) hx hb (by omega) (by omega) dX5_brace_140 (by decide) (fun c24 => ?_) (fun c25 => ?_)
                  · skip
                    refine lv_iload hx hb dX5_brace_147 (lv_at hl 4 rfl) ?_
                    exact J_149 y1n _ _ _ ((if_neg (show ¬ y0n < y1n from by omega)).symm) hP hD hS hl
                  · skip
                    refine lv_iload_n hx hb dX5_brace_143 rfl (lv_at hl 2 rfl) ?_
                    refine lv_goto (tgt := 149) hx hb dX5_brace_144 (by decide) ?_
                    exact J_149 y0n _ _ _ ((if_pos (show y0n < y1n from by omega)).symm) hP hD hS hl
                refine lv_aload_n hx hb dX5_brace_104 rfl (lv_at hl 1 rfl) ?_
                refine va_get (D := (dC, dI)) (ci := 5) (v := .ref aE) (C := RX5) (T := TX5) (N := 19) hx hb hts (in_X5_brace_X5) hown hK hP 0 rfl rfl 8 (by decide) (hts (.fieldLink RX5 23 "PlateModesModel" "ends" "[I") (by decide +kernel)) (fun _ h9 => h9) rfl dX5_brace_105 ?_
                refine lv_iconst (v := (nI 4)) hx hb dX5_brace_108 (by decide) ?_
                refine lv_aload_n hx hb dX5_brace_109 rfl (lv_at hl 1 rfl) ?_
                refine va_get (D := (dC, dI)) (ci := 5) (v := .int (nI ib)) (C := RX5) (T := TX5) (N := 19) hx hb hts (in_X5_brace_X5) hown hK hP 0 rfl rfl 7 (by decide) (hts (.fieldLink RX5 76 "PlateModesModel" "braces" "I") (by decide +kernel)) (fun _ h9 => h9) rfl dX5_brace_110 ?_
                refine t_imul hx hb dX5_brace_113 (v := nI (4 * ib)) (zi_mul rfl) ?_
                refine lv_iload_n hx hb dX5_brace_114 rfl (lv_at hl 2 rfl) ?_
                refine lv_iload_n hx hb dX5_brace_115 rfl (lv_at hl 4 rfl) ?_
                refine z_icmp_ge (a := x0n) (b := x1n) (tgt := 123) hx hb (by omega) (by omega) dX5_brace_116 (by decide) (fun c26 => ?_) (fun c27 => ?_)
                · skip
                  refine lv_iload_n hx hb dX5_brace_123 rfl (lv_at hl 4 rfl) ?_
                  exact J_124 x1n _ _ _ ((if_neg (show ¬ x0n < x1n from by omega)).symm) hP hD hS (lv_sub hl [1, 2, 3, 4, 5, 6] rfl)
                · skip
                  refine lv_iload_n hx hb dX5_brace_119 rfl (lv_at hl 2 rfl) ?_
                  refine lv_goto (tgt := 124) hx hb dX5_brace_120 (by decide) ?_
                  exact J_124 x0n _ _ _ ((if_pos (show x0n < x1n from by omega)).symm) hP hD hS (lv_sub hl [1, 2, 3, 4, 5, 6] rfl)
              · skip
                exact absurd c19 (by decide)
            · skip
              have c_84 := c17
              refine lv_iconst (v := (nI 3)) hx hb dX5_brace_87 (by decide) ?_
              refine lv_goto (tgt := 92) hx hb dX5_brace_88 (by decide) ?_
              refine va_put (D := (dC, dI)) (ci := 5) (v := .int (nI 3)) (ty := .int) (C := RX5) (T := TX5) (N := 19) hx hb hts (in_X5_brace_X5) tyX5 tyX5_ok nmX5 hown hK hP hD hS 0 rfl rfl 0 (by decide) (hts (.fieldLink RX5 55 "PlateModesModel" "thrown" "I") (by decide +kernel)) (fun _ h9 => h9) rfl (by decide +kernel) rfl rfl (Nat.le_of_ble_eq_true rfl) dX5_brace_92 (fun H locs hP hD hS => ?_)
              have hP : va_P (dC, dI) vwCl (w5 a0 aT aE aG aR aN aS aQ aW aX cD cI (nI 3) iw ih fa fb fd ib mk im iq tT tE tG tR tN tS tQ tW tX) H := hP
              have hD : va_D A (w5 a0 aT aE aG aR aN aS aQ aW aX cD cI (nI 3) iw ih fa fb fd ib mk im iq tT tE tG tR tN tS tQ tW tX) := hD
              refine lv_aload_n hx hb dX5_brace_95 rfl (lv_at hl 1 rfl) ?_
              refine va_get (D := (dC, dI)) (ci := 5) (v := .int (nI 3)) (C := RX5) (T := TX5) (N := 19) hx hb hts (in_X5_brace_X5) hown hK hP 0 rfl rfl 0 (by decide) (hts (.fieldLink RX5 55 "PlateModesModel" "thrown" "I") (by decide +kernel)) (fun _ h9 => h9) rfl dX5_brace_96 ?_
              refine z_if_le (tgt := 104) hx hb (by omega) dX5_brace_99 (by decide) (fun c28 => ?_) (fun c29 => ?_)
              · skip
                exact absurd c28 (by decide)
              · skip
                refine lv_iconst (v := (nI 0)) hx hb dX5_brace_102 (by decide) ?_
                exact W.iret (v := (nI 0)) hx hb hr (fun t ht hW => ⟨⟨(nI 0), ((nI 3), ib, mk, tE, tG), rfl, ⟨congrArg nI ((if_neg (fun q => q.elim c_38 c_48)).trans ((if_neg (fun q => q.elim (fun z => z (of_decide_eq_true (hln.symm.trans c_57))) (fun z => absurd (z.symm.trans c_71) (by decide)))).trans (if_pos c_84))).symm, fun h => absurd (((if_neg (fun q => q.elim c_38 c_48)).trans ((if_neg (fun q => q.elim (fun z => z (of_decide_eq_true (hln.symm.trans c_57))) (fun z => absurd (z.symm.trans c_71) (by decide)))).trans (if_pos c_84))).symm.trans h) (by decide), fun _ => ⟨rfl, rfl, rfl, rfl⟩⟩, by rw [ht]; exact hP, va_K.moved hW.alike hK, hD⟩, hS.F ht⟩) hS.2.2 dX5_brace_103
          · skip
            have c_71 := c15
            refine lv_iconst (v := (nI 2)) hx hb dX5_brace_74 (by decide) ?_
            refine lv_goto (tgt := 92) hx hb dX5_brace_75 (by decide) ?_
            refine va_put (D := (dC, dI)) (ci := 5) (v := .int (nI 2)) (ty := .int) (C := RX5) (T := TX5) (N := 19) hx hb hts (in_X5_brace_X5) tyX5 tyX5_ok nmX5 hown hK hP hD hS 0 rfl rfl 0 (by decide) (hts (.fieldLink RX5 55 "PlateModesModel" "thrown" "I") (by decide +kernel)) (fun _ h9 => h9) rfl (by decide +kernel) rfl rfl (Nat.le_of_ble_eq_true rfl) dX5_brace_92 (fun H locs hP hD hS => ?_)
            have hP : va_P (dC, dI) vwCl (w5 a0 aT aE aG aR aN aS aQ aW aX cD cI (nI 2) iw ih fa fb fd ib mk im iq tT tE tG tR tN tS tQ tW tX) H := hP
            have hD : va_D A (w5 a0 aT aE aG aR aN aS aQ aW aX cD cI (nI 2) iw ih fa fb fd ib mk im iq tT tE tG tR tN tS tQ tW tX) := hD
            refine lv_aload_n hx hb dX5_brace_95 rfl (lv_at hl 1 rfl) ?_
            refine va_get (D := (dC, dI)) (ci := 5) (v := .int (nI 2)) (C := RX5) (T := TX5) (N := 19) hx hb hts (in_X5_brace_X5) hown hK hP 0 rfl rfl 0 (by decide) (hts (.fieldLink RX5 55 "PlateModesModel" "thrown" "I") (by decide +kernel)) (fun _ h9 => h9) rfl dX5_brace_96 ?_
            refine z_if_le (tgt := 104) hx hb (by omega) dX5_brace_99 (by decide) (fun c30 => ?_) (fun c31 => ?_)
            · skip
              exact absurd c30 (by decide)
            · skip
              refine lv_iconst (v := (nI 0)) hx hb dX5_brace_102 (by decide) ?_
              exact W.iret (v := (nI 0)) hx hb hr (fun t ht hW => ⟨⟨(nI 0), ((nI 2), ib, mk, tE, tG), rfl, ⟨congrArg nI ((if_neg (fun q => q.elim c_38 c_48)).trans (if_pos (by first | exact Or.inl (of_decide_eq_false (hln.symm.trans c_57)) | exact Or.inr c_71))).symm, fun h => absurd (((if_neg (fun q => q.elim c_38 c_48)).trans (if_pos (by first | exact Or.inl (of_decide_eq_false (hln.symm.trans c_57)) | exact Or.inr c_71))).symm.trans h) (by decide), fun _ => ⟨rfl, rfl, rfl, rfl⟩⟩, by rw [ht]; exact hP, va_K.moved hW.alike hK, hD⟩, hS.F ht⟩) hS.2.2 dX5_brace_103
      · skip
        have c_48 := c8
        refine lv_iconst (v := (nI 1)) hx hb dX5_brace_51 (by decide) ?_
        refine lv_goto (tgt := 92) hx hb dX5_brace_52 (by decide) ?_
        refine va_put (D := (dC, dI)) (ci := 5) (v := .int (nI 1)) (ty := .int) (C := RX5) (T := TX5) (N := 19) hx hb hts (in_X5_brace_X5) tyX5 tyX5_ok nmX5 hown hK hP hD hS 0 rfl rfl 0 (by decide) (hts (.fieldLink RX5 55 "PlateModesModel" "thrown" "I") (by decide +kernel)) (fun _ h9 => h9) rfl (by decide +kernel) rfl rfl (Nat.le_of_ble_eq_true rfl) dX5_brace_92 (fun H locs hP hD hS => ?_)
        have hP : va_P (dC, dI) vwCl (w5 a0 aT aE aG aR aN aS aQ aW aX cD cI (nI 1) iw ih fa fb fd ib mk im iq tT tE tG tR tN tS tQ tW tX) H := hP
        have hD : va_D A (w5 a0 aT aE aG aR aN aS aQ aW aX cD cI (nI 1) iw ih fa fb fd ib mk im iq tT tE tG tR tN tS tQ tW tX) := hD
        refine lv_aload_n hx hb dX5_brace_95 rfl (lv_at hl 1 rfl) ?_
        refine va_get (D := (dC, dI)) (ci := 5) (v := .int (nI 1)) (C := RX5) (T := TX5) (N := 19) hx hb hts (in_X5_brace_X5) hown hK hP 0 rfl rfl 0 (by decide) (hts (.fieldLink RX5 55 "PlateModesModel" "thrown" "I") (by decide +kernel)) (fun _ h9 => h9) rfl dX5_brace_96 ?_
        refine z_if_le (tgt := 104) hx hb (by omega) dX5_brace_99 (by decide) (fun c32 => ?_) (fun c33 => ?_)
        · skip
          exact absurd c32 (by decide)
        · skip
          refine lv_iconst (v := (nI 0)) hx hb dX5_brace_102 (by decide) ?_
          exact W.iret (v := (nI 0)) hx hb hr (fun t ht hW => ⟨⟨(nI 0), ((nI 1), ib, mk, tE, tG), rfl, ⟨congrArg nI (if_pos (by first | exact Or.inl c_38 | exact Or.inr c_48)).symm, fun h => absurd ((if_pos (by first | exact Or.inl c_38 | exact Or.inr c_48)).symm.trans h) (by decide), fun _ => ⟨rfl, rfl, rfl, rfl⟩⟩, by rw [ht]; exact hP, va_K.moved hW.alike hK, hD⟩, hS.F ht⟩) hS.2.2 dX5_brace_103
  refine lv_iload_n hx hb dX5_brace_0 rfl (lv_at hl 1 rfl) ?_
  refine lv_iload_n hx hb dX5_brace_1 rfl (lv_at hl 3 rfl) ?_
  refine lv_icmp_ne (tgt := 9) hx hb dX5_brace_2 (by decide) (fun c34 => ?_) (fun c35 => ?_)
  · skip
    have c_2 := c34
    refine lv_iconst (v := (nI 0)) hx hb dX5_brace_9 (by decide) ?_
    refine lv_iload_n hx hb dX5_brace_10 rfl (lv_at hl 2 rfl) ?_
    refine lv_iload hx hb dX5_brace_11 (lv_at hl 4 rfl) ?_
    refine lv_icmp_ne (tgt := 20) hx hb dX5_brace_13 (by decide) (fun c36 => ?_) (fun c37 => ?_)
    · skip
      have c_13 := c36
      refine lv_iconst (v := (nI 0)) hx hb dX5_brace_20 (by decide) ?_
      refine z_icmp_eq (a := 0) (b := 0) (tgt := 28) hx hb (by omega) (by omega) dX5_brace_21 (by decide) (fun c38 => ?_) (fun c39 => ?_)
      · skip
        have c_21 := c38
        refine lv_iconst (v := (nI 0)) hx hb dX5_brace_28 (by decide) ?_
        exact J_29 false _ _ _ ((decide_eq_false (fun hh => by obtain ⟨h1, h2⟩ | ⟨h1, h2⟩ := hh <;> first | exact c_2 h1 | exact c_13 h2 | exact h2 c_13 | exact h1 c_2)).symm) hP hD hS hl
      · skip
        have c_21 := c39
        exact absurd c39 (by decide)
    · skip
      have c_13 := c37
      refine lv_iconst (v := (nI 1)) hx hb dX5_brace_16 (by decide) ?_
      refine lv_goto (tgt := 21) hx hb dX5_brace_17 (by decide) ?_
      refine z_icmp_eq (a := 0) (b := 1) (tgt := 28) hx hb (by omega) (by omega) dX5_brace_21 (by decide) (fun c40 => ?_) (fun c41 => ?_)
      · skip
        have c_21 := c40
        exact absurd c40 (by decide)
      · skip
        have c_21 := c41
        refine lv_iconst (v := (nI 1)) hx hb dX5_brace_24 (by decide) ?_
        refine lv_goto (tgt := 29) hx hb dX5_brace_25 (by decide) ?_
        exact J_29 true _ _ _ ((decide_eq_true (by first | exact Or.inl ⟨c_2, c_13⟩ | exact Or.inr ⟨c_2, c_13⟩)).symm) hP hD hS hl
  · skip
    have c_2 := c35
    refine lv_iconst (v := (nI 1)) hx hb dX5_brace_5 (by decide) ?_
    refine lv_goto (tgt := 10) hx hb dX5_brace_6 (by decide) ?_
    refine lv_iload_n hx hb dX5_brace_10 rfl (lv_at hl 2 rfl) ?_
    refine lv_iload hx hb dX5_brace_11 (lv_at hl 4 rfl) ?_
    refine lv_icmp_ne (tgt := 20) hx hb dX5_brace_13 (by decide) (fun c42 => ?_) (fun c43 => ?_)
    · skip
      have c_13 := c42
      refine lv_iconst (v := (nI 0)) hx hb dX5_brace_20 (by decide) ?_
      refine z_icmp_eq (a := 1) (b := 0) (tgt := 28) hx hb (by omega) (by omega) dX5_brace_21 (by decide) (fun c44 => ?_) (fun c45 => ?_)
      · skip
        have c_21 := c44
        exact absurd c44 (by decide)
      · skip
        have c_21 := c45
        refine lv_iconst (v := (nI 1)) hx hb dX5_brace_24 (by decide) ?_
        refine lv_goto (tgt := 29) hx hb dX5_brace_25 (by decide) ?_
        exact J_29 true _ _ _ ((decide_eq_true (by first | exact Or.inl ⟨c_2, c_13⟩ | exact Or.inr ⟨c_2, c_13⟩)).symm) hP hD hS hl
    · skip
      have c_13 := c43
      refine lv_iconst (v := (nI 1)) hx hb dX5_brace_16 (by decide) ?_
      refine lv_goto (tgt := 21) hx hb dX5_brace_17 (by decide) ?_
      refine z_icmp_eq (a := 1) (b := 1) (tgt := 28) hx hb (by omega) (by omega) dX5_brace_21 (by decide) (fun c46 => ?_) (fun c47 => ?_)
      · skip
        have c_21 := c46
        refine lv_iconst (v := (nI 0)) hx hb dX5_brace_28 (by decide) ?_
        exact J_29 false _ _ _ ((decide_eq_false (fun hh => by obtain ⟨h1, h2⟩ | ⟨h1, h2⟩ := hh <;> first | exact c_2 h1 | exact c_13 h2 | exact h2 c_13 | exact h1 c_2)).symm) hP hD hS hl
      · skip
        have c_21 := c47
        exact absurd c47 (by decide)
theorem in_X5_want_X5 : ∀ w ∈ wsX50, w ∈ wsX5_want := fun w h => List.mem_cons_of_mem _ (List.mem_append_right _ h)
set_option maxHeartbeats 4000000 in
set_option maxRecDepth 100000 in
/-- want -/
theorem c5_want (l : Launch) (dC : Nat → ClassId) (dI : Nat → Nat → Nat) (a0 aT aE aG aR aN aS aQ aW aX : Nat) (cD cI : ClassId) (th : Int32) (iw ih : Nat) (fa fb fd : UInt64) (ib : Nat) (mk : Bool) (im iq : Nat) (tT : Nat → UInt64) (tE : Nat → Int32) (tG tR tN tS tQ : Nat → UInt64) (tW : Nat → Int32) (tX : Nat → UInt64) (k : Int32) (v : UInt64) (hq4 : iq ≤ 4) (sz : Nat) : Met l yX5_want wsX5_want ({ frames := 1, cells := 0, slots := 0, locals := 25 } : Room) (va_Pc [.ref a0, .int k, .double v] (fun U => U.heap.size = sz ∧ va_P (dC, dI) vwCl (w5 a0 aT aE aG aR aN aS aQ aW aX cD cI th iw ih fa fb fd ib mk im iq tT tE tG tR tN tS tQ tW tX) U.heap ∧ va_K (dC, dI) vwCl [(cD, .double), (cI, .int)] U ∧ va_D (fun _ => True) (w5 a0 aT aE aG aR aN aS aQ aW aX cD cI th iw ih fa fb fd ib mk im iq tT tE tG tR tN tS tQ tW tX))) (va_Qi (fun (r : Int32) (u : Int32 × Nat × (Nat → Int32) × (Nat → UInt64)) => u.1 = nI (zcWt iq k (zv v)) ∧ (zcWt iq k (zv v) = 0 → r = nI (iq + 1) ∧ u.2.1 = iq + 1 ∧ u.2.2.1 = zu tW iq k ∧ u.2.2.2 = zu tX iq v) ∧ (¬ zcWt iq k (zv v) = 0 → u.2.1 = iq ∧ u.2.2.1 = tW ∧ u.2.2.2 = tX)) (fun u t => (va_P (dC, dI) vwCl (w5 a0 aT aE aG aR aN aS aQ aW aX cD cI u.1 iw ih fa fb fd ib mk im u.2.1 tT tE tG tR tN tS tQ u.2.2.1 u.2.2.2) t.heap ∧ va_K (dC, dI) vwCl [(cD, .double), (cI, .int)] t ∧ va_D (va_A (w5 a0 aT aE aG aR aN aS aQ aW aX cD cI th iw ih fa fb fd ib mk im iq tT tE tG tR tN tS tQ tW tX) sz) (w5 a0 aT aE aG aR aN aS aQ aW aX cD cI u.1 iw ih fa fb fd ib mk im u.2.1 tT tE tG tR tN tS tQ u.2.2.1 u.2.2.2))) (va_A (w5 a0 aT aE aG aR aN aS aQ aW aX cD cI th iw ih fa fb fd ib mk im iq tT tE tG tR tN tS tQ tW tX) sz)) 0 0 (va_A (w5 a0 aT aE aG aR aN aS aQ aW aX cD cI th iw ih fa fb fd ib mk im iq tT tE tG tR tN tS tQ tW tX) sz) := by
  refine Met.ofW (cc := cX5_want) (maxL := 4) (ret := (some .int)) (by decide) rfl ?_
  intro p e s m args below meth c s₁ B hml hv
  obtain ⟨rfl, hsz, hP, hK, hD0⟩ := hv
  have hx := B.exec
  have hb := B.bytes
  have hr := B.returns
  have hts := atoms_spec (ws := wsX5_want) B.pre
  have hown : s.vm.findClass RX5 = some m.cls := findClass_of_methodNamed B.named
  have hlocks := B.notSynchronized
  subst hsz
  have hD := hD0.self (sz := s.heap.size)
  generalize hAe : va_A (w5 a0 aT aE aG aR aN aS aQ aW aX cD cI th iw ih fa fb fd ib mk im iq tT tE tG tR tN tS tQ tW tX) s.heap.size = A at hD ⊢
  have hA : ∀ q : Nat, s.heap.size ≤ q → A q := fun q h => by rw [← hAe]; exact Or.inr h
  have hS : va_S A s.heap s.heap [] := va_S.rf
  have hl := lv_entry ([.ref a0, .int k, .double v]) (n := 4) (Nat.le_of_ble_eq_true rfl)
  rw [lg_entry_eq]
  generalize (lg_sl ([.ref a0, .int k, .double v]) ++ List.replicate (4 - (lg_sl ([.ref a0, .int k, .double v])).length) Slot.unset).toArray = ls at hl ⊢
  have hl : lv_has ls 4 [(0, .ref a0), (1, .int k), (2, .double v)] := hl
  refine lv_aload_n hx hb dX5_want_0 rfl (lv_at hl 0 rfl) ?_
  refine lv_iload_n hx hb dX5_want_1 rfl (lv_at hl 1 rfl) ?_
  refine lv_if_lt (tgt := 10) hx hb dX5_want_2 (by decide) (fun c1 => ?_) (fun c2 => ?_)
  · skip
    have c_2 := c1
    refine lv_iconst (v := (nI 1)) hx hb dX5_want_10 (by decide) ?_
    refine lv_goto (tgt := 42) hx hb dX5_want_11 (by decide) ?_
    refine va_put (D := (dC, dI)) (ci := 5) (v := .int (nI 1)) (ty := .int) (C := RX5) (T := TX5) (N := 19) hx hb hts (in_X5_want_X5) tyX5 tyX5_ok nmX5 hown hK hP hD hS 0 rfl rfl 0 (by decide) (hts (.fieldLink RX5 55 "PlateModesModel" "thrown" "I") (by decide +kernel)) (fun _ h9 => h9) rfl (by decide +kernel) rfl rfl (Nat.le_of_ble_eq_true rfl) dX5_want_42 (fun H locs hP hD hS => ?_)
    have hP : va_P (dC, dI) vwCl (w5 a0 aT aE aG aR aN aS aQ aW aX cD cI (nI 1) iw ih fa fb fd ib mk im iq tT tE tG tR tN tS tQ tW tX) H := hP
    have hD : va_D A (w5 a0 aT aE aG aR aN aS aQ aW aX cD cI (nI 1) iw ih fa fb fd ib mk im iq tT tE tG tR tN tS tQ tW tX) := hD
    refine lv_aload_n hx hb dX5_want_45 rfl (lv_at hl 0 rfl) ?_
    refine va_get (D := (dC, dI)) (ci := 5) (v := .int (nI 1)) (C := RX5) (T := TX5) (N := 19) hx hb hts (in_X5_want_X5) hown hK hP 0 rfl rfl 0 (by decide) (hts (.fieldLink RX5 55 "PlateModesModel" "thrown" "I") (by decide +kernel)) (fun _ h9 => h9) rfl dX5_want_46 ?_
    refine z_if_le (tgt := 54) hx hb (by omega) dX5_want_49 (by decide) (fun c3 => ?_) (fun c4 => ?_)
    · skip
      exact absurd c3 (by decide)
    · skip
      refine lv_iconst (v := (nI 0)) hx hb dX5_want_52 (by decide) ?_
      exact W.iret (v := (nI 0)) hx hb hr (fun t ht hW => ⟨⟨(nI 0), ((nI 1), iq, tW, tX), rfl, ⟨congrArg nI (if_pos (by first | exact Or.inl c_2 | exact Or.inr (Int32.not_lt.mp c_7))).symm, fun h => absurd ((if_pos (by first | exact Or.inl c_2 | exact Or.inr (Int32.not_lt.mp c_7))).symm.trans h) (by decide), fun _ => ⟨rfl, rfl, rfl⟩⟩, by rw [ht]; exact hP, va_K.moved hW.alike hK, hD⟩, hS.F ht⟩) hS.2.2 dX5_want_53
  · skip
    have c_2 := c2
    refine lv_iload_n hx hb dX5_want_5 rfl (lv_at hl 1 rfl) ?_
    refine lv_iconst (v := (nI 4)) hx hb dX5_want_6 (by decide) ?_
    refine lv_icmp_lt (tgt := 14) hx hb dX5_want_7 (by decide) (fun c5 => ?_) (fun c6 => ?_)
    · skip
      have c_7 := c5
      refine lv_dload_n hx hb dX5_want_14 rfl (lv_at hl 2 rfl) ?_
      refine lv_dconst0 hx hb dX5_want_15 ?_
      refine lv_ldc2d (v := 4634204016564240384) hx hb hown (hts (.constantDouble RX5 141 (4634204016564240384)) (by decide +kernel)) dX5_want_16 ?_
      refine va_calli (va_runS (As := [.double v, .double FP.dconst0, .double 4634204016564240384]) (rest := [.ref a0]) ⟨hx, hb, hml, hown, hts⟩ (c5_between l v FP.dconst0 4634204016564240384) (va_cwS 3 hts gX5_want_X5_between rfl rfl rfl (by decide +kernel) ⟨Nat.le_of_ble_eq_true rfl, Nat.le_of_ble_eq_true rfl⟩) ⟨zfb0, zpre0⟩ rfl rfl hl.1 rfl (lv_room (Nat.le_of_ble_eq_true rfl)) dX5_want_19 ⟨Nat.le_of_ble_eq_true rfl, Nat.le_of_ble_eq_true rfl⟩) hS (fun q _ h => h.elim) (fun q h => h.elim) (fun r7 u9 t9 H locs ht9 hvm9 hr7 hB9 hz9 hk1 hS => ?_)
      have hP := zro1 hP hk1
      have hr7 : r7 = zb (zbt (zv v) z0 (zv 4634204016564240384)) := hr7
      subst hr7
      refine z_if_ne_b (tgt := 29) hx hb dX5_want_22 (by decide) (fun c8 => ?_) (fun c9 => ?_)
      · skip
        have c_22 := c8
        refine lv_aload_n hx hb dX5_want_29 rfl (lv_at hl 0 rfl) ?_
        refine va_get (D := (dC, dI)) (ci := 5) (v := .int (nI iq)) (C := RX5) (T := TX5) (N := 19) hx hb hts (in_X5_want_X5) hown hK hP 0 rfl rfl 16 (by decide) (hts (.fieldLink RX5 143 "PlateModesModel" "wants" "I") (by decide +kernel)) (fun _ h9 => h9) rfl dX5_want_30 ?_
        refine lv_iconst (v := (nI 4)) hx hb dX5_want_33 (by decide) ?_
        refine z_icmp_ne (a := iq) (b := 4) (tgt := 41) hx hb (by omega) (by omega) dX5_want_34 (by decide) (fun c10 => ?_) (fun c11 => ?_)
        · skip
          have c_34 := c10
          have c_m : ¬ znmd k := fun q => q.elim c_2 (fun z => absurd c_7 (Int32.not_lt.mpr z))
          obtain ⟨kn, hk4, rfl⟩ := zmd_of c_m
          refine lv_iconst (v := (nI 0)) hx hb dX5_want_41 (by decide) ?_
          refine va_put (D := (dC, dI)) (ci := 5) (v := .int (nI 0)) (ty := .int) (C := RX5) (T := TX5) (N := 19) hx hb hts (in_X5_want_X5) tyX5 tyX5_ok nmX5 hown hK hP hD hS 0 rfl rfl 0 (by decide) (hts (.fieldLink RX5 55 "PlateModesModel" "thrown" "I") (by decide +kernel)) (fun _ h9 => h9) rfl (by decide +kernel) rfl rfl (Nat.le_of_ble_eq_true rfl) dX5_want_42 (fun H locs hP hD hS => ?_)
          have hP : va_P (dC, dI) vwCl (w5 a0 aT aE aG aR aN aS aQ aW aX cD cI (nI 0) iw ih fa fb fd ib mk im iq tT tE tG tR tN tS tQ tW tX) H := hP
          have hD : va_D A (w5 a0 aT aE aG aR aN aS aQ aW aX cD cI (nI 0) iw ih fa fb fd ib mk im iq tT tE tG tR tN tS tQ tW tX) := hD
          refine lv_aload_n hx hb dX5_want_45 rfl (lv_at hl 0 rfl) ?_
          refine va_get (D := (dC, dI)) (ci := 5) (v := .int (nI 0)) (C := RX5) (T := TX5) (N := 19) hx hb hts (in_X5_want_X5) hown hK hP 0 rfl rfl 0 (by decide) (hts (.fieldLink RX5 55 "PlateModesModel" "thrown" "I") (by decide +kernel)) (fun _ h9 => h9) rfl dX5_want_46 ?_
          refine z_if_le (tgt := 54) hx hb (by omega) dX5_want_49 (by decide) (fun c12 => ?_) (fun c13 => ?_)
          · skip
            refine lv_aload_n hx hb dX5_want_54 rfl (lv_at hl 0 rfl) ?_
            refine va_get (D := (dC, dI)) (ci := 5) (v := .ref aW) (C := RX5) (T := TX5) (N := 19) hx hb hts (in_X5_want_X5) hown hK hP 0 rfl rfl 17 (by decide) (hts (.fieldLink RX5 42 "PlateModesModel" "wanted" "[I") (by decide +kernel)) (fun _ h9 => h9) rfl dX5_want_55 ?_
            refine lv_aload_n hx hb dX5_want_58 rfl (lv_at hl 0 rfl) ?_
            refine va_get (D := (dC, dI)) (ci := 5) (v := .int (nI iq)) (C := RX5) (T := TX5) (N := 19) hx hb hts (in_X5_want_X5) hown hK hP 0 rfl rfl 16 (by decide) (hts (.fieldLink RX5 143 "PlateModesModel" "wants" "I") (by decide +kernel)) (fun _ h9 => h9) rfl dX5_want_59 ?_
            refine lv_iload_n hx hb dX5_want_62 rfl (lv_at hl 1 rfl) ?_
            refine z_iast (n := 4) (i := iq) hx hb hK hP hD hS 8 1 rfl rfl (by omega) (by decide) dX5_want_63 (fun H locs hP hD hS => ?_)
            have hP : va_P (dC, dI) vwCl (w5 a0 aT aE aG aR aN aS aQ aW aX cD cI (nI 0) iw ih fa fb fd ib mk im iq tT tE tG tR tN tS tQ (zu tW iq (nI kn)) tX) H := hP
            have hD : va_D A (w5 a0 aT aE aG aR aN aS aQ aW aX cD cI (nI 0) iw ih fa fb fd ib mk im iq tT tE tG tR tN tS tQ (zu tW iq (nI kn)) tX) := hD
            refine lv_aload_n hx hb dX5_want_64 rfl (lv_at hl 0 rfl) ?_
            refine va_get (D := (dC, dI)) (ci := 5) (v := .ref aX) (C := RX5) (T := TX5) (N := 19) hx hb hts (in_X5_want_X5) hown hK hP 0 rfl rfl 18 (by decide) (hts (.fieldLink RX5 45 "PlateModesModel" "wishes" "[D") (by decide +kernel)) (fun _ h9 => h9) rfl dX5_want_65 ?_
            refine lv_aload_n hx hb dX5_want_68 rfl (lv_at hl 0 rfl) ?_
            refine va_get (D := (dC, dI)) (ci := 5) (v := .int (nI iq)) (C := RX5) (T := TX5) (N := 19) hx hb hts (in_X5_want_X5) hown hK hP 0 rfl rfl 16 (by decide) (hts (.fieldLink RX5 143 "PlateModesModel" "wants" "I") (by decide +kernel)) (fun _ h9 => h9) rfl dX5_want_69 ?_
            refine lv_dload_n hx hb dX5_want_72 rfl (lv_at hl 2 rfl) ?_
            refine z_dast (n := 4) (i := iq) hx hb hK hP hD hS 9 0 rfl rfl (by omega) (by decide) dX5_want_73 (fun H locs hP hD hS => ?_)
            have hP : va_P (dC, dI) vwCl (w5 a0 aT aE aG aR aN aS aQ aW aX cD cI (nI 0) iw ih fa fb fd ib mk im iq tT tE tG tR tN tS tQ (zu tW iq (nI kn)) (zu tX iq v)) H := hP
            have hD : va_D A (w5 a0 aT aE aG aR aN aS aQ aW aX cD cI (nI 0) iw ih fa fb fd ib mk im iq tT tE tG tR tN tS tQ (zu tW iq (nI kn)) (zu tX iq v)) := hD
            refine lv_aload_n hx hb dX5_want_74 rfl (lv_at hl 0 rfl) ?_
            refine lv_dup hx hb dX5_want_75 rfl ?_
            refine va_get (D := (dC, dI)) (ci := 5) (v := .int (nI iq)) (C := RX5) (T := TX5) (N := 19) hx hb hts (in_X5_want_X5) hown hK hP 0 rfl rfl 16 (by decide) (hts (.fieldLink RX5 143 "PlateModesModel" "wants" "I") (by decide +kernel)) (fun _ h9 => h9) rfl dX5_want_76 ?_
            refine lv_iconst (v := (nI 1)) hx hb dX5_want_79 (by decide) ?_
            refine t_iadd hx hb dX5_want_80 (v := nI (iq + 1)) (zi_add (by omega)) ?_
            refine va_put (D := (dC, dI)) (ci := 5) (v := .int (nI (iq + 1))) (ty := .int) (C := RX5) (T := TX5) (N := 19) hx hb hts (in_X5_want_X5) tyX5 tyX5_ok nmX5 hown hK hP hD hS 0 rfl rfl 16 (by decide) (hts (.fieldLink RX5 143 "PlateModesModel" "wants" "I") (by decide +kernel)) (fun _ h9 => h9) rfl (by decide +kernel) rfl rfl (Nat.le_of_ble_eq_true rfl) dX5_want_81 (fun H locs hP hD hS => ?_)
            have hP : va_P (dC, dI) vwCl (w5 a0 aT aE aG aR aN aS aQ aW aX cD cI (nI 0) iw ih fa fb fd ib mk im (iq + 1) tT tE tG tR tN tS tQ (zu tW iq (nI kn)) (zu tX iq v)) H := hP
            have hD : va_D A (w5 a0 aT aE aG aR aN aS aQ aW aX cD cI (nI 0) iw ih fa fb fd ib mk im (iq + 1) tT tE tG tR tN tS tQ (zu tW iq (nI kn)) (zu tX iq v)) := hD
            refine lv_aload_n hx hb dX5_want_84 rfl (lv_at hl 0 rfl) ?_
            refine va_get (D := (dC, dI)) (ci := 5) (v := .int (nI (iq + 1))) (C := RX5) (T := TX5) (N := 19) hx hb hts (in_X5_want_X5) hown hK hP 0 rfl rfl 16 (by decide) (hts (.fieldLink RX5 143 "PlateModesModel" "wants" "I") (by decide +kernel)) (fun _ h9 => h9) rfl dX5_want_85 ?_
            exact W.iret (v := (nI (iq + 1))) hx hb hr (fun t ht hW => ⟨⟨(nI (iq + 1)), ((nI 0), iq + 1, zu tW iq (nI kn), zu tX iq v), rfl, ⟨congrArg nI ((if_neg (fun q => q.elim c_2 (fun z => absurd c_7 (Int32.not_lt.mpr z)))).trans ((if_neg (by rw [c_22]; decide)).trans (if_neg c_34))).symm, fun _ => ⟨rfl, rfl, rfl, rfl⟩, fun h => absurd ((if_neg (fun q => q.elim c_2 (fun z => absurd c_7 (Int32.not_lt.mpr z)))).trans ((if_neg (by rw [c_22]; decide)).trans (if_neg c_34))) h⟩, by rw [ht]; exact hP, va_K.moved hW.alike hK, hD⟩, hS.F ht⟩) hS.2.2 dX5_want_88
          · skip
            exact absurd c13 (by decide)
        · skip
          have c_34 := c11
          refine lv_iconst (v := (nI 3)) hx hb dX5_want_37 (by decide) ?_
          refine lv_goto (tgt := 42) hx hb dX5_want_38 (by decide) ?_
          refine va_put (D := (dC, dI)) (ci := 5) (v := .int (nI 3)) (ty := .int) (C := RX5) (T := TX5) (N := 19) hx hb hts (in_X5_want_X5) tyX5 tyX5_ok nmX5 hown hK hP hD hS 0 rfl rfl 0 (by decide) (hts (.fieldLink RX5 55 "PlateModesModel" "thrown" "I") (by decide +kernel)) (fun _ h9 => h9) rfl (by decide +kernel) rfl rfl (Nat.le_of_ble_eq_true rfl) dX5_want_42 (fun H locs hP hD hS => ?_)
          have hP : va_P (dC, dI) vwCl (w5 a0 aT aE aG aR aN aS aQ aW aX cD cI (nI 3) iw ih fa fb fd ib mk im iq tT tE tG tR tN tS tQ tW tX) H := hP
          have hD : va_D A (w5 a0 aT aE aG aR aN aS aQ aW aX cD cI (nI 3) iw ih fa fb fd ib mk im iq tT tE tG tR tN tS tQ tW tX) := hD
          refine lv_aload_n hx hb dX5_want_45 rfl (lv_at hl 0 rfl) ?_
          refine va_get (D := (dC, dI)) (ci := 5) (v := .int (nI 3)) (C := RX5) (T := TX5) (N := 19) hx hb hts (in_X5_want_X5) hown hK hP 0 rfl rfl 0 (by decide) (hts (.fieldLink RX5 55 "PlateModesModel" "thrown" "I") (by decide +kernel)) (fun _ h9 => h9) rfl dX5_want_46 ?_
          refine z_if_le (tgt := 54) hx hb (by omega) dX5_want_49 (by decide) (fun c14 => ?_) (fun c15 => ?_)
          · skip
            exact absurd c14 (by decide)
          · skip
            refine lv_iconst (v := (nI 0)) hx hb dX5_want_52 (by decide) ?_
            exact W.iret (v := (nI 0)) hx hb hr (fun t ht hW => ⟨⟨(nI 0), ((nI 3), iq, tW, tX), rfl, ⟨congrArg nI ((if_neg (fun q => q.elim c_2 (fun z => absurd c_7 (Int32.not_lt.mpr z)))).trans ((if_neg (by rw [c_22]; decide)).trans (if_pos c_34))).symm, fun h => absurd (((if_neg (fun q => q.elim c_2 (fun z => absurd c_7 (Int32.not_lt.mpr z)))).trans ((if_neg (by rw [c_22]; decide)).trans (if_pos c_34))).symm.trans h) (by decide), fun _ => ⟨rfl, rfl, rfl⟩⟩, by rw [ht]; exact hP, va_K.moved hW.alike hK, hD⟩, hS.F ht⟩) hS.2.2 dX5_want_53
      · skip
        have c_22 := c9
        refine lv_iconst (v := (nI 2)) hx hb dX5_want_25 (by decide) ?_
        refine lv_goto (tgt := 42) hx hb dX5_want_26 (by decide) ?_
        refine va_put (D := (dC, dI)) (ci := 5) (v := .int (nI 2)) (ty := .int) (C := RX5) (T := TX5) (N := 19) hx hb hts (in_X5_want_X5) tyX5 tyX5_ok nmX5 hown hK hP hD hS 0 rfl rfl 0 (by decide) (hts (.fieldLink RX5 55 "PlateModesModel" "thrown" "I") (by decide +kernel)) (fun _ h9 => h9) rfl (by decide +kernel) rfl rfl (Nat.le_of_ble_eq_true rfl) dX5_want_42 (fun H locs hP hD hS => ?_)
        have hP : va_P (dC, dI) vwCl (w5 a0 aT aE aG aR aN aS aQ aW aX cD cI (nI 2) iw ih fa fb fd ib mk im iq tT tE tG tR tN tS tQ tW tX) H := hP
        have hD : va_D A (w5 a0 aT aE aG aR aN aS aQ aW aX cD cI (nI 2) iw ih fa fb fd ib mk im iq tT tE tG tR tN tS tQ tW tX) := hD
        refine lv_aload_n hx hb dX5_want_45 rfl (lv_at hl 0 rfl) ?_
        refine va_get (D := (dC, dI)) (ci := 5) (v := .int (nI 2)) (C := RX5) (T := TX5) (N := 19) hx hb hts (in_X5_want_X5) hown hK hP 0 rfl rfl 0 (by decide) (hts (.fieldLink RX5 55 "PlateModesModel" "thrown" "I") (by decide +kernel)) (fun _ h9 => h9) rfl dX5_want_46 ?_
        refine z_if_le (tgt := 54) hx hb (by omega) dX5_want_49 (by decide) (fun c16 => ?_) (fun c17 => ?_)
        · skip
          exact absurd c16 (by decide)
        · skip
          refine lv_iconst (v := (nI 0)) hx hb dX5_want_52 (by decide) ?_
          exact W.iret (v := (nI 0)) hx hb hr (fun t ht hW => ⟨⟨(nI 0), ((nI 2), iq, tW, tX), rfl, ⟨congrArg nI ((if_neg (fun q => q.elim c_2 (fun z => absurd c_7 (Int32.not_lt.mpr z)))).trans (if_pos c_22)).symm, fun h => absurd (((if_neg (fun q => q.elim c_2 (fun z => absurd c_7 (Int32.not_lt.mpr z)))).trans (if_pos c_22)).symm.trans h) (by decide), fun _ => ⟨rfl, rfl, rfl⟩⟩, by rw [ht]; exact hP, va_K.moved hW.alike hK, hD⟩, hS.F ht⟩) hS.2.2 dX5_want_53
    · skip
      have c_7 := c6
      refine lv_iconst (v := (nI 1)) hx hb dX5_want_10 (by decide) ?_
      refine lv_goto (tgt := 42) hx hb dX5_want_11 (by decide) ?_
      refine va_put (D := (dC, dI)) (ci := 5) (v := .int (nI 1)) (ty := .int) (C := RX5) (T := TX5) (N := 19) hx hb hts (in_X5_want_X5) tyX5 tyX5_ok nmX5 hown hK hP hD hS 0 rfl rfl 0 (by decide) (hts (.fieldLink RX5 55 "PlateModesModel" "thrown" "I") (by decide +kernel)) (fun _ h9 => h9) rfl (by decide +kernel) rfl rfl (Nat.le_of_ble_eq_true rfl) dX5_want_42 (fun H locs hP hD hS => ?_)
      have hP : va_P (dC, dI) vwCl (w5 a0 aT aE aG aR aN aS aQ aW aX cD cI (nI 1) iw ih fa fb fd ib mk im iq tT tE tG tR tN tS tQ tW tX) H := hP
      have hD : va_D A (w5 a0 aT aE aG aR aN aS aQ aW aX cD cI (nI 1) iw ih fa fb fd ib mk im iq tT tE tG tR tN tS tQ tW tX) := hD
      refine lv_aload_n hx hb dX5_want_45 rfl (lv_at hl 0 rfl) ?_
      refine va_get (D := (dC, dI)) (ci := 5) (v := .int (nI 1)) (C := RX5) (T := TX5) (N := 19) hx hb hts (in_X5_want_X5) hown hK hP 0 rfl rfl 0 (by decide) (hts (.fieldLink RX5 55 "PlateModesModel" "thrown" "I") (by decide +kernel)) (fun _ h9 => h9) rfl dX5_want_46 ?_
      refine z_if_le (tgt := 54) hx hb (by omega) dX5_want_49 (by decide) (fun c18 => ?_) (fun c19 => ?_)
      · skip
        exact absurd c18 (by decide)
      · skip
        refine lv_iconst (v := (nI 0)) hx hb dX5_want_52 (by decide) ?_
        exact W.iret (v := (nI 0)) hx hb hr (fun t ht hW => ⟨⟨(nI 0), ((nI 1), iq, tW, tX), rfl, ⟨congrArg nI (if_pos (by first | exact Or.inl c_2 | exact Or.inr (Int32.not_lt.mp c_7))).symm, fun h => absurd ((if_pos (by first | exact Or.inl c_2 | exact Or.inr (Int32.not_lt.mp c_7))).symm.trans h) (by decide), fun _ => ⟨rfl, rfl, rfl⟩⟩, by rw [ht]; exact hP, va_K.moved hW.alike hK, hD⟩, hS.F ht⟩) hS.2.2 dX5_want_53
end
section
theorem zz_last : True := trivial
end
