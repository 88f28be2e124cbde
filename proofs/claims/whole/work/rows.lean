section
-- ===== PART A: goes FIRST, ahead of the names: the tables' words, and 'selects' of the private methods out of them =====
/-- a private method of a class that the tables say can be made, by its rows of tables_1 -/
def lw_okq (q : MethodName × Nat) : Prop := (q.1.cls ≠ "java/lang/invoke/MethodHandle" ∧ q.1.cls ≠ "java/lang/invoke/VarHandle") ∧ Cond.instantiable q.1.cls q.2 ∈ tables_1 ∧ Cond.privateMethod q.1 ∈ tables_1 ∧ Cond.instanceMethod q.1 ∈ tables_1
theorem lw_p0 : lw_okq (⟨"TeapotChoir$Choir", "wear", "(I)V"⟩, 10) := ⟨⟨by decide +kernel, by decide +kernel⟩, List.mem_of_getElem? (i := 22) (by decide +kernel), List.mem_of_getElem? (i := 172) (by decide +kernel), List.mem_of_getElem? (i := 173) (by decide +kernel)⟩
theorem lw_p1 : lw_okq (⟨"TeapotChoir$Choir", "findBarred", "(I)I"⟩, 10) := ⟨⟨by decide +kernel, by decide +kernel⟩, List.mem_of_getElem? (i := 22) (by decide +kernel), List.mem_of_getElem? (i := 194) (by decide +kernel), List.mem_of_getElem? (i := 195) (by decide +kernel)⟩
theorem lw_p2 : lw_okq (⟨"TeapotChoir$Choir", "isGroupInAccord", "(I)Z"⟩, 10) := ⟨⟨by decide +kernel, by decide +kernel⟩, List.mem_of_getElem? (i := 22) (by decide +kernel), List.mem_of_getElem? (i := 204) (by decide +kernel), List.mem_of_getElem? (i := 205) (by decide +kernel)⟩
theorem lw_p3 : lw_okq (⟨"TeapotChoir", "digestPot", "(JI)J"⟩, 2) := ⟨⟨by decide +kernel, by decide +kernel⟩, List.mem_of_getElem? (i := 14) (by decide +kernel), List.mem_of_getElem? (i := 235) (by decide +kernel), List.mem_of_getElem? (i := 236) (by decide +kernel)⟩
theorem lw_p4 : lw_okq (⟨"TeapotChoir", "requirePot", "(I)V"⟩, 2) := ⟨⟨by decide +kernel, by decide +kernel⟩, List.mem_of_getElem? (i := 14) (by decide +kernel), List.mem_of_getElem? (i := 243) (by decide +kernel), List.mem_of_getElem? (i := 244) (by decide +kernel)⟩
theorem lw_p5 : lw_okq (⟨"java/lang/Throwable", "fillInStackTrace", "(I)Ljava/lang/Throwable;"⟩, 6) := ⟨⟨by decide +kernel, by decide +kernel⟩, List.mem_of_getElem? (i := 285) (by decide +kernel), List.mem_of_getElem? (i := 283) (by decide +kernel), List.mem_of_getElem? (i := 284) (by decide +kernel)⟩
theorem lw_p6 : lw_okq (⟨"TeapotChoirModel", "no", "(I)I"⟩, 6) := ⟨⟨by decide +kernel, by decide +kernel⟩, List.mem_of_getElem? (i := 506) (by decide +kernel), List.mem_of_getElem? (i := 542) (by decide +kernel), List.mem_of_getElem? (i := 543) (by decide +kernel)⟩
theorem lw_p7 : lw_okq (⟨"TeapotChoirModel", "isPot", "(I)Z"⟩, 6) := ⟨⟨by decide +kernel, by decide +kernel⟩, List.mem_of_getElem? (i := 506) (by decide +kernel), List.mem_of_getElem? (i := 550) (by decide +kernel), List.mem_of_getElem? (i := 551) (by decide +kernel)⟩
theorem lw_p8 : lw_okq (⟨"TeapotChoirModel", "isNot", "(I)Z"⟩, 6) := ⟨⟨by decide +kernel, by decide +kernel⟩, List.mem_of_getElem? (i := 506) (by decide +kernel), List.mem_of_getElem? (i := 558) (by decide +kernel), List.mem_of_getElem? (i := 559) (by decide +kernel)⟩
theorem lw_p9 : lw_okq (⟨"TeapotChoirModel", "beats", "(I)I"⟩, 6) := ⟨⟨by decide +kernel, by decide +kernel⟩, List.mem_of_getElem? (i := 506) (by decide +kernel), List.mem_of_getElem? (i := 579) (by decide +kernel), List.mem_of_getElem? (i := 580) (by decide +kernel)⟩
theorem lw_p10 : lw_okq (⟨"TeapotChoirModel", "beat", "()I"⟩, 6) := ⟨⟨by decide +kernel, by decide +kernel⟩, List.mem_of_getElem? (i := 506) (by decide +kernel), List.mem_of_getElem? (i := 583) (by decide +kernel), List.mem_of_getElem? (i := 584) (by decide +kernel)⟩
theorem lw_p11 : lw_okq (⟨"TeapotChoirModel", "set", "()I"⟩, 6) := ⟨⟨by decide +kernel, by decide +kernel⟩, List.mem_of_getElem? (i := 506) (by decide +kernel), List.mem_of_getElem? (i := 587) (by decide +kernel), List.mem_of_getElem? (i := 588) (by decide +kernel)⟩
theorem lw_p12 : lw_okq (⟨"TeapotChoirModel", "heard", "(I)Z"⟩, 6) := ⟨⟨by decide +kernel, by decide +kernel⟩, List.mem_of_getElem? (i := 506) (by decide +kernel), List.mem_of_getElem? (i := 591) (by decide +kernel), List.mem_of_getElem? (i := 592) (by decide +kernel)⟩
theorem lw_p13 : lw_okq (⟨"TeapotChoirModel", "allClashes", "(I)I"⟩, 6) := ⟨⟨by decide +kernel, by decide +kernel⟩, List.mem_of_getElem? (i := 506) (by decide +kernel), List.mem_of_getElem? (i := 595) (by decide +kernel), List.mem_of_getElem? (i := 596) (by decide +kernel)⟩
theorem lw_p14 : lw_okq (⟨"TeapotChoirModel", "against", "(II)I"⟩, 6) := ⟨⟨by decide +kernel, by decide +kernel⟩, List.mem_of_getElem? (i := 506) (by decide +kernel), List.mem_of_getElem? (i := 599) (by decide +kernel), List.mem_of_getElem? (i := 600) (by decide +kernel)⟩
theorem lw_p15 : lw_okq (⟨"TeapotChoirModel", "accord", "(II)Z"⟩, 6) := ⟨⟨by decide +kernel, by decide +kernel⟩, List.mem_of_getElem? (i := 506) (by decide +kernel), List.mem_of_getElem? (i := 603) (by decide +kernel), List.mem_of_getElem? (i := 604) (by decide +kernel)⟩
def lw_privs_1 : List (MethodName × Nat) := [(⟨"TeapotChoir$Choir", "wear", "(I)V"⟩, 10), (⟨"TeapotChoir$Choir", "findBarred", "(I)I"⟩, 10), (⟨"TeapotChoir$Choir", "isGroupInAccord", "(I)Z"⟩, 10), (⟨"TeapotChoir", "digestPot", "(JI)J"⟩, 2), (⟨"TeapotChoir", "requirePot", "(I)V"⟩, 2), (⟨"java/lang/Throwable", "fillInStackTrace", "(I)Ljava/lang/Throwable;"⟩, 6), (⟨"TeapotChoirModel", "no", "(I)I"⟩, 6), (⟨"TeapotChoirModel", "isPot", "(I)Z"⟩, 6), (⟨"TeapotChoirModel", "isNot", "(I)Z"⟩, 6), (⟨"TeapotChoirModel", "beats", "(I)I"⟩, 6), (⟨"TeapotChoirModel", "beat", "()I"⟩, 6), (⟨"TeapotChoirModel", "set", "()I"⟩, 6), (⟨"TeapotChoirModel", "heard", "(I)Z"⟩, 6), (⟨"TeapotChoirModel", "allClashes", "(I)I"⟩, 6), (⟨"TeapotChoirModel", "against", "(II)I"⟩, 6), (⟨"TeapotChoirModel", "accord", "(II)Z"⟩, 6)]
theorem lw_r1 : ∀ q ∈ lw_privs_1, lw_okq q := List.forall_mem_cons.mpr ⟨lw_p0, List.forall_mem_cons.mpr ⟨lw_p1, List.forall_mem_cons.mpr ⟨lw_p2, List.forall_mem_cons.mpr ⟨lw_p3, List.forall_mem_cons.mpr ⟨lw_p4, List.forall_mem_cons.mpr ⟨lw_p5, List.forall_mem_cons.mpr ⟨lw_p6, List.forall_mem_cons.mpr ⟨lw_p7, List.forall_mem_cons.mpr ⟨lw_p8, List.forall_mem_cons.mpr ⟨lw_p9, List.forall_mem_cons.mpr ⟨lw_p10, List.forall_mem_cons.mpr ⟨lw_p11, List.forall_mem_cons.mpr ⟨lw_p12, List.forall_mem_cons.mpr ⟨lw_p13, List.forall_mem_cons.mpr ⟨lw_p14, List.forall_mem_cons.mpr ⟨lw_p15, fun _ h => absurd h List.not_mem_nil⟩⟩⟩⟩⟩⟩⟩⟩⟩⟩⟩⟩⟩⟩⟩⟩
theorem lw_p16 : lw_okq (⟨"TeapotChoirModel", "apart", "(II)I"⟩, 6) := ⟨⟨by decide +kernel, by decide +kernel⟩, List.mem_of_getElem? (i := 506) (by decide +kernel), List.mem_of_getElem? (i := 607) (by decide +kernel), List.mem_of_getElem? (i := 608) (by decide +kernel)⟩
theorem lw_p17 : lw_okq (⟨"TeapotChoirModel", "clear", "()Z"⟩, 6) := ⟨⟨by decide +kernel, by decide +kernel⟩, List.mem_of_getElem? (i := 506) (by decide +kernel), List.mem_of_getElem? (i := 612) (by decide +kernel), List.mem_of_getElem? (i := 613) (by decide +kernel)⟩
theorem lw_p18 : lw_okq (⟨"TeapotChoirModel", "ok", "(I)I"⟩, 6) := ⟨⟨by decide +kernel, by decide +kernel⟩, List.mem_of_getElem? (i := 506) (by decide +kernel), List.mem_of_getElem? (i := 622) (by decide +kernel), List.mem_of_getElem? (i := 623) (by decide +kernel)⟩
theorem lw_p19 : lw_okq (⟨"TeapotChoirModel", "of", "(II)I"⟩, 6) := ⟨⟨by decide +kernel, by decide +kernel⟩, List.mem_of_getElem? (i := 506) (by decide +kernel), List.mem_of_getElem? (i := 634) (by decide +kernel), List.mem_of_getElem? (i := 635) (by decide +kernel)⟩
theorem lw_p20 : lw_okq (⟨"TeapotChoirModel", "harmonyOf", "(I)I"⟩, 6) := ⟨⟨by decide +kernel, by decide +kernel⟩, List.mem_of_getElem? (i := 506) (by decide +kernel), List.mem_of_getElem? (i := 674) (by decide +kernel), List.mem_of_getElem? (i := 675) (by decide +kernel)⟩
theorem lw_p21 : lw_okq (⟨"TeapotChoirModel", "clashing", "(I)I"⟩, 6) := ⟨⟨by decide +kernel, by decide +kernel⟩, List.mem_of_getElem? (i := 506) (by decide +kernel), List.mem_of_getElem? (i := 686) (by decide +kernel), List.mem_of_getElem? (i := 687) (by decide +kernel)⟩
theorem lw_p22 : lw_okq (⟨"TeapotChoirModel", "harsh", "()I"⟩, 6) := ⟨⟨by decide +kernel, by decide +kernel⟩, List.mem_of_getElem? (i := 506) (by decide +kernel), List.mem_of_getElem? (i := 694) (by decide +kernel), List.mem_of_getElem? (i := 695) (by decide +kernel)⟩
theorem lw_p23 : lw_okq (⟨"TeapotChoirModel", "low", "()I"⟩, 6) := ⟨⟨by decide +kernel, by decide +kernel⟩, List.mem_of_getElem? (i := 506) (by decide +kernel), List.mem_of_getElem? (i := 702) (by decide +kernel), List.mem_of_getElem? (i := 703) (by decide +kernel)⟩
theorem lw_p24 : lw_okq (⟨"TeapotChoirModel", "tuning", "(I)I"⟩, 6) := ⟨⟨by decide +kernel, by decide +kernel⟩, List.mem_of_getElem? (i := 506) (by decide +kernel), List.mem_of_getElem? (i := 718) (by decide +kernel), List.mem_of_getElem? (i := 719) (by decide +kernel)⟩
theorem lw_p25 : lw_okq (⟨"TeapotChoirModel", "mute", "()I"⟩, 6) := ⟨⟨by decide +kernel, by decide +kernel⟩, List.mem_of_getElem? (i := 506) (by decide +kernel), List.mem_of_getElem? (i := 726) (by decide +kernel), List.mem_of_getElem? (i := 727) (by decide +kernel)⟩
theorem lw_p26 : lw_okq (⟨"TeapotChoirModel", "keep", "()V"⟩, 6) := ⟨⟨by decide +kernel, by decide +kernel⟩, List.mem_of_getElem? (i := 506) (by decide +kernel), List.mem_of_getElem? (i := 734) (by decide +kernel), List.mem_of_getElem? (i := 735) (by decide +kernel)⟩
theorem lw_p27 : lw_okq (⟨"TeapotChoirModel", "bringBack", "()V"⟩, 6) := ⟨⟨by decide +kernel, by decide +kernel⟩, List.mem_of_getElem? (i := 506) (by decide +kernel), List.mem_of_getElem? (i := 739) (by decide +kernel), List.mem_of_getElem? (i := 740) (by decide +kernel)⟩
theorem lw_p28 : lw_okq (⟨"TeapotChoirModel", "silence", "()I"⟩, 6) := ⟨⟨by decide +kernel, by decide +kernel⟩, List.mem_of_getElem? (i := 506) (by decide +kernel), List.mem_of_getElem? (i := 747) (by decide +kernel), List.mem_of_getElem? (i := 748) (by decide +kernel)⟩
theorem lw_p29 : lw_okq (⟨"TeapotChoirModel", "untilCadence", "()I"⟩, 6) := ⟨⟨by decide +kernel, by decide +kernel⟩, List.mem_of_getElem? (i := 506) (by decide +kernel), List.mem_of_getElem? (i := 755) (by decide +kernel), List.mem_of_getElem? (i := 756) (by decide +kernel)⟩
theorem lw_p30 : lw_okq (⟨"TeapotChoirModel", "greatest", "()I"⟩, 6) := ⟨⟨by decide +kernel, by decide +kernel⟩, List.mem_of_getElem? (i := 506) (by decide +kernel), List.mem_of_getElem? (i := 763) (by decide +kernel), List.mem_of_getElem? (i := 764) (by decide +kernel)⟩
def lw_privs_2 : List (MethodName × Nat) := [(⟨"TeapotChoirModel", "apart", "(II)I"⟩, 6), (⟨"TeapotChoirModel", "clear", "()Z"⟩, 6), (⟨"TeapotChoirModel", "ok", "(I)I"⟩, 6), (⟨"TeapotChoirModel", "of", "(II)I"⟩, 6), (⟨"TeapotChoirModel", "harmonyOf", "(I)I"⟩, 6), (⟨"TeapotChoirModel", "clashing", "(I)I"⟩, 6), (⟨"TeapotChoirModel", "harsh", "()I"⟩, 6), (⟨"TeapotChoirModel", "low", "()I"⟩, 6), (⟨"TeapotChoirModel", "tuning", "(I)I"⟩, 6), (⟨"TeapotChoirModel", "mute", "()I"⟩, 6), (⟨"TeapotChoirModel", "keep", "()V"⟩, 6), (⟨"TeapotChoirModel", "bringBack", "()V"⟩, 6), (⟨"TeapotChoirModel", "silence", "()I"⟩, 6), (⟨"TeapotChoirModel", "untilCadence", "()I"⟩, 6), (⟨"TeapotChoirModel", "greatest", "()I"⟩, 6)]
theorem lw_r2 : ∀ q ∈ lw_privs_2, lw_okq q := List.forall_mem_cons.mpr ⟨lw_p16, List.forall_mem_cons.mpr ⟨lw_p17, List.forall_mem_cons.mpr ⟨lw_p18, List.forall_mem_cons.mpr ⟨lw_p19, List.forall_mem_cons.mpr ⟨lw_p20, List.forall_mem_cons.mpr ⟨lw_p21, List.forall_mem_cons.mpr ⟨lw_p22, List.forall_mem_cons.mpr ⟨lw_p23, List.forall_mem_cons.mpr ⟨lw_p24, List.forall_mem_cons.mpr ⟨lw_p25, List.forall_mem_cons.mpr ⟨lw_p26, List.forall_mem_cons.mpr ⟨lw_p27, List.forall_mem_cons.mpr ⟨lw_p28, List.forall_mem_cons.mpr ⟨lw_p29, List.forall_mem_cons.mpr ⟨lw_p30, fun _ h => absurd h List.not_mem_nil⟩⟩⟩⟩⟩⟩⟩⟩⟩⟩⟩⟩⟩⟩⟩
def lw_privs : List (MethodName × Nat) := lw_privs_1 ++ (lw_privs_2)
def lw_tbl : List Cond := k2_sels lw_privs ++ tables_1
theorem lw_privs_ok : ∀ q ∈ lw_privs, lw_okq q := by
  show ∀ q ∈ lw_privs_1 ++ (lw_privs_2), lw_okq q
  exact List.forall_mem_append.mpr ⟨lw_r1, lw_r2⟩
/-- the streams that the claim lets the run draw from -/
abbrev lw_cs : List Choice := [Jvm.Choice.named "NaN.bits"]
theorem lw_bits : nanBits ∈ lw_cs := by first | decide | exact List.mem_cons_self | simp [lw_cs, nanBits]
/-! ===== BEGIN words of one list among another's, by their places ===== -/
theorem goodIn_r {big : List Cond} (ws : List Cond) (ps : List Nat) (hp : ws = ps.filterMap (fun i => big[i]?)) (h : ws.all goodWord = true) : GoodIn big ws := by
  intro w hw
  have h1 := List.all_eq_true.mp h w hw
  rw [hp] at hw
  obtain ⟨i, -, hi⟩ := List.mem_filterMap.mp hw
  have hm : w ∈ big := by first | exact List.mem_of_getElem? hi | exact List.getElem?_mem hi
  exact ⟨hm, good_of_word h1⟩
theorem goodIn_app {big a b : List Cond} (ha : GoodIn big a) (hb : GoodIn big b) : GoodIn big (a ++ b) := fun w h => (List.mem_append.mp h).elim (ha w) (hb w)
theorem goodIn_ca {big a b : List Cond} {c : Cond} (ha : GoodIn big (c :: a)) (hb : GoodIn big b) : GoodIn big (c :: (a ++ b)) := fun w h => (List.mem_cons.mp h).elim (fun e => ha w (List.mem_cons.mpr (Or.inl e))) (fun h => (List.mem_append.mp h).elim (fun h => ha w (List.mem_cons.mpr (Or.inr h))) (hb w))
theorem goodIn_sub {big ws : List Cond} (hm : ∀ w ∈ ws, w ∈ big) (h : ws.all goodWord = true) : GoodIn big ws := fun w hw => ⟨hm w hw, good_of_word (List.all_eq_true.mp h w hw)⟩
/-! ===== END ===== -/

/-! ===== BEGIN exceptions that leave a method, and their catching by the caller (launches without stack traces) ===== -/
section VXA
/-! The laws vx_back, vx_callV, vx_callS, vx_callSW, vx_throw0, vx_throwS follow proofs of the library, with one case more: JvmDerived/Free/Laws.lean (Back.of_free), Shelf42/LK1.lean (callV, callS), Shelf/KitTraced.lean (throwNew0V, throwNewS). -/
/-- where a method has thrown q: the class by its name, the cell, what was written, the world -/
def vx_T (XC : String → State → State → Prop) (st : State) (q : Addr) (t : State) (mc ms : Nat) (free : Addr → Prop) : Prop :=
  ∃ (E : String) (ce : Cell) (L : List Loc), XC E st t ∧ t.heap[q]? = some ce ∧ ce.vm = .none ∧ st.vm.findClass E = some ce.cls ∧ st.WarmedH t.vm ∧ st.sameButNew ({ t with vm := st.vm } : State) L mc ms ∧ ∀ z ∈ L, free z.base
def vx_Q (Qc : Array Value → State → Outcome → State → Prop) (XC : String → State → State → Prop) (mc ms : Nat) (free : Addr → Prop) : Array Value → State → Outcome → State → Prop := fun a st o t =>
  (Qc a st o t ∧ ∃ L, FrameEnd st o t L mc ms ∧ ∀ q ∈ L, free q.base) ∨ ∃ q, o = .threw q ∧ vx_T XC st q t mc ms free
/-- a callee that returns or throws -/
def vx_Met (l : Launch) (y : MethodName) (ws : List Cond) (rm : Room) (Pc : Array Value → State → Prop) (Qc : Array Value → State → Outcome → State → Prop) (XC : String → State → State → Prop) (mc ms : Nat) (free : Addr → Prop) : Prop :=
  MetFree l y (headSpec ws rm) Pc (fun _ _ _ _ _ => True) (vx_Q Qc XC mc ms free)
def vx_Post (XC : String → State → State → Prop) (mc ms : Nat) (free : Addr → Prop) : Pt → Array Value → Addr → Pt → Prop := fun A a q B =>
  ∃ (g : JFrame) (mk : MethodId) (t : State) (L : List Loc) (E : String) (ce : Cell), B.U.heap = t.heap ∧ B.U.vm = t.vm ∧ XC E (A.U.calling g mk a) t ∧ t.heap[q]? = some ce ∧ ce.vm = .none ∧ A.U.vm.findClass E = some ce.cls ∧ B.locs = A.locs ++ L ∧ (∀ z ∈ L, free z.base) ∧ B.cells = A.cells + mc ∧ B.slots = A.slots + ms
def vx_Back (l : Launch) (R : Room) (p : Program) (e : Env) (below : List Frame) (s : State) (sargs : Array Value) (y : MethodName) (len W9 : Nat)
    (Pre : Pt → Array Value → Prop) (Post : Pt → Array Value → Option Value → Pt → Prop) (PostX : Pt → Array Value → Addr → Pt → Prop) : Prop :=
  ∀ (m : MethodId) (meth : Method) (c : Code) (A : Pt) (g : JFrame) (ig : Instr) (mk : MethodId) (a : Array Value),
    Stand p l e R s m sargs below meth c A.U A.locs A.cells A.slots → g.method = m → g.locals.size = c.maxLocals → decode c.code g.pc = .ok (ig, len) →
    2 * g.monitorRoom + (g.stack.map fun v => v.category).sum ≤ W9 → A.U.methodNamed? y = some mk → Pre A a →
    (∃ (v : Option Value) (B : Pt), Stand p l e R s m sargs below meth c B.U B.locs B.cells B.slots ∧ Post A a v B ∧
      Steps p.tables e below (doInvoke e (A.U.setTop g) [] mk a).1 (B.U.setTop { g with pc := g.pc + len, stack := v.toList ++ g.stack })) ∨
    (∃ (q : Addr) (B : Pt), Stand p l e R s m sargs below meth c B.U B.locs B.cells B.slots ∧ PostX A a q B ∧
      Steps p.tables e below (doInvoke e (A.U.setTop g) [] mk a).1 ((B.U.setTop g).pushFrame (.throwing q)))
section Payer
variable {l : Launch} {R : Room} {p : Program} {e : Env} {below : List Frame} {s : State} {sargs : Array Value} {y : MethodName} {len W9 : Nat}
theorem vx_back {ws : List Cond} {rm : Room} {Pc : Array Value → State → Prop} {Qc : Array Value → State → Outcome → State → Prop} {XC : String → State → State → Prop} {mc ms : Nat} {free : Addr → Prop} {bytes : ByteArray} {maxL : Nat} {ret : Option FieldType}
    (hM : vx_Met l y ws rm Pc Qc XC mc ms free) (hblind : FrameBlind Pc) (hrc : rm.cells = mc) (hrs : rm.slots = ms)
    (hframes : rm.frames + 1 ≤ R.frames) (hlocals : W9 + (maxL + 11) + rm.locals ≤ R.locals)
    (hws : ∀ w ∈ ws, ∀ a' U, s.WarmedH U.vm → w.before a' U = true) (hcode : Cond.code y bytes maxL ret ∈ ws) (hinit : ∀ a' U, s.WarmedH U.vm → (Cond.initialized y.cls).before a' U = true) :
    vx_Back l R p e below s sargs y len W9 (PreOf R mc ms Pc) (PostOf Qc mc ms free) (vx_Post XC mc ms free) := by
  intro m meth c A g ig mk a X hg hsize hdg hW hn hp
  have h1 : (headSpec ws rm).pre.before a A.U = true := atoms_intro fun w hw => hws w hw _ _ X.warmed
  have h2 : (Cond.code y bytes maxL ret).before a A.U = true := hws _ hcode _ _ X.warmed
  have h3 : (Cond.initialized y.cls).before a A.U = true := hinit _ _ X.warmed
  have h4 : A.cells + (headSpec ws rm).room.cells ≤ R.cells := by rw [show (headSpec ws rm).room.cells = mc from hrc]; exact hp.1
  have h5 : A.slots + (headSpec ws rm).room.slots ≤ R.slots := by rw [show (headSpec ws rm).room.slots = ms from hrs]; exact hp.2.1
  have hPc : Pc a (A.U.calling g mk a) := hblind _ _ _ _ hp.2.2
  obtain ⟨U, Ls, c0, s0⟩ := A
  dsimp only [Pt.U, Pt.locs, Pt.cells, Pt.slots] at h1 h2 h3 h4 h5 X hn hPc ⊢
  obtain ⟨methY, cY, hmY, hcY, -, hlY, -, -, -, -⟩ := Cond.code_spec hn h2
  obtain ⟨kY, hkY, -⟩ := className_of_methodNamed hn
  have hinitY : kY.init = .initialized := Cond.initialized_spec (findClass_of_methodNamed hn) hkY h3
  have h : At U g.method c below := by rw [hg]; exact X.here
  have hlocals9 : W9 + (maxL + 11) + (headSpec ws rm).room.locals ≤ R.locals := hlocals
  have happ : (headSpec ws rm).appliesLoose y e.platform (U.calling g mk a) = true :=
    Spec.appliesLoose_calling (g := g) h hdg hn hkY hinitY
      (X.room_calling (g := g) (R' := (headSpec ws rm).room) hsize hmY hcY hframes (by rw [hlY]; omega) h4 h5) h1
  obtain ⟨mid, hmid⟩ := h.above
  have hfr : (U.setTop g).frames = (.java g :: mid) ++ below := by rw [State.frames_setTop' g h.top, hmid]; rfl
  obtain ⟨o, s₂, hsteps, -, hend, hq⟩ := Steps.callFree hM p X.admits X.cas X.clock (acts := []) hfr happ hPc trivial
  have hq' : vx_Q Qc XC mc ms free a (U.calling g mk a) o s₂ := hq
  rw [State.frames_setTop' g h.top] at hend
  obtain ⟨g₀, hg0⟩ := Option.isSome_iff_exists.mp h.top
  obtain ⟨r, hr⟩ := State.topJava?_eq_some.mp hg0
  have hr' : (({ U with heap := s₂.heap, slotsUsed := s₂.slotsUsed } : State).setVm s₂.vm).frames = .java g₀ :: r := hr
  rcases hq' with ⟨hqc, L, hfe, hL⟩ | ⟨q, rfl, E, ce, L, hx, hce, hcv, hcl, hW₂, hsm, hL⟩
  · obtain ⟨⟨v, rfl⟩, hW₂, e2, q2, q3, q4, q5, q6⟩ := id hfe
    have e3 : s₂ = ({ (U.calling g mk a).setFrames s₂.frames with heap := s₂.heap, slotsUsed := s₂.slotsUsed } : State).setVm s₂.vm := by
      have : s₂ = ({ s₂ with vm := (U.calling g mk a).vm } : State).setVm s₂.vm := rfl
      rw [e2] at this
      exact this
    obtain ⟨c₂, i₂, len₂, hc₂, hd₂, hf₂⟩ := hend
    have hW' : U.WarmedH s₂.vm := hW₂
    have hcc : c₂ = c := by
      have h1 : s₂.code? g.method = U.code? g.method := by
        rw [State.code?_eq, State.code?_eq, hW'.alike.method?]
      exact Option.some.inj (hc₂.symm.trans (h1.trans h.code))
    subst hcc
    have hlen : len₂ = len := by rw [hdg] at hd₂; cases hd₂; rfl
    subst hlen
    have hs₂ : s₂ = (({ U with heap := s₂.heap, slotsUsed := s₂.slotsUsed } : State).setVm s₂.vm).setTop { g with pc := g.pc + len₂, stack := v.toList ++ g.stack } := by
      refine e3.trans ?_
      rw [hf₂, State.calling_eq h.top, State.setFrames_setFrames, State.setTop_of_frames _ hr', hr]
      rfl
    have hsame : U.sameButNew ({ U with heap := s₂.heap, slotsUsed := s₂.slotsUsed } : State) L mc ms := by
      refine ⟨?_, q2, q3, q4, q5, q6⟩
      obtain ⟨t, ht, -⟩ := State.frames_cons hr
      show ({ U with heap := s₂.heap, slotsUsed := s₂.slotsUsed } : State) = { U.setFrames U.frames with heap := s₂.heap, slotsUsed := s₂.slotsUsed }
      rw [State.setFrames_self ht]
    subst hg
    refine Or.inl ⟨v, ⟨(({ U with heap := s₂.heap, slotsUsed := s₂.slotsUsed } : State).setVm s₂.vm), Ls ++ L, c0 + mc, s0 + ms⟩,
      ⟨X.admits, X.cas, X.clock, X.frames, X.room, X.hears, X.method, X.code, (X.here.setHeapUsed s₂.heap s₂.slotsUsed).setVm hW'.alike, X.tail, State.WarmedH.trans X.warmed hW', X.limits, X.bytes, X.same.trans (hsame.setVm s.vm)⟩,
      ⟨g, mk, s₂, L, rfl, rfl, hqc, rfl, hL, rfl, rfl⟩, ?_⟩
    show Steps p.tables e below _ ((({ U with heap := s₂.heap, slotsUsed := s₂.slotsUsed } : State).setVm s₂.vm).setTop { g with pc := g.pc + len₂, stack := v.toList ++ g.stack })
    rw [← hs₂]
    exact hsteps
  · obtain ⟨e2, q2, q3, q4, q5, q6⟩ := id hsm
    have e3 : s₂ = ({ (U.calling g mk a).setFrames s₂.frames with heap := s₂.heap, slotsUsed := s₂.slotsUsed } : State).setVm s₂.vm := by
      have : s₂ = ({ s₂ with vm := (U.calling g mk a).vm } : State).setVm s₂.vm := rfl
      rw [e2] at this
      exact this
    have hf₂ : s₂.frames = .throwing q :: .java g :: U.frames.tail := hend
    have hW' : U.WarmedH s₂.vm := hW₂
    have hs₂ : s₂ = ((({ U with heap := s₂.heap, slotsUsed := s₂.slotsUsed } : State).setVm s₂.vm).setTop g).pushFrame (.throwing q) := by
      refine e3.trans ?_
      rw [hf₂, State.calling_eq h.top, State.setFrames_setFrames, State.pushFrame, State.frames_setTop _ hr', State.setTop_of_frames _ hr', State.setFrames_setFrames, hr]
      rfl
    have hsame : U.sameButNew ({ U with heap := s₂.heap, slotsUsed := s₂.slotsUsed } : State) L mc ms := by
      refine ⟨?_, q2, q3, q4, q5, q6⟩
      obtain ⟨t, ht, -⟩ := State.frames_cons hr
      show ({ U with heap := s₂.heap, slotsUsed := s₂.slotsUsed } : State) = { U.setFrames U.frames with heap := s₂.heap, slotsUsed := s₂.slotsUsed }
      rw [State.setFrames_self ht]
    subst hg
    refine Or.inr ⟨q, ⟨(({ U with heap := s₂.heap, slotsUsed := s₂.slotsUsed } : State).setVm s₂.vm), Ls ++ L, c0 + mc, s0 + ms⟩,
      ⟨X.admits, X.cas, X.clock, X.frames, X.room, X.hears, X.method, X.code, (X.here.setHeapUsed s₂.heap s₂.slotsUsed).setVm hW'.alike, X.tail, State.WarmedH.trans X.warmed hW', X.limits, X.bytes, X.same.trans (hsame.setVm s.vm)⟩,
      ⟨g, mk, s₂, L, E, ce, rfl, rfl, hx, hce, hcv, hcl, rfl, hL, rfl, rfl⟩, ?_⟩
    show Steps p.tables e below _ (((({ U with heap := s₂.heap, slotsUsed := s₂.slotsUsed } : State).setVm s₂.vm).setTop g).pushFrame (.throwing q))
    rw [← hs₂]
    exact hsteps
end Payer
section Calls
variable {p : Program} {l : Launch} {e : Env} {R : Room} {s : State} {m : MethodId} {args : Array Value} {below : List Frame} {meth : Method} {c : Code} {T : State} {locs : List Loc} {cells slots : Nat}
theorem vx_callV (X : Stand p l e R s m args below meth c T locs cells slots) (hexec : p.tables.exec = Jvm.exec) {own C : String} {index : Nat} {y : MethodName} {bytes : ByteArray} {maxL : Nat} {ret : Option FieldType}
    (hown : s.vm.findClass own = some m.cls) (hlink : (Cond.methodLink own index y).before args s = true) (hinst : (Cond.instanceMethod y).before args s = true) (hsel : (Cond.selects C y y).before args s = true)
    (hcode : (Cond.code y bytes maxL ret).before args s = true) (hy : y.cls ≠ "java/lang/invoke/MethodHandle" ∧ y.cls ≠ "java/lang/invoke/VarHandle")
    {W9 : Nat} {Pre : Pt → Array Value → Prop} {Post : Pt → Array Value → Option Value → Pt → Prop} {PostX : Pt → Array Value → Addr → Pt → Prop} (hK : vx_Back l R p e below s args y 3 W9 Pre Post PostX)
    {b : Addr} {cellB : Cell} (hcell : T.heap[b]? = some cellB) (hobj : cellB.vm.isStatics = false) (hcls : s.vm.findClass C = some cellB.cls)
    {g : JFrame} (hg : g.method = m) (hsize : g.locals.size = c.maxLocals) {argsL rest : List Value} (hlen : ∀ sig, parseMethodDescriptor y.desc = some sig → argsL.length = sig.parameters.length)
    (hstack : g.stack = argsL.reverse ++ .ref b :: rest) (hW : 2 * g.monitorRoom + (rest.map fun v => v.category).sum ≤ W9) (hdg : decode c.code g.pc = .ok (.invokevirtual index, 3))
    (hpre : ∀ vm₁, s.WarmedH vm₁ → Pre ⟨T.setVm vm₁, locs, cells, slots⟩ (Value.ref b :: argsL).toArray) :
    (∃ (v : Option Value) (vm₁ : Vm) (B : Pt), s.WarmedH vm₁ ∧ Stand p l e R s m args below meth c B.U B.locs B.cells B.slots ∧ Post ⟨T.setVm vm₁, locs, cells, slots⟩ (Value.ref b :: argsL).toArray v B ∧
      ∀ target, Steps p.tables e below (B.U.setTop { g with pc := g.pc + 3, stack := v.toList ++ rest }) target → Steps p.tables e below (T.setTop g) target) ∨
    (∃ (q : Addr) (vm₁ : Vm) (B : Pt), s.WarmedH vm₁ ∧ Stand p l e R s m args below meth c B.U B.locs B.cells B.slots ∧ PostX ⟨T.setVm vm₁, locs, cells, slots⟩ (Value.ref b :: argsL).toArray q B ∧
      Steps p.tables e below (T.setTop g) ((B.U.setTop { g with stack := rest }).pushFrame (.throwing q))) := by
  obtain ⟨mk, methM, hnamed, hmethM, hstM, habM⟩ := Cond.instanceMethod_spec hinst
  obtain ⟨methM', cM, hmethM', -, -, -, -, -, -, hsigM⟩ := Cond.code_spec hnamed hcode
  cases hmethM.symm.trans hmethM'
  obtain ⟨c2, r2, m2, q1, q2, q3, q4, kP, hkP, hkPi⟩ := Cond.selects_spec hsel
  cases hcls.symm.trans q1
  cases (State.methodFound?_of_named hnamed hy).symm.trans q2
  cases hnamed.symm.trans q3
  have hselP : selectMethod e.platform s.vm cellB.cls mk = .method mk := by rw [Launch.admits_selectMethod X.admits]; exact q4
  obtain ⟨vm₁, X₁, hstep₁⟩ := X.invokevirtual hexec hown hlink hnamed hmethM hstM hkP hkPi hy (a := b) (cell := cellB) hcell
    (fun z h => by rw [h] at hobj; cases hobj) hselP hmethM habM hkP hkPi (g := g) hg (argsL := argsL) (rest := rest) (hlen _ hsigM) hstack hdg
  rcases hK m meth c ⟨T.setVm vm₁, locs, cells, slots⟩ { g with stack := rest } (.invokevirtual index) mk (Value.ref b :: argsL).toArray X₁ hg hsize hdg hW (X₁.named hnamed) (hpre vm₁ X₁.warmed) with ⟨v, B, X', hpost, hsteps⟩ | ⟨q, B, X', hpost, hsteps⟩
  · exact Or.inl ⟨v, vm₁, B, X₁.warmed, X', hpost, fun target h => hstep₁ _ fun acts => by rw [doInvoke_state]; exact hsteps.trans h⟩
  · exact Or.inr ⟨q, vm₁, B, X₁.warmed, X', hpost, hstep₁ _ fun acts => by rw [doInvoke_state]; exact hsteps⟩
theorem vx_callS (X : Stand p l e R s m args below meth c T locs cells slots) (hexec : p.tables.exec = Jvm.exec) {own : String} {index : Nat} {y : MethodName} {bytes : ByteArray} {maxL : Nat} {ret : Option FieldType}
    (hown : s.vm.findClass own = some m.cls) (hlink : (Cond.methodLink own index y).before args s = true) (hstat : (Cond.static y).before args s = true) (hinit : (Cond.initialized y.cls).before args s = true)
    (hcode : (Cond.code y bytes maxL ret).before args s = true) (hy : y.cls ≠ "java/lang/invoke/MethodHandle" ∧ y.cls ≠ "java/lang/invoke/VarHandle")
    {W9 : Nat} {Pre : Pt → Array Value → Prop} {Post : Pt → Array Value → Option Value → Pt → Prop} {PostX : Pt → Array Value → Addr → Pt → Prop} (hK : vx_Back l R p e below s args y 3 W9 Pre Post PostX)
    {g : JFrame} (hg : g.method = m) (hsize : g.locals.size = c.maxLocals) {argsL rest : List Value} (hlen : ∀ sig, parseMethodDescriptor y.desc = some sig → argsL.length = sig.parameters.length)
    (hstack : g.stack = argsL.reverse ++ rest) (hW : 2 * g.monitorRoom + (rest.map fun v => v.category).sum ≤ W9) (hdg : decode c.code g.pc = .ok (.invokestatic index, 3))
    (hpre : ∀ vm₁, s.WarmedH vm₁ → Pre ⟨T.setVm vm₁, locs, cells, slots⟩ argsL.toArray) :
    (∃ (v : Option Value) (vm₁ : Vm) (B : Pt), s.WarmedH vm₁ ∧ Stand p l e R s m args below meth c B.U B.locs B.cells B.slots ∧ Post ⟨T.setVm vm₁, locs, cells, slots⟩ argsL.toArray v B ∧
      ∀ target, Steps p.tables e below (B.U.setTop { g with pc := g.pc + 3, stack := v.toList ++ rest }) target → Steps p.tables e below (T.setTop g) target) ∨
    (∃ (q : Addr) (vm₁ : Vm) (B : Pt), s.WarmedH vm₁ ∧ Stand p l e R s m args below meth c B.U B.locs B.cells B.slots ∧ PostX ⟨T.setVm vm₁, locs, cells, slots⟩ argsL.toArray q B ∧
      Steps p.tables e below (T.setTop g) ((B.U.setTop { g with stack := rest }).pushFrame (.throwing q))) := by
  obtain ⟨mk, hnamed⟩ := Cond.code_named hcode
  obtain ⟨methM, cM, hmethM, -, -, -, -, -, -, hsigM⟩ := Cond.code_spec hnamed hcode
  have hstatic : methM.isStatic = true := Cond.static_spec hnamed hmethM hstat
  obtain ⟨kP, hkP, -⟩ := className_of_methodNamed hnamed
  have hinitP : kP.init = .initialized := Cond.initialized_spec (findClass_of_methodNamed hnamed) hkP hinit
  obtain ⟨vm₁, X₁, hstep₁⟩ := X.invokestatic hexec hown hlink hnamed hmethM hstatic hkP hinitP hy (g := g) hg (argsL := argsL) (rest := rest) (hlen _ hsigM) hstack hdg
  rcases hK m meth c ⟨T.setVm vm₁, locs, cells, slots⟩ { g with stack := rest } (.invokestatic index) mk argsL.toArray X₁ hg hsize hdg hW (X₁.named hnamed) (hpre vm₁ X₁.warmed) with ⟨v, B, X', hpost, hsteps⟩ | ⟨q, B, X', hpost, hsteps⟩
  · exact Or.inl ⟨v, vm₁, B, X₁.warmed, X', hpost, fun target h => hstep₁ _ fun acts => by rw [doInvoke_state]; exact hsteps.trans h⟩
  · exact Or.inr ⟨q, vm₁, B, X₁.warmed, X', hpost, hstep₁ _ fun acts => by rw [doInvoke_state]; exact hsteps⟩
end Calls
theorem vx_cls {s : State} {T : State} {vm₁ : Vm} {E : String} {k : ClassId} (hW : s.WarmedH vm₁) (h : (T.setVm vm₁).vm.findClass E = some k) : s.vm.findClass E = some k := by
  have h1 : vm₁.findClass E = some k := h
  rw [hW.alike.findClass] at h1
  exact h1
/-- the method's frame g, with q thrown over it -/
def vx_W (p : Program) (l : Launch) (e : Env) (R : Room) (s : State) (m : MethodId) (args : Array Value) (below : List Frame) (meth : Method) (c : Code) (H : Heap) (locs : List Loc) (cells slots : Nat) (Q : State → Prop) (g : JFrame) (q : Addr) : Prop :=
  ∀ T : State, T.heap = H → Stand p l e R s m args below meth c T locs cells slots → ∃ t, Steps p.tables e below ((T.setTop g).pushFrame (.throwing q)) t ∧ Q t
def vx_Run (p : Program) (l : Launch) (e : Env) (R : Room) (s : State) (m : MethodId) (args : Array Value) (below : List Frame) (meth : Method) (c : Code) (H : Heap) (locs : List Loc) (cells slots mc ms : Nat) (g : JFrame) (rest : List Value) (Qa : State → Outcome → State → Prop) (XC : String → State → State → Prop) (free : Addr → Prop) : Prop :=
  ∀ T : State, T.heap = H → Stand p l e R s m args below meth c T locs cells slots →
    (∃ (v : Option Value) (st₀ t T' : State) (L : List Loc), st₀.heap = H ∧ Stand p l e R s m args below meth c T' (locs ++ L) (cells + mc) (slots + ms) ∧ (∀ q ∈ L, free q.base) ∧ T'.heap = t.heap ∧ T'.vm = t.vm ∧ Qa st₀ (.returned v) t ∧
      Goes p e below T g T' { g with pc := g.pc + 3, stack := v.toList ++ rest }) ∨
    (∃ (q : Addr) (st₀ t T' : State) (L : List Loc) (E : String) (ce : Cell), st₀.heap = H ∧ Stand p l e R s m args below meth c T' (locs ++ L) (cells + mc) (slots + ms) ∧ (∀ z ∈ L, free z.base) ∧ T'.heap = t.heap ∧ T'.vm = t.vm ∧ XC E st₀ t ∧ t.heap[q]? = some ce ∧ ce.vm = .none ∧ s.vm.findClass E = some ce.cls ∧
      Steps p.tables e below (T.setTop g) ((T'.setTop { g with stack := rest }).pushFrame (.throwing q)))
def vx_X {S : Type} (px : S → Prop) (B : String → S → State → Prop) (A : Nat → Prop) : String → State → State → Prop := fun E st t => ∃ u : S, px u ∧ B E u t ∧ va_F A st t
section Runs
variable {p : Program} {l : Launch} {e : Env} {R : Room} {s : State} {m : MethodId} {args : Array Value} {below : List Frame} {meth : Method} {c : Code} {H : Heap} {locs : List Loc} {cells slots : Nat}
variable {y : MethodName} {bytes cc : ByteArray} {maxL nL mc ms n index : Nat} {ret : Option FieldType} {ws : List Cond} {rm : Room} {Pc : Array Value → State → Prop} {Qc : Array Value → State → Outcome → State → Prop} {XC : String → State → State → Prop} {free : Addr → Prop} {Ts : List Cond} {own C : String} {b : Addr} {As rest : List Value} {g : JFrame}
theorem vx_callBack (cb : CallB R s args own index y bytes maxL ret ws rm mc ms n) (hM : vx_Met l y ws rm Pc Qc XC mc ms free) (hbl : FrameBlind Pc) : vx_Back l R p e below s args y 3 8 (PreOf R mc ms Pc) (PostOf Qc mc ms free) (vx_Post XC mc ms free) := by
  obtain ⟨hrc, hrs, hfr, hlo, hws, hcw, -, hini, -⟩ := cb
  exact vx_back (bytes := bytes) (maxL := maxL) (ret := ret) hM hbl hrc hrs hfr hlo hws hcw (fun a' U hW => word_at hW (Or.inl (by first | rfl | simp [Cond.onTables, Cond.keeps, Cond.steady])) hini)
theorem vx_runV (S : CallFix p m c cc nL s args Ts own) (hM : vx_Met l y ws rm Pc Qc XC mc ms free) (cw : CallW R s args own C index y bytes maxL ret ws rm mc ms n) (hp : PreV s H C b Pc As)
    (hg : g.method = m) (hn : As.length = n) (hsize : g.locals.size = nL) (hstack : g.stack = As.reverse ++ .ref b :: rest) (hW : 2 * g.monitorRoom + (rest.map fun v => v.category).sum ≤ 8) (hdg : decode cc g.pc = .ok (.invokevirtual index, 3)) (hf : cells + mc ≤ R.cells ∧ slots + ms ≤ R.slots) :
    vx_Run p l e R s m args below meth c H locs cells slots mc ms g rest (Qc (Value.ref b :: As).toArray) XC free := by
  have hK : vx_Back l R p e below s args y 3 8 (PreOf R mc ms Pc) (PostOf Qc mc ms free) (vx_Post XC mc ms free) := vx_callBack cw.1 hM hp.1
  obtain ⟨⟨-, -, -, -, -, -, hcode, -, hy, hlen, hl⟩, hin, hse⟩ := cw
  obtain ⟨hx, hb, hml, ho, -⟩ := S
  obtain ⟨-, ⟨cellB, hcB, hoB, hclB⟩, hPc⟩ := hp
  intro T hT X
  rcases vx_callV X hx (C := C) (bytes := bytes) (maxL := maxL) (ret := ret) ho hl hin hse hcode hy hK (by rw [hT]; exact hcB) hoB hclB hg (hsize.trans hml.symm) (argsL := As) (rest := rest) (fun sig h => hn.trans (hlen sig h)) hstack hW (by rw [hb]; exact hdg)
    (fun vm₁ hW₁ => ⟨hf.1, hf.2, hPc (T.setVm vm₁) hT hW₁⟩) with ⟨v, vm₁, ⟨U', l2, c2, s2⟩, hW₁, X', ⟨g', mk, t, L, e1, e2, hq, h1, hL, h2, h3⟩, st⟩ | ⟨q, vm₁, ⟨U', l2, c2, s2⟩, hW₁, X', ⟨g', mk, t, L, E, ce, e1, e2, hq, hce, hcv, hcl, h1, hL, h2, h3⟩, st⟩
  · dsimp only [Pt.U, Pt.locs, Pt.cells, Pt.slots] at X' e1 e2 h1 h2 h3 st
    subst h1; subst h2; subst h3
    exact Or.inl ⟨v, (T.setVm vm₁).calling g' mk (Value.ref b :: As).toArray, t, U', L, hT, X', hL, e1, e2, hq, st⟩
  · dsimp only [Pt.U, Pt.locs, Pt.cells, Pt.slots] at X' e1 e2 h1 h2 h3 st hcl
    subst h1; subst h2; subst h3
    exact Or.inr ⟨q, (T.setVm vm₁).calling g' mk (Value.ref b :: As).toArray, t, U', L, E, ce, hT, X', hL, e1, e2, hq, hce, hcv, vx_cls hW₁ hcl, st⟩
theorem vx_runS (S : CallFix p m c cc nL s args Ts own) (hM : vx_Met l y ws rm Pc Qc XC mc ms free) (cw : CallB R s args own index y bytes maxL ret ws rm mc ms n ∧ (Cond.static y).before args s = true) (hp : PreS s H Pc As)
    (hg : g.method = m) (hn : As.length = n) (hsize : g.locals.size = nL) (hstack : g.stack = As.reverse ++ rest) (hW : 2 * g.monitorRoom + (rest.map fun v => v.category).sum ≤ 8) (hdg : decode cc g.pc = .ok (.invokestatic index, 3)) (hf : cells + mc ≤ R.cells ∧ slots + ms ≤ R.slots) :
    vx_Run p l e R s m args below meth c H locs cells slots mc ms g rest (Qc As.toArray) XC free := by
  have hK : vx_Back l R p e below s args y 3 8 (PreOf R mc ms Pc) (PostOf Qc mc ms free) (vx_Post XC mc ms free) := vx_callBack cw.1 hM hp.1
  obtain ⟨⟨-, -, -, -, -, -, hcode, hini, hy, hlen, hl⟩, hstt⟩ := cw
  obtain ⟨hx, hb, hml, ho, -⟩ := S
  intro T hT X
  rcases vx_callS X hx (bytes := bytes) (maxL := maxL) (ret := ret) ho hl hstt hini hcode hy hK hg (hsize.trans hml.symm) (argsL := As) (rest := rest) (fun sig h => hn.trans (hlen sig h)) hstack hW (by rw [hb]; exact hdg)
    (fun vm₁ hW₁ => ⟨hf.1, hf.2, hp.2 (T.setVm vm₁) hT hW₁⟩) with ⟨v, vm₁, ⟨U', l2, c2, s2⟩, hW₁, X', ⟨g', mk, t, L, e1, e2, hq, h1, hL, h2, h3⟩, st⟩ | ⟨q, vm₁, ⟨U', l2, c2, s2⟩, hW₁, X', ⟨g', mk, t, L, E, ce, e1, e2, hq, hce, hcv, hcl, h1, hL, h2, h3⟩, st⟩
  · dsimp only [Pt.U, Pt.locs, Pt.cells, Pt.slots] at X' e1 e2 h1 h2 h3 st
    subst h1; subst h2; subst h3
    exact Or.inl ⟨v, (T.setVm vm₁).calling g' mk As.toArray, t, U', L, hT, X', hL, e1, e2, hq, st⟩
  · dsimp only [Pt.U, Pt.locs, Pt.cells, Pt.slots] at X' e1 e2 h1 h2 h3 st hcl
    subst h1; subst h2; subst h3
    exact Or.inr ⟨q, (T.setVm vm₁).calling g' mk As.toArray, t, U', L, E, ce, hT, X', hL, e1, e2, hq, hce, hcv, vx_cls hW₁ hcl, st⟩
end Runs
section Rows
variable {p : Program} {l : Launch} {e : Env} {R : Room} {s : State} {m : MethodId} {args : Array Value} {below : List Frame} {meth : Method} {c : Code} {H : Heap} {locs : List Loc} {cells slots : Nat} {Q : State → Prop}
variable {mc ms : Nat} {free : Addr → Prop} {A0 A1 : Nat → Prop} {H0 : Heap} {a : Array Value} {pc : Nat} {ls : Array Slot} {st0 rest : List Value}
theorem vx_keep {st₀ t T' : State} {L : List Loc} (h0 : st₀.heap = H) (e1 : T'.heap = t.heap) (hS : va_S A0 H0 H locs) (hA : ∀ q, q < H.size → A1 q → A0 q) (hf : ∀ q, free q → A0 q) (hL : ∀ q ∈ L, free q.base) (hF : va_F A1 st₀ t) :
    H.size ≤ T'.heap.size ∧ (∀ q : Nat, q < H.size → ¬ A1 q → T'.heap[q]? = H[q]?) ∧ va_S A0 H0 T'.heap (locs ++ L) := by
  obtain ⟨hz, hk⟩ := hF
  rw [h0] at hz hk
  exact ⟨by rw [e1]; exact hz, fun q h1 h2 => by rw [e1]; exact hk q h1 h2,
    ⟨Nat.le_trans hS.1 (by rw [e1]; exact hz), fun q h1 h2 => by rw [e1, hk q (Nat.lt_of_lt_of_le h1 hS.1) (fun z => h2 (hA q (Nat.lt_of_lt_of_le h1 hS.1) z))]; exact hS.2.1 q h1 h2, fun q hq => by
      rcases List.mem_append.mp hq with h | h
      · exact hS.2.2 q h
      · exact hf _ (hL q h)⟩⟩
theorem vx_calli {S SX : Type} {post : Int32 → S → Prop} {px : SX → Prop} {B : S → State → Prop} {BX : String → SX → State → Prop} {AX : Nat → Prop} (hr : vx_Run p l e R s m args below meth c H locs cells slots mc ms (F0 m pc ls st0) rest (va_Qi post B A1 a) (vx_X px BX AX) free) (hS : va_S A0 H0 H locs) (hA : ∀ q, q < H.size → A1 q → A0 q) (hf : ∀ q, free q → A0 q) (hAX : ∀ q, q < H.size → AX q → A0 q)
    (kx : ∀ (E : String) (ce : Cell) (q9 : Addr) (u : SX) (t : State) (H1 : Heap) (locs1 : List Loc), t.heap = H1 → s.vm.Alike t.vm → px u → BX E u t → H.size ≤ H1.size → (∀ q : Nat, q < H.size → ¬ AX q → H1[q]? = H[q]?) → va_S A0 H0 H1 locs1 → H1[q9]? = some ce → ce.vm = .none → s.vm.findClass E = some ce.cls → vx_W p l e R s m args below meth c H1 locs1 (cells + mc) (slots + ms) Q (F0 m pc ls rest) q9)
    (kk : ∀ (r : Int32) (u : S) (t : State) (H1 : Heap) (locs1 : List Loc), t.heap = H1 → s.vm.Alike t.vm → post r u → B u t → H.size ≤ H1.size → (∀ q : Nat, q < H.size → ¬ A1 q → H1[q]? = H[q]?) → va_S A0 H0 H1 locs1 → W p l e R s m args below meth c H1 locs1 (cells + mc) (slots + ms) Q (F0 m (pc + 3) ls (.int r :: rest))) : W p l e R s m args below meth c H locs cells slots Q (F0 m pc ls st0) := by
  intro T hT X
  rcases hr T hT X with ⟨v, st₀, t, T', L, h0, X', hL, e1, e2, ⟨⟨r, u, hv, hp, hb⟩, hF⟩, st⟩ | ⟨q, st₀, t, T', L, E, ce, h0, X', hL, e1, e2, ⟨u, hp, hb, hF⟩, hce, hcv, hcl, st⟩
  · cases hv
    obtain ⟨k1, k2, k3⟩ := vx_keep h0 e1 hS hA hf hL hF
    obtain ⟨t2, a1, b1⟩ := kk r u t T'.heap (locs ++ L) e1.symm (by rw [← e2]; exact X'.warmed.alike) hp hb k1 k2 k3 T' rfl X'
    exact ⟨t2, st t2 a1, b1⟩
  · obtain ⟨k1, k2, k3⟩ := vx_keep h0 e1 hS hAX hf hL hF
    obtain ⟨t2, a1, b1⟩ := kx E ce q u t T'.heap (locs ++ L) e1.symm (by rw [← e2]; exact X'.warmed.alike) hp hb k1 k2 k3 (by rw [e1]; exact hce) hcv hcl T' rfl X'
    exact ⟨t2, st.trans a1, b1⟩
theorem vx_calll {S SX : Type} {post : Int64 → S → Prop} {px : SX → Prop} {B : S → State → Prop} {BX : String → SX → State → Prop} {AX : Nat → Prop} (hr : vx_Run p l e R s m args below meth c H locs cells slots mc ms (F0 m pc ls st0) rest (va_Ql post B A1 a) (vx_X px BX AX) free) (hS : va_S A0 H0 H locs) (hA : ∀ q, q < H.size → A1 q → A0 q) (hf : ∀ q, free q → A0 q) (hAX : ∀ q, q < H.size → AX q → A0 q)
    (kx : ∀ (E : String) (ce : Cell) (q9 : Addr) (u : SX) (t : State) (H1 : Heap) (locs1 : List Loc), t.heap = H1 → s.vm.Alike t.vm → px u → BX E u t → H.size ≤ H1.size → (∀ q : Nat, q < H.size → ¬ AX q → H1[q]? = H[q]?) → va_S A0 H0 H1 locs1 → H1[q9]? = some ce → ce.vm = .none → s.vm.findClass E = some ce.cls → vx_W p l e R s m args below meth c H1 locs1 (cells + mc) (slots + ms) Q (F0 m pc ls rest) q9)
    (kk : ∀ (r : Int64) (u : S) (t : State) (H1 : Heap) (locs1 : List Loc), t.heap = H1 → s.vm.Alike t.vm → post r u → B u t → H.size ≤ H1.size → (∀ q : Nat, q < H.size → ¬ A1 q → H1[q]? = H[q]?) → va_S A0 H0 H1 locs1 → W p l e R s m args below meth c H1 locs1 (cells + mc) (slots + ms) Q (F0 m (pc + 3) ls (.long r :: rest))) : W p l e R s m args below meth c H locs cells slots Q (F0 m pc ls st0) := by
  intro T hT X
  rcases hr T hT X with ⟨v, st₀, t, T', L, h0, X', hL, e1, e2, ⟨⟨r, u, hv, hp, hb⟩, hF⟩, st⟩ | ⟨q, st₀, t, T', L, E, ce, h0, X', hL, e1, e2, ⟨u, hp, hb, hF⟩, hce, hcv, hcl, st⟩
  · cases hv
    obtain ⟨k1, k2, k3⟩ := vx_keep h0 e1 hS hA hf hL hF
    obtain ⟨t2, a1, b1⟩ := kk r u t T'.heap (locs ++ L) e1.symm (by rw [← e2]; exact X'.warmed.alike) hp hb k1 k2 k3 T' rfl X'
    exact ⟨t2, st t2 a1, b1⟩
  · obtain ⟨k1, k2, k3⟩ := vx_keep h0 e1 hS hAX hf hL hF
    obtain ⟨t2, a1, b1⟩ := kx E ce q u t T'.heap (locs ++ L) e1.symm (by rw [← e2]; exact X'.warmed.alike) hp hb k1 k2 k3 (by rw [e1]; exact hce) hcv hcl T' rfl X'
    exact ⟨t2, st.trans a1, b1⟩
theorem vx_callf {S SX : Type} {post : UInt32 → S → Prop} {px : SX → Prop} {B : S → State → Prop} {BX : String → SX → State → Prop} {AX : Nat → Prop} (hr : vx_Run p l e R s m args below meth c H locs cells slots mc ms (F0 m pc ls st0) rest (va_Qf post B A1 a) (vx_X px BX AX) free) (hS : va_S A0 H0 H locs) (hA : ∀ q, q < H.size → A1 q → A0 q) (hf : ∀ q, free q → A0 q) (hAX : ∀ q, q < H.size → AX q → A0 q)
    (kx : ∀ (E : String) (ce : Cell) (q9 : Addr) (u : SX) (t : State) (H1 : Heap) (locs1 : List Loc), t.heap = H1 → s.vm.Alike t.vm → px u → BX E u t → H.size ≤ H1.size → (∀ q : Nat, q < H.size → ¬ AX q → H1[q]? = H[q]?) → va_S A0 H0 H1 locs1 → H1[q9]? = some ce → ce.vm = .none → s.vm.findClass E = some ce.cls → vx_W p l e R s m args below meth c H1 locs1 (cells + mc) (slots + ms) Q (F0 m pc ls rest) q9)
    (kk : ∀ (r : UInt32) (u : S) (t : State) (H1 : Heap) (locs1 : List Loc), t.heap = H1 → s.vm.Alike t.vm → post r u → B u t → H.size ≤ H1.size → (∀ q : Nat, q < H.size → ¬ A1 q → H1[q]? = H[q]?) → va_S A0 H0 H1 locs1 → W p l e R s m args below meth c H1 locs1 (cells + mc) (slots + ms) Q (F0 m (pc + 3) ls (.float r :: rest))) : W p l e R s m args below meth c H locs cells slots Q (F0 m pc ls st0) := by
  intro T hT X
  rcases hr T hT X with ⟨v, st₀, t, T', L, h0, X', hL, e1, e2, ⟨⟨r, u, hv, hp, hb⟩, hF⟩, st⟩ | ⟨q, st₀, t, T', L, E, ce, h0, X', hL, e1, e2, ⟨u, hp, hb, hF⟩, hce, hcv, hcl, st⟩
  · cases hv
    obtain ⟨k1, k2, k3⟩ := vx_keep h0 e1 hS hA hf hL hF
    obtain ⟨t2, a1, b1⟩ := kk r u t T'.heap (locs ++ L) e1.symm (by rw [← e2]; exact X'.warmed.alike) hp hb k1 k2 k3 T' rfl X'
    exact ⟨t2, st t2 a1, b1⟩
  · obtain ⟨k1, k2, k3⟩ := vx_keep h0 e1 hS hAX hf hL hF
    obtain ⟨t2, a1, b1⟩ := kx E ce q u t T'.heap (locs ++ L) e1.symm (by rw [← e2]; exact X'.warmed.alike) hp hb k1 k2 k3 (by rw [e1]; exact hce) hcv hcl T' rfl X'
    exact ⟨t2, st.trans a1, b1⟩
theorem vx_calld {S SX : Type} {post : UInt64 → S → Prop} {px : SX → Prop} {B : S → State → Prop} {BX : String → SX → State → Prop} {AX : Nat → Prop} (hr : vx_Run p l e R s m args below meth c H locs cells slots mc ms (F0 m pc ls st0) rest (va_Qd post B A1 a) (vx_X px BX AX) free) (hS : va_S A0 H0 H locs) (hA : ∀ q, q < H.size → A1 q → A0 q) (hf : ∀ q, free q → A0 q) (hAX : ∀ q, q < H.size → AX q → A0 q)
    (kx : ∀ (E : String) (ce : Cell) (q9 : Addr) (u : SX) (t : State) (H1 : Heap) (locs1 : List Loc), t.heap = H1 → s.vm.Alike t.vm → px u → BX E u t → H.size ≤ H1.size → (∀ q : Nat, q < H.size → ¬ AX q → H1[q]? = H[q]?) → va_S A0 H0 H1 locs1 → H1[q9]? = some ce → ce.vm = .none → s.vm.findClass E = some ce.cls → vx_W p l e R s m args below meth c H1 locs1 (cells + mc) (slots + ms) Q (F0 m pc ls rest) q9)
    (kk : ∀ (r : UInt64) (u : S) (t : State) (H1 : Heap) (locs1 : List Loc), t.heap = H1 → s.vm.Alike t.vm → post r u → B u t → H.size ≤ H1.size → (∀ q : Nat, q < H.size → ¬ A1 q → H1[q]? = H[q]?) → va_S A0 H0 H1 locs1 → W p l e R s m args below meth c H1 locs1 (cells + mc) (slots + ms) Q (F0 m (pc + 3) ls (.double r :: rest))) : W p l e R s m args below meth c H locs cells slots Q (F0 m pc ls st0) := by
  intro T hT X
  rcases hr T hT X with ⟨v, st₀, t, T', L, h0, X', hL, e1, e2, ⟨⟨r, u, hv, hp, hb⟩, hF⟩, st⟩ | ⟨q, st₀, t, T', L, E, ce, h0, X', hL, e1, e2, ⟨u, hp, hb, hF⟩, hce, hcv, hcl, st⟩
  · cases hv
    obtain ⟨k1, k2, k3⟩ := vx_keep h0 e1 hS hA hf hL hF
    obtain ⟨t2, a1, b1⟩ := kk r u t T'.heap (locs ++ L) e1.symm (by rw [← e2]; exact X'.warmed.alike) hp hb k1 k2 k3 T' rfl X'
    exact ⟨t2, st t2 a1, b1⟩
  · obtain ⟨k1, k2, k3⟩ := vx_keep h0 e1 hS hAX hf hL hF
    obtain ⟨t2, a1, b1⟩ := kx E ce q u t T'.heap (locs ++ L) e1.symm (by rw [← e2]; exact X'.warmed.alike) hp hb k1 k2 k3 (by rw [e1]; exact hce) hcv hcl T' rfl X'
    exact ⟨t2, st.trans a1, b1⟩
theorem vx_callv {S SX : Type} {post : S → Prop} {px : SX → Prop} {B : S → State → Prop} {BX : String → SX → State → Prop} {AX : Nat → Prop} (hr : vx_Run p l e R s m args below meth c H locs cells slots mc ms (F0 m pc ls st0) rest (va_Qv post B A1 a) (vx_X px BX AX) free) (hS : va_S A0 H0 H locs) (hA : ∀ q, q < H.size → A1 q → A0 q) (hf : ∀ q, free q → A0 q) (hAX : ∀ q, q < H.size → AX q → A0 q)
    (kx : ∀ (E : String) (ce : Cell) (q9 : Addr) (u : SX) (t : State) (H1 : Heap) (locs1 : List Loc), t.heap = H1 → s.vm.Alike t.vm → px u → BX E u t → H.size ≤ H1.size → (∀ q : Nat, q < H.size → ¬ AX q → H1[q]? = H[q]?) → va_S A0 H0 H1 locs1 → H1[q9]? = some ce → ce.vm = .none → s.vm.findClass E = some ce.cls → vx_W p l e R s m args below meth c H1 locs1 (cells + mc) (slots + ms) Q (F0 m pc ls rest) q9)
    (kk : ∀ (u : S) (t : State) (H1 : Heap) (locs1 : List Loc), t.heap = H1 → s.vm.Alike t.vm → post u → B u t → H.size ≤ H1.size → (∀ q : Nat, q < H.size → ¬ A1 q → H1[q]? = H[q]?) → va_S A0 H0 H1 locs1 → W p l e R s m args below meth c H1 locs1 (cells + mc) (slots + ms) Q (F0 m (pc + 3) ls (rest))) : W p l e R s m args below meth c H locs cells slots Q (F0 m pc ls st0) := by
  intro T hT X
  rcases hr T hT X with ⟨v, st₀, t, T', L, h0, X', hL, e1, e2, ⟨⟨u, hv, hp, hb⟩, hF⟩, st⟩ | ⟨q, st₀, t, T', L, E, ce, h0, X', hL, e1, e2, ⟨u, hp, hb, hF⟩, hce, hcv, hcl, st⟩
  · cases hv
    obtain ⟨k1, k2, k3⟩ := vx_keep h0 e1 hS hA hf hL hF
    obtain ⟨t2, a1, b1⟩ := kk u t T'.heap (locs ++ L) e1.symm (by rw [← e2]; exact X'.warmed.alike) hp hb k1 k2 k3 T' rfl X'
    exact ⟨t2, st t2 a1, b1⟩
  · obtain ⟨k1, k2, k3⟩ := vx_keep h0 e1 hS hAX hf hL hF
    obtain ⟨t2, a1, b1⟩ := kx E ce q u t T'.heap (locs ++ L) e1.symm (by rw [← e2]; exact X'.warmed.alike) hp hb k1 k2 k3 (by rw [e1]; exact hce) hcv hcl T' rfl X'
    exact ⟨t2, st.trans a1, b1⟩
/-- caught by the row x of this method's table; the rows ahead don't take it -/
theorem vx_catch {own name : String} {E : String} {ce : Cell} {q : Addr} (hown : s.vm.findClass own = some m.cls) (pre : List ExceptionTableEntry) (x : ExceptionTableEntry) (suf : List ExceptionTableEntry) (hsplit : c.exceptionTable.toList = pre ++ x :: suf)
    (hpass : ∀ z ∈ pre, covers z pc = false ∨ (z.catchType ≠ 0 ∧ ∃ nm : String, (Cond.classLink own z.catchType nm).before args s = true ∧ va_Nc E nm s)) (hx : covers x pc = true) (h0 : x.catchType ≠ 0)
    (hlink : (Cond.classLink own x.catchType name).before args s = true) (hcast : (Cond.castable E name).before args s = true) (hcell : H[q]? = some ce) (hv : ce.vm = .none) (hcl : s.vm.findClass E = some ce.cls)
    (kk : W p l e R s m args below meth c H locs cells slots Q (F0 m x.handlerPc ls [.ref q])) : vx_W p l e R s m args below meth c H locs cells slots Q (F0 m pc ls rest) q := by
  intro T hT X
  have hpl : e.platform.magicAccessors = ({} : Platform).magicAccessors := by rw [X.admits.platform]
  obtain ⟨c3, c4, hc3, hc4, hasg⟩ := Cond.castable_spec hcast
  cases Option.some.inj (hc3.symm.trans hcl)
  obtain ⟨c5, hc5, hcl5⟩ := Cond.classLink_spec hown hlink e.platform hpl
  cases Option.some.inj (hc4.symm.trans hc5)
  obtain ⟨vm', X', st⟩ := X.thenCaughtThrough q (g := F0 m pc ls rest) rfl (Steps.refl _) (by rw [hT]; exact hcell) (by rw [hv]; rfl) (by obtain ⟨k9, h9, -⟩ := Vm.findClass_spec hcl; exact ⟨k9, h9⟩) pre x suf hsplit
    (fun z hz => by
      rcases hpass z hz with h | ⟨hz0, nm, hl1, hn1⟩
      · exact Or.inl h
      · obtain ⟨c6, hc6, hcl6⟩ := Cond.classLink_spec hown hl1 e.platform hpl
        obtain ⟨a8, b8, h1, h2, h3⟩ := hn1
        cases Option.some.inj (h1.symm.trans hcl)
        cases Option.some.inj (h2.symm.trans hc6)
        exact Or.inr ⟨hz0, _, hcl6, h3⟩) hx (Or.inr ⟨h0, c4, hcl5, hasg⟩)
  obtain ⟨t, a1, b1⟩ := kk (T.setVm vm') hT X'
  exact ⟨t, st.trans a1, b1⟩
end Rows
section Ends
variable {p : Program} {l : Launch} {e : Env} {R : Room} {s : State} {m : MethodId} {args : Array Value} {below : List Frame} {meth : Method} {c : Code} {H : Heap} {locs : List Loc} {cells slots : Nat} {Q : State → Prop}
variable {mc ms : Nat} {free : Addr → Prop} {A0 A1 : Nat → Prop} {H0 : Heap} {a : Array Value} {ls : Array Slot} {st0 rest : List Value}
variable {Qc : Array Value → State → Outcome → State → Prop} {XC : String → State → State → Prop}
/-- what a body that may throw owes at its end -/
def vx_MQ (below : List Frame) (Qc : Array Value → State → Outcome → State → Prop) (XC : String → State → State → Prop) (a : Array Value) (s : State) (mc ms : Nat) (free : Addr → Prop) : State → Prop := fun t =>
  ∃ o, t.status = .running ∧ Ended t below o ∧ vx_Q Qc XC mc ms free a s o t
theorem vx_ret {g : JFrame} {mc ms : Nat} (k : W p l e R s m args below meth c H locs cells slots (MQ below Qc args s mc ms free) g) : W p l e R s m args below meth c H locs cells slots (vx_MQ below Qc XC args s mc ms free) g := by
  intro T hT X
  obtain ⟨t, a1, o, b1, b2, b3, b4⟩ := k T hT X
  exact ⟨t, a1, o, b1, b2, Or.inl ⟨b3, b4⟩⟩
/-- not caught here: it goes on to the caller -/
theorem vx_widen {g : JFrame} {q : Addr} {k n : Nat} (h1 : cells ≤ k) (h2 : slots ≤ n) (kk : vx_W p l e R s m args below meth c H locs k n Q g q) : vx_W p l e R s m args below meth c H locs cells slots Q g q := fun T hT X => kk T hT (stand_widen X h1 h2)
theorem vx_out {pc : Nat} {E : String} {ce : Cell} {q : Addr} {mc ms : Nat} (hout : ∀ x ∈ c.exceptionTable.toList, covers x pc = false) (hlocks : meth.locks = false) (hcell : H[q]? = some ce) (hv : ce.vm = .none) (hcl : s.vm.findClass E = some ce.cls)
    (hx : ∀ t : State, t.heap = H → s.vm.Alike t.vm → XC E s t) (hf : ∀ z ∈ locs, free z.base) (hc : cells ≤ mc) (hs : slots ≤ ms) :
    vx_W p l e R s m args below meth c H locs cells slots (vx_MQ below Qc XC args s mc ms free) (F0 m pc ls rest) q := by
  intro T hT X
  obtain ⟨st1, hrun, hend, hW, hsm⟩ := X.leaveThrown q (g := F0 m pc ls rest) rfl rfl rfl hout hlocks
  have hcell9 : (T.setFrames (.throwing q :: below)).heap[q]? = some ce := by
    show T.heap[q]? = some ce
    rw [hT]; exact hcell
  exact ⟨_, st1, .threw q, hrun, hend, Or.inr ⟨q, rfl, E, ce, locs, hx _ hT hW.alike, hcell9, hv, hcl, hW, hsm.mono hc hs, hf⟩⟩
theorem vx_frame {U : State} {k n : Nat} (h : s.sameButNew ({ U with vm := s.vm } : State) locs k n) : s.heap.size ≤ U.heap.size ∧ ∀ q : Nat, q < s.heap.size → (∀ z ∈ locs, z.base ≠ q) → U.heap[q]? = s.heap[q]? := by
  obtain ⟨-, h2, -, -, -, h6⟩ := h
  refine ⟨h2, fun q hq hz => ?_⟩
  obtain ⟨c9, e1, e2, e3, e4⟩ := h6 q _ (Array.getElem?_eq_getElem hq)
  have hs : c9.slots = (s.heap[q]).slots := Array.ext_getElem? fun i => e4 i fun hm => hz _ hm rfl
  have h9 : c9 = s.heap[q] := by
    rw [hs] at e2
    exact e2
  have e5 : U.heap[q]? = some c9 := e1
  rw [e5, h9, Array.getElem?_eq_getElem hq]
/-- the words of a throw but the four that speak of the heap -/
def vx_no (w : Cond) : Bool := decide (w ≠ .isRef (.static Bundle.tN "UNASSIGNED_STACK" Bundle.steD)) && decide (w ≠ .isRef (.static Bundle.tN "SUPPRESSED_SENTINEL" Bundle.listD)) && decide (w ≠ .laysStatic Bundle.tN "UNASSIGNED_STACK" Bundle.steD) && decide (w ≠ .laysStatic Bundle.tN "SUPPRESSED_SENTINEL" Bundle.listD)
def vx_at0 (own : String) (ic : Nat) (X : String) (names : List String) : List Cond := (Bundle.ownAtoms0 own ic X names).filter vx_no
def vx_atS (own : String) (ic : Nat) (X : String) (names : List String) : List Cond := (Bundle.ownAtoms own ic X names).filter vx_no
/-- a word that the tables alone decide, or a good one -/
def vx_ot (w : Cond) : Bool := w.onTables || goodWord w
theorem vx_ot_at {args a' : Array Value} {s U : State} {w : Cond} (hW : s.WarmedH U.vm) (hvm : s.vm = U.vm) (hg : vx_ot w = true) (h : w.before args s = true) : w.before a' U = true := by
  simp only [vx_ot, Bool.or_eq_true] at hg
  rcases hg with hg | hg
  · exact va_tabs hg hvm h
  · exact word_at hW (good_of_word hg) h
/-- a list's words: the good ones out of the method's own list, the others by premises of their own -/
theorem vx_hat {args : Array Value} {s : State} {L B : List Cond} (h1 : ∀ w ∈ L.filter goodWord, w.before args s = true) (h2 : ∀ w ∈ L.filter (fun w => !goodWord w), w ∈ B) (h3 : ∀ w ∈ B, w.before args s = true) : ∀ w ∈ L, w.before args s = true := by
  intro w hw
  by_cases g : goodWord w = true
  · exact h1 w (List.mem_filter.mpr ⟨hw, g⟩)
  · refine h3 w (h2 w (List.mem_filter.mpr ⟨hw, ?_⟩))
    show (!goodWord w) = true
    cases hgw : goodWord w
    · rfl
    · exact absurd hgw g
theorem vx_c {args : Array Value} {s : State} {w : Cond} {B : List Cond} (h : w.before args s = true) (t : ∀ w ∈ B, w.before args s = true) : ∀ w' ∈ w :: B, w'.before args s = true := fun w' h' => (List.mem_cons.mp h').elim (fun e => by rw [e]; exact h) (t w')
theorem vx_n {args : Array Value} {s : State} : ∀ w ∈ ([] : List Cond), w.before args s = true := fun _ h => nomatch h
theorem vx_own {args : Array Value} {s : State} {L : List Cond} (h1 : ∀ w ∈ L.filter vx_no, w.before args s = true)
    (hU : (Cond.isRef (.static Bundle.tN "UNASSIGNED_STACK" Bundle.steD)).before args s = true) (hN : (Cond.isRef (.static Bundle.tN "SUPPRESSED_SENTINEL" Bundle.listD)).before args s = true)
    (lU : (Cond.laysStatic Bundle.tN "UNASSIGNED_STACK" Bundle.steD).before args s = true) (lN : (Cond.laysStatic Bundle.tN "SUPPRESSED_SENTINEL" Bundle.listD).before args s = true) : ∀ w ∈ L, w.before args s = true := by
  intro w hw
  by_cases e1 : w = .isRef (.static Bundle.tN "UNASSIGNED_STACK" Bundle.steD)
  · rw [e1]; exact hU
  · by_cases e2 : w = .isRef (.static Bundle.tN "SUPPRESSED_SENTINEL" Bundle.listD)
    · rw [e2]; exact hN
    · by_cases e3 : w = .laysStatic Bundle.tN "UNASSIGNED_STACK" Bundle.steD
      · rw [e3]; exact lU
      · by_cases e4 : w = .laysStatic Bundle.tN "SUPPRESSED_SENTINEL" Bundle.listD
        · rw [e4]; exact lN
        · exact h1 w (List.mem_filter.mpr ⟨hw, by unfold vx_no; rw [decide_eq_true e1, decide_eq_true e2, decide_eq_true e3, decide_eq_true e4]; rfl⟩)
/-- where a static field lies, its class's statics cell in H -/
def vx_L (C n d : String) (A : Nat → Prop) (U : State) (H : Heap) : Prop := ∃ (c : ClassId) (k : Class) (i : Nat) (f : Field) (a : Nat) (cell : Cell), U.vm.findClass C = some c ∧ U.fieldFound? C n d = some (c, k, i, f) ∧ f.isStatic = true ∧ k.statics = some a ∧ H[a]? = some cell ∧ cell.vm.isStatics = true ∧ cell.cls = c ∧ f.slot < cell.slots.size ∧ k.staticTypes[f.slot]? = some f.type ∧ ¬ A a
theorem vx_L.moved {C n d : String} {A : Nat → Prop} {u U : State} {H : Heap} (hvm : u.vm.Alike U.vm) (h : vx_L C n d A u H) : vx_L C n d A U H := by
  obtain ⟨c, k, i, f, a, cell, h1, h2, h3, h4, h5, h6, h7, h8, h9, h10⟩ := h
  obtain ⟨k', hi', he⟩ := State.fieldFound?_setVm hvm h2
  exact ⟨c, k', i, f, a, cell, by rw [hvm.findClass]; exact h1, hi', h3, by rw [he]; exact h4, h5, h6, h7, h8, by rw [he]; exact h9, h10⟩
theorem vx_L.kept {C n d : String} {A : Nat → Prop} {U : State} {H H1 : Heap} (h : vx_L C n d A U H) (hq : ∀ a : Nat, a < H.size → ¬ A a → H1[a]? = H[a]?) : vx_L C n d A U H1 := by
  obtain ⟨c, k, i, f, a, cell, h1, h2, h3, h4, h5, h6, h7, h8, h9, h10⟩ := h
  exact ⟨c, k, i, f, a, cell, h1, h2, h3, h4, by rw [hq a (Array.getElem?_eq_some_iff.mp h5).1 h10]; exact h5, h6, h7, h8, h9, h10⟩
theorem vx_L.narrow {C n d : String} {A B : Nat → Prop} {U : State} {H : Heap} (h : vx_L C n d A U H) (hAB : ∀ q, B q → A q) : vx_L C n d B U H := by
  obtain ⟨c, k, i, f, a, cell, h1, h2, h3, h4, h5, h6, h7, h8, h9, h10⟩ := h
  exact ⟨c, k, i, f, a, cell, h1, h2, h3, h4, h5, h6, h7, h8, h9, fun z => h10 (hAB _ z)⟩
theorem vx_L.word {C n d : String} {A : Nat → Prop} {s : State} {args : Array Value} (h : vx_L C n d A s s.heap) : (Cond.laysStatic C n d).before args s = true := by
  obtain ⟨c, k, i, f, a, cell, h1, h2, h3, h4, h5, h6, h7, h8, h9, -⟩ := h
  show (Cond.laysStatic C n d).holds args s none s [] = true
  exact Cond.laysStatic_of h1 h2 h3 h4 h5 h6 h7 h8 h9
/-- .. and what it holds: null or some reference -/
def vx_Zq (C n d : String) (A : Nat → Prop) (U : State) (H : Heap) : Prop := va_Zq C n d A U H ∧ vx_L C n d A U H
theorem vx_Zq.moved {C n d : String} {A : Nat → Prop} {u U : State} {H : Heap} (hvm : u.vm.Alike U.vm) (h : vx_Zq C n d A u H) : vx_Zq C n d A U H := ⟨va_Zq.moved hvm h.1, vx_L.moved hvm h.2⟩
theorem vx_Zq.kept {C n d : String} {A : Nat → Prop} {U : State} {H H1 : Heap} (h : vx_Zq C n d A U H) (hq : ∀ a : Nat, a < H.size → ¬ A a → H1[a]? = H[a]?) : vx_Zq C n d A U H1 := ⟨va_Zq.kept h.1 hq, vx_L.kept h.2 hq⟩
theorem vx_Zq.narrow {C n d : String} {A B : Nat → Prop} {U : State} {H : Heap} (h : vx_Zq C n d A U H) (hAB : ∀ q, B q → A q) : vx_Zq C n d B U H := ⟨va_Zq.narrow h.1 hAB, vx_L.narrow h.2 hAB⟩
theorem vx_Zqof {args : Array Value} {s : State} {C n d : String} {A : Nat → Prop} (hl : (Cond.laysStatic C n d).before args s = true) (hini : (Cond.initialized C).before args s = true) (h : (Cond.isRef (.static C n d)).before args s = true) (hA : ∀ a : Nat, a < s.heap.size → ¬ A a) : vx_Zq C n d A s s.heap := by
  refine ⟨va_Zqof hl hini h hA, ?_⟩
  obtain ⟨c, k, i, f, a, cell, h1, h2, h3, h4, h5, h6, h7, h8, h9⟩ := Cond.laysStatic_spec hl
  exact ⟨c, k, i, f, a, cell, h1, h2, h3, h4, h5, h6, h7, h8, h9, hA a (Array.getElem?_eq_some_iff.mp h5).1⟩
theorem vx_isRef {C n d : String} {v : Value} {A : Nat → Prop} {s : State} {args : Array Value} (h : va_Z C n d v A s s.heap) (hv : v.isRef = true) : (Cond.isRef (.static C n d)).before args s = true := by
  obtain ⟨cf, kf, fi, f, a, cell, h1, h2, h3, h4, h5, h6, h7, -⟩ := h
  have he : (Term.static C n d).eval args s none [] s = some v := by
    simp [Term.eval, State.fieldNamed?, h1, h2, h4, h5, h6, h7]
  simp only [Cond.before, Cond.holds, Cond.value, he]
  cases v <;> simp_all [Value.isRef]
theorem vx_isRefq {C n d : String} {A : Nat → Prop} {s : State} {args : Array Value} (h : va_Zq C n d A s s.heap) : (Cond.isRef (.static C n d)).before args s = true := by
  rcases h with h | ⟨t, h⟩
  · exact vx_isRef h rfl
  · exact vx_isRef h rfl
/-- the same frame, seen from here: as if the method were called anew in this heap -/
theorem vx_rebase {T : State} (X : Stand p l e R s m args below meth c T locs cells slots) {R' : Room} (hf : R'.frames ≤ R.frames) (hl : R'.locals ≤ R.locals) (hc : cells + R'.cells ≤ R.cells) (hs : slots + R'.slots ≤ R.slots) :
    Stand p l e R' ((T.setVm s.vm).setFrames (.invoking m args :: below)) m args below meth c T [] 0 0 := by
  have htop : (T.setVm s.vm).topJava?.isSome := X.here.top
  have hF : ((T.setVm s.vm).setFrames (.invoking m args :: below)).frames = .invoking m args :: below := State.frames_setFrames _ (State.cur_lt_of_top htop)
  obtain ⟨g₀, hg0⟩ := Option.isSome_iff_exists.mp htop
  obtain ⟨r, hr⟩ := State.topJava?_eq_some.mp hg0
  have hl9 : e.platform.stackLimits (T.setVm s.vm).me = e.platform.stackLimits s.me := X.limits
  have hb9 : (T.setVm s.vm).me.stackBytes = s.me.stackBytes := X.bytes
  refine ⟨X.admits, X.cas, X.clock, hF, ?_, X.hears, X.method, X.code, X.here, X.tail, X.warmed, ?_, ?_, ?_⟩
  · have h := X.room
    have hU : ((T.setVm s.vm).setFrames (.invoking m args :: below)).localsInUse = s.localsInUse := by
      rw [State.localsInUse_invoking hF (meth := meth) (c := c) X.method X.code, State.localsInUse_invoking X.frames X.method X.code]
    simp only [State.hasRoom, Bool.and_eq_true, decide_eq_true_eq] at h ⊢
    obtain ⟨⟨⟨⟨h1, h2, h3, h4, h5, h6⟩, h7⟩, h8⟩, h9⟩ := h
    rw [X.frames, List.length_cons] at h2 h3
    have q1 := X.heapSize
    have q2 := X.used
    simp only [hF, hU, List.length_cons, State.stackLimits_setFrames, State.stackBytes_setFrames, hl9, hb9]
    refine ⟨⟨⟨⟨by omega, by omega, by omega, by omega, by omega, h6⟩, ?_⟩, ?_⟩, X.book⟩
    · show T.heap.size + R'.cells ≤ e.platform.maxCells
      omega
    · show T.slotsUsed + R'.slots ≤ e.platform.maxSlots
      omega
  · rw [State.stackLimits_setFrames]; rfl
  · rw [State.stackBytes_setFrames]; rfl
  · refine ⟨?_, Nat.le_refl _, Nat.le_refl _, ?_, ?_, fun a c9 h9 => ⟨c9, h9, rfl, rfl, fun _ _ => rfl⟩⟩
    · obtain ⟨t, ht, -⟩ := State.frames_cons hr
      show T.setVm s.vm = { ((T.setVm s.vm).setFrames (.invoking m args :: below)).setFrames (T.setVm s.vm).frames with heap := T.heap, slotsUsed := T.slotsUsed }
      rw [State.setFrames_setFrames, State.setFrames_self ht]
      rfl
    · show T.slotsUsed = T.slotsUsed + ((T.heap.toList.drop T.heap.size).map (·.slots.size)).sum
      rw [List.drop_eq_nil_of_le (Nat.le_of_eq Array.length_toList)]
      rfl
    · show ((T.heap.toList.drop T.heap.size).map (·.slots.size)).sum ≤ 0
      rw [List.drop_eq_nil_of_le (Nat.le_of_eq Array.length_toList)]
      exact Nat.le_refl _
/-- 'throw new E()': new; dup; invokespecial; athrow -/
theorem vx_throw0 {cc : ByteArray} {pc : Nat} (hexec : p.tables.exec = Jvm.exec) (hb : c.code = cc) (hl : l.stackTraces = false) {own cls : String} {names : List String} {ik ic mc ms : Nat} {A : Nat → Prop}
    (hown : s.vm.findClass own = some m.cls) (hcls : Bundle.fit cls = true) (hnames : ∀ n ∈ names, Bundle.fit n = true)
    (hk : (Cond.classLink own ik cls).before args s = true) (hini : (Cond.initialized cls).before args s = true) (hat : ∀ w ∈ vx_at0 own ic cls names, w.before args s = true)
    (hgood : ∀ w ∈ Cond.classLink own ik cls :: Cond.initialized cls :: vx_at0 own ic cls names, vx_ot w = true)
    (hU : vx_Zq Bundle.tN "UNASSIGNED_STACK" Bundle.steD A s s.heap) (hN : vx_Zq Bundle.tN "SUPPRESSED_SENTINEL" Bundle.listD A s s.heap) (hS : va_S A s.heap H locs) (hsize : ls.size = c.maxLocals)
    (d0 : decode cc pc = .ok (.new ik, 3)) (d3 : decode cc (pc + 3) = .ok (.dup, 1)) (d4 : decode cc (pc + 4) = .ok (.invokespecial ic, 3)) (d7 : decode cc (pc + 7) = .ok (.athrow, 1))
    (hout : ∀ x ∈ c.exceptionTable.toList, covers x (pc + 7) = false)
    (hRframes : names.length + 3 < R.frames) (hRlocals : (rest.map fun v => v.category).sum + (13 * (names.length + 1) + 42) ≤ R.locals) (hRcells : cells + 1 ≤ R.cells) (hRslots : slots + 6 ≤ R.slots) (hlocks : meth.locks = false)
    (hx : ∀ t : State, s.vm.Alike t.vm → H.size ≤ t.heap.size → (∀ q : Nat, q < H.size → t.heap[q]? = H[q]?) → XC cls s t)
    (hf : ∀ z ∈ locs, free z.base) (hc : cells + 1 ≤ mc) (hs : slots + 6 ≤ ms) :
    W p l e R s m args below meth c H locs cells slots (vx_MQ below Qc XC args s mc ms free) (F0 m pc ls rest) := by
  intro T hT X
  have htr : e.platform.stackTraces = false := (show e.platform.stackTraces = l.stackTraces by rw [X.admits.platform]).trans hl
  have Y := vx_rebase X (R' := { frames := R.frames, locals := R.locals, cells := 1, slots := 6 }) (Nat.le_refl _) (Nat.le_refl _) hRcells hRslots
  obtain ⟨s', hA⟩ : ∃ z, z = (T.setVm s.vm).setFrames (.invoking m args :: below) := ⟨_, rfl⟩
  rw [← hA] at Y
  have hvm : s'.vm = s.vm := by rw [hA]; rfl
  have hhp : s'.heap = H := by rw [hA]; exact hT
  have hW0 : s.WarmedH s'.vm := by rw [hvm]; exact State.WarmedH.refl s
  have hat' : ∀ w ∈ vx_at0 own ic cls names, w.before args s' = true := fun w hw => vx_ot_at hW0 hvm.symm (hgood w (List.mem_cons_of_mem _ (List.mem_cons_of_mem _ hw))) (hat w hw)
  have hk' : (Cond.classLink own ik cls).before args s' = true := vx_ot_at hW0 hvm.symm (hgood _ List.mem_cons_self) hk
  have hini' : (Cond.initialized cls).before args s' = true := vx_ot_at hW0 hvm.symm (hgood _ (List.mem_cons_of_mem _ List.mem_cons_self)) hini
  have hU' : vx_Zq Bundle.tN "UNASSIGNED_STACK" Bundle.steD A s' s'.heap := by rw [hhp]; exact vx_Zq.moved hW0.alike (hU.kept hS.2.1)
  have hN' : vx_Zq Bundle.tN "SUPPRESSED_SENTINEL" Bundle.listD A s' s'.heap := by rw [hhp]; exact vx_Zq.moved hW0.alike (hN.kept hS.2.1)
  have h : ∀ w ∈ Bundle.ownAtoms0 own ic cls names, w.before args s' = true := vx_own hat' (vx_isRefq hU'.1) (vx_isRefq hN'.1) hU'.2.word hN'.2.word
  have hown' : s'.vm.findClass own = some m.cls := by rw [hvm]; exact hown
  have hins : (Cond.instantiable cls 6).before args s' = true := h _ (by simp [Bundle.ownAtoms0])
  obtain ⟨vm₁, cX, kX, hfX, hkX, -, -, X₁, st1⟩ := Y.newCold hexec (own := own) (C := cls) (index := ik) (n := 6) hown' hk' hins hini'
    (g := F0 m pc ls rest) rfl (by rw [hb]; exact d0) (Nat.le_refl _) (Nat.le_refl _)
  generalize hT1 : (T.setVm vm₁).pushCell { cls := cX, slots := kX.instanceTypes.map defaultValue, vm := .none } = T1 at X₁ st1
  have hcat : (Value.ref T.heap.size).category = 1 := rfl
  have hcellA : T1.heap[T.heap.size]? = some (freshCell cX kX) := by rw [← hT1]; exact State.heap_pushCell_size _ _
  have d3' : decode c.code (pc + 3) = .ok (.dup, 1) := by rw [hb]; exact d3
  obtain ⟨U, hsteps, hrun, hend, hW, hsame, ce, hce, hO⟩ := X₁.ctorThrow0 hexec htr (own := own) (cls := cls) (names := names) (ic := ic) hown' hcls hnames h (fun x hx => nomatch hx) hfX hkX hcellA (by rw [hhp, hT]; exact Nat.le_refl _)
    (g := { method := m, pc := pc + 4, locals := ls, stack := .ref T.heap.size :: .ref T.heap.size :: rest, locked := none }) rfl hsize rfl rfl (rest := rest) rfl
    (by rw [hb]; exact d4) (by rw [hb]; exact d7) hout hRframes (by simp only [List.map_cons, List.sum_cons, hcat]; omega) hlocks
  obtain ⟨f1, f2⟩ := vx_frame hsame
  rw [hhp] at f1 f2
  have hWs : s.WarmedH U.vm := State.WarmedH.trans hW0 hW
  have hcl : s.vm.findClass cls = some ce.cls := by
    have h9 := hO.cls
    rw [hvm] at h9
    exact h9
  have hall : s.sameButNew ({ U with vm := s.vm } : State) locs mc ms := by
    subst hA
    obtain ⟨e1, e2⟩ := hsame
    rw [State.setFrames_setFrames] at e1
    have h2 : (T.setVm s.vm).sameButNew ({ U with vm := s.vm } : State) [] (0 + 1) (0 + 6) := ⟨e1, e2⟩
    have h3 := X.same.trans h2
    rw [List.append_nil] at h3
    exact h3.mono hc hs
  refine ⟨U, ?_, .threw T.heap.size, hrun, hend, Or.inr ⟨T.heap.size, rfl, cls, ce, locs, hx U hWs.alike f1 (fun q hq => f2 q hq (fun z hz => nomatch hz)), hce, hO.vm, hcl, hWs, hall, hf⟩⟩
  refine st1 _ ?_
  show Steps p.tables e below (T1.setTop { method := m, pc := pc + 3, locals := ls, stack := .ref T.heap.size :: rest, locked := none }) _
  jvm_step X₁.here [X₁.here.top, hexec, d3', Value.category]
  exact hsteps
/-- 'throw new E("text")': new; dup; ldc; invokespecial; athrow -/
theorem vx_throwS {cc : ByteArray} {pc : Nat} (hexec : p.tables.exec = Jvm.exec) (hb : c.code = cc) (hl : l.stackTraces = false) {own cls text : String} {names : List String} {ik is ic mc ms sa : Nat} {A : Nat → Prop}
    (hown : s.vm.findClass own = some m.cls) (hcls : Bundle.fit cls = true) (hnames : ∀ n ∈ names, Bundle.fit n = true)
    (hk : (Cond.classLink own ik cls).before args s = true) (hini : (Cond.initialized cls).before args s = true) (hstr : vk_R own is text sa s) (hat : ∀ w ∈ vx_atS own ic cls names, w.before args s = true)
    (hgood : ∀ w ∈ Cond.classLink own ik cls :: Cond.initialized cls :: vx_atS own ic cls names, vx_ot w = true)
    (hU : vx_Zq Bundle.tN "UNASSIGNED_STACK" Bundle.steD A s s.heap) (hN : vx_Zq Bundle.tN "SUPPRESSED_SENTINEL" Bundle.listD A s s.heap) (hS : va_S A s.heap H locs) (hsize : ls.size = c.maxLocals)
    (d0 : decode cc pc = .ok (.new ik, 3)) (d3 : decode cc (pc + 3) = .ok (.dup, 1)) (d4 : decode cc (pc + 4) = .ok (.ldc is, 2)) (d6 : decode cc (pc + 6) = .ok (.invokespecial ic, 3)) (d9 : decode cc (pc + 9) = .ok (.athrow, 1))
    (hout : ∀ x ∈ c.exceptionTable.toList, covers x (pc + 9) = false)
    (hRframes : names.length + 3 < R.frames) (hRlocals : (rest.map fun v => v.category).sum + (13 * (names.length + 1) + 43) ≤ R.locals) (hRcells : cells + 1 ≤ R.cells) (hRslots : slots + 6 ≤ R.slots) (hlocks : meth.locks = false)
    (hx : ∀ t : State, s.vm.Alike t.vm → H.size ≤ t.heap.size → (∀ q : Nat, q < H.size → t.heap[q]? = H[q]?) → XC cls s t)
    (hf : ∀ z ∈ locs, free z.base) (hc : cells + 1 ≤ mc) (hs : slots + 6 ≤ ms) :
    W p l e R s m args below meth c H locs cells slots (vx_MQ below Qc XC args s mc ms free) (F0 m pc ls rest) := by
  intro T hT X
  have htr : e.platform.stackTraces = false := (show e.platform.stackTraces = l.stackTraces by rw [X.admits.platform]).trans hl
  have Y := vx_rebase X (R' := { frames := R.frames, locals := R.locals, cells := 1, slots := 6 }) (Nat.le_refl _) (Nat.le_refl _) hRcells hRslots
  obtain ⟨s', hA⟩ : ∃ z, z = (T.setVm s.vm).setFrames (.invoking m args :: below) := ⟨_, rfl⟩
  rw [← hA] at Y
  have hvm : s'.vm = s.vm := by rw [hA]; rfl
  have hhp : s'.heap = H := by rw [hA]; exact hT
  have hW0 : s.WarmedH s'.vm := by rw [hvm]; exact State.WarmedH.refl s
  have hat' : ∀ w ∈ vx_atS own ic cls names, w.before args s' = true := fun w hw => vx_ot_at hW0 hvm.symm (hgood w (List.mem_cons_of_mem _ (List.mem_cons_of_mem _ hw))) (hat w hw)
  have hk' : (Cond.classLink own ik cls).before args s' = true := vx_ot_at hW0 hvm.symm (hgood _ List.mem_cons_self) hk
  have hini' : (Cond.initialized cls).before args s' = true := vx_ot_at hW0 hvm.symm (hgood _ (List.mem_cons_of_mem _ List.mem_cons_self)) hini
  have hU' : vx_Zq Bundle.tN "UNASSIGNED_STACK" Bundle.steD A s' s'.heap := by rw [hhp]; exact vx_Zq.moved hW0.alike (hU.kept hS.2.1)
  have hN' : vx_Zq Bundle.tN "SUPPRESSED_SENTINEL" Bundle.listD A s' s'.heap := by rw [hhp]; exact vx_Zq.moved hW0.alike (hN.kept hS.2.1)
  have h : ∀ w ∈ Bundle.ownAtoms own ic cls names, w.before args s' = true := vx_own hat' (vx_isRefq hU'.1) (vx_isRefq hN'.1) hU'.2.word hN'.2.word
  have hown' : s'.vm.findClass own = some m.cls := by rw [hvm]; exact hown
  have hins : (Cond.instantiable cls 6).before args s' = true := h _ (by simp [Bundle.ownAtoms])
  obtain ⟨vm₁, cX, kX, hfX, hkX, -, -, X₁, st1⟩ := Y.newCold hexec (own := own) (C := cls) (index := ik) (n := 6) hown' hk' hins hini'
    (g := F0 m pc ls rest) rfl (by rw [hb]; exact d0) (Nat.le_refl _) (Nat.le_refl _)
  generalize hT1 : (T.setVm vm₁).pushCell { cls := cX, slots := kX.instanceTypes.map defaultValue, vm := .none } = T1 at X₁ st1
  have hcat : (Value.ref T.heap.size).category = 1 := rfl
  have hcellA : T1.heap[T.heap.size]? = some (freshCell cX kX) := by rw [← hT1]; exact State.heap_pushCell_size _ _
  have d3' : decode c.code (pc + 3) = .ok (.dup, 1) := by rw [hb]; exact d3
  have d4' : decode c.code (pc + 4) = .ok (.ldc is, 2) := by rw [hb]; exact d4
  have hstr' : vk_R own is text sa s' := vk_R.warm hW0 hstr
  obtain ⟨U, hsteps, hrun, hend, hW, hsame, ce, hce, hO⟩ := X₁.ctorThrowS hexec htr (own := own) (cls := cls) (names := names) (ic := ic) hown' hcls hnames h (fun x hx => nomatch hx) hfX hkX hcellA (by rw [hhp, hT]; exact Nat.le_refl _) (msg := .ref sa) rfl
    (g := { method := m, pc := pc + 6, locals := ls, stack := .ref sa :: .ref T.heap.size :: .ref T.heap.size :: rest, locked := none }) rfl hsize rfl rfl (rest := rest) rfl
    (by rw [hb]; exact d6) (by rw [hb]; exact d9) hout hRframes (by simp only [List.map_cons, List.sum_cons, hcat]; omega) hlocks
  obtain ⟨f1, f2⟩ := vx_frame hsame
  rw [hhp] at f1 f2
  have hWs : s.WarmedH U.vm := State.WarmedH.trans hW0 hW
  have hcl : s.vm.findClass cls = some ce.cls := by
    have h9 := hO.cls
    rw [hvm] at h9
    exact h9
  have hall : s.sameButNew ({ U with vm := s.vm } : State) locs mc ms := by
    subst hA
    obtain ⟨e1, e2⟩ := hsame
    rw [State.setFrames_setFrames] at e1
    have h2 : (T.setVm s.vm).sameButNew ({ U with vm := s.vm } : State) [] (0 + 1) (0 + 6) := ⟨e1, e2⟩
    have h3 := X.same.trans h2
    rw [List.append_nil] at h3
    exact h3.mono hc hs
  refine ⟨U, ?_, .threw T.heap.size, hrun, hend, Or.inr ⟨T.heap.size, rfl, cls, ce, locs, hx U hWs.alike f1 (fun q hq => f2 q hq (fun z hz => nomatch hz)), hce, hO.vm, hcl, hWs, hall, hf⟩⟩
  refine st1 _ ?_
  show Steps p.tables e below (T1.setTop { method := m, pc := pc + 3, locals := ls, stack := .ref T.heap.size :: rest, locked := none }) _
  jvm_step X₁.here [X₁.here.top, hexec, d3', Value.category]
  exact X₁.ldcString hexec (own := own) (text := text) (index := is) (a := sa) hown' hstr'.1 hstr'.2
    (g := { method := m, pc := pc + 4, locals := ls, stack := .ref T.heap.size :: .ref T.heap.size :: rest, locked := none }) rfl d4' _ hsteps
/-- 'throw new E("text")', the text by a wide index -/
theorem vx_throwSW {cc : ByteArray} {pc : Nat} (hexec : p.tables.exec = Jvm.exec) (hb : c.code = cc) (hl : l.stackTraces = false) {own cls text : String} {names : List String} {ik is ic mc ms sa : Nat} {A : Nat → Prop}
    (hown : s.vm.findClass own = some m.cls) (hcls : Bundle.fit cls = true) (hnames : ∀ n ∈ names, Bundle.fit n = true)
    (hk : (Cond.classLink own ik cls).before args s = true) (hini : (Cond.initialized cls).before args s = true) (hstr : vk_R own is text sa s) (hat : ∀ w ∈ vx_atS own ic cls names, w.before args s = true)
    (hgood : ∀ w ∈ Cond.classLink own ik cls :: Cond.initialized cls :: vx_atS own ic cls names, vx_ot w = true)
    (hU : vx_Zq Bundle.tN "UNASSIGNED_STACK" Bundle.steD A s s.heap) (hN : vx_Zq Bundle.tN "SUPPRESSED_SENTINEL" Bundle.listD A s s.heap) (hS : va_S A s.heap H locs) (hsize : ls.size = c.maxLocals)
    (d0 : decode cc pc = .ok (.new ik, 3)) (d3 : decode cc (pc + 3) = .ok (.dup, 1)) (d4 : decode cc (pc + 4) = .ok (.ldc_w is, 3)) (d7 : decode cc (pc + 7) = .ok (.invokespecial ic, 3)) (d10 : decode cc (pc + 10) = .ok (.athrow, 1))
    (hout : ∀ x ∈ c.exceptionTable.toList, covers x (pc + 10) = false)
    (hRframes : names.length + 3 < R.frames) (hRlocals : (rest.map fun v => v.category).sum + (13 * (names.length + 1) + 43) ≤ R.locals) (hRcells : cells + 1 ≤ R.cells) (hRslots : slots + 6 ≤ R.slots) (hlocks : meth.locks = false)
    (hx : ∀ t : State, s.vm.Alike t.vm → H.size ≤ t.heap.size → (∀ q : Nat, q < H.size → t.heap[q]? = H[q]?) → XC cls s t)
    (hf : ∀ z ∈ locs, free z.base) (hc : cells + 1 ≤ mc) (hs : slots + 6 ≤ ms) :
    W p l e R s m args below meth c H locs cells slots (vx_MQ below Qc XC args s mc ms free) (F0 m pc ls rest) := by
  intro T hT X
  have htr : e.platform.stackTraces = false := (show e.platform.stackTraces = l.stackTraces by rw [X.admits.platform]).trans hl
  have Y := vx_rebase X (R' := { frames := R.frames, locals := R.locals, cells := 1, slots := 6 }) (Nat.le_refl _) (Nat.le_refl _) hRcells hRslots
  obtain ⟨s', hA⟩ : ∃ z, z = (T.setVm s.vm).setFrames (.invoking m args :: below) := ⟨_, rfl⟩
  rw [← hA] at Y
  have hvm : s'.vm = s.vm := by rw [hA]; rfl
  have hhp : s'.heap = H := by rw [hA]; exact hT
  have hW0 : s.WarmedH s'.vm := by rw [hvm]; exact State.WarmedH.refl s
  have hat' : ∀ w ∈ vx_atS own ic cls names, w.before args s' = true := fun w hw => vx_ot_at hW0 hvm.symm (hgood w (List.mem_cons_of_mem _ (List.mem_cons_of_mem _ hw))) (hat w hw)
  have hk' : (Cond.classLink own ik cls).before args s' = true := vx_ot_at hW0 hvm.symm (hgood _ List.mem_cons_self) hk
  have hini' : (Cond.initialized cls).before args s' = true := vx_ot_at hW0 hvm.symm (hgood _ (List.mem_cons_of_mem _ List.mem_cons_self)) hini
  have hU' : vx_Zq Bundle.tN "UNASSIGNED_STACK" Bundle.steD A s' s'.heap := by rw [hhp]; exact vx_Zq.moved hW0.alike (hU.kept hS.2.1)
  have hN' : vx_Zq Bundle.tN "SUPPRESSED_SENTINEL" Bundle.listD A s' s'.heap := by rw [hhp]; exact vx_Zq.moved hW0.alike (hN.kept hS.2.1)
  have h : ∀ w ∈ Bundle.ownAtoms own ic cls names, w.before args s' = true := vx_own hat' (vx_isRefq hU'.1) (vx_isRefq hN'.1) hU'.2.word hN'.2.word
  have hown' : s'.vm.findClass own = some m.cls := by rw [hvm]; exact hown
  have hins : (Cond.instantiable cls 6).before args s' = true := h _ (by simp [Bundle.ownAtoms])
  obtain ⟨vm₁, cX, kX, hfX, hkX, -, -, X₁, st1⟩ := Y.newCold hexec (own := own) (C := cls) (index := ik) (n := 6) hown' hk' hins hini'
    (g := F0 m pc ls rest) rfl (by rw [hb]; exact d0) (Nat.le_refl _) (Nat.le_refl _)
  generalize hT1 : (T.setVm vm₁).pushCell { cls := cX, slots := kX.instanceTypes.map defaultValue, vm := .none } = T1 at X₁ st1
  have hcat : (Value.ref T.heap.size).category = 1 := rfl
  have hcellA : T1.heap[T.heap.size]? = some (freshCell cX kX) := by rw [← hT1]; exact State.heap_pushCell_size _ _
  have d3' : decode c.code (pc + 3) = .ok (.dup, 1) := by rw [hb]; exact d3
  have d4' : decode c.code (pc + 4) = .ok (.ldc_w is, 3) := by rw [hb]; exact d4
  have hstr' : vk_R own is text sa s' := vk_R.warm hW0 hstr
  obtain ⟨U, hsteps, hrun, hend, hW, hsame, ce, hce, hO⟩ := X₁.ctorThrowS hexec htr (own := own) (cls := cls) (names := names) (ic := ic) hown' hcls hnames h (fun x hx => nomatch hx) hfX hkX hcellA (by rw [hhp, hT]; exact Nat.le_refl _) (msg := .ref sa) rfl
    (g := { method := m, pc := pc + 7, locals := ls, stack := .ref sa :: .ref T.heap.size :: .ref T.heap.size :: rest, locked := none }) rfl hsize rfl rfl (rest := rest) rfl
    (by rw [hb]; exact d7) (by rw [hb]; exact d10) hout hRframes (by simp only [List.map_cons, List.sum_cons, hcat]; omega) hlocks
  obtain ⟨f1, f2⟩ := vx_frame hsame
  rw [hhp] at f1 f2
  have hWs : s.WarmedH U.vm := State.WarmedH.trans hW0 hW
  have hcl : s.vm.findClass cls = some ce.cls := by
    have h9 := hO.cls
    rw [hvm] at h9
    exact h9
  have hall : s.sameButNew ({ U with vm := s.vm } : State) locs mc ms := by
    subst hA
    obtain ⟨e1, e2⟩ := hsame
    rw [State.setFrames_setFrames] at e1
    have h2 : (T.setVm s.vm).sameButNew ({ U with vm := s.vm } : State) [] (0 + 1) (0 + 6) := ⟨e1, e2⟩
    have h3 := X.same.trans h2
    rw [List.append_nil] at h3
    exact h3.mono hc hs
  refine ⟨U, ?_, .threw T.heap.size, hrun, hend, Or.inr ⟨T.heap.size, rfl, cls, ce, locs, hx U hWs.alike f1 (fun q hq => f2 q hq (fun z hz => nomatch hz)), hce, hO.vm, hcl, hWs, hall, hf⟩⟩
  refine st1 _ ?_
  show Steps p.tables e below (T1.setTop { method := m, pc := pc + 3, locals := ls, stack := .ref T.heap.size :: rest, locked := none }) _
  jvm_step X₁.here [X₁.here.top, hexec, d3', Value.category]
  exact X₁.ldcStringW hexec (own := own) (text := text) (index := is) (a := sa) hown' hstr'.1 hstr'.2
    (g := { method := m, pc := pc + 4, locals := ls, stack := .ref T.heap.size :: .ref T.heap.size :: rest, locked := none }) rfl d4' _ hsteps
end Ends
section Bodies
variable {l : Launch}
theorem vx_ofW {y : MethodName} {ws ws' : List Cond} {rm : Room} {Pc : Array Value → State → Prop} {Qc : Array Value → State → Outcome → State → Prop} {XC : String → State → State → Prop} {mc ms : Nat} {free : Addr → Prop} {cc : ByteArray} {maxL : Nat} {ret : Option FieldType}
    (hy : plainName y.cls = true) (hw : ws = Cond.code y cc maxL ret :: ws')
    (body : ∀ p e s m args below meth c s₁, BodyLoose p l y (headSpec ws rm) cc maxL ret e s m args below meth c s₁ → c.maxLocals = maxL → (∀ x ∈ c.exceptionTable.toList, False) → Pc args s →
      W p l e (headSpec ws rm).room s m args below meth c s.heap [] 0 0 (vx_MQ below Qc XC args s mc ms free) (entryFrame m args maxL)) : vx_Met l y ws rm Pc Qc XC mc ms free := by
  refine MetFree.of_bodyS (code := cc) (maxLocals := maxL) (ret := ret) hy ?_ ?_
  · intro args s m h hn
    obtain ⟨meth, c, h1, h2, h3, h4, h5, h6, -, -⟩ := Cond.code_spec hn (atoms_spec (ws := ws) h _ (by rw [hw]; exact List.mem_cons_self))
    exact ⟨meth, c, h1, h2, h3, h4, h5, h6⟩
  · intro p e s m args below meth c s₁ B hml hP _
    have hh0 : s₁.heap = s.heap := by rw [B.state]; rfl
    have ht : ∀ x ∈ c.exceptionTable.toList, False := by
      obtain ⟨meth9, c9, h1, h2, -, -, -, -, h7, -⟩ := Cond.code_spec B.named (atoms_spec (ws := ws) B.pre _ (by rw [hw]; exact List.mem_cons_self))
      cases Option.some.inj (h1.symm.trans B.method)
      cases Option.some.inj (h2.symm.trans (Stand.of_body B).code)
      intro x hx
      rw [Array.isEmpty_iff.mp h7] at hx
      cases hx
    obtain ⟨t, a1, o, b1, b2, b3⟩ := body p e s m args below meth c s₁ B hml ht hP s₁ hh0 (Stand.of_body B)
    exact ⟨t, o, a1, b1, b2, b3⟩
/-- the table of a body with handlers -/
theorem vx_table {p : Program} {x y : MethodName} {S : Spec} {cc bytes : ByteArray} {maxL maxL' : Nat} {ret ret' : Option FieldType} {e : Env} {s s₁ : State} {m : MethodId} {args : Array Value} {below : List Frame} {meth : Method} {c : Code} {hh : List (Nat × Nat × Nat × Nat)}
    (B : BodyLoose p l y S cc maxL ret e s m args below meth c s₁) (h : (Cond.codeWith y bytes maxL' ret' hh).before args s = true) : c.exceptionTable.toList = tableOf hh := by
  obtain ⟨m9, meth9, c9, hn9, h1, h2, -, -, h6, -⟩ := Cond.codeWith_spec h
  cases Option.some.inj (hn9.symm.trans B.named)
  cases Option.some.inj (h1.symm.trans B.method)
  cases Option.some.inj (h2.symm.trans (Stand.of_body B).code)
  rw [← h6, table_eq]
end Bodies
end VXA
/-! ===== END ===== -/
/-! ===== BEGIN a static call of a method with an exception table ===== -/
section VXS
variable {p : Program} {l : Launch} {e : Env} {R : Room} {s : State} {m : MethodId} {args : Array Value} {below : List Frame} {meth : Method} {c : Code} {T : State} {H : Heap} {locs : List Loc} {cells slots : Nat}
abbrev vx_CSW (R : Room) (s : State) (args : Array Value) (own : String) (index : Nat) (y : MethodName) (bytes : ByteArray) (maxL : Nat) (ret : Option FieldType) (hh : List (Nat × Nat × Nat × Nat)) (ws : List Cond) (rm : Room) (mc ms n : Nat) : Prop :=
  (rm.cells = mc ∧ rm.slots = ms ∧ rm.frames + 1 ≤ R.frames ∧ 8 + (maxL + 11) + rm.locals ≤ R.locals ∧ (∀ w ∈ ws, ∀ (a' : Array Value) (U : State), s.WarmedH U.vm → w.before a' U = true) ∧ Cond.codeWith y bytes maxL ret hh ∈ ws) ∧
  (Cond.codeWith y bytes maxL ret hh).before args s = true ∧ (Cond.initialized y.cls).before args s = true ∧ (y.cls ≠ "java/lang/invoke/MethodHandle" ∧ y.cls ≠ "java/lang/invoke/VarHandle") ∧
  (∀ sig, parseMethodDescriptor y.desc = some sig → n = sig.parameters.length) ∧ (Cond.methodLink own index y).before args s = true ∧ (Cond.static y).before args s = true
theorem vx_cwSW {own : String} {index maxL mc ms : Nat} {y : MethodName} {bytes : ByteArray} {ret : Option FieldType} {hh : List (Nat × Nat × Nat × Nat)} {Ts ws ws' : List Cond} {rm : Room} (n : Nat) (ht : ∀ w ∈ Ts, w.before args s = true) (hT : GoodIn Ts (va_wsS own index y ws)) (hw : ws = Cond.codeWith y bytes maxL ret hh :: ws') (hrc : rm.cells = mc) (hrs : rm.slots = ms)
    (hd : y.cls ≠ "java/lang/invoke/MethodHandle" ∧ y.cls ≠ "java/lang/invoke/VarHandle" ∧ (parseMethodDescriptor y.desc).map (fun d => d.parameters.length) = some n) (hR : rm.frames + 1 ≤ R.frames ∧ 8 + (maxL + 11) + rm.locals ≤ R.locals) :
    vx_CSW R s args own index y bytes maxL ret hh ws rm mc ms n := by
  have ok : ∀ w ∈ va_wsS own index y ws, w.before args s = true := fun w h => ht w (hT w h).1
  have hG : GoodIn Ts ws := fun w h => hT w (by unfold va_wsS; exact List.mem_append_right _ h)
  have hc : Cond.codeWith y bytes maxL ret hh ∈ ws := by rw [hw]; exact List.mem_cons_self
  refine ⟨⟨hrc, hrs, hR.1, hR.2, pay_in ht hG, hc⟩, ht _ (hG _ hc).1, ok _ (by simp [va_wsS]), ⟨hd.1, hd.2.1⟩, fun sig h => ?_, ok _ (by simp [va_wsS]), ok _ (by simp [va_wsS])⟩
  have h2 := hd.2.2
  rw [h] at h2
  exact (Option.some.inj h2).symm
theorem vx_callSW (X : Stand p l e R s m args below meth c T locs cells slots) (hexec : p.tables.exec = Jvm.exec) {own : String} {index : Nat} {y : MethodName} {bytes : ByteArray} {maxL : Nat} {ret : Option FieldType} {hh : List (Nat × Nat × Nat × Nat)}
    (hown : s.vm.findClass own = some m.cls) (hlink : (Cond.methodLink own index y).before args s = true) (hstat : (Cond.static y).before args s = true) (hinit : (Cond.initialized y.cls).before args s = true)
    (hcode : (Cond.codeWith y bytes maxL ret hh).before args s = true) (hy : y.cls ≠ "java/lang/invoke/MethodHandle" ∧ y.cls ≠ "java/lang/invoke/VarHandle")
    {W9 : Nat} {Pre : Pt → Array Value → Prop} {Post : Pt → Array Value → Option Value → Pt → Prop} (hK : Back l R p e below s args y 3 W9 Pre Post)
    {g : JFrame} (hg : g.method = m) (hsize : g.locals.size = c.maxLocals) {argsL rest : List Value} (hlen : ∀ sig, parseMethodDescriptor y.desc = some sig → argsL.length = sig.parameters.length)
    (hstack : g.stack = argsL.reverse ++ rest) (hW : 2 * g.monitorRoom + (rest.map fun v => v.category).sum ≤ W9) (hdg : decode c.code g.pc = .ok (.invokestatic index, 3))
    (hpre : ∀ vm₁, s.WarmedH vm₁ → Pre ⟨T.setVm vm₁, locs, cells, slots⟩ argsL.toArray) :
    ∃ (v : Option Value) (vm₁ : Vm) (B : Pt), s.WarmedH vm₁ ∧ Stand p l e R s m args below meth c B.U B.locs B.cells B.slots ∧ Post ⟨T.setVm vm₁, locs, cells, slots⟩ argsL.toArray v B ∧
      ∀ target, Steps p.tables e below (B.U.setTop { g with pc := g.pc + 3, stack := v.toList ++ rest }) target → Steps p.tables e below (T.setTop g) target := by
  obtain ⟨mk, methM, cM, hnamed, hmethM, -, -, -, -, -, -, hsigM⟩ := Cond.codeWith_spec hcode
  have hstatic : methM.isStatic = true := Cond.static_spec hnamed hmethM hstat
  obtain ⟨kP, hkP, -⟩ := className_of_methodNamed hnamed
  have hinitP : kP.init = .initialized := Cond.initialized_spec (findClass_of_methodNamed hnamed) hkP hinit
  obtain ⟨vm₁, X₁, hstep₁⟩ := X.invokestatic hexec hown hlink hnamed hmethM hstatic hkP hinitP hy (g := g) hg (argsL := argsL) (rest := rest) (hlen _ hsigM) hstack hdg
  obtain ⟨v, B, X', hpost, hsteps⟩ := hK m meth c ⟨T.setVm vm₁, locs, cells, slots⟩ { g with stack := rest } (.invokestatic index) mk argsL.toArray X₁ hg hsize hdg hW (X₁.named hnamed) (hpre vm₁ X₁.warmed)
  exact ⟨v, vm₁, B, X₁.warmed, X', hpost, fun target h => hstep₁ _ fun acts => by rw [doInvoke_state]; exact hsteps.trans h⟩
theorem vx_runSW {y : MethodName} {bytes cc : ByteArray} {maxL nL mc ms n index : Nat} {ret : Option FieldType} {hh : List (Nat × Nat × Nat × Nat)} {ws : List Cond} {rm : Room} {Pc : Array Value → State → Prop} {Qc : Array Value → State → Outcome → State → Prop} {free : Addr → Prop} {Ts : List Cond} {own : String} {As rest : List Value} {g : JFrame}
    (S : CallFix p m c cc nL s args Ts own) (hM : Met l y ws rm Pc Qc mc ms free) (cw : vx_CSW R s args own index y bytes maxL ret hh ws rm mc ms n) (hp : PreS s H Pc As)
    (hg : g.method = m) (hn : As.length = n) (hsize : g.locals.size = nL) (hstack : g.stack = As.reverse ++ rest) (hW : 2 * g.monitorRoom + (rest.map fun v => v.category).sum ≤ 8) (hdg : decode cc g.pc = .ok (.invokestatic index, 3)) (hf : cells + mc ≤ R.cells ∧ slots + ms ≤ R.slots) :
    va_Run p l e R s m args below meth c H locs cells slots mc ms g rest (Qc As.toArray) (free) := by
  obtain ⟨⟨hrc, hrs, hfr, hlo, hws, hcw⟩, hcode, hini, hy, hlen, hl, hstt⟩ := cw
  have hK : Back l R p e below s args y 3 8 (PreOf R mc ms Pc) (PostOf Qc mc ms free) := va_backW (hh := hh) (bytes := bytes) (maxL := maxL) (ret := ret) hM hp.1 hrc hrs hfr hlo hws hcw (fun a' U hW => word_at hW (Or.inl (by first | rfl | simp [Cond.onTables, Cond.keeps, Cond.steady])) hini)
  obtain ⟨hx, hb, hml, ho, -⟩ := S
  intro T hT X
  obtain ⟨v, vm₁, ⟨U', l2, c2, s2⟩, hW₁, X', ⟨g', mk, t, L, e1, e2, hq, h1, hL, h2, h3⟩, st⟩ := vx_callSW X hx (hh := hh) (bytes := bytes) (maxL := maxL) (ret := ret) ho hl hstt hini hcode hy hK hg (hsize.trans hml.symm) (argsL := As) (rest := rest) (fun sig h => hn.trans (hlen sig h)) hstack hW (by rw [hb]; exact hdg)
    (fun vm₁ hW₁ => ⟨hf.1, hf.2, hp.2 (T.setVm vm₁) hT hW₁⟩)
  dsimp only [Pt.U, Pt.locs, Pt.cells, Pt.slots] at X' e1 e2 h1 h2 h3 st
  subst h1; subst h2; subst h3
  exact ⟨v, (T.setVm vm₁).calling g' mk As.toArray, t, U', L, hT, X', hL, e1, e2, hq, st⟩
/-- not caught here, past rows that name other classes: it goes on to the caller -/
theorem vx_outP {p : Program} {l : Launch} {e : Env} {R : Room} {s : State} {m : MethodId} {args : Array Value} {below : List Frame} {meth : Method} {c : Code} {H : Heap} {locs : List Loc} {cells slots : Nat} {free : Addr → Prop} {ls : Array Slot} {rest : List Value} {Qc : Array Value → State → Outcome → State → Prop} {XC : String → State → State → Prop}
    {pc : Nat} {own E : String} {ce : Cell} {q : Addr} {mc ms : Nat} (hown : s.vm.findClass own = some m.cls) (hlocks : meth.locks = false)
    (hpass : ∀ z ∈ c.exceptionTable.toList, covers z pc = false ∨ (z.catchType ≠ 0 ∧ ∃ nm : String, (Cond.classLink own z.catchType nm).before args s = true ∧ va_Nc E nm s)) (hcell : H[q]? = some ce) (hv : ce.vm = .none) (hcl : s.vm.findClass E = some ce.cls)
    (hx : ∀ t : State, t.heap = H → s.vm.Alike t.vm → XC E s t) (hf : ∀ z ∈ locs, free z.base) (hc : cells ≤ mc) (hs : slots ≤ ms) :
    vx_W p l e R s m args below meth c H locs cells slots (vx_MQ below Qc XC args s mc ms free) (F0 m pc ls rest) q := by
  intro T hT X
  have hpl : e.platform.magicAccessors = ({} : Platform).magicAccessors := by rw [X.admits.platform]
  obtain ⟨vm', hW', X', st⟩ := X.outThrough hlocks q (g := F0 m pc ls rest) rfl rfl rfl (cell := ce) (by rw [hT]; exact hcell) (by rw [hv]; rfl)
    (by obtain ⟨k9, h9, -⟩ := Vm.findClass_spec hcl; exact ⟨k9, h9⟩) (fun z hz => by
      rcases hpass z hz with h | ⟨hz0, nm, hl1, hn1⟩
      · exact Or.inl h
      · obtain ⟨c6, hc6, hcl6⟩ := Cond.classLink_spec hown hl1 e.platform hpl
        obtain ⟨a8, b8, h1, h2, h3⟩ := hn1
        cases Option.some.inj (h1.symm.trans hcl)
        cases Option.some.inj (h2.symm.trans hc6)
        exact Or.inr ⟨hz0, _, hcl6, h3⟩)
  obtain ⟨g₀, hfr⟩ := X'.frames_eq
  have hcell9 : ((T.setVm vm').setFrames (.throwing q :: below)).heap[q]? = some ce := by
    show T.heap[q]? = some ce
    rw [hT]; exact hcell
  have hend : Ended ((T.setVm vm').setFrames (.throwing q :: below)) below (.threw q) := State.frames_setFrames _ (State.cur_lt_of_frames hfr)
  refine ⟨(T.setVm vm').setFrames (.throwing q :: below), ?_, .threw q, X'.here.running, hend, Or.inr ⟨q, rfl, E, ce, locs, hx _ hT (X'.ends _).1.alike, hcell9, hv, hcl, (X'.ends _).1, (X'.ends _).2.mono hc hs, hf⟩⟩
  rw [X.pushThrowing_eq]
  exact st
/-- a thing of a world lies in the heap -/
theorem vx_lt {D : va_G} {cl : List vw_C} {ws : va_W} {H1 : Heap} (h : va_P D cl ws H1) {k : Nat} {q : Nat × va_E} (hk : ws[k]? = some q) : q.1 < H1.size := (h k q hk).lt
end VXS
/-! ===== END ===== -/
/-! ===== BEGIN methods with a table of their own: called by a name, returning or throwing ===== -/
section VXH
/-! vx_backW, vx_callVX, vx_callSX, vx_callVW, vx_runVW, vx_runVX, vx_runSX, vx_ofWH follow the same proofs as their sisters above (Free/Laws.lean, Shelf42/LK1.lean); vx_outP calls Shelf42/NT130.lean (outThrough). -/
section
variable {l : Launch} {R : Room} {p : Program} {e : Env} {below : List Frame} {s : State} {sargs : Array Value} {y : MethodName} {len W9 : Nat}
theorem vx_backW {ws : List Cond} {rm : Room} {Pc : Array Value → State → Prop} {Qc : Array Value → State → Outcome → State → Prop} {XC : String → State → State → Prop} {mc ms : Nat} {free : Addr → Prop} {bytes : ByteArray} {maxL : Nat} {ret : Option FieldType} {hh : List (Nat × Nat × Nat × Nat)}
    (hM : vx_Met l y ws rm Pc Qc XC mc ms free) (hblind : FrameBlind Pc) (hrc : rm.cells = mc) (hrs : rm.slots = ms)
    (hframes : rm.frames + 1 ≤ R.frames) (hlocals : W9 + (maxL + 11) + rm.locals ≤ R.locals)
    (hws : ∀ w ∈ ws, ∀ a' U, s.WarmedH U.vm → w.before a' U = true) (hcode : Cond.codeWith y bytes maxL ret hh ∈ ws) (hinit : ∀ a' U, s.WarmedH U.vm → (Cond.initialized y.cls).before a' U = true) :
    vx_Back l R p e below s sargs y len W9 (PreOf R mc ms Pc) (PostOf Qc mc ms free) (vx_Post XC mc ms free) := by
  intro m meth c A g ig mk a X hg hsize hdg hW hn hp
  have h1 : (headSpec ws rm).pre.before a A.U = true := atoms_intro fun w hw => hws w hw _ _ X.warmed
  have h2 : (Cond.codeWith y bytes maxL ret hh).before a A.U = true := hws _ hcode _ _ X.warmed
  have h3 : (Cond.initialized y.cls).before a A.U = true := hinit _ _ X.warmed
  have h4 : A.cells + (headSpec ws rm).room.cells ≤ R.cells := by rw [show (headSpec ws rm).room.cells = mc from hrc]; exact hp.1
  have h5 : A.slots + (headSpec ws rm).room.slots ≤ R.slots := by rw [show (headSpec ws rm).room.slots = ms from hrs]; exact hp.2.1
  have hPc : Pc a (A.U.calling g mk a) := hblind _ _ _ _ hp.2.2
  obtain ⟨U, Ls, c0, s0⟩ := A
  dsimp only [Pt.U, Pt.locs, Pt.cells, Pt.slots] at h1 h2 h3 h4 h5 X hn hPc ⊢
  obtain ⟨m9, methY, cY, hn9, hmY, hcY, -, hlY, -⟩ := Cond.codeWith_spec h2
  cases Option.some.inj (hn9.symm.trans hn)
  obtain ⟨kY, hkY, -⟩ := className_of_methodNamed hn
  have hinitY : kY.init = .initialized := Cond.initialized_spec (findClass_of_methodNamed hn) hkY h3
  have h : At U g.method c below := by rw [hg]; exact X.here
  have hlocals9 : W9 + (maxL + 11) + (headSpec ws rm).room.locals ≤ R.locals := hlocals
  have happ : (headSpec ws rm).appliesLoose y e.platform (U.calling g mk a) = true :=
    Spec.appliesLoose_calling (g := g) h hdg hn hkY hinitY
      (X.room_calling (g := g) (R' := (headSpec ws rm).room) hsize hmY hcY hframes (by rw [hlY]; omega) h4 h5) h1
  obtain ⟨mid, hmid⟩ := h.above
  have hfr : (U.setTop g).frames = (.java g :: mid) ++ below := by rw [State.frames_setTop' g h.top, hmid]; rfl
  obtain ⟨o, s₂, hsteps, -, hend, hq⟩ := Steps.callFree hM p X.admits X.cas X.clock (acts := []) hfr happ hPc trivial
  have hq' : vx_Q Qc XC mc ms free a (U.calling g mk a) o s₂ := hq
  rw [State.frames_setTop' g h.top] at hend
  obtain ⟨g₀, hg0⟩ := Option.isSome_iff_exists.mp h.top
  obtain ⟨r, hr⟩ := State.topJava?_eq_some.mp hg0
  have hr' : (({ U with heap := s₂.heap, slotsUsed := s₂.slotsUsed } : State).setVm s₂.vm).frames = .java g₀ :: r := hr
  rcases hq' with ⟨hqc, L, hfe, hL⟩ | ⟨q, rfl, E, ce, L, hx, hce, hcv, hcl, hW₂, hsm, hL⟩
  · obtain ⟨⟨v, rfl⟩, hW₂, e2, q2, q3, q4, q5, q6⟩ := id hfe
    have e3 : s₂ = ({ (U.calling g mk a).setFrames s₂.frames with heap := s₂.heap, slotsUsed := s₂.slotsUsed } : State).setVm s₂.vm := by
      have : s₂ = ({ s₂ with vm := (U.calling g mk a).vm } : State).setVm s₂.vm := rfl
      rw [e2] at this
      exact this
    obtain ⟨c₂, i₂, len₂, hc₂, hd₂, hf₂⟩ := hend
    have hW' : U.WarmedH s₂.vm := hW₂
    have hcc : c₂ = c := by
      have h1 : s₂.code? g.method = U.code? g.method := by
        rw [State.code?_eq, State.code?_eq, hW'.alike.method?]
      exact Option.some.inj (hc₂.symm.trans (h1.trans h.code))
    subst hcc
    have hlen : len₂ = len := by rw [hdg] at hd₂; cases hd₂; rfl
    subst hlen
    have hs₂ : s₂ = (({ U with heap := s₂.heap, slotsUsed := s₂.slotsUsed } : State).setVm s₂.vm).setTop { g with pc := g.pc + len₂, stack := v.toList ++ g.stack } := by
      refine e3.trans ?_
      rw [hf₂, State.calling_eq h.top, State.setFrames_setFrames, State.setTop_of_frames _ hr', hr]
      rfl
    have hsame : U.sameButNew ({ U with heap := s₂.heap, slotsUsed := s₂.slotsUsed } : State) L mc ms := by
      refine ⟨?_, q2, q3, q4, q5, q6⟩
      obtain ⟨t, ht, -⟩ := State.frames_cons hr
      show ({ U with heap := s₂.heap, slotsUsed := s₂.slotsUsed } : State) = { U.setFrames U.frames with heap := s₂.heap, slotsUsed := s₂.slotsUsed }
      rw [State.setFrames_self ht]
    subst hg
    refine Or.inl ⟨v, ⟨(({ U with heap := s₂.heap, slotsUsed := s₂.slotsUsed } : State).setVm s₂.vm), Ls ++ L, c0 + mc, s0 + ms⟩,
      ⟨X.admits, X.cas, X.clock, X.frames, X.room, X.hears, X.method, X.code, (X.here.setHeapUsed s₂.heap s₂.slotsUsed).setVm hW'.alike, X.tail, State.WarmedH.trans X.warmed hW', X.limits, X.bytes, X.same.trans (hsame.setVm s.vm)⟩,
      ⟨g, mk, s₂, L, rfl, rfl, hqc, rfl, hL, rfl, rfl⟩, ?_⟩
    show Steps p.tables e below _ ((({ U with heap := s₂.heap, slotsUsed := s₂.slotsUsed } : State).setVm s₂.vm).setTop { g with pc := g.pc + len₂, stack := v.toList ++ g.stack })
    rw [← hs₂]
    exact hsteps
  · obtain ⟨e2, q2, q3, q4, q5, q6⟩ := id hsm
    have e3 : s₂ = ({ (U.calling g mk a).setFrames s₂.frames with heap := s₂.heap, slotsUsed := s₂.slotsUsed } : State).setVm s₂.vm := by
      have : s₂ = ({ s₂ with vm := (U.calling g mk a).vm } : State).setVm s₂.vm := rfl
      rw [e2] at this
      exact this
    have hf₂ : s₂.frames = .throwing q :: .java g :: U.frames.tail := hend
    have hW' : U.WarmedH s₂.vm := hW₂
    have hs₂ : s₂ = ((({ U with heap := s₂.heap, slotsUsed := s₂.slotsUsed } : State).setVm s₂.vm).setTop g).pushFrame (.throwing q) := by
      refine e3.trans ?_
      rw [hf₂, State.calling_eq h.top, State.setFrames_setFrames, State.pushFrame, State.frames_setTop _ hr', State.setTop_of_frames _ hr', State.setFrames_setFrames, hr]
      rfl
    have hsame : U.sameButNew ({ U with heap := s₂.heap, slotsUsed := s₂.slotsUsed } : State) L mc ms := by
      refine ⟨?_, q2, q3, q4, q5, q6⟩
      obtain ⟨t, ht, -⟩ := State.frames_cons hr
      show ({ U with heap := s₂.heap, slotsUsed := s₂.slotsUsed } : State) = { U.setFrames U.frames with heap := s₂.heap, slotsUsed := s₂.slotsUsed }
      rw [State.setFrames_self ht]
    subst hg
    refine Or.inr ⟨q, ⟨(({ U with heap := s₂.heap, slotsUsed := s₂.slotsUsed } : State).setVm s₂.vm), Ls ++ L, c0 + mc, s0 + ms⟩,
      ⟨X.admits, X.cas, X.clock, X.frames, X.room, X.hears, X.method, X.code, (X.here.setHeapUsed s₂.heap s₂.slotsUsed).setVm hW'.alike, X.tail, State.WarmedH.trans X.warmed hW', X.limits, X.bytes, X.same.trans (hsame.setVm s.vm)⟩,
      ⟨g, mk, s₂, L, E, ce, rfl, rfl, hx, hce, hcv, hcl, rfl, hL, rfl, rfl⟩, ?_⟩
    show Steps p.tables e below _ (((({ U with heap := s₂.heap, slotsUsed := s₂.slotsUsed } : State).setVm s₂.vm).setTop g).pushFrame (.throwing q))
    rw [← hs₂]
    exact hsteps
end
variable {p : Program} {l : Launch} {e : Env} {R : Room} {s : State} {m : MethodId} {args : Array Value} {below : List Frame} {meth : Method} {c : Code} {T : State} {H : Heap} {locs : List Loc} {cells slots : Nat}
theorem vx_callVX (X : Stand p l e R s m args below meth c T locs cells slots) (hexec : p.tables.exec = Jvm.exec) {own C : String} {index : Nat} {y : MethodName} {bytes : ByteArray} {maxL : Nat} {ret : Option FieldType} {hh : List (Nat × Nat × Nat × Nat)}
    (hown : s.vm.findClass own = some m.cls) (hlink : (Cond.methodLink own index y).before args s = true) (hinst : (Cond.instanceMethod y).before args s = true) (hsel : (Cond.selects C y y).before args s = true)
    (hcode : (Cond.codeWith y bytes maxL ret hh).before args s = true) (hy : y.cls ≠ "java/lang/invoke/MethodHandle" ∧ y.cls ≠ "java/lang/invoke/VarHandle")
    {W9 : Nat} {Pre : Pt → Array Value → Prop} {Post : Pt → Array Value → Option Value → Pt → Prop} {PostX : Pt → Array Value → Addr → Pt → Prop} (hK : vx_Back l R p e below s args y 3 W9 Pre Post PostX)
    {b : Addr} {cellB : Cell} (hcell : T.heap[b]? = some cellB) (hobj : cellB.vm.isStatics = false) (hcls : s.vm.findClass C = some cellB.cls)
    {g : JFrame} (hg : g.method = m) (hsize : g.locals.size = c.maxLocals) {argsL rest : List Value} (hlen : ∀ sig, parseMethodDescriptor y.desc = some sig → argsL.length = sig.parameters.length)
    (hstack : g.stack = argsL.reverse ++ .ref b :: rest) (hW : 2 * g.monitorRoom + (rest.map fun v => v.category).sum ≤ W9) (hdg : decode c.code g.pc = .ok (.invokevirtual index, 3))
    (hpre : ∀ vm₁, s.WarmedH vm₁ → Pre ⟨T.setVm vm₁, locs, cells, slots⟩ (Value.ref b :: argsL).toArray) :
    (∃ (v : Option Value) (vm₁ : Vm) (B : Pt), s.WarmedH vm₁ ∧ Stand p l e R s m args below meth c B.U B.locs B.cells B.slots ∧ Post ⟨T.setVm vm₁, locs, cells, slots⟩ (Value.ref b :: argsL).toArray v B ∧
      ∀ target, Steps p.tables e below (B.U.setTop { g with pc := g.pc + 3, stack := v.toList ++ rest }) target → Steps p.tables e below (T.setTop g) target) ∨
    (∃ (q : Addr) (vm₁ : Vm) (B : Pt), s.WarmedH vm₁ ∧ Stand p l e R s m args below meth c B.U B.locs B.cells B.slots ∧ PostX ⟨T.setVm vm₁, locs, cells, slots⟩ (Value.ref b :: argsL).toArray q B ∧
      Steps p.tables e below (T.setTop g) ((B.U.setTop { g with stack := rest }).pushFrame (.throwing q))) := by
  obtain ⟨mk, methM, hnamed, hmethM, hstM, habM⟩ := Cond.instanceMethod_spec hinst
  obtain ⟨m8, methM', cM, hn8, hmethM', -, -, -, -, -, -, hsigM⟩ := Cond.codeWith_spec hcode
  cases Option.some.inj (hn8.symm.trans hnamed)
  cases hmethM.symm.trans hmethM'
  obtain ⟨c2, r2, m2, q1, q2, q3, q4, kP, hkP, hkPi⟩ := Cond.selects_spec hsel
  cases hcls.symm.trans q1
  cases (State.methodFound?_of_named hnamed hy).symm.trans q2
  cases hnamed.symm.trans q3
  have hselP : selectMethod e.platform s.vm cellB.cls mk = .method mk := by rw [Launch.admits_selectMethod X.admits]; exact q4
  obtain ⟨vm₁, X₁, hstep₁⟩ := X.invokevirtual hexec hown hlink hnamed hmethM hstM hkP hkPi hy (a := b) (cell := cellB) hcell
    (fun z h => by rw [h] at hobj; cases hobj) hselP hmethM habM hkP hkPi (g := g) hg (argsL := argsL) (rest := rest) (hlen _ hsigM) hstack hdg
  rcases hK m meth c ⟨T.setVm vm₁, locs, cells, slots⟩ { g with stack := rest } (.invokevirtual index) mk (Value.ref b :: argsL).toArray X₁ hg hsize hdg hW (X₁.named hnamed) (hpre vm₁ X₁.warmed) with ⟨v, B, X', hpost, hsteps⟩ | ⟨q, B, X', hpost, hsteps⟩
  · exact Or.inl ⟨v, vm₁, B, X₁.warmed, X', hpost, fun target h => hstep₁ _ fun acts => by rw [doInvoke_state]; exact hsteps.trans h⟩
  · exact Or.inr ⟨q, vm₁, B, X₁.warmed, X', hpost, hstep₁ _ fun acts => by rw [doInvoke_state]; exact hsteps⟩
theorem vx_callSX (X : Stand p l e R s m args below meth c T locs cells slots) (hexec : p.tables.exec = Jvm.exec) {own : String} {index : Nat} {y : MethodName} {bytes : ByteArray} {maxL : Nat} {ret : Option FieldType} {hh : List (Nat × Nat × Nat × Nat)}
    (hown : s.vm.findClass own = some m.cls) (hlink : (Cond.methodLink own index y).before args s = true) (hstat : (Cond.static y).before args s = true) (hinit : (Cond.initialized y.cls).before args s = true)
    (hcode : (Cond.codeWith y bytes maxL ret hh).before args s = true) (hy : y.cls ≠ "java/lang/invoke/MethodHandle" ∧ y.cls ≠ "java/lang/invoke/VarHandle")
    {W9 : Nat} {Pre : Pt → Array Value → Prop} {Post : Pt → Array Value → Option Value → Pt → Prop} {PostX : Pt → Array Value → Addr → Pt → Prop} (hK : vx_Back l R p e below s args y 3 W9 Pre Post PostX)
    {g : JFrame} (hg : g.method = m) (hsize : g.locals.size = c.maxLocals) {argsL rest : List Value} (hlen : ∀ sig, parseMethodDescriptor y.desc = some sig → argsL.length = sig.parameters.length)
    (hstack : g.stack = argsL.reverse ++ rest) (hW : 2 * g.monitorRoom + (rest.map fun v => v.category).sum ≤ W9) (hdg : decode c.code g.pc = .ok (.invokestatic index, 3))
    (hpre : ∀ vm₁, s.WarmedH vm₁ → Pre ⟨T.setVm vm₁, locs, cells, slots⟩ argsL.toArray) :
    (∃ (v : Option Value) (vm₁ : Vm) (B : Pt), s.WarmedH vm₁ ∧ Stand p l e R s m args below meth c B.U B.locs B.cells B.slots ∧ Post ⟨T.setVm vm₁, locs, cells, slots⟩ argsL.toArray v B ∧
      ∀ target, Steps p.tables e below (B.U.setTop { g with pc := g.pc + 3, stack := v.toList ++ rest }) target → Steps p.tables e below (T.setTop g) target) ∨
    (∃ (q : Addr) (vm₁ : Vm) (B : Pt), s.WarmedH vm₁ ∧ Stand p l e R s m args below meth c B.U B.locs B.cells B.slots ∧ PostX ⟨T.setVm vm₁, locs, cells, slots⟩ argsL.toArray q B ∧
      Steps p.tables e below (T.setTop g) ((B.U.setTop { g with stack := rest }).pushFrame (.throwing q))) := by
  obtain ⟨mk, methM, cM, hnamed, hmethM, -, -, -, -, -, -, hsigM⟩ := Cond.codeWith_spec hcode
  have hstatic : methM.isStatic = true := Cond.static_spec hnamed hmethM hstat
  obtain ⟨kP, hkP, -⟩ := className_of_methodNamed hnamed
  have hinitP : kP.init = .initialized := Cond.initialized_spec (findClass_of_methodNamed hnamed) hkP hinit
  obtain ⟨vm₁, X₁, hstep₁⟩ := X.invokestatic hexec hown hlink hnamed hmethM hstatic hkP hinitP hy (g := g) hg (argsL := argsL) (rest := rest) (hlen _ hsigM) hstack hdg
  rcases hK m meth c ⟨T.setVm vm₁, locs, cells, slots⟩ { g with stack := rest } (.invokestatic index) mk argsL.toArray X₁ hg hsize hdg hW (X₁.named hnamed) (hpre vm₁ X₁.warmed) with ⟨v, B, X', hpost, hsteps⟩ | ⟨q, B, X', hpost, hsteps⟩
  · exact Or.inl ⟨v, vm₁, B, X₁.warmed, X', hpost, fun target h => hstep₁ _ fun acts => by rw [doInvoke_state]; exact hsteps.trans h⟩
  · exact Or.inr ⟨q, vm₁, B, X₁.warmed, X', hpost, hstep₁ _ fun acts => by rw [doInvoke_state]; exact hsteps⟩
theorem vx_callVW (X : Stand p l e R s m args below meth c T locs cells slots) (hexec : p.tables.exec = Jvm.exec) {own C : String} {index : Nat} {y : MethodName} {bytes : ByteArray} {maxL : Nat} {ret : Option FieldType} {hh : List (Nat × Nat × Nat × Nat)}
    (hown : s.vm.findClass own = some m.cls) (hlink : (Cond.methodLink own index y).before args s = true) (hinst : (Cond.instanceMethod y).before args s = true) (hsel : (Cond.selects C y y).before args s = true)
    (hcode : (Cond.codeWith y bytes maxL ret hh).before args s = true) (hy : y.cls ≠ "java/lang/invoke/MethodHandle" ∧ y.cls ≠ "java/lang/invoke/VarHandle")
    {W9 : Nat} {Pre : Pt → Array Value → Prop} {Post : Pt → Array Value → Option Value → Pt → Prop} (hK : Back l R p e below s args y 3 W9 Pre Post)
    {b : Addr} {cellB : Cell} (hcell : T.heap[b]? = some cellB) (hobj : cellB.vm.isStatics = false) (hcls : s.vm.findClass C = some cellB.cls)
    {g : JFrame} (hg : g.method = m) (hsize : g.locals.size = c.maxLocals) {argsL rest : List Value} (hlen : ∀ sig, parseMethodDescriptor y.desc = some sig → argsL.length = sig.parameters.length)
    (hstack : g.stack = argsL.reverse ++ .ref b :: rest) (hW : 2 * g.monitorRoom + (rest.map fun v => v.category).sum ≤ W9) (hdg : decode c.code g.pc = .ok (.invokevirtual index, 3))
    (hpre : ∀ vm₁, s.WarmedH vm₁ → Pre ⟨T.setVm vm₁, locs, cells, slots⟩ (Value.ref b :: argsL).toArray) :
    ∃ (v : Option Value) (vm₁ : Vm) (B : Pt), s.WarmedH vm₁ ∧ Stand p l e R s m args below meth c B.U B.locs B.cells B.slots ∧ Post ⟨T.setVm vm₁, locs, cells, slots⟩ (Value.ref b :: argsL).toArray v B ∧
      ∀ target, Steps p.tables e below (B.U.setTop { g with pc := g.pc + 3, stack := v.toList ++ rest }) target → Steps p.tables e below (T.setTop g) target := by
  obtain ⟨mk, methM, hnamed, hmethM, hstM, habM⟩ := Cond.instanceMethod_spec hinst
  obtain ⟨m8, methM', cM, hn8, hmethM', -, -, -, -, -, -, hsigM⟩ := Cond.codeWith_spec hcode
  cases Option.some.inj (hn8.symm.trans hnamed)
  cases hmethM.symm.trans hmethM'
  obtain ⟨c2, r2, m2, q1, q2, q3, q4, kP, hkP, hkPi⟩ := Cond.selects_spec hsel
  cases hcls.symm.trans q1
  cases (State.methodFound?_of_named hnamed hy).symm.trans q2
  cases hnamed.symm.trans q3
  have hselP : selectMethod e.platform s.vm cellB.cls mk = .method mk := by rw [Launch.admits_selectMethod X.admits]; exact q4
  obtain ⟨vm₁, X₁, hstep₁⟩ := X.invokevirtual hexec hown hlink hnamed hmethM hstM hkP hkPi hy (a := b) (cell := cellB) hcell
    (fun z h => by rw [h] at hobj; cases hobj) hselP hmethM habM hkP hkPi (g := g) hg (argsL := argsL) (rest := rest) (hlen _ hsigM) hstack hdg
  obtain ⟨v, B, X', hpost, hsteps⟩ := hK m meth c ⟨T.setVm vm₁, locs, cells, slots⟩ { g with stack := rest } (.invokevirtual index) mk (Value.ref b :: argsL).toArray X₁ hg hsize hdg hW (X₁.named hnamed) (hpre vm₁ X₁.warmed)
  exact ⟨v, vm₁, B, X₁.warmed, X', hpost, fun target h => hstep₁ _ fun acts => by rw [doInvoke_state]; exact hsteps.trans h⟩
abbrev vx_CVW (R : Room) (s : State) (args : Array Value) (own C : String) (index : Nat) (y : MethodName) (bytes : ByteArray) (maxL : Nat) (ret : Option FieldType) (hh : List (Nat × Nat × Nat × Nat)) (ws : List Cond) (rm : Room) (mc ms n : Nat) : Prop :=
  (rm.cells = mc ∧ rm.slots = ms ∧ rm.frames + 1 ≤ R.frames ∧ 8 + (maxL + 11) + rm.locals ≤ R.locals ∧ (∀ w ∈ ws, ∀ (a' : Array Value) (U : State), s.WarmedH U.vm → w.before a' U = true) ∧ Cond.codeWith y bytes maxL ret hh ∈ ws) ∧
  (Cond.codeWith y bytes maxL ret hh).before args s = true ∧ (Cond.initialized y.cls).before args s = true ∧ (y.cls ≠ "java/lang/invoke/MethodHandle" ∧ y.cls ≠ "java/lang/invoke/VarHandle") ∧
  (∀ sig, parseMethodDescriptor y.desc = some sig → n = sig.parameters.length) ∧ (Cond.methodLink own index y).before args s = true ∧ (Cond.instanceMethod y).before args s = true ∧ (Cond.selects C y y).before args s = true
theorem vx_cwVW {own C : String} {index maxL mc ms : Nat} {y : MethodName} {bytes : ByteArray} {ret : Option FieldType} {hh : List (Nat × Nat × Nat × Nat)} {Ts ws ws' : List Cond} {rm : Room} (n : Nat) (ht : ∀ w ∈ Ts, w.before args s = true) (hT : GoodIn Ts (wsV own index C y ws)) (hw : ws = Cond.codeWith y bytes maxL ret hh :: ws') (hrc : rm.cells = mc) (hrs : rm.slots = ms)
    (hd : y.cls = C ∧ y.cls ≠ "java/lang/invoke/MethodHandle" ∧ y.cls ≠ "java/lang/invoke/VarHandle" ∧ (parseMethodDescriptor y.desc).map (fun d => d.parameters.length) = some n) (hR : rm.frames + 1 ≤ R.frames ∧ 8 + (maxL + 11) + rm.locals ≤ R.locals) :
    vx_CVW R s args own C index y bytes maxL ret hh ws rm mc ms n := by
  obtain ⟨hC, hd⟩ := hd
  subst hC
  have ok : ∀ w ∈ wsV own index y.cls y ws, w.before args s = true := fun w h => ht w (hT w h).1
  have hG : GoodIn Ts ws := fun w h => hT w (by unfold wsV; exact List.mem_append_right _ h)
  have hc : Cond.codeWith y bytes maxL ret hh ∈ ws := by rw [hw]; exact List.mem_cons_self
  refine ⟨⟨hrc, hrs, hR.1, hR.2, pay_in ht hG, hc⟩, ht _ (hG _ hc).1, ok _ (by simp [wsV]), ⟨hd.1, hd.2.1⟩, fun sig h => ?_, ok _ (by simp [wsV]), ok _ (by simp [wsV]), ok _ (by simp [wsV])⟩
  have h2 := hd.2.2
  rw [h] at h2
  exact (Option.some.inj h2).symm
theorem vx_runVW {y : MethodName} {bytes cc : ByteArray} {maxL nL mc ms n index : Nat} {ret : Option FieldType} {hh : List (Nat × Nat × Nat × Nat)} {ws : List Cond} {rm : Room} {Pc : Array Value → State → Prop} {Qc : Array Value → State → Outcome → State → Prop} {free : Addr → Prop} {Ts : List Cond} {own C : String} {b : Addr} {As rest : List Value} {g : JFrame}
    (S : CallFix p m c cc nL s args Ts own) (hM : Met l y ws rm Pc Qc mc ms free) (cw : vx_CVW R s args own C index y bytes maxL ret hh ws rm mc ms n) (hp : PreV s H C b Pc As)
    (hg : g.method = m) (hn : As.length = n) (hsize : g.locals.size = nL) (hstack : g.stack = As.reverse ++ .ref b :: rest) (hW : 2 * g.monitorRoom + (rest.map fun v => v.category).sum ≤ 8) (hdg : decode cc g.pc = .ok (.invokevirtual index, 3)) (hf : cells + mc ≤ R.cells ∧ slots + ms ≤ R.slots) :
    va_Run p l e R s m args below meth c H locs cells slots mc ms g rest (Qc (Value.ref b :: As).toArray) free := by
  obtain ⟨⟨hrc, hrs, hfr, hlo, hws, hcw⟩, hcode, hini, hy, hlen, hl, hin, hse⟩ := cw
  have hK : Back l R p e below s args y 3 8 (PreOf R mc ms Pc) (PostOf Qc mc ms free) := va_backW (hh := hh) (bytes := bytes) (maxL := maxL) (ret := ret) hM hp.1 hrc hrs hfr hlo hws hcw (fun a' U hW => word_at hW (Or.inl (by first | rfl | simp [Cond.onTables, Cond.keeps, Cond.steady])) hini)
  obtain ⟨hx, hb, hml, ho, -⟩ := S
  obtain ⟨-, ⟨cellB, hcB, hoB, hclB⟩, hPc⟩ := hp
  intro T hT X
  obtain ⟨v, vm₁, ⟨U', l2, c2, s2⟩, hW₁, X', ⟨g', mk, t, L, e1, e2, hq, h1, hL, h2, h3⟩, st⟩ := vx_callVW X hx (C := C) (hh := hh) (bytes := bytes) (maxL := maxL) (ret := ret) ho hl hin hse hcode hy hK (by rw [hT]; exact hcB) hoB hclB hg (hsize.trans hml.symm) (argsL := As) (rest := rest) (fun sig h => hn.trans (hlen sig h)) hstack hW (by rw [hb]; exact hdg)
    (fun vm₁ hW₁ => ⟨hf.1, hf.2, hPc (T.setVm vm₁) hT hW₁⟩)
  dsimp only [Pt.U, Pt.locs, Pt.cells, Pt.slots] at X' e1 e2 h1 h2 h3 st
  subst h1; subst h2; subst h3
  exact ⟨v, (T.setVm vm₁).calling g' mk (Value.ref b :: As).toArray, t, U', L, hT, X', hL, e1, e2, hq, st⟩
section
variable {y : MethodName} {bytes cc : ByteArray} {maxL nL mc ms n index : Nat} {ret : Option FieldType} {ws : List Cond} {rm : Room} {Pc : Array Value → State → Prop} {Qc : Array Value → State → Outcome → State → Prop} {XC : String → State → State → Prop} {free : Addr → Prop} {Ts : List Cond} {own C : String} {b : Addr} {As rest : List Value} {g : JFrame}
theorem vx_runVX {hh : List (Nat × Nat × Nat × Nat)} (S : CallFix p m c cc nL s args Ts own) (hM : vx_Met l y ws rm Pc Qc XC mc ms free) (cw : vx_CVW R s args own C index y bytes maxL ret hh ws rm mc ms n) (hp : PreV s H C b Pc As)
    (hg : g.method = m) (hn : As.length = n) (hsize : g.locals.size = nL) (hstack : g.stack = As.reverse ++ .ref b :: rest) (hW : 2 * g.monitorRoom + (rest.map fun v => v.category).sum ≤ 8) (hdg : decode cc g.pc = .ok (.invokevirtual index, 3)) (hf : cells + mc ≤ R.cells ∧ slots + ms ≤ R.slots) :
    vx_Run p l e R s m args below meth c H locs cells slots mc ms g rest (Qc (Value.ref b :: As).toArray) XC free := by
  obtain ⟨⟨hrc, hrs, hfr, hlo, hws, hcw⟩, hcode, hini, hy, hlen, hl, hin, hse⟩ := cw
  have hK : vx_Back l R p e below s args y 3 8 (PreOf R mc ms Pc) (PostOf Qc mc ms free) (vx_Post XC mc ms free) := vx_backW (hh := hh) (bytes := bytes) (maxL := maxL) (ret := ret) hM hp.1 hrc hrs hfr hlo hws hcw (fun a' U hW => word_at hW (Or.inl (by first | rfl | simp [Cond.onTables, Cond.keeps, Cond.steady])) hini)
  obtain ⟨hx, hb, hml, ho, -⟩ := S
  obtain ⟨-, ⟨cellB, hcB, hoB, hclB⟩, hPc⟩ := hp
  intro T hT X
  rcases vx_callVX X hx (C := C) (hh := hh) (bytes := bytes) (maxL := maxL) (ret := ret) ho hl hin hse hcode hy hK (by rw [hT]; exact hcB) hoB hclB hg (hsize.trans hml.symm) (argsL := As) (rest := rest) (fun sig h => hn.trans (hlen sig h)) hstack hW (by rw [hb]; exact hdg)
    (fun vm₁ hW₁ => ⟨hf.1, hf.2, hPc (T.setVm vm₁) hT hW₁⟩) with ⟨v, vm₁, ⟨U', l2, c2, s2⟩, hW₁, X', ⟨g', mk, t, L, e1, e2, hq, h1, hL, h2, h3⟩, st⟩ | ⟨q, vm₁, ⟨U', l2, c2, s2⟩, hW₁, X', ⟨g', mk, t, L, E, ce, e1, e2, hq, hce, hcv, hcl, h1, hL, h2, h3⟩, st⟩
  · dsimp only [Pt.U, Pt.locs, Pt.cells, Pt.slots] at X' e1 e2 h1 h2 h3 st
    subst h1; subst h2; subst h3
    exact Or.inl ⟨v, (T.setVm vm₁).calling g' mk (Value.ref b :: As).toArray, t, U', L, hT, X', hL, e1, e2, hq, st⟩
  · dsimp only [Pt.U, Pt.locs, Pt.cells, Pt.slots] at X' e1 e2 h1 h2 h3 st hcl
    subst h1; subst h2; subst h3
    exact Or.inr ⟨q, (T.setVm vm₁).calling g' mk (Value.ref b :: As).toArray, t, U', L, E, ce, hT, X', hL, e1, e2, hq, hce, hcv, vx_cls hW₁ hcl, st⟩
theorem vx_runSX {hh : List (Nat × Nat × Nat × Nat)} (S : CallFix p m c cc nL s args Ts own) (hM : vx_Met l y ws rm Pc Qc XC mc ms free) (cw : vx_CSW R s args own index y bytes maxL ret hh ws rm mc ms n) (hp : PreS s H Pc As)
    (hg : g.method = m) (hn : As.length = n) (hsize : g.locals.size = nL) (hstack : g.stack = As.reverse ++ rest) (hW : 2 * g.monitorRoom + (rest.map fun v => v.category).sum ≤ 8) (hdg : decode cc g.pc = .ok (.invokestatic index, 3)) (hf : cells + mc ≤ R.cells ∧ slots + ms ≤ R.slots) :
    vx_Run p l e R s m args below meth c H locs cells slots mc ms g rest (Qc As.toArray) XC free := by
  obtain ⟨⟨hrc, hrs, hfr, hlo, hws, hcw⟩, hcode, hini, hy, hlen, hl, hstt⟩ := cw
  have hK : vx_Back l R p e below s args y 3 8 (PreOf R mc ms Pc) (PostOf Qc mc ms free) (vx_Post XC mc ms free) := vx_backW (hh := hh) (bytes := bytes) (maxL := maxL) (ret := ret) hM hp.1 hrc hrs hfr hlo hws hcw (fun a' U hW => word_at hW (Or.inl (by first | rfl | simp [Cond.onTables, Cond.keeps, Cond.steady])) hini)
  obtain ⟨hx, hb, hml, ho, -⟩ := S
  intro T hT X
  rcases vx_callSX X hx (hh := hh) (bytes := bytes) (maxL := maxL) (ret := ret) ho hl hstt hini hcode hy hK hg (hsize.trans hml.symm) (argsL := As) (rest := rest) (fun sig h => hn.trans (hlen sig h)) hstack hW (by rw [hb]; exact hdg)
    (fun vm₁ hW₁ => ⟨hf.1, hf.2, hp.2 (T.setVm vm₁) hT hW₁⟩) with ⟨v, vm₁, ⟨U', l2, c2, s2⟩, hW₁, X', ⟨g', mk, t, L, e1, e2, hq, h1, hL, h2, h3⟩, st⟩ | ⟨q, vm₁, ⟨U', l2, c2, s2⟩, hW₁, X', ⟨g', mk, t, L, E, ce, e1, e2, hq, hce, hcv, hcl, h1, hL, h2, h3⟩, st⟩
  · dsimp only [Pt.U, Pt.locs, Pt.cells, Pt.slots] at X' e1 e2 h1 h2 h3 st
    subst h1; subst h2; subst h3
    exact Or.inl ⟨v, (T.setVm vm₁).calling g' mk As.toArray, t, U', L, hT, X', hL, e1, e2, hq, st⟩
  · dsimp only [Pt.U, Pt.locs, Pt.cells, Pt.slots] at X' e1 e2 h1 h2 h3 st hcl
    subst h1; subst h2; subst h3
    exact Or.inr ⟨q, (T.setVm vm₁).calling g' mk As.toArray, t, U', L, E, ce, hT, X', hL, e1, e2, hq, hce, hcv, vx_cls hW₁ hcl, st⟩
end
end VXH
theorem vx_ofWH {l : Launch} {y : MethodName} {ws ws' : List Cond} {rm : Room} {Pc : Array Value → State → Prop} {Qc : Array Value → State → Outcome → State → Prop} {XC : String → State → State → Prop} {mc ms : Nat} {free : Addr → Prop} {cc : ByteArray} {maxL : Nat} {ret : Option FieldType} {hh : List (Nat × Nat × Nat × Nat)}
    (hy : plainName y.cls = true) (hw : ws = Cond.codeWith y cc maxL ret hh :: ws')
    (body : ∀ p e s m args below meth c s₁, BodyLoose p l y (headSpec ws rm) cc maxL ret e s m args below meth c s₁ → c.maxLocals = maxL → Pc args s →
      W p l e (headSpec ws rm).room s m args below meth c s.heap [] 0 0 (vx_MQ below Qc XC args s mc ms free) (entryFrame m args maxL)) : vx_Met l y ws rm Pc Qc XC mc ms free := by
  refine MetFree.of_bodyS (code := cc) (maxLocals := maxL) (ret := ret) hy ?_ ?_
  · intro args s m h hn
    obtain ⟨m9, meth, c, hn9, h1, h2, h3, h4, -, h5, h6, -⟩ := Cond.codeWith_spec (atoms_spec (ws := ws) h _ (by rw [hw]; exact List.mem_cons_self))
    cases hn.symm.trans hn9
    exact ⟨meth, c, h1, h2, h3, h4, h5, h6⟩
  · intro p e s m args below meth c s₁ B hml hP _
    have hh0 : s₁.heap = s.heap := by rw [B.state]; rfl
    obtain ⟨t, a1, o, b1, b2, b3⟩ := body p e s m args below meth c s₁ B hml hP s₁ hh0 (Stand.of_body B)
    exact ⟨t, o, a1, b1, b2, b3⟩
/-! ===== END ===== -/
end
section
def RX0 : String := "TeapotChoir$Choir"
def TX0 : u_T := fun k => match k with
  | 0 => ("TeapotChoir$Choir", "part", "[I", true)
  | 1 => ("TeapotChoir$Choir", "pitch", "[I", true)
  | 2 => ("TeapotChoir$Choir", "tea", "[I", true)
  | 3 => ("TeapotChoir$Choir", "crack", "[I", true)
  | 4 => ("TeapotChoir$Choir", "cosy", "[Z", true)
  | 5 => ("TeapotChoir$Choir", "barred", "[I", true)
  | 6 => ("TeapotChoir$Choir", "count", "I", false)
  | 7 => ("TeapotChoir$Choir", "beat", "I", false)
  | 8 => ("TeapotChoir$Choir", "cadenceCount", "I", false)
  | _ => ("TeapotChoir$Choir", "clashAhead", "Z", false)
def tyX0 : Nat → FieldType := fun k => match k with
  | 0 => .array .int
  | 1 => .array .int
  | 2 => .array .int
  | 3 => .array .int
  | 4 => .array .boolean
  | 5 => .array .int
  | 6 => .int
  | 7 => .int
  | 8 => .int
  | _ => .boolean
abbrev wsX00 : List Cond := u_ws RX0 TX0 10
theorem nmX0 : ∀ a, a < 10 → ∀ b, b < 10 → a ≠ b → (TX0 a).2.1 ≠ (TX0 b).2.1 := by decide +kernel
theorem tyX0_ok : ∀ k, k < 10 → parseFieldDescriptor (TX0 k).2.2.1 = some (tyX0 k) := by decide +kernel
abbrev cX0_init : ByteArray := prog_2_method_1_code
def yX0_init : MethodName := ⟨RX0, "<init>", "()V"⟩
abbrev cX0_admit : ByteArray := prog_2_method_2_code
def yX0_admit : MethodName := ⟨RX0, "admit", "(III)I"⟩
abbrev cX0_becomeLike : ByteArray := prog_2_method_3_code
def yX0_becomeLike : MethodName := ⟨RX0, "becomeLike", "(LTeapotChoir$Choir;)V"⟩
abbrev cX0_passBeats : ByteArray := prog_2_method_4_code
def yX0_passBeats : MethodName := ⟨RX0, "passBeats", "(I)V"⟩
abbrev cX0_passBeat : ByteArray := prog_2_method_5_code
def yX0_passBeat : MethodName := ⟨RX0, "passBeat", "()V"⟩
abbrev cX0_wear : ByteArray := prog_2_method_6_code
def yX0_wear : MethodName := ⟨RX0, "wear", "(I)V"⟩
abbrev cX0_isSounding : ByteArray := prog_2_method_7_code
def yX0_isSounding : MethodName := ⟨RX0, "isSounding", "(I)Z"⟩
abbrev cX0_countSounding : ByteArray := prog_2_method_8_code
def yX0_countSounding : MethodName := ⟨RX0, "countSounding", "()I"⟩
abbrev cX0_countSoundingIn : ByteArray := prog_2_method_9_code
def yX0_countSoundingIn : MethodName := ⟨RX0, "countSoundingIn", "(I)I"⟩
abbrev cX0_countClashesAt : ByteArray := prog_2_method_10_code
def yX0_countClashesAt : MethodName := ⟨RX0, "countClashesAt", "(II)I"⟩
abbrev cX0_countClashes : ByteArray := prog_2_method_11_code
def yX0_countClashes : MethodName := ⟨RX0, "countClashes", "()I"⟩
abbrev cX0_harmonyNow : ByteArray := prog_2_method_12_code
def yX0_harmonyNow : MethodName := ⟨RX0, "harmonyNow", "()I"⟩
abbrev cX0_isChordClear : ByteArray := prog_2_method_13_code
def yX0_isChordClear : MethodName := ⟨RX0, "isChordClear", "()Z"⟩
abbrev cX0_findMostClashing : ByteArray := prog_2_method_14_code
def yX0_findMostClashing : MethodName := ⟨RX0, "findMostClashing", "()I"⟩
abbrev cX0_findLowest : ByteArray := prog_2_method_15_code
def yX0_findLowest : MethodName := ⟨RX0, "findLowest", "()I"⟩
abbrev cX0_findBestTuning : ByteArray := prog_2_method_16_code
def yX0_findBestTuning : MethodName := ⟨RX0, "findBestTuning", "(I)I"⟩
abbrev cX0_sizeOfGreatestAccord : ByteArray := prog_2_method_17_code
def yX0_sizeOfGreatestAccord : MethodName := ⟨RX0, "sizeOfGreatestAccord", "()I"⟩
abbrev cX0_findBarred : ByteArray := prog_2_method_18_code
def yX0_findBarred : MethodName := ⟨RX0, "findBarred", "(I)I"⟩
abbrev cX0_isGroupInAccord : ByteArray := prog_2_method_19_code
def yX0_isGroupInAccord : MethodName := ⟨RX0, "isGroupInAccord", "(I)Z"⟩
abbrev cX0_meanOfPitches : ByteArray := prog_2_method_20_code
def yX0_meanOfPitches : MethodName := ⟨RX0, "meanOfPitches", "()D"⟩
def RX1 : String := "TeapotChoir"
def TX1 : u_T := fun k => match k with
  | 0 => ("TeapotChoir", "choir", "LTeapotChoir$Choir;", true)
  | _ => ("TeapotChoir", "trial", "LTeapotChoir$Choir;", true)
def tyX1 : Nat → FieldType := fun k => match k with
  | 0 => .object "TeapotChoir$Choir"
  | _ => .object "TeapotChoir$Choir"
abbrev wsX10 : List Cond := u_ws RX1 TX1 2
theorem nmX1 : ∀ a, a < 2 → ∀ b, b < 2 → a ≠ b → (TX1 a).2.1 ≠ (TX1 b).2.1 := by decide +kernel
theorem tyX1_ok : ∀ k, k < 2 → parseFieldDescriptor (TX1 k).2.2.1 = some (tyX1 k) := by decide +kernel
abbrev cX1_init : ByteArray := prog_1_method_1_code
def yX1_init : MethodName := ⟨RX1, "<init>", "()V"⟩
abbrev cX1_addPot : ByteArray := prog_1_method_2_code
def yX1_addPot : MethodName := ⟨RX1, "addPot", "(III)I"⟩
abbrev cX1_tune : ByteArray := prog_1_method_3_code
def yX1_tune : MethodName := ⟨RX1, "tune", "(II)I"⟩
abbrev cX1_turnCosy : ByteArray := prog_1_method_4_code
def yX1_turnCosy : MethodName := ⟨RX1, "turnCosy", "(I)Z"⟩
abbrev cX1_pour : ByteArray := prog_1_method_5_code
def yX1_pour : MethodName := ⟨RX1, "pour", "(III)I"⟩
abbrev cX1_fill : ByteArray := prog_1_method_6_code
def yX1_fill : MethodName := ⟨RX1, "fill", "(I)I"⟩
abbrev cX1_mend : ByteArray := prog_1_method_7_code
def yX1_mend : MethodName := ⟨RX1, "mend", "(I)I"⟩
abbrev cX1_sing : ByteArray := prog_1_method_8_code
def yX1_sing : MethodName := ⟨RX1, "sing", "(I)I"⟩
abbrev cX1_pots : ByteArray := prog_1_method_9_code
def yX1_pots : MethodName := ⟨RX1, "pots", "()I"⟩
abbrev cX1_partOf : ByteArray := prog_1_method_10_code
def yX1_partOf : MethodName := ⟨RX1, "partOf", "(I)I"⟩
abbrev cX1_pitchOf : ByteArray := prog_1_method_11_code
def yX1_pitchOf : MethodName := ⟨RX1, "pitchOf", "(I)I"⟩
abbrev cX1_teaOf : ByteArray := prog_1_method_12_code
def yX1_teaOf : MethodName := ⟨RX1, "teaOf", "(I)I"⟩
abbrev cX1_crackOf : ByteArray := prog_1_method_13_code
def yX1_crackOf : MethodName := ⟨RX1, "crackOf", "(I)I"⟩
abbrev cX1_sounds : ByteArray := prog_1_method_14_code
def yX1_sounds : MethodName := ⟨RX1, "sounds", "(I)Z"⟩
abbrev cX1_soundingOf : ByteArray := prog_1_method_15_code
def yX1_soundingOf : MethodName := ⟨RX1, "soundingOf", "(I)I"⟩
abbrev cX1_beats : ByteArray := prog_1_method_16_code
def yX1_beats : MethodName := ⟨RX1, "beats", "()I"⟩
abbrev cX1_sounding : ByteArray := prog_1_method_17_code
def yX1_sounding : MethodName := ⟨RX1, "sounding", "()I"⟩
abbrev cX1_interval : ByteArray := prog_1_method_18_code
def yX1_interval : MethodName := ⟨RX1, "interval", "(II)I"⟩
abbrev cX1_areInAccord : ByteArray := prog_1_method_19_code
def yX1_areInAccord : MethodName := ⟨RX1, "areInAccord", "(II)Z"⟩
abbrev cX1_harmony : ByteArray := prog_1_method_20_code
def yX1_harmony : MethodName := ⟨RX1, "harmony", "()I"⟩
abbrev cX1_clashes : ByteArray := prog_1_method_21_code
def yX1_clashes : MethodName := ⟨RX1, "clashes", "()I"⟩
abbrev cX1_clashesOf : ByteArray := prog_1_method_22_code
def yX1_clashesOf : MethodName := ⟨RX1, "clashesOf", "(I)I"⟩
abbrev cX1_harshest : ByteArray := prog_1_method_23_code
def yX1_harshest : MethodName := ⟨RX1, "harshest", "()I"⟩
abbrev cX1_lowest : ByteArray := prog_1_method_24_code
def yX1_lowest : MethodName := ⟨RX1, "lowest", "()I"⟩
abbrev cX1_isClear : ByteArray := prog_1_method_25_code
def yX1_isClear : MethodName := ⟨RX1, "isClear", "()Z"⟩
abbrev cX1_cadences : ByteArray := prog_1_method_26_code
def yX1_cadences : MethodName := ⟨RX1, "cadences", "()I"⟩
abbrev cX1_bestTuning : ByteArray := prog_1_method_27_code
def yX1_bestTuning : MethodName := ⟨RX1, "bestTuning", "(I)I"⟩
abbrev cX1_bestToMute : ByteArray := prog_1_method_28_code
def yX1_bestToMute : MethodName := ⟨RX1, "bestToMute", "()I"⟩
abbrev cX1_harmonyIn : ByteArray := prog_1_method_29_code
def yX1_harmonyIn : MethodName := ⟨RX1, "harmonyIn", "(I)I"⟩
abbrev cX1_beatsUntilSilence : ByteArray := prog_1_method_30_code
def yX1_beatsUntilSilence : MethodName := ⟨RX1, "beatsUntilSilence", "()I"⟩
abbrev cX1_beatsUntilCadence : ByteArray := prog_1_method_31_code
def yX1_beatsUntilCadence : MethodName := ⟨RX1, "beatsUntilCadence", "()I"⟩
abbrev cX1_greatestAccord : ByteArray := prog_1_method_32_code
def yX1_greatestAccord : MethodName := ⟨RX1, "greatestAccord", "()I"⟩
abbrev cX1_meanPitch : ByteArray := prog_1_method_33_code
def yX1_meanPitch : MethodName := ⟨RX1, "meanPitch", "()D"⟩
abbrev cX1_digest : ByteArray := prog_1_method_34_code
def yX1_digest : MethodName := ⟨RX1, "digest", "()J"⟩
abbrev cX1_digestPot : ByteArray := prog_1_method_35_code
def yX1_digestPot : MethodName := ⟨RX1, "digestPot", "(JI)J"⟩
abbrev cX1_requirePot : ByteArray := prog_1_method_36_code
def yX1_requirePot : MethodName := ⟨RX1, "requirePot", "(I)V"⟩
abbrev cX1_requireWithin : ByteArray := prog_1_method_37_code
def yX1_requireWithin : MethodName := ⟨RX1, "requireWithin", "(III)V"⟩
abbrev cX1_isAccord : ByteArray := prog_1_method_38_code
def yX1_isAccord : MethodName := ⟨RX1, "isAccord", "(II)Z"⟩
def RX2 : String := "TeapotChoirModel"
def TX2 : u_T := fun k => match k with
  | 0 => ("TeapotChoirModel", "thrown", "I", false)
  | 1 => ("TeapotChoirModel", "pots", "I", false)
  | 2 => ("TeapotChoirModel", "cosies", "I", false)
  | 3 => ("TeapotChoirModel", "part", "[I", true)
  | 4 => ("TeapotChoirModel", "now", "[I", true)
  | _ => ("TeapotChoirModel", "kept", "[I", true)
def tyX2 : Nat → FieldType := fun k => match k with
  | 0 => .int
  | 1 => .int
  | 2 => .int
  | 3 => .array .int
  | 4 => .array .int
  | _ => .array .int
abbrev wsX20 : List Cond := u_ws RX2 TX2 6
theorem nmX2 : ∀ a, a < 6 → ∀ b, b < 6 → a ≠ b → (TX2 a).2.1 ≠ (TX2 b).2.1 := by decide +kernel
theorem tyX2_ok : ∀ k, k < 6 → parseFieldDescriptor (TX2 k).2.2.1 = some (tyX2 k) := by decide +kernel
abbrev cX2_init : ByteArray := prog_4_method_1_code
def yX2_init : MethodName := ⟨RX2, "<init>", "()V"⟩
abbrev cX2_thrown : ByteArray := prog_4_method_2_code
def yX2_thrown : MethodName := ⟨RX2, "thrown", "()I"⟩
abbrev cX2_no : ByteArray := prog_4_method_3_code
def yX2_no : MethodName := ⟨RX2, "no", "(I)I"⟩
abbrev cX2_isNot : ByteArray := prog_4_method_4_code
def yX2_isNot : MethodName := ⟨RX2, "isNot", "(I)Z"⟩
abbrev cX2_ok : ByteArray := prog_4_method_5_code
def yX2_ok : MethodName := ⟨RX2, "ok", "(I)I"⟩
abbrev cX2_isIn : ByteArray := prog_4_method_6_code
def yX2_isIn : MethodName := ⟨RX2, "isIn", "(III)Z"⟩
abbrev cX2_isPot : ByteArray := prog_4_method_7_code
def yX2_isPot : MethodName := ⟨RX2, "isPot", "(I)Z"⟩
abbrev cX2_keep : ByteArray := prog_4_method_8_code
def yX2_keep : MethodName := ⟨RX2, "keep", "()V"⟩
abbrev cX2_bringBack : ByteArray := prog_4_method_9_code
def yX2_bringBack : MethodName := ⟨RX2, "bringBack", "()V"⟩
abbrev cX2_heard : ByteArray := prog_4_method_10_code
def yX2_heard : MethodName := ⟨RX2, "heard", "(I)Z"⟩
abbrev cX2_set : ByteArray := prog_4_method_11_code
def yX2_set : MethodName := ⟨RX2, "set", "()I"⟩
abbrev cX2_apart : ByteArray := prog_4_method_12_code
def yX2_apart : MethodName := ⟨RX2, "apart", "(II)I"⟩
abbrev cX2_accord : ByteArray := prog_4_method_13_code
def yX2_accord : MethodName := ⟨RX2, "accord", "(II)Z"⟩
abbrev cX2_against : ByteArray := prog_4_method_14_code
def yX2_against : MethodName := ⟨RX2, "against", "(II)I"⟩
abbrev cX2_allClashes : ByteArray := prog_4_method_15_code
def yX2_allClashes : MethodName := ⟨RX2, "allClashes", "(I)I"⟩
abbrev cX2_harmonyOf : ByteArray := prog_4_method_16_code
def yX2_harmonyOf : MethodName := ⟨RX2, "harmonyOf", "(I)I"⟩
abbrev cX2_clear : ByteArray := prog_4_method_17_code
def yX2_clear : MethodName := ⟨RX2, "clear", "()Z"⟩
abbrev cX2_beat : ByteArray := prog_4_method_18_code
def yX2_beat : MethodName := ⟨RX2, "beat", "()I"⟩
abbrev cX2_beats : ByteArray := prog_4_method_19_code
def yX2_beats : MethodName := ⟨RX2, "beats", "(I)I"⟩
abbrev cX2_addPot : ByteArray := prog_4_method_20_code
def yX2_addPot : MethodName := ⟨RX2, "addPot", "(III)I"⟩
abbrev cX2_tune : ByteArray := prog_4_method_21_code
def yX2_tune : MethodName := ⟨RX2, "tune", "(II)I"⟩
abbrev cX2_turnCosy : ByteArray := prog_4_method_22_code
def yX2_turnCosy : MethodName := ⟨RX2, "turnCosy", "(I)Z"⟩
abbrev cX2_pour : ByteArray := prog_4_method_23_code
def yX2_pour : MethodName := ⟨RX2, "pour", "(III)I"⟩
abbrev cX2_fill : ByteArray := prog_4_method_24_code
def yX2_fill : MethodName := ⟨RX2, "fill", "(I)I"⟩
abbrev cX2_mend : ByteArray := prog_4_method_25_code
def yX2_mend : MethodName := ⟨RX2, "mend", "(I)I"⟩
abbrev cX2_sing : ByteArray := prog_4_method_26_code
def yX2_sing : MethodName := ⟨RX2, "sing", "(I)I"⟩
abbrev cX2_pots : ByteArray := prog_4_method_27_code
def yX2_pots : MethodName := ⟨RX2, "pots", "()I"⟩
abbrev cX2_partOf : ByteArray := prog_4_method_28_code
def yX2_partOf : MethodName := ⟨RX2, "partOf", "(I)I"⟩
abbrev cX2_of : ByteArray := prog_4_method_29_code
def yX2_of : MethodName := ⟨RX2, "of", "(II)I"⟩
abbrev cX2_pitchOf : ByteArray := prog_4_method_30_code
def yX2_pitchOf : MethodName := ⟨RX2, "pitchOf", "(I)I"⟩
abbrev cX2_teaOf : ByteArray := prog_4_method_31_code
def yX2_teaOf : MethodName := ⟨RX2, "teaOf", "(I)I"⟩
abbrev cX2_crackOf : ByteArray := prog_4_method_32_code
def yX2_crackOf : MethodName := ⟨RX2, "crackOf", "(I)I"⟩
abbrev cX2_sounds : ByteArray := prog_4_method_33_code
def yX2_sounds : MethodName := ⟨RX2, "sounds", "(I)Z"⟩
abbrev cX2_soundingOf : ByteArray := prog_4_method_34_code
def yX2_soundingOf : MethodName := ⟨RX2, "soundingOf", "(I)I"⟩
abbrev cX2_beats_ : ByteArray := prog_4_method_35_code
def yX2_beats_ : MethodName := ⟨RX2, "beats", "()I"⟩
abbrev cX2_sounding : ByteArray := prog_4_method_36_code
def yX2_sounding : MethodName := ⟨RX2, "sounding", "()I"⟩
abbrev cX2_interval : ByteArray := prog_4_method_37_code
def yX2_interval : MethodName := ⟨RX2, "interval", "(II)I"⟩
abbrev cX2_areInAccord : ByteArray := prog_4_method_38_code
def yX2_areInAccord : MethodName := ⟨RX2, "areInAccord", "(II)Z"⟩
abbrev cX2_harmony : ByteArray := prog_4_method_39_code
def yX2_harmony : MethodName := ⟨RX2, "harmony", "()I"⟩
abbrev cX2_clashes : ByteArray := prog_4_method_40_code
def yX2_clashes : MethodName := ⟨RX2, "clashes", "()I"⟩
abbrev cX2_clashing : ByteArray := prog_4_method_41_code
def yX2_clashing : MethodName := ⟨RX2, "clashing", "(I)I"⟩
abbrev cX2_clashesOf : ByteArray := prog_4_method_42_code
def yX2_clashesOf : MethodName := ⟨RX2, "clashesOf", "(I)I"⟩
abbrev cX2_harsh : ByteArray := prog_4_method_43_code
def yX2_harsh : MethodName := ⟨RX2, "harsh", "()I"⟩
abbrev cX2_harshest : ByteArray := prog_4_method_44_code
def yX2_harshest : MethodName := ⟨RX2, "harshest", "()I"⟩
abbrev cX2_low : ByteArray := prog_4_method_45_code
def yX2_low : MethodName := ⟨RX2, "low", "()I"⟩
abbrev cX2_lowest : ByteArray := prog_4_method_46_code
def yX2_lowest : MethodName := ⟨RX2, "lowest", "()I"⟩
abbrev cX2_isClear : ByteArray := prog_4_method_47_code
def yX2_isClear : MethodName := ⟨RX2, "isClear", "()Z"⟩
abbrev cX2_cadences : ByteArray := prog_4_method_48_code
def yX2_cadences : MethodName := ⟨RX2, "cadences", "()I"⟩
abbrev cX2_tuning : ByteArray := prog_4_method_49_code
def yX2_tuning : MethodName := ⟨RX2, "tuning", "(I)I"⟩
abbrev cX2_bestTuning : ByteArray := prog_4_method_50_code
def yX2_bestTuning : MethodName := ⟨RX2, "bestTuning", "(I)I"⟩
abbrev cX2_mute : ByteArray := prog_4_method_51_code
def yX2_mute : MethodName := ⟨RX2, "mute", "()I"⟩
abbrev cX2_bestToMute : ByteArray := prog_4_method_52_code
def yX2_bestToMute : MethodName := ⟨RX2, "bestToMute", "()I"⟩
abbrev cX2_harmonyIn : ByteArray := prog_4_method_53_code
def yX2_harmonyIn : MethodName := ⟨RX2, "harmonyIn", "(I)I"⟩
abbrev cX2_silence : ByteArray := prog_4_method_54_code
def yX2_silence : MethodName := ⟨RX2, "silence", "()I"⟩
abbrev cX2_beatsUntilSilence : ByteArray := prog_4_method_55_code
def yX2_beatsUntilSilence : MethodName := ⟨RX2, "beatsUntilSilence", "()I"⟩
abbrev cX2_untilCadence : ByteArray := prog_4_method_56_code
def yX2_untilCadence : MethodName := ⟨RX2, "untilCadence", "()I"⟩
abbrev cX2_beatsUntilCadence : ByteArray := prog_4_method_57_code
def yX2_beatsUntilCadence : MethodName := ⟨RX2, "beatsUntilCadence", "()I"⟩
abbrev cX2_greatest : ByteArray := prog_4_method_58_code
def yX2_greatest : MethodName := ⟨RX2, "greatest", "()I"⟩
abbrev cX2_greatestAccord : ByteArray := prog_4_method_59_code
def yX2_greatestAccord : MethodName := ⟨RX2, "greatestAccord", "()I"⟩
abbrev cX2_meanPitch : ByteArray := prog_4_method_60_code
def yX2_meanPitch : MethodName := ⟨RX2, "meanPitch", "()D"⟩
abbrev cX2_digest : ByteArray := prog_4_method_61_code
def yX2_digest : MethodName := ⟨RX2, "digest", "()J"⟩
def RJ6 : String := "java/lang/Integer"
def TJ6 : u_T := fun k => match k with
  | _ => ("", "", "", false)
def tyJ6 : Nat → FieldType := fun k => match k with
  | _ => .int
abbrev wsJ60 : List Cond := u_ws RJ6 TJ6 0
theorem nmJ6 : ∀ a, a < 0 → ∀ b, b < 0 → a ≠ b → (TJ6 a).2.1 ≠ (TJ6 b).2.1 := by decide +kernel
theorem tyJ6_ok : ∀ k, k < 0 → parseFieldDescriptor (TJ6 k).2.2.1 = some (tyJ6 k) := by decide +kernel
abbrev cJ6_bitCount_0f7a4 : ByteArray := prog_9_method_49_code
def yJ6_bitCount_0f7a4 : MethodName := ⟨RJ6, "bitCount", "(I)I"⟩
def RJ9 : String := "java/lang/Math"
def TJ9 : u_T := fun k => match k with
  | _ => ("", "", "", false)
def tyJ9 : Nat → FieldType := fun k => match k with
  | _ => .int
abbrev wsJ90 : List Cond := u_ws RJ9 TJ9 0
theorem nmJ9 : ∀ a, a < 0 → ∀ b, b < 0 → a ≠ b → (TJ9 a).2.1 ≠ (TJ9 b).2.1 := by decide +kernel
theorem tyJ9_ok : ∀ k, k < 0 → parseFieldDescriptor (TJ9 k).2.2.1 = some (tyJ9 k) := by decide +kernel
abbrev cJ9_abs_0f7a4 : ByteArray := prog_10_method_59_code
def yJ9_abs_0f7a4 : MethodName := ⟨RJ9, "abs", "(I)I"⟩
abbrev cJ9_max_7cf53 : ByteArray := prog_10_method_65_code
def yJ9_max_7cf53 : MethodName := ⟨RJ9, "max", "(II)I"⟩
abbrev cJ9_min_7cf53 : ByteArray := prog_10_method_69_code
def yJ9_min_7cf53 : MethodName := ⟨RJ9, "min", "(II)I"⟩
def RJ0 : String := "java/lang/String"
def TJ0 : u_T := fun k => match k with
  | _ => ("", "", "", false)
def tyJ0 : Nat → FieldType := fun k => match k with
  | _ => .int
abbrev wsJ00 : List Cond := u_ws RJ0 TJ0 0
theorem nmJ0 : ∀ a, a < 0 → ∀ b, b < 0 → a ≠ b → (TJ0 a).2.1 ≠ (TJ0 b).2.1 := by decide +kernel
theorem tyJ0_ok : ∀ k, k < 0 → parseFieldDescriptor (TJ0 k).2.2.1 = some (tyJ0 k) := by decide +kernel
def RJ10 : String := "java/lang/System"
def TJ10 : u_T := fun k => match k with
  | _ => ("", "", "", false)
def tyJ10 : Nat → FieldType := fun k => match k with
  | _ => .int
abbrev wsJ100 : List Cond := u_ws RJ10 TJ10 0
theorem nmJ10 : ∀ a, a < 0 → ∀ b, b < 0 → a ≠ b → (TJ10 a).2.1 ≠ (TJ10 b).2.1 := by decide +kernel
theorem tyJ10_ok : ∀ k, k < 0 → parseFieldDescriptor (TJ10 k).2.2.1 = some (tyJ10 k) := by decide +kernel
def RL : String := "TeapotChoirLaw"
abbrev cL_addPot : ByteArray := method_3_code
def yL_addPot : MethodName := ⟨RL, "addPot", "(LTeapotChoir;III[J)I"⟩
abbrev cL_tune : ByteArray := method_4_code
def yL_tune : MethodName := ⟨RL, "tune", "(LTeapotChoir;II[J)I"⟩
abbrev cL_turnCosy : ByteArray := method_5_code
def yL_turnCosy : MethodName := ⟨RL, "turnCosy", "(LTeapotChoir;I[J)I"⟩
abbrev cL_pour : ByteArray := method_6_code
def yL_pour : MethodName := ⟨RL, "pour", "(LTeapotChoir;III[J)I"⟩
abbrev cL_fill : ByteArray := method_7_code
def yL_fill : MethodName := ⟨RL, "fill", "(LTeapotChoir;I[J)I"⟩
abbrev cL_mend : ByteArray := method_8_code
def yL_mend : MethodName := ⟨RL, "mend", "(LTeapotChoir;I[J)I"⟩
abbrev cL_sing : ByteArray := method_9_code
def yL_sing : MethodName := ⟨RL, "sing", "(LTeapotChoir;I[J)I"⟩
abbrev cL_partOf : ByteArray := method_10_code
def yL_partOf : MethodName := ⟨RL, "partOf", "(LTeapotChoir;I[J)I"⟩
abbrev cL_pitchOf : ByteArray := method_11_code
def yL_pitchOf : MethodName := ⟨RL, "pitchOf", "(LTeapotChoir;I[J)I"⟩
abbrev cL_teaOf : ByteArray := method_12_code
def yL_teaOf : MethodName := ⟨RL, "teaOf", "(LTeapotChoir;I[J)I"⟩
abbrev cL_crackOf : ByteArray := method_13_code
def yL_crackOf : MethodName := ⟨RL, "crackOf", "(LTeapotChoir;I[J)I"⟩
abbrev cL_sounds : ByteArray := method_14_code
def yL_sounds : MethodName := ⟨RL, "sounds", "(LTeapotChoir;I[J)I"⟩
abbrev cL_soundingOf : ByteArray := method_15_code
def yL_soundingOf : MethodName := ⟨RL, "soundingOf", "(LTeapotChoir;I[J)I"⟩
abbrev cL_interval : ByteArray := method_16_code
def yL_interval : MethodName := ⟨RL, "interval", "(LTeapotChoir;II[J)I"⟩
abbrev cL_areInAccord : ByteArray := method_17_code
def yL_areInAccord : MethodName := ⟨RL, "areInAccord", "(LTeapotChoir;II[J)I"⟩
abbrev cL_clashesOf : ByteArray := method_18_code
def yL_clashesOf : MethodName := ⟨RL, "clashesOf", "(LTeapotChoir;I[J)I"⟩
abbrev cL_bestTuning : ByteArray := method_19_code
def yL_bestTuning : MethodName := ⟨RL, "bestTuning", "(LTeapotChoir;I[J)I"⟩
abbrev cL_harmonyIn : ByteArray := method_20_code
def yL_harmonyIn : MethodName := ⟨RL, "harmonyIn", "(LTeapotChoir;I[J)I"⟩
abbrev cL_law : ByteArray := code
def yL_law : MethodName := ⟨RL, "law", "([I)Z"⟩
def wsX0_init : List Cond := .code yX0_init cX0_init 1 none :: ([.methodLink RX0 3 objectInit, .instanceMethod objectInit, .code objectInit ⟨#[0xb1]⟩ 1 none, .arrayClass .int, .fieldLink RX0 9 "TeapotChoir$Choir" "part" "[I", .fieldLink RX0 15 "TeapotChoir$Choir" "pitch" "[I", .fieldLink RX0 18 "TeapotChoir$Choir" "tea" "[I", .fieldLink RX0 21 "TeapotChoir$Choir" "crack" "[I", .arrayClass .boolean, .fieldLink RX0 24 "TeapotChoir$Choir" "cosy" "[Z", .fieldLink RX0 28 "TeapotChoir$Choir" "barred" "[I"] ++ wsX00)
def wsX0_admit : List Cond := .code yX0_admit cX0_admit 5 (some .int) :: ([.fieldLink RX0 31 "TeapotChoir$Choir" "count" "I", .fieldLink RX0 9 "TeapotChoir$Choir" "part" "[I", .fieldLink RX0 15 "TeapotChoir$Choir" "pitch" "[I", .fieldLink RX0 18 "TeapotChoir$Choir" "tea" "[I"] ++ wsX00)
def wsX0_becomeLike : List Cond := .code yX0_becomeLike cX0_becomeLike 2 none :: ([.fieldLink RX0 9 "TeapotChoir$Choir" "part" "[I", .methodLink RX0 35 arraycopyName, .native arraycopyName, .static arraycopyName, .initialized "java/lang/System", .fieldLink RX0 15 "TeapotChoir$Choir" "pitch" "[I", .fieldLink RX0 18 "TeapotChoir$Choir" "tea" "[I", .fieldLink RX0 21 "TeapotChoir$Choir" "crack" "[I", .fieldLink RX0 24 "TeapotChoir$Choir" "cosy" "[Z", .fieldLink RX0 31 "TeapotChoir$Choir" "count" "I", .fieldLink RX0 41 "TeapotChoir$Choir" "beat" "I", .fieldLink RX0 44 "TeapotChoir$Choir" "cadenceCount" "I", .fieldLink RX0 47 "TeapotChoir$Choir" "clashAhead" "Z"] ++ wsX00)
def wsX0_isSounding : List Cond := .code yX0_isSounding cX0_isSounding 2 (some .boolean) :: ([.fieldLink RX0 18 "TeapotChoir$Choir" "tea" "[I", .fieldLink RX0 24 "TeapotChoir$Choir" "cosy" "[Z"] ++ wsX00)
def wsX0_countSounding : List Cond := .code yX0_countSounding cX0_countSounding 3 (some .int) :: ([.fieldLink RX0 31 "TeapotChoir$Choir" "count" "I", .methodLink RX0 62 yX0_isSounding, .instanceMethod yX0_isSounding, .selects RX0 yX0_isSounding yX0_isSounding, .initialized RX0, .code yX0_isSounding cX0_isSounding 2 (some .boolean), .fieldLink RX0 18 "TeapotChoir$Choir" "tea" "[I", .fieldLink RX0 24 "TeapotChoir$Choir" "cosy" "[Z"] ++ wsX00)
def wsX1_isAccord : List Cond := .code yX1_isAccord cX1_isAccord 2 (some .boolean) :: ([.methodLink RX1 96 Lib.Math.abs.name, .static Lib.Math.abs.name, .initialized "java/lang/Math", .code Lib.Math.abs.name Lib.Math.abs.code 1 (some .int)])
def wsX0_countClashesAt : List Cond := .code yX0_countClashesAt cX0_countClashesAt 5 (some .int) :: ([.fieldLink RX0 31 "TeapotChoir$Choir" "count" "I", .fieldLink RX0 15 "TeapotChoir$Choir" "pitch" "[I", .methodLink RX0 62 yX0_isSounding, .instanceMethod yX0_isSounding, .selects RX0 yX0_isSounding yX0_isSounding, .initialized RX0, .code yX0_isSounding cX0_isSounding 2 (some .boolean), .fieldLink RX0 18 "TeapotChoir$Choir" "tea" "[I", .fieldLink RX0 24 "TeapotChoir$Choir" "cosy" "[Z", .static yX1_isAccord, .initialized RX1, .code yX1_isAccord cX1_isAccord 2 (some .boolean), .methodLink RX1 96 Lib.Math.abs.name, .static Lib.Math.abs.name, .initialized "java/lang/Math", .code Lib.Math.abs.name Lib.Math.abs.code 1 (some .int)] ++ wsX00)
def wsX0_countClashes : List Cond := .code yX0_countClashes cX0_countClashes 3 (some .int) :: ([.fieldLink RX0 31 "TeapotChoir$Choir" "count" "I", .fieldLink RX0 15 "TeapotChoir$Choir" "pitch" "[I", .methodLink RX0 62 yX0_isSounding, .instanceMethod yX0_isSounding, .selects RX0 yX0_isSounding yX0_isSounding, .initialized RX0, .code yX0_isSounding cX0_isSounding 2 (some .boolean), .fieldLink RX0 18 "TeapotChoir$Choir" "tea" "[I", .fieldLink RX0 24 "TeapotChoir$Choir" "cosy" "[Z", .methodLink RX0 83 yX0_countClashesAt, .instanceMethod yX0_countClashesAt, .selects RX0 yX0_countClashesAt yX0_countClashesAt, .code yX0_countClashesAt cX0_countClashesAt 5 (some .int), .static yX1_isAccord, .initialized RX1, .code yX1_isAccord cX1_isAccord 2 (some .boolean), .methodLink RX1 96 Lib.Math.abs.name, .static Lib.Math.abs.name, .initialized "java/lang/Math", .code Lib.Math.abs.name Lib.Math.abs.code 1 (some .int)] ++ wsX00)
def wsX0_isChordClear_r1 : List Cond := [Cond.methodLink RX0 86 yX0_countSounding, Cond.instanceMethod yX0_countSounding, Cond.selects RX0 yX0_countSounding yX0_countSounding, Cond.initialized RX0, Cond.code yX0_countSounding cX0_countSounding 3 (some .int), Cond.fieldLink RX0 31 "TeapotChoir$Choir" "count" "I", Cond.methodLink RX0 62 yX0_isSounding, Cond.instanceMethod yX0_isSounding, Cond.selects RX0 yX0_isSounding yX0_isSounding, Cond.code yX0_isSounding cX0_isSounding 2 (some .boolean), Cond.fieldLink RX0 18 "TeapotChoir$Choir" "tea" "[I", Cond.fieldLink RX0 24 "TeapotChoir$Choir" "cosy" "[Z", Cond.methodLink RX0 58 yX0_countClashes, Cond.instanceMethod yX0_countClashes, Cond.selects RX0 yX0_countClashes yX0_countClashes, Cond.code yX0_countClashes cX0_countClashes 3 (some .int), Cond.fieldLink RX0 15 "TeapotChoir$Choir" "pitch" "[I", Cond.methodLink RX0 83 yX0_countClashesAt, Cond.instanceMethod yX0_countClashesAt, Cond.selects RX0 yX0_countClashesAt yX0_countClashesAt, Cond.code yX0_countClashesAt cX0_countClashesAt 5 (some .int), Cond.static yX1_isAccord, Cond.initialized RX1, Cond.code yX1_isAccord cX1_isAccord 2 (some .boolean)]
def wsX0_isChordClear_r2 : List Cond := [Cond.methodLink RX1 96 Lib.Math.abs.name, Cond.static Lib.Math.abs.name, Cond.initialized "java/lang/Math", Cond.code Lib.Math.abs.name Lib.Math.abs.code 1 (some .int)]
def wsX0_isChordClear : List Cond := .code yX0_isChordClear cX0_isChordClear 1 (some .boolean) :: ((wsX0_isChordClear_r1 ++ wsX0_isChordClear_r2) ++ wsX00)
def wsX0_wear : List Cond := .code yX0_wear cX0_wear 2 none :: ([.fieldLink RX0 18 "TeapotChoir$Choir" "tea" "[I", .fieldLink RX0 21 "TeapotChoir$Choir" "crack" "[I", .methodLink RX0 70 Lib.Math.max.name, .static Lib.Math.max.name, .initialized "java/lang/Math", .code Lib.Math.max.name Lib.Math.max.code 2 (some .int), .fieldLink RX0 15 "TeapotChoir$Choir" "pitch" "[I", .fieldLink RX0 41 "TeapotChoir$Choir" "beat" "I", .methodLink RX0 76 Lib.Math.min.name, .static Lib.Math.min.name, .code Lib.Math.min.name Lib.Math.min.code 2 (some .int)] ++ wsX00)
def wsX0_passBeat_r1 : List Cond := [Cond.fieldLink RX0 47 "TeapotChoir$Choir" "clashAhead" "Z", Cond.fieldLink RX0 44 "TeapotChoir$Choir" "cadenceCount" "I", Cond.fieldLink RX0 31 "TeapotChoir$Choir" "count" "I", Cond.fieldLink RX0 24 "TeapotChoir$Choir" "cosy" "[Z", Cond.fieldLink RX0 41 "TeapotChoir$Choir" "beat" "I", Cond.fieldLink RX0 21 "TeapotChoir$Choir" "crack" "[I", Cond.methodLink RX0 70 Lib.Math.max.name, Cond.static Lib.Math.max.name, Cond.initialized "java/lang/Math", Cond.code Lib.Math.max.name Lib.Math.max.code 2 (some .int), Cond.methodLink RX0 54 yX0_isChordClear, Cond.instanceMethod yX0_isChordClear, Cond.selects RX0 yX0_isChordClear yX0_isChordClear, Cond.initialized RX0, Cond.code yX0_isChordClear cX0_isChordClear 1 (some .boolean), Cond.methodLink RX0 86 yX0_countSounding, Cond.instanceMethod yX0_countSounding, Cond.selects RX0 yX0_countSounding yX0_countSounding, Cond.code yX0_countSounding cX0_countSounding 3 (some .int), Cond.methodLink RX0 62 yX0_isSounding, Cond.instanceMethod yX0_isSounding, Cond.selects RX0 yX0_isSounding yX0_isSounding, Cond.code yX0_isSounding cX0_isSounding 2 (some .boolean), Cond.fieldLink RX0 18 "TeapotChoir$Choir" "tea" "[I"]
def wsX0_passBeat_r2 : List Cond := [Cond.methodLink RX0 58 yX0_countClashes, Cond.instanceMethod yX0_countClashes, Cond.selects RX0 yX0_countClashes yX0_countClashes, Cond.code yX0_countClashes cX0_countClashes 3 (some .int), Cond.fieldLink RX0 15 "TeapotChoir$Choir" "pitch" "[I", Cond.methodLink RX0 83 yX0_countClashesAt, Cond.instanceMethod yX0_countClashesAt, Cond.selects RX0 yX0_countClashesAt yX0_countClashesAt, Cond.code yX0_countClashesAt cX0_countClashesAt 5 (some .int), Cond.static yX1_isAccord, Cond.initialized RX1, Cond.code yX1_isAccord cX1_isAccord 2 (some .boolean), Cond.methodLink RX1 96 Lib.Math.abs.name, Cond.static Lib.Math.abs.name, Cond.code Lib.Math.abs.name Lib.Math.abs.code 1 (some .int), Cond.methodLink RX0 66 yX0_wear, Cond.instanceMethod yX0_wear, Cond.selects RX0 yX0_wear yX0_wear, Cond.code yX0_wear cX0_wear 2 none, Cond.methodLink RX0 76 Lib.Math.min.name, Cond.static Lib.Math.min.name, Cond.code Lib.Math.min.name Lib.Math.min.code 2 (some .int)]
def wsX0_passBeat : List Cond := .code yX0_passBeat cX0_passBeat 2 none :: ((wsX0_passBeat_r1 ++ wsX0_passBeat_r2) ++ wsX00)
def wsX0_passBeats_r1 : List Cond := [Cond.methodLink RX0 51 yX0_passBeat, Cond.instanceMethod yX0_passBeat, Cond.selects RX0 yX0_passBeat yX0_passBeat, Cond.initialized RX0, Cond.code yX0_passBeat cX0_passBeat 2 none, Cond.fieldLink RX0 47 "TeapotChoir$Choir" "clashAhead" "Z", Cond.fieldLink RX0 44 "TeapotChoir$Choir" "cadenceCount" "I", Cond.fieldLink RX0 31 "TeapotChoir$Choir" "count" "I", Cond.fieldLink RX0 24 "TeapotChoir$Choir" "cosy" "[Z", Cond.fieldLink RX0 41 "TeapotChoir$Choir" "beat" "I", Cond.fieldLink RX0 21 "TeapotChoir$Choir" "crack" "[I", Cond.methodLink RX0 70 Lib.Math.max.name, Cond.static Lib.Math.max.name, Cond.initialized "java/lang/Math", Cond.code Lib.Math.max.name Lib.Math.max.code 2 (some .int), Cond.methodLink RX0 54 yX0_isChordClear, Cond.instanceMethod yX0_isChordClear, Cond.selects RX0 yX0_isChordClear yX0_isChordClear, Cond.code yX0_isChordClear cX0_isChordClear 1 (some .boolean), Cond.methodLink RX0 86 yX0_countSounding, Cond.instanceMethod yX0_countSounding, Cond.selects RX0 yX0_countSounding yX0_countSounding, Cond.code yX0_countSounding cX0_countSounding 3 (some .int), Cond.methodLink RX0 62 yX0_isSounding]
def wsX0_passBeats_r2 : List Cond := [Cond.instanceMethod yX0_isSounding, Cond.selects RX0 yX0_isSounding yX0_isSounding, Cond.code yX0_isSounding cX0_isSounding 2 (some .boolean), Cond.fieldLink RX0 18 "TeapotChoir$Choir" "tea" "[I", Cond.methodLink RX0 58 yX0_countClashes, Cond.instanceMethod yX0_countClashes, Cond.selects RX0 yX0_countClashes yX0_countClashes, Cond.code yX0_countClashes cX0_countClashes 3 (some .int), Cond.fieldLink RX0 15 "TeapotChoir$Choir" "pitch" "[I", Cond.methodLink RX0 83 yX0_countClashesAt, Cond.instanceMethod yX0_countClashesAt, Cond.selects RX0 yX0_countClashesAt yX0_countClashesAt, Cond.code yX0_countClashesAt cX0_countClashesAt 5 (some .int), Cond.static yX1_isAccord, Cond.initialized RX1, Cond.code yX1_isAccord cX1_isAccord 2 (some .boolean), Cond.methodLink RX1 96 Lib.Math.abs.name, Cond.static Lib.Math.abs.name, Cond.code Lib.Math.abs.name Lib.Math.abs.code 1 (some .int), Cond.methodLink RX0 66 yX0_wear, Cond.instanceMethod yX0_wear, Cond.selects RX0 yX0_wear yX0_wear, Cond.code yX0_wear cX0_wear 2 none, Cond.methodLink RX0 76 Lib.Math.min.name]
def wsX0_passBeats_r3 : List Cond := [Cond.static Lib.Math.min.name, Cond.code Lib.Math.min.name Lib.Math.min.code 2 (some .int)]
def wsX0_passBeats : List Cond := .code yX0_passBeats cX0_passBeats 3 none :: ((wsX0_passBeats_r1 ++ (wsX0_passBeats_r2 ++ wsX0_passBeats_r3)) ++ wsX00)
def wsX0_countSoundingIn : List Cond := .code yX0_countSoundingIn cX0_countSoundingIn 4 (some .int) :: ([.fieldLink RX0 31 "TeapotChoir$Choir" "count" "I", .fieldLink RX0 9 "TeapotChoir$Choir" "part" "[I", .methodLink RX0 62 yX0_isSounding, .instanceMethod yX0_isSounding, .selects RX0 yX0_isSounding yX0_isSounding, .initialized RX0, .code yX0_isSounding cX0_isSounding 2 (some .boolean), .fieldLink RX0 18 "TeapotChoir$Choir" "tea" "[I", .fieldLink RX0 24 "TeapotChoir$Choir" "cosy" "[Z"] ++ wsX00)
def wsX0_harmonyNow_r1 : List Cond := [Cond.methodLink RX0 86 yX0_countSounding, Cond.instanceMethod yX0_countSounding, Cond.selects RX0 yX0_countSounding yX0_countSounding, Cond.initialized RX0, Cond.code yX0_countSounding cX0_countSounding 3 (some .int), Cond.fieldLink RX0 31 "TeapotChoir$Choir" "count" "I", Cond.methodLink RX0 62 yX0_isSounding, Cond.instanceMethod yX0_isSounding, Cond.selects RX0 yX0_isSounding yX0_isSounding, Cond.code yX0_isSounding cX0_isSounding 2 (some .boolean), Cond.fieldLink RX0 18 "TeapotChoir$Choir" "tea" "[I", Cond.fieldLink RX0 24 "TeapotChoir$Choir" "cosy" "[Z", Cond.methodLink RX0 58 yX0_countClashes, Cond.instanceMethod yX0_countClashes, Cond.selects RX0 yX0_countClashes yX0_countClashes, Cond.code yX0_countClashes cX0_countClashes 3 (some .int), Cond.fieldLink RX0 15 "TeapotChoir$Choir" "pitch" "[I", Cond.methodLink RX0 83 yX0_countClashesAt, Cond.instanceMethod yX0_countClashesAt, Cond.selects RX0 yX0_countClashesAt yX0_countClashesAt, Cond.code yX0_countClashesAt cX0_countClashesAt 5 (some .int), Cond.static yX1_isAccord, Cond.initialized RX1, Cond.code yX1_isAccord cX1_isAccord 2 (some .boolean)]
def wsX0_harmonyNow_r2 : List Cond := [Cond.methodLink RX1 96 Lib.Math.abs.name, Cond.static Lib.Math.abs.name, Cond.initialized "java/lang/Math", Cond.code Lib.Math.abs.name Lib.Math.abs.code 1 (some .int)]
def wsX0_harmonyNow : List Cond := .code yX0_harmonyNow cX0_harmonyNow 3 (some .int) :: ((wsX0_harmonyNow_r1 ++ wsX0_harmonyNow_r2) ++ wsX00)
def wsX0_findMostClashing : List Cond := .code yX0_findMostClashing cX0_findMostClashing 5 (some .int) :: ([.fieldLink RX0 31 "TeapotChoir$Choir" "count" "I", .fieldLink RX0 15 "TeapotChoir$Choir" "pitch" "[I", .methodLink RX0 62 yX0_isSounding, .instanceMethod yX0_isSounding, .selects RX0 yX0_isSounding yX0_isSounding, .initialized RX0, .code yX0_isSounding cX0_isSounding 2 (some .boolean), .fieldLink RX0 18 "TeapotChoir$Choir" "tea" "[I", .fieldLink RX0 24 "TeapotChoir$Choir" "cosy" "[Z", .methodLink RX0 83 yX0_countClashesAt, .instanceMethod yX0_countClashesAt, .selects RX0 yX0_countClashesAt yX0_countClashesAt, .code yX0_countClashesAt cX0_countClashesAt 5 (some .int), .static yX1_isAccord, .initialized RX1, .code yX1_isAccord cX1_isAccord 2 (some .boolean), .methodLink RX1 96 Lib.Math.abs.name, .static Lib.Math.abs.name, .initialized "java/lang/Math", .code Lib.Math.abs.name Lib.Math.abs.code 1 (some .int)] ++ wsX00)
def wsX0_findLowest : List Cond := .code yX0_findLowest cX0_findLowest 4 (some .int) :: ([.fieldLink RX0 31 "TeapotChoir$Choir" "count" "I", .fieldLink RX0 15 "TeapotChoir$Choir" "pitch" "[I", .methodLink RX0 62 yX0_isSounding, .instanceMethod yX0_isSounding, .selects RX0 yX0_isSounding yX0_isSounding, .initialized RX0, .code yX0_isSounding cX0_isSounding 2 (some .boolean), .fieldLink RX0 18 "TeapotChoir$Choir" "tea" "[I", .fieldLink RX0 24 "TeapotChoir$Choir" "cosy" "[Z"] ++ wsX00)
def wsX0_findBestTuning : List Cond := .code yX0_findBestTuning cX0_findBestTuning 8 (some .int) :: ([.fieldLink RX0 15 "TeapotChoir$Choir" "pitch" "[I", .methodLink RX0 89 Lib.Math.abs.name, .static Lib.Math.abs.name, .initialized "java/lang/Math", .code Lib.Math.abs.name Lib.Math.abs.code 1 (some .int), .methodLink RX0 83 yX0_countClashesAt, .instanceMethod yX0_countClashesAt, .selects RX0 yX0_countClashesAt yX0_countClashesAt, .initialized RX0, .code yX0_countClashesAt cX0_countClashesAt 5 (some .int), .fieldLink RX0 31 "TeapotChoir$Choir" "count" "I", .methodLink RX0 62 yX0_isSounding, .instanceMethod yX0_isSounding, .selects RX0 yX0_isSounding yX0_isSounding, .code yX0_isSounding cX0_isSounding 2 (some .boolean), .fieldLink RX0 18 "TeapotChoir$Choir" "tea" "[I", .fieldLink RX0 24 "TeapotChoir$Choir" "cosy" "[Z", .static yX1_isAccord, .initialized RX1, .code yX1_isAccord cX1_isAccord 2 (some .boolean), .methodLink RX1 96 Lib.Math.abs.name] ++ wsX00)
def wsX0_findBarred : List Cond := .code yX0_findBarred cX0_findBarred 4 (some .int) :: ([.fieldLink RX0 31 "TeapotChoir$Choir" "count" "I", .fieldLink RX0 15 "TeapotChoir$Choir" "pitch" "[I", .methodLink RX0 62 yX0_isSounding, .instanceMethod yX0_isSounding, .selects RX0 yX0_isSounding yX0_isSounding, .initialized RX0, .code yX0_isSounding cX0_isSounding 2 (some .boolean), .fieldLink RX0 18 "TeapotChoir$Choir" "tea" "[I", .fieldLink RX0 24 "TeapotChoir$Choir" "cosy" "[Z", .static yX1_isAccord, .initialized RX1, .code yX1_isAccord cX1_isAccord 2 (some .boolean), .methodLink RX1 96 Lib.Math.abs.name, .static Lib.Math.abs.name, .initialized "java/lang/Math", .code Lib.Math.abs.name Lib.Math.abs.code 1 (some .int)] ++ wsX00)
def wsJ6_bitCount_0f7a4 : List Cond := .code yJ6_bitCount_0f7a4 cJ6_bitCount_0f7a4 1 (some .int) :: ([.constant RJ6 265 (1431655765), .constant RJ6 266 (858993459), .constant RJ6 267 (252645135)])
def wsX0_isGroupInAccord : List Cond := .code yX0_isGroupInAccord cX0_isGroupInAccord 3 (some .boolean) :: ([.fieldLink RX0 31 "TeapotChoir$Choir" "count" "I", .fieldLink RX0 28 "TeapotChoir$Choir" "barred" "[I"] ++ wsX00)
def wsX0_sizeOfGreatestAccord_r1 : List Cond := [Cond.fieldLink RX0 31 "TeapotChoir$Choir" "count" "I", Cond.fieldLink RX0 28 "TeapotChoir$Choir" "barred" "[I", Cond.methodLink RX0 93 yX0_findBarred, Cond.instanceMethod yX0_findBarred, Cond.selects RX0 yX0_findBarred yX0_findBarred, Cond.initialized RX0, Cond.code yX0_findBarred cX0_findBarred 4 (some .int), Cond.fieldLink RX0 15 "TeapotChoir$Choir" "pitch" "[I", Cond.methodLink RX0 62 yX0_isSounding, Cond.instanceMethod yX0_isSounding, Cond.selects RX0 yX0_isSounding yX0_isSounding, Cond.code yX0_isSounding cX0_isSounding 2 (some .boolean), Cond.fieldLink RX0 18 "TeapotChoir$Choir" "tea" "[I", Cond.fieldLink RX0 24 "TeapotChoir$Choir" "cosy" "[Z", Cond.static yX1_isAccord, Cond.initialized RX1, Cond.code yX1_isAccord cX1_isAccord 2 (some .boolean), Cond.methodLink RX1 96 Lib.Math.abs.name, Cond.static Lib.Math.abs.name, Cond.initialized "java/lang/Math", Cond.code Lib.Math.abs.name Lib.Math.abs.code 1 (some .int), Cond.methodLink RX0 96 yJ6_bitCount_0f7a4, Cond.static yJ6_bitCount_0f7a4, Cond.initialized RJ6]
def wsX0_sizeOfGreatestAccord_r2 : List Cond := [Cond.code yJ6_bitCount_0f7a4 cJ6_bitCount_0f7a4 1 (some .int), Cond.constant RJ6 265 (1431655765), Cond.constant RJ6 266 (858993459), Cond.constant RJ6 267 (252645135), Cond.methodLink RX0 101 yX0_isGroupInAccord, Cond.instanceMethod yX0_isGroupInAccord, Cond.selects RX0 yX0_isGroupInAccord yX0_isGroupInAccord, Cond.code yX0_isGroupInAccord cX0_isGroupInAccord 3 (some .boolean)]
def wsX0_sizeOfGreatestAccord : List Cond := .code yX0_sizeOfGreatestAccord cX0_sizeOfGreatestAccord 4 (some .int) :: ((wsX0_sizeOfGreatestAccord_r1 ++ wsX0_sizeOfGreatestAccord_r2) ++ wsX00)
def wsX0_meanOfPitches : List Cond := .code yX0_meanOfPitches cX0_meanOfPitches 4 (some .double) :: ([.fieldLink RX0 31 "TeapotChoir$Choir" "count" "I", .fieldLink RX0 15 "TeapotChoir$Choir" "pitch" "[I", .methodLink RX0 86 yX0_countSounding, .instanceMethod yX0_countSounding, .selects RX0 yX0_countSounding yX0_countSounding, .initialized RX0, .code yX0_countSounding cX0_countSounding 3 (some .int), .methodLink RX0 62 yX0_isSounding, .instanceMethod yX0_isSounding, .selects RX0 yX0_isSounding yX0_isSounding, .code yX0_isSounding cX0_isSounding 2 (some .boolean), .fieldLink RX0 18 "TeapotChoir$Choir" "tea" "[I", .fieldLink RX0 24 "TeapotChoir$Choir" "cosy" "[Z"] ++ wsX00)
def wsX1_init : List Cond := .code yX1_init cX1_init 1 none :: ([.methodLink RX1 1 objectInit, .instanceMethod objectInit, .code objectInit ⟨#[0xb1]⟩ 1 none, .classLink RX1 7 RX0, .instantiable RX0 10, .initialized RX0, .fieldLink RX1 10 "TeapotChoir" "choir" "LTeapotChoir$Choir;", .fieldLink RX1 16 "TeapotChoir" "trial" "LTeapotChoir$Choir;", .instanceMethod yX0_init, .code yX0_init cX0_init 1 none, .methodLink RX0 3 objectInit, .arrayClass .int, .fieldLink RX0 9 "TeapotChoir$Choir" "part" "[I", .fieldLink RX0 15 "TeapotChoir$Choir" "pitch" "[I", .fieldLink RX0 18 "TeapotChoir$Choir" "tea" "[I", .fieldLink RX0 21 "TeapotChoir$Choir" "crack" "[I", .arrayClass .boolean, .fieldLink RX0 24 "TeapotChoir$Choir" "cosy" "[Z", .fieldLink RX0 28 "TeapotChoir$Choir" "barred" "[I"] ++ wsX00 ++ wsX10)
def wsX1_requireWithin : List Cond := .code yX1_requireWithin cX1_requireWithin 3 none :: ([.classLink RX1 50 "java/lang/IllegalArgumentException", .initialized "java/lang/IllegalArgumentException"] ++ (vx_atS RX1 54 "java/lang/IllegalArgumentException" ["java/lang/RuntimeException", "java/lang/Exception"]).filter goodWord)
def wsX1_addPot : List Cond := .code yX1_addPot cX1_addPot 4 (some .int) :: ([.classLink RX1 27 "java/lang/IllegalStateException", .initialized "java/lang/IllegalStateException", .fieldLink RX1 10 "TeapotChoir" "choir" "LTeapotChoir$Choir;", .fieldLink RX1 23 "TeapotChoir$Choir" "count" "I", .methodLink RX1 19 yX1_requireWithin, .static yX1_requireWithin, .initialized RX1, .code yX1_requireWithin cX1_requireWithin 3 none, .classLink RX1 50 "java/lang/IllegalArgumentException", .initialized "java/lang/IllegalArgumentException", .methodLink RX1 34 yX0_admit, .instanceMethod yX0_admit, .selects RX0 yX0_admit yX0_admit, .initialized RX0, .code yX0_admit cX0_admit 5 (some .int), .fieldLink RX0 31 "TeapotChoir$Choir" "count" "I", .fieldLink RX0 9 "TeapotChoir$Choir" "part" "[I", .fieldLink RX0 15 "TeapotChoir$Choir" "pitch" "[I", .fieldLink RX0 18 "TeapotChoir$Choir" "tea" "[I"] ++ wsX10 ++ wsX00 ++ (vx_atS RX1 31 "java/lang/IllegalStateException" ["java/lang/RuntimeException", "java/lang/Exception"]).filter goodWord ++ (vx_atS RX1 54 "java/lang/IllegalArgumentException" ["java/lang/RuntimeException", "java/lang/Exception"]).filter goodWord)
def wsX1_requirePot : List Cond := .code yX1_requirePot cX1_requirePot 2 none :: ([.classLink RX1 80 "java/lang/IndexOutOfBoundsException", .initialized "java/lang/IndexOutOfBoundsException", .fieldLink RX1 10 "TeapotChoir" "choir" "LTeapotChoir$Choir;", .fieldLink RX1 23 "TeapotChoir$Choir" "count" "I"] ++ wsX10 ++ wsX00 ++ (vx_atS RX1 84 "java/lang/IndexOutOfBoundsException" ["java/lang/RuntimeException", "java/lang/Exception"]).filter goodWord)
def wsX1_tune : List Cond := .code yX1_tune cX1_tune 4 (some .int) :: ([.fieldLink RX1 10 "TeapotChoir" "choir" "LTeapotChoir$Choir;", .fieldLink RX1 42 "TeapotChoir$Choir" "pitch" "[I", .methodLink RX1 38 yX1_requirePot, .instanceMethod yX1_requirePot, .selects RX1 yX1_requirePot yX1_requirePot, .initialized RX1, .code yX1_requirePot cX1_requirePot 2 none, .classLink RX1 80 "java/lang/IndexOutOfBoundsException", .initialized "java/lang/IndexOutOfBoundsException", .fieldLink RX1 23 "TeapotChoir$Choir" "count" "I", .methodLink RX1 19 yX1_requireWithin, .static yX1_requireWithin, .code yX1_requireWithin cX1_requireWithin 3 none, .classLink RX1 50 "java/lang/IllegalArgumentException", .initialized "java/lang/IllegalArgumentException"] ++ wsX10 ++ wsX00 ++ (vx_atS RX1 84 "java/lang/IndexOutOfBoundsException" ["java/lang/RuntimeException", "java/lang/Exception"]).filter goodWord ++ (vx_atS RX1 54 "java/lang/IllegalArgumentException" ["java/lang/RuntimeException", "java/lang/Exception"]).filter goodWord)
def wsX1_turnCosy : List Cond := .code yX1_turnCosy cX1_turnCosy 2 (some .boolean) :: ([.fieldLink RX1 10 "TeapotChoir" "choir" "LTeapotChoir$Choir;", .fieldLink RX1 46 "TeapotChoir$Choir" "cosy" "[Z", .methodLink RX1 38 yX1_requirePot, .instanceMethod yX1_requirePot, .selects RX1 yX1_requirePot yX1_requirePot, .initialized RX1, .code yX1_requirePot cX1_requirePot 2 none, .classLink RX1 80 "java/lang/IndexOutOfBoundsException", .initialized "java/lang/IndexOutOfBoundsException", .fieldLink RX1 23 "TeapotChoir$Choir" "count" "I"] ++ wsX10 ++ wsX00 ++ (vx_atS RX1 84 "java/lang/IndexOutOfBoundsException" ["java/lang/RuntimeException", "java/lang/Exception"]).filter goodWord)
def wsX1_pour : List Cond := .code yX1_pour cX1_pour 5 (some .int) :: ([.classLink RX1 50 "java/lang/IllegalArgumentException", .initialized "java/lang/IllegalArgumentException", .fieldLink RX1 10 "TeapotChoir" "choir" "LTeapotChoir$Choir;", .fieldLink RX1 55 "TeapotChoir$Choir" "tea" "[I", .methodLink RX1 58 Lib.Math.min.name, .static Lib.Math.min.name, .initialized "java/lang/Math", .code Lib.Math.min.name Lib.Math.min.code 2 (some .int), .methodLink RX1 38 yX1_requirePot, .instanceMethod yX1_requirePot, .selects RX1 yX1_requirePot yX1_requirePot, .initialized RX1, .code yX1_requirePot cX1_requirePot 2 none, .classLink RX1 80 "java/lang/IndexOutOfBoundsException", .initialized "java/lang/IndexOutOfBoundsException", .fieldLink RX1 23 "TeapotChoir$Choir" "count" "I", .methodLink RX1 19 yX1_requireWithin, .static yX1_requireWithin, .code yX1_requireWithin cX1_requireWithin 3 none] ++ wsX10 ++ wsX00 ++ (vx_atS RX1 54 "java/lang/IllegalArgumentException" ["java/lang/RuntimeException", "java/lang/Exception"]).filter goodWord ++ (vx_atS RX1 84 "java/lang/IndexOutOfBoundsException" ["java/lang/RuntimeException", "java/lang/Exception"]).filter goodWord)
def wsX1_fill : List Cond := .code yX1_fill cX1_fill 3 (some .int) :: ([.fieldLink RX1 10 "TeapotChoir" "choir" "LTeapotChoir$Choir;", .fieldLink RX1 55 "TeapotChoir$Choir" "tea" "[I", .methodLink RX1 38 yX1_requirePot, .instanceMethod yX1_requirePot, .selects RX1 yX1_requirePot yX1_requirePot, .initialized RX1, .code yX1_requirePot cX1_requirePot 2 none, .classLink RX1 80 "java/lang/IndexOutOfBoundsException", .initialized "java/lang/IndexOutOfBoundsException", .fieldLink RX1 23 "TeapotChoir$Choir" "count" "I"] ++ wsX10 ++ wsX00 ++ (vx_atS RX1 84 "java/lang/IndexOutOfBoundsException" ["java/lang/RuntimeException", "java/lang/Exception"]).filter goodWord)
def wsX1_mend : List Cond := .code yX1_mend cX1_mend 3 (some .int) :: ([.fieldLink RX1 10 "TeapotChoir" "choir" "LTeapotChoir$Choir;", .fieldLink RX1 64 "TeapotChoir$Choir" "crack" "[I", .fieldLink RX1 55 "TeapotChoir$Choir" "tea" "[I", .methodLink RX1 38 yX1_requirePot, .instanceMethod yX1_requirePot, .selects RX1 yX1_requirePot yX1_requirePot, .initialized RX1, .code yX1_requirePot cX1_requirePot 2 none, .classLink RX1 80 "java/lang/IndexOutOfBoundsException", .initialized "java/lang/IndexOutOfBoundsException", .fieldLink RX1 23 "TeapotChoir$Choir" "count" "I"] ++ wsX10 ++ wsX00 ++ (vx_atS RX1 84 "java/lang/IndexOutOfBoundsException" ["java/lang/RuntimeException", "java/lang/Exception"]).filter goodWord)
def wsX1_sing_r1 : List Cond := [Cond.fieldLink RX1 10 "TeapotChoir" "choir" "LTeapotChoir$Choir;", Cond.fieldLink RX1 67 "TeapotChoir$Choir" "cadenceCount" "I", Cond.methodLink RX1 19 yX1_requireWithin, Cond.static yX1_requireWithin, Cond.initialized RX1, Cond.code yX1_requireWithin cX1_requireWithin 3 none, Cond.classLink RX1 50 "java/lang/IllegalArgumentException", Cond.initialized "java/lang/IllegalArgumentException", Cond.methodLink RX1 70 yX0_passBeats, Cond.instanceMethod yX0_passBeats, Cond.selects RX0 yX0_passBeats yX0_passBeats, Cond.initialized RX0, Cond.code yX0_passBeats cX0_passBeats 3 none, Cond.methodLink RX0 51 yX0_passBeat, Cond.instanceMethod yX0_passBeat, Cond.selects RX0 yX0_passBeat yX0_passBeat, Cond.code yX0_passBeat cX0_passBeat 2 none, Cond.fieldLink RX0 47 "TeapotChoir$Choir" "clashAhead" "Z", Cond.fieldLink RX0 44 "TeapotChoir$Choir" "cadenceCount" "I", Cond.fieldLink RX0 31 "TeapotChoir$Choir" "count" "I", Cond.fieldLink RX0 24 "TeapotChoir$Choir" "cosy" "[Z", Cond.fieldLink RX0 41 "TeapotChoir$Choir" "beat" "I", Cond.fieldLink RX0 21 "TeapotChoir$Choir" "crack" "[I", Cond.methodLink RX0 70 Lib.Math.max.name]
def wsX1_sing_r2 : List Cond := [Cond.static Lib.Math.max.name, Cond.initialized "java/lang/Math", Cond.code Lib.Math.max.name Lib.Math.max.code 2 (some .int), Cond.methodLink RX0 54 yX0_isChordClear, Cond.instanceMethod yX0_isChordClear, Cond.selects RX0 yX0_isChordClear yX0_isChordClear, Cond.code yX0_isChordClear cX0_isChordClear 1 (some .boolean), Cond.methodLink RX0 86 yX0_countSounding, Cond.instanceMethod yX0_countSounding, Cond.selects RX0 yX0_countSounding yX0_countSounding, Cond.code yX0_countSounding cX0_countSounding 3 (some .int), Cond.methodLink RX0 62 yX0_isSounding, Cond.instanceMethod yX0_isSounding, Cond.selects RX0 yX0_isSounding yX0_isSounding, Cond.code yX0_isSounding cX0_isSounding 2 (some .boolean), Cond.fieldLink RX0 18 "TeapotChoir$Choir" "tea" "[I", Cond.methodLink RX0 58 yX0_countClashes, Cond.instanceMethod yX0_countClashes, Cond.selects RX0 yX0_countClashes yX0_countClashes, Cond.code yX0_countClashes cX0_countClashes 3 (some .int), Cond.fieldLink RX0 15 "TeapotChoir$Choir" "pitch" "[I", Cond.methodLink RX0 83 yX0_countClashesAt, Cond.instanceMethod yX0_countClashesAt, Cond.selects RX0 yX0_countClashesAt yX0_countClashesAt]
def wsX1_sing_r3 : List Cond := [Cond.code yX0_countClashesAt cX0_countClashesAt 5 (some .int), Cond.static yX1_isAccord, Cond.code yX1_isAccord cX1_isAccord 2 (some .boolean), Cond.methodLink RX1 96 Lib.Math.abs.name, Cond.static Lib.Math.abs.name, Cond.code Lib.Math.abs.name Lib.Math.abs.code 1 (some .int), Cond.methodLink RX0 66 yX0_wear, Cond.instanceMethod yX0_wear, Cond.selects RX0 yX0_wear yX0_wear, Cond.code yX0_wear cX0_wear 2 none, Cond.methodLink RX0 76 Lib.Math.min.name, Cond.static Lib.Math.min.name, Cond.code Lib.Math.min.name Lib.Math.min.code 2 (some .int)]
def wsX1_sing : List Cond := .code yX1_sing cX1_sing 3 (some .int) :: ((wsX1_sing_r1 ++ (wsX1_sing_r2 ++ wsX1_sing_r3)) ++ wsX10 ++ wsX00 ++ (vx_atS RX1 54 "java/lang/IllegalArgumentException" ["java/lang/RuntimeException", "java/lang/Exception"]).filter goodWord)
def wsX1_pots : List Cond := .code yX1_pots cX1_pots 1 (some .int) :: ([.fieldLink RX1 10 "TeapotChoir" "choir" "LTeapotChoir$Choir;", .fieldLink RX1 23 "TeapotChoir$Choir" "count" "I"] ++ wsX10 ++ wsX00)
def wsX1_partOf : List Cond := .code yX1_partOf cX1_partOf 2 (some .int) :: ([.fieldLink RX1 10 "TeapotChoir" "choir" "LTeapotChoir$Choir;", .fieldLink RX1 73 "TeapotChoir$Choir" "part" "[I", .methodLink RX1 38 yX1_requirePot, .instanceMethod yX1_requirePot, .selects RX1 yX1_requirePot yX1_requirePot, .initialized RX1, .code yX1_requirePot cX1_requirePot 2 none, .classLink RX1 80 "java/lang/IndexOutOfBoundsException", .initialized "java/lang/IndexOutOfBoundsException", .fieldLink RX1 23 "TeapotChoir$Choir" "count" "I"] ++ wsX10 ++ wsX00 ++ (vx_atS RX1 84 "java/lang/IndexOutOfBoundsException" ["java/lang/RuntimeException", "java/lang/Exception"]).filter goodWord)
def wsX1_pitchOf : List Cond := .code yX1_pitchOf cX1_pitchOf 2 (some .int) :: ([.fieldLink RX1 10 "TeapotChoir" "choir" "LTeapotChoir$Choir;", .fieldLink RX1 42 "TeapotChoir$Choir" "pitch" "[I", .methodLink RX1 38 yX1_requirePot, .instanceMethod yX1_requirePot, .selects RX1 yX1_requirePot yX1_requirePot, .initialized RX1, .code yX1_requirePot cX1_requirePot 2 none, .classLink RX1 80 "java/lang/IndexOutOfBoundsException", .initialized "java/lang/IndexOutOfBoundsException", .fieldLink RX1 23 "TeapotChoir$Choir" "count" "I"] ++ wsX10 ++ wsX00 ++ (vx_atS RX1 84 "java/lang/IndexOutOfBoundsException" ["java/lang/RuntimeException", "java/lang/Exception"]).filter goodWord)
def wsX1_teaOf : List Cond := .code yX1_teaOf cX1_teaOf 2 (some .int) :: ([.fieldLink RX1 10 "TeapotChoir" "choir" "LTeapotChoir$Choir;", .fieldLink RX1 55 "TeapotChoir$Choir" "tea" "[I", .methodLink RX1 38 yX1_requirePot, .instanceMethod yX1_requirePot, .selects RX1 yX1_requirePot yX1_requirePot, .initialized RX1, .code yX1_requirePot cX1_requirePot 2 none, .classLink RX1 80 "java/lang/IndexOutOfBoundsException", .initialized "java/lang/IndexOutOfBoundsException", .fieldLink RX1 23 "TeapotChoir$Choir" "count" "I"] ++ wsX10 ++ wsX00 ++ (vx_atS RX1 84 "java/lang/IndexOutOfBoundsException" ["java/lang/RuntimeException", "java/lang/Exception"]).filter goodWord)
def wsX1_crackOf : List Cond := .code yX1_crackOf cX1_crackOf 2 (some .int) :: ([.fieldLink RX1 10 "TeapotChoir" "choir" "LTeapotChoir$Choir;", .fieldLink RX1 64 "TeapotChoir$Choir" "crack" "[I", .methodLink RX1 38 yX1_requirePot, .instanceMethod yX1_requirePot, .selects RX1 yX1_requirePot yX1_requirePot, .initialized RX1, .code yX1_requirePot cX1_requirePot 2 none, .classLink RX1 80 "java/lang/IndexOutOfBoundsException", .initialized "java/lang/IndexOutOfBoundsException", .fieldLink RX1 23 "TeapotChoir$Choir" "count" "I"] ++ wsX10 ++ wsX00 ++ (vx_atS RX1 84 "java/lang/IndexOutOfBoundsException" ["java/lang/RuntimeException", "java/lang/Exception"]).filter goodWord)
def wsX1_sounds : List Cond := .code yX1_sounds cX1_sounds 2 (some .boolean) :: ([.fieldLink RX1 10 "TeapotChoir" "choir" "LTeapotChoir$Choir;", .methodLink RX1 38 yX1_requirePot, .instanceMethod yX1_requirePot, .selects RX1 yX1_requirePot yX1_requirePot, .initialized RX1, .code yX1_requirePot cX1_requirePot 2 none, .classLink RX1 80 "java/lang/IndexOutOfBoundsException", .initialized "java/lang/IndexOutOfBoundsException", .fieldLink RX1 23 "TeapotChoir$Choir" "count" "I", .methodLink RX1 76 yX0_isSounding, .instanceMethod yX0_isSounding, .selects RX0 yX0_isSounding yX0_isSounding, .initialized RX0, .code yX0_isSounding cX0_isSounding 2 (some .boolean), .fieldLink RX0 18 "TeapotChoir$Choir" "tea" "[I", .fieldLink RX0 24 "TeapotChoir$Choir" "cosy" "[Z"] ++ wsX10 ++ wsX00 ++ (vx_atS RX1 84 "java/lang/IndexOutOfBoundsException" ["java/lang/RuntimeException", "java/lang/Exception"]).filter goodWord)
def wsX1_soundingOf : List Cond := .code yX1_soundingOf cX1_soundingOf 2 (some .int) :: ([.classLink RX1 80 "java/lang/IndexOutOfBoundsException", .initialized "java/lang/IndexOutOfBoundsException", .fieldLink RX1 10 "TeapotChoir" "choir" "LTeapotChoir$Choir;", .methodLink RX1 85 yX0_countSoundingIn, .instanceMethod yX0_countSoundingIn, .selects RX0 yX0_countSoundingIn yX0_countSoundingIn, .initialized RX0, .code yX0_countSoundingIn cX0_countSoundingIn 4 (some .int), .fieldLink RX0 31 "TeapotChoir$Choir" "count" "I", .fieldLink RX0 9 "TeapotChoir$Choir" "part" "[I", .methodLink RX0 62 yX0_isSounding, .instanceMethod yX0_isSounding, .selects RX0 yX0_isSounding yX0_isSounding, .code yX0_isSounding cX0_isSounding 2 (some .boolean), .fieldLink RX0 18 "TeapotChoir$Choir" "tea" "[I", .fieldLink RX0 24 "TeapotChoir$Choir" "cosy" "[Z"] ++ wsX10 ++ wsX00 ++ (vx_atS RX1 84 "java/lang/IndexOutOfBoundsException" ["java/lang/RuntimeException", "java/lang/Exception"]).filter goodWord)
def wsX1_beats : List Cond := .code yX1_beats cX1_beats 1 (some .int) :: ([.fieldLink RX1 10 "TeapotChoir" "choir" "LTeapotChoir$Choir;", .fieldLink RX1 89 "TeapotChoir$Choir" "beat" "I"] ++ wsX10 ++ wsX00)
def wsX1_sounding : List Cond := .code yX1_sounding cX1_sounding 1 (some .int) :: ([.fieldLink RX1 10 "TeapotChoir" "choir" "LTeapotChoir$Choir;", .methodLink RX1 92 yX0_countSounding, .instanceMethod yX0_countSounding, .selects RX0 yX0_countSounding yX0_countSounding, .initialized RX0, .code yX0_countSounding cX0_countSounding 3 (some .int), .fieldLink RX0 31 "TeapotChoir$Choir" "count" "I", .methodLink RX0 62 yX0_isSounding, .instanceMethod yX0_isSounding, .selects RX0 yX0_isSounding yX0_isSounding, .code yX0_isSounding cX0_isSounding 2 (some .boolean), .fieldLink RX0 18 "TeapotChoir$Choir" "tea" "[I", .fieldLink RX0 24 "TeapotChoir$Choir" "cosy" "[Z"] ++ wsX10 ++ wsX00)
def wsX1_interval : List Cond := .code yX1_interval cX1_interval 3 (some .int) :: ([.fieldLink RX1 10 "TeapotChoir" "choir" "LTeapotChoir$Choir;", .fieldLink RX1 42 "TeapotChoir$Choir" "pitch" "[I", .methodLink RX1 96 Lib.Math.abs.name, .static Lib.Math.abs.name, .initialized "java/lang/Math", .code Lib.Math.abs.name Lib.Math.abs.code 1 (some .int), .methodLink RX1 38 yX1_requirePot, .instanceMethod yX1_requirePot, .selects RX1 yX1_requirePot yX1_requirePot, .initialized RX1, .code yX1_requirePot cX1_requirePot 2 none, .classLink RX1 80 "java/lang/IndexOutOfBoundsException", .initialized "java/lang/IndexOutOfBoundsException", .fieldLink RX1 23 "TeapotChoir$Choir" "count" "I"] ++ wsX10 ++ wsX00 ++ (vx_atS RX1 84 "java/lang/IndexOutOfBoundsException" ["java/lang/RuntimeException", "java/lang/Exception"]).filter goodWord)
def wsX1_areInAccord : List Cond := .code yX1_areInAccord cX1_areInAccord 3 (some .boolean) :: ([.fieldLink RX1 10 "TeapotChoir" "choir" "LTeapotChoir$Choir;", .fieldLink RX1 42 "TeapotChoir$Choir" "pitch" "[I", .methodLink RX1 38 yX1_requirePot, .instanceMethod yX1_requirePot, .selects RX1 yX1_requirePot yX1_requirePot, .initialized RX1, .code yX1_requirePot cX1_requirePot 2 none, .classLink RX1 80 "java/lang/IndexOutOfBoundsException", .initialized "java/lang/IndexOutOfBoundsException", .fieldLink RX1 23 "TeapotChoir$Choir" "count" "I", .methodLink RX1 99 yX1_isAccord, .static yX1_isAccord, .code yX1_isAccord cX1_isAccord 2 (some .boolean), .methodLink RX1 96 Lib.Math.abs.name, .static Lib.Math.abs.name, .initialized "java/lang/Math", .code Lib.Math.abs.name Lib.Math.abs.code 1 (some .int)] ++ wsX10 ++ wsX00 ++ (vx_atS RX1 84 "java/lang/IndexOutOfBoundsException" ["java/lang/RuntimeException", "java/lang/Exception"]).filter goodWord)
def wsX1_harmony_r1 : List Cond := [Cond.fieldLink RX1 10 "TeapotChoir" "choir" "LTeapotChoir$Choir;", Cond.methodLink RX1 103 yX0_harmonyNow, Cond.instanceMethod yX0_harmonyNow, Cond.selects RX0 yX0_harmonyNow yX0_harmonyNow, Cond.initialized RX0, Cond.code yX0_harmonyNow cX0_harmonyNow 3 (some .int), Cond.methodLink RX0 86 yX0_countSounding, Cond.instanceMethod yX0_countSounding, Cond.selects RX0 yX0_countSounding yX0_countSounding, Cond.code yX0_countSounding cX0_countSounding 3 (some .int), Cond.fieldLink RX0 31 "TeapotChoir$Choir" "count" "I", Cond.methodLink RX0 62 yX0_isSounding, Cond.instanceMethod yX0_isSounding, Cond.selects RX0 yX0_isSounding yX0_isSounding, Cond.code yX0_isSounding cX0_isSounding 2 (some .boolean), Cond.fieldLink RX0 18 "TeapotChoir$Choir" "tea" "[I", Cond.fieldLink RX0 24 "TeapotChoir$Choir" "cosy" "[Z", Cond.methodLink RX0 58 yX0_countClashes, Cond.instanceMethod yX0_countClashes, Cond.selects RX0 yX0_countClashes yX0_countClashes, Cond.code yX0_countClashes cX0_countClashes 3 (some .int), Cond.fieldLink RX0 15 "TeapotChoir$Choir" "pitch" "[I", Cond.methodLink RX0 83 yX0_countClashesAt, Cond.instanceMethod yX0_countClashesAt]
def wsX1_harmony_r2 : List Cond := [Cond.selects RX0 yX0_countClashesAt yX0_countClashesAt, Cond.code yX0_countClashesAt cX0_countClashesAt 5 (some .int), Cond.static yX1_isAccord, Cond.initialized RX1, Cond.code yX1_isAccord cX1_isAccord 2 (some .boolean), Cond.methodLink RX1 96 Lib.Math.abs.name, Cond.static Lib.Math.abs.name, Cond.initialized "java/lang/Math", Cond.code Lib.Math.abs.name Lib.Math.abs.code 1 (some .int)]
def wsX1_harmony : List Cond := .code yX1_harmony cX1_harmony 1 (some .int) :: ((wsX1_harmony_r1 ++ wsX1_harmony_r2) ++ wsX10 ++ wsX00)
def wsX1_clashes_r1 : List Cond := [Cond.fieldLink RX1 10 "TeapotChoir" "choir" "LTeapotChoir$Choir;", Cond.methodLink RX1 106 yX0_countClashes, Cond.instanceMethod yX0_countClashes, Cond.selects RX0 yX0_countClashes yX0_countClashes, Cond.initialized RX0, Cond.code yX0_countClashes cX0_countClashes 3 (some .int), Cond.fieldLink RX0 31 "TeapotChoir$Choir" "count" "I", Cond.fieldLink RX0 15 "TeapotChoir$Choir" "pitch" "[I", Cond.methodLink RX0 62 yX0_isSounding, Cond.instanceMethod yX0_isSounding, Cond.selects RX0 yX0_isSounding yX0_isSounding, Cond.code yX0_isSounding cX0_isSounding 2 (some .boolean), Cond.fieldLink RX0 18 "TeapotChoir$Choir" "tea" "[I", Cond.fieldLink RX0 24 "TeapotChoir$Choir" "cosy" "[Z", Cond.methodLink RX0 83 yX0_countClashesAt, Cond.instanceMethod yX0_countClashesAt, Cond.selects RX0 yX0_countClashesAt yX0_countClashesAt, Cond.code yX0_countClashesAt cX0_countClashesAt 5 (some .int), Cond.static yX1_isAccord, Cond.initialized RX1, Cond.code yX1_isAccord cX1_isAccord 2 (some .boolean), Cond.methodLink RX1 96 Lib.Math.abs.name, Cond.static Lib.Math.abs.name, Cond.initialized "java/lang/Math"]
def wsX1_clashes_r2 : List Cond := [Cond.code Lib.Math.abs.name Lib.Math.abs.code 1 (some .int)]
def wsX1_clashes : List Cond := .code yX1_clashes cX1_clashes 1 (some .int) :: ((wsX1_clashes_r1 ++ wsX1_clashes_r2) ++ wsX10 ++ wsX00)
def wsX1_clashesOf_r1 : List Cond := [Cond.fieldLink RX1 10 "TeapotChoir" "choir" "LTeapotChoir$Choir;", Cond.fieldLink RX1 42 "TeapotChoir$Choir" "pitch" "[I", Cond.methodLink RX1 38 yX1_requirePot, Cond.instanceMethod yX1_requirePot, Cond.selects RX1 yX1_requirePot yX1_requirePot, Cond.initialized RX1, Cond.code yX1_requirePot cX1_requirePot 2 none, Cond.classLink RX1 80 "java/lang/IndexOutOfBoundsException", Cond.initialized "java/lang/IndexOutOfBoundsException", Cond.fieldLink RX1 23 "TeapotChoir$Choir" "count" "I", Cond.methodLink RX1 76 yX0_isSounding, Cond.instanceMethod yX0_isSounding, Cond.selects RX0 yX0_isSounding yX0_isSounding, Cond.initialized RX0, Cond.code yX0_isSounding cX0_isSounding 2 (some .boolean), Cond.fieldLink RX0 18 "TeapotChoir$Choir" "tea" "[I", Cond.fieldLink RX0 24 "TeapotChoir$Choir" "cosy" "[Z", Cond.methodLink RX1 109 yX0_countClashesAt, Cond.instanceMethod yX0_countClashesAt, Cond.selects RX0 yX0_countClashesAt yX0_countClashesAt, Cond.code yX0_countClashesAt cX0_countClashesAt 5 (some .int), Cond.fieldLink RX0 31 "TeapotChoir$Choir" "count" "I", Cond.fieldLink RX0 15 "TeapotChoir$Choir" "pitch" "[I", Cond.methodLink RX0 62 yX0_isSounding]
def wsX1_clashesOf_r2 : List Cond := [Cond.static yX1_isAccord, Cond.code yX1_isAccord cX1_isAccord 2 (some .boolean), Cond.methodLink RX1 96 Lib.Math.abs.name, Cond.static Lib.Math.abs.name, Cond.initialized "java/lang/Math", Cond.code Lib.Math.abs.name Lib.Math.abs.code 1 (some .int)]
def wsX1_clashesOf : List Cond := .code yX1_clashesOf cX1_clashesOf 2 (some .int) :: ((wsX1_clashesOf_r1 ++ wsX1_clashesOf_r2) ++ wsX10 ++ wsX00 ++ (vx_atS RX1 84 "java/lang/IndexOutOfBoundsException" ["java/lang/RuntimeException", "java/lang/Exception"]).filter goodWord)
def wsX1_harshest_r1 : List Cond := [Cond.fieldLink RX1 10 "TeapotChoir" "choir" "LTeapotChoir$Choir;", Cond.methodLink RX1 106 yX0_countClashes, Cond.instanceMethod yX0_countClashes, Cond.selects RX0 yX0_countClashes yX0_countClashes, Cond.initialized RX0, Cond.code yX0_countClashes cX0_countClashes 3 (some .int), Cond.fieldLink RX0 31 "TeapotChoir$Choir" "count" "I", Cond.fieldLink RX0 15 "TeapotChoir$Choir" "pitch" "[I", Cond.methodLink RX0 62 yX0_isSounding, Cond.instanceMethod yX0_isSounding, Cond.selects RX0 yX0_isSounding yX0_isSounding, Cond.code yX0_isSounding cX0_isSounding 2 (some .boolean), Cond.fieldLink RX0 18 "TeapotChoir$Choir" "tea" "[I", Cond.fieldLink RX0 24 "TeapotChoir$Choir" "cosy" "[Z", Cond.methodLink RX0 83 yX0_countClashesAt, Cond.instanceMethod yX0_countClashesAt, Cond.selects RX0 yX0_countClashesAt yX0_countClashesAt, Cond.code yX0_countClashesAt cX0_countClashesAt 5 (some .int), Cond.static yX1_isAccord, Cond.initialized RX1, Cond.code yX1_isAccord cX1_isAccord 2 (some .boolean), Cond.methodLink RX1 96 Lib.Math.abs.name, Cond.static Lib.Math.abs.name, Cond.initialized "java/lang/Math"]
def wsX1_harshest_r2 : List Cond := [Cond.code Lib.Math.abs.name Lib.Math.abs.code 1 (some .int), Cond.methodLink RX1 112 yX0_findMostClashing, Cond.instanceMethod yX0_findMostClashing, Cond.selects RX0 yX0_findMostClashing yX0_findMostClashing, Cond.code yX0_findMostClashing cX0_findMostClashing 5 (some .int)]
def wsX1_harshest : List Cond := .code yX1_harshest cX1_harshest 1 (some .int) :: ((wsX1_harshest_r1 ++ wsX1_harshest_r2) ++ wsX10 ++ wsX00)
def wsX1_lowest : List Cond := .code yX1_lowest cX1_lowest 1 (some .int) :: ([.fieldLink RX1 10 "TeapotChoir" "choir" "LTeapotChoir$Choir;", .methodLink RX1 115 yX0_findLowest, .instanceMethod yX0_findLowest, .selects RX0 yX0_findLowest yX0_findLowest, .initialized RX0, .code yX0_findLowest cX0_findLowest 4 (some .int), .fieldLink RX0 31 "TeapotChoir$Choir" "count" "I", .fieldLink RX0 15 "TeapotChoir$Choir" "pitch" "[I", .methodLink RX0 62 yX0_isSounding, .instanceMethod yX0_isSounding, .selects RX0 yX0_isSounding yX0_isSounding, .code yX0_isSounding cX0_isSounding 2 (some .boolean), .fieldLink RX0 18 "TeapotChoir$Choir" "tea" "[I", .fieldLink RX0 24 "TeapotChoir$Choir" "cosy" "[Z"] ++ wsX10 ++ wsX00)
def wsX1_isClear_r1 : List Cond := [Cond.fieldLink RX1 10 "TeapotChoir" "choir" "LTeapotChoir$Choir;", Cond.methodLink RX1 118 yX0_isChordClear, Cond.instanceMethod yX0_isChordClear, Cond.selects RX0 yX0_isChordClear yX0_isChordClear, Cond.initialized RX0, Cond.code yX0_isChordClear cX0_isChordClear 1 (some .boolean), Cond.methodLink RX0 86 yX0_countSounding, Cond.instanceMethod yX0_countSounding, Cond.selects RX0 yX0_countSounding yX0_countSounding, Cond.code yX0_countSounding cX0_countSounding 3 (some .int), Cond.fieldLink RX0 31 "TeapotChoir$Choir" "count" "I", Cond.methodLink RX0 62 yX0_isSounding, Cond.instanceMethod yX0_isSounding, Cond.selects RX0 yX0_isSounding yX0_isSounding, Cond.code yX0_isSounding cX0_isSounding 2 (some .boolean), Cond.fieldLink RX0 18 "TeapotChoir$Choir" "tea" "[I", Cond.fieldLink RX0 24 "TeapotChoir$Choir" "cosy" "[Z", Cond.methodLink RX0 58 yX0_countClashes, Cond.instanceMethod yX0_countClashes, Cond.selects RX0 yX0_countClashes yX0_countClashes, Cond.code yX0_countClashes cX0_countClashes 3 (some .int), Cond.fieldLink RX0 15 "TeapotChoir$Choir" "pitch" "[I", Cond.methodLink RX0 83 yX0_countClashesAt, Cond.instanceMethod yX0_countClashesAt]
def wsX1_isClear_r2 : List Cond := [Cond.selects RX0 yX0_countClashesAt yX0_countClashesAt, Cond.code yX0_countClashesAt cX0_countClashesAt 5 (some .int), Cond.static yX1_isAccord, Cond.initialized RX1, Cond.code yX1_isAccord cX1_isAccord 2 (some .boolean), Cond.methodLink RX1 96 Lib.Math.abs.name, Cond.static Lib.Math.abs.name, Cond.initialized "java/lang/Math", Cond.code Lib.Math.abs.name Lib.Math.abs.code 1 (some .int)]
def wsX1_isClear : List Cond := .code yX1_isClear cX1_isClear 1 (some .boolean) :: ((wsX1_isClear_r1 ++ wsX1_isClear_r2) ++ wsX10 ++ wsX00)
def wsX1_cadences : List Cond := .code yX1_cadences cX1_cadences 1 (some .int) :: ([.fieldLink RX1 10 "TeapotChoir" "choir" "LTeapotChoir$Choir;", .fieldLink RX1 67 "TeapotChoir$Choir" "cadenceCount" "I"] ++ wsX10 ++ wsX00)
def wsX1_bestTuning_r1 : List Cond := [Cond.fieldLink RX1 10 "TeapotChoir" "choir" "LTeapotChoir$Choir;", Cond.methodLink RX1 38 yX1_requirePot, Cond.instanceMethod yX1_requirePot, Cond.selects RX1 yX1_requirePot yX1_requirePot, Cond.initialized RX1, Cond.code yX1_requirePot cX1_requirePot 2 none, Cond.classLink RX1 80 "java/lang/IndexOutOfBoundsException", Cond.initialized "java/lang/IndexOutOfBoundsException", Cond.fieldLink RX1 23 "TeapotChoir$Choir" "count" "I", Cond.methodLink RX1 76 yX0_isSounding, Cond.instanceMethod yX0_isSounding, Cond.selects RX0 yX0_isSounding yX0_isSounding, Cond.initialized RX0, Cond.code yX0_isSounding cX0_isSounding 2 (some .boolean), Cond.fieldLink RX0 18 "TeapotChoir$Choir" "tea" "[I", Cond.fieldLink RX0 24 "TeapotChoir$Choir" "cosy" "[Z", Cond.methodLink RX1 122 yX0_findBestTuning, Cond.instanceMethod yX0_findBestTuning, Cond.selects RX0 yX0_findBestTuning yX0_findBestTuning, Cond.code yX0_findBestTuning cX0_findBestTuning 8 (some .int), Cond.fieldLink RX0 15 "TeapotChoir$Choir" "pitch" "[I", Cond.methodLink RX0 89 Lib.Math.abs.name, Cond.static Lib.Math.abs.name, Cond.initialized "java/lang/Math"]
def wsX1_bestTuning_r2 : List Cond := [Cond.code Lib.Math.abs.name Lib.Math.abs.code 1 (some .int), Cond.methodLink RX0 83 yX0_countClashesAt, Cond.instanceMethod yX0_countClashesAt, Cond.selects RX0 yX0_countClashesAt yX0_countClashesAt, Cond.code yX0_countClashesAt cX0_countClashesAt 5 (some .int), Cond.fieldLink RX0 31 "TeapotChoir$Choir" "count" "I", Cond.methodLink RX0 62 yX0_isSounding, Cond.static yX1_isAccord, Cond.code yX1_isAccord cX1_isAccord 2 (some .boolean), Cond.methodLink RX1 96 Lib.Math.abs.name]
def wsX1_bestTuning : List Cond := .code yX1_bestTuning cX1_bestTuning 2 (some .int) :: ((wsX1_bestTuning_r1 ++ wsX1_bestTuning_r2) ++ wsX10 ++ wsX00 ++ (vx_atS RX1 84 "java/lang/IndexOutOfBoundsException" ["java/lang/RuntimeException", "java/lang/Exception"]).filter goodWord)
def wsX1_bestToMute_r1 : List Cond := [Cond.fieldLink RX1 10 "TeapotChoir" "choir" "LTeapotChoir$Choir;", Cond.methodLink RX1 112 yX0_findMostClashing, Cond.instanceMethod yX0_findMostClashing, Cond.selects RX0 yX0_findMostClashing yX0_findMostClashing, Cond.initialized RX0, Cond.code yX0_findMostClashing cX0_findMostClashing 5 (some .int), Cond.fieldLink RX0 31 "TeapotChoir$Choir" "count" "I", Cond.fieldLink RX0 15 "TeapotChoir$Choir" "pitch" "[I", Cond.methodLink RX0 62 yX0_isSounding, Cond.instanceMethod yX0_isSounding, Cond.selects RX0 yX0_isSounding yX0_isSounding, Cond.code yX0_isSounding cX0_isSounding 2 (some .boolean), Cond.fieldLink RX0 18 "TeapotChoir$Choir" "tea" "[I", Cond.fieldLink RX0 24 "TeapotChoir$Choir" "cosy" "[Z", Cond.methodLink RX0 83 yX0_countClashesAt, Cond.instanceMethod yX0_countClashesAt, Cond.selects RX0 yX0_countClashesAt yX0_countClashesAt, Cond.code yX0_countClashesAt cX0_countClashesAt 5 (some .int), Cond.static yX1_isAccord, Cond.initialized RX1, Cond.code yX1_isAccord cX1_isAccord 2 (some .boolean), Cond.methodLink RX1 96 Lib.Math.abs.name, Cond.static Lib.Math.abs.name, Cond.initialized "java/lang/Math"]
def wsX1_bestToMute_r2 : List Cond := [Cond.code Lib.Math.abs.name Lib.Math.abs.code 1 (some .int)]
def wsX1_bestToMute : List Cond := .code yX1_bestToMute cX1_bestToMute 1 (some .int) :: ((wsX1_bestToMute_r1 ++ wsX1_bestToMute_r2) ++ wsX10 ++ wsX00)
def wsX1_harmonyIn_r1 : List Cond := [Cond.fieldLink RX1 16 "TeapotChoir" "trial" "LTeapotChoir$Choir;", Cond.fieldLink RX1 10 "TeapotChoir" "choir" "LTeapotChoir$Choir;", Cond.methodLink RX1 19 yX1_requireWithin, Cond.static yX1_requireWithin, Cond.initialized RX1, Cond.code yX1_requireWithin cX1_requireWithin 3 none, Cond.classLink RX1 50 "java/lang/IllegalArgumentException", Cond.initialized "java/lang/IllegalArgumentException", Cond.methodLink RX1 125 yX0_becomeLike, Cond.instanceMethod yX0_becomeLike, Cond.selects RX0 yX0_becomeLike yX0_becomeLike, Cond.initialized RX0, Cond.code yX0_becomeLike cX0_becomeLike 2 none, Cond.fieldLink RX0 9 "TeapotChoir$Choir" "part" "[I", Cond.methodLink RX0 35 arraycopyName, Cond.native arraycopyName, Cond.static arraycopyName, Cond.initialized "java/lang/System", Cond.fieldLink RX0 15 "TeapotChoir$Choir" "pitch" "[I", Cond.fieldLink RX0 18 "TeapotChoir$Choir" "tea" "[I", Cond.fieldLink RX0 21 "TeapotChoir$Choir" "crack" "[I", Cond.fieldLink RX0 24 "TeapotChoir$Choir" "cosy" "[Z", Cond.fieldLink RX0 31 "TeapotChoir$Choir" "count" "I", Cond.fieldLink RX0 41 "TeapotChoir$Choir" "beat" "I"]
def wsX1_harmonyIn_r2 : List Cond := [Cond.fieldLink RX0 44 "TeapotChoir$Choir" "cadenceCount" "I", Cond.fieldLink RX0 47 "TeapotChoir$Choir" "clashAhead" "Z", Cond.methodLink RX1 70 yX0_passBeats, Cond.instanceMethod yX0_passBeats, Cond.selects RX0 yX0_passBeats yX0_passBeats, Cond.code yX0_passBeats cX0_passBeats 3 none, Cond.methodLink RX0 51 yX0_passBeat, Cond.instanceMethod yX0_passBeat, Cond.selects RX0 yX0_passBeat yX0_passBeat, Cond.code yX0_passBeat cX0_passBeat 2 none, Cond.methodLink RX0 70 Lib.Math.max.name, Cond.static Lib.Math.max.name, Cond.initialized "java/lang/Math", Cond.code Lib.Math.max.name Lib.Math.max.code 2 (some .int), Cond.methodLink RX0 54 yX0_isChordClear, Cond.instanceMethod yX0_isChordClear, Cond.selects RX0 yX0_isChordClear yX0_isChordClear, Cond.code yX0_isChordClear cX0_isChordClear 1 (some .boolean), Cond.methodLink RX0 86 yX0_countSounding, Cond.instanceMethod yX0_countSounding, Cond.selects RX0 yX0_countSounding yX0_countSounding, Cond.code yX0_countSounding cX0_countSounding 3 (some .int), Cond.methodLink RX0 62 yX0_isSounding, Cond.instanceMethod yX0_isSounding]
def wsX1_harmonyIn_r3 : List Cond := [Cond.selects RX0 yX0_isSounding yX0_isSounding, Cond.code yX0_isSounding cX0_isSounding 2 (some .boolean), Cond.methodLink RX0 58 yX0_countClashes, Cond.instanceMethod yX0_countClashes, Cond.selects RX0 yX0_countClashes yX0_countClashes, Cond.code yX0_countClashes cX0_countClashes 3 (some .int), Cond.methodLink RX0 83 yX0_countClashesAt, Cond.instanceMethod yX0_countClashesAt, Cond.selects RX0 yX0_countClashesAt yX0_countClashesAt, Cond.code yX0_countClashesAt cX0_countClashesAt 5 (some .int), Cond.static yX1_isAccord, Cond.code yX1_isAccord cX1_isAccord 2 (some .boolean), Cond.methodLink RX1 96 Lib.Math.abs.name, Cond.static Lib.Math.abs.name, Cond.code Lib.Math.abs.name Lib.Math.abs.code 1 (some .int), Cond.methodLink RX0 66 yX0_wear, Cond.instanceMethod yX0_wear, Cond.selects RX0 yX0_wear yX0_wear, Cond.code yX0_wear cX0_wear 2 none, Cond.methodLink RX0 76 Lib.Math.min.name, Cond.static Lib.Math.min.name, Cond.code Lib.Math.min.name Lib.Math.min.code 2 (some .int), Cond.methodLink RX1 103 yX0_harmonyNow, Cond.instanceMethod yX0_harmonyNow]
def wsX1_harmonyIn_r4 : List Cond := [Cond.selects RX0 yX0_harmonyNow yX0_harmonyNow, Cond.code yX0_harmonyNow cX0_harmonyNow 3 (some .int)]
def wsX1_harmonyIn : List Cond := .code yX1_harmonyIn cX1_harmonyIn 2 (some .int) :: ((wsX1_harmonyIn_r1 ++ (wsX1_harmonyIn_r2 ++ (wsX1_harmonyIn_r3 ++ wsX1_harmonyIn_r4))) ++ wsX10 ++ wsX00 ++ (vx_atS RX1 54 "java/lang/IllegalArgumentException" ["java/lang/RuntimeException", "java/lang/Exception"]).filter goodWord)
def wsX1_beatsUntilSilence_r1 : List Cond := [Cond.fieldLink RX1 16 "TeapotChoir" "trial" "LTeapotChoir$Choir;", Cond.fieldLink RX1 10 "TeapotChoir" "choir" "LTeapotChoir$Choir;", Cond.methodLink RX1 125 yX0_becomeLike, Cond.instanceMethod yX0_becomeLike, Cond.selects RX0 yX0_becomeLike yX0_becomeLike, Cond.initialized RX0, Cond.code yX0_becomeLike cX0_becomeLike 2 none, Cond.fieldLink RX0 9 "TeapotChoir$Choir" "part" "[I", Cond.methodLink RX0 35 arraycopyName, Cond.native arraycopyName, Cond.static arraycopyName, Cond.initialized "java/lang/System", Cond.fieldLink RX0 15 "TeapotChoir$Choir" "pitch" "[I", Cond.fieldLink RX0 18 "TeapotChoir$Choir" "tea" "[I", Cond.fieldLink RX0 21 "TeapotChoir$Choir" "crack" "[I", Cond.fieldLink RX0 24 "TeapotChoir$Choir" "cosy" "[Z", Cond.fieldLink RX0 31 "TeapotChoir$Choir" "count" "I", Cond.fieldLink RX0 41 "TeapotChoir$Choir" "beat" "I", Cond.fieldLink RX0 44 "TeapotChoir$Choir" "cadenceCount" "I", Cond.fieldLink RX0 47 "TeapotChoir$Choir" "clashAhead" "Z", Cond.methodLink RX1 92 yX0_countSounding, Cond.instanceMethod yX0_countSounding, Cond.selects RX0 yX0_countSounding yX0_countSounding, Cond.code yX0_countSounding cX0_countSounding 3 (some .int)]
def wsX1_beatsUntilSilence_r2 : List Cond := [Cond.methodLink RX0 62 yX0_isSounding, Cond.instanceMethod yX0_isSounding, Cond.selects RX0 yX0_isSounding yX0_isSounding, Cond.code yX0_isSounding cX0_isSounding 2 (some .boolean), Cond.methodLink RX1 129 yX0_passBeat, Cond.instanceMethod yX0_passBeat, Cond.selects RX0 yX0_passBeat yX0_passBeat, Cond.code yX0_passBeat cX0_passBeat 2 none, Cond.methodLink RX0 70 Lib.Math.max.name, Cond.static Lib.Math.max.name, Cond.initialized "java/lang/Math", Cond.code Lib.Math.max.name Lib.Math.max.code 2 (some .int), Cond.methodLink RX0 54 yX0_isChordClear, Cond.instanceMethod yX0_isChordClear, Cond.selects RX0 yX0_isChordClear yX0_isChordClear, Cond.code yX0_isChordClear cX0_isChordClear 1 (some .boolean), Cond.methodLink RX0 86 yX0_countSounding, Cond.methodLink RX0 58 yX0_countClashes, Cond.instanceMethod yX0_countClashes, Cond.selects RX0 yX0_countClashes yX0_countClashes, Cond.code yX0_countClashes cX0_countClashes 3 (some .int), Cond.methodLink RX0 83 yX0_countClashesAt, Cond.instanceMethod yX0_countClashesAt, Cond.selects RX0 yX0_countClashesAt yX0_countClashesAt]
def wsX1_beatsUntilSilence_r3 : List Cond := [Cond.code yX0_countClashesAt cX0_countClashesAt 5 (some .int), Cond.static yX1_isAccord, Cond.initialized RX1, Cond.code yX1_isAccord cX1_isAccord 2 (some .boolean), Cond.methodLink RX1 96 Lib.Math.abs.name, Cond.static Lib.Math.abs.name, Cond.code Lib.Math.abs.name Lib.Math.abs.code 1 (some .int), Cond.methodLink RX0 66 yX0_wear, Cond.instanceMethod yX0_wear, Cond.selects RX0 yX0_wear yX0_wear, Cond.code yX0_wear cX0_wear 2 none, Cond.methodLink RX0 76 Lib.Math.min.name, Cond.static Lib.Math.min.name, Cond.code Lib.Math.min.name Lib.Math.min.code 2 (some .int)]
def wsX1_beatsUntilSilence : List Cond := .code yX1_beatsUntilSilence cX1_beatsUntilSilence 2 (some .int) :: ((wsX1_beatsUntilSilence_r1 ++ (wsX1_beatsUntilSilence_r2 ++ wsX1_beatsUntilSilence_r3)) ++ wsX10 ++ wsX00)
def wsX1_beatsUntilCadence_r1 : List Cond := [Cond.fieldLink RX1 16 "TeapotChoir" "trial" "LTeapotChoir$Choir;", Cond.fieldLink RX1 10 "TeapotChoir" "choir" "LTeapotChoir$Choir;", Cond.fieldLink RX1 67 "TeapotChoir$Choir" "cadenceCount" "I", Cond.methodLink RX1 125 yX0_becomeLike, Cond.instanceMethod yX0_becomeLike, Cond.selects RX0 yX0_becomeLike yX0_becomeLike, Cond.initialized RX0, Cond.code yX0_becomeLike cX0_becomeLike 2 none, Cond.fieldLink RX0 9 "TeapotChoir$Choir" "part" "[I", Cond.methodLink RX0 35 arraycopyName, Cond.native arraycopyName, Cond.static arraycopyName, Cond.initialized "java/lang/System", Cond.fieldLink RX0 15 "TeapotChoir$Choir" "pitch" "[I", Cond.fieldLink RX0 18 "TeapotChoir$Choir" "tea" "[I", Cond.fieldLink RX0 21 "TeapotChoir$Choir" "crack" "[I", Cond.fieldLink RX0 24 "TeapotChoir$Choir" "cosy" "[Z", Cond.fieldLink RX0 31 "TeapotChoir$Choir" "count" "I", Cond.fieldLink RX0 41 "TeapotChoir$Choir" "beat" "I", Cond.fieldLink RX0 44 "TeapotChoir$Choir" "cadenceCount" "I", Cond.fieldLink RX0 47 "TeapotChoir$Choir" "clashAhead" "Z", Cond.methodLink RX1 129 yX0_passBeat, Cond.instanceMethod yX0_passBeat, Cond.selects RX0 yX0_passBeat yX0_passBeat]
def wsX1_beatsUntilCadence_r2 : List Cond := [Cond.code yX0_passBeat cX0_passBeat 2 none, Cond.methodLink RX0 70 Lib.Math.max.name, Cond.static Lib.Math.max.name, Cond.initialized "java/lang/Math", Cond.code Lib.Math.max.name Lib.Math.max.code 2 (some .int), Cond.methodLink RX0 54 yX0_isChordClear, Cond.instanceMethod yX0_isChordClear, Cond.selects RX0 yX0_isChordClear yX0_isChordClear, Cond.code yX0_isChordClear cX0_isChordClear 1 (some .boolean), Cond.methodLink RX0 86 yX0_countSounding, Cond.instanceMethod yX0_countSounding, Cond.selects RX0 yX0_countSounding yX0_countSounding, Cond.code yX0_countSounding cX0_countSounding 3 (some .int), Cond.methodLink RX0 62 yX0_isSounding, Cond.instanceMethod yX0_isSounding, Cond.selects RX0 yX0_isSounding yX0_isSounding, Cond.code yX0_isSounding cX0_isSounding 2 (some .boolean), Cond.methodLink RX0 58 yX0_countClashes, Cond.instanceMethod yX0_countClashes, Cond.selects RX0 yX0_countClashes yX0_countClashes, Cond.code yX0_countClashes cX0_countClashes 3 (some .int), Cond.methodLink RX0 83 yX0_countClashesAt, Cond.instanceMethod yX0_countClashesAt, Cond.selects RX0 yX0_countClashesAt yX0_countClashesAt]
def wsX1_beatsUntilCadence_r3 : List Cond := [Cond.code yX0_countClashesAt cX0_countClashesAt 5 (some .int), Cond.static yX1_isAccord, Cond.initialized RX1, Cond.code yX1_isAccord cX1_isAccord 2 (some .boolean), Cond.methodLink RX1 96 Lib.Math.abs.name, Cond.static Lib.Math.abs.name, Cond.code Lib.Math.abs.name Lib.Math.abs.code 1 (some .int), Cond.methodLink RX0 66 yX0_wear, Cond.instanceMethod yX0_wear, Cond.selects RX0 yX0_wear yX0_wear, Cond.code yX0_wear cX0_wear 2 none, Cond.methodLink RX0 76 Lib.Math.min.name, Cond.static Lib.Math.min.name, Cond.code Lib.Math.min.name Lib.Math.min.code 2 (some .int)]
def wsX1_beatsUntilCadence : List Cond := .code yX1_beatsUntilCadence cX1_beatsUntilCadence 2 (some .int) :: ((wsX1_beatsUntilCadence_r1 ++ (wsX1_beatsUntilCadence_r2 ++ wsX1_beatsUntilCadence_r3)) ++ wsX10 ++ wsX00)
def wsX1_greatestAccord_r1 : List Cond := [Cond.fieldLink RX1 10 "TeapotChoir" "choir" "LTeapotChoir$Choir;", Cond.methodLink RX1 132 yX0_sizeOfGreatestAccord, Cond.instanceMethod yX0_sizeOfGreatestAccord, Cond.selects RX0 yX0_sizeOfGreatestAccord yX0_sizeOfGreatestAccord, Cond.initialized RX0, Cond.code yX0_sizeOfGreatestAccord cX0_sizeOfGreatestAccord 4 (some .int), Cond.fieldLink RX0 31 "TeapotChoir$Choir" "count" "I", Cond.fieldLink RX0 28 "TeapotChoir$Choir" "barred" "[I", Cond.methodLink RX0 93 yX0_findBarred, Cond.instanceMethod yX0_findBarred, Cond.selects RX0 yX0_findBarred yX0_findBarred, Cond.code yX0_findBarred cX0_findBarred 4 (some .int), Cond.fieldLink RX0 15 "TeapotChoir$Choir" "pitch" "[I", Cond.methodLink RX0 62 yX0_isSounding, Cond.instanceMethod yX0_isSounding, Cond.selects RX0 yX0_isSounding yX0_isSounding, Cond.code yX0_isSounding cX0_isSounding 2 (some .boolean), Cond.fieldLink RX0 18 "TeapotChoir$Choir" "tea" "[I", Cond.fieldLink RX0 24 "TeapotChoir$Choir" "cosy" "[Z", Cond.static yX1_isAccord, Cond.initialized RX1, Cond.code yX1_isAccord cX1_isAccord 2 (some .boolean), Cond.methodLink RX1 96 Lib.Math.abs.name, Cond.static Lib.Math.abs.name]
def wsX1_greatestAccord_r2 : List Cond := [Cond.initialized "java/lang/Math", Cond.code Lib.Math.abs.name Lib.Math.abs.code 1 (some .int), Cond.methodLink RX0 96 yJ6_bitCount_0f7a4, Cond.static yJ6_bitCount_0f7a4, Cond.initialized RJ6, Cond.code yJ6_bitCount_0f7a4 cJ6_bitCount_0f7a4 1 (some .int), Cond.constant RJ6 265 (1431655765), Cond.constant RJ6 266 (858993459), Cond.constant RJ6 267 (252645135), Cond.methodLink RX0 101 yX0_isGroupInAccord, Cond.instanceMethod yX0_isGroupInAccord, Cond.selects RX0 yX0_isGroupInAccord yX0_isGroupInAccord, Cond.code yX0_isGroupInAccord cX0_isGroupInAccord 3 (some .boolean)]
def wsX1_greatestAccord : List Cond := .code yX1_greatestAccord cX1_greatestAccord 1 (some .int) :: ((wsX1_greatestAccord_r1 ++ wsX1_greatestAccord_r2) ++ wsX10 ++ wsX00)
def wsX1_meanPitch : List Cond := .code yX1_meanPitch cX1_meanPitch 1 (some .double) :: ([.fieldLink RX1 10 "TeapotChoir" "choir" "LTeapotChoir$Choir;", .methodLink RX1 135 yX0_meanOfPitches, .instanceMethod yX0_meanOfPitches, .selects RX0 yX0_meanOfPitches yX0_meanOfPitches, .initialized RX0, .code yX0_meanOfPitches cX0_meanOfPitches 4 (some .double), .fieldLink RX0 31 "TeapotChoir$Choir" "count" "I", .fieldLink RX0 15 "TeapotChoir$Choir" "pitch" "[I", .methodLink RX0 86 yX0_countSounding, .instanceMethod yX0_countSounding, .selects RX0 yX0_countSounding yX0_countSounding, .code yX0_countSounding cX0_countSounding 3 (some .int), .methodLink RX0 62 yX0_isSounding, .instanceMethod yX0_isSounding, .selects RX0 yX0_isSounding yX0_isSounding, .code yX0_isSounding cX0_isSounding 2 (some .boolean), .fieldLink RX0 18 "TeapotChoir$Choir" "tea" "[I", .fieldLink RX0 24 "TeapotChoir$Choir" "cosy" "[Z"] ++ wsX10 ++ wsX00)
def wsX1_digestPot_r1 : List Cond := [Cond.constantLong RX1 141 (31), Cond.methodLink RX1 186 yX1_partOf, Cond.instanceMethod yX1_partOf, Cond.selects RX1 yX1_partOf yX1_partOf, Cond.initialized RX1, Cond.code yX1_partOf cX1_partOf 2 (some .int), Cond.fieldLink RX1 10 "TeapotChoir" "choir" "LTeapotChoir$Choir;", Cond.fieldLink RX1 73 "TeapotChoir$Choir" "part" "[I", Cond.methodLink RX1 38 yX1_requirePot, Cond.instanceMethod yX1_requirePot, Cond.selects RX1 yX1_requirePot yX1_requirePot, Cond.code yX1_requirePot cX1_requirePot 2 none, Cond.classLink RX1 80 "java/lang/IndexOutOfBoundsException", Cond.initialized "java/lang/IndexOutOfBoundsException", Cond.fieldLink RX1 23 "TeapotChoir$Choir" "count" "I", Cond.methodLink RX1 189 yX1_pitchOf, Cond.instanceMethod yX1_pitchOf, Cond.selects RX1 yX1_pitchOf yX1_pitchOf, Cond.code yX1_pitchOf cX1_pitchOf 2 (some .int), Cond.fieldLink RX1 42 "TeapotChoir$Choir" "pitch" "[I", Cond.methodLink RX1 192 yX1_teaOf, Cond.instanceMethod yX1_teaOf, Cond.selects RX1 yX1_teaOf yX1_teaOf, Cond.code yX1_teaOf cX1_teaOf 2 (some .int)]
def wsX1_digestPot_r2 : List Cond := [Cond.fieldLink RX1 55 "TeapotChoir$Choir" "tea" "[I", Cond.methodLink RX1 195 yX1_crackOf, Cond.instanceMethod yX1_crackOf, Cond.selects RX1 yX1_crackOf yX1_crackOf, Cond.code yX1_crackOf cX1_crackOf 2 (some .int), Cond.fieldLink RX1 64 "TeapotChoir$Choir" "crack" "[I", Cond.methodLink RX1 198 yX1_sounds, Cond.instanceMethod yX1_sounds, Cond.selects RX1 yX1_sounds yX1_sounds, Cond.code yX1_sounds cX1_sounds 2 (some .boolean), Cond.methodLink RX1 76 yX0_isSounding, Cond.instanceMethod yX0_isSounding, Cond.selects RX0 yX0_isSounding yX0_isSounding, Cond.initialized RX0, Cond.code yX0_isSounding cX0_isSounding 2 (some .boolean), Cond.fieldLink RX0 18 "TeapotChoir$Choir" "tea" "[I", Cond.fieldLink RX0 24 "TeapotChoir$Choir" "cosy" "[Z", Cond.methodLink RX1 201 yX1_clashesOf, Cond.instanceMethod yX1_clashesOf, Cond.selects RX1 yX1_clashesOf yX1_clashesOf, Cond.code yX1_clashesOf cX1_clashesOf 2 (some .int), Cond.methodLink RX1 109 yX0_countClashesAt, Cond.instanceMethod yX0_countClashesAt, Cond.selects RX0 yX0_countClashesAt yX0_countClashesAt]
def wsX1_digestPot_r3 : List Cond := [Cond.code yX0_countClashesAt cX0_countClashesAt 5 (some .int), Cond.fieldLink RX0 31 "TeapotChoir$Choir" "count" "I", Cond.fieldLink RX0 15 "TeapotChoir$Choir" "pitch" "[I", Cond.methodLink RX0 62 yX0_isSounding, Cond.static yX1_isAccord, Cond.code yX1_isAccord cX1_isAccord 2 (some .boolean), Cond.methodLink RX1 96 Lib.Math.abs.name, Cond.static Lib.Math.abs.name, Cond.initialized "java/lang/Math", Cond.code Lib.Math.abs.name Lib.Math.abs.code 1 (some .int), Cond.methodLink RX1 204 yX1_bestTuning, Cond.instanceMethod yX1_bestTuning, Cond.selects RX1 yX1_bestTuning yX1_bestTuning, Cond.code yX1_bestTuning cX1_bestTuning 2 (some .int), Cond.methodLink RX1 122 yX0_findBestTuning, Cond.instanceMethod yX0_findBestTuning, Cond.selects RX0 yX0_findBestTuning yX0_findBestTuning, Cond.code yX0_findBestTuning cX0_findBestTuning 8 (some .int), Cond.methodLink RX0 89 Lib.Math.abs.name, Cond.methodLink RX0 83 yX0_countClashesAt]
def wsX1_digestPot : List Cond := .code yX1_digestPot cX1_digestPot 6 (some .long) :: ((wsX1_digestPot_r1 ++ (wsX1_digestPot_r2 ++ wsX1_digestPot_r3)) ++ wsX10 ++ wsX00 ++ (vx_atS RX1 84 "java/lang/IndexOutOfBoundsException" ["java/lang/RuntimeException", "java/lang/Exception"]).filter goodWord)
def wsX1_digest_r1 : List Cond := [Cond.constantLong RX1 139 (2087), Cond.constantLong RX1 141 (31), Cond.fieldLink RX1 10 "TeapotChoir" "choir" "LTeapotChoir$Choir;", Cond.fieldLink RX1 23 "TeapotChoir$Choir" "count" "I", Cond.methodLink RX1 143 yX1_pots, Cond.instanceMethod yX1_pots, Cond.selects RX1 yX1_pots yX1_pots, Cond.initialized RX1, Cond.code yX1_pots cX1_pots 1 (some .int), Cond.methodLink RX1 146 yX1_beats, Cond.instanceMethod yX1_beats, Cond.selects RX1 yX1_beats yX1_beats, Cond.code yX1_beats cX1_beats 1 (some .int), Cond.fieldLink RX1 89 "TeapotChoir$Choir" "beat" "I", Cond.methodLink RX1 149 yX1_sounding, Cond.instanceMethod yX1_sounding, Cond.selects RX1 yX1_sounding yX1_sounding, Cond.code yX1_sounding cX1_sounding 1 (some .int), Cond.methodLink RX1 92 yX0_countSounding, Cond.instanceMethod yX0_countSounding, Cond.selects RX0 yX0_countSounding yX0_countSounding, Cond.initialized RX0, Cond.code yX0_countSounding cX0_countSounding 3 (some .int), Cond.fieldLink RX0 31 "TeapotChoir$Choir" "count" "I"]
def wsX1_digest_r2 : List Cond := [Cond.methodLink RX0 62 yX0_isSounding, Cond.instanceMethod yX0_isSounding, Cond.selects RX0 yX0_isSounding yX0_isSounding, Cond.code yX0_isSounding cX0_isSounding 2 (some .boolean), Cond.fieldLink RX0 18 "TeapotChoir$Choir" "tea" "[I", Cond.fieldLink RX0 24 "TeapotChoir$Choir" "cosy" "[Z", Cond.methodLink RX1 152 yX1_harmony, Cond.instanceMethod yX1_harmony, Cond.selects RX1 yX1_harmony yX1_harmony, Cond.code yX1_harmony cX1_harmony 1 (some .int), Cond.methodLink RX1 103 yX0_harmonyNow, Cond.instanceMethod yX0_harmonyNow, Cond.selects RX0 yX0_harmonyNow yX0_harmonyNow, Cond.code yX0_harmonyNow cX0_harmonyNow 3 (some .int), Cond.methodLink RX0 86 yX0_countSounding, Cond.methodLink RX0 58 yX0_countClashes, Cond.instanceMethod yX0_countClashes, Cond.selects RX0 yX0_countClashes yX0_countClashes, Cond.code yX0_countClashes cX0_countClashes 3 (some .int), Cond.fieldLink RX0 15 "TeapotChoir$Choir" "pitch" "[I", Cond.methodLink RX0 83 yX0_countClashesAt, Cond.instanceMethod yX0_countClashesAt, Cond.selects RX0 yX0_countClashesAt yX0_countClashesAt, Cond.code yX0_countClashesAt cX0_countClashesAt 5 (some .int)]
def wsX1_digest_r3 : List Cond := [Cond.static yX1_isAccord, Cond.code yX1_isAccord cX1_isAccord 2 (some .boolean), Cond.methodLink RX1 96 Lib.Math.abs.name, Cond.static Lib.Math.abs.name, Cond.initialized "java/lang/Math", Cond.code Lib.Math.abs.name Lib.Math.abs.code 1 (some .int), Cond.methodLink RX1 155 yX1_clashes, Cond.instanceMethod yX1_clashes, Cond.selects RX1 yX1_clashes yX1_clashes, Cond.code yX1_clashes cX1_clashes 1 (some .int), Cond.methodLink RX1 106 yX0_countClashes, Cond.methodLink RX1 158 yX1_harshest, Cond.instanceMethod yX1_harshest, Cond.selects RX1 yX1_harshest yX1_harshest, Cond.code yX1_harshest cX1_harshest 1 (some .int), Cond.methodLink RX1 112 yX0_findMostClashing, Cond.instanceMethod yX0_findMostClashing, Cond.selects RX0 yX0_findMostClashing yX0_findMostClashing, Cond.code yX0_findMostClashing cX0_findMostClashing 5 (some .int), Cond.methodLink RX1 161 yX1_lowest, Cond.instanceMethod yX1_lowest, Cond.selects RX1 yX1_lowest yX1_lowest, Cond.code yX1_lowest cX1_lowest 1 (some .int), Cond.methodLink RX1 115 yX0_findLowest]
def wsX1_digest_r4 : List Cond := [Cond.instanceMethod yX0_findLowest, Cond.selects RX0 yX0_findLowest yX0_findLowest, Cond.code yX0_findLowest cX0_findLowest 4 (some .int), Cond.methodLink RX1 164 yX1_isClear, Cond.instanceMethod yX1_isClear, Cond.selects RX1 yX1_isClear yX1_isClear, Cond.code yX1_isClear cX1_isClear 1 (some .boolean), Cond.methodLink RX1 118 yX0_isChordClear, Cond.instanceMethod yX0_isChordClear, Cond.selects RX0 yX0_isChordClear yX0_isChordClear, Cond.code yX0_isChordClear cX0_isChordClear 1 (some .boolean), Cond.methodLink RX1 167 yX1_cadences, Cond.instanceMethod yX1_cadences, Cond.selects RX1 yX1_cadences yX1_cadences, Cond.code yX1_cadences cX1_cadences 1 (some .int), Cond.fieldLink RX1 67 "TeapotChoir$Choir" "cadenceCount" "I", Cond.methodLink RX1 170 yX1_bestToMute, Cond.instanceMethod yX1_bestToMute, Cond.selects RX1 yX1_bestToMute yX1_bestToMute, Cond.code yX1_bestToMute cX1_bestToMute 1 (some .int), Cond.methodLink RX1 173 yX1_beatsUntilSilence, Cond.instanceMethod yX1_beatsUntilSilence, Cond.selects RX1 yX1_beatsUntilSilence yX1_beatsUntilSilence, Cond.code yX1_beatsUntilSilence cX1_beatsUntilSilence 2 (some .int)]
def wsX1_digest_r5 : List Cond := [Cond.fieldLink RX1 16 "TeapotChoir" "trial" "LTeapotChoir$Choir;", Cond.methodLink RX1 125 yX0_becomeLike, Cond.instanceMethod yX0_becomeLike, Cond.selects RX0 yX0_becomeLike yX0_becomeLike, Cond.code yX0_becomeLike cX0_becomeLike 2 none, Cond.fieldLink RX0 9 "TeapotChoir$Choir" "part" "[I", Cond.methodLink RX0 35 arraycopyName, Cond.native arraycopyName, Cond.static arraycopyName, Cond.initialized "java/lang/System", Cond.fieldLink RX0 21 "TeapotChoir$Choir" "crack" "[I", Cond.fieldLink RX0 41 "TeapotChoir$Choir" "beat" "I", Cond.fieldLink RX0 44 "TeapotChoir$Choir" "cadenceCount" "I", Cond.fieldLink RX0 47 "TeapotChoir$Choir" "clashAhead" "Z", Cond.methodLink RX1 129 yX0_passBeat, Cond.instanceMethod yX0_passBeat, Cond.selects RX0 yX0_passBeat yX0_passBeat, Cond.code yX0_passBeat cX0_passBeat 2 none, Cond.methodLink RX0 70 Lib.Math.max.name, Cond.static Lib.Math.max.name, Cond.code Lib.Math.max.name Lib.Math.max.code 2 (some .int), Cond.methodLink RX0 54 yX0_isChordClear, Cond.methodLink RX0 66 yX0_wear, Cond.instanceMethod yX0_wear]
def wsX1_digest_r6 : List Cond := [Cond.selects RX0 yX0_wear yX0_wear, Cond.code yX0_wear cX0_wear 2 none, Cond.methodLink RX0 76 Lib.Math.min.name, Cond.static Lib.Math.min.name, Cond.code Lib.Math.min.name Lib.Math.min.code 2 (some .int), Cond.methodLink RX1 176 yX1_beatsUntilCadence, Cond.instanceMethod yX1_beatsUntilCadence, Cond.selects RX1 yX1_beatsUntilCadence yX1_beatsUntilCadence, Cond.code yX1_beatsUntilCadence cX1_beatsUntilCadence 2 (some .int), Cond.methodLink RX1 179 yX1_greatestAccord, Cond.instanceMethod yX1_greatestAccord, Cond.selects RX1 yX1_greatestAccord yX1_greatestAccord, Cond.code yX1_greatestAccord cX1_greatestAccord 1 (some .int), Cond.methodLink RX1 132 yX0_sizeOfGreatestAccord, Cond.instanceMethod yX0_sizeOfGreatestAccord, Cond.selects RX0 yX0_sizeOfGreatestAccord yX0_sizeOfGreatestAccord, Cond.code yX0_sizeOfGreatestAccord cX0_sizeOfGreatestAccord 4 (some .int), Cond.fieldLink RX0 28 "TeapotChoir$Choir" "barred" "[I", Cond.methodLink RX0 93 yX0_findBarred, Cond.instanceMethod yX0_findBarred, Cond.selects RX0 yX0_findBarred yX0_findBarred, Cond.code yX0_findBarred cX0_findBarred 4 (some .int), Cond.methodLink RX0 96 yJ6_bitCount_0f7a4, Cond.static yJ6_bitCount_0f7a4]
def wsX1_digest_r7 : List Cond := [Cond.initialized RJ6, Cond.code yJ6_bitCount_0f7a4 cJ6_bitCount_0f7a4 1 (some .int), Cond.constant RJ6 265 (1431655765), Cond.constant RJ6 266 (858993459), Cond.constant RJ6 267 (252645135), Cond.methodLink RX0 101 yX0_isGroupInAccord, Cond.instanceMethod yX0_isGroupInAccord, Cond.selects RX0 yX0_isGroupInAccord yX0_isGroupInAccord, Cond.code yX0_isGroupInAccord cX0_isGroupInAccord 3 (some .boolean), Cond.methodLink RX1 182 yX1_digestPot, Cond.instanceMethod yX1_digestPot, Cond.selects RX1 yX1_digestPot yX1_digestPot, Cond.code yX1_digestPot cX1_digestPot 6 (some .long), Cond.methodLink RX1 186 yX1_partOf, Cond.instanceMethod yX1_partOf, Cond.selects RX1 yX1_partOf yX1_partOf, Cond.code yX1_partOf cX1_partOf 2 (some .int), Cond.fieldLink RX1 73 "TeapotChoir$Choir" "part" "[I", Cond.methodLink RX1 38 yX1_requirePot, Cond.instanceMethod yX1_requirePot, Cond.selects RX1 yX1_requirePot yX1_requirePot, Cond.code yX1_requirePot cX1_requirePot 2 none, Cond.classLink RX1 80 "java/lang/IndexOutOfBoundsException", Cond.initialized "java/lang/IndexOutOfBoundsException"]
def wsX1_digest_r8 : List Cond := [Cond.methodLink RX1 189 yX1_pitchOf, Cond.instanceMethod yX1_pitchOf, Cond.selects RX1 yX1_pitchOf yX1_pitchOf, Cond.code yX1_pitchOf cX1_pitchOf 2 (some .int), Cond.fieldLink RX1 42 "TeapotChoir$Choir" "pitch" "[I", Cond.methodLink RX1 192 yX1_teaOf, Cond.instanceMethod yX1_teaOf, Cond.selects RX1 yX1_teaOf yX1_teaOf, Cond.code yX1_teaOf cX1_teaOf 2 (some .int), Cond.fieldLink RX1 55 "TeapotChoir$Choir" "tea" "[I", Cond.methodLink RX1 195 yX1_crackOf, Cond.instanceMethod yX1_crackOf, Cond.selects RX1 yX1_crackOf yX1_crackOf, Cond.code yX1_crackOf cX1_crackOf 2 (some .int), Cond.fieldLink RX1 64 "TeapotChoir$Choir" "crack" "[I", Cond.methodLink RX1 198 yX1_sounds, Cond.instanceMethod yX1_sounds, Cond.selects RX1 yX1_sounds yX1_sounds, Cond.code yX1_sounds cX1_sounds 2 (some .boolean), Cond.methodLink RX1 76 yX0_isSounding, Cond.methodLink RX1 201 yX1_clashesOf, Cond.instanceMethod yX1_clashesOf, Cond.selects RX1 yX1_clashesOf yX1_clashesOf, Cond.code yX1_clashesOf cX1_clashesOf 2 (some .int)]
def wsX1_digest_r9 : List Cond := [Cond.methodLink RX1 109 yX0_countClashesAt, Cond.methodLink RX1 204 yX1_bestTuning, Cond.instanceMethod yX1_bestTuning, Cond.selects RX1 yX1_bestTuning yX1_bestTuning, Cond.code yX1_bestTuning cX1_bestTuning 2 (some .int), Cond.methodLink RX1 122 yX0_findBestTuning, Cond.instanceMethod yX0_findBestTuning, Cond.selects RX0 yX0_findBestTuning yX0_findBestTuning, Cond.code yX0_findBestTuning cX0_findBestTuning 8 (some .int), Cond.methodLink RX0 89 Lib.Math.abs.name]
def wsX1_digest : List Cond := .code yX1_digest cX1_digest 4 (some .long) :: ((wsX1_digest_r1 ++ (wsX1_digest_r2 ++ (wsX1_digest_r3 ++ (wsX1_digest_r4 ++ (wsX1_digest_r5 ++ (wsX1_digest_r6 ++ (wsX1_digest_r7 ++ (wsX1_digest_r8 ++ wsX1_digest_r9)))))))) ++ wsX10 ++ wsX00 ++ (vx_atS RX1 84 "java/lang/IndexOutOfBoundsException" ["java/lang/RuntimeException", "java/lang/Exception"]).filter goodWord)
def wsX2_init : List Cond := .code yX2_init cX2_init 1 none :: ([.methodLink RX2 3 objectInit, .instanceMethod objectInit, .code objectInit ⟨#[0xb1]⟩ 1 none, .arrayClass .int, .fieldLink RX2 9 "TeapotChoirModel" "part" "[I", .fieldLink RX2 13 "TeapotChoirModel" "now" "[I", .fieldLink RX2 16 "TeapotChoirModel" "kept" "[I"] ++ wsX20)
def wsX2_thrown : List Cond := .code yX2_thrown cX2_thrown 1 (some .int) :: ([.fieldLink RX2 19 "TeapotChoirModel" "thrown" "I"] ++ wsX20)
def wsX2_no : List Cond := .code yX2_no cX2_no 2 (some .int) :: ([.fieldLink RX2 19 "TeapotChoirModel" "thrown" "I"] ++ wsX20)
def wsX2_isNot : List Cond := .code yX2_isNot cX2_isNot 2 (some .boolean) :: ([.fieldLink RX2 19 "TeapotChoirModel" "thrown" "I"] ++ wsX20)
def wsX2_ok : List Cond := .code yX2_ok cX2_ok 2 (some .int) :: ([.fieldLink RX2 19 "TeapotChoirModel" "thrown" "I"] ++ wsX20)
def wsX2_isIn : List Cond := .code yX2_isIn cX2_isIn 3 (some .boolean) :: ([])
def wsX2_isPot : List Cond := .code yX2_isPot cX2_isPot 2 (some .boolean) :: ([.fieldLink RX2 23 "TeapotChoirModel" "pots" "I", .methodLink RX2 26 yX2_isIn, .static yX2_isIn, .initialized RX2, .code yX2_isIn cX2_isIn 3 (some .boolean)] ++ wsX20)
def wsX2_keep : List Cond := .code yX2_keep cX2_keep 1 none :: ([.fieldLink RX2 13 "TeapotChoirModel" "now" "[I", .fieldLink RX2 16 "TeapotChoirModel" "kept" "[I", .methodLink RX2 30 arraycopyName, .native arraycopyName, .static arraycopyName, .initialized "java/lang/System"] ++ wsX20)
def wsX2_bringBack : List Cond := .code yX2_bringBack cX2_bringBack 1 none :: ([.fieldLink RX2 16 "TeapotChoirModel" "kept" "[I", .fieldLink RX2 13 "TeapotChoirModel" "now" "[I", .methodLink RX2 30 arraycopyName, .native arraycopyName, .static arraycopyName, .initialized "java/lang/System"] ++ wsX20)
def wsX2_heard : List Cond := .code yX2_heard cX2_heard 2 (some .boolean) :: ([.fieldLink RX2 13 "TeapotChoirModel" "now" "[I", .fieldLink RX2 36 "TeapotChoirModel" "cosies" "I"] ++ wsX20)
def wsX2_set : List Cond := .code yX2_set cX2_set 3 (some .int) :: ([.fieldLink RX2 23 "TeapotChoirModel" "pots" "I", .methodLink RX2 39 yX2_heard, .instanceMethod yX2_heard, .selects RX2 yX2_heard yX2_heard, .initialized RX2, .code yX2_heard cX2_heard 2 (some .boolean), .fieldLink RX2 13 "TeapotChoirModel" "now" "[I", .fieldLink RX2 36 "TeapotChoirModel" "cosies" "I"] ++ wsX20)
def wsX2_apart : List Cond := .code yX2_apart cX2_apart 3 (some .int) :: ([.fieldLink RX2 13 "TeapotChoirModel" "now" "[I", .methodLink RX2 43 Lib.Math.abs.name, .static Lib.Math.abs.name, .initialized "java/lang/Math", .code Lib.Math.abs.name Lib.Math.abs.code 1 (some .int)] ++ wsX20)
def wsX2_accord : List Cond := .code yX2_accord cX2_accord 3 (some .boolean) :: ([.methodLink RX2 49 yX2_apart, .instanceMethod yX2_apart, .selects RX2 yX2_apart yX2_apart, .initialized RX2, .code yX2_apart cX2_apart 3 (some .int), .fieldLink RX2 13 "TeapotChoirModel" "now" "[I", .methodLink RX2 43 Lib.Math.abs.name, .static Lib.Math.abs.name, .initialized "java/lang/Math", .code Lib.Math.abs.name Lib.Math.abs.code 1 (some .int)] ++ wsX20)
def wsX2_against : List Cond := .code yX2_against cX2_against 5 (some .int) :: ([.fieldLink RX2 23 "TeapotChoirModel" "pots" "I", .methodLink RX2 53 yX2_accord, .instanceMethod yX2_accord, .selects RX2 yX2_accord yX2_accord, .initialized RX2, .code yX2_accord cX2_accord 3 (some .boolean), .methodLink RX2 49 yX2_apart, .instanceMethod yX2_apart, .selects RX2 yX2_apart yX2_apart, .code yX2_apart cX2_apart 3 (some .int), .fieldLink RX2 13 "TeapotChoirModel" "now" "[I", .methodLink RX2 43 Lib.Math.abs.name, .static Lib.Math.abs.name, .initialized "java/lang/Math", .code Lib.Math.abs.name Lib.Math.abs.code 1 (some .int)] ++ wsX20)
def wsX2_allClashes : List Cond := .code yX2_allClashes cX2_allClashes 4 (some .int) :: ([.fieldLink RX2 23 "TeapotChoirModel" "pots" "I", .methodLink RX2 57 yX2_against, .instanceMethod yX2_against, .selects RX2 yX2_against yX2_against, .initialized RX2, .code yX2_against cX2_against 5 (some .int), .methodLink RX2 53 yX2_accord, .instanceMethod yX2_accord, .selects RX2 yX2_accord yX2_accord, .code yX2_accord cX2_accord 3 (some .boolean), .methodLink RX2 49 yX2_apart, .instanceMethod yX2_apart, .selects RX2 yX2_apart yX2_apart, .code yX2_apart cX2_apart 3 (some .int), .fieldLink RX2 13 "TeapotChoirModel" "now" "[I", .methodLink RX2 43 Lib.Math.abs.name, .static Lib.Math.abs.name, .initialized "java/lang/Math", .code Lib.Math.abs.name Lib.Math.abs.code 1 (some .int)] ++ wsX20)
def wsX2_harmonyOf_r1 : List Cond := [Cond.methodLink RX2 60 yJ6_bitCount_0f7a4, Cond.static yJ6_bitCount_0f7a4, Cond.initialized RJ6, Cond.code yJ6_bitCount_0f7a4 cJ6_bitCount_0f7a4 1 (some .int), Cond.constant RJ6 265 (1431655765), Cond.constant RJ6 266 (858993459), Cond.constant RJ6 267 (252645135), Cond.methodLink RX2 65 yX2_allClashes, Cond.instanceMethod yX2_allClashes, Cond.selects RX2 yX2_allClashes yX2_allClashes, Cond.initialized RX2, Cond.code yX2_allClashes cX2_allClashes 4 (some .int), Cond.fieldLink RX2 23 "TeapotChoirModel" "pots" "I", Cond.methodLink RX2 57 yX2_against, Cond.instanceMethod yX2_against, Cond.selects RX2 yX2_against yX2_against, Cond.code yX2_against cX2_against 5 (some .int), Cond.methodLink RX2 53 yX2_accord, Cond.instanceMethod yX2_accord, Cond.selects RX2 yX2_accord yX2_accord, Cond.code yX2_accord cX2_accord 3 (some .boolean), Cond.methodLink RX2 49 yX2_apart, Cond.instanceMethod yX2_apart, Cond.selects RX2 yX2_apart yX2_apart]
def wsX2_harmonyOf_r2 : List Cond := [Cond.code yX2_apart cX2_apart 3 (some .int), Cond.fieldLink RX2 13 "TeapotChoirModel" "now" "[I", Cond.methodLink RX2 43 Lib.Math.abs.name, Cond.static Lib.Math.abs.name, Cond.initialized "java/lang/Math", Cond.code Lib.Math.abs.name Lib.Math.abs.code 1 (some .int)]
def wsX2_harmonyOf : List Cond := .code yX2_harmonyOf cX2_harmonyOf 3 (some .int) :: ((wsX2_harmonyOf_r1 ++ wsX2_harmonyOf_r2) ++ wsX20)
def wsX2_clear_r1 : List Cond := [Cond.methodLink RX2 68 yX2_set, Cond.instanceMethod yX2_set, Cond.selects RX2 yX2_set yX2_set, Cond.initialized RX2, Cond.code yX2_set cX2_set 3 (some .int), Cond.fieldLink RX2 23 "TeapotChoirModel" "pots" "I", Cond.methodLink RX2 39 yX2_heard, Cond.instanceMethod yX2_heard, Cond.selects RX2 yX2_heard yX2_heard, Cond.code yX2_heard cX2_heard 2 (some .boolean), Cond.fieldLink RX2 13 "TeapotChoirModel" "now" "[I", Cond.fieldLink RX2 36 "TeapotChoirModel" "cosies" "I", Cond.methodLink RX2 60 yJ6_bitCount_0f7a4, Cond.static yJ6_bitCount_0f7a4, Cond.initialized RJ6, Cond.code yJ6_bitCount_0f7a4 cJ6_bitCount_0f7a4 1 (some .int), Cond.constant RJ6 265 (1431655765), Cond.constant RJ6 266 (858993459), Cond.constant RJ6 267 (252645135), Cond.methodLink RX2 65 yX2_allClashes, Cond.instanceMethod yX2_allClashes, Cond.selects RX2 yX2_allClashes yX2_allClashes, Cond.code yX2_allClashes cX2_allClashes 4 (some .int), Cond.methodLink RX2 57 yX2_against]
def wsX2_clear_r2 : List Cond := [Cond.instanceMethod yX2_against, Cond.selects RX2 yX2_against yX2_against, Cond.code yX2_against cX2_against 5 (some .int), Cond.methodLink RX2 53 yX2_accord, Cond.instanceMethod yX2_accord, Cond.selects RX2 yX2_accord yX2_accord, Cond.code yX2_accord cX2_accord 3 (some .boolean), Cond.methodLink RX2 49 yX2_apart, Cond.instanceMethod yX2_apart, Cond.selects RX2 yX2_apart yX2_apart, Cond.code yX2_apart cX2_apart 3 (some .int), Cond.methodLink RX2 43 Lib.Math.abs.name, Cond.static Lib.Math.abs.name, Cond.initialized "java/lang/Math", Cond.code Lib.Math.abs.name Lib.Math.abs.code 1 (some .int)]
def wsX2_clear : List Cond := .code yX2_clear cX2_clear 1 (some .boolean) :: ((wsX2_clear_r1 ++ wsX2_clear_r2) ++ wsX20)
def wsX2_beat_r1 : List Cond := [Cond.fieldLink RX2 13 "TeapotChoirModel" "now" "[I", Cond.fieldLink RX2 23 "TeapotChoirModel" "pots" "I", Cond.methodLink RX2 76 Lib.Math.max.name, Cond.static Lib.Math.max.name, Cond.initialized "java/lang/Math", Cond.code Lib.Math.max.name Lib.Math.max.code 2 (some .int), Cond.methodLink RX2 79 Lib.Math.min.name, Cond.static Lib.Math.min.name, Cond.code Lib.Math.min.name Lib.Math.min.code 2 (some .int), Cond.fieldLink RX2 36 "TeapotChoirModel" "cosies" "I", Cond.methodLink RX2 68 yX2_set, Cond.instanceMethod yX2_set, Cond.selects RX2 yX2_set yX2_set, Cond.initialized RX2, Cond.code yX2_set cX2_set 3 (some .int), Cond.methodLink RX2 39 yX2_heard, Cond.instanceMethod yX2_heard, Cond.selects RX2 yX2_heard yX2_heard, Cond.code yX2_heard cX2_heard 2 (some .boolean), Cond.methodLink RX2 65 yX2_allClashes, Cond.instanceMethod yX2_allClashes, Cond.selects RX2 yX2_allClashes yX2_allClashes, Cond.code yX2_allClashes cX2_allClashes 4 (some .int), Cond.methodLink RX2 57 yX2_against]
def wsX2_beat_r2 : List Cond := [Cond.instanceMethod yX2_against, Cond.selects RX2 yX2_against yX2_against, Cond.code yX2_against cX2_against 5 (some .int), Cond.methodLink RX2 53 yX2_accord, Cond.instanceMethod yX2_accord, Cond.selects RX2 yX2_accord yX2_accord, Cond.code yX2_accord cX2_accord 3 (some .boolean), Cond.methodLink RX2 49 yX2_apart, Cond.instanceMethod yX2_apart, Cond.selects RX2 yX2_apart yX2_apart, Cond.code yX2_apart cX2_apart 3 (some .int), Cond.methodLink RX2 43 Lib.Math.abs.name, Cond.static Lib.Math.abs.name, Cond.code Lib.Math.abs.name Lib.Math.abs.code 1 (some .int), Cond.methodLink RX2 72 yX2_clear, Cond.instanceMethod yX2_clear, Cond.selects RX2 yX2_clear yX2_clear, Cond.code yX2_clear cX2_clear 1 (some .boolean), Cond.methodLink RX2 60 yJ6_bitCount_0f7a4, Cond.static yJ6_bitCount_0f7a4, Cond.initialized RJ6, Cond.code yJ6_bitCount_0f7a4 cJ6_bitCount_0f7a4 1 (some .int), Cond.constant RJ6 265 (1431655765), Cond.constant RJ6 266 (858993459)]
def wsX2_beat_r3 : List Cond := [Cond.constant RJ6 267 (252645135)]
def wsX2_beat : List Cond := .code yX2_beat cX2_beat 8 (some .int) :: ((wsX2_beat_r1 ++ (wsX2_beat_r2 ++ wsX2_beat_r3)) ++ wsX20)
def wsX2_beats_r1 : List Cond := [Cond.methodLink RX2 82 yX2_beat, Cond.instanceMethod yX2_beat, Cond.selects RX2 yX2_beat yX2_beat, Cond.initialized RX2, Cond.code yX2_beat cX2_beat 8 (some .int), Cond.fieldLink RX2 13 "TeapotChoirModel" "now" "[I", Cond.fieldLink RX2 23 "TeapotChoirModel" "pots" "I", Cond.methodLink RX2 76 Lib.Math.max.name, Cond.static Lib.Math.max.name, Cond.initialized "java/lang/Math", Cond.code Lib.Math.max.name Lib.Math.max.code 2 (some .int), Cond.methodLink RX2 79 Lib.Math.min.name, Cond.static Lib.Math.min.name, Cond.code Lib.Math.min.name Lib.Math.min.code 2 (some .int), Cond.fieldLink RX2 36 "TeapotChoirModel" "cosies" "I", Cond.methodLink RX2 68 yX2_set, Cond.instanceMethod yX2_set, Cond.selects RX2 yX2_set yX2_set, Cond.code yX2_set cX2_set 3 (some .int), Cond.methodLink RX2 39 yX2_heard, Cond.instanceMethod yX2_heard, Cond.selects RX2 yX2_heard yX2_heard, Cond.code yX2_heard cX2_heard 2 (some .boolean), Cond.methodLink RX2 65 yX2_allClashes]
def wsX2_beats_r2 : List Cond := [Cond.instanceMethod yX2_allClashes, Cond.selects RX2 yX2_allClashes yX2_allClashes, Cond.code yX2_allClashes cX2_allClashes 4 (some .int), Cond.methodLink RX2 57 yX2_against, Cond.instanceMethod yX2_against, Cond.selects RX2 yX2_against yX2_against, Cond.code yX2_against cX2_against 5 (some .int), Cond.methodLink RX2 53 yX2_accord, Cond.instanceMethod yX2_accord, Cond.selects RX2 yX2_accord yX2_accord, Cond.code yX2_accord cX2_accord 3 (some .boolean), Cond.methodLink RX2 49 yX2_apart, Cond.instanceMethod yX2_apart, Cond.selects RX2 yX2_apart yX2_apart, Cond.code yX2_apart cX2_apart 3 (some .int), Cond.methodLink RX2 43 Lib.Math.abs.name, Cond.static Lib.Math.abs.name, Cond.code Lib.Math.abs.name Lib.Math.abs.code 1 (some .int), Cond.methodLink RX2 72 yX2_clear, Cond.instanceMethod yX2_clear, Cond.selects RX2 yX2_clear yX2_clear, Cond.code yX2_clear cX2_clear 1 (some .boolean), Cond.methodLink RX2 60 yJ6_bitCount_0f7a4, Cond.static yJ6_bitCount_0f7a4]
def wsX2_beats_r3 : List Cond := [Cond.initialized RJ6, Cond.code yJ6_bitCount_0f7a4 cJ6_bitCount_0f7a4 1 (some .int), Cond.constant RJ6 265 (1431655765), Cond.constant RJ6 266 (858993459), Cond.constant RJ6 267 (252645135)]
def wsX2_beats : List Cond := .code yX2_beats cX2_beats 4 (some .int) :: ((wsX2_beats_r1 ++ (wsX2_beats_r2 ++ wsX2_beats_r3)) ++ wsX20)
def wsX2_addPot : List Cond := .code yX2_addPot cX2_addPot 4 (some .int) :: ([.fieldLink RX2 19 "TeapotChoirModel" "thrown" "I", .fieldLink RX2 23 "TeapotChoirModel" "pots" "I", .fieldLink RX2 9 "TeapotChoirModel" "part" "[I", .fieldLink RX2 13 "TeapotChoirModel" "now" "[I", .methodLink RX2 26 yX2_isIn, .static yX2_isIn, .initialized RX2, .code yX2_isIn cX2_isIn 3 (some .boolean), .methodLink RX2 85 yX2_no, .instanceMethod yX2_no, .selects RX2 yX2_no yX2_no, .code yX2_no cX2_no 2 (some .int)] ++ wsX20)
def wsX2_tune : List Cond := .code yX2_tune cX2_tune 3 (some .int) :: ([.fieldLink RX2 19 "TeapotChoirModel" "thrown" "I", .fieldLink RX2 13 "TeapotChoirModel" "now" "[I", .methodLink RX2 88 yX2_isPot, .instanceMethod yX2_isPot, .selects RX2 yX2_isPot yX2_isPot, .initialized RX2, .code yX2_isPot cX2_isPot 2 (some .boolean), .fieldLink RX2 23 "TeapotChoirModel" "pots" "I", .methodLink RX2 26 yX2_isIn, .static yX2_isIn, .code yX2_isIn cX2_isIn 3 (some .boolean), .methodLink RX2 85 yX2_no, .instanceMethod yX2_no, .selects RX2 yX2_no yX2_no, .code yX2_no cX2_no 2 (some .int)] ++ wsX20)
def wsX2_turnCosy : List Cond := .code yX2_turnCosy cX2_turnCosy 2 (some .boolean) :: ([.fieldLink RX2 19 "TeapotChoirModel" "thrown" "I", .fieldLink RX2 36 "TeapotChoirModel" "cosies" "I", .methodLink RX2 88 yX2_isPot, .instanceMethod yX2_isPot, .selects RX2 yX2_isPot yX2_isPot, .initialized RX2, .code yX2_isPot cX2_isPot 2 (some .boolean), .fieldLink RX2 23 "TeapotChoirModel" "pots" "I", .methodLink RX2 26 yX2_isIn, .static yX2_isIn, .code yX2_isIn cX2_isIn 3 (some .boolean), .methodLink RX2 91 yX2_isNot, .instanceMethod yX2_isNot, .selects RX2 yX2_isNot yX2_isNot, .code yX2_isNot cX2_isNot 2 (some .boolean)] ++ wsX20)
def wsX2_pour : List Cond := .code yX2_pour cX2_pour 5 (some .int) :: ([.fieldLink RX2 19 "TeapotChoirModel" "thrown" "I", .fieldLink RX2 13 "TeapotChoirModel" "now" "[I", .methodLink RX2 79 Lib.Math.min.name, .static Lib.Math.min.name, .initialized "java/lang/Math", .code Lib.Math.min.name Lib.Math.min.code 2 (some .int), .methodLink RX2 88 yX2_isPot, .instanceMethod yX2_isPot, .selects RX2 yX2_isPot yX2_isPot, .initialized RX2, .code yX2_isPot cX2_isPot 2 (some .boolean), .fieldLink RX2 23 "TeapotChoirModel" "pots" "I", .methodLink RX2 26 yX2_isIn, .static yX2_isIn, .code yX2_isIn cX2_isIn 3 (some .boolean), .methodLink RX2 85 yX2_no, .instanceMethod yX2_no, .selects RX2 yX2_no yX2_no, .code yX2_no cX2_no 2 (some .int)] ++ wsX20)
def wsX2_fill : List Cond := .code yX2_fill cX2_fill 3 (some .int) :: ([.fieldLink RX2 19 "TeapotChoirModel" "thrown" "I", .fieldLink RX2 13 "TeapotChoirModel" "now" "[I", .methodLink RX2 88 yX2_isPot, .instanceMethod yX2_isPot, .selects RX2 yX2_isPot yX2_isPot, .initialized RX2, .code yX2_isPot cX2_isPot 2 (some .boolean), .fieldLink RX2 23 "TeapotChoirModel" "pots" "I", .methodLink RX2 26 yX2_isIn, .static yX2_isIn, .code yX2_isIn cX2_isIn 3 (some .boolean), .methodLink RX2 85 yX2_no, .instanceMethod yX2_no, .selects RX2 yX2_no yX2_no, .code yX2_no cX2_no 2 (some .int)] ++ wsX20)
def wsX2_mend : List Cond := .code yX2_mend cX2_mend 3 (some .int) :: ([.fieldLink RX2 19 "TeapotChoirModel" "thrown" "I", .fieldLink RX2 13 "TeapotChoirModel" "now" "[I", .methodLink RX2 88 yX2_isPot, .instanceMethod yX2_isPot, .selects RX2 yX2_isPot yX2_isPot, .initialized RX2, .code yX2_isPot cX2_isPot 2 (some .boolean), .fieldLink RX2 23 "TeapotChoirModel" "pots" "I", .methodLink RX2 26 yX2_isIn, .static yX2_isIn, .code yX2_isIn cX2_isIn 3 (some .boolean), .methodLink RX2 85 yX2_no, .instanceMethod yX2_no, .selects RX2 yX2_no yX2_no, .code yX2_no cX2_no 2 (some .int)] ++ wsX20)
def wsX2_sing_r1 : List Cond := [Cond.fieldLink RX2 19 "TeapotChoirModel" "thrown" "I", Cond.methodLink RX2 26 yX2_isIn, Cond.static yX2_isIn, Cond.initialized RX2, Cond.code yX2_isIn cX2_isIn 3 (some .boolean), Cond.methodLink RX2 94 yX2_beats, Cond.instanceMethod yX2_beats, Cond.selects RX2 yX2_beats yX2_beats, Cond.code yX2_beats cX2_beats 4 (some .int), Cond.methodLink RX2 82 yX2_beat, Cond.instanceMethod yX2_beat, Cond.selects RX2 yX2_beat yX2_beat, Cond.code yX2_beat cX2_beat 8 (some .int), Cond.fieldLink RX2 13 "TeapotChoirModel" "now" "[I", Cond.fieldLink RX2 23 "TeapotChoirModel" "pots" "I", Cond.methodLink RX2 76 Lib.Math.max.name, Cond.static Lib.Math.max.name, Cond.initialized "java/lang/Math", Cond.code Lib.Math.max.name Lib.Math.max.code 2 (some .int), Cond.methodLink RX2 79 Lib.Math.min.name, Cond.static Lib.Math.min.name, Cond.code Lib.Math.min.name Lib.Math.min.code 2 (some .int), Cond.fieldLink RX2 36 "TeapotChoirModel" "cosies" "I", Cond.methodLink RX2 68 yX2_set]
def wsX2_sing_r2 : List Cond := [Cond.instanceMethod yX2_set, Cond.selects RX2 yX2_set yX2_set, Cond.code yX2_set cX2_set 3 (some .int), Cond.methodLink RX2 39 yX2_heard, Cond.instanceMethod yX2_heard, Cond.selects RX2 yX2_heard yX2_heard, Cond.code yX2_heard cX2_heard 2 (some .boolean), Cond.methodLink RX2 65 yX2_allClashes, Cond.instanceMethod yX2_allClashes, Cond.selects RX2 yX2_allClashes yX2_allClashes, Cond.code yX2_allClashes cX2_allClashes 4 (some .int), Cond.methodLink RX2 57 yX2_against, Cond.instanceMethod yX2_against, Cond.selects RX2 yX2_against yX2_against, Cond.code yX2_against cX2_against 5 (some .int), Cond.methodLink RX2 53 yX2_accord, Cond.instanceMethod yX2_accord, Cond.selects RX2 yX2_accord yX2_accord, Cond.code yX2_accord cX2_accord 3 (some .boolean), Cond.methodLink RX2 49 yX2_apart, Cond.instanceMethod yX2_apart, Cond.selects RX2 yX2_apart yX2_apart, Cond.code yX2_apart cX2_apart 3 (some .int), Cond.methodLink RX2 43 Lib.Math.abs.name]
def wsX2_sing_r3 : List Cond := [Cond.static Lib.Math.abs.name, Cond.code Lib.Math.abs.name Lib.Math.abs.code 1 (some .int), Cond.methodLink RX2 72 yX2_clear, Cond.instanceMethod yX2_clear, Cond.selects RX2 yX2_clear yX2_clear, Cond.code yX2_clear cX2_clear 1 (some .boolean), Cond.methodLink RX2 60 yJ6_bitCount_0f7a4, Cond.static yJ6_bitCount_0f7a4, Cond.initialized RJ6, Cond.code yJ6_bitCount_0f7a4 cJ6_bitCount_0f7a4 1 (some .int), Cond.constant RJ6 265 (1431655765), Cond.constant RJ6 266 (858993459), Cond.constant RJ6 267 (252645135), Cond.methodLink RX2 85 yX2_no, Cond.instanceMethod yX2_no, Cond.selects RX2 yX2_no yX2_no, Cond.code yX2_no cX2_no 2 (some .int)]
def wsX2_sing : List Cond := .code yX2_sing cX2_sing 2 (some .int) :: ((wsX2_sing_r1 ++ (wsX2_sing_r2 ++ wsX2_sing_r3)) ++ wsX20)
def wsX2_pots : List Cond := .code yX2_pots cX2_pots 1 (some .int) :: ([.fieldLink RX2 23 "TeapotChoirModel" "pots" "I", .methodLink RX2 97 yX2_ok, .instanceMethod yX2_ok, .selects RX2 yX2_ok yX2_ok, .initialized RX2, .code yX2_ok cX2_ok 2 (some .int), .fieldLink RX2 19 "TeapotChoirModel" "thrown" "I"] ++ wsX20)
def wsX2_partOf : List Cond := .code yX2_partOf cX2_partOf 2 (some .int) :: ([.fieldLink RX2 19 "TeapotChoirModel" "thrown" "I", .fieldLink RX2 9 "TeapotChoirModel" "part" "[I", .methodLink RX2 88 yX2_isPot, .instanceMethod yX2_isPot, .selects RX2 yX2_isPot yX2_isPot, .initialized RX2, .code yX2_isPot cX2_isPot 2 (some .boolean), .fieldLink RX2 23 "TeapotChoirModel" "pots" "I", .methodLink RX2 26 yX2_isIn, .static yX2_isIn, .code yX2_isIn cX2_isIn 3 (some .boolean), .methodLink RX2 85 yX2_no, .instanceMethod yX2_no, .selects RX2 yX2_no yX2_no, .code yX2_no cX2_no 2 (some .int)] ++ wsX20)
def wsX2_of : List Cond := .code yX2_of cX2_of 3 (some .int) :: ([.fieldLink RX2 19 "TeapotChoirModel" "thrown" "I", .fieldLink RX2 13 "TeapotChoirModel" "now" "[I", .methodLink RX2 88 yX2_isPot, .instanceMethod yX2_isPot, .selects RX2 yX2_isPot yX2_isPot, .initialized RX2, .code yX2_isPot cX2_isPot 2 (some .boolean), .fieldLink RX2 23 "TeapotChoirModel" "pots" "I", .methodLink RX2 26 yX2_isIn, .static yX2_isIn, .code yX2_isIn cX2_isIn 3 (some .boolean), .methodLink RX2 85 yX2_no, .instanceMethod yX2_no, .selects RX2 yX2_no yX2_no, .code yX2_no cX2_no 2 (some .int)] ++ wsX20)
def wsX2_pitchOf : List Cond := .code yX2_pitchOf cX2_pitchOf 2 (some .int) :: ([.methodLink RX2 100 yX2_of, .instanceMethod yX2_of, .selects RX2 yX2_of yX2_of, .initialized RX2, .code yX2_of cX2_of 3 (some .int), .fieldLink RX2 19 "TeapotChoirModel" "thrown" "I", .fieldLink RX2 13 "TeapotChoirModel" "now" "[I", .methodLink RX2 88 yX2_isPot, .instanceMethod yX2_isPot, .selects RX2 yX2_isPot yX2_isPot, .code yX2_isPot cX2_isPot 2 (some .boolean), .fieldLink RX2 23 "TeapotChoirModel" "pots" "I", .methodLink RX2 26 yX2_isIn, .static yX2_isIn, .code yX2_isIn cX2_isIn 3 (some .boolean), .methodLink RX2 85 yX2_no, .instanceMethod yX2_no, .selects RX2 yX2_no yX2_no, .code yX2_no cX2_no 2 (some .int)] ++ wsX20)
def wsX2_teaOf : List Cond := .code yX2_teaOf cX2_teaOf 2 (some .int) :: ([.methodLink RX2 100 yX2_of, .instanceMethod yX2_of, .selects RX2 yX2_of yX2_of, .initialized RX2, .code yX2_of cX2_of 3 (some .int), .fieldLink RX2 19 "TeapotChoirModel" "thrown" "I", .fieldLink RX2 13 "TeapotChoirModel" "now" "[I", .methodLink RX2 88 yX2_isPot, .instanceMethod yX2_isPot, .selects RX2 yX2_isPot yX2_isPot, .code yX2_isPot cX2_isPot 2 (some .boolean), .fieldLink RX2 23 "TeapotChoirModel" "pots" "I", .methodLink RX2 26 yX2_isIn, .static yX2_isIn, .code yX2_isIn cX2_isIn 3 (some .boolean), .methodLink RX2 85 yX2_no, .instanceMethod yX2_no, .selects RX2 yX2_no yX2_no, .code yX2_no cX2_no 2 (some .int)] ++ wsX20)
def wsX2_crackOf : List Cond := .code yX2_crackOf cX2_crackOf 2 (some .int) :: ([.methodLink RX2 100 yX2_of, .instanceMethod yX2_of, .selects RX2 yX2_of yX2_of, .initialized RX2, .code yX2_of cX2_of 3 (some .int), .fieldLink RX2 19 "TeapotChoirModel" "thrown" "I", .fieldLink RX2 13 "TeapotChoirModel" "now" "[I", .methodLink RX2 88 yX2_isPot, .instanceMethod yX2_isPot, .selects RX2 yX2_isPot yX2_isPot, .code yX2_isPot cX2_isPot 2 (some .boolean), .fieldLink RX2 23 "TeapotChoirModel" "pots" "I", .methodLink RX2 26 yX2_isIn, .static yX2_isIn, .code yX2_isIn cX2_isIn 3 (some .boolean), .methodLink RX2 85 yX2_no, .instanceMethod yX2_no, .selects RX2 yX2_no yX2_no, .code yX2_no cX2_no 2 (some .int)] ++ wsX20)
def wsX2_sounds : List Cond := .code yX2_sounds cX2_sounds 2 (some .boolean) :: ([.fieldLink RX2 19 "TeapotChoirModel" "thrown" "I", .methodLink RX2 88 yX2_isPot, .instanceMethod yX2_isPot, .selects RX2 yX2_isPot yX2_isPot, .initialized RX2, .code yX2_isPot cX2_isPot 2 (some .boolean), .fieldLink RX2 23 "TeapotChoirModel" "pots" "I", .methodLink RX2 26 yX2_isIn, .static yX2_isIn, .code yX2_isIn cX2_isIn 3 (some .boolean), .methodLink RX2 39 yX2_heard, .instanceMethod yX2_heard, .selects RX2 yX2_heard yX2_heard, .code yX2_heard cX2_heard 2 (some .boolean), .fieldLink RX2 13 "TeapotChoirModel" "now" "[I", .fieldLink RX2 36 "TeapotChoirModel" "cosies" "I", .methodLink RX2 91 yX2_isNot, .instanceMethod yX2_isNot, .selects RX2 yX2_isNot yX2_isNot, .code yX2_isNot cX2_isNot 2 (some .boolean)] ++ wsX20)
def wsX2_soundingOf : List Cond := .code yX2_soundingOf cX2_soundingOf 4 (some .int) :: ([.fieldLink RX2 19 "TeapotChoirModel" "thrown" "I", .fieldLink RX2 23 "TeapotChoirModel" "pots" "I", .fieldLink RX2 9 "TeapotChoirModel" "part" "[I", .methodLink RX2 26 yX2_isIn, .static yX2_isIn, .initialized RX2, .code yX2_isIn cX2_isIn 3 (some .boolean), .methodLink RX2 85 yX2_no, .instanceMethod yX2_no, .selects RX2 yX2_no yX2_no, .code yX2_no cX2_no 2 (some .int), .methodLink RX2 39 yX2_heard, .instanceMethod yX2_heard, .selects RX2 yX2_heard yX2_heard, .code yX2_heard cX2_heard 2 (some .boolean), .fieldLink RX2 13 "TeapotChoirModel" "now" "[I", .fieldLink RX2 36 "TeapotChoirModel" "cosies" "I"] ++ wsX20)
def wsX2_beats_ : List Cond := .code yX2_beats_ cX2_beats_ 1 (some .int) :: ([.fieldLink RX2 13 "TeapotChoirModel" "now" "[I", .methodLink RX2 97 yX2_ok, .instanceMethod yX2_ok, .selects RX2 yX2_ok yX2_ok, .initialized RX2, .code yX2_ok cX2_ok 2 (some .int), .fieldLink RX2 19 "TeapotChoirModel" "thrown" "I"] ++ wsX20)
def wsX2_sounding : List Cond := .code yX2_sounding cX2_sounding 1 (some .int) :: ([.methodLink RX2 68 yX2_set, .instanceMethod yX2_set, .selects RX2 yX2_set yX2_set, .initialized RX2, .code yX2_set cX2_set 3 (some .int), .fieldLink RX2 23 "TeapotChoirModel" "pots" "I", .methodLink RX2 39 yX2_heard, .instanceMethod yX2_heard, .selects RX2 yX2_heard yX2_heard, .code yX2_heard cX2_heard 2 (some .boolean), .fieldLink RX2 13 "TeapotChoirModel" "now" "[I", .fieldLink RX2 36 "TeapotChoirModel" "cosies" "I", .methodLink RX2 60 yJ6_bitCount_0f7a4, .static yJ6_bitCount_0f7a4, .initialized RJ6, .code yJ6_bitCount_0f7a4 cJ6_bitCount_0f7a4 1 (some .int), .constant RJ6 265 (1431655765), .constant RJ6 266 (858993459), .constant RJ6 267 (252645135), .methodLink RX2 97 yX2_ok, .instanceMethod yX2_ok, .selects RX2 yX2_ok yX2_ok, .code yX2_ok cX2_ok 2 (some .int), .fieldLink RX2 19 "TeapotChoirModel" "thrown" "I"] ++ wsX20)
def wsX2_interval : List Cond := .code yX2_interval cX2_interval 3 (some .int) :: ([.fieldLink RX2 19 "TeapotChoirModel" "thrown" "I", .methodLink RX2 88 yX2_isPot, .instanceMethod yX2_isPot, .selects RX2 yX2_isPot yX2_isPot, .initialized RX2, .code yX2_isPot cX2_isPot 2 (some .boolean), .fieldLink RX2 23 "TeapotChoirModel" "pots" "I", .methodLink RX2 26 yX2_isIn, .static yX2_isIn, .code yX2_isIn cX2_isIn 3 (some .boolean), .methodLink RX2 49 yX2_apart, .instanceMethod yX2_apart, .selects RX2 yX2_apart yX2_apart, .code yX2_apart cX2_apart 3 (some .int), .fieldLink RX2 13 "TeapotChoirModel" "now" "[I", .methodLink RX2 43 Lib.Math.abs.name, .static Lib.Math.abs.name, .initialized "java/lang/Math", .code Lib.Math.abs.name Lib.Math.abs.code 1 (some .int), .methodLink RX2 85 yX2_no, .instanceMethod yX2_no, .selects RX2 yX2_no yX2_no, .code yX2_no cX2_no 2 (some .int)] ++ wsX20)
def wsX2_areInAccord_r1 : List Cond := [Cond.fieldLink RX2 19 "TeapotChoirModel" "thrown" "I", Cond.methodLink RX2 88 yX2_isPot, Cond.instanceMethod yX2_isPot, Cond.selects RX2 yX2_isPot yX2_isPot, Cond.initialized RX2, Cond.code yX2_isPot cX2_isPot 2 (some .boolean), Cond.fieldLink RX2 23 "TeapotChoirModel" "pots" "I", Cond.methodLink RX2 26 yX2_isIn, Cond.static yX2_isIn, Cond.code yX2_isIn cX2_isIn 3 (some .boolean), Cond.methodLink RX2 53 yX2_accord, Cond.instanceMethod yX2_accord, Cond.selects RX2 yX2_accord yX2_accord, Cond.code yX2_accord cX2_accord 3 (some .boolean), Cond.methodLink RX2 49 yX2_apart, Cond.instanceMethod yX2_apart, Cond.selects RX2 yX2_apart yX2_apart, Cond.code yX2_apart cX2_apart 3 (some .int), Cond.fieldLink RX2 13 "TeapotChoirModel" "now" "[I", Cond.methodLink RX2 43 Lib.Math.abs.name, Cond.static Lib.Math.abs.name, Cond.initialized "java/lang/Math", Cond.code Lib.Math.abs.name Lib.Math.abs.code 1 (some .int), Cond.methodLink RX2 91 yX2_isNot]
def wsX2_areInAccord_r2 : List Cond := [Cond.instanceMethod yX2_isNot, Cond.selects RX2 yX2_isNot yX2_isNot, Cond.code yX2_isNot cX2_isNot 2 (some .boolean)]
def wsX2_areInAccord : List Cond := .code yX2_areInAccord cX2_areInAccord 3 (some .boolean) :: ((wsX2_areInAccord_r1 ++ wsX2_areInAccord_r2) ++ wsX20)
def wsX2_harmony_r1 : List Cond := [Cond.methodLink RX2 68 yX2_set, Cond.instanceMethod yX2_set, Cond.selects RX2 yX2_set yX2_set, Cond.initialized RX2, Cond.code yX2_set cX2_set 3 (some .int), Cond.fieldLink RX2 23 "TeapotChoirModel" "pots" "I", Cond.methodLink RX2 39 yX2_heard, Cond.instanceMethod yX2_heard, Cond.selects RX2 yX2_heard yX2_heard, Cond.code yX2_heard cX2_heard 2 (some .boolean), Cond.fieldLink RX2 13 "TeapotChoirModel" "now" "[I", Cond.fieldLink RX2 36 "TeapotChoirModel" "cosies" "I", Cond.methodLink RX2 103 yX2_harmonyOf, Cond.instanceMethod yX2_harmonyOf, Cond.selects RX2 yX2_harmonyOf yX2_harmonyOf, Cond.code yX2_harmonyOf cX2_harmonyOf 3 (some .int), Cond.methodLink RX2 60 yJ6_bitCount_0f7a4, Cond.static yJ6_bitCount_0f7a4, Cond.initialized RJ6, Cond.code yJ6_bitCount_0f7a4 cJ6_bitCount_0f7a4 1 (some .int), Cond.constant RJ6 265 (1431655765), Cond.constant RJ6 266 (858993459), Cond.constant RJ6 267 (252645135), Cond.methodLink RX2 65 yX2_allClashes]
def wsX2_harmony_r2 : List Cond := [Cond.instanceMethod yX2_allClashes, Cond.selects RX2 yX2_allClashes yX2_allClashes, Cond.code yX2_allClashes cX2_allClashes 4 (some .int), Cond.methodLink RX2 57 yX2_against, Cond.instanceMethod yX2_against, Cond.selects RX2 yX2_against yX2_against, Cond.code yX2_against cX2_against 5 (some .int), Cond.methodLink RX2 53 yX2_accord, Cond.instanceMethod yX2_accord, Cond.selects RX2 yX2_accord yX2_accord, Cond.code yX2_accord cX2_accord 3 (some .boolean), Cond.methodLink RX2 49 yX2_apart, Cond.instanceMethod yX2_apart, Cond.selects RX2 yX2_apart yX2_apart, Cond.code yX2_apart cX2_apart 3 (some .int), Cond.methodLink RX2 43 Lib.Math.abs.name, Cond.static Lib.Math.abs.name, Cond.initialized "java/lang/Math", Cond.code Lib.Math.abs.name Lib.Math.abs.code 1 (some .int), Cond.methodLink RX2 97 yX2_ok, Cond.instanceMethod yX2_ok, Cond.selects RX2 yX2_ok yX2_ok, Cond.code yX2_ok cX2_ok 2 (some .int), Cond.fieldLink RX2 19 "TeapotChoirModel" "thrown" "I"]
def wsX2_harmony : List Cond := .code yX2_harmony cX2_harmony 1 (some .int) :: ((wsX2_harmony_r1 ++ wsX2_harmony_r2) ++ wsX20)
def wsX2_clashes_r1 : List Cond := [Cond.methodLink RX2 68 yX2_set, Cond.instanceMethod yX2_set, Cond.selects RX2 yX2_set yX2_set, Cond.initialized RX2, Cond.code yX2_set cX2_set 3 (some .int), Cond.fieldLink RX2 23 "TeapotChoirModel" "pots" "I", Cond.methodLink RX2 39 yX2_heard, Cond.instanceMethod yX2_heard, Cond.selects RX2 yX2_heard yX2_heard, Cond.code yX2_heard cX2_heard 2 (some .boolean), Cond.fieldLink RX2 13 "TeapotChoirModel" "now" "[I", Cond.fieldLink RX2 36 "TeapotChoirModel" "cosies" "I", Cond.methodLink RX2 65 yX2_allClashes, Cond.instanceMethod yX2_allClashes, Cond.selects RX2 yX2_allClashes yX2_allClashes, Cond.code yX2_allClashes cX2_allClashes 4 (some .int), Cond.methodLink RX2 57 yX2_against, Cond.instanceMethod yX2_against, Cond.selects RX2 yX2_against yX2_against, Cond.code yX2_against cX2_against 5 (some .int), Cond.methodLink RX2 53 yX2_accord, Cond.instanceMethod yX2_accord, Cond.selects RX2 yX2_accord yX2_accord, Cond.code yX2_accord cX2_accord 3 (some .boolean)]
def wsX2_clashes_r2 : List Cond := [Cond.methodLink RX2 49 yX2_apart, Cond.instanceMethod yX2_apart, Cond.selects RX2 yX2_apart yX2_apart, Cond.code yX2_apart cX2_apart 3 (some .int), Cond.methodLink RX2 43 Lib.Math.abs.name, Cond.static Lib.Math.abs.name, Cond.initialized "java/lang/Math", Cond.code Lib.Math.abs.name Lib.Math.abs.code 1 (some .int), Cond.methodLink RX2 97 yX2_ok, Cond.instanceMethod yX2_ok, Cond.selects RX2 yX2_ok yX2_ok, Cond.code yX2_ok cX2_ok 2 (some .int), Cond.fieldLink RX2 19 "TeapotChoirModel" "thrown" "I"]
def wsX2_clashes : List Cond := .code yX2_clashes cX2_clashes 1 (some .int) :: ((wsX2_clashes_r1 ++ wsX2_clashes_r2) ++ wsX20)
def wsX2_clashing_r1 : List Cond := [Cond.methodLink RX2 39 yX2_heard, Cond.instanceMethod yX2_heard, Cond.selects RX2 yX2_heard yX2_heard, Cond.initialized RX2, Cond.code yX2_heard cX2_heard 2 (some .boolean), Cond.fieldLink RX2 13 "TeapotChoirModel" "now" "[I", Cond.fieldLink RX2 36 "TeapotChoirModel" "cosies" "I", Cond.methodLink RX2 68 yX2_set, Cond.instanceMethod yX2_set, Cond.selects RX2 yX2_set yX2_set, Cond.code yX2_set cX2_set 3 (some .int), Cond.fieldLink RX2 23 "TeapotChoirModel" "pots" "I", Cond.methodLink RX2 57 yX2_against, Cond.instanceMethod yX2_against, Cond.selects RX2 yX2_against yX2_against, Cond.code yX2_against cX2_against 5 (some .int), Cond.methodLink RX2 53 yX2_accord, Cond.instanceMethod yX2_accord, Cond.selects RX2 yX2_accord yX2_accord, Cond.code yX2_accord cX2_accord 3 (some .boolean), Cond.methodLink RX2 49 yX2_apart, Cond.instanceMethod yX2_apart, Cond.selects RX2 yX2_apart yX2_apart, Cond.code yX2_apart cX2_apart 3 (some .int)]
def wsX2_clashing_r2 : List Cond := [Cond.methodLink RX2 43 Lib.Math.abs.name, Cond.static Lib.Math.abs.name, Cond.initialized "java/lang/Math", Cond.code Lib.Math.abs.name Lib.Math.abs.code 1 (some .int)]
def wsX2_clashing : List Cond := .code yX2_clashing cX2_clashing 2 (some .int) :: ((wsX2_clashing_r1 ++ wsX2_clashing_r2) ++ wsX20)
def wsX2_clashesOf_r1 : List Cond := [Cond.fieldLink RX2 19 "TeapotChoirModel" "thrown" "I", Cond.methodLink RX2 88 yX2_isPot, Cond.instanceMethod yX2_isPot, Cond.selects RX2 yX2_isPot yX2_isPot, Cond.initialized RX2, Cond.code yX2_isPot cX2_isPot 2 (some .boolean), Cond.fieldLink RX2 23 "TeapotChoirModel" "pots" "I", Cond.methodLink RX2 26 yX2_isIn, Cond.static yX2_isIn, Cond.code yX2_isIn cX2_isIn 3 (some .boolean), Cond.methodLink RX2 106 yX2_clashing, Cond.instanceMethod yX2_clashing, Cond.selects RX2 yX2_clashing yX2_clashing, Cond.code yX2_clashing cX2_clashing 2 (some .int), Cond.methodLink RX2 39 yX2_heard, Cond.instanceMethod yX2_heard, Cond.selects RX2 yX2_heard yX2_heard, Cond.code yX2_heard cX2_heard 2 (some .boolean), Cond.fieldLink RX2 13 "TeapotChoirModel" "now" "[I", Cond.fieldLink RX2 36 "TeapotChoirModel" "cosies" "I", Cond.methodLink RX2 68 yX2_set, Cond.instanceMethod yX2_set, Cond.selects RX2 yX2_set yX2_set, Cond.code yX2_set cX2_set 3 (some .int)]
def wsX2_clashesOf_r2 : List Cond := [Cond.methodLink RX2 57 yX2_against, Cond.instanceMethod yX2_against, Cond.selects RX2 yX2_against yX2_against, Cond.code yX2_against cX2_against 5 (some .int), Cond.methodLink RX2 53 yX2_accord, Cond.instanceMethod yX2_accord, Cond.selects RX2 yX2_accord yX2_accord, Cond.code yX2_accord cX2_accord 3 (some .boolean), Cond.methodLink RX2 49 yX2_apart, Cond.instanceMethod yX2_apart, Cond.selects RX2 yX2_apart yX2_apart, Cond.code yX2_apart cX2_apart 3 (some .int), Cond.methodLink RX2 43 Lib.Math.abs.name, Cond.static Lib.Math.abs.name, Cond.initialized "java/lang/Math", Cond.code Lib.Math.abs.name Lib.Math.abs.code 1 (some .int), Cond.methodLink RX2 85 yX2_no, Cond.instanceMethod yX2_no, Cond.selects RX2 yX2_no yX2_no, Cond.code yX2_no cX2_no 2 (some .int)]
def wsX2_clashesOf : List Cond := .code yX2_clashesOf cX2_clashesOf 2 (some .int) :: ((wsX2_clashesOf_r1 ++ wsX2_clashesOf_r2) ++ wsX20)
def wsX2_harsh_r1 : List Cond := [Cond.fieldLink RX2 23 "TeapotChoirModel" "pots" "I", Cond.methodLink RX2 106 yX2_clashing, Cond.instanceMethod yX2_clashing, Cond.selects RX2 yX2_clashing yX2_clashing, Cond.initialized RX2, Cond.code yX2_clashing cX2_clashing 2 (some .int), Cond.methodLink RX2 39 yX2_heard, Cond.instanceMethod yX2_heard, Cond.selects RX2 yX2_heard yX2_heard, Cond.code yX2_heard cX2_heard 2 (some .boolean), Cond.fieldLink RX2 13 "TeapotChoirModel" "now" "[I", Cond.fieldLink RX2 36 "TeapotChoirModel" "cosies" "I", Cond.methodLink RX2 68 yX2_set, Cond.instanceMethod yX2_set, Cond.selects RX2 yX2_set yX2_set, Cond.code yX2_set cX2_set 3 (some .int), Cond.methodLink RX2 57 yX2_against, Cond.instanceMethod yX2_against, Cond.selects RX2 yX2_against yX2_against, Cond.code yX2_against cX2_against 5 (some .int), Cond.methodLink RX2 53 yX2_accord, Cond.instanceMethod yX2_accord, Cond.selects RX2 yX2_accord yX2_accord, Cond.code yX2_accord cX2_accord 3 (some .boolean)]
def wsX2_harsh_r2 : List Cond := [Cond.methodLink RX2 49 yX2_apart, Cond.instanceMethod yX2_apart, Cond.selects RX2 yX2_apart yX2_apart, Cond.code yX2_apart cX2_apart 3 (some .int), Cond.methodLink RX2 43 Lib.Math.abs.name, Cond.static Lib.Math.abs.name, Cond.initialized "java/lang/Math", Cond.code Lib.Math.abs.name Lib.Math.abs.code 1 (some .int)]
def wsX2_harsh : List Cond := .code yX2_harsh cX2_harsh 3 (some .int) :: ((wsX2_harsh_r1 ++ wsX2_harsh_r2) ++ wsX20)
def wsX2_harshest_r1 : List Cond := [Cond.methodLink RX2 109 yX2_harsh, Cond.instanceMethod yX2_harsh, Cond.selects RX2 yX2_harsh yX2_harsh, Cond.initialized RX2, Cond.code yX2_harsh cX2_harsh 3 (some .int), Cond.fieldLink RX2 23 "TeapotChoirModel" "pots" "I", Cond.methodLink RX2 106 yX2_clashing, Cond.instanceMethod yX2_clashing, Cond.selects RX2 yX2_clashing yX2_clashing, Cond.code yX2_clashing cX2_clashing 2 (some .int), Cond.methodLink RX2 39 yX2_heard, Cond.instanceMethod yX2_heard, Cond.selects RX2 yX2_heard yX2_heard, Cond.code yX2_heard cX2_heard 2 (some .boolean), Cond.fieldLink RX2 13 "TeapotChoirModel" "now" "[I", Cond.fieldLink RX2 36 "TeapotChoirModel" "cosies" "I", Cond.methodLink RX2 68 yX2_set, Cond.instanceMethod yX2_set, Cond.selects RX2 yX2_set yX2_set, Cond.code yX2_set cX2_set 3 (some .int), Cond.methodLink RX2 57 yX2_against, Cond.instanceMethod yX2_against, Cond.selects RX2 yX2_against yX2_against, Cond.code yX2_against cX2_against 5 (some .int)]
def wsX2_harshest_r2 : List Cond := [Cond.methodLink RX2 53 yX2_accord, Cond.instanceMethod yX2_accord, Cond.selects RX2 yX2_accord yX2_accord, Cond.code yX2_accord cX2_accord 3 (some .boolean), Cond.methodLink RX2 49 yX2_apart, Cond.instanceMethod yX2_apart, Cond.selects RX2 yX2_apart yX2_apart, Cond.code yX2_apart cX2_apart 3 (some .int), Cond.methodLink RX2 43 Lib.Math.abs.name, Cond.static Lib.Math.abs.name, Cond.initialized "java/lang/Math", Cond.code Lib.Math.abs.name Lib.Math.abs.code 1 (some .int), Cond.methodLink RX2 97 yX2_ok, Cond.instanceMethod yX2_ok, Cond.selects RX2 yX2_ok yX2_ok, Cond.code yX2_ok cX2_ok 2 (some .int), Cond.fieldLink RX2 19 "TeapotChoirModel" "thrown" "I"]
def wsX2_harshest : List Cond := .code yX2_harshest cX2_harshest 1 (some .int) :: ((wsX2_harshest_r1 ++ wsX2_harshest_r2) ++ wsX20)
def wsX2_low : List Cond := .code yX2_low cX2_low 3 (some .int) :: ([.fieldLink RX2 23 "TeapotChoirModel" "pots" "I", .fieldLink RX2 13 "TeapotChoirModel" "now" "[I", .methodLink RX2 39 yX2_heard, .instanceMethod yX2_heard, .selects RX2 yX2_heard yX2_heard, .initialized RX2, .code yX2_heard cX2_heard 2 (some .boolean), .fieldLink RX2 36 "TeapotChoirModel" "cosies" "I"] ++ wsX20)
def wsX2_lowest : List Cond := .code yX2_lowest cX2_lowest 1 (some .int) :: ([.methodLink RX2 112 yX2_low, .instanceMethod yX2_low, .selects RX2 yX2_low yX2_low, .initialized RX2, .code yX2_low cX2_low 3 (some .int), .fieldLink RX2 23 "TeapotChoirModel" "pots" "I", .fieldLink RX2 13 "TeapotChoirModel" "now" "[I", .methodLink RX2 39 yX2_heard, .instanceMethod yX2_heard, .selects RX2 yX2_heard yX2_heard, .code yX2_heard cX2_heard 2 (some .boolean), .fieldLink RX2 36 "TeapotChoirModel" "cosies" "I", .methodLink RX2 97 yX2_ok, .instanceMethod yX2_ok, .selects RX2 yX2_ok yX2_ok, .code yX2_ok cX2_ok 2 (some .int), .fieldLink RX2 19 "TeapotChoirModel" "thrown" "I"] ++ wsX20)
def wsX2_isClear_r1 : List Cond := [Cond.fieldLink RX2 19 "TeapotChoirModel" "thrown" "I", Cond.methodLink RX2 72 yX2_clear, Cond.instanceMethod yX2_clear, Cond.selects RX2 yX2_clear yX2_clear, Cond.initialized RX2, Cond.code yX2_clear cX2_clear 1 (some .boolean), Cond.methodLink RX2 68 yX2_set, Cond.instanceMethod yX2_set, Cond.selects RX2 yX2_set yX2_set, Cond.code yX2_set cX2_set 3 (some .int), Cond.fieldLink RX2 23 "TeapotChoirModel" "pots" "I", Cond.methodLink RX2 39 yX2_heard, Cond.instanceMethod yX2_heard, Cond.selects RX2 yX2_heard yX2_heard, Cond.code yX2_heard cX2_heard 2 (some .boolean), Cond.fieldLink RX2 13 "TeapotChoirModel" "now" "[I", Cond.fieldLink RX2 36 "TeapotChoirModel" "cosies" "I", Cond.methodLink RX2 60 yJ6_bitCount_0f7a4, Cond.static yJ6_bitCount_0f7a4, Cond.initialized RJ6, Cond.code yJ6_bitCount_0f7a4 cJ6_bitCount_0f7a4 1 (some .int), Cond.constant RJ6 265 (1431655765), Cond.constant RJ6 266 (858993459), Cond.constant RJ6 267 (252645135)]
def wsX2_isClear_r2 : List Cond := [Cond.methodLink RX2 65 yX2_allClashes, Cond.instanceMethod yX2_allClashes, Cond.selects RX2 yX2_allClashes yX2_allClashes, Cond.code yX2_allClashes cX2_allClashes 4 (some .int), Cond.methodLink RX2 57 yX2_against, Cond.instanceMethod yX2_against, Cond.selects RX2 yX2_against yX2_against, Cond.code yX2_against cX2_against 5 (some .int), Cond.methodLink RX2 53 yX2_accord, Cond.instanceMethod yX2_accord, Cond.selects RX2 yX2_accord yX2_accord, Cond.code yX2_accord cX2_accord 3 (some .boolean), Cond.methodLink RX2 49 yX2_apart, Cond.instanceMethod yX2_apart, Cond.selects RX2 yX2_apart yX2_apart, Cond.code yX2_apart cX2_apart 3 (some .int), Cond.methodLink RX2 43 Lib.Math.abs.name, Cond.static Lib.Math.abs.name, Cond.initialized "java/lang/Math", Cond.code Lib.Math.abs.name Lib.Math.abs.code 1 (some .int)]
def wsX2_isClear : List Cond := .code yX2_isClear cX2_isClear 1 (some .boolean) :: ((wsX2_isClear_r1 ++ wsX2_isClear_r2) ++ wsX20)
def wsX2_cadences : List Cond := .code yX2_cadences cX2_cadences 1 (some .int) :: ([.fieldLink RX2 13 "TeapotChoirModel" "now" "[I", .methodLink RX2 97 yX2_ok, .instanceMethod yX2_ok, .selects RX2 yX2_ok yX2_ok, .initialized RX2, .code yX2_ok cX2_ok 2 (some .int), .fieldLink RX2 19 "TeapotChoirModel" "thrown" "I"] ++ wsX20)
def wsX2_tuning_r1 : List Cond := [Cond.fieldLink RX2 13 "TeapotChoirModel" "now" "[I", Cond.methodLink RX2 68 yX2_set, Cond.instanceMethod yX2_set, Cond.selects RX2 yX2_set yX2_set, Cond.initialized RX2, Cond.code yX2_set cX2_set 3 (some .int), Cond.fieldLink RX2 23 "TeapotChoirModel" "pots" "I", Cond.methodLink RX2 39 yX2_heard, Cond.instanceMethod yX2_heard, Cond.selects RX2 yX2_heard yX2_heard, Cond.code yX2_heard cX2_heard 2 (some .boolean), Cond.fieldLink RX2 36 "TeapotChoirModel" "cosies" "I", Cond.methodLink RX2 103 yX2_harmonyOf, Cond.instanceMethod yX2_harmonyOf, Cond.selects RX2 yX2_harmonyOf yX2_harmonyOf, Cond.code yX2_harmonyOf cX2_harmonyOf 3 (some .int), Cond.methodLink RX2 60 yJ6_bitCount_0f7a4, Cond.static yJ6_bitCount_0f7a4, Cond.initialized RJ6, Cond.code yJ6_bitCount_0f7a4 cJ6_bitCount_0f7a4 1 (some .int), Cond.constant RJ6 265 (1431655765), Cond.constant RJ6 266 (858993459), Cond.constant RJ6 267 (252645135), Cond.methodLink RX2 65 yX2_allClashes]
def wsX2_tuning_r2 : List Cond := [Cond.instanceMethod yX2_allClashes, Cond.selects RX2 yX2_allClashes yX2_allClashes, Cond.code yX2_allClashes cX2_allClashes 4 (some .int), Cond.methodLink RX2 57 yX2_against, Cond.instanceMethod yX2_against, Cond.selects RX2 yX2_against yX2_against, Cond.code yX2_against cX2_against 5 (some .int), Cond.methodLink RX2 53 yX2_accord, Cond.instanceMethod yX2_accord, Cond.selects RX2 yX2_accord yX2_accord, Cond.code yX2_accord cX2_accord 3 (some .boolean), Cond.methodLink RX2 49 yX2_apart, Cond.instanceMethod yX2_apart, Cond.selects RX2 yX2_apart yX2_apart, Cond.code yX2_apart cX2_apart 3 (some .int), Cond.methodLink RX2 43 Lib.Math.abs.name, Cond.static Lib.Math.abs.name, Cond.initialized "java/lang/Math", Cond.code Lib.Math.abs.name Lib.Math.abs.code 1 (some .int), Cond.methodLink RX2 26 yX2_isIn, Cond.static yX2_isIn, Cond.code yX2_isIn cX2_isIn 3 (some .boolean)]
def wsX2_tuning : List Cond := .code yX2_tuning cX2_tuning 8 (some .int) :: ((wsX2_tuning_r1 ++ wsX2_tuning_r2) ++ wsX20)
def wsX2_bestTuning_r1 : List Cond := [Cond.fieldLink RX2 19 "TeapotChoirModel" "thrown" "I", Cond.methodLink RX2 88 yX2_isPot, Cond.instanceMethod yX2_isPot, Cond.selects RX2 yX2_isPot yX2_isPot, Cond.initialized RX2, Cond.code yX2_isPot cX2_isPot 2 (some .boolean), Cond.fieldLink RX2 23 "TeapotChoirModel" "pots" "I", Cond.methodLink RX2 26 yX2_isIn, Cond.static yX2_isIn, Cond.code yX2_isIn cX2_isIn 3 (some .boolean), Cond.methodLink RX2 115 yX2_tuning, Cond.instanceMethod yX2_tuning, Cond.selects RX2 yX2_tuning yX2_tuning, Cond.code yX2_tuning cX2_tuning 8 (some .int), Cond.fieldLink RX2 13 "TeapotChoirModel" "now" "[I", Cond.methodLink RX2 68 yX2_set, Cond.instanceMethod yX2_set, Cond.selects RX2 yX2_set yX2_set, Cond.code yX2_set cX2_set 3 (some .int), Cond.methodLink RX2 39 yX2_heard, Cond.instanceMethod yX2_heard, Cond.selects RX2 yX2_heard yX2_heard, Cond.code yX2_heard cX2_heard 2 (some .boolean), Cond.fieldLink RX2 36 "TeapotChoirModel" "cosies" "I"]
def wsX2_bestTuning_r2 : List Cond := [Cond.methodLink RX2 103 yX2_harmonyOf, Cond.instanceMethod yX2_harmonyOf, Cond.selects RX2 yX2_harmonyOf yX2_harmonyOf, Cond.code yX2_harmonyOf cX2_harmonyOf 3 (some .int), Cond.methodLink RX2 60 yJ6_bitCount_0f7a4, Cond.static yJ6_bitCount_0f7a4, Cond.initialized RJ6, Cond.code yJ6_bitCount_0f7a4 cJ6_bitCount_0f7a4 1 (some .int), Cond.constant RJ6 265 (1431655765), Cond.constant RJ6 266 (858993459), Cond.constant RJ6 267 (252645135), Cond.methodLink RX2 65 yX2_allClashes, Cond.instanceMethod yX2_allClashes, Cond.selects RX2 yX2_allClashes yX2_allClashes, Cond.code yX2_allClashes cX2_allClashes 4 (some .int), Cond.methodLink RX2 57 yX2_against, Cond.instanceMethod yX2_against, Cond.selects RX2 yX2_against yX2_against, Cond.code yX2_against cX2_against 5 (some .int), Cond.methodLink RX2 53 yX2_accord, Cond.instanceMethod yX2_accord, Cond.selects RX2 yX2_accord yX2_accord, Cond.code yX2_accord cX2_accord 3 (some .boolean), Cond.methodLink RX2 49 yX2_apart]
def wsX2_bestTuning_r3 : List Cond := [Cond.instanceMethod yX2_apart, Cond.selects RX2 yX2_apart yX2_apart, Cond.code yX2_apart cX2_apart 3 (some .int), Cond.methodLink RX2 43 Lib.Math.abs.name, Cond.static Lib.Math.abs.name, Cond.initialized "java/lang/Math", Cond.code Lib.Math.abs.name Lib.Math.abs.code 1 (some .int), Cond.methodLink RX2 85 yX2_no, Cond.instanceMethod yX2_no, Cond.selects RX2 yX2_no yX2_no, Cond.code yX2_no cX2_no 2 (some .int)]
def wsX2_bestTuning : List Cond := .code yX2_bestTuning cX2_bestTuning 2 (some .int) :: ((wsX2_bestTuning_r1 ++ (wsX2_bestTuning_r2 ++ wsX2_bestTuning_r3)) ++ wsX20)
def wsX2_mute_r1 : List Cond := [Cond.fieldLink RX2 23 "TeapotChoirModel" "pots" "I", Cond.methodLink RX2 68 yX2_set, Cond.instanceMethod yX2_set, Cond.selects RX2 yX2_set yX2_set, Cond.initialized RX2, Cond.code yX2_set cX2_set 3 (some .int), Cond.methodLink RX2 39 yX2_heard, Cond.instanceMethod yX2_heard, Cond.selects RX2 yX2_heard yX2_heard, Cond.code yX2_heard cX2_heard 2 (some .boolean), Cond.fieldLink RX2 13 "TeapotChoirModel" "now" "[I", Cond.fieldLink RX2 36 "TeapotChoirModel" "cosies" "I", Cond.methodLink RX2 103 yX2_harmonyOf, Cond.instanceMethod yX2_harmonyOf, Cond.selects RX2 yX2_harmonyOf yX2_harmonyOf, Cond.code yX2_harmonyOf cX2_harmonyOf 3 (some .int), Cond.methodLink RX2 60 yJ6_bitCount_0f7a4, Cond.static yJ6_bitCount_0f7a4, Cond.initialized RJ6, Cond.code yJ6_bitCount_0f7a4 cJ6_bitCount_0f7a4 1 (some .int), Cond.constant RJ6 265 (1431655765), Cond.constant RJ6 266 (858993459), Cond.constant RJ6 267 (252645135), Cond.methodLink RX2 65 yX2_allClashes]
def wsX2_mute_r2 : List Cond := [Cond.instanceMethod yX2_allClashes, Cond.selects RX2 yX2_allClashes yX2_allClashes, Cond.code yX2_allClashes cX2_allClashes 4 (some .int), Cond.methodLink RX2 57 yX2_against, Cond.instanceMethod yX2_against, Cond.selects RX2 yX2_against yX2_against, Cond.code yX2_against cX2_against 5 (some .int), Cond.methodLink RX2 53 yX2_accord, Cond.instanceMethod yX2_accord, Cond.selects RX2 yX2_accord yX2_accord, Cond.code yX2_accord cX2_accord 3 (some .boolean), Cond.methodLink RX2 49 yX2_apart, Cond.instanceMethod yX2_apart, Cond.selects RX2 yX2_apart yX2_apart, Cond.code yX2_apart cX2_apart 3 (some .int), Cond.methodLink RX2 43 Lib.Math.abs.name, Cond.static Lib.Math.abs.name, Cond.initialized "java/lang/Math", Cond.code Lib.Math.abs.name Lib.Math.abs.code 1 (some .int)]
def wsX2_mute : List Cond := .code yX2_mute cX2_mute 6 (some .int) :: ((wsX2_mute_r1 ++ wsX2_mute_r2) ++ wsX20)
def wsX2_bestToMute_r1 : List Cond := [Cond.methodLink RX2 118 yX2_mute, Cond.instanceMethod yX2_mute, Cond.selects RX2 yX2_mute yX2_mute, Cond.initialized RX2, Cond.code yX2_mute cX2_mute 6 (some .int), Cond.fieldLink RX2 23 "TeapotChoirModel" "pots" "I", Cond.methodLink RX2 68 yX2_set, Cond.instanceMethod yX2_set, Cond.selects RX2 yX2_set yX2_set, Cond.code yX2_set cX2_set 3 (some .int), Cond.methodLink RX2 39 yX2_heard, Cond.instanceMethod yX2_heard, Cond.selects RX2 yX2_heard yX2_heard, Cond.code yX2_heard cX2_heard 2 (some .boolean), Cond.fieldLink RX2 13 "TeapotChoirModel" "now" "[I", Cond.fieldLink RX2 36 "TeapotChoirModel" "cosies" "I", Cond.methodLink RX2 103 yX2_harmonyOf, Cond.instanceMethod yX2_harmonyOf, Cond.selects RX2 yX2_harmonyOf yX2_harmonyOf, Cond.code yX2_harmonyOf cX2_harmonyOf 3 (some .int), Cond.methodLink RX2 60 yJ6_bitCount_0f7a4, Cond.static yJ6_bitCount_0f7a4, Cond.initialized RJ6, Cond.code yJ6_bitCount_0f7a4 cJ6_bitCount_0f7a4 1 (some .int)]
def wsX2_bestToMute_r2 : List Cond := [Cond.constant RJ6 265 (1431655765), Cond.constant RJ6 266 (858993459), Cond.constant RJ6 267 (252645135), Cond.methodLink RX2 65 yX2_allClashes, Cond.instanceMethod yX2_allClashes, Cond.selects RX2 yX2_allClashes yX2_allClashes, Cond.code yX2_allClashes cX2_allClashes 4 (some .int), Cond.methodLink RX2 57 yX2_against, Cond.instanceMethod yX2_against, Cond.selects RX2 yX2_against yX2_against, Cond.code yX2_against cX2_against 5 (some .int), Cond.methodLink RX2 53 yX2_accord, Cond.instanceMethod yX2_accord, Cond.selects RX2 yX2_accord yX2_accord, Cond.code yX2_accord cX2_accord 3 (some .boolean), Cond.methodLink RX2 49 yX2_apart, Cond.instanceMethod yX2_apart, Cond.selects RX2 yX2_apart yX2_apart, Cond.code yX2_apart cX2_apart 3 (some .int), Cond.methodLink RX2 43 Lib.Math.abs.name, Cond.static Lib.Math.abs.name, Cond.initialized "java/lang/Math", Cond.code Lib.Math.abs.name Lib.Math.abs.code 1 (some .int), Cond.methodLink RX2 97 yX2_ok]
def wsX2_bestToMute_r3 : List Cond := [Cond.instanceMethod yX2_ok, Cond.selects RX2 yX2_ok yX2_ok, Cond.code yX2_ok cX2_ok 2 (some .int), Cond.fieldLink RX2 19 "TeapotChoirModel" "thrown" "I"]
def wsX2_bestToMute : List Cond := .code yX2_bestToMute cX2_bestToMute 1 (some .int) :: ((wsX2_bestToMute_r1 ++ (wsX2_bestToMute_r2 ++ wsX2_bestToMute_r3)) ++ wsX20)
def wsX2_harmonyIn_r1 : List Cond := [Cond.fieldLink RX2 19 "TeapotChoirModel" "thrown" "I", Cond.methodLink RX2 26 yX2_isIn, Cond.static yX2_isIn, Cond.initialized RX2, Cond.code yX2_isIn cX2_isIn 3 (some .boolean), Cond.methodLink RX2 85 yX2_no, Cond.instanceMethod yX2_no, Cond.selects RX2 yX2_no yX2_no, Cond.code yX2_no cX2_no 2 (some .int), Cond.methodLink RX2 121 yX2_keep, Cond.instanceMethod yX2_keep, Cond.selects RX2 yX2_keep yX2_keep, Cond.code yX2_keep cX2_keep 1 none, Cond.fieldLink RX2 13 "TeapotChoirModel" "now" "[I", Cond.fieldLink RX2 16 "TeapotChoirModel" "kept" "[I", Cond.methodLink RX2 30 arraycopyName, Cond.native arraycopyName, Cond.static arraycopyName, Cond.initialized "java/lang/System", Cond.methodLink RX2 94 yX2_beats, Cond.instanceMethod yX2_beats, Cond.selects RX2 yX2_beats yX2_beats, Cond.code yX2_beats cX2_beats 4 (some .int), Cond.methodLink RX2 82 yX2_beat]
def wsX2_harmonyIn_r2 : List Cond := [Cond.instanceMethod yX2_beat, Cond.selects RX2 yX2_beat yX2_beat, Cond.code yX2_beat cX2_beat 8 (some .int), Cond.fieldLink RX2 23 "TeapotChoirModel" "pots" "I", Cond.methodLink RX2 76 Lib.Math.max.name, Cond.static Lib.Math.max.name, Cond.initialized "java/lang/Math", Cond.code Lib.Math.max.name Lib.Math.max.code 2 (some .int), Cond.methodLink RX2 79 Lib.Math.min.name, Cond.static Lib.Math.min.name, Cond.code Lib.Math.min.name Lib.Math.min.code 2 (some .int), Cond.fieldLink RX2 36 "TeapotChoirModel" "cosies" "I", Cond.methodLink RX2 68 yX2_set, Cond.instanceMethod yX2_set, Cond.selects RX2 yX2_set yX2_set, Cond.code yX2_set cX2_set 3 (some .int), Cond.methodLink RX2 39 yX2_heard, Cond.instanceMethod yX2_heard, Cond.selects RX2 yX2_heard yX2_heard, Cond.code yX2_heard cX2_heard 2 (some .boolean), Cond.methodLink RX2 65 yX2_allClashes, Cond.instanceMethod yX2_allClashes, Cond.selects RX2 yX2_allClashes yX2_allClashes, Cond.code yX2_allClashes cX2_allClashes 4 (some .int)]
def wsX2_harmonyIn_r3 : List Cond := [Cond.methodLink RX2 57 yX2_against, Cond.instanceMethod yX2_against, Cond.selects RX2 yX2_against yX2_against, Cond.code yX2_against cX2_against 5 (some .int), Cond.methodLink RX2 53 yX2_accord, Cond.instanceMethod yX2_accord, Cond.selects RX2 yX2_accord yX2_accord, Cond.code yX2_accord cX2_accord 3 (some .boolean), Cond.methodLink RX2 49 yX2_apart, Cond.instanceMethod yX2_apart, Cond.selects RX2 yX2_apart yX2_apart, Cond.code yX2_apart cX2_apart 3 (some .int), Cond.methodLink RX2 43 Lib.Math.abs.name, Cond.static Lib.Math.abs.name, Cond.code Lib.Math.abs.name Lib.Math.abs.code 1 (some .int), Cond.methodLink RX2 72 yX2_clear, Cond.instanceMethod yX2_clear, Cond.selects RX2 yX2_clear yX2_clear, Cond.code yX2_clear cX2_clear 1 (some .boolean), Cond.methodLink RX2 60 yJ6_bitCount_0f7a4, Cond.static yJ6_bitCount_0f7a4, Cond.initialized RJ6, Cond.code yJ6_bitCount_0f7a4 cJ6_bitCount_0f7a4 1 (some .int), Cond.constant RJ6 265 (1431655765)]
def wsX2_harmonyIn_r4 : List Cond := [Cond.constant RJ6 266 (858993459), Cond.constant RJ6 267 (252645135), Cond.methodLink RX2 103 yX2_harmonyOf, Cond.instanceMethod yX2_harmonyOf, Cond.selects RX2 yX2_harmonyOf yX2_harmonyOf, Cond.code yX2_harmonyOf cX2_harmonyOf 3 (some .int), Cond.methodLink RX2 124 yX2_bringBack, Cond.instanceMethod yX2_bringBack, Cond.selects RX2 yX2_bringBack yX2_bringBack, Cond.code yX2_bringBack cX2_bringBack 1 none]
def wsX2_harmonyIn : List Cond := .code yX2_harmonyIn cX2_harmonyIn 3 (some .int) :: ((wsX2_harmonyIn_r1 ++ (wsX2_harmonyIn_r2 ++ (wsX2_harmonyIn_r3 ++ wsX2_harmonyIn_r4))) ++ wsX20)
def wsX2_silence_r1 : List Cond := [Cond.methodLink RX2 121 yX2_keep, Cond.instanceMethod yX2_keep, Cond.selects RX2 yX2_keep yX2_keep, Cond.initialized RX2, Cond.code yX2_keep cX2_keep 1 none, Cond.fieldLink RX2 13 "TeapotChoirModel" "now" "[I", Cond.fieldLink RX2 16 "TeapotChoirModel" "kept" "[I", Cond.methodLink RX2 30 arraycopyName, Cond.native arraycopyName, Cond.static arraycopyName, Cond.initialized "java/lang/System", Cond.methodLink RX2 68 yX2_set, Cond.instanceMethod yX2_set, Cond.selects RX2 yX2_set yX2_set, Cond.code yX2_set cX2_set 3 (some .int), Cond.fieldLink RX2 23 "TeapotChoirModel" "pots" "I", Cond.methodLink RX2 39 yX2_heard, Cond.instanceMethod yX2_heard, Cond.selects RX2 yX2_heard yX2_heard, Cond.code yX2_heard cX2_heard 2 (some .boolean), Cond.fieldLink RX2 36 "TeapotChoirModel" "cosies" "I", Cond.methodLink RX2 82 yX2_beat, Cond.instanceMethod yX2_beat, Cond.selects RX2 yX2_beat yX2_beat]
def wsX2_silence_r2 : List Cond := [Cond.code yX2_beat cX2_beat 8 (some .int), Cond.methodLink RX2 76 Lib.Math.max.name, Cond.static Lib.Math.max.name, Cond.initialized "java/lang/Math", Cond.code Lib.Math.max.name Lib.Math.max.code 2 (some .int), Cond.methodLink RX2 79 Lib.Math.min.name, Cond.static Lib.Math.min.name, Cond.code Lib.Math.min.name Lib.Math.min.code 2 (some .int), Cond.methodLink RX2 65 yX2_allClashes, Cond.instanceMethod yX2_allClashes, Cond.selects RX2 yX2_allClashes yX2_allClashes, Cond.code yX2_allClashes cX2_allClashes 4 (some .int), Cond.methodLink RX2 57 yX2_against, Cond.instanceMethod yX2_against, Cond.selects RX2 yX2_against yX2_against, Cond.code yX2_against cX2_against 5 (some .int), Cond.methodLink RX2 53 yX2_accord, Cond.instanceMethod yX2_accord, Cond.selects RX2 yX2_accord yX2_accord, Cond.code yX2_accord cX2_accord 3 (some .boolean), Cond.methodLink RX2 49 yX2_apart, Cond.instanceMethod yX2_apart, Cond.selects RX2 yX2_apart yX2_apart, Cond.code yX2_apart cX2_apart 3 (some .int)]
def wsX2_silence_r3 : List Cond := [Cond.methodLink RX2 43 Lib.Math.abs.name, Cond.static Lib.Math.abs.name, Cond.code Lib.Math.abs.name Lib.Math.abs.code 1 (some .int), Cond.methodLink RX2 72 yX2_clear, Cond.instanceMethod yX2_clear, Cond.selects RX2 yX2_clear yX2_clear, Cond.code yX2_clear cX2_clear 1 (some .boolean), Cond.methodLink RX2 60 yJ6_bitCount_0f7a4, Cond.static yJ6_bitCount_0f7a4, Cond.initialized RJ6, Cond.code yJ6_bitCount_0f7a4 cJ6_bitCount_0f7a4 1 (some .int), Cond.constant RJ6 265 (1431655765), Cond.constant RJ6 266 (858993459), Cond.constant RJ6 267 (252645135), Cond.methodLink RX2 124 yX2_bringBack, Cond.instanceMethod yX2_bringBack, Cond.selects RX2 yX2_bringBack yX2_bringBack, Cond.code yX2_bringBack cX2_bringBack 1 none]
def wsX2_silence : List Cond := .code yX2_silence cX2_silence 2 (some .int) :: ((wsX2_silence_r1 ++ (wsX2_silence_r2 ++ wsX2_silence_r3)) ++ wsX20)
def wsX2_beatsUntilSilence_r1 : List Cond := [Cond.methodLink RX2 127 yX2_silence, Cond.instanceMethod yX2_silence, Cond.selects RX2 yX2_silence yX2_silence, Cond.initialized RX2, Cond.code yX2_silence cX2_silence 2 (some .int), Cond.methodLink RX2 121 yX2_keep, Cond.instanceMethod yX2_keep, Cond.selects RX2 yX2_keep yX2_keep, Cond.code yX2_keep cX2_keep 1 none, Cond.fieldLink RX2 13 "TeapotChoirModel" "now" "[I", Cond.fieldLink RX2 16 "TeapotChoirModel" "kept" "[I", Cond.methodLink RX2 30 arraycopyName, Cond.native arraycopyName, Cond.static arraycopyName, Cond.initialized "java/lang/System", Cond.methodLink RX2 68 yX2_set, Cond.instanceMethod yX2_set, Cond.selects RX2 yX2_set yX2_set, Cond.code yX2_set cX2_set 3 (some .int), Cond.fieldLink RX2 23 "TeapotChoirModel" "pots" "I", Cond.methodLink RX2 39 yX2_heard, Cond.instanceMethod yX2_heard, Cond.selects RX2 yX2_heard yX2_heard, Cond.code yX2_heard cX2_heard 2 (some .boolean)]
def wsX2_beatsUntilSilence_r2 : List Cond := [Cond.fieldLink RX2 36 "TeapotChoirModel" "cosies" "I", Cond.methodLink RX2 82 yX2_beat, Cond.instanceMethod yX2_beat, Cond.selects RX2 yX2_beat yX2_beat, Cond.code yX2_beat cX2_beat 8 (some .int), Cond.methodLink RX2 76 Lib.Math.max.name, Cond.static Lib.Math.max.name, Cond.initialized "java/lang/Math", Cond.code Lib.Math.max.name Lib.Math.max.code 2 (some .int), Cond.methodLink RX2 79 Lib.Math.min.name, Cond.static Lib.Math.min.name, Cond.code Lib.Math.min.name Lib.Math.min.code 2 (some .int), Cond.methodLink RX2 65 yX2_allClashes, Cond.instanceMethod yX2_allClashes, Cond.selects RX2 yX2_allClashes yX2_allClashes, Cond.code yX2_allClashes cX2_allClashes 4 (some .int), Cond.methodLink RX2 57 yX2_against, Cond.instanceMethod yX2_against, Cond.selects RX2 yX2_against yX2_against, Cond.code yX2_against cX2_against 5 (some .int), Cond.methodLink RX2 53 yX2_accord, Cond.instanceMethod yX2_accord, Cond.selects RX2 yX2_accord yX2_accord, Cond.code yX2_accord cX2_accord 3 (some .boolean)]
def wsX2_beatsUntilSilence_r3 : List Cond := [Cond.methodLink RX2 49 yX2_apart, Cond.instanceMethod yX2_apart, Cond.selects RX2 yX2_apart yX2_apart, Cond.code yX2_apart cX2_apart 3 (some .int), Cond.methodLink RX2 43 Lib.Math.abs.name, Cond.static Lib.Math.abs.name, Cond.code Lib.Math.abs.name Lib.Math.abs.code 1 (some .int), Cond.methodLink RX2 72 yX2_clear, Cond.instanceMethod yX2_clear, Cond.selects RX2 yX2_clear yX2_clear, Cond.code yX2_clear cX2_clear 1 (some .boolean), Cond.methodLink RX2 60 yJ6_bitCount_0f7a4, Cond.static yJ6_bitCount_0f7a4, Cond.initialized RJ6, Cond.code yJ6_bitCount_0f7a4 cJ6_bitCount_0f7a4 1 (some .int), Cond.constant RJ6 265 (1431655765), Cond.constant RJ6 266 (858993459), Cond.constant RJ6 267 (252645135), Cond.methodLink RX2 124 yX2_bringBack, Cond.instanceMethod yX2_bringBack, Cond.selects RX2 yX2_bringBack yX2_bringBack, Cond.code yX2_bringBack cX2_bringBack 1 none, Cond.methodLink RX2 97 yX2_ok, Cond.instanceMethod yX2_ok]
def wsX2_beatsUntilSilence_r4 : List Cond := [Cond.selects RX2 yX2_ok yX2_ok, Cond.code yX2_ok cX2_ok 2 (some .int), Cond.fieldLink RX2 19 "TeapotChoirModel" "thrown" "I"]
def wsX2_beatsUntilSilence : List Cond := .code yX2_beatsUntilSilence cX2_beatsUntilSilence 1 (some .int) :: ((wsX2_beatsUntilSilence_r1 ++ (wsX2_beatsUntilSilence_r2 ++ (wsX2_beatsUntilSilence_r3 ++ wsX2_beatsUntilSilence_r4))) ++ wsX20)
def wsX2_untilCadence_r1 : List Cond := [Cond.methodLink RX2 121 yX2_keep, Cond.instanceMethod yX2_keep, Cond.selects RX2 yX2_keep yX2_keep, Cond.initialized RX2, Cond.code yX2_keep cX2_keep 1 none, Cond.fieldLink RX2 13 "TeapotChoirModel" "now" "[I", Cond.fieldLink RX2 16 "TeapotChoirModel" "kept" "[I", Cond.methodLink RX2 30 arraycopyName, Cond.native arraycopyName, Cond.static arraycopyName, Cond.initialized "java/lang/System", Cond.methodLink RX2 82 yX2_beat, Cond.instanceMethod yX2_beat, Cond.selects RX2 yX2_beat yX2_beat, Cond.code yX2_beat cX2_beat 8 (some .int), Cond.fieldLink RX2 23 "TeapotChoirModel" "pots" "I", Cond.methodLink RX2 76 Lib.Math.max.name, Cond.static Lib.Math.max.name, Cond.initialized "java/lang/Math", Cond.code Lib.Math.max.name Lib.Math.max.code 2 (some .int), Cond.methodLink RX2 79 Lib.Math.min.name, Cond.static Lib.Math.min.name, Cond.code Lib.Math.min.name Lib.Math.min.code 2 (some .int), Cond.fieldLink RX2 36 "TeapotChoirModel" "cosies" "I"]
def wsX2_untilCadence_r2 : List Cond := [Cond.methodLink RX2 68 yX2_set, Cond.instanceMethod yX2_set, Cond.selects RX2 yX2_set yX2_set, Cond.code yX2_set cX2_set 3 (some .int), Cond.methodLink RX2 39 yX2_heard, Cond.instanceMethod yX2_heard, Cond.selects RX2 yX2_heard yX2_heard, Cond.code yX2_heard cX2_heard 2 (some .boolean), Cond.methodLink RX2 65 yX2_allClashes, Cond.instanceMethod yX2_allClashes, Cond.selects RX2 yX2_allClashes yX2_allClashes, Cond.code yX2_allClashes cX2_allClashes 4 (some .int), Cond.methodLink RX2 57 yX2_against, Cond.instanceMethod yX2_against, Cond.selects RX2 yX2_against yX2_against, Cond.code yX2_against cX2_against 5 (some .int), Cond.methodLink RX2 53 yX2_accord, Cond.instanceMethod yX2_accord, Cond.selects RX2 yX2_accord yX2_accord, Cond.code yX2_accord cX2_accord 3 (some .boolean), Cond.methodLink RX2 49 yX2_apart, Cond.instanceMethod yX2_apart, Cond.selects RX2 yX2_apart yX2_apart, Cond.code yX2_apart cX2_apart 3 (some .int)]
def wsX2_untilCadence_r3 : List Cond := [Cond.methodLink RX2 43 Lib.Math.abs.name, Cond.static Lib.Math.abs.name, Cond.code Lib.Math.abs.name Lib.Math.abs.code 1 (some .int), Cond.methodLink RX2 72 yX2_clear, Cond.instanceMethod yX2_clear, Cond.selects RX2 yX2_clear yX2_clear, Cond.code yX2_clear cX2_clear 1 (some .boolean), Cond.methodLink RX2 60 yJ6_bitCount_0f7a4, Cond.static yJ6_bitCount_0f7a4, Cond.initialized RJ6, Cond.code yJ6_bitCount_0f7a4 cJ6_bitCount_0f7a4 1 (some .int), Cond.constant RJ6 265 (1431655765), Cond.constant RJ6 266 (858993459), Cond.constant RJ6 267 (252645135), Cond.methodLink RX2 124 yX2_bringBack, Cond.instanceMethod yX2_bringBack, Cond.selects RX2 yX2_bringBack yX2_bringBack, Cond.code yX2_bringBack cX2_bringBack 1 none]
def wsX2_untilCadence : List Cond := .code yX2_untilCadence cX2_untilCadence 2 (some .int) :: ((wsX2_untilCadence_r1 ++ (wsX2_untilCadence_r2 ++ wsX2_untilCadence_r3)) ++ wsX20)
def wsX2_beatsUntilCadence_r1 : List Cond := [Cond.methodLink RX2 130 yX2_untilCadence, Cond.instanceMethod yX2_untilCadence, Cond.selects RX2 yX2_untilCadence yX2_untilCadence, Cond.initialized RX2, Cond.code yX2_untilCadence cX2_untilCadence 2 (some .int), Cond.methodLink RX2 121 yX2_keep, Cond.instanceMethod yX2_keep, Cond.selects RX2 yX2_keep yX2_keep, Cond.code yX2_keep cX2_keep 1 none, Cond.fieldLink RX2 13 "TeapotChoirModel" "now" "[I", Cond.fieldLink RX2 16 "TeapotChoirModel" "kept" "[I", Cond.methodLink RX2 30 arraycopyName, Cond.native arraycopyName, Cond.static arraycopyName, Cond.initialized "java/lang/System", Cond.methodLink RX2 82 yX2_beat, Cond.instanceMethod yX2_beat, Cond.selects RX2 yX2_beat yX2_beat, Cond.code yX2_beat cX2_beat 8 (some .int), Cond.fieldLink RX2 23 "TeapotChoirModel" "pots" "I", Cond.methodLink RX2 76 Lib.Math.max.name, Cond.static Lib.Math.max.name, Cond.initialized "java/lang/Math", Cond.code Lib.Math.max.name Lib.Math.max.code 2 (some .int)]
def wsX2_beatsUntilCadence_r2 : List Cond := [Cond.methodLink RX2 79 Lib.Math.min.name, Cond.static Lib.Math.min.name, Cond.code Lib.Math.min.name Lib.Math.min.code 2 (some .int), Cond.fieldLink RX2 36 "TeapotChoirModel" "cosies" "I", Cond.methodLink RX2 68 yX2_set, Cond.instanceMethod yX2_set, Cond.selects RX2 yX2_set yX2_set, Cond.code yX2_set cX2_set 3 (some .int), Cond.methodLink RX2 39 yX2_heard, Cond.instanceMethod yX2_heard, Cond.selects RX2 yX2_heard yX2_heard, Cond.code yX2_heard cX2_heard 2 (some .boolean), Cond.methodLink RX2 65 yX2_allClashes, Cond.instanceMethod yX2_allClashes, Cond.selects RX2 yX2_allClashes yX2_allClashes, Cond.code yX2_allClashes cX2_allClashes 4 (some .int), Cond.methodLink RX2 57 yX2_against, Cond.instanceMethod yX2_against, Cond.selects RX2 yX2_against yX2_against, Cond.code yX2_against cX2_against 5 (some .int), Cond.methodLink RX2 53 yX2_accord, Cond.instanceMethod yX2_accord, Cond.selects RX2 yX2_accord yX2_accord, Cond.code yX2_accord cX2_accord 3 (some .boolean)]
def wsX2_beatsUntilCadence_r3 : List Cond := [Cond.methodLink RX2 49 yX2_apart, Cond.instanceMethod yX2_apart, Cond.selects RX2 yX2_apart yX2_apart, Cond.code yX2_apart cX2_apart 3 (some .int), Cond.methodLink RX2 43 Lib.Math.abs.name, Cond.static Lib.Math.abs.name, Cond.code Lib.Math.abs.name Lib.Math.abs.code 1 (some .int), Cond.methodLink RX2 72 yX2_clear, Cond.instanceMethod yX2_clear, Cond.selects RX2 yX2_clear yX2_clear, Cond.code yX2_clear cX2_clear 1 (some .boolean), Cond.methodLink RX2 60 yJ6_bitCount_0f7a4, Cond.static yJ6_bitCount_0f7a4, Cond.initialized RJ6, Cond.code yJ6_bitCount_0f7a4 cJ6_bitCount_0f7a4 1 (some .int), Cond.constant RJ6 265 (1431655765), Cond.constant RJ6 266 (858993459), Cond.constant RJ6 267 (252645135), Cond.methodLink RX2 124 yX2_bringBack, Cond.instanceMethod yX2_bringBack, Cond.selects RX2 yX2_bringBack yX2_bringBack, Cond.code yX2_bringBack cX2_bringBack 1 none, Cond.methodLink RX2 97 yX2_ok, Cond.instanceMethod yX2_ok]
def wsX2_beatsUntilCadence_r4 : List Cond := [Cond.selects RX2 yX2_ok yX2_ok, Cond.code yX2_ok cX2_ok 2 (some .int), Cond.fieldLink RX2 19 "TeapotChoirModel" "thrown" "I"]
def wsX2_beatsUntilCadence : List Cond := .code yX2_beatsUntilCadence cX2_beatsUntilCadence 1 (some .int) :: ((wsX2_beatsUntilCadence_r1 ++ (wsX2_beatsUntilCadence_r2 ++ (wsX2_beatsUntilCadence_r3 ++ wsX2_beatsUntilCadence_r4))) ++ wsX20)
def wsX2_greatest_r1 : List Cond := [Cond.methodLink RX2 68 yX2_set, Cond.instanceMethod yX2_set, Cond.selects RX2 yX2_set yX2_set, Cond.initialized RX2, Cond.code yX2_set cX2_set 3 (some .int), Cond.fieldLink RX2 23 "TeapotChoirModel" "pots" "I", Cond.methodLink RX2 39 yX2_heard, Cond.instanceMethod yX2_heard, Cond.selects RX2 yX2_heard yX2_heard, Cond.code yX2_heard cX2_heard 2 (some .boolean), Cond.fieldLink RX2 13 "TeapotChoirModel" "now" "[I", Cond.fieldLink RX2 36 "TeapotChoirModel" "cosies" "I", Cond.methodLink RX2 60 yJ6_bitCount_0f7a4, Cond.static yJ6_bitCount_0f7a4, Cond.initialized RJ6, Cond.code yJ6_bitCount_0f7a4 cJ6_bitCount_0f7a4 1 (some .int), Cond.constant RJ6 265 (1431655765), Cond.constant RJ6 266 (858993459), Cond.constant RJ6 267 (252645135), Cond.methodLink RX2 65 yX2_allClashes, Cond.instanceMethod yX2_allClashes, Cond.selects RX2 yX2_allClashes yX2_allClashes, Cond.code yX2_allClashes cX2_allClashes 4 (some .int), Cond.methodLink RX2 57 yX2_against]
def wsX2_greatest_r2 : List Cond := [Cond.instanceMethod yX2_against, Cond.selects RX2 yX2_against yX2_against, Cond.code yX2_against cX2_against 5 (some .int), Cond.methodLink RX2 53 yX2_accord, Cond.instanceMethod yX2_accord, Cond.selects RX2 yX2_accord yX2_accord, Cond.code yX2_accord cX2_accord 3 (some .boolean), Cond.methodLink RX2 49 yX2_apart, Cond.instanceMethod yX2_apart, Cond.selects RX2 yX2_apart yX2_apart, Cond.code yX2_apart cX2_apart 3 (some .int), Cond.methodLink RX2 43 Lib.Math.abs.name, Cond.static Lib.Math.abs.name, Cond.initialized "java/lang/Math", Cond.code Lib.Math.abs.name Lib.Math.abs.code 1 (some .int)]
def wsX2_greatest : List Cond := .code yX2_greatest cX2_greatest 4 (some .int) :: ((wsX2_greatest_r1 ++ wsX2_greatest_r2) ++ wsX20)
def wsX2_greatestAccord_r1 : List Cond := [Cond.methodLink RX2 133 yX2_greatest, Cond.instanceMethod yX2_greatest, Cond.selects RX2 yX2_greatest yX2_greatest, Cond.initialized RX2, Cond.code yX2_greatest cX2_greatest 4 (some .int), Cond.methodLink RX2 68 yX2_set, Cond.instanceMethod yX2_set, Cond.selects RX2 yX2_set yX2_set, Cond.code yX2_set cX2_set 3 (some .int), Cond.fieldLink RX2 23 "TeapotChoirModel" "pots" "I", Cond.methodLink RX2 39 yX2_heard, Cond.instanceMethod yX2_heard, Cond.selects RX2 yX2_heard yX2_heard, Cond.code yX2_heard cX2_heard 2 (some .boolean), Cond.fieldLink RX2 13 "TeapotChoirModel" "now" "[I", Cond.fieldLink RX2 36 "TeapotChoirModel" "cosies" "I", Cond.methodLink RX2 60 yJ6_bitCount_0f7a4, Cond.static yJ6_bitCount_0f7a4, Cond.initialized RJ6, Cond.code yJ6_bitCount_0f7a4 cJ6_bitCount_0f7a4 1 (some .int), Cond.constant RJ6 265 (1431655765), Cond.constant RJ6 266 (858993459), Cond.constant RJ6 267 (252645135), Cond.methodLink RX2 65 yX2_allClashes]
def wsX2_greatestAccord_r2 : List Cond := [Cond.instanceMethod yX2_allClashes, Cond.selects RX2 yX2_allClashes yX2_allClashes, Cond.code yX2_allClashes cX2_allClashes 4 (some .int), Cond.methodLink RX2 57 yX2_against, Cond.instanceMethod yX2_against, Cond.selects RX2 yX2_against yX2_against, Cond.code yX2_against cX2_against 5 (some .int), Cond.methodLink RX2 53 yX2_accord, Cond.instanceMethod yX2_accord, Cond.selects RX2 yX2_accord yX2_accord, Cond.code yX2_accord cX2_accord 3 (some .boolean), Cond.methodLink RX2 49 yX2_apart, Cond.instanceMethod yX2_apart, Cond.selects RX2 yX2_apart yX2_apart, Cond.code yX2_apart cX2_apart 3 (some .int), Cond.methodLink RX2 43 Lib.Math.abs.name, Cond.static Lib.Math.abs.name, Cond.initialized "java/lang/Math", Cond.code Lib.Math.abs.name Lib.Math.abs.code 1 (some .int), Cond.methodLink RX2 97 yX2_ok, Cond.instanceMethod yX2_ok, Cond.selects RX2 yX2_ok yX2_ok, Cond.code yX2_ok cX2_ok 2 (some .int), Cond.fieldLink RX2 19 "TeapotChoirModel" "thrown" "I"]
def wsX2_greatestAccord : List Cond := .code yX2_greatestAccord cX2_greatestAccord 1 (some .int) :: ((wsX2_greatestAccord_r1 ++ wsX2_greatestAccord_r2) ++ wsX20)
def wsX2_meanPitch : List Cond := .code yX2_meanPitch cX2_meanPitch 3 (some .double) :: ([.fieldLink RX2 19 "TeapotChoirModel" "thrown" "I", .fieldLink RX2 23 "TeapotChoirModel" "pots" "I", .fieldLink RX2 13 "TeapotChoirModel" "now" "[I", .methodLink RX2 39 yX2_heard, .instanceMethod yX2_heard, .selects RX2 yX2_heard yX2_heard, .initialized RX2, .code yX2_heard cX2_heard 2 (some .boolean), .fieldLink RX2 36 "TeapotChoirModel" "cosies" "I", .methodLink RX2 68 yX2_set, .instanceMethod yX2_set, .selects RX2 yX2_set yX2_set, .code yX2_set cX2_set 3 (some .int), .methodLink RX2 60 yJ6_bitCount_0f7a4, .static yJ6_bitCount_0f7a4, .initialized RJ6, .code yJ6_bitCount_0f7a4 cJ6_bitCount_0f7a4 1 (some .int), .constant RJ6 265 (1431655765), .constant RJ6 266 (858993459), .constant RJ6 267 (252645135)] ++ wsX20)
def wsX2_digest_r1 : List Cond := [Cond.fieldLink RX2 19 "TeapotChoirModel" "thrown" "I", Cond.arrayClass .int, Cond.fieldLink RX2 23 "TeapotChoirModel" "pots" "I", Cond.fieldLink RX2 13 "TeapotChoirModel" "now" "[I", Cond.constantLong RX2 136 (2087), Cond.constantLong RX2 138 (31), Cond.fieldLink RX2 9 "TeapotChoirModel" "part" "[I", Cond.methodLink RX2 68 yX2_set, Cond.instanceMethod yX2_set, Cond.selects RX2 yX2_set yX2_set, Cond.initialized RX2, Cond.code yX2_set cX2_set 3 (some .int), Cond.methodLink RX2 39 yX2_heard, Cond.instanceMethod yX2_heard, Cond.selects RX2 yX2_heard yX2_heard, Cond.code yX2_heard cX2_heard 2 (some .boolean), Cond.fieldLink RX2 36 "TeapotChoirModel" "cosies" "I", Cond.methodLink RX2 60 yJ6_bitCount_0f7a4, Cond.static yJ6_bitCount_0f7a4, Cond.initialized RJ6, Cond.code yJ6_bitCount_0f7a4 cJ6_bitCount_0f7a4 1 (some .int), Cond.constant RJ6 265 (1431655765), Cond.constant RJ6 266 (858993459), Cond.constant RJ6 267 (252645135)]
def wsX2_digest_r2 : List Cond := [Cond.methodLink RX2 103 yX2_harmonyOf, Cond.instanceMethod yX2_harmonyOf, Cond.selects RX2 yX2_harmonyOf yX2_harmonyOf, Cond.code yX2_harmonyOf cX2_harmonyOf 3 (some .int), Cond.methodLink RX2 65 yX2_allClashes, Cond.instanceMethod yX2_allClashes, Cond.selects RX2 yX2_allClashes yX2_allClashes, Cond.code yX2_allClashes cX2_allClashes 4 (some .int), Cond.methodLink RX2 57 yX2_against, Cond.instanceMethod yX2_against, Cond.selects RX2 yX2_against yX2_against, Cond.code yX2_against cX2_against 5 (some .int), Cond.methodLink RX2 53 yX2_accord, Cond.instanceMethod yX2_accord, Cond.selects RX2 yX2_accord yX2_accord, Cond.code yX2_accord cX2_accord 3 (some .boolean), Cond.methodLink RX2 49 yX2_apart, Cond.instanceMethod yX2_apart, Cond.selects RX2 yX2_apart yX2_apart, Cond.code yX2_apart cX2_apart 3 (some .int), Cond.methodLink RX2 43 Lib.Math.abs.name, Cond.static Lib.Math.abs.name, Cond.initialized "java/lang/Math", Cond.code Lib.Math.abs.name Lib.Math.abs.code 1 (some .int)]
def wsX2_digest_r3 : List Cond := [Cond.methodLink RX2 109 yX2_harsh, Cond.instanceMethod yX2_harsh, Cond.selects RX2 yX2_harsh yX2_harsh, Cond.code yX2_harsh cX2_harsh 3 (some .int), Cond.methodLink RX2 106 yX2_clashing, Cond.instanceMethod yX2_clashing, Cond.selects RX2 yX2_clashing yX2_clashing, Cond.code yX2_clashing cX2_clashing 2 (some .int), Cond.methodLink RX2 112 yX2_low, Cond.instanceMethod yX2_low, Cond.selects RX2 yX2_low yX2_low, Cond.code yX2_low cX2_low 3 (some .int), Cond.methodLink RX2 72 yX2_clear, Cond.instanceMethod yX2_clear, Cond.selects RX2 yX2_clear yX2_clear, Cond.code yX2_clear cX2_clear 1 (some .boolean), Cond.methodLink RX2 118 yX2_mute, Cond.instanceMethod yX2_mute, Cond.selects RX2 yX2_mute yX2_mute, Cond.code yX2_mute cX2_mute 6 (some .int), Cond.methodLink RX2 127 yX2_silence, Cond.instanceMethod yX2_silence, Cond.selects RX2 yX2_silence yX2_silence, Cond.code yX2_silence cX2_silence 2 (some .int)]
def wsX2_digest_r4 : List Cond := [Cond.methodLink RX2 121 yX2_keep, Cond.instanceMethod yX2_keep, Cond.selects RX2 yX2_keep yX2_keep, Cond.code yX2_keep cX2_keep 1 none, Cond.fieldLink RX2 16 "TeapotChoirModel" "kept" "[I", Cond.methodLink RX2 30 arraycopyName, Cond.native arraycopyName, Cond.static arraycopyName, Cond.initialized "java/lang/System", Cond.methodLink RX2 82 yX2_beat, Cond.instanceMethod yX2_beat, Cond.selects RX2 yX2_beat yX2_beat, Cond.code yX2_beat cX2_beat 8 (some .int), Cond.methodLink RX2 76 Lib.Math.max.name, Cond.static Lib.Math.max.name, Cond.code Lib.Math.max.name Lib.Math.max.code 2 (some .int), Cond.methodLink RX2 79 Lib.Math.min.name, Cond.static Lib.Math.min.name, Cond.code Lib.Math.min.name Lib.Math.min.code 2 (some .int), Cond.methodLink RX2 124 yX2_bringBack, Cond.instanceMethod yX2_bringBack, Cond.selects RX2 yX2_bringBack yX2_bringBack, Cond.code yX2_bringBack cX2_bringBack 1 none, Cond.methodLink RX2 130 yX2_untilCadence]
def wsX2_digest_r5 : List Cond := [Cond.instanceMethod yX2_untilCadence, Cond.selects RX2 yX2_untilCadence yX2_untilCadence, Cond.code yX2_untilCadence cX2_untilCadence 2 (some .int), Cond.methodLink RX2 133 yX2_greatest, Cond.instanceMethod yX2_greatest, Cond.selects RX2 yX2_greatest yX2_greatest, Cond.code yX2_greatest cX2_greatest 4 (some .int), Cond.methodLink RX2 115 yX2_tuning, Cond.instanceMethod yX2_tuning, Cond.selects RX2 yX2_tuning yX2_tuning, Cond.code yX2_tuning cX2_tuning 8 (some .int), Cond.methodLink RX2 26 yX2_isIn, Cond.static yX2_isIn, Cond.code yX2_isIn cX2_isIn 3 (some .boolean)]
def wsX2_digest : List Cond := .code yX2_digest cX2_digest 11 (some .long) :: ((wsX2_digest_r1 ++ (wsX2_digest_r2 ++ (wsX2_digest_r3 ++ (wsX2_digest_r4 ++ wsX2_digest_r5)))) ++ wsX20)
def wsJ9_abs_0f7a4 : List Cond := .code yJ9_abs_0f7a4 cJ9_abs_0f7a4 1 (some .int) :: ([])
def wsJ9_max_7cf53 : List Cond := .code yJ9_max_7cf53 cJ9_max_7cf53 2 (some .int) :: ([])
def wsJ9_min_7cf53 : List Cond := .code yJ9_min_7cf53 cJ9_min_7cf53 2 (some .int) :: ([])
def wsL_addPot_r1 : List Cond := [Cond.classLink RL 13 "java/lang/IllegalArgumentException", Cond.classLink RL 15 "java/lang/IllegalStateException", Cond.methodLink RL 7 yX1_addPot, Cond.instanceMethod yX1_addPot, Cond.selects RX1 yX1_addPot yX1_addPot, Cond.initialized RX1, Cond.code yX1_addPot cX1_addPot 4 (some .int), Cond.classLink RX1 27 "java/lang/IllegalStateException", Cond.initialized "java/lang/IllegalStateException", Cond.fieldLink RX1 10 "TeapotChoir" "choir" "LTeapotChoir$Choir;", Cond.fieldLink RX1 23 "TeapotChoir$Choir" "count" "I", Cond.methodLink RX1 19 yX1_requireWithin, Cond.static yX1_requireWithin, Cond.code yX1_requireWithin cX1_requireWithin 3 none, Cond.classLink RX1 50 "java/lang/IllegalArgumentException", Cond.initialized "java/lang/IllegalArgumentException", Cond.methodLink RX1 34 yX0_admit, Cond.instanceMethod yX0_admit, Cond.selects RX0 yX0_admit yX0_admit, Cond.initialized RX0, Cond.code yX0_admit cX0_admit 5 (some .int), Cond.fieldLink RX0 31 "TeapotChoir$Choir" "count" "I", Cond.fieldLink RX0 9 "TeapotChoir$Choir" "part" "[I", Cond.fieldLink RX0 15 "TeapotChoir$Choir" "pitch" "[I"]
def wsL_addPot_r2 : List Cond := [Cond.fieldLink RX0 18 "TeapotChoir$Choir" "tea" "[I"]
def wsL_addPot : List Cond := .codeWith yL_addPot cL_addPot 6 (some .int) [(0, 12, 15, 13), (0, 12, 19, 15)] :: ((wsL_addPot_r1 ++ wsL_addPot_r2) ++ wsX10 ++ wsX00 ++ (vx_atS RX1 31 "java/lang/IllegalStateException" ["java/lang/RuntimeException", "java/lang/Exception"]).filter goodWord ++ (vx_atS RX1 54 "java/lang/IllegalArgumentException" ["java/lang/RuntimeException", "java/lang/Exception"]).filter goodWord)
def wsL_tune : List Cond := .codeWith yL_tune cL_tune 5 (some .int) [(0, 10, 13, 21), (0, 10, 17, 13)] :: ([.classLink RL 21 "java/lang/IndexOutOfBoundsException", .classLink RL 13 "java/lang/IllegalArgumentException", .methodLink RL 17 yX1_tune, .instanceMethod yX1_tune, .selects RX1 yX1_tune yX1_tune, .initialized RX1, .code yX1_tune cX1_tune 4 (some .int), .fieldLink RX1 10 "TeapotChoir" "choir" "LTeapotChoir$Choir;", .fieldLink RX1 42 "TeapotChoir$Choir" "pitch" "[I", .methodLink RX1 38 yX1_requirePot, .instanceMethod yX1_requirePot, .selects RX1 yX1_requirePot yX1_requirePot, .code yX1_requirePot cX1_requirePot 2 none, .classLink RX1 80 "java/lang/IndexOutOfBoundsException", .initialized "java/lang/IndexOutOfBoundsException", .fieldLink RX1 23 "TeapotChoir$Choir" "count" "I", .methodLink RX1 19 yX1_requireWithin, .static yX1_requireWithin, .code yX1_requireWithin cX1_requireWithin 3 none, .classLink RX1 50 "java/lang/IllegalArgumentException", .initialized "java/lang/IllegalArgumentException"] ++ wsX10 ++ wsX00 ++ (vx_atS RX1 84 "java/lang/IndexOutOfBoundsException" ["java/lang/RuntimeException", "java/lang/Exception"]).filter goodWord ++ (vx_atS RX1 54 "java/lang/IllegalArgumentException" ["java/lang/RuntimeException", "java/lang/Exception"]).filter goodWord)
def wsL_turnCosy : List Cond := .codeWith yL_turnCosy cL_turnCosy 4 (some .int) [(0, 16, 19, 21)] :: ([.classLink RL 21 "java/lang/IndexOutOfBoundsException", .methodLink RL 23 yX1_turnCosy, .instanceMethod yX1_turnCosy, .selects RX1 yX1_turnCosy yX1_turnCosy, .initialized RX1, .code yX1_turnCosy cX1_turnCosy 2 (some .boolean), .fieldLink RX1 10 "TeapotChoir" "choir" "LTeapotChoir$Choir;", .fieldLink RX1 46 "TeapotChoir$Choir" "cosy" "[Z", .methodLink RX1 38 yX1_requirePot, .instanceMethod yX1_requirePot, .selects RX1 yX1_requirePot yX1_requirePot, .code yX1_requirePot cX1_requirePot 2 none, .classLink RX1 80 "java/lang/IndexOutOfBoundsException", .initialized "java/lang/IndexOutOfBoundsException", .fieldLink RX1 23 "TeapotChoir$Choir" "count" "I"] ++ wsX10 ++ wsX00 ++ (vx_atS RX1 84 "java/lang/IndexOutOfBoundsException" ["java/lang/RuntimeException", "java/lang/Exception"]).filter goodWord)
def wsL_pour_r1 : List Cond := [Cond.classLink RL 21 "java/lang/IndexOutOfBoundsException", Cond.classLink RL 13 "java/lang/IllegalArgumentException", Cond.methodLink RL 27 yX1_pour, Cond.instanceMethod yX1_pour, Cond.selects RX1 yX1_pour yX1_pour, Cond.initialized RX1, Cond.code yX1_pour cX1_pour 5 (some .int), Cond.classLink RX1 50 "java/lang/IllegalArgumentException", Cond.initialized "java/lang/IllegalArgumentException", Cond.fieldLink RX1 10 "TeapotChoir" "choir" "LTeapotChoir$Choir;", Cond.fieldLink RX1 55 "TeapotChoir$Choir" "tea" "[I", Cond.methodLink RX1 58 Lib.Math.min.name, Cond.static Lib.Math.min.name, Cond.initialized "java/lang/Math", Cond.code Lib.Math.min.name Lib.Math.min.code 2 (some .int), Cond.methodLink RX1 38 yX1_requirePot, Cond.instanceMethod yX1_requirePot, Cond.selects RX1 yX1_requirePot yX1_requirePot, Cond.code yX1_requirePot cX1_requirePot 2 none, Cond.classLink RX1 80 "java/lang/IndexOutOfBoundsException", Cond.initialized "java/lang/IndexOutOfBoundsException", Cond.fieldLink RX1 23 "TeapotChoir$Choir" "count" "I", Cond.methodLink RX1 19 yX1_requireWithin, Cond.static yX1_requireWithin]
def wsL_pour_r2 : List Cond := [Cond.code yX1_requireWithin cX1_requireWithin 3 none]
def wsL_pour : List Cond := .codeWith yL_pour cL_pour 6 (some .int) [(0, 12, 15, 21), (0, 12, 19, 13)] :: ((wsL_pour_r1 ++ wsL_pour_r2) ++ wsX10 ++ wsX00 ++ (vx_atS RX1 54 "java/lang/IllegalArgumentException" ["java/lang/RuntimeException", "java/lang/Exception"]).filter goodWord ++ (vx_atS RX1 84 "java/lang/IndexOutOfBoundsException" ["java/lang/RuntimeException", "java/lang/Exception"]).filter goodWord)
def wsL_fill : List Cond := .codeWith yL_fill cL_fill 4 (some .int) [(0, 9, 12, 21)] :: ([.classLink RL 21 "java/lang/IndexOutOfBoundsException", .methodLink RL 30 yX1_fill, .instanceMethod yX1_fill, .selects RX1 yX1_fill yX1_fill, .initialized RX1, .code yX1_fill cX1_fill 3 (some .int), .fieldLink RX1 10 "TeapotChoir" "choir" "LTeapotChoir$Choir;", .fieldLink RX1 55 "TeapotChoir$Choir" "tea" "[I", .methodLink RX1 38 yX1_requirePot, .instanceMethod yX1_requirePot, .selects RX1 yX1_requirePot yX1_requirePot, .code yX1_requirePot cX1_requirePot 2 none, .classLink RX1 80 "java/lang/IndexOutOfBoundsException", .initialized "java/lang/IndexOutOfBoundsException", .fieldLink RX1 23 "TeapotChoir$Choir" "count" "I"] ++ wsX10 ++ wsX00 ++ (vx_atS RX1 84 "java/lang/IndexOutOfBoundsException" ["java/lang/RuntimeException", "java/lang/Exception"]).filter goodWord)
def wsL_mend : List Cond := .codeWith yL_mend cL_mend 4 (some .int) [(0, 9, 12, 21)] :: ([.classLink RL 21 "java/lang/IndexOutOfBoundsException", .methodLink RL 34 yX1_mend, .instanceMethod yX1_mend, .selects RX1 yX1_mend yX1_mend, .initialized RX1, .code yX1_mend cX1_mend 3 (some .int), .fieldLink RX1 10 "TeapotChoir" "choir" "LTeapotChoir$Choir;", .fieldLink RX1 64 "TeapotChoir$Choir" "crack" "[I", .fieldLink RX1 55 "TeapotChoir$Choir" "tea" "[I", .methodLink RX1 38 yX1_requirePot, .instanceMethod yX1_requirePot, .selects RX1 yX1_requirePot yX1_requirePot, .code yX1_requirePot cX1_requirePot 2 none, .classLink RX1 80 "java/lang/IndexOutOfBoundsException", .initialized "java/lang/IndexOutOfBoundsException", .fieldLink RX1 23 "TeapotChoir$Choir" "count" "I"] ++ wsX10 ++ wsX00 ++ (vx_atS RX1 84 "java/lang/IndexOutOfBoundsException" ["java/lang/RuntimeException", "java/lang/Exception"]).filter goodWord)
def wsL_sing_r1 : List Cond := [Cond.classLink RL 13 "java/lang/IllegalArgumentException", Cond.methodLink RL 37 yX1_sing, Cond.instanceMethod yX1_sing, Cond.selects RX1 yX1_sing yX1_sing, Cond.initialized RX1, Cond.code yX1_sing cX1_sing 3 (some .int), Cond.fieldLink RX1 10 "TeapotChoir" "choir" "LTeapotChoir$Choir;", Cond.fieldLink RX1 67 "TeapotChoir$Choir" "cadenceCount" "I", Cond.methodLink RX1 19 yX1_requireWithin, Cond.static yX1_requireWithin, Cond.code yX1_requireWithin cX1_requireWithin 3 none, Cond.classLink RX1 50 "java/lang/IllegalArgumentException", Cond.initialized "java/lang/IllegalArgumentException", Cond.methodLink RX1 70 yX0_passBeats, Cond.instanceMethod yX0_passBeats, Cond.selects RX0 yX0_passBeats yX0_passBeats, Cond.initialized RX0, Cond.code yX0_passBeats cX0_passBeats 3 none, Cond.methodLink RX0 51 yX0_passBeat, Cond.instanceMethod yX0_passBeat, Cond.selects RX0 yX0_passBeat yX0_passBeat, Cond.code yX0_passBeat cX0_passBeat 2 none, Cond.fieldLink RX0 47 "TeapotChoir$Choir" "clashAhead" "Z", Cond.fieldLink RX0 44 "TeapotChoir$Choir" "cadenceCount" "I"]
def wsL_sing_r2 : List Cond := [Cond.fieldLink RX0 31 "TeapotChoir$Choir" "count" "I", Cond.fieldLink RX0 24 "TeapotChoir$Choir" "cosy" "[Z", Cond.fieldLink RX0 41 "TeapotChoir$Choir" "beat" "I", Cond.fieldLink RX0 21 "TeapotChoir$Choir" "crack" "[I", Cond.methodLink RX0 70 Lib.Math.max.name, Cond.static Lib.Math.max.name, Cond.initialized "java/lang/Math", Cond.code Lib.Math.max.name Lib.Math.max.code 2 (some .int), Cond.methodLink RX0 54 yX0_isChordClear, Cond.instanceMethod yX0_isChordClear, Cond.selects RX0 yX0_isChordClear yX0_isChordClear, Cond.code yX0_isChordClear cX0_isChordClear 1 (some .boolean), Cond.methodLink RX0 86 yX0_countSounding, Cond.instanceMethod yX0_countSounding, Cond.selects RX0 yX0_countSounding yX0_countSounding, Cond.code yX0_countSounding cX0_countSounding 3 (some .int), Cond.methodLink RX0 62 yX0_isSounding, Cond.instanceMethod yX0_isSounding, Cond.selects RX0 yX0_isSounding yX0_isSounding, Cond.code yX0_isSounding cX0_isSounding 2 (some .boolean), Cond.fieldLink RX0 18 "TeapotChoir$Choir" "tea" "[I", Cond.methodLink RX0 58 yX0_countClashes, Cond.instanceMethod yX0_countClashes, Cond.selects RX0 yX0_countClashes yX0_countClashes]
def wsL_sing_r3 : List Cond := [Cond.code yX0_countClashes cX0_countClashes 3 (some .int), Cond.fieldLink RX0 15 "TeapotChoir$Choir" "pitch" "[I", Cond.methodLink RX0 83 yX0_countClashesAt, Cond.instanceMethod yX0_countClashesAt, Cond.selects RX0 yX0_countClashesAt yX0_countClashesAt, Cond.code yX0_countClashesAt cX0_countClashesAt 5 (some .int), Cond.static yX1_isAccord, Cond.code yX1_isAccord cX1_isAccord 2 (some .boolean), Cond.methodLink RX1 96 Lib.Math.abs.name, Cond.static Lib.Math.abs.name, Cond.code Lib.Math.abs.name Lib.Math.abs.code 1 (some .int), Cond.methodLink RX0 66 yX0_wear, Cond.instanceMethod yX0_wear, Cond.selects RX0 yX0_wear yX0_wear, Cond.code yX0_wear cX0_wear 2 none, Cond.methodLink RX0 76 Lib.Math.min.name, Cond.static Lib.Math.min.name, Cond.code Lib.Math.min.name Lib.Math.min.code 2 (some .int)]
def wsL_sing : List Cond := .codeWith yL_sing cL_sing 4 (some .int) [(0, 9, 12, 13)] :: ((wsL_sing_r1 ++ (wsL_sing_r2 ++ wsL_sing_r3)) ++ wsX10 ++ wsX00 ++ (vx_atS RX1 54 "java/lang/IllegalArgumentException" ["java/lang/RuntimeException", "java/lang/Exception"]).filter goodWord)
def wsL_partOf : List Cond := .codeWith yL_partOf cL_partOf 4 (some .int) [(0, 9, 12, 21)] :: ([.classLink RL 21 "java/lang/IndexOutOfBoundsException", .methodLink RL 40 yX1_partOf, .instanceMethod yX1_partOf, .selects RX1 yX1_partOf yX1_partOf, .initialized RX1, .code yX1_partOf cX1_partOf 2 (some .int), .fieldLink RX1 10 "TeapotChoir" "choir" "LTeapotChoir$Choir;", .fieldLink RX1 73 "TeapotChoir$Choir" "part" "[I", .methodLink RX1 38 yX1_requirePot, .instanceMethod yX1_requirePot, .selects RX1 yX1_requirePot yX1_requirePot, .code yX1_requirePot cX1_requirePot 2 none, .classLink RX1 80 "java/lang/IndexOutOfBoundsException", .initialized "java/lang/IndexOutOfBoundsException", .fieldLink RX1 23 "TeapotChoir$Choir" "count" "I"] ++ wsX10 ++ wsX00 ++ (vx_atS RX1 84 "java/lang/IndexOutOfBoundsException" ["java/lang/RuntimeException", "java/lang/Exception"]).filter goodWord)
def wsL_pitchOf : List Cond := .codeWith yL_pitchOf cL_pitchOf 4 (some .int) [(0, 9, 12, 21)] :: ([.classLink RL 21 "java/lang/IndexOutOfBoundsException", .methodLink RL 43 yX1_pitchOf, .instanceMethod yX1_pitchOf, .selects RX1 yX1_pitchOf yX1_pitchOf, .initialized RX1, .code yX1_pitchOf cX1_pitchOf 2 (some .int), .fieldLink RX1 10 "TeapotChoir" "choir" "LTeapotChoir$Choir;", .fieldLink RX1 42 "TeapotChoir$Choir" "pitch" "[I", .methodLink RX1 38 yX1_requirePot, .instanceMethod yX1_requirePot, .selects RX1 yX1_requirePot yX1_requirePot, .code yX1_requirePot cX1_requirePot 2 none, .classLink RX1 80 "java/lang/IndexOutOfBoundsException", .initialized "java/lang/IndexOutOfBoundsException", .fieldLink RX1 23 "TeapotChoir$Choir" "count" "I"] ++ wsX10 ++ wsX00 ++ (vx_atS RX1 84 "java/lang/IndexOutOfBoundsException" ["java/lang/RuntimeException", "java/lang/Exception"]).filter goodWord)
def wsL_teaOf : List Cond := .codeWith yL_teaOf cL_teaOf 4 (some .int) [(0, 9, 12, 21)] :: ([.classLink RL 21 "java/lang/IndexOutOfBoundsException", .methodLink RL 46 yX1_teaOf, .instanceMethod yX1_teaOf, .selects RX1 yX1_teaOf yX1_teaOf, .initialized RX1, .code yX1_teaOf cX1_teaOf 2 (some .int), .fieldLink RX1 10 "TeapotChoir" "choir" "LTeapotChoir$Choir;", .fieldLink RX1 55 "TeapotChoir$Choir" "tea" "[I", .methodLink RX1 38 yX1_requirePot, .instanceMethod yX1_requirePot, .selects RX1 yX1_requirePot yX1_requirePot, .code yX1_requirePot cX1_requirePot 2 none, .classLink RX1 80 "java/lang/IndexOutOfBoundsException", .initialized "java/lang/IndexOutOfBoundsException", .fieldLink RX1 23 "TeapotChoir$Choir" "count" "I"] ++ wsX10 ++ wsX00 ++ (vx_atS RX1 84 "java/lang/IndexOutOfBoundsException" ["java/lang/RuntimeException", "java/lang/Exception"]).filter goodWord)
def wsL_crackOf : List Cond := .codeWith yL_crackOf cL_crackOf 4 (some .int) [(0, 9, 12, 21)] :: ([.classLink RL 21 "java/lang/IndexOutOfBoundsException", .methodLink RL 49 yX1_crackOf, .instanceMethod yX1_crackOf, .selects RX1 yX1_crackOf yX1_crackOf, .initialized RX1, .code yX1_crackOf cX1_crackOf 2 (some .int), .fieldLink RX1 10 "TeapotChoir" "choir" "LTeapotChoir$Choir;", .fieldLink RX1 64 "TeapotChoir$Choir" "crack" "[I", .methodLink RX1 38 yX1_requirePot, .instanceMethod yX1_requirePot, .selects RX1 yX1_requirePot yX1_requirePot, .code yX1_requirePot cX1_requirePot 2 none, .classLink RX1 80 "java/lang/IndexOutOfBoundsException", .initialized "java/lang/IndexOutOfBoundsException", .fieldLink RX1 23 "TeapotChoir$Choir" "count" "I"] ++ wsX10 ++ wsX00 ++ (vx_atS RX1 84 "java/lang/IndexOutOfBoundsException" ["java/lang/RuntimeException", "java/lang/Exception"]).filter goodWord)
def wsL_sounds : List Cond := .codeWith yL_sounds cL_sounds 4 (some .int) [(0, 16, 19, 21)] :: ([.classLink RL 21 "java/lang/IndexOutOfBoundsException", .methodLink RL 52 yX1_sounds, .instanceMethod yX1_sounds, .selects RX1 yX1_sounds yX1_sounds, .initialized RX1, .code yX1_sounds cX1_sounds 2 (some .boolean), .fieldLink RX1 10 "TeapotChoir" "choir" "LTeapotChoir$Choir;", .methodLink RX1 38 yX1_requirePot, .instanceMethod yX1_requirePot, .selects RX1 yX1_requirePot yX1_requirePot, .code yX1_requirePot cX1_requirePot 2 none, .classLink RX1 80 "java/lang/IndexOutOfBoundsException", .initialized "java/lang/IndexOutOfBoundsException", .fieldLink RX1 23 "TeapotChoir$Choir" "count" "I", .methodLink RX1 76 yX0_isSounding, .instanceMethod yX0_isSounding, .selects RX0 yX0_isSounding yX0_isSounding, .initialized RX0, .code yX0_isSounding cX0_isSounding 2 (some .boolean), .fieldLink RX0 18 "TeapotChoir$Choir" "tea" "[I", .fieldLink RX0 24 "TeapotChoir$Choir" "cosy" "[Z"] ++ wsX10 ++ wsX00 ++ (vx_atS RX1 84 "java/lang/IndexOutOfBoundsException" ["java/lang/RuntimeException", "java/lang/Exception"]).filter goodWord)
def wsL_soundingOf : List Cond := .codeWith yL_soundingOf cL_soundingOf 4 (some .int) [(0, 9, 12, 21)] :: ([.classLink RL 21 "java/lang/IndexOutOfBoundsException", .methodLink RL 55 yX1_soundingOf, .instanceMethod yX1_soundingOf, .selects RX1 yX1_soundingOf yX1_soundingOf, .initialized RX1, .code yX1_soundingOf cX1_soundingOf 2 (some .int), .classLink RX1 80 "java/lang/IndexOutOfBoundsException", .initialized "java/lang/IndexOutOfBoundsException", .fieldLink RX1 10 "TeapotChoir" "choir" "LTeapotChoir$Choir;", .methodLink RX1 85 yX0_countSoundingIn, .instanceMethod yX0_countSoundingIn, .selects RX0 yX0_countSoundingIn yX0_countSoundingIn, .initialized RX0, .code yX0_countSoundingIn cX0_countSoundingIn 4 (some .int), .fieldLink RX0 31 "TeapotChoir$Choir" "count" "I", .fieldLink RX0 9 "TeapotChoir$Choir" "part" "[I", .methodLink RX0 62 yX0_isSounding, .instanceMethod yX0_isSounding, .selects RX0 yX0_isSounding yX0_isSounding, .code yX0_isSounding cX0_isSounding 2 (some .boolean), .fieldLink RX0 18 "TeapotChoir$Choir" "tea" "[I", .fieldLink RX0 24 "TeapotChoir$Choir" "cosy" "[Z"] ++ wsX10 ++ wsX00 ++ (vx_atS RX1 84 "java/lang/IndexOutOfBoundsException" ["java/lang/RuntimeException", "java/lang/Exception"]).filter goodWord)
def wsL_interval : List Cond := .codeWith yL_interval cL_interval 5 (some .int) [(0, 10, 13, 21)] :: ([.classLink RL 21 "java/lang/IndexOutOfBoundsException", .methodLink RL 58 yX1_interval, .instanceMethod yX1_interval, .selects RX1 yX1_interval yX1_interval, .initialized RX1, .code yX1_interval cX1_interval 3 (some .int), .fieldLink RX1 10 "TeapotChoir" "choir" "LTeapotChoir$Choir;", .fieldLink RX1 42 "TeapotChoir$Choir" "pitch" "[I", .methodLink RX1 96 Lib.Math.abs.name, .static Lib.Math.abs.name, .initialized "java/lang/Math", .code Lib.Math.abs.name Lib.Math.abs.code 1 (some .int), .methodLink RX1 38 yX1_requirePot, .instanceMethod yX1_requirePot, .selects RX1 yX1_requirePot yX1_requirePot, .code yX1_requirePot cX1_requirePot 2 none, .classLink RX1 80 "java/lang/IndexOutOfBoundsException", .initialized "java/lang/IndexOutOfBoundsException", .fieldLink RX1 23 "TeapotChoir$Choir" "count" "I"] ++ wsX10 ++ wsX00 ++ (vx_atS RX1 84 "java/lang/IndexOutOfBoundsException" ["java/lang/RuntimeException", "java/lang/Exception"]).filter goodWord)
def wsL_areInAccord : List Cond := .codeWith yL_areInAccord cL_areInAccord 5 (some .int) [(0, 17, 20, 21)] :: ([.classLink RL 21 "java/lang/IndexOutOfBoundsException", .methodLink RL 61 yX1_areInAccord, .instanceMethod yX1_areInAccord, .selects RX1 yX1_areInAccord yX1_areInAccord, .initialized RX1, .code yX1_areInAccord cX1_areInAccord 3 (some .boolean), .fieldLink RX1 10 "TeapotChoir" "choir" "LTeapotChoir$Choir;", .fieldLink RX1 42 "TeapotChoir$Choir" "pitch" "[I", .methodLink RX1 38 yX1_requirePot, .instanceMethod yX1_requirePot, .selects RX1 yX1_requirePot yX1_requirePot, .code yX1_requirePot cX1_requirePot 2 none, .classLink RX1 80 "java/lang/IndexOutOfBoundsException", .initialized "java/lang/IndexOutOfBoundsException", .fieldLink RX1 23 "TeapotChoir$Choir" "count" "I", .methodLink RX1 99 yX1_isAccord, .static yX1_isAccord, .code yX1_isAccord cX1_isAccord 2 (some .boolean), .methodLink RX1 96 Lib.Math.abs.name, .static Lib.Math.abs.name, .initialized "java/lang/Math", .code Lib.Math.abs.name Lib.Math.abs.code 1 (some .int)] ++ wsX10 ++ wsX00 ++ (vx_atS RX1 84 "java/lang/IndexOutOfBoundsException" ["java/lang/RuntimeException", "java/lang/Exception"]).filter goodWord)
def wsL_clashesOf_r1 : List Cond := [Cond.classLink RL 21 "java/lang/IndexOutOfBoundsException", Cond.methodLink RL 65 yX1_clashesOf, Cond.instanceMethod yX1_clashesOf, Cond.selects RX1 yX1_clashesOf yX1_clashesOf, Cond.initialized RX1, Cond.code yX1_clashesOf cX1_clashesOf 2 (some .int), Cond.fieldLink RX1 10 "TeapotChoir" "choir" "LTeapotChoir$Choir;", Cond.fieldLink RX1 42 "TeapotChoir$Choir" "pitch" "[I", Cond.methodLink RX1 38 yX1_requirePot, Cond.instanceMethod yX1_requirePot, Cond.selects RX1 yX1_requirePot yX1_requirePot, Cond.code yX1_requirePot cX1_requirePot 2 none, Cond.classLink RX1 80 "java/lang/IndexOutOfBoundsException", Cond.initialized "java/lang/IndexOutOfBoundsException", Cond.fieldLink RX1 23 "TeapotChoir$Choir" "count" "I", Cond.methodLink RX1 76 yX0_isSounding, Cond.instanceMethod yX0_isSounding, Cond.selects RX0 yX0_isSounding yX0_isSounding, Cond.initialized RX0, Cond.code yX0_isSounding cX0_isSounding 2 (some .boolean), Cond.fieldLink RX0 18 "TeapotChoir$Choir" "tea" "[I", Cond.fieldLink RX0 24 "TeapotChoir$Choir" "cosy" "[Z", Cond.methodLink RX1 109 yX0_countClashesAt, Cond.instanceMethod yX0_countClashesAt]
def wsL_clashesOf_r2 : List Cond := [Cond.selects RX0 yX0_countClashesAt yX0_countClashesAt, Cond.code yX0_countClashesAt cX0_countClashesAt 5 (some .int), Cond.fieldLink RX0 31 "TeapotChoir$Choir" "count" "I", Cond.fieldLink RX0 15 "TeapotChoir$Choir" "pitch" "[I", Cond.methodLink RX0 62 yX0_isSounding, Cond.static yX1_isAccord, Cond.code yX1_isAccord cX1_isAccord 2 (some .boolean), Cond.methodLink RX1 96 Lib.Math.abs.name, Cond.static Lib.Math.abs.name, Cond.initialized "java/lang/Math", Cond.code Lib.Math.abs.name Lib.Math.abs.code 1 (some .int)]
def wsL_clashesOf : List Cond := .codeWith yL_clashesOf cL_clashesOf 4 (some .int) [(0, 9, 12, 21)] :: ((wsL_clashesOf_r1 ++ wsL_clashesOf_r2) ++ wsX10 ++ wsX00 ++ (vx_atS RX1 84 "java/lang/IndexOutOfBoundsException" ["java/lang/RuntimeException", "java/lang/Exception"]).filter goodWord)
def wsL_bestTuning_r1 : List Cond := [Cond.classLink RL 21 "java/lang/IndexOutOfBoundsException", Cond.methodLink RL 68 yX1_bestTuning, Cond.instanceMethod yX1_bestTuning, Cond.selects RX1 yX1_bestTuning yX1_bestTuning, Cond.initialized RX1, Cond.code yX1_bestTuning cX1_bestTuning 2 (some .int), Cond.fieldLink RX1 10 "TeapotChoir" "choir" "LTeapotChoir$Choir;", Cond.methodLink RX1 38 yX1_requirePot, Cond.instanceMethod yX1_requirePot, Cond.selects RX1 yX1_requirePot yX1_requirePot, Cond.code yX1_requirePot cX1_requirePot 2 none, Cond.classLink RX1 80 "java/lang/IndexOutOfBoundsException", Cond.initialized "java/lang/IndexOutOfBoundsException", Cond.fieldLink RX1 23 "TeapotChoir$Choir" "count" "I", Cond.methodLink RX1 76 yX0_isSounding, Cond.instanceMethod yX0_isSounding, Cond.selects RX0 yX0_isSounding yX0_isSounding, Cond.initialized RX0, Cond.code yX0_isSounding cX0_isSounding 2 (some .boolean), Cond.fieldLink RX0 18 "TeapotChoir$Choir" "tea" "[I", Cond.fieldLink RX0 24 "TeapotChoir$Choir" "cosy" "[Z", Cond.methodLink RX1 122 yX0_findBestTuning, Cond.instanceMethod yX0_findBestTuning, Cond.selects RX0 yX0_findBestTuning yX0_findBestTuning]
def wsL_bestTuning_r2 : List Cond := [Cond.code yX0_findBestTuning cX0_findBestTuning 8 (some .int), Cond.fieldLink RX0 15 "TeapotChoir$Choir" "pitch" "[I", Cond.methodLink RX0 89 Lib.Math.abs.name, Cond.static Lib.Math.abs.name, Cond.initialized "java/lang/Math", Cond.code Lib.Math.abs.name Lib.Math.abs.code 1 (some .int), Cond.methodLink RX0 83 yX0_countClashesAt, Cond.instanceMethod yX0_countClashesAt, Cond.selects RX0 yX0_countClashesAt yX0_countClashesAt, Cond.code yX0_countClashesAt cX0_countClashesAt 5 (some .int), Cond.fieldLink RX0 31 "TeapotChoir$Choir" "count" "I", Cond.methodLink RX0 62 yX0_isSounding, Cond.static yX1_isAccord, Cond.code yX1_isAccord cX1_isAccord 2 (some .boolean), Cond.methodLink RX1 96 Lib.Math.abs.name]
def wsL_bestTuning : List Cond := .codeWith yL_bestTuning cL_bestTuning 4 (some .int) [(0, 9, 12, 21)] :: ((wsL_bestTuning_r1 ++ wsL_bestTuning_r2) ++ wsX10 ++ wsX00 ++ (vx_atS RX1 84 "java/lang/IndexOutOfBoundsException" ["java/lang/RuntimeException", "java/lang/Exception"]).filter goodWord)
def wsL_harmonyIn_r1 : List Cond := [Cond.classLink RL 13 "java/lang/IllegalArgumentException", Cond.methodLink RL 71 yX1_harmonyIn, Cond.instanceMethod yX1_harmonyIn, Cond.selects RX1 yX1_harmonyIn yX1_harmonyIn, Cond.initialized RX1, Cond.code yX1_harmonyIn cX1_harmonyIn 2 (some .int), Cond.fieldLink RX1 16 "TeapotChoir" "trial" "LTeapotChoir$Choir;", Cond.fieldLink RX1 10 "TeapotChoir" "choir" "LTeapotChoir$Choir;", Cond.methodLink RX1 19 yX1_requireWithin, Cond.static yX1_requireWithin, Cond.code yX1_requireWithin cX1_requireWithin 3 none, Cond.classLink RX1 50 "java/lang/IllegalArgumentException", Cond.initialized "java/lang/IllegalArgumentException", Cond.methodLink RX1 125 yX0_becomeLike, Cond.instanceMethod yX0_becomeLike, Cond.selects RX0 yX0_becomeLike yX0_becomeLike, Cond.initialized RX0, Cond.code yX0_becomeLike cX0_becomeLike 2 none, Cond.fieldLink RX0 9 "TeapotChoir$Choir" "part" "[I", Cond.methodLink RX0 35 arraycopyName, Cond.native arraycopyName, Cond.static arraycopyName, Cond.initialized "java/lang/System", Cond.fieldLink RX0 15 "TeapotChoir$Choir" "pitch" "[I"]
def wsL_harmonyIn_r2 : List Cond := [Cond.fieldLink RX0 18 "TeapotChoir$Choir" "tea" "[I", Cond.fieldLink RX0 21 "TeapotChoir$Choir" "crack" "[I", Cond.fieldLink RX0 24 "TeapotChoir$Choir" "cosy" "[Z", Cond.fieldLink RX0 31 "TeapotChoir$Choir" "count" "I", Cond.fieldLink RX0 41 "TeapotChoir$Choir" "beat" "I", Cond.fieldLink RX0 44 "TeapotChoir$Choir" "cadenceCount" "I", Cond.fieldLink RX0 47 "TeapotChoir$Choir" "clashAhead" "Z", Cond.methodLink RX1 70 yX0_passBeats, Cond.instanceMethod yX0_passBeats, Cond.selects RX0 yX0_passBeats yX0_passBeats, Cond.code yX0_passBeats cX0_passBeats 3 none, Cond.methodLink RX0 51 yX0_passBeat, Cond.instanceMethod yX0_passBeat, Cond.selects RX0 yX0_passBeat yX0_passBeat, Cond.code yX0_passBeat cX0_passBeat 2 none, Cond.methodLink RX0 70 Lib.Math.max.name, Cond.static Lib.Math.max.name, Cond.initialized "java/lang/Math", Cond.code Lib.Math.max.name Lib.Math.max.code 2 (some .int), Cond.methodLink RX0 54 yX0_isChordClear, Cond.instanceMethod yX0_isChordClear, Cond.selects RX0 yX0_isChordClear yX0_isChordClear, Cond.code yX0_isChordClear cX0_isChordClear 1 (some .boolean), Cond.methodLink RX0 86 yX0_countSounding]
def wsL_harmonyIn_r3 : List Cond := [Cond.instanceMethod yX0_countSounding, Cond.selects RX0 yX0_countSounding yX0_countSounding, Cond.code yX0_countSounding cX0_countSounding 3 (some .int), Cond.methodLink RX0 62 yX0_isSounding, Cond.instanceMethod yX0_isSounding, Cond.selects RX0 yX0_isSounding yX0_isSounding, Cond.code yX0_isSounding cX0_isSounding 2 (some .boolean), Cond.methodLink RX0 58 yX0_countClashes, Cond.instanceMethod yX0_countClashes, Cond.selects RX0 yX0_countClashes yX0_countClashes, Cond.code yX0_countClashes cX0_countClashes 3 (some .int), Cond.methodLink RX0 83 yX0_countClashesAt, Cond.instanceMethod yX0_countClashesAt, Cond.selects RX0 yX0_countClashesAt yX0_countClashesAt, Cond.code yX0_countClashesAt cX0_countClashesAt 5 (some .int), Cond.static yX1_isAccord, Cond.code yX1_isAccord cX1_isAccord 2 (some .boolean), Cond.methodLink RX1 96 Lib.Math.abs.name, Cond.static Lib.Math.abs.name, Cond.code Lib.Math.abs.name Lib.Math.abs.code 1 (some .int), Cond.methodLink RX0 66 yX0_wear, Cond.instanceMethod yX0_wear, Cond.selects RX0 yX0_wear yX0_wear, Cond.code yX0_wear cX0_wear 2 none]
def wsL_harmonyIn_r4 : List Cond := [Cond.methodLink RX0 76 Lib.Math.min.name, Cond.static Lib.Math.min.name, Cond.code Lib.Math.min.name Lib.Math.min.code 2 (some .int), Cond.methodLink RX1 103 yX0_harmonyNow, Cond.instanceMethod yX0_harmonyNow, Cond.selects RX0 yX0_harmonyNow yX0_harmonyNow, Cond.code yX0_harmonyNow cX0_harmonyNow 3 (some .int)]
def wsL_harmonyIn : List Cond := .codeWith yL_harmonyIn cL_harmonyIn 4 (some .int) [(0, 9, 12, 13)] :: ((wsL_harmonyIn_r1 ++ (wsL_harmonyIn_r2 ++ (wsL_harmonyIn_r3 ++ wsL_harmonyIn_r4))) ++ wsX10 ++ wsX00 ++ (vx_atS RX1 54 "java/lang/IllegalArgumentException" ["java/lang/RuntimeException", "java/lang/Exception"]).filter goodWord)
def wsL_law0_r1 : List Cond := [Cond.classLink RL 8 RX1, Cond.instantiable RX1 2, Cond.initialized RX1, Cond.classLink RL 75 RX2, Cond.instantiable RX2 6, Cond.initialized RX2, Cond.arrayClass .long, Cond.methodLink RL 74 yX1_init, Cond.instanceMethod yX1_init, Cond.code yX1_init cX1_init 1 none, Cond.methodLink RX1 1 objectInit, Cond.instanceMethod objectInit, Cond.code objectInit ⟨#[0xb1]⟩ 1 none, Cond.classLink RX1 7 RX0, Cond.instantiable RX0 10, Cond.initialized RX0, Cond.fieldLink RX1 10 "TeapotChoir" "choir" "LTeapotChoir$Choir;", Cond.fieldLink RX1 16 "TeapotChoir" "trial" "LTeapotChoir$Choir;", Cond.instanceMethod yX0_init, Cond.code yX0_init cX0_init 1 none, Cond.methodLink RX0 3 objectInit, Cond.arrayClass .int, Cond.fieldLink RX0 9 "TeapotChoir$Choir" "part" "[I", Cond.fieldLink RX0 15 "TeapotChoir$Choir" "pitch" "[I"]
def wsL_law0_r2 : List Cond := [Cond.fieldLink RX0 18 "TeapotChoir$Choir" "tea" "[I", Cond.fieldLink RX0 21 "TeapotChoir$Choir" "crack" "[I", Cond.arrayClass .boolean, Cond.fieldLink RX0 24 "TeapotChoir$Choir" "cosy" "[Z", Cond.fieldLink RX0 28 "TeapotChoir$Choir" "barred" "[I", Cond.methodLink RL 77 yX2_init, Cond.instanceMethod yX2_init, Cond.code yX2_init cX2_init 1 none, Cond.methodLink RX2 3 objectInit, Cond.fieldLink RX2 9 "TeapotChoirModel" "part" "[I", Cond.fieldLink RX2 13 "TeapotChoirModel" "now" "[I", Cond.fieldLink RX2 16 "TeapotChoirModel" "kept" "[I", Cond.methodLink RL 78 yL_addPot, Cond.static yL_addPot, Cond.initialized RL, Cond.codeWith yL_addPot cL_addPot 6 (some .int) [(0, 12, 15, 13), (0, 12, 19, 15)], Cond.classLink RL 13 "java/lang/IllegalArgumentException", Cond.classLink RL 15 "java/lang/IllegalStateException", Cond.methodLink RL 7 yX1_addPot, Cond.instanceMethod yX1_addPot, Cond.selects RX1 yX1_addPot yX1_addPot, Cond.code yX1_addPot cX1_addPot 4 (some .int), Cond.classLink RX1 27 "java/lang/IllegalStateException", Cond.initialized "java/lang/IllegalStateException"]
def wsL_law0_r3 : List Cond := [Cond.fieldLink RX1 23 "TeapotChoir$Choir" "count" "I", Cond.methodLink RX1 19 yX1_requireWithin, Cond.static yX1_requireWithin, Cond.code yX1_requireWithin cX1_requireWithin 3 none, Cond.classLink RX1 50 "java/lang/IllegalArgumentException", Cond.initialized "java/lang/IllegalArgumentException", Cond.methodLink RX1 34 yX0_admit, Cond.instanceMethod yX0_admit, Cond.selects RX0 yX0_admit yX0_admit, Cond.code yX0_admit cX0_admit 5 (some .int), Cond.fieldLink RX0 31 "TeapotChoir$Choir" "count" "I", Cond.methodLink RL 83 yX2_addPot, Cond.instanceMethod yX2_addPot, Cond.selects RX2 yX2_addPot yX2_addPot, Cond.code yX2_addPot cX2_addPot 4 (some .int), Cond.fieldLink RX2 19 "TeapotChoirModel" "thrown" "I", Cond.fieldLink RX2 23 "TeapotChoirModel" "pots" "I", Cond.methodLink RX2 26 yX2_isIn, Cond.static yX2_isIn, Cond.code yX2_isIn cX2_isIn 3 (some .boolean), Cond.methodLink RX2 85 yX2_no, Cond.instanceMethod yX2_no, Cond.selects RX2 yX2_no yX2_no, Cond.code yX2_no cX2_no 2 (some .int)]
def wsL_law0_r4 : List Cond := [Cond.methodLink RL 84 yX2_thrown, Cond.instanceMethod yX2_thrown, Cond.selects RX2 yX2_thrown yX2_thrown, Cond.code yX2_thrown cX2_thrown 1 (some .int), Cond.methodLink RL 88 yL_tune, Cond.static yL_tune, Cond.codeWith yL_tune cL_tune 5 (some .int) [(0, 10, 13, 21), (0, 10, 17, 13)], Cond.classLink RL 21 "java/lang/IndexOutOfBoundsException", Cond.methodLink RL 17 yX1_tune, Cond.instanceMethod yX1_tune, Cond.selects RX1 yX1_tune yX1_tune, Cond.code yX1_tune cX1_tune 4 (some .int), Cond.fieldLink RX1 42 "TeapotChoir$Choir" "pitch" "[I", Cond.methodLink RX1 38 yX1_requirePot, Cond.instanceMethod yX1_requirePot, Cond.selects RX1 yX1_requirePot yX1_requirePot, Cond.code yX1_requirePot cX1_requirePot 2 none, Cond.classLink RX1 80 "java/lang/IndexOutOfBoundsException", Cond.initialized "java/lang/IndexOutOfBoundsException", Cond.methodLink RL 91 yX2_tune, Cond.instanceMethod yX2_tune, Cond.selects RX2 yX2_tune yX2_tune, Cond.code yX2_tune cX2_tune 3 (some .int), Cond.methodLink RX2 88 yX2_isPot]
def wsL_law0_r5 : List Cond := [Cond.instanceMethod yX2_isPot, Cond.selects RX2 yX2_isPot yX2_isPot, Cond.code yX2_isPot cX2_isPot 2 (some .boolean), Cond.methodLink RL 92 yL_turnCosy, Cond.static yL_turnCosy, Cond.codeWith yL_turnCosy cL_turnCosy 4 (some .int) [(0, 16, 19, 21)], Cond.methodLink RL 23 yX1_turnCosy, Cond.instanceMethod yX1_turnCosy, Cond.selects RX1 yX1_turnCosy yX1_turnCosy, Cond.code yX1_turnCosy cX1_turnCosy 2 (some .boolean), Cond.fieldLink RX1 46 "TeapotChoir$Choir" "cosy" "[Z", Cond.methodLink RL 95 yX2_turnCosy, Cond.instanceMethod yX2_turnCosy, Cond.selects RX2 yX2_turnCosy yX2_turnCosy, Cond.code yX2_turnCosy cX2_turnCosy 2 (some .boolean), Cond.fieldLink RX2 36 "TeapotChoirModel" "cosies" "I", Cond.methodLink RX2 91 yX2_isNot, Cond.instanceMethod yX2_isNot, Cond.selects RX2 yX2_isNot yX2_isNot, Cond.code yX2_isNot cX2_isNot 2 (some .boolean), Cond.methodLink RL 96 yL_pour, Cond.static yL_pour, Cond.codeWith yL_pour cL_pour 6 (some .int) [(0, 12, 15, 21), (0, 12, 19, 13)], Cond.methodLink RL 27 yX1_pour]
def wsL_law0_r6 : List Cond := [Cond.instanceMethod yX1_pour, Cond.selects RX1 yX1_pour yX1_pour, Cond.code yX1_pour cX1_pour 5 (some .int), Cond.fieldLink RX1 55 "TeapotChoir$Choir" "tea" "[I", Cond.methodLink RX1 58 Lib.Math.min.name, Cond.static Lib.Math.min.name, Cond.initialized "java/lang/Math", Cond.code Lib.Math.min.name Lib.Math.min.code 2 (some .int), Cond.methodLink RL 98 yX2_pour, Cond.instanceMethod yX2_pour, Cond.selects RX2 yX2_pour yX2_pour, Cond.code yX2_pour cX2_pour 5 (some .int), Cond.methodLink RX2 79 Lib.Math.min.name, Cond.methodLink RL 99 yL_fill, Cond.static yL_fill, Cond.codeWith yL_fill cL_fill 4 (some .int) [(0, 9, 12, 21)], Cond.methodLink RL 30 yX1_fill, Cond.instanceMethod yX1_fill, Cond.selects RX1 yX1_fill yX1_fill, Cond.code yX1_fill cX1_fill 3 (some .int), Cond.methodLink RL 101 yX2_fill, Cond.instanceMethod yX2_fill, Cond.selects RX2 yX2_fill yX2_fill, Cond.code yX2_fill cX2_fill 3 (some .int)]
def wsL_law0_r7 : List Cond := [Cond.methodLink RL 102 yL_mend, Cond.static yL_mend, Cond.codeWith yL_mend cL_mend 4 (some .int) [(0, 9, 12, 21)], Cond.methodLink RL 34 yX1_mend, Cond.instanceMethod yX1_mend, Cond.selects RX1 yX1_mend yX1_mend, Cond.code yX1_mend cX1_mend 3 (some .int), Cond.fieldLink RX1 64 "TeapotChoir$Choir" "crack" "[I", Cond.methodLink RL 104 yX2_mend, Cond.instanceMethod yX2_mend, Cond.selects RX2 yX2_mend yX2_mend, Cond.code yX2_mend cX2_mend 3 (some .int), Cond.methodLink RL 105 yL_sing, Cond.static yL_sing, Cond.codeWith yL_sing cL_sing 4 (some .int) [(0, 9, 12, 13)], Cond.methodLink RL 37 yX1_sing, Cond.instanceMethod yX1_sing, Cond.selects RX1 yX1_sing yX1_sing, Cond.code yX1_sing cX1_sing 3 (some .int), Cond.fieldLink RX1 67 "TeapotChoir$Choir" "cadenceCount" "I", Cond.methodLink RX1 70 yX0_passBeats, Cond.instanceMethod yX0_passBeats, Cond.selects RX0 yX0_passBeats yX0_passBeats, Cond.code yX0_passBeats cX0_passBeats 3 none]
def wsL_law0_r8 : List Cond := [Cond.methodLink RX0 51 yX0_passBeat, Cond.instanceMethod yX0_passBeat, Cond.selects RX0 yX0_passBeat yX0_passBeat, Cond.code yX0_passBeat cX0_passBeat 2 none, Cond.fieldLink RX0 47 "TeapotChoir$Choir" "clashAhead" "Z", Cond.fieldLink RX0 44 "TeapotChoir$Choir" "cadenceCount" "I", Cond.fieldLink RX0 41 "TeapotChoir$Choir" "beat" "I", Cond.methodLink RX0 70 Lib.Math.max.name, Cond.static Lib.Math.max.name, Cond.code Lib.Math.max.name Lib.Math.max.code 2 (some .int), Cond.methodLink RX0 54 yX0_isChordClear, Cond.instanceMethod yX0_isChordClear, Cond.selects RX0 yX0_isChordClear yX0_isChordClear, Cond.code yX0_isChordClear cX0_isChordClear 1 (some .boolean), Cond.methodLink RX0 86 yX0_countSounding, Cond.instanceMethod yX0_countSounding, Cond.selects RX0 yX0_countSounding yX0_countSounding, Cond.code yX0_countSounding cX0_countSounding 3 (some .int), Cond.methodLink RX0 62 yX0_isSounding, Cond.instanceMethod yX0_isSounding, Cond.selects RX0 yX0_isSounding yX0_isSounding, Cond.code yX0_isSounding cX0_isSounding 2 (some .boolean), Cond.methodLink RX0 58 yX0_countClashes, Cond.instanceMethod yX0_countClashes]
def wsL_law0_r9 : List Cond := [Cond.selects RX0 yX0_countClashes yX0_countClashes, Cond.code yX0_countClashes cX0_countClashes 3 (some .int), Cond.methodLink RX0 83 yX0_countClashesAt, Cond.instanceMethod yX0_countClashesAt, Cond.selects RX0 yX0_countClashesAt yX0_countClashesAt, Cond.code yX0_countClashesAt cX0_countClashesAt 5 (some .int), Cond.static yX1_isAccord, Cond.code yX1_isAccord cX1_isAccord 2 (some .boolean), Cond.methodLink RX1 96 Lib.Math.abs.name, Cond.static Lib.Math.abs.name, Cond.code Lib.Math.abs.name Lib.Math.abs.code 1 (some .int), Cond.methodLink RX0 66 yX0_wear, Cond.instanceMethod yX0_wear, Cond.selects RX0 yX0_wear yX0_wear, Cond.code yX0_wear cX0_wear 2 none, Cond.methodLink RX0 76 Lib.Math.min.name, Cond.methodLink RL 107 yX2_sing, Cond.instanceMethod yX2_sing, Cond.selects RX2 yX2_sing yX2_sing, Cond.code yX2_sing cX2_sing 2 (some .int), Cond.methodLink RX2 94 yX2_beats, Cond.instanceMethod yX2_beats, Cond.selects RX2 yX2_beats yX2_beats, Cond.code yX2_beats cX2_beats 4 (some .int)]
def wsL_law0_r10 : List Cond := [Cond.methodLink RX2 82 yX2_beat, Cond.instanceMethod yX2_beat, Cond.selects RX2 yX2_beat yX2_beat, Cond.code yX2_beat cX2_beat 8 (some .int), Cond.methodLink RX2 76 Lib.Math.max.name, Cond.methodLink RX2 68 yX2_set, Cond.instanceMethod yX2_set, Cond.selects RX2 yX2_set yX2_set, Cond.code yX2_set cX2_set 3 (some .int), Cond.methodLink RX2 39 yX2_heard, Cond.instanceMethod yX2_heard, Cond.selects RX2 yX2_heard yX2_heard, Cond.code yX2_heard cX2_heard 2 (some .boolean), Cond.methodLink RX2 65 yX2_allClashes, Cond.instanceMethod yX2_allClashes, Cond.selects RX2 yX2_allClashes yX2_allClashes, Cond.code yX2_allClashes cX2_allClashes 4 (some .int), Cond.methodLink RX2 57 yX2_against, Cond.instanceMethod yX2_against, Cond.selects RX2 yX2_against yX2_against, Cond.code yX2_against cX2_against 5 (some .int), Cond.methodLink RX2 53 yX2_accord, Cond.instanceMethod yX2_accord, Cond.selects RX2 yX2_accord yX2_accord]
def wsL_law0_r11 : List Cond := [Cond.code yX2_accord cX2_accord 3 (some .boolean), Cond.methodLink RX2 49 yX2_apart, Cond.instanceMethod yX2_apart, Cond.selects RX2 yX2_apart yX2_apart, Cond.code yX2_apart cX2_apart 3 (some .int), Cond.methodLink RX2 43 Lib.Math.abs.name, Cond.methodLink RX2 72 yX2_clear, Cond.instanceMethod yX2_clear, Cond.selects RX2 yX2_clear yX2_clear, Cond.code yX2_clear cX2_clear 1 (some .boolean), Cond.methodLink RX2 60 yJ6_bitCount_0f7a4, Cond.static yJ6_bitCount_0f7a4, Cond.initialized RJ6, Cond.code yJ6_bitCount_0f7a4 cJ6_bitCount_0f7a4 1 (some .int), Cond.constant RJ6 265 (1431655765), Cond.constant RJ6 266 (858993459), Cond.constant RJ6 267 (252645135), Cond.methodLink RL 108 yX1_pots, Cond.instanceMethod yX1_pots, Cond.selects RX1 yX1_pots yX1_pots, Cond.code yX1_pots cX1_pots 1 (some .int), Cond.methodLink RL 111 yX2_pots, Cond.instanceMethod yX2_pots, Cond.selects RX2 yX2_pots yX2_pots]
def wsL_law0_r12 : List Cond := [Cond.code yX2_pots cX2_pots 1 (some .int), Cond.methodLink RX2 97 yX2_ok, Cond.instanceMethod yX2_ok, Cond.selects RX2 yX2_ok yX2_ok, Cond.code yX2_ok cX2_ok 2 (some .int), Cond.methodLink RL 112 yL_partOf, Cond.static yL_partOf, Cond.codeWith yL_partOf cL_partOf 4 (some .int) [(0, 9, 12, 21)], Cond.methodLink RL 40 yX1_partOf, Cond.instanceMethod yX1_partOf, Cond.selects RX1 yX1_partOf yX1_partOf, Cond.code yX1_partOf cX1_partOf 2 (some .int), Cond.fieldLink RX1 73 "TeapotChoir$Choir" "part" "[I", Cond.methodLink RL 114 yX2_partOf, Cond.instanceMethod yX2_partOf, Cond.selects RX2 yX2_partOf yX2_partOf, Cond.code yX2_partOf cX2_partOf 2 (some .int), Cond.methodLink RL 115 yL_pitchOf, Cond.static yL_pitchOf, Cond.codeWith yL_pitchOf cL_pitchOf 4 (some .int) [(0, 9, 12, 21)], Cond.methodLink RL 43 yX1_pitchOf, Cond.instanceMethod yX1_pitchOf, Cond.selects RX1 yX1_pitchOf yX1_pitchOf, Cond.code yX1_pitchOf cX1_pitchOf 2 (some .int)]
def wsL_law0_r13 : List Cond := [Cond.methodLink RL 117 yX2_pitchOf, Cond.instanceMethod yX2_pitchOf, Cond.selects RX2 yX2_pitchOf yX2_pitchOf, Cond.code yX2_pitchOf cX2_pitchOf 2 (some .int), Cond.methodLink RX2 100 yX2_of, Cond.instanceMethod yX2_of, Cond.selects RX2 yX2_of yX2_of, Cond.code yX2_of cX2_of 3 (some .int), Cond.methodLink RL 118 yL_teaOf, Cond.static yL_teaOf, Cond.codeWith yL_teaOf cL_teaOf 4 (some .int) [(0, 9, 12, 21)], Cond.methodLink RL 46 yX1_teaOf, Cond.instanceMethod yX1_teaOf, Cond.selects RX1 yX1_teaOf yX1_teaOf, Cond.code yX1_teaOf cX1_teaOf 2 (some .int), Cond.methodLink RL 120 yX2_teaOf, Cond.instanceMethod yX2_teaOf, Cond.selects RX2 yX2_teaOf yX2_teaOf, Cond.code yX2_teaOf cX2_teaOf 2 (some .int), Cond.methodLink RL 121 yL_crackOf, Cond.static yL_crackOf, Cond.codeWith yL_crackOf cL_crackOf 4 (some .int) [(0, 9, 12, 21)], Cond.methodLink RL 49 yX1_crackOf, Cond.instanceMethod yX1_crackOf]
def wsL_law0_r14 : List Cond := [Cond.selects RX1 yX1_crackOf yX1_crackOf, Cond.code yX1_crackOf cX1_crackOf 2 (some .int), Cond.methodLink RL 123 yX2_crackOf, Cond.instanceMethod yX2_crackOf, Cond.selects RX2 yX2_crackOf yX2_crackOf, Cond.code yX2_crackOf cX2_crackOf 2 (some .int), Cond.methodLink RL 124 yL_sounds, Cond.static yL_sounds, Cond.codeWith yL_sounds cL_sounds 4 (some .int) [(0, 16, 19, 21)], Cond.methodLink RL 52 yX1_sounds, Cond.instanceMethod yX1_sounds, Cond.selects RX1 yX1_sounds yX1_sounds, Cond.code yX1_sounds cX1_sounds 2 (some .boolean), Cond.methodLink RX1 76 yX0_isSounding, Cond.methodLink RL 126 yX2_sounds, Cond.instanceMethod yX2_sounds, Cond.selects RX2 yX2_sounds yX2_sounds, Cond.code yX2_sounds cX2_sounds 2 (some .boolean), Cond.methodLink RL 127 yL_soundingOf, Cond.static yL_soundingOf, Cond.codeWith yL_soundingOf cL_soundingOf 4 (some .int) [(0, 9, 12, 21)], Cond.methodLink RL 55 yX1_soundingOf, Cond.instanceMethod yX1_soundingOf, Cond.selects RX1 yX1_soundingOf yX1_soundingOf]
def wsL_law0_r15 : List Cond := [Cond.code yX1_soundingOf cX1_soundingOf 2 (some .int), Cond.methodLink RX1 85 yX0_countSoundingIn, Cond.instanceMethod yX0_countSoundingIn, Cond.selects RX0 yX0_countSoundingIn yX0_countSoundingIn, Cond.code yX0_countSoundingIn cX0_countSoundingIn 4 (some .int), Cond.methodLink RL 129 yX2_soundingOf, Cond.instanceMethod yX2_soundingOf, Cond.selects RX2 yX2_soundingOf yX2_soundingOf, Cond.code yX2_soundingOf cX2_soundingOf 4 (some .int), Cond.methodLink RL 130 yX1_beats, Cond.instanceMethod yX1_beats, Cond.selects RX1 yX1_beats yX1_beats, Cond.code yX1_beats cX1_beats 1 (some .int), Cond.fieldLink RX1 89 "TeapotChoir$Choir" "beat" "I", Cond.methodLink RL 133 yX2_beats_, Cond.instanceMethod yX2_beats_, Cond.selects RX2 yX2_beats_ yX2_beats_, Cond.code yX2_beats_ cX2_beats_ 1 (some .int), Cond.methodLink RL 134 yX1_sounding, Cond.instanceMethod yX1_sounding, Cond.selects RX1 yX1_sounding yX1_sounding, Cond.code yX1_sounding cX1_sounding 1 (some .int), Cond.methodLink RX1 92 yX0_countSounding, Cond.methodLink RL 137 yX2_sounding]
def wsL_law0_r16 : List Cond := [Cond.instanceMethod yX2_sounding, Cond.selects RX2 yX2_sounding yX2_sounding, Cond.code yX2_sounding cX2_sounding 1 (some .int), Cond.methodLink RL 138 yL_interval, Cond.static yL_interval, Cond.codeWith yL_interval cL_interval 5 (some .int) [(0, 10, 13, 21)], Cond.methodLink RL 58 yX1_interval, Cond.instanceMethod yX1_interval, Cond.selects RX1 yX1_interval yX1_interval, Cond.code yX1_interval cX1_interval 3 (some .int), Cond.methodLink RL 140 yX2_interval, Cond.instanceMethod yX2_interval, Cond.selects RX2 yX2_interval yX2_interval, Cond.code yX2_interval cX2_interval 3 (some .int), Cond.methodLink RL 141 yL_areInAccord, Cond.static yL_areInAccord, Cond.codeWith yL_areInAccord cL_areInAccord 5 (some .int) [(0, 17, 20, 21)], Cond.methodLink RL 61 yX1_areInAccord, Cond.instanceMethod yX1_areInAccord, Cond.selects RX1 yX1_areInAccord yX1_areInAccord, Cond.code yX1_areInAccord cX1_areInAccord 3 (some .boolean), Cond.methodLink RX1 99 yX1_isAccord, Cond.methodLink RL 143 yX2_areInAccord, Cond.instanceMethod yX2_areInAccord]
def wsL_law0_r17 : List Cond := [Cond.selects RX2 yX2_areInAccord yX2_areInAccord, Cond.code yX2_areInAccord cX2_areInAccord 3 (some .boolean), Cond.methodLink RL 144 yX1_harmony, Cond.instanceMethod yX1_harmony, Cond.selects RX1 yX1_harmony yX1_harmony, Cond.code yX1_harmony cX1_harmony 1 (some .int), Cond.methodLink RX1 103 yX0_harmonyNow, Cond.instanceMethod yX0_harmonyNow, Cond.selects RX0 yX0_harmonyNow yX0_harmonyNow, Cond.code yX0_harmonyNow cX0_harmonyNow 3 (some .int), Cond.methodLink RL 147 yX2_harmony, Cond.instanceMethod yX2_harmony, Cond.selects RX2 yX2_harmony yX2_harmony, Cond.code yX2_harmony cX2_harmony 1 (some .int), Cond.methodLink RX2 103 yX2_harmonyOf, Cond.instanceMethod yX2_harmonyOf, Cond.selects RX2 yX2_harmonyOf yX2_harmonyOf, Cond.code yX2_harmonyOf cX2_harmonyOf 3 (some .int), Cond.methodLink RL 148 yX1_clashes, Cond.instanceMethod yX1_clashes, Cond.selects RX1 yX1_clashes yX1_clashes, Cond.code yX1_clashes cX1_clashes 1 (some .int), Cond.methodLink RX1 106 yX0_countClashes, Cond.methodLink RL 151 yX2_clashes]
def wsL_law0_r18 : List Cond := [Cond.instanceMethod yX2_clashes, Cond.selects RX2 yX2_clashes yX2_clashes, Cond.code yX2_clashes cX2_clashes 1 (some .int), Cond.methodLink RL 152 yL_clashesOf, Cond.static yL_clashesOf, Cond.codeWith yL_clashesOf cL_clashesOf 4 (some .int) [(0, 9, 12, 21)], Cond.methodLink RL 65 yX1_clashesOf, Cond.instanceMethod yX1_clashesOf, Cond.selects RX1 yX1_clashesOf yX1_clashesOf, Cond.code yX1_clashesOf cX1_clashesOf 2 (some .int), Cond.methodLink RX1 109 yX0_countClashesAt, Cond.methodLink RL 154 yX2_clashesOf, Cond.instanceMethod yX2_clashesOf, Cond.selects RX2 yX2_clashesOf yX2_clashesOf, Cond.code yX2_clashesOf cX2_clashesOf 2 (some .int), Cond.methodLink RX2 106 yX2_clashing, Cond.instanceMethod yX2_clashing, Cond.selects RX2 yX2_clashing yX2_clashing, Cond.code yX2_clashing cX2_clashing 2 (some .int), Cond.methodLink RL 155 yX1_harshest, Cond.instanceMethod yX1_harshest, Cond.selects RX1 yX1_harshest yX1_harshest, Cond.code yX1_harshest cX1_harshest 1 (some .int), Cond.methodLink RX1 112 yX0_findMostClashing]
def wsL_law0_r19 : List Cond := [Cond.instanceMethod yX0_findMostClashing, Cond.selects RX0 yX0_findMostClashing yX0_findMostClashing, Cond.code yX0_findMostClashing cX0_findMostClashing 5 (some .int), Cond.methodLink RL 158 yX2_harshest, Cond.instanceMethod yX2_harshest, Cond.selects RX2 yX2_harshest yX2_harshest, Cond.code yX2_harshest cX2_harshest 1 (some .int), Cond.methodLink RX2 109 yX2_harsh, Cond.instanceMethod yX2_harsh, Cond.selects RX2 yX2_harsh yX2_harsh, Cond.code yX2_harsh cX2_harsh 3 (some .int), Cond.methodLink RL 159 yX1_lowest, Cond.instanceMethod yX1_lowest, Cond.selects RX1 yX1_lowest yX1_lowest, Cond.code yX1_lowest cX1_lowest 1 (some .int), Cond.methodLink RX1 115 yX0_findLowest, Cond.instanceMethod yX0_findLowest, Cond.selects RX0 yX0_findLowest yX0_findLowest, Cond.code yX0_findLowest cX0_findLowest 4 (some .int), Cond.methodLink RL 162 yX2_lowest, Cond.instanceMethod yX2_lowest, Cond.selects RX2 yX2_lowest yX2_lowest, Cond.code yX2_lowest cX2_lowest 1 (some .int), Cond.methodLink RX2 112 yX2_low]
def wsL_law0_r20 : List Cond := [Cond.instanceMethod yX2_low, Cond.selects RX2 yX2_low yX2_low, Cond.code yX2_low cX2_low 3 (some .int), Cond.methodLink RL 163 yX1_isClear, Cond.instanceMethod yX1_isClear, Cond.selects RX1 yX1_isClear yX1_isClear, Cond.code yX1_isClear cX1_isClear 1 (some .boolean), Cond.methodLink RX1 118 yX0_isChordClear, Cond.methodLink RL 167 yX2_isClear, Cond.instanceMethod yX2_isClear, Cond.selects RX2 yX2_isClear yX2_isClear, Cond.code yX2_isClear cX2_isClear 1 (some .boolean), Cond.methodLink RL 168 yX1_cadences, Cond.instanceMethod yX1_cadences, Cond.selects RX1 yX1_cadences yX1_cadences, Cond.code yX1_cadences cX1_cadences 1 (some .int), Cond.methodLink RL 171 yX2_cadences, Cond.instanceMethod yX2_cadences, Cond.selects RX2 yX2_cadences yX2_cadences, Cond.code yX2_cadences cX2_cadences 1 (some .int), Cond.methodLink RL 172 yL_bestTuning, Cond.static yL_bestTuning, Cond.codeWith yL_bestTuning cL_bestTuning 4 (some .int) [(0, 9, 12, 21)], Cond.methodLink RL 68 yX1_bestTuning]
def wsL_law0_r21 : List Cond := [Cond.instanceMethod yX1_bestTuning, Cond.selects RX1 yX1_bestTuning yX1_bestTuning, Cond.code yX1_bestTuning cX1_bestTuning 2 (some .int), Cond.methodLink RX1 122 yX0_findBestTuning, Cond.instanceMethod yX0_findBestTuning, Cond.selects RX0 yX0_findBestTuning yX0_findBestTuning, Cond.code yX0_findBestTuning cX0_findBestTuning 8 (some .int), Cond.methodLink RX0 89 Lib.Math.abs.name, Cond.methodLink RL 174 yX2_bestTuning, Cond.instanceMethod yX2_bestTuning, Cond.selects RX2 yX2_bestTuning yX2_bestTuning, Cond.code yX2_bestTuning cX2_bestTuning 2 (some .int), Cond.methodLink RX2 115 yX2_tuning, Cond.instanceMethod yX2_tuning, Cond.selects RX2 yX2_tuning yX2_tuning, Cond.code yX2_tuning cX2_tuning 8 (some .int), Cond.methodLink RL 175 yX1_bestToMute, Cond.instanceMethod yX1_bestToMute, Cond.selects RX1 yX1_bestToMute yX1_bestToMute, Cond.code yX1_bestToMute cX1_bestToMute 1 (some .int), Cond.methodLink RL 178 yX2_bestToMute, Cond.instanceMethod yX2_bestToMute, Cond.selects RX2 yX2_bestToMute yX2_bestToMute, Cond.code yX2_bestToMute cX2_bestToMute 1 (some .int)]
def wsL_law0_r22 : List Cond := [Cond.methodLink RX2 118 yX2_mute, Cond.instanceMethod yX2_mute, Cond.selects RX2 yX2_mute yX2_mute, Cond.code yX2_mute cX2_mute 6 (some .int), Cond.methodLink RL 179 yL_harmonyIn, Cond.static yL_harmonyIn, Cond.codeWith yL_harmonyIn cL_harmonyIn 4 (some .int) [(0, 9, 12, 13)], Cond.methodLink RL 71 yX1_harmonyIn, Cond.instanceMethod yX1_harmonyIn, Cond.selects RX1 yX1_harmonyIn yX1_harmonyIn, Cond.code yX1_harmonyIn cX1_harmonyIn 2 (some .int), Cond.methodLink RX1 125 yX0_becomeLike, Cond.instanceMethod yX0_becomeLike, Cond.selects RX0 yX0_becomeLike yX0_becomeLike, Cond.code yX0_becomeLike cX0_becomeLike 2 none, Cond.methodLink RX0 35 arraycopyName, Cond.native arraycopyName, Cond.static arraycopyName, Cond.initialized "java/lang/System", Cond.methodLink RL 181 yX2_harmonyIn, Cond.instanceMethod yX2_harmonyIn, Cond.selects RX2 yX2_harmonyIn yX2_harmonyIn, Cond.code yX2_harmonyIn cX2_harmonyIn 3 (some .int), Cond.methodLink RX2 121 yX2_keep]
def wsL_law0_r23 : List Cond := [Cond.instanceMethod yX2_keep, Cond.selects RX2 yX2_keep yX2_keep, Cond.code yX2_keep cX2_keep 1 none, Cond.methodLink RX2 30 arraycopyName, Cond.methodLink RX2 124 yX2_bringBack, Cond.instanceMethod yX2_bringBack, Cond.selects RX2 yX2_bringBack yX2_bringBack, Cond.code yX2_bringBack cX2_bringBack 1 none, Cond.methodLink RL 182 yX1_beatsUntilSilence, Cond.instanceMethod yX1_beatsUntilSilence, Cond.selects RX1 yX1_beatsUntilSilence yX1_beatsUntilSilence, Cond.code yX1_beatsUntilSilence cX1_beatsUntilSilence 2 (some .int), Cond.methodLink RX1 129 yX0_passBeat, Cond.methodLink RL 185 yX2_beatsUntilSilence, Cond.instanceMethod yX2_beatsUntilSilence, Cond.selects RX2 yX2_beatsUntilSilence yX2_beatsUntilSilence, Cond.code yX2_beatsUntilSilence cX2_beatsUntilSilence 1 (some .int), Cond.methodLink RX2 127 yX2_silence, Cond.instanceMethod yX2_silence, Cond.selects RX2 yX2_silence yX2_silence, Cond.code yX2_silence cX2_silence 2 (some .int), Cond.methodLink RL 186 yX1_beatsUntilCadence, Cond.instanceMethod yX1_beatsUntilCadence, Cond.selects RX1 yX1_beatsUntilCadence yX1_beatsUntilCadence]
def wsL_law0_r24 : List Cond := [Cond.code yX1_beatsUntilCadence cX1_beatsUntilCadence 2 (some .int), Cond.methodLink RL 189 yX2_beatsUntilCadence, Cond.instanceMethod yX2_beatsUntilCadence, Cond.selects RX2 yX2_beatsUntilCadence yX2_beatsUntilCadence, Cond.code yX2_beatsUntilCadence cX2_beatsUntilCadence 1 (some .int), Cond.methodLink RX2 130 yX2_untilCadence, Cond.instanceMethod yX2_untilCadence, Cond.selects RX2 yX2_untilCadence yX2_untilCadence, Cond.code yX2_untilCadence cX2_untilCadence 2 (some .int), Cond.methodLink RL 190 yX1_greatestAccord, Cond.instanceMethod yX1_greatestAccord, Cond.selects RX1 yX1_greatestAccord yX1_greatestAccord, Cond.code yX1_greatestAccord cX1_greatestAccord 1 (some .int), Cond.methodLink RX1 132 yX0_sizeOfGreatestAccord, Cond.instanceMethod yX0_sizeOfGreatestAccord, Cond.selects RX0 yX0_sizeOfGreatestAccord yX0_sizeOfGreatestAccord, Cond.code yX0_sizeOfGreatestAccord cX0_sizeOfGreatestAccord 4 (some .int), Cond.methodLink RX0 93 yX0_findBarred, Cond.instanceMethod yX0_findBarred, Cond.selects RX0 yX0_findBarred yX0_findBarred, Cond.code yX0_findBarred cX0_findBarred 4 (some .int), Cond.methodLink RX0 96 yJ6_bitCount_0f7a4, Cond.methodLink RX0 101 yX0_isGroupInAccord, Cond.instanceMethod yX0_isGroupInAccord]
def wsL_law0_r25 : List Cond := [Cond.selects RX0 yX0_isGroupInAccord yX0_isGroupInAccord, Cond.code yX0_isGroupInAccord cX0_isGroupInAccord 3 (some .boolean), Cond.methodLink RL 193 yX2_greatestAccord, Cond.instanceMethod yX2_greatestAccord, Cond.selects RX2 yX2_greatestAccord yX2_greatestAccord, Cond.code yX2_greatestAccord cX2_greatestAccord 1 (some .int), Cond.methodLink RX2 133 yX2_greatest, Cond.instanceMethod yX2_greatest, Cond.selects RX2 yX2_greatest yX2_greatest, Cond.code yX2_greatest cX2_greatest 4 (some .int), Cond.methodLink RL 194 yX1_meanPitch, Cond.instanceMethod yX1_meanPitch, Cond.selects RX1 yX1_meanPitch yX1_meanPitch, Cond.code yX1_meanPitch cX1_meanPitch 1 (some .double), Cond.methodLink RX1 135 yX0_meanOfPitches, Cond.instanceMethod yX0_meanOfPitches, Cond.selects RX0 yX0_meanOfPitches yX0_meanOfPitches, Cond.code yX0_meanOfPitches cX0_meanOfPitches 4 (some .double), Cond.methodLink RL 198 yX2_meanPitch, Cond.instanceMethod yX2_meanPitch, Cond.selects RX2 yX2_meanPitch yX2_meanPitch, Cond.code yX2_meanPitch cX2_meanPitch 3 (some .double), Cond.methodLink RL 199 yX1_digest, Cond.instanceMethod yX1_digest]
def wsL_law0_r26 : List Cond := [Cond.selects RX1 yX1_digest yX1_digest, Cond.code yX1_digest cX1_digest 4 (some .long), Cond.constantLong RX1 139 (2087), Cond.constantLong RX1 141 (31), Cond.methodLink RX1 143 yX1_pots, Cond.methodLink RX1 146 yX1_beats, Cond.methodLink RX1 149 yX1_sounding, Cond.methodLink RX1 152 yX1_harmony, Cond.methodLink RX1 155 yX1_clashes, Cond.methodLink RX1 158 yX1_harshest, Cond.methodLink RX1 161 yX1_lowest, Cond.methodLink RX1 164 yX1_isClear, Cond.methodLink RX1 167 yX1_cadences, Cond.methodLink RX1 170 yX1_bestToMute, Cond.methodLink RX1 173 yX1_beatsUntilSilence, Cond.methodLink RX1 176 yX1_beatsUntilCadence, Cond.methodLink RX1 179 yX1_greatestAccord, Cond.methodLink RX1 182 yX1_digestPot, Cond.instanceMethod yX1_digestPot, Cond.selects RX1 yX1_digestPot yX1_digestPot, Cond.code yX1_digestPot cX1_digestPot 6 (some .long), Cond.methodLink RX1 186 yX1_partOf, Cond.methodLink RX1 189 yX1_pitchOf, Cond.methodLink RX1 192 yX1_teaOf]
def wsL_law0_r27 : List Cond := [Cond.methodLink RX1 195 yX1_crackOf, Cond.methodLink RX1 198 yX1_sounds, Cond.methodLink RX1 201 yX1_clashesOf, Cond.methodLink RX1 204 yX1_bestTuning, Cond.methodLink RL 203 yX2_digest, Cond.instanceMethod yX2_digest, Cond.selects RX2 yX2_digest yX2_digest, Cond.code yX2_digest cX2_digest 11 (some .long), Cond.constantLong RX2 136 (2087), Cond.constantLong RX2 138 (31)]
def wsL_law0 : List Cond := (wsL_law0_r1 ++ (wsL_law0_r2 ++ (wsL_law0_r3 ++ (wsL_law0_r4 ++ (wsL_law0_r5 ++ (wsL_law0_r6 ++ (wsL_law0_r7 ++ (wsL_law0_r8 ++ (wsL_law0_r9 ++ (wsL_law0_r10 ++ (wsL_law0_r11 ++ (wsL_law0_r12 ++ (wsL_law0_r13 ++ (wsL_law0_r14 ++ (wsL_law0_r15 ++ (wsL_law0_r16 ++ (wsL_law0_r17 ++ (wsL_law0_r18 ++ (wsL_law0_r19 ++ (wsL_law0_r20 ++ (wsL_law0_r21 ++ (wsL_law0_r22 ++ (wsL_law0_r23 ++ (wsL_law0_r24 ++ (wsL_law0_r25 ++ (wsL_law0_r26 ++ wsL_law0_r27)))))))))))))))))))))))))) ++ wsX10 ++ wsX20 ++ wsX00 ++ ([] : List Cond)
def wsL_law : List Cond := wsL_law0 ++ (vx_atS RX1 31 "java/lang/IllegalStateException" ["java/lang/RuntimeException", "java/lang/Exception"]).filter goodWord ++ (vx_atS RX1 54 "java/lang/IllegalArgumentException" ["java/lang/RuntimeException", "java/lang/Exception"]).filter goodWord ++ (vx_atS RX1 84 "java/lang/IndexOutOfBoundsException" ["java/lang/RuntimeException", "java/lang/Exception"]).filter goodWord
abbrev vwCl : List vw_C := [(RX0, TX0, 10), (RX1, TX1, 2), (RX2, TX2, 6)]
end
section
set_option maxRecDepth 20000 in
theorem ggX0_passBeats_X0_passBeat : GoodIn wsX0_passBeats wsX0_passBeat := goodIn_r _ [5, 6, 7, 8, 9, 10, 11, 12, 13, 14, 15, 16, 17, 18, 4, 19, 20, 21, 22, 23, 24, 25, 26, 27, 28, 29, 30, 31, 32, 33, 34, 35, 36, 37, 38, 39, 40, 41, 42, 43, 44, 45, 46, 47, 48, 49, 50, 51, 52, 53, 54, 55, 56, 57, 58, 59, 60] (by decide +kernel) (by decide +kernel)
set_option maxRecDepth 20000 in
theorem gX0_passBeats_X0_passBeat : GoodIn wsX0_passBeats (wsV RX0 51 RX0 yX0_passBeat wsX0_passBeat) := goodIn_app (goodIn_of _ (by decide +kernel)) ggX0_passBeats_X0_passBeat
set_option maxRecDepth 20000 in
theorem ggX0_passBeat_X0_isChordClear : GoodIn wsX0_passBeat wsX0_isChordClear := goodIn_r _ [15, 16, 17, 18, 14, 19, 3, 20, 21, 22, 23, 24, 4, 25, 26, 27, 28, 29, 30, 31, 32, 33, 34, 35, 36, 37, 38, 9, 39, 47, 48, 49, 50, 51, 52, 53, 54, 55, 56] (by decide +kernel) (by decide +kernel)
set_option maxRecDepth 20000 in
theorem gX0_passBeat_X0_isChordClear : GoodIn wsX0_passBeat (wsV RX0 54 RX0 yX0_isChordClear wsX0_isChordClear) := goodIn_app (goodIn_of _ (by decide +kernel)) ggX0_passBeat_X0_isChordClear
set_option maxRecDepth 20000 in
theorem ggX0_passBeat_X0_countClashes : GoodIn wsX0_passBeat wsX0_countClashes := goodIn_r _ [28, 3, 29, 20, 21, 22, 14, 23, 24, 4, 30, 31, 32, 33, 34, 35, 36, 37, 38, 9, 39, 47, 48, 49, 50, 51, 52, 53, 54, 55, 56] (by decide +kernel) (by decide +kernel)
set_option maxRecDepth 20000 in
theorem gX0_passBeat_X0_countClashes : GoodIn wsX0_passBeat (wsV RX0 58 RX0 yX0_countClashes wsX0_countClashes) := goodIn_app (goodIn_of _ (by decide +kernel)) ggX0_passBeat_X0_countClashes
set_option maxRecDepth 20000 in
theorem ggX0_passBeat_X0_isSounding : GoodIn wsX0_passBeat wsX0_isSounding := goodIn_r _ [23, 24, 4, 47, 48, 49, 50, 51, 52, 53, 54, 55, 56] (by decide +kernel) (by decide +kernel)
set_option maxRecDepth 20000 in
theorem gX0_passBeat_X0_isSounding : GoodIn wsX0_passBeat (wsV RX0 62 RX0 yX0_isSounding wsX0_isSounding) := goodIn_app (goodIn_of _ (by decide +kernel)) ggX0_passBeat_X0_isSounding
set_option maxRecDepth 20000 in
theorem ggX0_passBeat_X0_wear : GoodIn wsX0_passBeat wsX0_wear := goodIn_r _ [43, 24, 6, 7, 8, 9, 10, 29, 5, 44, 45, 46, 47, 48, 49, 50, 51, 52, 53, 54, 55, 56] (by decide +kernel) (by decide +kernel)
set_option maxRecDepth 20000 in
theorem gX0_passBeat_X0_wear : GoodIn wsX0_passBeat (wsV RX0 66 RX0 yX0_wear wsX0_wear) := goodIn_app (goodIn_of _ (by decide +kernel)) ggX0_passBeat_X0_wear
set_option maxRecDepth 20000 in
theorem ggX0_countSounding_X0_isSounding : GoodIn wsX0_countSounding wsX0_isSounding := goodIn_r _ [6, 7, 8, 9, 10, 11, 12, 13, 14, 15, 16, 17, 18] (by decide +kernel) (by decide +kernel)
set_option maxRecDepth 20000 in
theorem gX0_countSounding_X0_isSounding : GoodIn wsX0_countSounding (wsV RX0 62 RX0 yX0_isSounding wsX0_isSounding) := goodIn_app (goodIn_of _ (by decide +kernel)) ggX0_countSounding_X0_isSounding
set_option maxRecDepth 20000 in
theorem ggX0_countSoundingIn_X0_isSounding : GoodIn wsX0_countSoundingIn wsX0_isSounding := goodIn_r _ [7, 8, 9, 10, 11, 12, 13, 14, 15, 16, 17, 18, 19] (by decide +kernel) (by decide +kernel)
set_option maxRecDepth 20000 in
theorem gX0_countSoundingIn_X0_isSounding : GoodIn wsX0_countSoundingIn (wsV RX0 62 RX0 yX0_isSounding wsX0_isSounding) := goodIn_app (goodIn_of _ (by decide +kernel)) ggX0_countSoundingIn_X0_isSounding
set_option maxRecDepth 20000 in
theorem ggX0_countClashesAt_X0_isSounding : GoodIn wsX0_countClashesAt wsX0_isSounding := goodIn_r _ [7, 8, 9, 17, 18, 19, 20, 21, 22, 23, 24, 25, 26] (by decide +kernel) (by decide +kernel)
set_option maxRecDepth 20000 in
theorem gX0_countClashesAt_X0_isSounding : GoodIn wsX0_countClashesAt (wsV RX0 62 RX0 yX0_isSounding wsX0_isSounding) := goodIn_app (goodIn_of _ (by decide +kernel)) ggX0_countClashesAt_X0_isSounding
set_option maxRecDepth 20000 in
theorem ggX0_countClashesAt_X1_isAccord : GoodIn wsX0_countClashesAt wsX1_isAccord := goodIn_r _ [12, 13, 14, 15, 16] (by decide +kernel) (by decide +kernel)
set_option maxRecDepth 20000 in
theorem gX0_countClashesAt_X1_isAccord_n79 : GoodIn wsX0_countClashesAt (wsX1_isAccord) := ggX0_countClashesAt_X1_isAccord
set_option maxRecDepth 20000 in
theorem ggX0_countClashes_X0_isSounding : GoodIn wsX0_countClashes wsX0_isSounding := goodIn_r _ [7, 8, 9, 21, 22, 23, 24, 25, 26, 27, 28, 29, 30] (by decide +kernel) (by decide +kernel)
set_option maxRecDepth 20000 in
theorem gX0_countClashes_X0_isSounding : GoodIn wsX0_countClashes (wsV RX0 62 RX0 yX0_isSounding wsX0_isSounding) := goodIn_app (goodIn_of _ (by decide +kernel)) ggX0_countClashes_X0_isSounding
set_option maxRecDepth 20000 in
theorem ggX0_countClashes_X0_countClashesAt : GoodIn wsX0_countClashes wsX0_countClashesAt := goodIn_r _ [13, 1, 2, 3, 4, 5, 6, 7, 8, 9, 14, 15, 16, 17, 18, 19, 20, 21, 22, 23, 24, 25, 26, 27, 28, 29, 30] (by decide +kernel) (by decide +kernel)
set_option maxRecDepth 20000 in
theorem gX0_countClashes_X0_countClashesAt : GoodIn wsX0_countClashes (wsV RX0 83 RX0 yX0_countClashesAt wsX0_countClashesAt) := goodIn_app (goodIn_of _ (by decide +kernel)) ggX0_countClashes_X0_countClashesAt
set_option maxRecDepth 20000 in
theorem ggX0_harmonyNow_X0_countSounding : GoodIn wsX0_harmonyNow wsX0_countSounding := goodIn_r _ [5, 6, 7, 8, 9, 4, 10, 11, 12, 29, 30, 31, 32, 33, 34, 35, 36, 37, 38] (by decide +kernel) (by decide +kernel)
set_option maxRecDepth 20000 in
theorem gX0_harmonyNow_X0_countSounding : GoodIn wsX0_harmonyNow (wsV RX0 86 RX0 yX0_countSounding wsX0_countSounding) := goodIn_app (goodIn_of _ (by decide +kernel)) ggX0_harmonyNow_X0_countSounding
set_option maxRecDepth 20000 in
theorem ggX0_harmonyNow_X0_countClashes : GoodIn wsX0_harmonyNow wsX0_countClashes := goodIn_r _ [16, 6, 17, 7, 8, 9, 4, 10, 11, 12, 18, 19, 20, 21, 22, 23, 24, 25, 26, 27, 28, 29, 30, 31, 32, 33, 34, 35, 36, 37, 38] (by decide +kernel) (by decide +kernel)
set_option maxRecDepth 20000 in
theorem gX0_harmonyNow_X0_countClashes : GoodIn wsX0_harmonyNow (wsV RX0 58 RX0 yX0_countClashes wsX0_countClashes) := goodIn_app (goodIn_of _ (by decide +kernel)) ggX0_harmonyNow_X0_countClashes
set_option maxRecDepth 20000 in
theorem ggX0_isChordClear_X0_countSounding : GoodIn wsX0_isChordClear wsX0_countSounding := goodIn_r _ [5, 6, 7, 8, 9, 4, 10, 11, 12, 29, 30, 31, 32, 33, 34, 35, 36, 37, 38] (by decide +kernel) (by decide +kernel)
set_option maxRecDepth 20000 in
theorem gX0_isChordClear_X0_countSounding : GoodIn wsX0_isChordClear (wsV RX0 86 RX0 yX0_countSounding wsX0_countSounding) := goodIn_app (goodIn_of _ (by decide +kernel)) ggX0_isChordClear_X0_countSounding
set_option maxRecDepth 20000 in
theorem ggX0_isChordClear_X0_countClashes : GoodIn wsX0_isChordClear wsX0_countClashes := goodIn_r _ [16, 6, 17, 7, 8, 9, 4, 10, 11, 12, 18, 19, 20, 21, 22, 23, 24, 25, 26, 27, 28, 29, 30, 31, 32, 33, 34, 35, 36, 37, 38] (by decide +kernel) (by decide +kernel)
set_option maxRecDepth 20000 in
theorem gX0_isChordClear_X0_countClashes : GoodIn wsX0_isChordClear (wsV RX0 58 RX0 yX0_countClashes wsX0_countClashes) := goodIn_app (goodIn_of _ (by decide +kernel)) ggX0_isChordClear_X0_countClashes
set_option maxRecDepth 20000 in
theorem ggX0_findMostClashing_X0_isSounding : GoodIn wsX0_findMostClashing wsX0_isSounding := goodIn_r _ [7, 8, 9, 21, 22, 23, 24, 25, 26, 27, 28, 29, 30] (by decide +kernel) (by decide +kernel)
set_option maxRecDepth 20000 in
theorem gX0_findMostClashing_X0_isSounding : GoodIn wsX0_findMostClashing (wsV RX0 62 RX0 yX0_isSounding wsX0_isSounding) := goodIn_app (goodIn_of _ (by decide +kernel)) ggX0_findMostClashing_X0_isSounding
set_option maxRecDepth 20000 in
theorem ggX0_findMostClashing_X0_countClashesAt : GoodIn wsX0_findMostClashing wsX0_countClashesAt := goodIn_r _ [13, 1, 2, 3, 4, 5, 6, 7, 8, 9, 14, 15, 16, 17, 18, 19, 20, 21, 22, 23, 24, 25, 26, 27, 28, 29, 30] (by decide +kernel) (by decide +kernel)
set_option maxRecDepth 20000 in
theorem gX0_findMostClashing_X0_countClashesAt : GoodIn wsX0_findMostClashing (wsV RX0 83 RX0 yX0_countClashesAt wsX0_countClashesAt) := goodIn_app (goodIn_of _ (by decide +kernel)) ggX0_findMostClashing_X0_countClashesAt
set_option maxRecDepth 20000 in
theorem ggX0_findLowest_X0_isSounding : GoodIn wsX0_findLowest wsX0_isSounding := goodIn_r _ [7, 8, 9, 10, 11, 12, 13, 14, 15, 16, 17, 18, 19] (by decide +kernel) (by decide +kernel)
set_option maxRecDepth 20000 in
theorem gX0_findLowest_X0_isSounding : GoodIn wsX0_findLowest (wsV RX0 62 RX0 yX0_isSounding wsX0_isSounding) := goodIn_app (goodIn_of _ (by decide +kernel)) ggX0_findLowest_X0_isSounding
set_option maxRecDepth 20000 in
theorem ggX0_findBestTuning_X0_countClashesAt : GoodIn wsX0_findBestTuning wsX0_countClashesAt := goodIn_r _ [10, 11, 1, 12, 13, 14, 9, 15, 16, 17, 18, 19, 20, 21, 3, 4, 5, 22, 23, 24, 25, 26, 27, 28, 29, 30, 31] (by decide +kernel) (by decide +kernel)
set_option maxRecDepth 20000 in
theorem gX0_findBestTuning_X0_countClashesAt : GoodIn wsX0_findBestTuning (wsV RX0 83 RX0 yX0_countClashesAt wsX0_countClashesAt) := goodIn_app (goodIn_of _ (by decide +kernel)) ggX0_findBestTuning_X0_countClashesAt
set_option maxRecDepth 20000 in
theorem ggX0_sizeOfGreatestAccord_X0_findBarred : GoodIn wsX0_sizeOfGreatestAccord wsX0_findBarred := goodIn_r _ [7, 1, 8, 9, 10, 11, 6, 12, 13, 14, 15, 16, 17, 18, 19, 20, 21, 33, 34, 35, 36, 37, 38, 39, 40, 41, 42] (by decide +kernel) (by decide +kernel)
set_option maxRecDepth 20000 in
theorem gX0_sizeOfGreatestAccord_X0_findBarred : GoodIn wsX0_sizeOfGreatestAccord (wsV RX0 93 RX0 yX0_findBarred wsX0_findBarred) := goodIn_app (goodIn_of _ (by decide +kernel)) ggX0_sizeOfGreatestAccord_X0_findBarred
set_option maxRecDepth 20000 in
theorem ggX0_sizeOfGreatestAccord_J6_bitCount_0f7a4 : GoodIn wsX0_sizeOfGreatestAccord wsJ6_bitCount_0f7a4 := goodIn_r _ [25, 26, 27, 28] (by decide +kernel) (by decide +kernel)
set_option maxRecDepth 20000 in
theorem gX0_sizeOfGreatestAccord_J6_bitCount_0f7a4 : GoodIn wsX0_sizeOfGreatestAccord (va_wsS RX0 96 yJ6_bitCount_0f7a4 wsJ6_bitCount_0f7a4) := goodIn_app (goodIn_of _ (by decide +kernel)) ggX0_sizeOfGreatestAccord_J6_bitCount_0f7a4
set_option maxRecDepth 20000 in
theorem ggX0_sizeOfGreatestAccord_X0_isGroupInAccord : GoodIn wsX0_sizeOfGreatestAccord wsX0_isGroupInAccord := goodIn_r _ [32, 1, 2, 33, 34, 35, 36, 37, 38, 39, 40, 41, 42] (by decide +kernel) (by decide +kernel)
set_option maxRecDepth 20000 in
theorem gX0_sizeOfGreatestAccord_X0_isGroupInAccord : GoodIn wsX0_sizeOfGreatestAccord (wsV RX0 101 RX0 yX0_isGroupInAccord wsX0_isGroupInAccord) := goodIn_app (goodIn_of _ (by decide +kernel)) ggX0_sizeOfGreatestAccord_X0_isGroupInAccord
set_option maxRecDepth 20000 in
theorem ggX0_findBarred_X0_isSounding : GoodIn wsX0_findBarred wsX0_isSounding := goodIn_r _ [7, 8, 9, 17, 18, 19, 20, 21, 22, 23, 24, 25, 26] (by decide +kernel) (by decide +kernel)
set_option maxRecDepth 20000 in
theorem gX0_findBarred_X0_isSounding : GoodIn wsX0_findBarred (wsV RX0 62 RX0 yX0_isSounding wsX0_isSounding) := goodIn_app (goodIn_of _ (by decide +kernel)) ggX0_findBarred_X0_isSounding
set_option maxRecDepth 20000 in
theorem ggX0_findBarred_X1_isAccord : GoodIn wsX0_findBarred wsX1_isAccord := goodIn_r _ [12, 13, 14, 15, 16] (by decide +kernel) (by decide +kernel)
set_option maxRecDepth 20000 in
theorem gX0_findBarred_X1_isAccord_n79 : GoodIn wsX0_findBarred (wsX1_isAccord) := ggX0_findBarred_X1_isAccord
set_option maxRecDepth 20000 in
theorem ggX0_meanOfPitches_X0_countSounding : GoodIn wsX0_meanOfPitches wsX0_countSounding := goodIn_r _ [7, 1, 8, 9, 10, 6, 11, 12, 13, 14, 15, 16, 17, 18, 19, 20, 21, 22, 23] (by decide +kernel) (by decide +kernel)
set_option maxRecDepth 20000 in
theorem gX0_meanOfPitches_X0_countSounding : GoodIn wsX0_meanOfPitches (wsV RX0 86 RX0 yX0_countSounding wsX0_countSounding) := goodIn_app (goodIn_of _ (by decide +kernel)) ggX0_meanOfPitches_X0_countSounding
set_option maxRecDepth 20000 in
theorem ggX0_meanOfPitches_X0_isSounding : GoodIn wsX0_meanOfPitches wsX0_isSounding := goodIn_r _ [11, 12, 13, 14, 15, 16, 17, 18, 19, 20, 21, 22, 23] (by decide +kernel) (by decide +kernel)
set_option maxRecDepth 20000 in
theorem gX0_meanOfPitches_X0_isSounding : GoodIn wsX0_meanOfPitches (wsV RX0 62 RX0 yX0_isSounding wsX0_isSounding) := goodIn_app (goodIn_of _ (by decide +kernel)) ggX0_meanOfPitches_X0_isSounding
set_option maxRecDepth 20000 in
theorem ggX1_init_X0_init : GoodIn wsX1_init wsX0_init := goodIn_r _ [10, 11, 2, 3, 12, 13, 14, 15, 16, 17, 18, 19, 20, 21, 22, 23, 24, 25, 26, 27, 28, 29] (by decide +kernel) (by decide +kernel)
set_option maxRecDepth 20000 in
theorem gX1_init_X0_init_n9 : GoodIn wsX1_init (wsX0_init) := ggX1_init_X0_init
set_option maxRecDepth 20000 in
theorem ggX1_addPot_X1_requireWithin : GoodIn wsX1_addPot wsX1_requireWithin := goodIn_ca (goodIn_r _ [8, 9, 10] (by decide +kernel) (by decide +kernel)) (goodIn_sub (fun _ h => List.mem_cons_of_mem _ (List.mem_append_right _ h)) (by decide +kernel))
set_option maxRecDepth 20000 in
theorem gX1_addPot_X1_requireWithin : GoodIn wsX1_addPot (va_wsS RX1 19 yX1_requireWithin wsX1_requireWithin) := goodIn_app (goodIn_of _ (by decide +kernel)) ggX1_addPot_X1_requireWithin
set_option maxRecDepth 20000 in
theorem ggX1_addPot_X0_admit : GoodIn wsX1_addPot wsX0_admit := goodIn_r _ [15, 16, 17, 18, 19, 22, 23, 24, 25, 26, 27, 28, 29, 30, 31] (by decide +kernel) (by decide +kernel)
set_option maxRecDepth 20000 in
theorem gX1_addPot_X0_admit : GoodIn wsX1_addPot (wsV RX1 34 RX0 yX0_admit wsX0_admit) := goodIn_app (goodIn_of _ (by decide +kernel)) ggX1_addPot_X0_admit
set_option maxRecDepth 20000 in
theorem ggX1_tune_X1_requirePot : GoodIn wsX1_tune wsX1_requirePot := goodIn_ca (goodIn_r _ [7, 8, 9, 1, 10, 16, 17, 18, 19, 20, 21, 22, 23, 24, 25, 26, 27] (by decide +kernel) (by decide +kernel)) (goodIn_sub (fun _ h => List.mem_cons_of_mem _ (List.mem_append_left _ (List.mem_append_right _ h))) (by decide +kernel))
set_option maxRecDepth 20000 in
theorem gX1_tune_X1_requirePot : GoodIn wsX1_tune (wsV RX1 38 RX1 yX1_requirePot wsX1_requirePot) := goodIn_app (goodIn_of _ (by decide +kernel)) ggX1_tune_X1_requirePot
set_option maxRecDepth 20000 in
theorem ggX1_tune_X1_requireWithin : GoodIn wsX1_tune wsX1_requireWithin := goodIn_ca (goodIn_r _ [13, 14, 15] (by decide +kernel) (by decide +kernel)) (goodIn_sub (fun _ h => List.mem_cons_of_mem _ (List.mem_append_right _ h)) (by decide +kernel))
set_option maxRecDepth 20000 in
theorem gX1_tune_X1_requireWithin : GoodIn wsX1_tune (va_wsS RX1 19 yX1_requireWithin wsX1_requireWithin) := goodIn_app (goodIn_of _ (by decide +kernel)) ggX1_tune_X1_requireWithin
set_option maxRecDepth 20000 in
theorem ggX1_turnCosy_X1_requirePot : GoodIn wsX1_turnCosy wsX1_requirePot := goodIn_ca (goodIn_r _ [7, 8, 9, 1, 10, 11, 12, 13, 14, 15, 16, 17, 18, 19, 20, 21, 22] (by decide +kernel) (by decide +kernel)) (goodIn_sub (fun _ h => List.mem_cons_of_mem _ (List.mem_append_right _ h)) (by decide +kernel))
set_option maxRecDepth 20000 in
theorem gX1_turnCosy_X1_requirePot : GoodIn wsX1_turnCosy (wsV RX1 38 RX1 yX1_requirePot wsX1_requirePot) := goodIn_app (goodIn_of _ (by decide +kernel)) ggX1_turnCosy_X1_requirePot
set_option maxRecDepth 20000 in
theorem ggX1_pour_X1_requirePot : GoodIn wsX1_pour wsX1_requirePot := goodIn_ca (goodIn_r _ [13, 14, 15, 3, 16, 20, 21, 22, 23, 24, 25, 26, 27, 28, 29, 30, 31] (by decide +kernel) (by decide +kernel)) (goodIn_sub (fun _ h => List.mem_cons_of_mem _ (List.mem_append_right _ h)) (by decide +kernel))
set_option maxRecDepth 20000 in
theorem gX1_pour_X1_requirePot : GoodIn wsX1_pour (wsV RX1 38 RX1 yX1_requirePot wsX1_requirePot) := goodIn_app (goodIn_of _ (by decide +kernel)) ggX1_pour_X1_requirePot
set_option maxRecDepth 20000 in
theorem ggX1_pour_X1_requireWithin : GoodIn wsX1_pour wsX1_requireWithin := goodIn_ca (goodIn_r _ [19, 1, 2] (by decide +kernel) (by decide +kernel)) (goodIn_sub (fun _ h => List.mem_cons_of_mem _ (List.mem_append_left _ (List.mem_append_right _ h))) (by decide +kernel))
set_option maxRecDepth 20000 in
theorem gX1_pour_X1_requireWithin : GoodIn wsX1_pour (va_wsS RX1 19 yX1_requireWithin wsX1_requireWithin) := goodIn_app (goodIn_of _ (by decide +kernel)) ggX1_pour_X1_requireWithin
set_option maxRecDepth 20000 in
theorem ggX1_fill_X1_requirePot : GoodIn wsX1_fill wsX1_requirePot := goodIn_ca (goodIn_r _ [7, 8, 9, 1, 10, 11, 12, 13, 14, 15, 16, 17, 18, 19, 20, 21, 22] (by decide +kernel) (by decide +kernel)) (goodIn_sub (fun _ h => List.mem_cons_of_mem _ (List.mem_append_right _ h)) (by decide +kernel))
set_option maxRecDepth 20000 in
theorem gX1_fill_X1_requirePot : GoodIn wsX1_fill (wsV RX1 38 RX1 yX1_requirePot wsX1_requirePot) := goodIn_app (goodIn_of _ (by decide +kernel)) ggX1_fill_X1_requirePot
set_option maxRecDepth 20000 in
theorem ggX1_mend_X1_requirePot : GoodIn wsX1_mend wsX1_requirePot := goodIn_ca (goodIn_r _ [8, 9, 10, 1, 11, 12, 13, 14, 15, 16, 17, 18, 19, 20, 21, 22, 23] (by decide +kernel) (by decide +kernel)) (goodIn_sub (fun _ h => List.mem_cons_of_mem _ (List.mem_append_right _ h)) (by decide +kernel))
set_option maxRecDepth 20000 in
theorem gX1_mend_X1_requirePot : GoodIn wsX1_mend (wsV RX1 38 RX1 yX1_requirePot wsX1_requirePot) := goodIn_app (goodIn_of _ (by decide +kernel)) ggX1_mend_X1_requirePot
set_option maxRecDepth 20000 in
theorem ggX1_sing_X1_requireWithin : GoodIn wsX1_sing wsX1_requireWithin := goodIn_ca (goodIn_r _ [6, 7, 8] (by decide +kernel) (by decide +kernel)) (goodIn_sub (fun _ h => List.mem_cons_of_mem _ (List.mem_append_right _ h)) (by decide +kernel))
set_option maxRecDepth 20000 in
theorem gX1_sing_X1_requireWithin : GoodIn wsX1_sing (va_wsS RX1 19 yX1_requireWithin wsX1_requireWithin) := goodIn_app (goodIn_of _ (by decide +kernel)) ggX1_sing_X1_requireWithin
set_option maxRecDepth 20000 in
theorem ggX1_sing_X0_passBeats : GoodIn wsX1_sing wsX0_passBeats := goodIn_r _ [13, 14, 15, 16, 12, 17, 18, 19, 20, 21, 22, 23, 24, 25, 26, 27, 28, 29, 30, 31, 32, 33, 34, 35, 36, 37, 38, 39, 40, 41, 42, 43, 44, 45, 46, 47, 48, 49, 50, 5, 51, 52, 53, 54, 55, 56, 57, 58, 59, 60, 61, 64, 65, 66, 67, 68, 69, 70, 71, 72, 73] (by decide +kernel) (by decide +kernel)
set_option maxRecDepth 20000 in
theorem gX1_sing_X0_passBeats : GoodIn wsX1_sing (wsV RX1 70 RX0 yX0_passBeats wsX0_passBeats) := goodIn_app (goodIn_of _ (by decide +kernel)) ggX1_sing_X0_passBeats
set_option maxRecDepth 20000 in
theorem ggX1_partOf_X1_requirePot : GoodIn wsX1_partOf wsX1_requirePot := goodIn_ca (goodIn_r _ [7, 8, 9, 1, 10, 11, 12, 13, 14, 15, 16, 17, 18, 19, 20, 21, 22] (by decide +kernel) (by decide +kernel)) (goodIn_sub (fun _ h => List.mem_cons_of_mem _ (List.mem_append_right _ h)) (by decide +kernel))
set_option maxRecDepth 20000 in
theorem gX1_partOf_X1_requirePot : GoodIn wsX1_partOf (wsV RX1 38 RX1 yX1_requirePot wsX1_requirePot) := goodIn_app (goodIn_of _ (by decide +kernel)) ggX1_partOf_X1_requirePot
set_option maxRecDepth 20000 in
theorem ggX1_pitchOf_X1_requirePot : GoodIn wsX1_pitchOf wsX1_requirePot := goodIn_ca (goodIn_r _ [7, 8, 9, 1, 10, 11, 12, 13, 14, 15, 16, 17, 18, 19, 20, 21, 22] (by decide +kernel) (by decide +kernel)) (goodIn_sub (fun _ h => List.mem_cons_of_mem _ (List.mem_append_right _ h)) (by decide +kernel))
set_option maxRecDepth 20000 in
theorem gX1_pitchOf_X1_requirePot : GoodIn wsX1_pitchOf (wsV RX1 38 RX1 yX1_requirePot wsX1_requirePot) := goodIn_app (goodIn_of _ (by decide +kernel)) ggX1_pitchOf_X1_requirePot
set_option maxRecDepth 20000 in
theorem ggX1_teaOf_X1_requirePot : GoodIn wsX1_teaOf wsX1_requirePot := goodIn_ca (goodIn_r _ [7, 8, 9, 1, 10, 11, 12, 13, 14, 15, 16, 17, 18, 19, 20, 21, 22] (by decide +kernel) (by decide +kernel)) (goodIn_sub (fun _ h => List.mem_cons_of_mem _ (List.mem_append_right _ h)) (by decide +kernel))
set_option maxRecDepth 20000 in
theorem gX1_teaOf_X1_requirePot : GoodIn wsX1_teaOf (wsV RX1 38 RX1 yX1_requirePot wsX1_requirePot) := goodIn_app (goodIn_of _ (by decide +kernel)) ggX1_teaOf_X1_requirePot
set_option maxRecDepth 20000 in
theorem ggX1_crackOf_X1_requirePot : GoodIn wsX1_crackOf wsX1_requirePot := goodIn_ca (goodIn_r _ [7, 8, 9, 1, 10, 11, 12, 13, 14, 15, 16, 17, 18, 19, 20, 21, 22] (by decide +kernel) (by decide +kernel)) (goodIn_sub (fun _ h => List.mem_cons_of_mem _ (List.mem_append_right _ h)) (by decide +kernel))
set_option maxRecDepth 20000 in
theorem gX1_crackOf_X1_requirePot : GoodIn wsX1_crackOf (wsV RX1 38 RX1 yX1_requirePot wsX1_requirePot) := goodIn_app (goodIn_of _ (by decide +kernel)) ggX1_crackOf_X1_requirePot
set_option maxRecDepth 20000 in
theorem ggX1_sounds_X1_requirePot : GoodIn wsX1_sounds wsX1_requirePot := goodIn_ca (goodIn_r _ [6, 7, 8, 1, 9, 17, 18, 19, 20, 21, 22, 23, 24, 25, 26, 27, 28] (by decide +kernel) (by decide +kernel)) (goodIn_sub (fun _ h => List.mem_cons_of_mem _ (List.mem_append_right _ h)) (by decide +kernel))
set_option maxRecDepth 20000 in
theorem gX1_sounds_X1_requirePot : GoodIn wsX1_sounds (wsV RX1 38 RX1 yX1_requirePot wsX1_requirePot) := goodIn_app (goodIn_of _ (by decide +kernel)) ggX1_sounds_X1_requirePot
set_option maxRecDepth 20000 in
theorem ggX1_sounds_X0_isSounding : GoodIn wsX1_sounds wsX0_isSounding := goodIn_r _ [14, 15, 16, 19, 20, 21, 22, 23, 24, 25, 26, 27, 28] (by decide +kernel) (by decide +kernel)
set_option maxRecDepth 20000 in
theorem gX1_sounds_X0_isSounding : GoodIn wsX1_sounds (wsV RX1 76 RX0 yX0_isSounding wsX0_isSounding) := goodIn_app (goodIn_of _ (by decide +kernel)) ggX1_sounds_X0_isSounding
set_option maxRecDepth 20000 in
theorem ggX1_soundingOf_X0_countSoundingIn : GoodIn wsX1_soundingOf wsX0_countSoundingIn := goodIn_r _ [8, 9, 10, 11, 12, 13, 7, 14, 15, 16, 19, 20, 21, 22, 23, 24, 25, 26, 27, 28] (by decide +kernel) (by decide +kernel)
set_option maxRecDepth 20000 in
theorem gX1_soundingOf_X0_countSoundingIn : GoodIn wsX1_soundingOf (wsV RX1 85 RX0 yX0_countSoundingIn wsX0_countSoundingIn) := goodIn_app (goodIn_of _ (by decide +kernel)) ggX1_soundingOf_X0_countSoundingIn
set_option maxRecDepth 20000 in
theorem ggX1_sounding_X0_countSounding : GoodIn wsX1_sounding wsX0_countSounding := goodIn_r _ [6, 7, 8, 9, 10, 5, 11, 12, 13, 16, 17, 18, 19, 20, 21, 22, 23, 24, 25] (by decide +kernel) (by decide +kernel)
set_option maxRecDepth 20000 in
theorem gX1_sounding_X0_countSounding : GoodIn wsX1_sounding (wsV RX1 92 RX0 yX0_countSounding wsX0_countSounding) := goodIn_app (goodIn_of _ (by decide +kernel)) ggX1_sounding_X0_countSounding
set_option maxRecDepth 20000 in
theorem ggX1_interval_X1_requirePot : GoodIn wsX1_interval wsX1_requirePot := goodIn_ca (goodIn_r _ [11, 12, 13, 1, 14, 15, 16, 17, 18, 19, 20, 21, 22, 23, 24, 25, 26] (by decide +kernel) (by decide +kernel)) (goodIn_sub (fun _ h => List.mem_cons_of_mem _ (List.mem_append_right _ h)) (by decide +kernel))
set_option maxRecDepth 20000 in
theorem gX1_interval_X1_requirePot : GoodIn wsX1_interval (wsV RX1 38 RX1 yX1_requirePot wsX1_requirePot) := goodIn_app (goodIn_of _ (by decide +kernel)) ggX1_interval_X1_requirePot
set_option maxRecDepth 20000 in
theorem ggX1_areInAccord_X1_requirePot : GoodIn wsX1_areInAccord wsX1_requirePot := goodIn_ca (goodIn_r _ [7, 8, 9, 1, 10, 18, 19, 20, 21, 22, 23, 24, 25, 26, 27, 28, 29] (by decide +kernel) (by decide +kernel)) (goodIn_sub (fun _ h => List.mem_cons_of_mem _ (List.mem_append_right _ h)) (by decide +kernel))
set_option maxRecDepth 20000 in
theorem gX1_areInAccord_X1_requirePot : GoodIn wsX1_areInAccord (wsV RX1 38 RX1 yX1_requirePot wsX1_requirePot) := goodIn_app (goodIn_of _ (by decide +kernel)) ggX1_areInAccord_X1_requirePot
set_option maxRecDepth 20000 in
theorem ggX1_areInAccord_X1_isAccord : GoodIn wsX1_areInAccord wsX1_isAccord := goodIn_r _ [13, 14, 15, 16, 17] (by decide +kernel) (by decide +kernel)
set_option maxRecDepth 20000 in
theorem gX1_areInAccord_X1_isAccord : GoodIn wsX1_areInAccord (va_wsS RX1 99 yX1_isAccord wsX1_isAccord) := goodIn_app (goodIn_of _ (by decide +kernel)) ggX1_areInAccord_X1_isAccord
set_option maxRecDepth 20000 in
theorem ggX1_harmony_X0_harmonyNow : GoodIn wsX1_harmony wsX0_harmonyNow := goodIn_r _ [6, 7, 8, 9, 5, 10, 11, 12, 13, 14, 15, 16, 17, 18, 19, 20, 21, 22, 23, 24, 25, 26, 27, 28, 29, 30, 31, 32, 33, 36, 37, 38, 39, 40, 41, 42, 43, 44, 45] (by decide +kernel) (by decide +kernel)
set_option maxRecDepth 20000 in
theorem gX1_harmony_X0_harmonyNow : GoodIn wsX1_harmony (wsV RX1 103 RX0 yX0_harmonyNow wsX0_harmonyNow) := goodIn_app (goodIn_of _ (by decide +kernel)) ggX1_harmony_X0_harmonyNow
set_option maxRecDepth 20000 in
theorem ggX1_clashes_X0_countClashes : GoodIn wsX1_clashes wsX0_countClashes := goodIn_r _ [6, 7, 8, 9, 10, 11, 5, 12, 13, 14, 15, 16, 17, 18, 19, 20, 21, 22, 23, 24, 25, 28, 29, 30, 31, 32, 33, 34, 35, 36, 37] (by decide +kernel) (by decide +kernel)
set_option maxRecDepth 20000 in
theorem gX1_clashes_X0_countClashes : GoodIn wsX1_clashes (wsV RX1 106 RX0 yX0_countClashes wsX0_countClashes) := goodIn_app (goodIn_of _ (by decide +kernel)) ggX1_clashes_X0_countClashes
set_option maxRecDepth 20000 in
theorem ggX1_clashesOf_X1_requirePot : GoodIn wsX1_clashesOf wsX1_requirePot := goodIn_ca (goodIn_r _ [7, 8, 9, 1, 10, 31, 32, 33, 34, 35, 36, 37, 38, 39, 40, 41, 42] (by decide +kernel) (by decide +kernel)) (goodIn_sub (fun _ h => List.mem_cons_of_mem _ (List.mem_append_right _ h)) (by decide +kernel))
set_option maxRecDepth 20000 in
theorem gX1_clashesOf_X1_requirePot : GoodIn wsX1_clashesOf (wsV RX1 38 RX1 yX1_requirePot wsX1_requirePot) := goodIn_app (goodIn_of _ (by decide +kernel)) ggX1_clashesOf_X1_requirePot
set_option maxRecDepth 20000 in
theorem ggX1_clashesOf_X0_isSounding : GoodIn wsX1_clashesOf wsX0_isSounding := goodIn_r _ [15, 16, 17, 33, 34, 35, 36, 37, 38, 39, 40, 41, 42] (by decide +kernel) (by decide +kernel)
set_option maxRecDepth 20000 in
theorem gX1_clashesOf_X0_isSounding : GoodIn wsX1_clashesOf (wsV RX1 76 RX0 yX0_isSounding wsX0_isSounding) := goodIn_app (goodIn_of _ (by decide +kernel)) ggX1_clashesOf_X0_isSounding
set_option maxRecDepth 20000 in
theorem ggX1_clashesOf_X0_countClashesAt : GoodIn wsX1_clashesOf wsX0_countClashesAt := goodIn_r _ [21, 22, 23, 24, 12, 13, 14, 15, 16, 17, 25, 6, 26, 27, 28, 29, 30, 33, 34, 35, 36, 37, 38, 39, 40, 41, 42] (by decide +kernel) (by decide +kernel)
set_option maxRecDepth 20000 in
theorem gX1_clashesOf_X0_countClashesAt : GoodIn wsX1_clashesOf (wsV RX1 109 RX0 yX0_countClashesAt wsX0_countClashesAt) := goodIn_app (goodIn_of _ (by decide +kernel)) ggX1_clashesOf_X0_countClashesAt
set_option maxRecDepth 20000 in
theorem ggX1_harshest_X0_countClashes : GoodIn wsX1_harshest wsX0_countClashes := goodIn_r _ [6, 7, 8, 9, 10, 11, 5, 12, 13, 14, 15, 16, 17, 18, 19, 20, 21, 22, 23, 24, 25, 32, 33, 34, 35, 36, 37, 38, 39, 40, 41] (by decide +kernel) (by decide +kernel)
set_option maxRecDepth 20000 in
theorem gX1_harshest_X0_countClashes : GoodIn wsX1_harshest (wsV RX1 106 RX0 yX0_countClashes wsX0_countClashes) := goodIn_app (goodIn_of _ (by decide +kernel)) ggX1_harshest_X0_countClashes
set_option maxRecDepth 20000 in
theorem ggX1_harshest_X0_findMostClashing : GoodIn wsX1_harshest wsX0_findMostClashing := goodIn_r _ [29, 7, 8, 9, 10, 11, 5, 12, 13, 14, 15, 16, 17, 18, 19, 20, 21, 22, 23, 24, 25, 32, 33, 34, 35, 36, 37, 38, 39, 40, 41] (by decide +kernel) (by decide +kernel)
set_option maxRecDepth 20000 in
theorem gX1_harshest_X0_findMostClashing : GoodIn wsX1_harshest (wsV RX1 112 RX0 yX0_findMostClashing wsX0_findMostClashing) := goodIn_app (goodIn_of _ (by decide +kernel)) ggX1_harshest_X0_findMostClashing
set_option maxRecDepth 20000 in
theorem ggX1_lowest_X0_findLowest : GoodIn wsX1_lowest wsX0_findLowest := goodIn_r _ [6, 7, 8, 9, 10, 11, 5, 12, 13, 14, 17, 18, 19, 20, 21, 22, 23, 24, 25, 26] (by decide +kernel) (by decide +kernel)
set_option maxRecDepth 20000 in
theorem gX1_lowest_X0_findLowest : GoodIn wsX1_lowest (wsV RX1 115 RX0 yX0_findLowest wsX0_findLowest) := goodIn_app (goodIn_of _ (by decide +kernel)) ggX1_lowest_X0_findLowest
set_option maxRecDepth 20000 in
theorem ggX1_isClear_X0_isChordClear : GoodIn wsX1_isClear wsX0_isChordClear := goodIn_r _ [6, 7, 8, 9, 5, 10, 11, 12, 13, 14, 15, 16, 17, 18, 19, 20, 21, 22, 23, 24, 25, 26, 27, 28, 29, 30, 31, 32, 33, 36, 37, 38, 39, 40, 41, 42, 43, 44, 45] (by decide +kernel) (by decide +kernel)
set_option maxRecDepth 20000 in
theorem gX1_isClear_X0_isChordClear : GoodIn wsX1_isClear (wsV RX1 118 RX0 yX0_isChordClear wsX0_isChordClear) := goodIn_app (goodIn_of _ (by decide +kernel)) ggX1_isClear_X0_isChordClear
set_option maxRecDepth 20000 in
theorem ggX1_bestTuning_X1_requirePot : GoodIn wsX1_bestTuning wsX1_requirePot := goodIn_ca (goodIn_r _ [6, 7, 8, 1, 9, 35, 36, 37, 38, 39, 40, 41, 42, 43, 44, 45, 46] (by decide +kernel) (by decide +kernel)) (goodIn_sub (fun _ h => List.mem_cons_of_mem _ (List.mem_append_right _ h)) (by decide +kernel))
set_option maxRecDepth 20000 in
theorem gX1_bestTuning_X1_requirePot : GoodIn wsX1_bestTuning (wsV RX1 38 RX1 yX1_requirePot wsX1_requirePot) := goodIn_app (goodIn_of _ (by decide +kernel)) ggX1_bestTuning_X1_requirePot
set_option maxRecDepth 20000 in
theorem ggX1_bestTuning_X0_isSounding : GoodIn wsX1_bestTuning wsX0_isSounding := goodIn_r _ [14, 15, 16, 37, 38, 39, 40, 41, 42, 43, 44, 45, 46] (by decide +kernel) (by decide +kernel)
set_option maxRecDepth 20000 in
theorem gX1_bestTuning_X0_isSounding : GoodIn wsX1_bestTuning (wsV RX1 76 RX0 yX0_isSounding wsX0_isSounding) := goodIn_app (goodIn_of _ (by decide +kernel)) ggX1_bestTuning_X0_isSounding
set_option maxRecDepth 20000 in
theorem ggX1_bestTuning_X0_findBestTuning : GoodIn wsX1_bestTuning wsX0_findBestTuning := goodIn_r _ [20, 21, 22, 23, 24, 25, 26, 27, 28, 13, 29, 30, 31, 11, 12, 14, 15, 16, 32, 5, 33, 34, 37, 38, 39, 40, 41, 42, 43, 44, 45, 46] (by decide +kernel) (by decide +kernel)
set_option maxRecDepth 20000 in
theorem gX1_bestTuning_X0_findBestTuning : GoodIn wsX1_bestTuning (wsV RX1 122 RX0 yX0_findBestTuning wsX0_findBestTuning) := goodIn_app (goodIn_of _ (by decide +kernel)) ggX1_bestTuning_X0_findBestTuning
set_option maxRecDepth 20000 in
theorem ggX1_bestToMute_X0_findMostClashing : GoodIn wsX1_bestToMute wsX0_findMostClashing := goodIn_r _ [6, 7, 8, 9, 10, 11, 5, 12, 13, 14, 15, 16, 17, 18, 19, 20, 21, 22, 23, 24, 25, 28, 29, 30, 31, 32, 33, 34, 35, 36, 37] (by decide +kernel) (by decide +kernel)
set_option maxRecDepth 20000 in
theorem gX1_bestToMute_X0_findMostClashing : GoodIn wsX1_bestToMute (wsV RX1 112 RX0 yX0_findMostClashing wsX0_findMostClashing) := goodIn_app (goodIn_of _ (by decide +kernel)) ggX1_bestToMute_X0_findMostClashing
set_option maxRecDepth 20000 in
theorem ggX1_harmonyIn_X1_requireWithin : GoodIn wsX1_harmonyIn wsX1_requireWithin := goodIn_ca (goodIn_r _ [6, 7, 8] (by decide +kernel) (by decide +kernel)) (goodIn_sub (fun _ h => List.mem_cons_of_mem _ (List.mem_append_right _ h)) (by decide +kernel))
set_option maxRecDepth 20000 in
theorem gX1_harmonyIn_X1_requireWithin : GoodIn wsX1_harmonyIn (va_wsS RX1 19 yX1_requireWithin wsX1_requireWithin) := goodIn_app (goodIn_of _ (by decide +kernel)) ggX1_harmonyIn_X1_requireWithin
set_option maxRecDepth 20000 in
theorem ggX1_harmonyIn_X0_becomeLike : GoodIn wsX1_harmonyIn wsX0_becomeLike := goodIn_r _ [13, 14, 15, 16, 17, 18, 19, 20, 21, 22, 23, 24, 25, 26, 77, 78, 79, 80, 81, 82, 83, 84, 85, 86] (by decide +kernel) (by decide +kernel)
set_option maxRecDepth 20000 in
theorem gX1_harmonyIn_X0_becomeLike : GoodIn wsX1_harmonyIn (wsV RX1 125 RX0 yX0_becomeLike wsX0_becomeLike) := goodIn_app (goodIn_of _ (by decide +kernel)) ggX1_harmonyIn_X0_becomeLike
set_option maxRecDepth 20000 in
theorem ggX1_harmonyIn_X0_passBeats : GoodIn wsX1_harmonyIn wsX0_passBeats := goodIn_r _ [30, 31, 32, 33, 12, 34, 26, 25, 23, 22, 24, 21, 35, 36, 37, 38, 39, 40, 41, 42, 43, 44, 45, 46, 47, 48, 49, 50, 20, 51, 52, 53, 54, 19, 55, 56, 57, 58, 59, 5, 60, 61, 62, 63, 64, 65, 66, 67, 68, 69, 70, 77, 78, 79, 80, 81, 82, 83, 84, 85, 86] (by decide +kernel) (by decide +kernel)
set_option maxRecDepth 20000 in
theorem gX1_harmonyIn_X0_passBeats : GoodIn wsX1_harmonyIn (wsV RX1 70 RX0 yX0_passBeats wsX0_passBeats) := goodIn_app (goodIn_of _ (by decide +kernel)) ggX1_harmonyIn_X0_passBeats
set_option maxRecDepth 20000 in
theorem ggX1_harmonyIn_X0_harmonyNow : GoodIn wsX1_harmonyIn wsX0_harmonyNow := goodIn_r _ [74, 43, 44, 45, 12, 46, 23, 47, 48, 49, 50, 20, 22, 51, 52, 53, 54, 19, 55, 56, 57, 58, 59, 5, 60, 61, 62, 37, 63, 77, 78, 79, 80, 81, 82, 83, 84, 85, 86] (by decide +kernel) (by decide +kernel)
set_option maxRecDepth 20000 in
theorem gX1_harmonyIn_X0_harmonyNow : GoodIn wsX1_harmonyIn (wsV RX1 103 RX0 yX0_harmonyNow wsX0_harmonyNow) := goodIn_app (goodIn_of _ (by decide +kernel)) ggX1_harmonyIn_X0_harmonyNow
set_option maxRecDepth 20000 in
theorem ggX1_beatsUntilSilence_X0_becomeLike : GoodIn wsX1_beatsUntilSilence wsX0_becomeLike := goodIn_r _ [7, 8, 9, 10, 11, 12, 13, 14, 15, 16, 17, 18, 19, 20, 65, 66, 67, 68, 69, 70, 71, 72, 73, 74] (by decide +kernel) (by decide +kernel)
set_option maxRecDepth 20000 in
theorem gX1_beatsUntilSilence_X0_becomeLike : GoodIn wsX1_beatsUntilSilence (wsV RX1 125 RX0 yX0_becomeLike wsX0_becomeLike) := goodIn_app (goodIn_of _ (by decide +kernel)) ggX1_beatsUntilSilence_X0_becomeLike
set_option maxRecDepth 20000 in
theorem ggX1_beatsUntilSilence_X0_countSounding : GoodIn wsX1_beatsUntilSilence wsX0_countSounding := goodIn_r _ [24, 17, 25, 26, 27, 6, 28, 14, 16, 65, 66, 67, 68, 69, 70, 71, 72, 73, 74] (by decide +kernel) (by decide +kernel)
set_option maxRecDepth 20000 in
theorem gX1_beatsUntilSilence_X0_countSounding : GoodIn wsX1_beatsUntilSilence (wsV RX1 92 RX0 yX0_countSounding wsX0_countSounding) := goodIn_app (goodIn_of _ (by decide +kernel)) ggX1_beatsUntilSilence_X0_countSounding
set_option maxRecDepth 20000 in
theorem ggX1_beatsUntilSilence_X0_passBeat : GoodIn wsX1_beatsUntilSilence wsX0_passBeat := goodIn_r _ [32, 20, 19, 17, 16, 18, 15, 33, 34, 35, 36, 37, 38, 39, 6, 40, 41, 22, 23, 24, 25, 26, 27, 28, 14, 42, 43, 44, 45, 13, 46, 47, 48, 49, 50, 51, 52, 53, 54, 55, 56, 57, 58, 59, 60, 61, 62, 65, 66, 67, 68, 69, 70, 71, 72, 73, 74] (by decide +kernel) (by decide +kernel)
set_option maxRecDepth 20000 in
theorem gX1_beatsUntilSilence_X0_passBeat : GoodIn wsX1_beatsUntilSilence (wsV RX1 129 RX0 yX0_passBeat wsX0_passBeat) := goodIn_app (goodIn_of _ (by decide +kernel)) ggX1_beatsUntilSilence_X0_passBeat
set_option maxRecDepth 20000 in
theorem ggX1_beatsUntilCadence_X0_becomeLike : GoodIn wsX1_beatsUntilCadence wsX0_becomeLike := goodIn_r _ [8, 9, 10, 11, 12, 13, 14, 15, 16, 17, 18, 19, 20, 21, 65, 66, 67, 68, 69, 70, 71, 72, 73, 74] (by decide +kernel) (by decide +kernel)
set_option maxRecDepth 20000 in
theorem gX1_beatsUntilCadence_X0_becomeLike : GoodIn wsX1_beatsUntilCadence (wsV RX1 125 RX0 yX0_becomeLike wsX0_becomeLike) := goodIn_app (goodIn_of _ (by decide +kernel)) ggX1_beatsUntilCadence_X0_becomeLike
set_option maxRecDepth 20000 in
theorem ggX1_beatsUntilCadence_X0_passBeat : GoodIn wsX1_beatsUntilCadence wsX0_passBeat := goodIn_r _ [25, 21, 20, 18, 17, 19, 16, 26, 27, 28, 29, 30, 31, 32, 7, 33, 34, 35, 36, 37, 38, 39, 40, 41, 15, 42, 43, 44, 45, 14, 46, 47, 48, 49, 50, 51, 52, 53, 54, 55, 56, 57, 58, 59, 60, 61, 62, 65, 66, 67, 68, 69, 70, 71, 72, 73, 74] (by decide +kernel) (by decide +kernel)
set_option maxRecDepth 20000 in
theorem gX1_beatsUntilCadence_X0_passBeat : GoodIn wsX1_beatsUntilCadence (wsV RX1 129 RX0 yX0_passBeat wsX0_passBeat) := goodIn_app (goodIn_of _ (by decide +kernel)) ggX1_beatsUntilCadence_X0_passBeat
set_option maxRecDepth 20000 in
theorem ggX1_greatestAccord_X0_sizeOfGreatestAccord : GoodIn wsX1_greatestAccord wsX0_sizeOfGreatestAccord := goodIn_r _ [6, 7, 8, 9, 10, 11, 5, 12, 13, 14, 15, 16, 17, 18, 19, 20, 21, 22, 23, 24, 25, 26, 27, 28, 29, 30, 31, 32, 33, 34, 35, 36, 37, 40, 41, 42, 43, 44, 45, 46, 47, 48, 49] (by decide +kernel) (by decide +kernel)
set_option maxRecDepth 20000 in
theorem gX1_greatestAccord_X0_sizeOfGreatestAccord : GoodIn wsX1_greatestAccord (wsV RX1 132 RX0 yX0_sizeOfGreatestAccord wsX0_sizeOfGreatestAccord) := goodIn_app (goodIn_of _ (by decide +kernel)) ggX1_greatestAccord_X0_sizeOfGreatestAccord
set_option maxRecDepth 20000 in
theorem ggX1_meanPitch_X0_meanOfPitches : GoodIn wsX1_meanPitch wsX0_meanOfPitches := goodIn_r _ [6, 7, 8, 9, 10, 11, 5, 12, 13, 14, 15, 16, 17, 18, 21, 22, 23, 24, 25, 26, 27, 28, 29, 30] (by decide +kernel) (by decide +kernel)
set_option maxRecDepth 20000 in
theorem gX1_meanPitch_X0_meanOfPitches : GoodIn wsX1_meanPitch (wsV RX1 135 RX0 yX0_meanOfPitches wsX0_meanOfPitches) := goodIn_app (goodIn_of _ (by decide +kernel)) ggX1_meanPitch_X0_meanOfPitches
set_option maxRecDepth 20000 in
theorem ggX1_digest_X1_pots : GoodIn wsX1_digest wsX1_pots := goodIn_r _ [9, 3, 4, 203, 204, 205, 206, 207, 208, 209, 210, 211, 212, 213, 214] (by decide +kernel) (by decide +kernel)
set_option maxRecDepth 20000 in
theorem gX1_digest_X1_pots : GoodIn wsX1_digest (wsV RX1 143 RX1 yX1_pots wsX1_pots) := goodIn_app (goodIn_of _ (by decide +kernel)) ggX1_digest_X1_pots
set_option maxRecDepth 20000 in
theorem ggX1_digest_X1_beats : GoodIn wsX1_digest wsX1_beats := goodIn_r _ [13, 3, 14, 203, 204, 205, 206, 207, 208, 209, 210, 211, 212, 213, 214] (by decide +kernel) (by decide +kernel)
set_option maxRecDepth 20000 in
theorem gX1_digest_X1_beats : GoodIn wsX1_digest (wsV RX1 146 RX1 yX1_beats wsX1_beats) := goodIn_app (goodIn_of _ (by decide +kernel)) ggX1_digest_X1_beats
set_option maxRecDepth 20000 in
theorem ggX1_digest_X1_sounding : GoodIn wsX1_digest wsX1_sounding := goodIn_r _ [18, 3, 19, 20, 21, 22, 23, 24, 25, 26, 27, 28, 29, 30, 203, 204, 205, 206, 207, 208, 209, 210, 211, 212, 213, 214] (by decide +kernel) (by decide +kernel)
set_option maxRecDepth 20000 in
theorem gX1_digest_X1_sounding : GoodIn wsX1_digest (wsV RX1 149 RX1 yX1_sounding wsX1_sounding) := goodIn_app (goodIn_of _ (by decide +kernel)) ggX1_digest_X1_sounding
set_option maxRecDepth 20000 in
theorem ggX1_digest_X1_harmony : GoodIn wsX1_digest wsX1_harmony := goodIn_r _ [34, 3, 35, 36, 37, 22, 38, 39, 20, 21, 23, 24, 25, 26, 27, 28, 29, 30, 40, 41, 42, 43, 44, 45, 46, 47, 48, 49, 8, 50, 51, 52, 53, 54, 203, 204, 205, 206, 207, 208, 209, 210, 211, 212, 213, 214] (by decide +kernel) (by decide +kernel)
set_option maxRecDepth 20000 in
theorem gX1_digest_X1_harmony : GoodIn wsX1_digest (wsV RX1 152 RX1 yX1_harmony wsX1_harmony) := goodIn_app (goodIn_of _ (by decide +kernel)) ggX1_digest_X1_harmony
set_option maxRecDepth 20000 in
theorem ggX1_digest_X1_clashes : GoodIn wsX1_digest wsX1_clashes := goodIn_r _ [58, 3, 59, 41, 42, 22, 43, 24, 44, 25, 26, 27, 28, 29, 30, 45, 46, 47, 48, 49, 8, 50, 51, 52, 53, 54, 203, 204, 205, 206, 207, 208, 209, 210, 211, 212, 213, 214] (by decide +kernel) (by decide +kernel)
set_option maxRecDepth 20000 in
theorem gX1_digest_X1_clashes : GoodIn wsX1_digest (wsV RX1 155 RX1 yX1_clashes wsX1_clashes) := goodIn_app (goodIn_of _ (by decide +kernel)) ggX1_digest_X1_clashes
set_option maxRecDepth 20000 in
theorem ggX1_digest_X1_harshest : GoodIn wsX1_digest wsX1_harshest := goodIn_r _ [63, 3, 59, 41, 42, 22, 43, 24, 44, 25, 26, 27, 28, 29, 30, 45, 46, 47, 48, 49, 8, 50, 51, 52, 53, 54, 64, 65, 66, 67, 203, 204, 205, 206, 207, 208, 209, 210, 211, 212, 213, 214] (by decide +kernel) (by decide +kernel)
set_option maxRecDepth 20000 in
theorem gX1_digest_X1_harshest : GoodIn wsX1_digest (wsV RX1 158 RX1 yX1_harshest wsX1_harshest) := goodIn_app (goodIn_of _ (by decide +kernel)) ggX1_digest_X1_harshest
set_option maxRecDepth 20000 in
theorem ggX1_digest_X1_lowest : GoodIn wsX1_digest wsX1_lowest := goodIn_r _ [71, 3, 72, 73, 74, 22, 75, 24, 44, 25, 26, 27, 28, 29, 30, 203, 204, 205, 206, 207, 208, 209, 210, 211, 212, 213, 214] (by decide +kernel) (by decide +kernel)
set_option maxRecDepth 20000 in
theorem gX1_digest_X1_lowest : GoodIn wsX1_digest (wsV RX1 161 RX1 yX1_lowest wsX1_lowest) := goodIn_app (goodIn_of _ (by decide +kernel)) ggX1_digest_X1_lowest
set_option maxRecDepth 20000 in
theorem ggX1_digest_X1_isClear : GoodIn wsX1_digest wsX1_isClear := goodIn_r _ [79, 3, 80, 81, 82, 22, 83, 39, 20, 21, 23, 24, 25, 26, 27, 28, 29, 30, 40, 41, 42, 43, 44, 45, 46, 47, 48, 49, 8, 50, 51, 52, 53, 54, 203, 204, 205, 206, 207, 208, 209, 210, 211, 212, 213, 214] (by decide +kernel) (by decide +kernel)
set_option maxRecDepth 20000 in
theorem gX1_digest_X1_isClear : GoodIn wsX1_digest (wsV RX1 164 RX1 yX1_isClear wsX1_isClear) := goodIn_app (goodIn_of _ (by decide +kernel)) ggX1_digest_X1_isClear
set_option maxRecDepth 20000 in
theorem ggX1_digest_X1_cadences : GoodIn wsX1_digest wsX1_cadences := goodIn_r _ [87, 3, 88, 203, 204, 205, 206, 207, 208, 209, 210, 211, 212, 213, 214] (by decide +kernel) (by decide +kernel)
set_option maxRecDepth 20000 in
theorem gX1_digest_X1_cadences : GoodIn wsX1_digest (wsV RX1 167 RX1 yX1_cadences wsX1_cadences) := goodIn_app (goodIn_of _ (by decide +kernel)) ggX1_digest_X1_cadences
set_option maxRecDepth 20000 in
theorem ggX1_digest_X1_bestToMute : GoodIn wsX1_digest wsX1_bestToMute := goodIn_r _ [92, 3, 64, 65, 66, 22, 67, 24, 44, 25, 26, 27, 28, 29, 30, 45, 46, 47, 48, 49, 8, 50, 51, 52, 53, 54, 203, 204, 205, 206, 207, 208, 209, 210, 211, 212, 213, 214] (by decide +kernel) (by decide +kernel)
set_option maxRecDepth 20000 in
theorem gX1_digest_X1_bestToMute : GoodIn wsX1_digest (wsV RX1 170 RX1 yX1_bestToMute wsX1_bestToMute) := goodIn_app (goodIn_of _ (by decide +kernel)) ggX1_digest_X1_bestToMute
set_option maxRecDepth 20000 in
theorem ggX1_digest_X1_beatsUntilSilence : GoodIn wsX1_digest wsX1_beatsUntilSilence := goodIn_r _ [96, 97, 3, 98, 99, 100, 22, 101, 102, 103, 104, 105, 106, 44, 29, 107, 30, 24, 108, 109, 110, 19, 20, 21, 23, 25, 26, 27, 28, 111, 112, 113, 114, 115, 116, 53, 117, 118, 81, 82, 83, 39, 40, 41, 42, 43, 45, 46, 47, 48, 49, 8, 50, 51, 52, 54, 119, 120, 121, 122, 123, 124, 125, 203, 204, 205, 206, 207, 208, 209, 210, 211, 212, 213, 214] (by decide +kernel) (by decide +kernel)
set_option maxRecDepth 20000 in
theorem gX1_digest_X1_beatsUntilSilence : GoodIn wsX1_digest (wsV RX1 173 RX1 yX1_beatsUntilSilence wsX1_beatsUntilSilence) := goodIn_app (goodIn_of _ (by decide +kernel)) ggX1_digest_X1_beatsUntilSilence
set_option maxRecDepth 20000 in
theorem ggX1_digest_X1_beatsUntilCadence : GoodIn wsX1_digest wsX1_beatsUntilCadence := goodIn_r _ [129, 97, 3, 88, 98, 99, 100, 22, 101, 102, 103, 104, 105, 106, 44, 29, 107, 30, 24, 108, 109, 110, 111, 112, 113, 114, 115, 116, 53, 117, 118, 81, 82, 83, 39, 20, 21, 23, 25, 26, 27, 28, 40, 41, 42, 43, 45, 46, 47, 48, 49, 8, 50, 51, 52, 54, 119, 120, 121, 122, 123, 124, 125, 203, 204, 205, 206, 207, 208, 209, 210, 211, 212, 213, 214] (by decide +kernel) (by decide +kernel)
set_option maxRecDepth 20000 in
theorem gX1_digest_X1_beatsUntilCadence : GoodIn wsX1_digest (wsV RX1 176 RX1 yX1_beatsUntilCadence wsX1_beatsUntilCadence) := goodIn_app (goodIn_of _ (by decide +kernel)) ggX1_digest_X1_beatsUntilCadence
set_option maxRecDepth 20000 in
theorem ggX1_digest_X1_greatestAccord : GoodIn wsX1_digest wsX1_greatestAccord := goodIn_r _ [133, 3, 134, 135, 136, 22, 137, 24, 138, 139, 140, 141, 142, 44, 25, 26, 27, 28, 29, 30, 49, 8, 50, 51, 52, 53, 54, 143, 144, 145, 146, 147, 148, 149, 150, 151, 152, 153, 203, 204, 205, 206, 207, 208, 209, 210, 211, 212, 213, 214] (by decide +kernel) (by decide +kernel)
set_option maxRecDepth 20000 in
theorem gX1_digest_X1_greatestAccord : GoodIn wsX1_digest (wsV RX1 179 RX1 yX1_greatestAccord wsX1_greatestAccord) := goodIn_app (goodIn_of _ (by decide +kernel)) ggX1_digest_X1_greatestAccord
set_option maxRecDepth 20000 in
theorem ggX1_digest_X1_digestPot : GoodIn wsX1_digest wsX1_digestPot := goodIn_ca (goodIn_r _ [157, 2, 158, 159, 160, 8, 161, 3, 162, 163, 164, 165, 166, 167, 168, 4, 169, 170, 171, 172, 173, 174, 175, 176, 177, 178, 179, 180, 181, 182, 183, 184, 185, 186, 187, 188, 26, 27, 22, 28, 29, 30, 189, 190, 191, 192, 193, 46, 47, 48, 24, 44, 25, 49, 50, 51, 52, 53, 54, 194, 195, 196, 197, 198, 199, 200, 201, 202, 45, 203, 204, 205, 206, 207, 208, 209, 210, 211, 212, 213, 214] (by decide +kernel) (by decide +kernel)) (goodIn_sub (fun _ h => List.mem_cons_of_mem _ (List.mem_append_right _ h)) (by decide +kernel))
set_option maxRecDepth 20000 in
theorem gX1_digest_X1_digestPot : GoodIn wsX1_digest (wsV RX1 182 RX1 yX1_digestPot wsX1_digestPot) := goodIn_app (goodIn_of _ (by decide +kernel)) ggX1_digest_X1_digestPot
set_option maxRecDepth 20000 in
theorem ggX1_digestPot_X1_partOf : GoodIn wsX1_digestPot wsX1_partOf := goodIn_ca (goodIn_r _ [6, 7, 8, 9, 10, 11, 5, 12, 13, 14, 15, 69, 70, 71, 72, 73, 74, 75, 76, 77, 78, 79, 80] (by decide +kernel) (by decide +kernel)) (goodIn_sub (fun _ h => List.mem_cons_of_mem _ (List.mem_append_right _ h)) (by decide +kernel))
set_option maxRecDepth 20000 in
theorem gX1_digestPot_X1_partOf : GoodIn wsX1_digestPot (wsV RX1 186 RX1 yX1_partOf wsX1_partOf) := goodIn_app (goodIn_of _ (by decide +kernel)) ggX1_digestPot_X1_partOf
set_option maxRecDepth 20000 in
theorem ggX1_digestPot_X1_pitchOf : GoodIn wsX1_digestPot wsX1_pitchOf := goodIn_ca (goodIn_r _ [19, 7, 20, 9, 10, 11, 5, 12, 13, 14, 15, 69, 70, 71, 72, 73, 74, 75, 76, 77, 78, 79, 80] (by decide +kernel) (by decide +kernel)) (goodIn_sub (fun _ h => List.mem_cons_of_mem _ (List.mem_append_right _ h)) (by decide +kernel))
set_option maxRecDepth 20000 in
theorem gX1_digestPot_X1_pitchOf : GoodIn wsX1_digestPot (wsV RX1 189 RX1 yX1_pitchOf wsX1_pitchOf) := goodIn_app (goodIn_of _ (by decide +kernel)) ggX1_digestPot_X1_pitchOf
set_option maxRecDepth 20000 in
theorem ggX1_digestPot_X1_teaOf : GoodIn wsX1_digestPot wsX1_teaOf := goodIn_ca (goodIn_r _ [24, 7, 25, 9, 10, 11, 5, 12, 13, 14, 15, 69, 70, 71, 72, 73, 74, 75, 76, 77, 78, 79, 80] (by decide +kernel) (by decide +kernel)) (goodIn_sub (fun _ h => List.mem_cons_of_mem _ (List.mem_append_right _ h)) (by decide +kernel))
set_option maxRecDepth 20000 in
theorem gX1_digestPot_X1_teaOf : GoodIn wsX1_digestPot (wsV RX1 192 RX1 yX1_teaOf wsX1_teaOf) := goodIn_app (goodIn_of _ (by decide +kernel)) ggX1_digestPot_X1_teaOf
set_option maxRecDepth 20000 in
theorem ggX1_digestPot_X1_crackOf : GoodIn wsX1_digestPot wsX1_crackOf := goodIn_ca (goodIn_r _ [29, 7, 30, 9, 10, 11, 5, 12, 13, 14, 15, 69, 70, 71, 72, 73, 74, 75, 76, 77, 78, 79, 80] (by decide +kernel) (by decide +kernel)) (goodIn_sub (fun _ h => List.mem_cons_of_mem _ (List.mem_append_right _ h)) (by decide +kernel))
set_option maxRecDepth 20000 in
theorem gX1_digestPot_X1_crackOf : GoodIn wsX1_digestPot (wsV RX1 195 RX1 yX1_crackOf wsX1_crackOf) := goodIn_app (goodIn_of _ (by decide +kernel)) ggX1_digestPot_X1_crackOf
set_option maxRecDepth 20000 in
theorem ggX1_digestPot_X1_sounds : GoodIn wsX1_digestPot wsX1_sounds := goodIn_ca (goodIn_r _ [34, 7, 9, 10, 11, 5, 12, 13, 14, 15, 35, 36, 37, 38, 39, 40, 41, 69, 70, 71, 72, 73, 74, 75, 76, 77, 78, 79, 80] (by decide +kernel) (by decide +kernel)) (goodIn_sub (fun _ h => List.mem_cons_of_mem _ (List.mem_append_right _ h)) (by decide +kernel))
set_option maxRecDepth 20000 in
theorem gX1_digestPot_X1_sounds : GoodIn wsX1_digestPot (wsV RX1 198 RX1 yX1_sounds wsX1_sounds) := goodIn_app (goodIn_of _ (by decide +kernel)) ggX1_digestPot_X1_sounds
set_option maxRecDepth 20000 in
theorem ggX1_digestPot_X1_clashesOf : GoodIn wsX1_digestPot wsX1_clashesOf := goodIn_ca (goodIn_r _ [45, 7, 20, 9, 10, 11, 5, 12, 13, 14, 15, 35, 36, 37, 38, 39, 40, 41, 46, 47, 48, 49, 50, 51, 52, 53, 54, 55, 56, 57, 58, 69, 70, 71, 72, 73, 74, 75, 76, 77, 78, 79, 80] (by decide +kernel) (by decide +kernel)) (goodIn_sub (fun _ h => List.mem_cons_of_mem _ (List.mem_append_right _ h)) (by decide +kernel))
set_option maxRecDepth 20000 in
theorem gX1_digestPot_X1_clashesOf : GoodIn wsX1_digestPot (wsV RX1 201 RX1 yX1_clashesOf wsX1_clashesOf) := goodIn_app (goodIn_of _ (by decide +kernel)) ggX1_digestPot_X1_clashesOf
set_option maxRecDepth 20000 in
theorem ggX1_digestPot_X1_bestTuning : GoodIn wsX1_digestPot wsX1_bestTuning := goodIn_ca (goodIn_r _ [62, 7, 9, 10, 11, 5, 12, 13, 14, 15, 35, 36, 37, 38, 39, 40, 41, 63, 64, 65, 66, 51, 67, 56, 57, 58, 68, 47, 48, 49, 50, 52, 53, 54, 55, 69, 70, 71, 72, 73, 74, 75, 76, 77, 78, 79, 80] (by decide +kernel) (by decide +kernel)) (goodIn_sub (fun _ h => List.mem_cons_of_mem _ (List.mem_append_right _ h)) (by decide +kernel))
set_option maxRecDepth 20000 in
theorem gX1_digestPot_X1_bestTuning : GoodIn wsX1_digestPot (wsV RX1 204 RX1 yX1_bestTuning wsX1_bestTuning) := goodIn_app (goodIn_of _ (by decide +kernel)) ggX1_digestPot_X1_bestTuning
end
section
set_option maxRecDepth 20000 in
theorem ggX2_isPot_X2_isIn : GoodIn wsX2_isPot wsX2_isIn := goodIn_r _ [5] (by decide +kernel) (by decide +kernel)
set_option maxRecDepth 20000 in
theorem gX2_isPot_X2_isIn : GoodIn wsX2_isPot (va_wsS RX2 26 yX2_isIn wsX2_isIn) := goodIn_app (goodIn_of _ (by decide +kernel)) ggX2_isPot_X2_isIn
set_option maxRecDepth 20000 in
theorem ggX2_set_X2_heard : GoodIn wsX2_set wsX2_heard := goodIn_r _ [6, 7, 8, 9, 10, 11, 12, 13, 14] (by decide +kernel) (by decide +kernel)
set_option maxRecDepth 20000 in
theorem gX2_set_X2_heard : GoodIn wsX2_set (wsV RX2 39 RX2 yX2_heard wsX2_heard) := goodIn_app (goodIn_of _ (by decide +kernel)) ggX2_set_X2_heard
set_option maxRecDepth 20000 in
theorem ggX2_accord_X2_apart : GoodIn wsX2_accord wsX2_apart := goodIn_r _ [5, 6, 7, 8, 9, 10, 11, 12, 13, 14, 15, 16] (by decide +kernel) (by decide +kernel)
set_option maxRecDepth 20000 in
theorem gX2_accord_X2_apart : GoodIn wsX2_accord (wsV RX2 49 RX2 yX2_apart wsX2_apart) := goodIn_app (goodIn_of _ (by decide +kernel)) ggX2_accord_X2_apart
set_option maxRecDepth 20000 in
theorem ggX2_against_X2_accord : GoodIn wsX2_against wsX2_accord := goodIn_r _ [6, 7, 8, 9, 5, 10, 11, 12, 13, 14, 15, 16, 17, 18, 19, 20, 21] (by decide +kernel) (by decide +kernel)
set_option maxRecDepth 20000 in
theorem gX2_against_X2_accord : GoodIn wsX2_against (wsV RX2 53 RX2 yX2_accord wsX2_accord) := goodIn_app (goodIn_of _ (by decide +kernel)) ggX2_against_X2_accord
set_option maxRecDepth 20000 in
theorem ggX2_allClashes_X2_against : GoodIn wsX2_allClashes wsX2_against := goodIn_r _ [6, 1, 7, 8, 9, 5, 10, 11, 12, 13, 14, 15, 16, 17, 18, 19, 20, 21, 22, 23, 24, 25] (by decide +kernel) (by decide +kernel)
set_option maxRecDepth 20000 in
theorem gX2_allClashes_X2_against : GoodIn wsX2_allClashes (wsV RX2 57 RX2 yX2_against wsX2_against) := goodIn_app (goodIn_of _ (by decide +kernel)) ggX2_allClashes_X2_against
set_option maxRecDepth 20000 in
theorem ggX2_harmonyOf_J6_bitCount_0f7a4 : GoodIn wsX2_harmonyOf wsJ6_bitCount_0f7a4 := goodIn_r _ [4, 5, 6, 7] (by decide +kernel) (by decide +kernel)
set_option maxRecDepth 20000 in
theorem gX2_harmonyOf_J6_bitCount_0f7a4 : GoodIn wsX2_harmonyOf (va_wsS RX2 60 yJ6_bitCount_0f7a4 wsJ6_bitCount_0f7a4) := goodIn_app (goodIn_of _ (by decide +kernel)) ggX2_harmonyOf_J6_bitCount_0f7a4
set_option maxRecDepth 20000 in
theorem ggX2_harmonyOf_X2_allClashes : GoodIn wsX2_harmonyOf wsX2_allClashes := goodIn_r _ [12, 13, 14, 15, 16, 11, 17, 18, 19, 20, 21, 22, 23, 24, 25, 26, 27, 28, 29, 30, 31, 32, 33, 34, 35, 36] (by decide +kernel) (by decide +kernel)
set_option maxRecDepth 20000 in
theorem gX2_harmonyOf_X2_allClashes : GoodIn wsX2_harmonyOf (wsV RX2 65 RX2 yX2_allClashes wsX2_allClashes) := goodIn_app (goodIn_of _ (by decide +kernel)) ggX2_harmonyOf_X2_allClashes
set_option maxRecDepth 20000 in
theorem ggX2_clear_X2_set : GoodIn wsX2_clear wsX2_set := goodIn_r _ [5, 6, 7, 8, 9, 4, 10, 11, 12, 40, 41, 42, 43, 44, 45] (by decide +kernel) (by decide +kernel)
set_option maxRecDepth 20000 in
theorem gX2_clear_X2_set : GoodIn wsX2_clear (wsV RX2 68 RX2 yX2_set wsX2_set) := goodIn_app (goodIn_of _ (by decide +kernel)) ggX2_clear_X2_set
set_option maxRecDepth 20000 in
theorem ggX2_clear_J6_bitCount_0f7a4 : GoodIn wsX2_clear wsJ6_bitCount_0f7a4 := goodIn_r _ [16, 17, 18, 19] (by decide +kernel) (by decide +kernel)
set_option maxRecDepth 20000 in
theorem gX2_clear_J6_bitCount_0f7a4 : GoodIn wsX2_clear (va_wsS RX2 60 yJ6_bitCount_0f7a4 wsJ6_bitCount_0f7a4) := goodIn_app (goodIn_of _ (by decide +kernel)) ggX2_clear_J6_bitCount_0f7a4
set_option maxRecDepth 20000 in
theorem ggX2_clear_X2_allClashes : GoodIn wsX2_clear wsX2_allClashes := goodIn_r _ [23, 6, 24, 25, 26, 4, 27, 28, 29, 30, 31, 32, 33, 34, 35, 11, 36, 37, 38, 39, 40, 41, 42, 43, 44, 45] (by decide +kernel) (by decide +kernel)
set_option maxRecDepth 20000 in
theorem gX2_clear_X2_allClashes : GoodIn wsX2_clear (wsV RX2 65 RX2 yX2_allClashes wsX2_allClashes) := goodIn_app (goodIn_of _ (by decide +kernel)) ggX2_clear_X2_allClashes
set_option maxRecDepth 20000 in
theorem ggX2_beat_X2_set : GoodIn wsX2_beat wsX2_set := goodIn_r _ [15, 2, 16, 17, 18, 14, 19, 1, 10, 50, 51, 52, 53, 54, 55] (by decide +kernel) (by decide +kernel)
set_option maxRecDepth 20000 in
theorem gX2_beat_X2_set : GoodIn wsX2_beat (wsV RX2 68 RX2 yX2_set wsX2_set) := goodIn_app (goodIn_of _ (by decide +kernel)) ggX2_beat_X2_set
set_option maxRecDepth 20000 in
theorem ggX2_beat_X2_allClashes : GoodIn wsX2_beat wsX2_allClashes := goodIn_r _ [23, 2, 24, 25, 26, 14, 27, 28, 29, 30, 31, 32, 33, 34, 35, 1, 36, 37, 5, 38, 50, 51, 52, 53, 54, 55] (by decide +kernel) (by decide +kernel)
set_option maxRecDepth 20000 in
theorem gX2_beat_X2_allClashes : GoodIn wsX2_beat (wsV RX2 65 RX2 yX2_allClashes wsX2_allClashes) := goodIn_app (goodIn_of _ (by decide +kernel)) ggX2_beat_X2_allClashes
set_option maxRecDepth 20000 in
theorem ggX2_beat_X2_clear : GoodIn wsX2_beat wsX2_clear := goodIn_r _ [42, 11, 12, 13, 14, 15, 2, 16, 17, 18, 19, 1, 10, 43, 44, 45, 46, 47, 48, 49, 20, 21, 22, 23, 24, 25, 26, 27, 28, 29, 30, 31, 32, 33, 34, 35, 36, 37, 5, 38, 50, 51, 52, 53, 54, 55] (by decide +kernel) (by decide +kernel)
set_option maxRecDepth 20000 in
theorem gX2_beat_X2_clear : GoodIn wsX2_beat (wsV RX2 72 RX2 yX2_clear wsX2_clear) := goodIn_app (goodIn_of _ (by decide +kernel)) ggX2_beat_X2_clear
set_option maxRecDepth 20000 in
theorem ggX2_beats_X2_beat : GoodIn wsX2_beats wsX2_beat := goodIn_r _ [5, 6, 7, 8, 9, 10, 11, 12, 13, 14, 15, 16, 17, 18, 4, 19, 20, 21, 22, 23, 24, 25, 26, 27, 28, 29, 30, 31, 32, 33, 34, 35, 36, 37, 38, 39, 40, 41, 42, 43, 44, 45, 46, 47, 48, 49, 50, 51, 52, 53, 54, 55, 56, 57, 58, 59] (by decide +kernel) (by decide +kernel)
set_option maxRecDepth 20000 in
theorem gX2_beats_X2_beat : GoodIn wsX2_beats (wsV RX2 82 RX2 yX2_beat wsX2_beat) := goodIn_app (goodIn_of _ (by decide +kernel)) ggX2_beats_X2_beat
set_option maxRecDepth 20000 in
theorem ggX2_addPot_X2_isIn : GoodIn wsX2_addPot wsX2_isIn := goodIn_r _ [8] (by decide +kernel) (by decide +kernel)
set_option maxRecDepth 20000 in
theorem gX2_addPot_X2_isIn : GoodIn wsX2_addPot (va_wsS RX2 26 yX2_isIn wsX2_isIn) := goodIn_app (goodIn_of _ (by decide +kernel)) ggX2_addPot_X2_isIn
set_option maxRecDepth 20000 in
theorem ggX2_addPot_X2_no : GoodIn wsX2_addPot wsX2_no := goodIn_r _ [12, 1, 13, 14, 15, 16, 17, 18] (by decide +kernel) (by decide +kernel)
set_option maxRecDepth 20000 in
theorem gX2_addPot_X2_no : GoodIn wsX2_addPot (wsV RX2 85 RX2 yX2_no wsX2_no) := goodIn_app (goodIn_of _ (by decide +kernel)) ggX2_addPot_X2_no
set_option maxRecDepth 20000 in
theorem ggX2_tune_X2_isPot : GoodIn wsX2_tune wsX2_isPot := goodIn_r _ [7, 8, 9, 10, 6, 11, 16, 17, 18, 19, 20, 21] (by decide +kernel) (by decide +kernel)
set_option maxRecDepth 20000 in
theorem gX2_tune_X2_isPot : GoodIn wsX2_tune (wsV RX2 88 RX2 yX2_isPot wsX2_isPot) := goodIn_app (goodIn_of _ (by decide +kernel)) ggX2_tune_X2_isPot
set_option maxRecDepth 20000 in
theorem ggX2_tune_X2_no : GoodIn wsX2_tune wsX2_no := goodIn_r _ [15, 1, 16, 17, 18, 19, 20, 21] (by decide +kernel) (by decide +kernel)
set_option maxRecDepth 20000 in
theorem gX2_tune_X2_no : GoodIn wsX2_tune (wsV RX2 85 RX2 yX2_no wsX2_no) := goodIn_app (goodIn_of _ (by decide +kernel)) ggX2_tune_X2_no
set_option maxRecDepth 20000 in
theorem ggX2_tune_X2_isIn : GoodIn wsX2_tune wsX2_isIn := goodIn_r _ [11] (by decide +kernel) (by decide +kernel)
set_option maxRecDepth 20000 in
theorem gX2_tune_X2_isIn : GoodIn wsX2_tune (va_wsS RX2 26 yX2_isIn wsX2_isIn) := goodIn_app (goodIn_of _ (by decide +kernel)) ggX2_tune_X2_isIn
set_option maxRecDepth 20000 in
theorem ggX2_turnCosy_X2_isPot : GoodIn wsX2_turnCosy wsX2_isPot := goodIn_r _ [7, 8, 9, 10, 6, 11, 16, 17, 18, 19, 20, 21] (by decide +kernel) (by decide +kernel)
set_option maxRecDepth 20000 in
theorem gX2_turnCosy_X2_isPot : GoodIn wsX2_turnCosy (wsV RX2 88 RX2 yX2_isPot wsX2_isPot) := goodIn_app (goodIn_of _ (by decide +kernel)) ggX2_turnCosy_X2_isPot
set_option maxRecDepth 20000 in
theorem ggX2_turnCosy_X2_isNot : GoodIn wsX2_turnCosy wsX2_isNot := goodIn_r _ [15, 1, 16, 17, 18, 19, 20, 21] (by decide +kernel) (by decide +kernel)
set_option maxRecDepth 20000 in
theorem gX2_turnCosy_X2_isNot : GoodIn wsX2_turnCosy (wsV RX2 91 RX2 yX2_isNot wsX2_isNot) := goodIn_app (goodIn_of _ (by decide +kernel)) ggX2_turnCosy_X2_isNot
set_option maxRecDepth 20000 in
theorem ggX2_pour_X2_isPot : GoodIn wsX2_pour wsX2_isPot := goodIn_r _ [11, 12, 13, 14, 10, 15, 20, 21, 22, 23, 24, 25] (by decide +kernel) (by decide +kernel)
set_option maxRecDepth 20000 in
theorem gX2_pour_X2_isPot : GoodIn wsX2_pour (wsV RX2 88 RX2 yX2_isPot wsX2_isPot) := goodIn_app (goodIn_of _ (by decide +kernel)) ggX2_pour_X2_isPot
set_option maxRecDepth 20000 in
theorem ggX2_pour_X2_no : GoodIn wsX2_pour wsX2_no := goodIn_r _ [19, 1, 20, 21, 22, 23, 24, 25] (by decide +kernel) (by decide +kernel)
set_option maxRecDepth 20000 in
theorem gX2_pour_X2_no : GoodIn wsX2_pour (wsV RX2 85 RX2 yX2_no wsX2_no) := goodIn_app (goodIn_of _ (by decide +kernel)) ggX2_pour_X2_no
set_option maxRecDepth 20000 in
theorem ggX2_pour_X2_isIn : GoodIn wsX2_pour wsX2_isIn := goodIn_r _ [15] (by decide +kernel) (by decide +kernel)
set_option maxRecDepth 20000 in
theorem gX2_pour_X2_isIn : GoodIn wsX2_pour (va_wsS RX2 26 yX2_isIn wsX2_isIn) := goodIn_app (goodIn_of _ (by decide +kernel)) ggX2_pour_X2_isIn
set_option maxRecDepth 20000 in
theorem ggX2_fill_X2_isPot : GoodIn wsX2_fill wsX2_isPot := goodIn_r _ [7, 8, 9, 10, 6, 11, 16, 17, 18, 19, 20, 21] (by decide +kernel) (by decide +kernel)
set_option maxRecDepth 20000 in
theorem gX2_fill_X2_isPot : GoodIn wsX2_fill (wsV RX2 88 RX2 yX2_isPot wsX2_isPot) := goodIn_app (goodIn_of _ (by decide +kernel)) ggX2_fill_X2_isPot
set_option maxRecDepth 20000 in
theorem ggX2_fill_X2_no : GoodIn wsX2_fill wsX2_no := goodIn_r _ [15, 1, 16, 17, 18, 19, 20, 21] (by decide +kernel) (by decide +kernel)
set_option maxRecDepth 20000 in
theorem gX2_fill_X2_no : GoodIn wsX2_fill (wsV RX2 85 RX2 yX2_no wsX2_no) := goodIn_app (goodIn_of _ (by decide +kernel)) ggX2_fill_X2_no
set_option maxRecDepth 20000 in
theorem ggX2_mend_X2_isPot : GoodIn wsX2_mend wsX2_isPot := goodIn_r _ [7, 8, 9, 10, 6, 11, 16, 17, 18, 19, 20, 21] (by decide +kernel) (by decide +kernel)
set_option maxRecDepth 20000 in
theorem gX2_mend_X2_isPot : GoodIn wsX2_mend (wsV RX2 88 RX2 yX2_isPot wsX2_isPot) := goodIn_app (goodIn_of _ (by decide +kernel)) ggX2_mend_X2_isPot
set_option maxRecDepth 20000 in
theorem ggX2_mend_X2_no : GoodIn wsX2_mend wsX2_no := goodIn_r _ [15, 1, 16, 17, 18, 19, 20, 21] (by decide +kernel) (by decide +kernel)
set_option maxRecDepth 20000 in
theorem gX2_mend_X2_no : GoodIn wsX2_mend (wsV RX2 85 RX2 yX2_no wsX2_no) := goodIn_app (goodIn_of _ (by decide +kernel)) ggX2_mend_X2_no
set_option maxRecDepth 20000 in
theorem ggX2_sing_X2_isIn : GoodIn wsX2_sing wsX2_isIn := goodIn_r _ [5] (by decide +kernel) (by decide +kernel)
set_option maxRecDepth 20000 in
theorem gX2_sing_X2_isIn : GoodIn wsX2_sing (va_wsS RX2 26 yX2_isIn wsX2_isIn) := goodIn_app (goodIn_of _ (by decide +kernel)) ggX2_sing_X2_isIn
set_option maxRecDepth 20000 in
theorem ggX2_sing_X2_beats : GoodIn wsX2_sing wsX2_beats := goodIn_r _ [9, 10, 11, 12, 4, 13, 14, 15, 16, 17, 18, 19, 20, 21, 22, 23, 24, 25, 26, 27, 28, 29, 30, 31, 32, 33, 34, 35, 36, 37, 38, 39, 40, 41, 42, 43, 44, 45, 46, 47, 48, 49, 50, 51, 52, 53, 54, 55, 56, 57, 58, 59, 60, 61, 66, 67, 68, 69, 70, 71] (by decide +kernel) (by decide +kernel)
set_option maxRecDepth 20000 in
theorem gX2_sing_X2_beats : GoodIn wsX2_sing (wsV RX2 94 RX2 yX2_beats wsX2_beats) := goodIn_app (goodIn_of _ (by decide +kernel)) ggX2_sing_X2_beats
set_option maxRecDepth 20000 in
theorem ggX2_sing_X2_no : GoodIn wsX2_sing wsX2_no := goodIn_r _ [65, 1, 66, 67, 68, 69, 70, 71] (by decide +kernel) (by decide +kernel)
set_option maxRecDepth 20000 in
theorem gX2_sing_X2_no : GoodIn wsX2_sing (wsV RX2 85 RX2 yX2_no wsX2_no) := goodIn_app (goodIn_of _ (by decide +kernel)) ggX2_sing_X2_no
set_option maxRecDepth 20000 in
theorem ggX2_pots_X2_ok : GoodIn wsX2_pots wsX2_ok := goodIn_r _ [6, 7, 8, 9, 10, 11, 12, 13] (by decide +kernel) (by decide +kernel)
set_option maxRecDepth 20000 in
theorem gX2_pots_X2_ok : GoodIn wsX2_pots (wsV RX2 97 RX2 yX2_ok wsX2_ok) := goodIn_app (goodIn_of _ (by decide +kernel)) ggX2_pots_X2_ok
set_option maxRecDepth 20000 in
theorem ggX2_partOf_X2_isPot : GoodIn wsX2_partOf wsX2_isPot := goodIn_r _ [7, 8, 9, 10, 6, 11, 16, 17, 18, 19, 20, 21] (by decide +kernel) (by decide +kernel)
set_option maxRecDepth 20000 in
theorem gX2_partOf_X2_isPot : GoodIn wsX2_partOf (wsV RX2 88 RX2 yX2_isPot wsX2_isPot) := goodIn_app (goodIn_of _ (by decide +kernel)) ggX2_partOf_X2_isPot
set_option maxRecDepth 20000 in
theorem ggX2_partOf_X2_no : GoodIn wsX2_partOf wsX2_no := goodIn_r _ [15, 1, 16, 17, 18, 19, 20, 21] (by decide +kernel) (by decide +kernel)
set_option maxRecDepth 20000 in
theorem gX2_partOf_X2_no : GoodIn wsX2_partOf (wsV RX2 85 RX2 yX2_no wsX2_no) := goodIn_app (goodIn_of _ (by decide +kernel)) ggX2_partOf_X2_no
set_option maxRecDepth 20000 in
theorem ggX2_of_X2_isPot : GoodIn wsX2_of wsX2_isPot := goodIn_r _ [7, 8, 9, 10, 6, 11, 16, 17, 18, 19, 20, 21] (by decide +kernel) (by decide +kernel)
set_option maxRecDepth 20000 in
theorem gX2_of_X2_isPot : GoodIn wsX2_of (wsV RX2 88 RX2 yX2_isPot wsX2_isPot) := goodIn_app (goodIn_of _ (by decide +kernel)) ggX2_of_X2_isPot
set_option maxRecDepth 20000 in
theorem ggX2_of_X2_no : GoodIn wsX2_of wsX2_no := goodIn_r _ [15, 1, 16, 17, 18, 19, 20, 21] (by decide +kernel) (by decide +kernel)
set_option maxRecDepth 20000 in
theorem gX2_of_X2_no : GoodIn wsX2_of (wsV RX2 85 RX2 yX2_no wsX2_no) := goodIn_app (goodIn_of _ (by decide +kernel)) ggX2_of_X2_no
set_option maxRecDepth 20000 in
theorem ggX2_pitchOf_X2_of : GoodIn wsX2_pitchOf wsX2_of := goodIn_r _ [5, 6, 7, 8, 9, 10, 4, 11, 12, 13, 14, 15, 16, 17, 18, 19, 20, 21, 22, 23, 24, 25] (by decide +kernel) (by decide +kernel)
set_option maxRecDepth 20000 in
theorem gX2_pitchOf_X2_of : GoodIn wsX2_pitchOf (wsV RX2 100 RX2 yX2_of wsX2_of) := goodIn_app (goodIn_of _ (by decide +kernel)) ggX2_pitchOf_X2_of
set_option maxRecDepth 20000 in
theorem ggX2_teaOf_X2_of : GoodIn wsX2_teaOf wsX2_of := goodIn_r _ [5, 6, 7, 8, 9, 10, 4, 11, 12, 13, 14, 15, 16, 17, 18, 19, 20, 21, 22, 23, 24, 25] (by decide +kernel) (by decide +kernel)
set_option maxRecDepth 20000 in
theorem gX2_teaOf_X2_of : GoodIn wsX2_teaOf (wsV RX2 100 RX2 yX2_of wsX2_of) := goodIn_app (goodIn_of _ (by decide +kernel)) ggX2_teaOf_X2_of
set_option maxRecDepth 20000 in
theorem ggX2_crackOf_X2_of : GoodIn wsX2_crackOf wsX2_of := goodIn_r _ [5, 6, 7, 8, 9, 10, 4, 11, 12, 13, 14, 15, 16, 17, 18, 19, 20, 21, 22, 23, 24, 25] (by decide +kernel) (by decide +kernel)
set_option maxRecDepth 20000 in
theorem gX2_crackOf_X2_of : GoodIn wsX2_crackOf (wsV RX2 100 RX2 yX2_of wsX2_of) := goodIn_app (goodIn_of _ (by decide +kernel)) ggX2_crackOf_X2_of
set_option maxRecDepth 20000 in
theorem ggX2_sounds_X2_isPot : GoodIn wsX2_sounds wsX2_isPot := goodIn_r _ [6, 7, 8, 9, 5, 10, 21, 22, 23, 24, 25, 26] (by decide +kernel) (by decide +kernel)
set_option maxRecDepth 20000 in
theorem gX2_sounds_X2_isPot : GoodIn wsX2_sounds (wsV RX2 88 RX2 yX2_isPot wsX2_isPot) := goodIn_app (goodIn_of _ (by decide +kernel)) ggX2_sounds_X2_isPot
set_option maxRecDepth 20000 in
theorem ggX2_sounds_X2_heard : GoodIn wsX2_sounds wsX2_heard := goodIn_r _ [14, 15, 16, 21, 22, 23, 24, 25, 26] (by decide +kernel) (by decide +kernel)
set_option maxRecDepth 20000 in
theorem gX2_sounds_X2_heard : GoodIn wsX2_sounds (wsV RX2 39 RX2 yX2_heard wsX2_heard) := goodIn_app (goodIn_of _ (by decide +kernel)) ggX2_sounds_X2_heard
set_option maxRecDepth 20000 in
theorem ggX2_sounds_X2_isNot : GoodIn wsX2_sounds wsX2_isNot := goodIn_r _ [20, 1, 21, 22, 23, 24, 25, 26] (by decide +kernel) (by decide +kernel)
set_option maxRecDepth 20000 in
theorem gX2_sounds_X2_isNot : GoodIn wsX2_sounds (wsV RX2 91 RX2 yX2_isNot wsX2_isNot) := goodIn_app (goodIn_of _ (by decide +kernel)) ggX2_sounds_X2_isNot
set_option maxRecDepth 20000 in
theorem ggX2_soundingOf_X2_isIn : GoodIn wsX2_soundingOf wsX2_isIn := goodIn_r _ [7] (by decide +kernel) (by decide +kernel)
set_option maxRecDepth 20000 in
theorem gX2_soundingOf_X2_isIn : GoodIn wsX2_soundingOf (va_wsS RX2 26 yX2_isIn wsX2_isIn) := goodIn_app (goodIn_of _ (by decide +kernel)) ggX2_soundingOf_X2_isIn
set_option maxRecDepth 20000 in
theorem ggX2_soundingOf_X2_no : GoodIn wsX2_soundingOf wsX2_no := goodIn_r _ [11, 1, 18, 19, 20, 21, 22, 23] (by decide +kernel) (by decide +kernel)
set_option maxRecDepth 20000 in
theorem gX2_soundingOf_X2_no : GoodIn wsX2_soundingOf (wsV RX2 85 RX2 yX2_no wsX2_no) := goodIn_app (goodIn_of _ (by decide +kernel)) ggX2_soundingOf_X2_no
set_option maxRecDepth 20000 in
theorem ggX2_soundingOf_X2_heard : GoodIn wsX2_soundingOf wsX2_heard := goodIn_r _ [15, 16, 17, 18, 19, 20, 21, 22, 23] (by decide +kernel) (by decide +kernel)
set_option maxRecDepth 20000 in
theorem gX2_soundingOf_X2_heard : GoodIn wsX2_soundingOf (wsV RX2 39 RX2 yX2_heard wsX2_heard) := goodIn_app (goodIn_of _ (by decide +kernel)) ggX2_soundingOf_X2_heard
set_option maxRecDepth 20000 in
theorem ggX2_beats__X2_ok : GoodIn wsX2_beats_ wsX2_ok := goodIn_r _ [6, 7, 8, 9, 10, 11, 12, 13] (by decide +kernel) (by decide +kernel)
set_option maxRecDepth 20000 in
theorem gX2_beats__X2_ok : GoodIn wsX2_beats_ (wsV RX2 97 RX2 yX2_ok wsX2_ok) := goodIn_app (goodIn_of _ (by decide +kernel)) ggX2_beats__X2_ok
set_option maxRecDepth 20000 in
theorem ggX2_sounding_X2_set : GoodIn wsX2_sounding wsX2_set := goodIn_r _ [5, 6, 7, 8, 9, 4, 10, 11, 12, 25, 26, 27, 28, 29, 30] (by decide +kernel) (by decide +kernel)
set_option maxRecDepth 20000 in
theorem gX2_sounding_X2_set : GoodIn wsX2_sounding (wsV RX2 68 RX2 yX2_set wsX2_set) := goodIn_app (goodIn_of _ (by decide +kernel)) ggX2_sounding_X2_set
set_option maxRecDepth 20000 in
theorem ggX2_sounding_J6_bitCount_0f7a4 : GoodIn wsX2_sounding wsJ6_bitCount_0f7a4 := goodIn_r _ [16, 17, 18, 19] (by decide +kernel) (by decide +kernel)
set_option maxRecDepth 20000 in
theorem gX2_sounding_J6_bitCount_0f7a4 : GoodIn wsX2_sounding (va_wsS RX2 60 yJ6_bitCount_0f7a4 wsJ6_bitCount_0f7a4) := goodIn_app (goodIn_of _ (by decide +kernel)) ggX2_sounding_J6_bitCount_0f7a4
set_option maxRecDepth 20000 in
theorem ggX2_sounding_X2_ok : GoodIn wsX2_sounding wsX2_ok := goodIn_r _ [23, 24, 25, 26, 27, 28, 29, 30] (by decide +kernel) (by decide +kernel)
set_option maxRecDepth 20000 in
theorem gX2_sounding_X2_ok : GoodIn wsX2_sounding (wsV RX2 97 RX2 yX2_ok wsX2_ok) := goodIn_app (goodIn_of _ (by decide +kernel)) ggX2_sounding_X2_ok
set_option maxRecDepth 20000 in
theorem ggX2_interval_X2_isPot : GoodIn wsX2_interval wsX2_isPot := goodIn_r _ [6, 7, 8, 9, 5, 10, 24, 25, 26, 27, 28, 29] (by decide +kernel) (by decide +kernel)
set_option maxRecDepth 20000 in
theorem gX2_interval_X2_isPot : GoodIn wsX2_interval (wsV RX2 88 RX2 yX2_isPot wsX2_isPot) := goodIn_app (goodIn_of _ (by decide +kernel)) ggX2_interval_X2_isPot
set_option maxRecDepth 20000 in
theorem ggX2_interval_X2_apart : GoodIn wsX2_interval wsX2_apart := goodIn_r _ [14, 15, 16, 17, 18, 19, 24, 25, 26, 27, 28, 29] (by decide +kernel) (by decide +kernel)
set_option maxRecDepth 20000 in
theorem gX2_interval_X2_apart : GoodIn wsX2_interval (wsV RX2 49 RX2 yX2_apart wsX2_apart) := goodIn_app (goodIn_of _ (by decide +kernel)) ggX2_interval_X2_apart
set_option maxRecDepth 20000 in
theorem ggX2_interval_X2_no : GoodIn wsX2_interval wsX2_no := goodIn_r _ [23, 1, 24, 25, 26, 27, 28, 29] (by decide +kernel) (by decide +kernel)
set_option maxRecDepth 20000 in
theorem gX2_interval_X2_no : GoodIn wsX2_interval (wsV RX2 85 RX2 yX2_no wsX2_no) := goodIn_app (goodIn_of _ (by decide +kernel)) ggX2_interval_X2_no
set_option maxRecDepth 20000 in
theorem ggX2_areInAccord_X2_isPot : GoodIn wsX2_areInAccord wsX2_isPot := goodIn_r _ [6, 7, 8, 9, 5, 10, 28, 29, 30, 31, 32, 33] (by decide +kernel) (by decide +kernel)
set_option maxRecDepth 20000 in
theorem gX2_areInAccord_X2_isPot : GoodIn wsX2_areInAccord (wsV RX2 88 RX2 yX2_isPot wsX2_isPot) := goodIn_app (goodIn_of _ (by decide +kernel)) ggX2_areInAccord_X2_isPot
set_option maxRecDepth 20000 in
theorem ggX2_areInAccord_X2_accord : GoodIn wsX2_areInAccord wsX2_accord := goodIn_r _ [14, 15, 16, 17, 5, 18, 19, 20, 21, 22, 23, 28, 29, 30, 31, 32, 33] (by decide +kernel) (by decide +kernel)
set_option maxRecDepth 20000 in
theorem gX2_areInAccord_X2_accord : GoodIn wsX2_areInAccord (wsV RX2 53 RX2 yX2_accord wsX2_accord) := goodIn_app (goodIn_of _ (by decide +kernel)) ggX2_areInAccord_X2_accord
set_option maxRecDepth 20000 in
theorem ggX2_areInAccord_X2_isNot : GoodIn wsX2_areInAccord wsX2_isNot := goodIn_r _ [27, 1, 28, 29, 30, 31, 32, 33] (by decide +kernel) (by decide +kernel)
set_option maxRecDepth 20000 in
theorem gX2_areInAccord_X2_isNot : GoodIn wsX2_areInAccord (wsV RX2 91 RX2 yX2_isNot wsX2_isNot) := goodIn_app (goodIn_of _ (by decide +kernel)) ggX2_areInAccord_X2_isNot
set_option maxRecDepth 20000 in
theorem ggX2_harmony_X2_set : GoodIn wsX2_harmony wsX2_set := goodIn_r _ [5, 6, 7, 8, 9, 4, 10, 11, 12, 49, 50, 51, 52, 53, 54] (by decide +kernel) (by decide +kernel)
set_option maxRecDepth 20000 in
theorem gX2_harmony_X2_set : GoodIn wsX2_harmony (wsV RX2 68 RX2 yX2_set wsX2_set) := goodIn_app (goodIn_of _ (by decide +kernel)) ggX2_harmony_X2_set
set_option maxRecDepth 20000 in
theorem ggX2_harmony_X2_harmonyOf : GoodIn wsX2_harmony wsX2_harmonyOf := goodIn_r _ [16, 17, 18, 19, 20, 21, 22, 23, 24, 25, 26, 4, 27, 6, 28, 29, 30, 31, 32, 33, 34, 35, 36, 37, 38, 39, 11, 40, 41, 42, 43, 49, 50, 51, 52, 53, 54] (by decide +kernel) (by decide +kernel)
set_option maxRecDepth 20000 in
theorem gX2_harmony_X2_harmonyOf : GoodIn wsX2_harmony (wsV RX2 103 RX2 yX2_harmonyOf wsX2_harmonyOf) := goodIn_app (goodIn_of _ (by decide +kernel)) ggX2_harmony_X2_harmonyOf
set_option maxRecDepth 20000 in
theorem ggX2_harmony_X2_ok : GoodIn wsX2_harmony wsX2_ok := goodIn_r _ [47, 48, 49, 50, 51, 52, 53, 54] (by decide +kernel) (by decide +kernel)
set_option maxRecDepth 20000 in
theorem gX2_harmony_X2_ok : GoodIn wsX2_harmony (wsV RX2 97 RX2 yX2_ok wsX2_ok) := goodIn_app (goodIn_of _ (by decide +kernel)) ggX2_harmony_X2_ok
set_option maxRecDepth 20000 in
theorem ggX2_clashes_X2_set : GoodIn wsX2_clashes wsX2_set := goodIn_r _ [5, 6, 7, 8, 9, 4, 10, 11, 12, 38, 39, 40, 41, 42, 43] (by decide +kernel) (by decide +kernel)
set_option maxRecDepth 20000 in
theorem gX2_clashes_X2_set : GoodIn wsX2_clashes (wsV RX2 68 RX2 yX2_set wsX2_set) := goodIn_app (goodIn_of _ (by decide +kernel)) ggX2_clashes_X2_set
set_option maxRecDepth 20000 in
theorem ggX2_clashes_X2_allClashes : GoodIn wsX2_clashes wsX2_allClashes := goodIn_r _ [16, 6, 17, 18, 19, 4, 20, 21, 22, 23, 24, 25, 26, 27, 28, 11, 29, 30, 31, 32, 38, 39, 40, 41, 42, 43] (by decide +kernel) (by decide +kernel)
set_option maxRecDepth 20000 in
theorem gX2_clashes_X2_allClashes : GoodIn wsX2_clashes (wsV RX2 65 RX2 yX2_allClashes wsX2_allClashes) := goodIn_app (goodIn_of _ (by decide +kernel)) ggX2_clashes_X2_allClashes
set_option maxRecDepth 20000 in
theorem ggX2_clashes_X2_ok : GoodIn wsX2_clashes wsX2_ok := goodIn_r _ [36, 37, 38, 39, 40, 41, 42, 43] (by decide +kernel) (by decide +kernel)
set_option maxRecDepth 20000 in
theorem gX2_clashes_X2_ok : GoodIn wsX2_clashes (wsV RX2 97 RX2 yX2_ok wsX2_ok) := goodIn_app (goodIn_of _ (by decide +kernel)) ggX2_clashes_X2_ok
set_option maxRecDepth 20000 in
theorem ggX2_clashing_X2_heard : GoodIn wsX2_clashing wsX2_heard := goodIn_r _ [5, 6, 7, 29, 30, 31, 32, 33, 34] (by decide +kernel) (by decide +kernel)
set_option maxRecDepth 20000 in
theorem gX2_clashing_X2_heard : GoodIn wsX2_clashing (wsV RX2 39 RX2 yX2_heard wsX2_heard) := goodIn_app (goodIn_of _ (by decide +kernel)) ggX2_clashing_X2_heard
set_option maxRecDepth 20000 in
theorem ggX2_clashing_X2_set : GoodIn wsX2_clashing wsX2_set := goodIn_r _ [11, 12, 1, 2, 3, 4, 5, 6, 7, 29, 30, 31, 32, 33, 34] (by decide +kernel) (by decide +kernel)
set_option maxRecDepth 20000 in
theorem gX2_clashing_X2_set : GoodIn wsX2_clashing (wsV RX2 68 RX2 yX2_set wsX2_set) := goodIn_app (goodIn_of _ (by decide +kernel)) ggX2_clashing_X2_set
set_option maxRecDepth 20000 in
theorem ggX2_clashing_X2_against : GoodIn wsX2_clashing wsX2_against := goodIn_r _ [16, 12, 17, 18, 19, 4, 20, 21, 22, 23, 24, 6, 25, 26, 27, 28, 29, 30, 31, 32, 33, 34] (by decide +kernel) (by decide +kernel)
set_option maxRecDepth 20000 in
theorem gX2_clashing_X2_against : GoodIn wsX2_clashing (wsV RX2 57 RX2 yX2_against wsX2_against) := goodIn_app (goodIn_of _ (by decide +kernel)) ggX2_clashing_X2_against
set_option maxRecDepth 20000 in
theorem ggX2_clashesOf_X2_isPot : GoodIn wsX2_clashesOf wsX2_isPot := goodIn_r _ [6, 7, 8, 9, 5, 10, 45, 46, 47, 48, 49, 50] (by decide +kernel) (by decide +kernel)
set_option maxRecDepth 20000 in
theorem gX2_clashesOf_X2_isPot : GoodIn wsX2_clashesOf (wsV RX2 88 RX2 yX2_isPot wsX2_isPot) := goodIn_app (goodIn_of _ (by decide +kernel)) ggX2_clashesOf_X2_isPot
set_option maxRecDepth 20000 in
theorem ggX2_clashesOf_X2_clashing : GoodIn wsX2_clashesOf wsX2_clashing := goodIn_r _ [14, 15, 16, 17, 5, 18, 19, 20, 21, 22, 23, 24, 7, 25, 26, 27, 28, 29, 30, 31, 32, 33, 34, 35, 36, 37, 38, 39, 40, 45, 46, 47, 48, 49, 50] (by decide +kernel) (by decide +kernel)
set_option maxRecDepth 20000 in
theorem gX2_clashesOf_X2_clashing : GoodIn wsX2_clashesOf (wsV RX2 106 RX2 yX2_clashing wsX2_clashing) := goodIn_app (goodIn_of _ (by decide +kernel)) ggX2_clashesOf_X2_clashing
set_option maxRecDepth 20000 in
theorem ggX2_clashesOf_X2_no : GoodIn wsX2_clashesOf wsX2_no := goodIn_r _ [44, 1, 45, 46, 47, 48, 49, 50] (by decide +kernel) (by decide +kernel)
set_option maxRecDepth 20000 in
theorem gX2_clashesOf_X2_no : GoodIn wsX2_clashesOf (wsV RX2 85 RX2 yX2_no wsX2_no) := goodIn_app (goodIn_of _ (by decide +kernel)) ggX2_clashesOf_X2_no
set_option maxRecDepth 20000 in
theorem ggX2_harsh_X2_clashing : GoodIn wsX2_harsh wsX2_clashing := goodIn_r _ [6, 7, 8, 9, 5, 10, 11, 12, 13, 14, 15, 16, 1, 17, 18, 19, 20, 21, 22, 23, 24, 25, 26, 27, 28, 29, 30, 31, 32, 33, 34, 35, 36, 37, 38] (by decide +kernel) (by decide +kernel)
set_option maxRecDepth 20000 in
theorem gX2_harsh_X2_clashing : GoodIn wsX2_harsh (wsV RX2 106 RX2 yX2_clashing wsX2_clashing) := goodIn_app (goodIn_of _ (by decide +kernel)) ggX2_harsh_X2_clashing
set_option maxRecDepth 20000 in
theorem ggX2_harshest_X2_harsh : GoodIn wsX2_harshest wsX2_harsh := goodIn_r _ [5, 6, 7, 8, 9, 4, 10, 11, 12, 13, 14, 15, 16, 17, 18, 19, 20, 21, 22, 23, 24, 25, 26, 27, 28, 29, 30, 31, 32, 33, 34, 35, 36, 42, 43, 44, 45, 46, 47] (by decide +kernel) (by decide +kernel)
set_option maxRecDepth 20000 in
theorem gX2_harshest_X2_harsh : GoodIn wsX2_harshest (wsV RX2 109 RX2 yX2_harsh wsX2_harsh) := goodIn_app (goodIn_of _ (by decide +kernel)) ggX2_harshest_X2_harsh
set_option maxRecDepth 20000 in
theorem ggX2_harshest_X2_ok : GoodIn wsX2_harshest wsX2_ok := goodIn_r _ [40, 41, 42, 43, 44, 45, 46, 47] (by decide +kernel) (by decide +kernel)
set_option maxRecDepth 20000 in
theorem gX2_harshest_X2_ok : GoodIn wsX2_harshest (wsV RX2 97 RX2 yX2_ok wsX2_ok) := goodIn_app (goodIn_of _ (by decide +kernel)) ggX2_harshest_X2_ok
set_option maxRecDepth 20000 in
theorem ggX2_low_X2_heard : GoodIn wsX2_low wsX2_heard := goodIn_r _ [7, 2, 8, 9, 10, 11, 12, 13, 14] (by decide +kernel) (by decide +kernel)
set_option maxRecDepth 20000 in
theorem gX2_low_X2_heard : GoodIn wsX2_low (wsV RX2 39 RX2 yX2_heard wsX2_heard) := goodIn_app (goodIn_of _ (by decide +kernel)) ggX2_low_X2_heard
set_option maxRecDepth 20000 in
theorem ggX2_lowest_X2_low : GoodIn wsX2_lowest wsX2_low := goodIn_r _ [5, 6, 7, 8, 9, 10, 4, 11, 12, 18, 19, 20, 21, 22, 23] (by decide +kernel) (by decide +kernel)
set_option maxRecDepth 20000 in
theorem gX2_lowest_X2_low : GoodIn wsX2_lowest (wsV RX2 112 RX2 yX2_low wsX2_low) := goodIn_app (goodIn_of _ (by decide +kernel)) ggX2_lowest_X2_low
set_option maxRecDepth 20000 in
theorem ggX2_lowest_X2_ok : GoodIn wsX2_lowest wsX2_ok := goodIn_r _ [16, 17, 18, 19, 20, 21, 22, 23] (by decide +kernel) (by decide +kernel)
set_option maxRecDepth 20000 in
theorem gX2_lowest_X2_ok : GoodIn wsX2_lowest (wsV RX2 97 RX2 yX2_ok wsX2_ok) := goodIn_app (goodIn_of _ (by decide +kernel)) ggX2_lowest_X2_ok
set_option maxRecDepth 20000 in
theorem ggX2_isClear_X2_clear : GoodIn wsX2_isClear wsX2_clear := goodIn_r _ [6, 7, 8, 9, 5, 10, 11, 12, 13, 14, 15, 16, 17, 18, 19, 20, 21, 22, 23, 24, 25, 26, 27, 28, 29, 30, 31, 32, 33, 34, 35, 36, 37, 38, 39, 40, 41, 42, 43, 44, 45, 46, 47, 48, 49, 50] (by decide +kernel) (by decide +kernel)
set_option maxRecDepth 20000 in
theorem gX2_isClear_X2_clear : GoodIn wsX2_isClear (wsV RX2 72 RX2 yX2_clear wsX2_clear) := goodIn_app (goodIn_of _ (by decide +kernel)) ggX2_isClear_X2_clear
set_option maxRecDepth 20000 in
theorem ggX2_cadences_X2_ok : GoodIn wsX2_cadences wsX2_ok := goodIn_r _ [6, 7, 8, 9, 10, 11, 12, 13] (by decide +kernel) (by decide +kernel)
set_option maxRecDepth 20000 in
theorem gX2_cadences_X2_ok : GoodIn wsX2_cadences (wsV RX2 97 RX2 yX2_ok wsX2_ok) := goodIn_app (goodIn_of _ (by decide +kernel)) ggX2_cadences_X2_ok
set_option maxRecDepth 20000 in
theorem ggX2_tuning_X2_set : GoodIn wsX2_tuning wsX2_set := goodIn_r _ [6, 7, 8, 9, 10, 5, 11, 1, 12, 47, 48, 49, 50, 51, 52] (by decide +kernel) (by decide +kernel)
set_option maxRecDepth 20000 in
theorem gX2_tuning_X2_set : GoodIn wsX2_tuning (wsV RX2 68 RX2 yX2_set wsX2_set) := goodIn_app (goodIn_of _ (by decide +kernel)) ggX2_tuning_X2_set
set_option maxRecDepth 20000 in
theorem ggX2_tuning_X2_harmonyOf : GoodIn wsX2_tuning wsX2_harmonyOf := goodIn_r _ [16, 17, 18, 19, 20, 21, 22, 23, 24, 25, 26, 5, 27, 7, 28, 29, 30, 31, 32, 33, 34, 35, 36, 37, 38, 39, 1, 40, 41, 42, 43, 47, 48, 49, 50, 51, 52] (by decide +kernel) (by decide +kernel)
set_option maxRecDepth 20000 in
theorem gX2_tuning_X2_harmonyOf : GoodIn wsX2_tuning (wsV RX2 103 RX2 yX2_harmonyOf wsX2_harmonyOf) := goodIn_app (goodIn_of _ (by decide +kernel)) ggX2_tuning_X2_harmonyOf
set_option maxRecDepth 20000 in
theorem ggX2_tuning_X2_isIn : GoodIn wsX2_tuning wsX2_isIn := goodIn_r _ [46] (by decide +kernel) (by decide +kernel)
set_option maxRecDepth 20000 in
theorem gX2_tuning_X2_isIn : GoodIn wsX2_tuning (va_wsS RX2 26 yX2_isIn wsX2_isIn) := goodIn_app (goodIn_of _ (by decide +kernel)) ggX2_tuning_X2_isIn
set_option maxRecDepth 20000 in
theorem ggX2_bestTuning_X2_isPot : GoodIn wsX2_bestTuning wsX2_isPot := goodIn_r _ [6, 7, 8, 9, 5, 10, 60, 61, 62, 63, 64, 65] (by decide +kernel) (by decide +kernel)
set_option maxRecDepth 20000 in
theorem gX2_bestTuning_X2_isPot : GoodIn wsX2_bestTuning (wsV RX2 88 RX2 yX2_isPot wsX2_isPot) := goodIn_app (goodIn_of _ (by decide +kernel)) ggX2_bestTuning_X2_isPot
set_option maxRecDepth 20000 in
theorem ggX2_bestTuning_X2_tuning : GoodIn wsX2_bestTuning wsX2_tuning := goodIn_r _ [14, 15, 16, 17, 18, 5, 19, 7, 20, 21, 22, 23, 24, 25, 26, 27, 28, 29, 30, 31, 32, 33, 34, 35, 36, 37, 38, 39, 40, 41, 42, 43, 44, 45, 46, 47, 48, 49, 50, 51, 52, 53, 54, 55, 8, 9, 10, 60, 61, 62, 63, 64, 65] (by decide +kernel) (by decide +kernel)
set_option maxRecDepth 20000 in
theorem gX2_bestTuning_X2_tuning : GoodIn wsX2_bestTuning (wsV RX2 115 RX2 yX2_tuning wsX2_tuning) := goodIn_app (goodIn_of _ (by decide +kernel)) ggX2_bestTuning_X2_tuning
set_option maxRecDepth 20000 in
theorem ggX2_bestTuning_X2_no : GoodIn wsX2_bestTuning wsX2_no := goodIn_r _ [59, 1, 60, 61, 62, 63, 64, 65] (by decide +kernel) (by decide +kernel)
set_option maxRecDepth 20000 in
theorem gX2_bestTuning_X2_no : GoodIn wsX2_bestTuning (wsV RX2 85 RX2 yX2_no wsX2_no) := goodIn_app (goodIn_of _ (by decide +kernel)) ggX2_bestTuning_X2_no
set_option maxRecDepth 20000 in
theorem ggX2_mute_X2_set : GoodIn wsX2_mute wsX2_set := goodIn_r _ [6, 1, 7, 8, 9, 5, 10, 11, 12, 44, 45, 46, 47, 48, 49] (by decide +kernel) (by decide +kernel)
set_option maxRecDepth 20000 in
theorem gX2_mute_X2_set : GoodIn wsX2_mute (wsV RX2 68 RX2 yX2_set wsX2_set) := goodIn_app (goodIn_of _ (by decide +kernel)) ggX2_mute_X2_set
set_option maxRecDepth 20000 in
theorem ggX2_mute_X2_harmonyOf : GoodIn wsX2_mute wsX2_harmonyOf := goodIn_r _ [16, 17, 18, 19, 20, 21, 22, 23, 24, 25, 26, 5, 27, 1, 28, 29, 30, 31, 32, 33, 34, 35, 36, 37, 38, 39, 11, 40, 41, 42, 43, 44, 45, 46, 47, 48, 49] (by decide +kernel) (by decide +kernel)
set_option maxRecDepth 20000 in
theorem gX2_mute_X2_harmonyOf : GoodIn wsX2_mute (wsV RX2 103 RX2 yX2_harmonyOf wsX2_harmonyOf) := goodIn_app (goodIn_of _ (by decide +kernel)) ggX2_mute_X2_harmonyOf
set_option maxRecDepth 20000 in
theorem ggX2_bestToMute_X2_mute : GoodIn wsX2_bestToMute wsX2_mute := goodIn_r _ [5, 6, 7, 8, 9, 4, 10, 11, 12, 13, 14, 15, 16, 17, 18, 19, 20, 21, 22, 23, 24, 25, 26, 27, 28, 29, 30, 31, 32, 33, 34, 35, 36, 37, 38, 39, 40, 41, 42, 43, 44, 45, 46, 47, 53, 54, 55, 56, 57, 58] (by decide +kernel) (by decide +kernel)
set_option maxRecDepth 20000 in
theorem gX2_bestToMute_X2_mute : GoodIn wsX2_bestToMute (wsV RX2 118 RX2 yX2_mute wsX2_mute) := goodIn_app (goodIn_of _ (by decide +kernel)) ggX2_bestToMute_X2_mute
set_option maxRecDepth 20000 in
theorem ggX2_bestToMute_X2_ok : GoodIn wsX2_bestToMute wsX2_ok := goodIn_r _ [51, 52, 53, 54, 55, 56, 57, 58] (by decide +kernel) (by decide +kernel)
set_option maxRecDepth 20000 in
theorem gX2_bestToMute_X2_ok : GoodIn wsX2_bestToMute (wsV RX2 97 RX2 yX2_ok wsX2_ok) := goodIn_app (goodIn_of _ (by decide +kernel)) ggX2_bestToMute_X2_ok
set_option maxRecDepth 20000 in
theorem ggX2_harmonyIn_X2_isIn : GoodIn wsX2_harmonyIn wsX2_isIn := goodIn_r _ [5] (by decide +kernel) (by decide +kernel)
set_option maxRecDepth 20000 in
theorem gX2_harmonyIn_X2_isIn : GoodIn wsX2_harmonyIn (va_wsS RX2 26 yX2_isIn wsX2_isIn) := goodIn_app (goodIn_of _ (by decide +kernel)) ggX2_harmonyIn_X2_isIn
set_option maxRecDepth 20000 in
theorem ggX2_harmonyIn_X2_no : GoodIn wsX2_harmonyIn wsX2_no := goodIn_r _ [9, 1, 83, 84, 85, 86, 87, 88] (by decide +kernel) (by decide +kernel)
set_option maxRecDepth 20000 in
theorem gX2_harmonyIn_X2_no : GoodIn wsX2_harmonyIn (wsV RX2 85 RX2 yX2_no wsX2_no) := goodIn_app (goodIn_of _ (by decide +kernel)) ggX2_harmonyIn_X2_no
set_option maxRecDepth 20000 in
theorem ggX2_harmonyIn_X2_keep : GoodIn wsX2_harmonyIn wsX2_keep := goodIn_r _ [13, 14, 15, 16, 17, 18, 19, 83, 84, 85, 86, 87, 88] (by decide +kernel) (by decide +kernel)
set_option maxRecDepth 20000 in
theorem gX2_harmonyIn_X2_keep : GoodIn wsX2_harmonyIn (wsV RX2 121 RX2 yX2_keep wsX2_keep) := goodIn_app (goodIn_of _ (by decide +kernel)) ggX2_harmonyIn_X2_keep
set_option maxRecDepth 20000 in
theorem ggX2_harmonyIn_X2_beats : GoodIn wsX2_harmonyIn wsX2_beats := goodIn_r _ [23, 24, 25, 26, 4, 27, 14, 28, 29, 30, 31, 32, 33, 34, 35, 36, 37, 38, 39, 40, 41, 42, 43, 44, 45, 46, 47, 48, 49, 50, 51, 52, 53, 54, 55, 56, 57, 58, 59, 60, 61, 62, 63, 64, 65, 66, 67, 68, 69, 70, 71, 72, 73, 74, 83, 84, 85, 86, 87, 88] (by decide +kernel) (by decide +kernel)
set_option maxRecDepth 20000 in
theorem gX2_harmonyIn_X2_beats : GoodIn wsX2_harmonyIn (wsV RX2 94 RX2 yX2_beats wsX2_beats) := goodIn_app (goodIn_of _ (by decide +kernel)) ggX2_harmonyIn_X2_beats
set_option maxRecDepth 20000 in
theorem ggX2_harmonyIn_X2_set : GoodIn wsX2_harmonyIn wsX2_set := goodIn_r _ [40, 28, 41, 42, 43, 4, 44, 14, 36, 83, 84, 85, 86, 87, 88] (by decide +kernel) (by decide +kernel)
set_option maxRecDepth 20000 in
theorem gX2_harmonyIn_X2_set : GoodIn wsX2_harmonyIn (wsV RX2 68 RX2 yX2_set wsX2_set) := goodIn_app (goodIn_of _ (by decide +kernel)) ggX2_harmonyIn_X2_set
set_option maxRecDepth 20000 in
theorem ggX2_harmonyIn_X2_harmonyOf : GoodIn wsX2_harmonyIn wsX2_harmonyOf := goodIn_r _ [78, 68, 69, 70, 71, 72, 73, 74, 45, 46, 47, 4, 48, 28, 49, 50, 51, 52, 53, 54, 55, 56, 57, 58, 59, 60, 14, 61, 62, 31, 63, 83, 84, 85, 86, 87, 88] (by decide +kernel) (by decide +kernel)
set_option maxRecDepth 20000 in
theorem gX2_harmonyIn_X2_harmonyOf : GoodIn wsX2_harmonyIn (wsV RX2 103 RX2 yX2_harmonyOf wsX2_harmonyOf) := goodIn_app (goodIn_of _ (by decide +kernel)) ggX2_harmonyIn_X2_harmonyOf
set_option maxRecDepth 20000 in
theorem ggX2_harmonyIn_X2_bringBack : GoodIn wsX2_harmonyIn wsX2_bringBack := goodIn_r _ [82, 15, 14, 16, 17, 18, 19, 83, 84, 85, 86, 87, 88] (by decide +kernel) (by decide +kernel)
set_option maxRecDepth 20000 in
theorem gX2_harmonyIn_X2_bringBack : GoodIn wsX2_harmonyIn (wsV RX2 124 RX2 yX2_bringBack wsX2_bringBack) := goodIn_app (goodIn_of _ (by decide +kernel)) ggX2_harmonyIn_X2_bringBack
set_option maxRecDepth 20000 in
theorem ggX2_silence_X2_keep : GoodIn wsX2_silence wsX2_keep := goodIn_r _ [5, 6, 7, 8, 9, 10, 11, 67, 68, 69, 70, 71, 72] (by decide +kernel) (by decide +kernel)
set_option maxRecDepth 20000 in
theorem gX2_silence_X2_keep : GoodIn wsX2_silence (wsV RX2 121 RX2 yX2_keep wsX2_keep) := goodIn_app (goodIn_of _ (by decide +kernel)) ggX2_silence_X2_keep
set_option maxRecDepth 20000 in
theorem ggX2_silence_X2_set : GoodIn wsX2_silence wsX2_set := goodIn_r _ [15, 16, 17, 18, 19, 4, 20, 6, 21, 67, 68, 69, 70, 71, 72] (by decide +kernel) (by decide +kernel)
set_option maxRecDepth 20000 in
theorem gX2_silence_X2_set : GoodIn wsX2_silence (wsV RX2 68 RX2 yX2_set wsX2_set) := goodIn_app (goodIn_of _ (by decide +kernel)) ggX2_silence_X2_set
set_option maxRecDepth 20000 in
theorem ggX2_silence_X2_beat : GoodIn wsX2_silence wsX2_beat := goodIn_r _ [25, 6, 16, 26, 27, 28, 29, 30, 31, 32, 21, 12, 13, 14, 4, 15, 17, 18, 19, 20, 33, 34, 35, 36, 37, 38, 39, 40, 41, 42, 43, 44, 45, 46, 47, 48, 49, 50, 51, 52, 53, 54, 55, 56, 57, 58, 59, 60, 61, 62, 67, 68, 69, 70, 71, 72] (by decide +kernel) (by decide +kernel)
set_option maxRecDepth 20000 in
theorem gX2_silence_X2_beat : GoodIn wsX2_silence (wsV RX2 82 RX2 yX2_beat wsX2_beat) := goodIn_app (goodIn_of _ (by decide +kernel)) ggX2_silence_X2_beat
set_option maxRecDepth 20000 in
theorem ggX2_silence_X2_bringBack : GoodIn wsX2_silence wsX2_bringBack := goodIn_r _ [66, 7, 6, 8, 9, 10, 11, 67, 68, 69, 70, 71, 72] (by decide +kernel) (by decide +kernel)
set_option maxRecDepth 20000 in
theorem gX2_silence_X2_bringBack : GoodIn wsX2_silence (wsV RX2 124 RX2 yX2_bringBack wsX2_bringBack) := goodIn_app (goodIn_of _ (by decide +kernel)) ggX2_silence_X2_bringBack
set_option maxRecDepth 20000 in
theorem ggX2_beatsUntilSilence_X2_silence : GoodIn wsX2_beatsUntilSilence wsX2_silence := goodIn_r _ [5, 6, 7, 8, 4, 9, 10, 11, 12, 13, 14, 15, 16, 17, 18, 19, 20, 21, 22, 23, 24, 25, 26, 27, 28, 29, 30, 31, 32, 33, 34, 35, 36, 37, 38, 39, 40, 41, 42, 43, 44, 45, 46, 47, 48, 49, 50, 51, 52, 53, 54, 55, 56, 57, 58, 59, 60, 61, 62, 63, 64, 65, 66, 67, 68, 69, 70, 76, 77, 78, 79, 80, 81] (by decide +kernel) (by decide +kernel)
set_option maxRecDepth 20000 in
theorem gX2_beatsUntilSilence_X2_silence : GoodIn wsX2_beatsUntilSilence (wsV RX2 127 RX2 yX2_silence wsX2_silence) := goodIn_app (goodIn_of _ (by decide +kernel)) ggX2_beatsUntilSilence_X2_silence
set_option maxRecDepth 20000 in
theorem ggX2_beatsUntilSilence_X2_ok : GoodIn wsX2_beatsUntilSilence wsX2_ok := goodIn_r _ [74, 75, 76, 77, 78, 79, 80, 81] (by decide +kernel) (by decide +kernel)
set_option maxRecDepth 20000 in
theorem gX2_beatsUntilSilence_X2_ok : GoodIn wsX2_beatsUntilSilence (wsV RX2 97 RX2 yX2_ok wsX2_ok) := goodIn_app (goodIn_of _ (by decide +kernel)) ggX2_beatsUntilSilence_X2_ok
set_option maxRecDepth 20000 in
theorem ggX2_untilCadence_X2_keep : GoodIn wsX2_untilCadence wsX2_keep := goodIn_r _ [5, 6, 7, 8, 9, 10, 11, 67, 68, 69, 70, 71, 72] (by decide +kernel) (by decide +kernel)
set_option maxRecDepth 20000 in
theorem gX2_untilCadence_X2_keep : GoodIn wsX2_untilCadence (wsV RX2 121 RX2 yX2_keep wsX2_keep) := goodIn_app (goodIn_of _ (by decide +kernel)) ggX2_untilCadence_X2_keep
set_option maxRecDepth 20000 in
theorem ggX2_untilCadence_X2_beat : GoodIn wsX2_untilCadence wsX2_beat := goodIn_r _ [15, 6, 16, 17, 18, 19, 20, 21, 22, 23, 24, 25, 26, 27, 4, 28, 29, 30, 31, 32, 33, 34, 35, 36, 37, 38, 39, 40, 41, 42, 43, 44, 45, 46, 47, 48, 49, 50, 51, 52, 53, 54, 55, 56, 57, 58, 59, 60, 61, 62, 67, 68, 69, 70, 71, 72] (by decide +kernel) (by decide +kernel)
set_option maxRecDepth 20000 in
theorem gX2_untilCadence_X2_beat : GoodIn wsX2_untilCadence (wsV RX2 82 RX2 yX2_beat wsX2_beat) := goodIn_app (goodIn_of _ (by decide +kernel)) ggX2_untilCadence_X2_beat
set_option maxRecDepth 20000 in
theorem ggX2_untilCadence_X2_bringBack : GoodIn wsX2_untilCadence wsX2_bringBack := goodIn_r _ [66, 7, 6, 8, 9, 10, 11, 67, 68, 69, 70, 71, 72] (by decide +kernel) (by decide +kernel)
set_option maxRecDepth 20000 in
theorem gX2_untilCadence_X2_bringBack : GoodIn wsX2_untilCadence (wsV RX2 124 RX2 yX2_bringBack wsX2_bringBack) := goodIn_app (goodIn_of _ (by decide +kernel)) ggX2_untilCadence_X2_bringBack
set_option maxRecDepth 20000 in
theorem ggX2_beatsUntilCadence_X2_untilCadence : GoodIn wsX2_beatsUntilCadence wsX2_untilCadence := goodIn_r _ [5, 6, 7, 8, 4, 9, 10, 11, 12, 13, 14, 15, 16, 17, 18, 19, 20, 21, 22, 23, 24, 25, 26, 27, 28, 29, 30, 31, 32, 33, 34, 35, 36, 37, 38, 39, 40, 41, 42, 43, 44, 45, 46, 47, 48, 49, 50, 51, 52, 53, 54, 55, 56, 57, 58, 59, 60, 61, 62, 63, 64, 65, 66, 67, 68, 69, 70, 76, 77, 78, 79, 80, 81] (by decide +kernel) (by decide +kernel)
set_option maxRecDepth 20000 in
theorem gX2_beatsUntilCadence_X2_untilCadence : GoodIn wsX2_beatsUntilCadence (wsV RX2 130 RX2 yX2_untilCadence wsX2_untilCadence) := goodIn_app (goodIn_of _ (by decide +kernel)) ggX2_beatsUntilCadence_X2_untilCadence
set_option maxRecDepth 20000 in
theorem ggX2_beatsUntilCadence_X2_ok : GoodIn wsX2_beatsUntilCadence wsX2_ok := goodIn_r _ [74, 75, 76, 77, 78, 79, 80, 81] (by decide +kernel) (by decide +kernel)
set_option maxRecDepth 20000 in
theorem gX2_beatsUntilCadence_X2_ok : GoodIn wsX2_beatsUntilCadence (wsV RX2 97 RX2 yX2_ok wsX2_ok) := goodIn_app (goodIn_of _ (by decide +kernel)) ggX2_beatsUntilCadence_X2_ok
set_option maxRecDepth 20000 in
theorem ggX2_greatest_X2_set : GoodIn wsX2_greatest wsX2_set := goodIn_r _ [5, 6, 7, 8, 9, 4, 10, 11, 12, 40, 41, 42, 43, 44, 45] (by decide +kernel) (by decide +kernel)
set_option maxRecDepth 20000 in
theorem gX2_greatest_X2_set : GoodIn wsX2_greatest (wsV RX2 68 RX2 yX2_set wsX2_set) := goodIn_app (goodIn_of _ (by decide +kernel)) ggX2_greatest_X2_set
set_option maxRecDepth 20000 in
theorem ggX2_greatest_J6_bitCount_0f7a4 : GoodIn wsX2_greatest wsJ6_bitCount_0f7a4 := goodIn_r _ [16, 17, 18, 19] (by decide +kernel) (by decide +kernel)
set_option maxRecDepth 20000 in
theorem gX2_greatest_J6_bitCount_0f7a4 : GoodIn wsX2_greatest (va_wsS RX2 60 yJ6_bitCount_0f7a4 wsJ6_bitCount_0f7a4) := goodIn_app (goodIn_of _ (by decide +kernel)) ggX2_greatest_J6_bitCount_0f7a4
set_option maxRecDepth 20000 in
theorem ggX2_greatest_X2_allClashes : GoodIn wsX2_greatest wsX2_allClashes := goodIn_r _ [23, 6, 24, 25, 26, 4, 27, 28, 29, 30, 31, 32, 33, 34, 35, 11, 36, 37, 38, 39, 40, 41, 42, 43, 44, 45] (by decide +kernel) (by decide +kernel)
set_option maxRecDepth 20000 in
theorem gX2_greatest_X2_allClashes : GoodIn wsX2_greatest (wsV RX2 65 RX2 yX2_allClashes wsX2_allClashes) := goodIn_app (goodIn_of _ (by decide +kernel)) ggX2_greatest_X2_allClashes
set_option maxRecDepth 20000 in
theorem ggX2_greatestAccord_X2_greatest : GoodIn wsX2_greatestAccord wsX2_greatest := goodIn_r _ [5, 6, 7, 8, 4, 9, 10, 11, 12, 13, 14, 15, 16, 17, 18, 19, 20, 21, 22, 23, 24, 25, 26, 27, 28, 29, 30, 31, 32, 33, 34, 35, 36, 37, 38, 39, 40, 41, 42, 43, 49, 50, 51, 52, 53, 54] (by decide +kernel) (by decide +kernel)
set_option maxRecDepth 20000 in
theorem gX2_greatestAccord_X2_greatest : GoodIn wsX2_greatestAccord (wsV RX2 133 RX2 yX2_greatest wsX2_greatest) := goodIn_app (goodIn_of _ (by decide +kernel)) ggX2_greatestAccord_X2_greatest
set_option maxRecDepth 20000 in
theorem ggX2_greatestAccord_X2_ok : GoodIn wsX2_greatestAccord wsX2_ok := goodIn_r _ [47, 48, 49, 50, 51, 52, 53, 54] (by decide +kernel) (by decide +kernel)
set_option maxRecDepth 20000 in
theorem gX2_greatestAccord_X2_ok : GoodIn wsX2_greatestAccord (wsV RX2 97 RX2 yX2_ok wsX2_ok) := goodIn_app (goodIn_of _ (by decide +kernel)) ggX2_greatestAccord_X2_ok
set_option maxRecDepth 20000 in
theorem ggX2_meanPitch_X2_heard : GoodIn wsX2_meanPitch wsX2_heard := goodIn_r _ [8, 3, 9, 21, 22, 23, 24, 25, 26] (by decide +kernel) (by decide +kernel)
set_option maxRecDepth 20000 in
theorem gX2_meanPitch_X2_heard : GoodIn wsX2_meanPitch (wsV RX2 39 RX2 yX2_heard wsX2_heard) := goodIn_app (goodIn_of _ (by decide +kernel)) ggX2_meanPitch_X2_heard
set_option maxRecDepth 20000 in
theorem ggX2_meanPitch_X2_set : GoodIn wsX2_meanPitch wsX2_set := goodIn_r _ [13, 2, 4, 5, 6, 7, 8, 3, 9, 21, 22, 23, 24, 25, 26] (by decide +kernel) (by decide +kernel)
set_option maxRecDepth 20000 in
theorem gX2_meanPitch_X2_set : GoodIn wsX2_meanPitch (wsV RX2 68 RX2 yX2_set wsX2_set) := goodIn_app (goodIn_of _ (by decide +kernel)) ggX2_meanPitch_X2_set
set_option maxRecDepth 20000 in
theorem ggX2_meanPitch_J6_bitCount_0f7a4 : GoodIn wsX2_meanPitch wsJ6_bitCount_0f7a4 := goodIn_r _ [17, 18, 19, 20] (by decide +kernel) (by decide +kernel)
set_option maxRecDepth 20000 in
theorem gX2_meanPitch_J6_bitCount_0f7a4 : GoodIn wsX2_meanPitch (va_wsS RX2 60 yJ6_bitCount_0f7a4 wsJ6_bitCount_0f7a4) := goodIn_app (goodIn_of _ (by decide +kernel)) ggX2_meanPitch_J6_bitCount_0f7a4
set_option maxRecDepth 20000 in
theorem ggX2_digest_X2_set : GoodIn wsX2_digest wsX2_set := goodIn_r _ [12, 3, 13, 14, 15, 11, 16, 4, 17, 111, 112, 113, 114, 115, 116] (by decide +kernel) (by decide +kernel)
set_option maxRecDepth 20000 in
theorem gX2_digest_X2_set : GoodIn wsX2_digest (wsV RX2 68 RX2 yX2_set wsX2_set) := goodIn_app (goodIn_of _ (by decide +kernel)) ggX2_digest_X2_set
set_option maxRecDepth 20000 in
theorem ggX2_digest_J6_bitCount_0f7a4 : GoodIn wsX2_digest wsJ6_bitCount_0f7a4 := goodIn_r _ [21, 22, 23, 24] (by decide +kernel) (by decide +kernel)
set_option maxRecDepth 20000 in
theorem gX2_digest_J6_bitCount_0f7a4 : GoodIn wsX2_digest (va_wsS RX2 60 yJ6_bitCount_0f7a4 wsJ6_bitCount_0f7a4) := goodIn_app (goodIn_of _ (by decide +kernel)) ggX2_digest_J6_bitCount_0f7a4
set_option maxRecDepth 20000 in
theorem ggX2_digest_X2_harmonyOf : GoodIn wsX2_digest wsX2_harmonyOf := goodIn_r _ [28, 18, 19, 20, 21, 22, 23, 24, 29, 30, 31, 11, 32, 3, 33, 34, 35, 36, 37, 38, 39, 40, 41, 42, 43, 44, 4, 45, 46, 47, 48, 111, 112, 113, 114, 115, 116] (by decide +kernel) (by decide +kernel)
set_option maxRecDepth 20000 in
theorem gX2_digest_X2_harmonyOf : GoodIn wsX2_digest (wsV RX2 103 RX2 yX2_harmonyOf wsX2_harmonyOf) := goodIn_app (goodIn_of _ (by decide +kernel)) ggX2_digest_X2_harmonyOf
set_option maxRecDepth 20000 in
theorem ggX2_digest_X2_allClashes : GoodIn wsX2_digest wsX2_allClashes := goodIn_r _ [32, 3, 33, 34, 35, 11, 36, 37, 38, 39, 40, 41, 42, 43, 44, 4, 45, 46, 47, 48, 111, 112, 113, 114, 115, 116] (by decide +kernel) (by decide +kernel)
set_option maxRecDepth 20000 in
theorem gX2_digest_X2_allClashes : GoodIn wsX2_digest (wsV RX2 65 RX2 yX2_allClashes wsX2_allClashes) := goodIn_app (goodIn_of _ (by decide +kernel)) ggX2_digest_X2_allClashes
set_option maxRecDepth 20000 in
theorem ggX2_digest_X2_harsh : GoodIn wsX2_digest wsX2_harsh := goodIn_r _ [52, 3, 53, 54, 55, 11, 56, 13, 14, 15, 16, 4, 17, 8, 9, 10, 12, 33, 34, 35, 36, 37, 38, 39, 40, 41, 42, 43, 44, 45, 46, 47, 48, 111, 112, 113, 114, 115, 116] (by decide +kernel) (by decide +kernel)
set_option maxRecDepth 20000 in
theorem gX2_digest_X2_harsh : GoodIn wsX2_digest (wsV RX2 109 RX2 yX2_harsh wsX2_harsh) := goodIn_app (goodIn_of _ (by decide +kernel)) ggX2_digest_X2_harsh
set_option maxRecDepth 20000 in
theorem ggX2_digest_X2_low : GoodIn wsX2_digest wsX2_low := goodIn_r _ [60, 3, 4, 13, 14, 15, 11, 16, 17, 111, 112, 113, 114, 115, 116] (by decide +kernel) (by decide +kernel)
set_option maxRecDepth 20000 in
theorem gX2_digest_X2_low : GoodIn wsX2_digest (wsV RX2 112 RX2 yX2_low wsX2_low) := goodIn_app (goodIn_of _ (by decide +kernel)) ggX2_digest_X2_low
set_option maxRecDepth 20000 in
theorem ggX2_digest_X2_clear : GoodIn wsX2_digest wsX2_clear := goodIn_r _ [64, 8, 9, 10, 11, 12, 3, 13, 14, 15, 16, 4, 17, 18, 19, 20, 21, 22, 23, 24, 29, 30, 31, 32, 33, 34, 35, 36, 37, 38, 39, 40, 41, 42, 43, 44, 45, 46, 47, 48, 111, 112, 113, 114, 115, 116] (by decide +kernel) (by decide +kernel)
set_option maxRecDepth 20000 in
theorem gX2_digest_X2_clear : GoodIn wsX2_digest (wsV RX2 72 RX2 yX2_clear wsX2_clear) := goodIn_app (goodIn_of _ (by decide +kernel)) ggX2_digest_X2_clear
set_option maxRecDepth 20000 in
theorem ggX2_digest_X2_mute : GoodIn wsX2_digest wsX2_mute := goodIn_r _ [68, 3, 8, 9, 10, 11, 12, 13, 14, 15, 16, 4, 17, 25, 26, 27, 28, 18, 19, 20, 21, 22, 23, 24, 29, 30, 31, 32, 33, 34, 35, 36, 37, 38, 39, 40, 41, 42, 43, 44, 45, 46, 47, 48, 111, 112, 113, 114, 115, 116] (by decide +kernel) (by decide +kernel)
set_option maxRecDepth 20000 in
theorem gX2_digest_X2_mute : GoodIn wsX2_digest (wsV RX2 118 RX2 yX2_mute wsX2_mute) := goodIn_app (goodIn_of _ (by decide +kernel)) ggX2_digest_X2_mute
set_option maxRecDepth 20000 in
theorem ggX2_digest_X2_silence : GoodIn wsX2_digest wsX2_silence := goodIn_r _ [72, 73, 74, 75, 11, 76, 4, 77, 78, 79, 80, 81, 8, 9, 10, 12, 3, 13, 14, 15, 16, 17, 82, 83, 84, 85, 86, 87, 47, 88, 89, 90, 91, 29, 30, 31, 32, 33, 34, 35, 36, 37, 38, 39, 40, 41, 42, 43, 44, 45, 46, 48, 61, 62, 63, 64, 18, 19, 20, 21, 22, 23, 24, 92, 93, 94, 95, 111, 112, 113, 114, 115, 116] (by decide +kernel) (by decide +kernel)
set_option maxRecDepth 20000 in
theorem gX2_digest_X2_silence : GoodIn wsX2_digest (wsV RX2 127 RX2 yX2_silence wsX2_silence) := goodIn_app (goodIn_of _ (by decide +kernel)) ggX2_digest_X2_silence
set_option maxRecDepth 20000 in
theorem ggX2_digest_X2_untilCadence : GoodIn wsX2_digest wsX2_untilCadence := goodIn_r _ [99, 73, 74, 75, 11, 76, 4, 77, 78, 79, 80, 81, 82, 83, 84, 85, 3, 86, 87, 47, 88, 89, 90, 91, 17, 8, 9, 10, 12, 13, 14, 15, 16, 29, 30, 31, 32, 33, 34, 35, 36, 37, 38, 39, 40, 41, 42, 43, 44, 45, 46, 48, 61, 62, 63, 64, 18, 19, 20, 21, 22, 23, 24, 92, 93, 94, 95, 111, 112, 113, 114, 115, 116] (by decide +kernel) (by decide +kernel)
set_option maxRecDepth 20000 in
theorem gX2_digest_X2_untilCadence : GoodIn wsX2_digest (wsV RX2 130 RX2 yX2_untilCadence wsX2_untilCadence) := goodIn_app (goodIn_of _ (by decide +kernel)) ggX2_digest_X2_untilCadence
set_option maxRecDepth 20000 in
theorem ggX2_digest_X2_greatest : GoodIn wsX2_digest wsX2_greatest := goodIn_r _ [103, 8, 9, 10, 11, 12, 3, 13, 14, 15, 16, 4, 17, 18, 19, 20, 21, 22, 23, 24, 29, 30, 31, 32, 33, 34, 35, 36, 37, 38, 39, 40, 41, 42, 43, 44, 45, 46, 47, 48, 111, 112, 113, 114, 115, 116] (by decide +kernel) (by decide +kernel)
set_option maxRecDepth 20000 in
theorem gX2_digest_X2_greatest : GoodIn wsX2_digest (wsV RX2 133 RX2 yX2_greatest wsX2_greatest) := goodIn_app (goodIn_of _ (by decide +kernel)) ggX2_digest_X2_greatest
set_option maxRecDepth 20000 in
theorem ggX2_digest_X2_heard : GoodIn wsX2_digest wsX2_heard := goodIn_r _ [16, 4, 17, 111, 112, 113, 114, 115, 116] (by decide +kernel) (by decide +kernel)
set_option maxRecDepth 20000 in
theorem gX2_digest_X2_heard : GoodIn wsX2_digest (wsV RX2 39 RX2 yX2_heard wsX2_heard) := goodIn_app (goodIn_of _ (by decide +kernel)) ggX2_digest_X2_heard
set_option maxRecDepth 20000 in
theorem ggX2_digest_X2_clashing : GoodIn wsX2_digest wsX2_clashing := goodIn_r _ [56, 13, 14, 15, 11, 16, 4, 17, 8, 9, 10, 12, 3, 33, 34, 35, 36, 37, 38, 39, 40, 41, 42, 43, 44, 45, 46, 47, 48, 111, 112, 113, 114, 115, 116] (by decide +kernel) (by decide +kernel)
set_option maxRecDepth 20000 in
theorem gX2_digest_X2_clashing : GoodIn wsX2_digest (wsV RX2 106 RX2 yX2_clashing wsX2_clashing) := goodIn_app (goodIn_of _ (by decide +kernel)) ggX2_digest_X2_clashing
set_option maxRecDepth 20000 in
theorem ggX2_digest_X2_tuning : GoodIn wsX2_digest wsX2_tuning := goodIn_r _ [107, 4, 8, 9, 10, 11, 12, 3, 13, 14, 15, 16, 17, 25, 26, 27, 28, 18, 19, 20, 21, 22, 23, 24, 29, 30, 31, 32, 33, 34, 35, 36, 37, 38, 39, 40, 41, 42, 43, 44, 45, 46, 47, 48, 108, 109, 110, 111, 112, 113, 114, 115, 116] (by decide +kernel) (by decide +kernel)
set_option maxRecDepth 20000 in
theorem gX2_digest_X2_tuning : GoodIn wsX2_digest (wsV RX2 115 RX2 yX2_tuning wsX2_tuning) := goodIn_app (goodIn_of _ (by decide +kernel)) ggX2_digest_X2_tuning
end
section
theorem dX0_init_0 : decode cX0_init 0 = .ok (.aload_n 0, 1) := by decide +kernel
theorem dX0_init_1 : decode cX0_init 1 = .ok (.invokespecial 3, 3) := by decide +kernel
theorem dX0_init_4 : decode cX0_init 4 = .ok (.aload_n 0, 1) := by decide +kernel
theorem dX0_init_5 : decode cX0_init 5 = .ok (.bipush 10, 2) := by decide +kernel
theorem dX0_init_7 : decode cX0_init 7 = .ok (.newarray .int, 2) := by decide +kernel
theorem dX0_init_9 : decode cX0_init 9 = .ok (.putfield 9, 3) := by decide +kernel
theorem dX0_init_12 : decode cX0_init 12 = .ok (.aload_n 0, 1) := by decide +kernel
theorem dX0_init_13 : decode cX0_init 13 = .ok (.bipush 10, 2) := by decide +kernel
theorem dX0_init_15 : decode cX0_init 15 = .ok (.newarray .int, 2) := by decide +kernel
theorem dX0_init_17 : decode cX0_init 17 = .ok (.putfield 15, 3) := by decide +kernel
theorem dX0_init_20 : decode cX0_init 20 = .ok (.aload_n 0, 1) := by decide +kernel
theorem dX0_init_21 : decode cX0_init 21 = .ok (.bipush 10, 2) := by decide +kernel
theorem dX0_init_23 : decode cX0_init 23 = .ok (.newarray .int, 2) := by decide +kernel
theorem dX0_init_25 : decode cX0_init 25 = .ok (.putfield 18, 3) := by decide +kernel
theorem dX0_init_28 : decode cX0_init 28 = .ok (.aload_n 0, 1) := by decide +kernel
theorem dX0_init_29 : decode cX0_init 29 = .ok (.bipush 10, 2) := by decide +kernel
theorem dX0_init_31 : decode cX0_init 31 = .ok (.newarray .int, 2) := by decide +kernel
theorem dX0_init_33 : decode cX0_init 33 = .ok (.putfield 21, 3) := by decide +kernel
theorem dX0_init_36 : decode cX0_init 36 = .ok (.aload_n 0, 1) := by decide +kernel
theorem dX0_init_37 : decode cX0_init 37 = .ok (.bipush 10, 2) := by decide +kernel
theorem dX0_init_39 : decode cX0_init 39 = .ok (.newarray .boolean, 2) := by decide +kernel
theorem dX0_init_41 : decode cX0_init 41 = .ok (.putfield 24, 3) := by decide +kernel
theorem dX0_init_44 : decode cX0_init 44 = .ok (.aload_n 0, 1) := by decide +kernel
theorem dX0_init_45 : decode cX0_init 45 = .ok (.bipush 10, 2) := by decide +kernel
theorem dX0_init_47 : decode cX0_init 47 = .ok (.newarray .int, 2) := by decide +kernel
theorem dX0_init_49 : decode cX0_init 49 = .ok (.putfield 28, 3) := by decide +kernel
theorem dX0_init_52 : decode cX0_init 52 = .ok (.return_, 1) := by decide +kernel
theorem dX0_admit_0 : decode cX0_admit 0 = .ok (.aload_n 0, 1) := by decide +kernel
theorem dX0_admit_1 : decode cX0_admit 1 = .ok (.getfield 31, 3) := by decide +kernel
theorem dX0_admit_4 : decode cX0_admit 4 = .ok (.istore 4, 2) := by decide +kernel
theorem dX0_admit_6 : decode cX0_admit 6 = .ok (.aload_n 0, 1) := by decide +kernel
theorem dX0_admit_7 : decode cX0_admit 7 = .ok (.getfield 9, 3) := by decide +kernel
theorem dX0_admit_10 : decode cX0_admit 10 = .ok (.iload 4, 2) := by decide +kernel
theorem dX0_admit_12 : decode cX0_admit 12 = .ok (.iload_n 1, 1) := by decide +kernel
theorem dX0_admit_13 : decode cX0_admit 13 = .ok (.iastore, 1) := by decide +kernel
theorem dX0_admit_14 : decode cX0_admit 14 = .ok (.aload_n 0, 1) := by decide +kernel
theorem dX0_admit_15 : decode cX0_admit 15 = .ok (.getfield 15, 3) := by decide +kernel
theorem dX0_admit_18 : decode cX0_admit 18 = .ok (.iload 4, 2) := by decide +kernel
theorem dX0_admit_20 : decode cX0_admit 20 = .ok (.iload_n 2, 1) := by decide +kernel
theorem dX0_admit_21 : decode cX0_admit 21 = .ok (.iastore, 1) := by decide +kernel
theorem dX0_admit_22 : decode cX0_admit 22 = .ok (.aload_n 0, 1) := by decide +kernel
theorem dX0_admit_23 : decode cX0_admit 23 = .ok (.getfield 18, 3) := by decide +kernel
theorem dX0_admit_26 : decode cX0_admit 26 = .ok (.iload 4, 2) := by decide +kernel
theorem dX0_admit_28 : decode cX0_admit 28 = .ok (.iload_n 3, 1) := by decide +kernel
theorem dX0_admit_29 : decode cX0_admit 29 = .ok (.iastore, 1) := by decide +kernel
theorem dX0_admit_30 : decode cX0_admit 30 = .ok (.aload_n 0, 1) := by decide +kernel
theorem dX0_admit_31 : decode cX0_admit 31 = .ok (.dup, 1) := by decide +kernel
theorem dX0_admit_32 : decode cX0_admit 32 = .ok (.getfield 31, 3) := by decide +kernel
theorem dX0_admit_35 : decode cX0_admit 35 = .ok (.iconst 1, 1) := by decide +kernel
theorem dX0_admit_36 : decode cX0_admit 36 = .ok (.iadd, 1) := by decide +kernel
theorem dX0_admit_37 : decode cX0_admit 37 = .ok (.putfield 31, 3) := by decide +kernel
theorem dX0_admit_40 : decode cX0_admit 40 = .ok (.iload 4, 2) := by decide +kernel
theorem dX0_admit_42 : decode cX0_admit 42 = .ok (.ireturn, 1) := by decide +kernel
theorem dX0_becomeLike_0 : decode cX0_becomeLike 0 = .ok (.aload_n 1, 1) := by decide +kernel
theorem dX0_becomeLike_1 : decode cX0_becomeLike 1 = .ok (.getfield 9, 3) := by decide +kernel
theorem dX0_becomeLike_4 : decode cX0_becomeLike 4 = .ok (.iconst 0, 1) := by decide +kernel
theorem dX0_becomeLike_5 : decode cX0_becomeLike 5 = .ok (.aload_n 0, 1) := by decide +kernel
theorem dX0_becomeLike_6 : decode cX0_becomeLike 6 = .ok (.getfield 9, 3) := by decide +kernel
theorem dX0_becomeLike_9 : decode cX0_becomeLike 9 = .ok (.iconst 0, 1) := by decide +kernel
theorem dX0_becomeLike_10 : decode cX0_becomeLike 10 = .ok (.bipush 10, 2) := by decide +kernel
theorem dX0_becomeLike_12 : decode cX0_becomeLike 12 = .ok (.invokestatic 35, 3) := by decide +kernel
theorem dX0_becomeLike_15 : decode cX0_becomeLike 15 = .ok (.aload_n 1, 1) := by decide +kernel
theorem dX0_becomeLike_16 : decode cX0_becomeLike 16 = .ok (.getfield 15, 3) := by decide +kernel
theorem dX0_becomeLike_19 : decode cX0_becomeLike 19 = .ok (.iconst 0, 1) := by decide +kernel
theorem dX0_becomeLike_20 : decode cX0_becomeLike 20 = .ok (.aload_n 0, 1) := by decide +kernel
theorem dX0_becomeLike_21 : decode cX0_becomeLike 21 = .ok (.getfield 15, 3) := by decide +kernel
theorem dX0_becomeLike_24 : decode cX0_becomeLike 24 = .ok (.iconst 0, 1) := by decide +kernel
theorem dX0_becomeLike_25 : decode cX0_becomeLike 25 = .ok (.bipush 10, 2) := by decide +kernel
theorem dX0_becomeLike_27 : decode cX0_becomeLike 27 = .ok (.invokestatic 35, 3) := by decide +kernel
theorem dX0_becomeLike_30 : decode cX0_becomeLike 30 = .ok (.aload_n 1, 1) := by decide +kernel
theorem dX0_becomeLike_31 : decode cX0_becomeLike 31 = .ok (.getfield 18, 3) := by decide +kernel
theorem dX0_becomeLike_34 : decode cX0_becomeLike 34 = .ok (.iconst 0, 1) := by decide +kernel
theorem dX0_becomeLike_35 : decode cX0_becomeLike 35 = .ok (.aload_n 0, 1) := by decide +kernel
theorem dX0_becomeLike_36 : decode cX0_becomeLike 36 = .ok (.getfield 18, 3) := by decide +kernel
theorem dX0_becomeLike_39 : decode cX0_becomeLike 39 = .ok (.iconst 0, 1) := by decide +kernel
theorem dX0_becomeLike_40 : decode cX0_becomeLike 40 = .ok (.bipush 10, 2) := by decide +kernel
theorem dX0_becomeLike_42 : decode cX0_becomeLike 42 = .ok (.invokestatic 35, 3) := by decide +kernel
theorem dX0_becomeLike_45 : decode cX0_becomeLike 45 = .ok (.aload_n 1, 1) := by decide +kernel
theorem dX0_becomeLike_46 : decode cX0_becomeLike 46 = .ok (.getfield 21, 3) := by decide +kernel
theorem dX0_becomeLike_49 : decode cX0_becomeLike 49 = .ok (.iconst 0, 1) := by decide +kernel
theorem dX0_becomeLike_50 : decode cX0_becomeLike 50 = .ok (.aload_n 0, 1) := by decide +kernel
theorem dX0_becomeLike_51 : decode cX0_becomeLike 51 = .ok (.getfield 21, 3) := by decide +kernel
theorem dX0_becomeLike_54 : decode cX0_becomeLike 54 = .ok (.iconst 0, 1) := by decide +kernel
theorem dX0_becomeLike_55 : decode cX0_becomeLike 55 = .ok (.bipush 10, 2) := by decide +kernel
theorem dX0_becomeLike_57 : decode cX0_becomeLike 57 = .ok (.invokestatic 35, 3) := by decide +kernel
theorem dX0_becomeLike_60 : decode cX0_becomeLike 60 = .ok (.aload_n 1, 1) := by decide +kernel
theorem dX0_becomeLike_61 : decode cX0_becomeLike 61 = .ok (.getfield 24, 3) := by decide +kernel
theorem dX0_becomeLike_64 : decode cX0_becomeLike 64 = .ok (.iconst 0, 1) := by decide +kernel
theorem dX0_becomeLike_65 : decode cX0_becomeLike 65 = .ok (.aload_n 0, 1) := by decide +kernel
theorem dX0_becomeLike_66 : decode cX0_becomeLike 66 = .ok (.getfield 24, 3) := by decide +kernel
theorem dX0_becomeLike_69 : decode cX0_becomeLike 69 = .ok (.iconst 0, 1) := by decide +kernel
theorem dX0_becomeLike_70 : decode cX0_becomeLike 70 = .ok (.bipush 10, 2) := by decide +kernel
theorem dX0_becomeLike_72 : decode cX0_becomeLike 72 = .ok (.invokestatic 35, 3) := by decide +kernel
theorem dX0_becomeLike_75 : decode cX0_becomeLike 75 = .ok (.aload_n 0, 1) := by decide +kernel
theorem dX0_becomeLike_76 : decode cX0_becomeLike 76 = .ok (.aload_n 1, 1) := by decide +kernel
theorem dX0_becomeLike_77 : decode cX0_becomeLike 77 = .ok (.getfield 31, 3) := by decide +kernel
theorem dX0_becomeLike_80 : decode cX0_becomeLike 80 = .ok (.putfield 31, 3) := by decide +kernel
theorem dX0_becomeLike_83 : decode cX0_becomeLike 83 = .ok (.aload_n 0, 1) := by decide +kernel
theorem dX0_becomeLike_84 : decode cX0_becomeLike 84 = .ok (.aload_n 1, 1) := by decide +kernel
theorem dX0_becomeLike_85 : decode cX0_becomeLike 85 = .ok (.getfield 41, 3) := by decide +kernel
theorem dX0_becomeLike_88 : decode cX0_becomeLike 88 = .ok (.putfield 41, 3) := by decide +kernel
theorem dX0_becomeLike_91 : decode cX0_becomeLike 91 = .ok (.aload_n 0, 1) := by decide +kernel
theorem dX0_becomeLike_92 : decode cX0_becomeLike 92 = .ok (.aload_n 1, 1) := by decide +kernel
theorem dX0_becomeLike_93 : decode cX0_becomeLike 93 = .ok (.getfield 44, 3) := by decide +kernel
theorem dX0_becomeLike_96 : decode cX0_becomeLike 96 = .ok (.putfield 44, 3) := by decide +kernel
theorem dX0_becomeLike_99 : decode cX0_becomeLike 99 = .ok (.aload_n 0, 1) := by decide +kernel
theorem dX0_becomeLike_100 : decode cX0_becomeLike 100 = .ok (.aload_n 1, 1) := by decide +kernel
theorem dX0_becomeLike_101 : decode cX0_becomeLike 101 = .ok (.getfield 47, 3) := by decide +kernel
theorem dX0_becomeLike_104 : decode cX0_becomeLike 104 = .ok (.putfield 47, 3) := by decide +kernel
theorem dX0_becomeLike_107 : decode cX0_becomeLike 107 = .ok (.return_, 1) := by decide +kernel
theorem dX0_passBeats_0 : decode cX0_passBeats 0 = .ok (.iconst 0, 1) := by decide +kernel
theorem dX0_passBeats_1 : decode cX0_passBeats 1 = .ok (.istore_n 2, 1) := by decide +kernel
theorem dX0_passBeats_2 : decode cX0_passBeats 2 = .ok (.iload_n 2, 1) := by decide +kernel
theorem dX0_passBeats_3 : decode cX0_passBeats 3 = .ok (.iload_n 1, 1) := by decide +kernel
theorem dX0_passBeats_4 : decode cX0_passBeats 4 = .ok (.if_icmp .ge 13, 3) := by decide +kernel
theorem dX0_passBeats_7 : decode cX0_passBeats 7 = .ok (.aload_n 0, 1) := by decide +kernel
theorem dX0_passBeats_8 : decode cX0_passBeats 8 = .ok (.invokevirtual 51, 3) := by decide +kernel
theorem dX0_passBeats_11 : decode cX0_passBeats 11 = .ok (.iinc 2 1, 3) := by decide +kernel
theorem dX0_passBeats_14 : decode cX0_passBeats 14 = .ok (.goto (-12), 3) := by decide +kernel
theorem dX0_passBeats_17 : decode cX0_passBeats 17 = .ok (.return_, 1) := by decide +kernel
theorem dX0_passBeat_0 : decode cX0_passBeat 0 = .ok (.aload_n 0, 1) := by decide +kernel
theorem dX0_passBeat_1 : decode cX0_passBeat 1 = .ok (.getfield 47, 3) := by decide +kernel
theorem dX0_passBeat_4 : decode cX0_passBeat 4 = .ok (.ifCond .eq 20, 3) := by decide +kernel
theorem dX0_passBeat_7 : decode cX0_passBeat 7 = .ok (.aload_n 0, 1) := by decide +kernel
theorem dX0_passBeat_8 : decode cX0_passBeat 8 = .ok (.invokevirtual 54, 3) := by decide +kernel
theorem dX0_passBeat_11 : decode cX0_passBeat 11 = .ok (.ifCond .eq 13, 3) := by decide +kernel
theorem dX0_passBeat_14 : decode cX0_passBeat 14 = .ok (.aload_n 0, 1) := by decide +kernel
theorem dX0_passBeat_15 : decode cX0_passBeat 15 = .ok (.dup, 1) := by decide +kernel
theorem dX0_passBeat_16 : decode cX0_passBeat 16 = .ok (.getfield 44, 3) := by decide +kernel
theorem dX0_passBeat_19 : decode cX0_passBeat 19 = .ok (.iconst 1, 1) := by decide +kernel
theorem dX0_passBeat_20 : decode cX0_passBeat 20 = .ok (.iadd, 1) := by decide +kernel
theorem dX0_passBeat_21 : decode cX0_passBeat 21 = .ok (.putfield 44, 3) := by decide +kernel
theorem dX0_passBeat_24 : decode cX0_passBeat 24 = .ok (.aload_n 0, 1) := by decide +kernel
theorem dX0_passBeat_25 : decode cX0_passBeat 25 = .ok (.aload_n 0, 1) := by decide +kernel
theorem dX0_passBeat_26 : decode cX0_passBeat 26 = .ok (.invokevirtual 58, 3) := by decide +kernel
theorem dX0_passBeat_29 : decode cX0_passBeat 29 = .ok (.ifCond .le 7, 3) := by decide +kernel
theorem dX0_passBeat_32 : decode cX0_passBeat 32 = .ok (.iconst 1, 1) := by decide +kernel
theorem dX0_passBeat_33 : decode cX0_passBeat 33 = .ok (.goto 4, 3) := by decide +kernel
theorem dX0_passBeat_36 : decode cX0_passBeat 36 = .ok (.iconst 0, 1) := by decide +kernel
theorem dX0_passBeat_37 : decode cX0_passBeat 37 = .ok (.putfield 47, 3) := by decide +kernel
theorem dX0_passBeat_40 : decode cX0_passBeat 40 = .ok (.iconst 0, 1) := by decide +kernel
theorem dX0_passBeat_41 : decode cX0_passBeat 41 = .ok (.istore_n 1, 1) := by decide +kernel
theorem dX0_passBeat_42 : decode cX0_passBeat 42 = .ok (.iload_n 1, 1) := by decide +kernel
theorem dX0_passBeat_43 : decode cX0_passBeat 43 = .ok (.aload_n 0, 1) := by decide +kernel
theorem dX0_passBeat_44 : decode cX0_passBeat 44 = .ok (.getfield 31, 3) := by decide +kernel
theorem dX0_passBeat_47 : decode cX0_passBeat 47 = .ok (.if_icmp .ge 61, 3) := by decide +kernel
theorem dX0_passBeat_50 : decode cX0_passBeat 50 = .ok (.aload_n 0, 1) := by decide +kernel
theorem dX0_passBeat_51 : decode cX0_passBeat 51 = .ok (.iload_n 1, 1) := by decide +kernel
theorem dX0_passBeat_52 : decode cX0_passBeat 52 = .ok (.invokevirtual 62, 3) := by decide +kernel
theorem dX0_passBeat_55 : decode cX0_passBeat 55 = .ok (.ifCond .eq 11, 3) := by decide +kernel
theorem dX0_passBeat_58 : decode cX0_passBeat 58 = .ok (.aload_n 0, 1) := by decide +kernel
theorem dX0_passBeat_59 : decode cX0_passBeat 59 = .ok (.iload_n 1, 1) := by decide +kernel
theorem dX0_passBeat_60 : decode cX0_passBeat 60 = .ok (.invokevirtual 66, 3) := by decide +kernel
theorem dX0_passBeat_63 : decode cX0_passBeat 63 = .ok (.goto 39, 3) := by decide +kernel
theorem dX0_passBeat_66 : decode cX0_passBeat 66 = .ok (.aload_n 0, 1) := by decide +kernel
theorem dX0_passBeat_67 : decode cX0_passBeat 67 = .ok (.getfield 24, 3) := by decide +kernel
theorem dX0_passBeat_70 : decode cX0_passBeat 70 = .ok (.iload_n 1, 1) := by decide +kernel
theorem dX0_passBeat_71 : decode cX0_passBeat 71 = .ok (.baload, 1) := by decide +kernel
theorem dX0_passBeat_72 : decode cX0_passBeat 72 = .ok (.ifCond .eq 30, 3) := by decide +kernel
theorem dX0_passBeat_75 : decode cX0_passBeat 75 = .ok (.aload_n 0, 1) := by decide +kernel
theorem dX0_passBeat_76 : decode cX0_passBeat 76 = .ok (.getfield 41, 3) := by decide +kernel
theorem dX0_passBeat_79 : decode cX0_passBeat 79 = .ok (.iconst 3, 1) := by decide +kernel
theorem dX0_passBeat_80 : decode cX0_passBeat 80 = .ok (.irem, 1) := by decide +kernel
theorem dX0_passBeat_81 : decode cX0_passBeat 81 = .ok (.ifCond .ne 21, 3) := by decide +kernel
theorem dX0_passBeat_84 : decode cX0_passBeat 84 = .ok (.aload_n 0, 1) := by decide +kernel
theorem dX0_passBeat_85 : decode cX0_passBeat 85 = .ok (.getfield 21, 3) := by decide +kernel
theorem dX0_passBeat_88 : decode cX0_passBeat 88 = .ok (.iload_n 1, 1) := by decide +kernel
theorem dX0_passBeat_89 : decode cX0_passBeat 89 = .ok (.iconst 0, 1) := by decide +kernel
theorem dX0_passBeat_90 : decode cX0_passBeat 90 = .ok (.aload_n 0, 1) := by decide +kernel
theorem dX0_passBeat_91 : decode cX0_passBeat 91 = .ok (.getfield 21, 3) := by decide +kernel
theorem dX0_passBeat_94 : decode cX0_passBeat 94 = .ok (.iload_n 1, 1) := by decide +kernel
theorem dX0_passBeat_95 : decode cX0_passBeat 95 = .ok (.iaload, 1) := by decide +kernel
theorem dX0_passBeat_96 : decode cX0_passBeat 96 = .ok (.iconst 1, 1) := by decide +kernel
theorem dX0_passBeat_97 : decode cX0_passBeat 97 = .ok (.isub, 1) := by decide +kernel
theorem dX0_passBeat_98 : decode cX0_passBeat 98 = .ok (.invokestatic 70, 3) := by decide +kernel
theorem dX0_passBeat_101 : decode cX0_passBeat 101 = .ok (.iastore, 1) := by decide +kernel
theorem dX0_passBeat_102 : decode cX0_passBeat 102 = .ok (.iinc 1 1, 3) := by decide +kernel
theorem dX0_passBeat_105 : decode cX0_passBeat 105 = .ok (.goto (-63), 3) := by decide +kernel
theorem dX0_passBeat_108 : decode cX0_passBeat 108 = .ok (.aload_n 0, 1) := by decide +kernel
theorem dX0_passBeat_109 : decode cX0_passBeat 109 = .ok (.dup, 1) := by decide +kernel
theorem dX0_passBeat_110 : decode cX0_passBeat 110 = .ok (.getfield 41, 3) := by decide +kernel
theorem dX0_passBeat_113 : decode cX0_passBeat 113 = .ok (.iconst 1, 1) := by decide +kernel
theorem dX0_passBeat_114 : decode cX0_passBeat 114 = .ok (.iadd, 1) := by decide +kernel
theorem dX0_passBeat_115 : decode cX0_passBeat 115 = .ok (.putfield 41, 3) := by decide +kernel
theorem dX0_passBeat_118 : decode cX0_passBeat 118 = .ok (.return_, 1) := by decide +kernel
theorem dX0_wear_0 : decode cX0_wear 0 = .ok (.aload_n 0, 1) := by decide +kernel
theorem dX0_wear_1 : decode cX0_wear 1 = .ok (.getfield 18, 3) := by decide +kernel
theorem dX0_wear_4 : decode cX0_wear 4 = .ok (.iload_n 1, 1) := by decide +kernel
theorem dX0_wear_5 : decode cX0_wear 5 = .ok (.iconst 0, 1) := by decide +kernel
theorem dX0_wear_6 : decode cX0_wear 6 = .ok (.aload_n 0, 1) := by decide +kernel
theorem dX0_wear_7 : decode cX0_wear 7 = .ok (.getfield 18, 3) := by decide +kernel
theorem dX0_wear_10 : decode cX0_wear 10 = .ok (.iload_n 1, 1) := by decide +kernel
theorem dX0_wear_11 : decode cX0_wear 11 = .ok (.iaload, 1) := by decide +kernel
theorem dX0_wear_12 : decode cX0_wear 12 = .ok (.iconst 1, 1) := by decide +kernel
theorem dX0_wear_13 : decode cX0_wear 13 = .ok (.isub, 1) := by decide +kernel
theorem dX0_wear_14 : decode cX0_wear 14 = .ok (.aload_n 0, 1) := by decide +kernel
theorem dX0_wear_15 : decode cX0_wear 15 = .ok (.getfield 21, 3) := by decide +kernel
theorem dX0_wear_18 : decode cX0_wear 18 = .ok (.iload_n 1, 1) := by decide +kernel
theorem dX0_wear_19 : decode cX0_wear 19 = .ok (.iaload, 1) := by decide +kernel
theorem dX0_wear_20 : decode cX0_wear 20 = .ok (.iconst 3, 1) := by decide +kernel
theorem dX0_wear_21 : decode cX0_wear 21 = .ok (.idiv, 1) := by decide +kernel
theorem dX0_wear_22 : decode cX0_wear 22 = .ok (.isub, 1) := by decide +kernel
theorem dX0_wear_23 : decode cX0_wear 23 = .ok (.invokestatic 70, 3) := by decide +kernel
theorem dX0_wear_26 : decode cX0_wear 26 = .ok (.iastore, 1) := by decide +kernel
theorem dX0_wear_27 : decode cX0_wear 27 = .ok (.aload_n 0, 1) := by decide +kernel
theorem dX0_wear_28 : decode cX0_wear 28 = .ok (.getfield 15, 3) := by decide +kernel
theorem dX0_wear_31 : decode cX0_wear 31 = .ok (.iload_n 1, 1) := by decide +kernel
theorem dX0_wear_32 : decode cX0_wear 32 = .ok (.iaload, 1) := by decide +kernel
theorem dX0_wear_33 : decode cX0_wear 33 = .ok (.bipush 24, 2) := by decide +kernel
theorem dX0_wear_35 : decode cX0_wear 35 = .ok (.if_icmp .lt 31, 3) := by decide +kernel
theorem dX0_wear_38 : decode cX0_wear 38 = .ok (.aload_n 0, 1) := by decide +kernel
theorem dX0_wear_39 : decode cX0_wear 39 = .ok (.getfield 41, 3) := by decide +kernel
theorem dX0_wear_42 : decode cX0_wear 42 = .ok (.iconst 4, 1) := by decide +kernel
theorem dX0_wear_43 : decode cX0_wear 43 = .ok (.irem, 1) := by decide +kernel
theorem dX0_wear_44 : decode cX0_wear 44 = .ok (.ifCond .ne 22, 3) := by decide +kernel
theorem dX0_wear_47 : decode cX0_wear 47 = .ok (.aload_n 0, 1) := by decide +kernel
theorem dX0_wear_48 : decode cX0_wear 48 = .ok (.getfield 21, 3) := by decide +kernel
theorem dX0_wear_51 : decode cX0_wear 51 = .ok (.iload_n 1, 1) := by decide +kernel
theorem dX0_wear_52 : decode cX0_wear 52 = .ok (.bipush 9, 2) := by decide +kernel
theorem dX0_wear_54 : decode cX0_wear 54 = .ok (.aload_n 0, 1) := by decide +kernel
theorem dX0_wear_55 : decode cX0_wear 55 = .ok (.getfield 21, 3) := by decide +kernel
theorem dX0_wear_58 : decode cX0_wear 58 = .ok (.iload_n 1, 1) := by decide +kernel
theorem dX0_wear_59 : decode cX0_wear 59 = .ok (.iaload, 1) := by decide +kernel
theorem dX0_wear_60 : decode cX0_wear 60 = .ok (.iconst 1, 1) := by decide +kernel
theorem dX0_wear_61 : decode cX0_wear 61 = .ok (.iadd, 1) := by decide +kernel
theorem dX0_wear_62 : decode cX0_wear 62 = .ok (.invokestatic 76, 3) := by decide +kernel
theorem dX0_wear_65 : decode cX0_wear 65 = .ok (.iastore, 1) := by decide +kernel
theorem dX0_wear_66 : decode cX0_wear 66 = .ok (.aload_n 0, 1) := by decide +kernel
theorem dX0_wear_67 : decode cX0_wear 67 = .ok (.getfield 21, 3) := by decide +kernel
theorem dX0_wear_70 : decode cX0_wear 70 = .ok (.iload_n 1, 1) := by decide +kernel
theorem dX0_wear_71 : decode cX0_wear 71 = .ok (.iaload, 1) := by decide +kernel
theorem dX0_wear_72 : decode cX0_wear 72 = .ok (.iconst 5, 1) := by decide +kernel
theorem dX0_wear_73 : decode cX0_wear 73 = .ok (.if_icmp .lt 21, 3) := by decide +kernel
theorem dX0_wear_76 : decode cX0_wear 76 = .ok (.aload_n 0, 1) := by decide +kernel
theorem dX0_wear_77 : decode cX0_wear 77 = .ok (.getfield 15, 3) := by decide +kernel
theorem dX0_wear_80 : decode cX0_wear 80 = .ok (.iload_n 1, 1) := by decide +kernel
theorem dX0_wear_81 : decode cX0_wear 81 = .ok (.iconst 0, 1) := by decide +kernel
theorem dX0_wear_82 : decode cX0_wear 82 = .ok (.aload_n 0, 1) := by decide +kernel
theorem dX0_wear_83 : decode cX0_wear 83 = .ok (.getfield 15, 3) := by decide +kernel
theorem dX0_wear_86 : decode cX0_wear 86 = .ok (.iload_n 1, 1) := by decide +kernel
theorem dX0_wear_87 : decode cX0_wear 87 = .ok (.iaload, 1) := by decide +kernel
theorem dX0_wear_88 : decode cX0_wear 88 = .ok (.iconst 1, 1) := by decide +kernel
theorem dX0_wear_89 : decode cX0_wear 89 = .ok (.isub, 1) := by decide +kernel
theorem dX0_wear_90 : decode cX0_wear 90 = .ok (.invokestatic 70, 3) := by decide +kernel
theorem dX0_wear_93 : decode cX0_wear 93 = .ok (.iastore, 1) := by decide +kernel
theorem dX0_wear_94 : decode cX0_wear 94 = .ok (.return_, 1) := by decide +kernel
theorem dX0_isSounding_0 : decode cX0_isSounding 0 = .ok (.aload_n 0, 1) := by decide +kernel
theorem dX0_isSounding_1 : decode cX0_isSounding 1 = .ok (.getfield 18, 3) := by decide +kernel
theorem dX0_isSounding_4 : decode cX0_isSounding 4 = .ok (.iload_n 1, 1) := by decide +kernel
theorem dX0_isSounding_5 : decode cX0_isSounding 5 = .ok (.iaload, 1) := by decide +kernel
theorem dX0_isSounding_6 : decode cX0_isSounding 6 = .ok (.ifCond .le 16, 3) := by decide +kernel
theorem dX0_isSounding_9 : decode cX0_isSounding 9 = .ok (.aload_n 0, 1) := by decide +kernel
theorem dX0_isSounding_10 : decode cX0_isSounding 10 = .ok (.getfield 24, 3) := by decide +kernel
theorem dX0_isSounding_13 : decode cX0_isSounding 13 = .ok (.iload_n 1, 1) := by decide +kernel
theorem dX0_isSounding_14 : decode cX0_isSounding 14 = .ok (.baload, 1) := by decide +kernel
theorem dX0_isSounding_15 : decode cX0_isSounding 15 = .ok (.ifCond .ne 7, 3) := by decide +kernel
theorem dX0_isSounding_18 : decode cX0_isSounding 18 = .ok (.iconst 1, 1) := by decide +kernel
theorem dX0_isSounding_19 : decode cX0_isSounding 19 = .ok (.goto 4, 3) := by decide +kernel
theorem dX0_isSounding_22 : decode cX0_isSounding 22 = .ok (.iconst 0, 1) := by decide +kernel
theorem dX0_isSounding_23 : decode cX0_isSounding 23 = .ok (.ireturn, 1) := by decide +kernel
theorem dX0_countSounding_0 : decode cX0_countSounding 0 = .ok (.iconst 0, 1) := by decide +kernel
theorem dX0_countSounding_1 : decode cX0_countSounding 1 = .ok (.istore_n 1, 1) := by decide +kernel
theorem dX0_countSounding_2 : decode cX0_countSounding 2 = .ok (.iconst 0, 1) := by decide +kernel
theorem dX0_countSounding_3 : decode cX0_countSounding 3 = .ok (.istore_n 2, 1) := by decide +kernel
theorem dX0_countSounding_4 : decode cX0_countSounding 4 = .ok (.iload_n 2, 1) := by decide +kernel
theorem dX0_countSounding_5 : decode cX0_countSounding 5 = .ok (.aload_n 0, 1) := by decide +kernel
theorem dX0_countSounding_6 : decode cX0_countSounding 6 = .ok (.getfield 31, 3) := by decide +kernel
theorem dX0_countSounding_9 : decode cX0_countSounding 9 = .ok (.if_icmp .ge 20, 3) := by decide +kernel
theorem dX0_countSounding_12 : decode cX0_countSounding 12 = .ok (.aload_n 0, 1) := by decide +kernel
theorem dX0_countSounding_13 : decode cX0_countSounding 13 = .ok (.iload_n 2, 1) := by decide +kernel
theorem dX0_countSounding_14 : decode cX0_countSounding 14 = .ok (.invokevirtual 62, 3) := by decide +kernel
theorem dX0_countSounding_17 : decode cX0_countSounding 17 = .ok (.ifCond .eq 6, 3) := by decide +kernel
theorem dX0_countSounding_20 : decode cX0_countSounding 20 = .ok (.iinc 1 1, 3) := by decide +kernel
theorem dX0_countSounding_23 : decode cX0_countSounding 23 = .ok (.iinc 2 1, 3) := by decide +kernel
theorem dX0_countSounding_26 : decode cX0_countSounding 26 = .ok (.goto (-22), 3) := by decide +kernel
theorem dX0_countSounding_29 : decode cX0_countSounding 29 = .ok (.iload_n 1, 1) := by decide +kernel
theorem dX0_countSounding_30 : decode cX0_countSounding 30 = .ok (.ireturn, 1) := by decide +kernel
theorem dX0_countSoundingIn_0 : decode cX0_countSoundingIn 0 = .ok (.iconst 0, 1) := by decide +kernel
theorem dX0_countSoundingIn_1 : decode cX0_countSoundingIn 1 = .ok (.istore_n 2, 1) := by decide +kernel
theorem dX0_countSoundingIn_2 : decode cX0_countSoundingIn 2 = .ok (.iconst 0, 1) := by decide +kernel
theorem dX0_countSoundingIn_3 : decode cX0_countSoundingIn 3 = .ok (.istore_n 3, 1) := by decide +kernel
theorem dX0_countSoundingIn_4 : decode cX0_countSoundingIn 4 = .ok (.iload_n 3, 1) := by decide +kernel
theorem dX0_countSoundingIn_5 : decode cX0_countSoundingIn 5 = .ok (.aload_n 0, 1) := by decide +kernel
theorem dX0_countSoundingIn_6 : decode cX0_countSoundingIn 6 = .ok (.getfield 31, 3) := by decide +kernel
theorem dX0_countSoundingIn_9 : decode cX0_countSoundingIn 9 = .ok (.if_icmp .ge 30, 3) := by decide +kernel
theorem dX0_countSoundingIn_12 : decode cX0_countSoundingIn 12 = .ok (.aload_n 0, 1) := by decide +kernel
theorem dX0_countSoundingIn_13 : decode cX0_countSoundingIn 13 = .ok (.getfield 9, 3) := by decide +kernel
theorem dX0_countSoundingIn_16 : decode cX0_countSoundingIn 16 = .ok (.iload_n 3, 1) := by decide +kernel
theorem dX0_countSoundingIn_17 : decode cX0_countSoundingIn 17 = .ok (.iaload, 1) := by decide +kernel
theorem dX0_countSoundingIn_18 : decode cX0_countSoundingIn 18 = .ok (.iload_n 1, 1) := by decide +kernel
theorem dX0_countSoundingIn_19 : decode cX0_countSoundingIn 19 = .ok (.if_icmp .ne 14, 3) := by decide +kernel
theorem dX0_countSoundingIn_22 : decode cX0_countSoundingIn 22 = .ok (.aload_n 0, 1) := by decide +kernel
theorem dX0_countSoundingIn_23 : decode cX0_countSoundingIn 23 = .ok (.iload_n 3, 1) := by decide +kernel
theorem dX0_countSoundingIn_24 : decode cX0_countSoundingIn 24 = .ok (.invokevirtual 62, 3) := by decide +kernel
theorem dX0_countSoundingIn_27 : decode cX0_countSoundingIn 27 = .ok (.ifCond .eq 6, 3) := by decide +kernel
theorem dX0_countSoundingIn_30 : decode cX0_countSoundingIn 30 = .ok (.iinc 2 1, 3) := by decide +kernel
theorem dX0_countSoundingIn_33 : decode cX0_countSoundingIn 33 = .ok (.iinc 3 1, 3) := by decide +kernel
theorem dX0_countSoundingIn_36 : decode cX0_countSoundingIn 36 = .ok (.goto (-32), 3) := by decide +kernel
theorem dX0_countSoundingIn_39 : decode cX0_countSoundingIn 39 = .ok (.iload_n 2, 1) := by decide +kernel
theorem dX0_countSoundingIn_40 : decode cX0_countSoundingIn 40 = .ok (.ireturn, 1) := by decide +kernel
theorem dX0_countClashesAt_0 : decode cX0_countClashesAt 0 = .ok (.iconst 0, 1) := by decide +kernel
theorem dX0_countClashesAt_1 : decode cX0_countClashesAt 1 = .ok (.istore_n 3, 1) := by decide +kernel
theorem dX0_countClashesAt_2 : decode cX0_countClashesAt 2 = .ok (.iconst 0, 1) := by decide +kernel
theorem dX0_countClashesAt_3 : decode cX0_countClashesAt 3 = .ok (.istore 4, 2) := by decide +kernel
theorem dX0_countClashesAt_5 : decode cX0_countClashesAt 5 = .ok (.iload 4, 2) := by decide +kernel
theorem dX0_countClashesAt_7 : decode cX0_countClashesAt 7 = .ok (.aload_n 0, 1) := by decide +kernel
theorem dX0_countClashesAt_8 : decode cX0_countClashesAt 8 = .ok (.getfield 31, 3) := by decide +kernel
theorem dX0_countClashesAt_11 : decode cX0_countClashesAt 11 = .ok (.if_icmp .ge 41, 3) := by decide +kernel
theorem dX0_countClashesAt_14 : decode cX0_countClashesAt 14 = .ok (.iload 4, 2) := by decide +kernel
theorem dX0_countClashesAt_16 : decode cX0_countClashesAt 16 = .ok (.iload_n 1, 1) := by decide +kernel
theorem dX0_countClashesAt_17 : decode cX0_countClashesAt 17 = .ok (.if_icmp .eq 29, 3) := by decide +kernel
theorem dX0_countClashesAt_20 : decode cX0_countClashesAt 20 = .ok (.aload_n 0, 1) := by decide +kernel
theorem dX0_countClashesAt_21 : decode cX0_countClashesAt 21 = .ok (.iload 4, 2) := by decide +kernel
theorem dX0_countClashesAt_23 : decode cX0_countClashesAt 23 = .ok (.invokevirtual 62, 3) := by decide +kernel
theorem dX0_countClashesAt_26 : decode cX0_countClashesAt 26 = .ok (.ifCond .eq 20, 3) := by decide +kernel
theorem dX0_countClashesAt_29 : decode cX0_countClashesAt 29 = .ok (.iload_n 2, 1) := by decide +kernel
theorem dX0_countClashesAt_30 : decode cX0_countClashesAt 30 = .ok (.aload_n 0, 1) := by decide +kernel
theorem dX0_countClashesAt_31 : decode cX0_countClashesAt 31 = .ok (.getfield 15, 3) := by decide +kernel
theorem dX0_countClashesAt_34 : decode cX0_countClashesAt 34 = .ok (.iload 4, 2) := by decide +kernel
theorem dX0_countClashesAt_36 : decode cX0_countClashesAt 36 = .ok (.iaload, 1) := by decide +kernel
theorem dX0_countClashesAt_37 : decode cX0_countClashesAt 37 = .ok (.invokestatic 79, 3) := by decide +kernel
theorem dX0_countClashesAt_40 : decode cX0_countClashesAt 40 = .ok (.ifCond .ne 6, 3) := by decide +kernel
theorem dX0_countClashesAt_43 : decode cX0_countClashesAt 43 = .ok (.iinc 3 1, 3) := by decide +kernel
theorem dX0_countClashesAt_46 : decode cX0_countClashesAt 46 = .ok (.iinc 4 1, 3) := by decide +kernel
theorem dX0_countClashesAt_49 : decode cX0_countClashesAt 49 = .ok (.goto (-44), 3) := by decide +kernel
theorem dX0_countClashesAt_52 : decode cX0_countClashesAt 52 = .ok (.iload_n 3, 1) := by decide +kernel
theorem dX0_countClashesAt_53 : decode cX0_countClashesAt 53 = .ok (.ireturn, 1) := by decide +kernel
theorem dX0_countClashes_0 : decode cX0_countClashes 0 = .ok (.iconst 0, 1) := by decide +kernel
theorem dX0_countClashes_1 : decode cX0_countClashes 1 = .ok (.istore_n 1, 1) := by decide +kernel
theorem dX0_countClashes_2 : decode cX0_countClashes 2 = .ok (.iconst 0, 1) := by decide +kernel
theorem dX0_countClashes_3 : decode cX0_countClashes 3 = .ok (.istore_n 2, 1) := by decide +kernel
theorem dX0_countClashes_4 : decode cX0_countClashes 4 = .ok (.iload_n 2, 1) := by decide +kernel
theorem dX0_countClashes_5 : decode cX0_countClashes 5 = .ok (.aload_n 0, 1) := by decide +kernel
theorem dX0_countClashes_6 : decode cX0_countClashes 6 = .ok (.getfield 31, 3) := by decide +kernel
theorem dX0_countClashes_9 : decode cX0_countClashes 9 = .ok (.if_icmp .ge 31, 3) := by decide +kernel
theorem dX0_countClashes_12 : decode cX0_countClashes 12 = .ok (.aload_n 0, 1) := by decide +kernel
theorem dX0_countClashes_13 : decode cX0_countClashes 13 = .ok (.iload_n 2, 1) := by decide +kernel
theorem dX0_countClashes_14 : decode cX0_countClashes 14 = .ok (.invokevirtual 62, 3) := by decide +kernel
theorem dX0_countClashes_17 : decode cX0_countClashes 17 = .ok (.ifCond .eq 17, 3) := by decide +kernel
theorem dX0_countClashes_20 : decode cX0_countClashes 20 = .ok (.iload_n 1, 1) := by decide +kernel
theorem dX0_countClashes_21 : decode cX0_countClashes 21 = .ok (.aload_n 0, 1) := by decide +kernel
theorem dX0_countClashes_22 : decode cX0_countClashes 22 = .ok (.iload_n 2, 1) := by decide +kernel
theorem dX0_countClashes_23 : decode cX0_countClashes 23 = .ok (.aload_n 0, 1) := by decide +kernel
theorem dX0_countClashes_24 : decode cX0_countClashes 24 = .ok (.getfield 15, 3) := by decide +kernel
theorem dX0_countClashes_27 : decode cX0_countClashes 27 = .ok (.iload_n 2, 1) := by decide +kernel
theorem dX0_countClashes_28 : decode cX0_countClashes 28 = .ok (.iaload, 1) := by decide +kernel
theorem dX0_countClashes_29 : decode cX0_countClashes 29 = .ok (.invokevirtual 83, 3) := by decide +kernel
theorem dX0_countClashes_32 : decode cX0_countClashes 32 = .ok (.iadd, 1) := by decide +kernel
theorem dX0_countClashes_33 : decode cX0_countClashes 33 = .ok (.istore_n 1, 1) := by decide +kernel
theorem dX0_countClashes_34 : decode cX0_countClashes 34 = .ok (.iinc 2 1, 3) := by decide +kernel
theorem dX0_countClashes_37 : decode cX0_countClashes 37 = .ok (.goto (-33), 3) := by decide +kernel
theorem dX0_countClashes_40 : decode cX0_countClashes 40 = .ok (.iload_n 1, 1) := by decide +kernel
theorem dX0_countClashes_41 : decode cX0_countClashes 41 = .ok (.iconst 2, 1) := by decide +kernel
theorem dX0_countClashes_42 : decode cX0_countClashes 42 = .ok (.idiv, 1) := by decide +kernel
theorem dX0_countClashes_43 : decode cX0_countClashes 43 = .ok (.ireturn, 1) := by decide +kernel
theorem dX0_harmonyNow_0 : decode cX0_harmonyNow 0 = .ok (.aload_n 0, 1) := by decide +kernel
theorem dX0_harmonyNow_1 : decode cX0_harmonyNow 1 = .ok (.invokevirtual 86, 3) := by decide +kernel
theorem dX0_harmonyNow_4 : decode cX0_harmonyNow 4 = .ok (.istore_n 1, 1) := by decide +kernel
theorem dX0_harmonyNow_5 : decode cX0_harmonyNow 5 = .ok (.iload_n 1, 1) := by decide +kernel
theorem dX0_harmonyNow_6 : decode cX0_harmonyNow 6 = .ok (.iload_n 1, 1) := by decide +kernel
theorem dX0_harmonyNow_7 : decode cX0_harmonyNow 7 = .ok (.iconst 1, 1) := by decide +kernel
theorem dX0_harmonyNow_8 : decode cX0_harmonyNow 8 = .ok (.isub, 1) := by decide +kernel
theorem dX0_harmonyNow_9 : decode cX0_harmonyNow 9 = .ok (.imul, 1) := by decide +kernel
theorem dX0_harmonyNow_10 : decode cX0_harmonyNow 10 = .ok (.iconst 2, 1) := by decide +kernel
theorem dX0_harmonyNow_11 : decode cX0_harmonyNow 11 = .ok (.idiv, 1) := by decide +kernel
theorem dX0_harmonyNow_12 : decode cX0_harmonyNow 12 = .ok (.istore_n 2, 1) := by decide +kernel
theorem dX0_harmonyNow_13 : decode cX0_harmonyNow 13 = .ok (.iload_n 2, 1) := by decide +kernel
theorem dX0_harmonyNow_14 : decode cX0_harmonyNow 14 = .ok (.iconst 2, 1) := by decide +kernel
theorem dX0_harmonyNow_15 : decode cX0_harmonyNow 15 = .ok (.aload_n 0, 1) := by decide +kernel
theorem dX0_harmonyNow_16 : decode cX0_harmonyNow 16 = .ok (.invokevirtual 58, 3) := by decide +kernel
theorem dX0_harmonyNow_19 : decode cX0_harmonyNow 19 = .ok (.imul, 1) := by decide +kernel
theorem dX0_harmonyNow_20 : decode cX0_harmonyNow 20 = .ok (.isub, 1) := by decide +kernel
theorem dX0_harmonyNow_21 : decode cX0_harmonyNow 21 = .ok (.ireturn, 1) := by decide +kernel
theorem dX0_isChordClear_0 : decode cX0_isChordClear 0 = .ok (.aload_n 0, 1) := by decide +kernel
theorem dX0_isChordClear_1 : decode cX0_isChordClear 1 = .ok (.invokevirtual 86, 3) := by decide +kernel
theorem dX0_isChordClear_4 : decode cX0_isChordClear 4 = .ok (.iconst 3, 1) := by decide +kernel
theorem dX0_isChordClear_5 : decode cX0_isChordClear 5 = .ok (.if_icmp .lt 14, 3) := by decide +kernel
theorem dX0_isChordClear_8 : decode cX0_isChordClear 8 = .ok (.aload_n 0, 1) := by decide +kernel
theorem dX0_isChordClear_9 : decode cX0_isChordClear 9 = .ok (.invokevirtual 58, 3) := by decide +kernel
theorem dX0_isChordClear_12 : decode cX0_isChordClear 12 = .ok (.ifCond .ne 7, 3) := by decide +kernel
theorem dX0_isChordClear_15 : decode cX0_isChordClear 15 = .ok (.iconst 1, 1) := by decide +kernel
theorem dX0_isChordClear_16 : decode cX0_isChordClear 16 = .ok (.goto 4, 3) := by decide +kernel
theorem dX0_isChordClear_19 : decode cX0_isChordClear 19 = .ok (.iconst 0, 1) := by decide +kernel
theorem dX0_isChordClear_20 : decode cX0_isChordClear 20 = .ok (.ireturn, 1) := by decide +kernel
theorem dX0_findMostClashing_0 : decode cX0_findMostClashing 0 = .ok (.iconst (-1), 1) := by decide +kernel
theorem dX0_findMostClashing_1 : decode cX0_findMostClashing 1 = .ok (.istore_n 1, 1) := by decide +kernel
theorem dX0_findMostClashing_2 : decode cX0_findMostClashing 2 = .ok (.iconst (-1), 1) := by decide +kernel
theorem dX0_findMostClashing_3 : decode cX0_findMostClashing 3 = .ok (.istore_n 2, 1) := by decide +kernel
theorem dX0_findMostClashing_4 : decode cX0_findMostClashing 4 = .ok (.iconst 0, 1) := by decide +kernel
theorem dX0_findMostClashing_5 : decode cX0_findMostClashing 5 = .ok (.istore_n 3, 1) := by decide +kernel
theorem dX0_findMostClashing_6 : decode cX0_findMostClashing 6 = .ok (.iload_n 3, 1) := by decide +kernel
theorem dX0_findMostClashing_7 : decode cX0_findMostClashing 7 = .ok (.aload_n 0, 1) := by decide +kernel
theorem dX0_findMostClashing_8 : decode cX0_findMostClashing 8 = .ok (.getfield 31, 3) := by decide +kernel
theorem dX0_findMostClashing_11 : decode cX0_findMostClashing 11 = .ok (.if_icmp .ge 45, 3) := by decide +kernel
theorem dX0_findMostClashing_14 : decode cX0_findMostClashing 14 = .ok (.aload_n 0, 1) := by decide +kernel
theorem dX0_findMostClashing_15 : decode cX0_findMostClashing 15 = .ok (.iload_n 3, 1) := by decide +kernel
theorem dX0_findMostClashing_16 : decode cX0_findMostClashing 16 = .ok (.invokevirtual 62, 3) := by decide +kernel
theorem dX0_findMostClashing_19 : decode cX0_findMostClashing 19 = .ok (.ifCond .eq 17, 3) := by decide +kernel
theorem dX0_findMostClashing_22 : decode cX0_findMostClashing 22 = .ok (.aload_n 0, 1) := by decide +kernel
theorem dX0_findMostClashing_23 : decode cX0_findMostClashing 23 = .ok (.iload_n 3, 1) := by decide +kernel
theorem dX0_findMostClashing_24 : decode cX0_findMostClashing 24 = .ok (.aload_n 0, 1) := by decide +kernel
theorem dX0_findMostClashing_25 : decode cX0_findMostClashing 25 = .ok (.getfield 15, 3) := by decide +kernel
theorem dX0_findMostClashing_28 : decode cX0_findMostClashing 28 = .ok (.iload_n 3, 1) := by decide +kernel
theorem dX0_findMostClashing_29 : decode cX0_findMostClashing 29 = .ok (.iaload, 1) := by decide +kernel
theorem dX0_findMostClashing_30 : decode cX0_findMostClashing 30 = .ok (.invokevirtual 83, 3) := by decide +kernel
theorem dX0_findMostClashing_33 : decode cX0_findMostClashing 33 = .ok (.goto 4, 3) := by decide +kernel
theorem dX0_findMostClashing_36 : decode cX0_findMostClashing 36 = .ok (.iconst (-1), 1) := by decide +kernel
theorem dX0_findMostClashing_37 : decode cX0_findMostClashing 37 = .ok (.istore 4, 2) := by decide +kernel
theorem dX0_findMostClashing_39 : decode cX0_findMostClashing 39 = .ok (.iload 4, 2) := by decide +kernel
theorem dX0_findMostClashing_41 : decode cX0_findMostClashing 41 = .ok (.iload_n 2, 1) := by decide +kernel
theorem dX0_findMostClashing_42 : decode cX0_findMostClashing 42 = .ok (.if_icmp .le 8, 3) := by decide +kernel
theorem dX0_findMostClashing_45 : decode cX0_findMostClashing 45 = .ok (.iload 4, 2) := by decide +kernel
theorem dX0_findMostClashing_47 : decode cX0_findMostClashing 47 = .ok (.istore_n 2, 1) := by decide +kernel
theorem dX0_findMostClashing_48 : decode cX0_findMostClashing 48 = .ok (.iload_n 3, 1) := by decide +kernel
theorem dX0_findMostClashing_49 : decode cX0_findMostClashing 49 = .ok (.istore_n 1, 1) := by decide +kernel
theorem dX0_findMostClashing_50 : decode cX0_findMostClashing 50 = .ok (.iinc 3 1, 3) := by decide +kernel
theorem dX0_findMostClashing_53 : decode cX0_findMostClashing 53 = .ok (.goto (-47), 3) := by decide +kernel
theorem dX0_findMostClashing_56 : decode cX0_findMostClashing 56 = .ok (.iload_n 1, 1) := by decide +kernel
theorem dX0_findMostClashing_57 : decode cX0_findMostClashing 57 = .ok (.ireturn, 1) := by decide +kernel
theorem dX0_findLowest_0 : decode cX0_findLowest 0 = .ok (.iconst (-1), 1) := by decide +kernel
theorem dX0_findLowest_1 : decode cX0_findLowest 1 = .ok (.istore_n 1, 1) := by decide +kernel
theorem dX0_findLowest_2 : decode cX0_findLowest 2 = .ok (.bipush 36, 2) := by decide +kernel
theorem dX0_findLowest_4 : decode cX0_findLowest 4 = .ok (.istore_n 2, 1) := by decide +kernel
theorem dX0_findLowest_5 : decode cX0_findLowest 5 = .ok (.iconst 0, 1) := by decide +kernel
theorem dX0_findLowest_6 : decode cX0_findLowest 6 = .ok (.istore_n 3, 1) := by decide +kernel
theorem dX0_findLowest_7 : decode cX0_findLowest 7 = .ok (.iload_n 3, 1) := by decide +kernel
theorem dX0_findLowest_8 : decode cX0_findLowest 8 = .ok (.aload_n 0, 1) := by decide +kernel
theorem dX0_findLowest_9 : decode cX0_findLowest 9 = .ok (.getfield 31, 3) := by decide +kernel
theorem dX0_findLowest_12 : decode cX0_findLowest 12 = .ok (.if_icmp .ge 36, 3) := by decide +kernel
theorem dX0_findLowest_15 : decode cX0_findLowest 15 = .ok (.aload_n 0, 1) := by decide +kernel
theorem dX0_findLowest_16 : decode cX0_findLowest 16 = .ok (.iload_n 3, 1) := by decide +kernel
theorem dX0_findLowest_17 : decode cX0_findLowest 17 = .ok (.invokevirtual 62, 3) := by decide +kernel
theorem dX0_findLowest_20 : decode cX0_findLowest 20 = .ok (.ifCond .eq 22, 3) := by decide +kernel
theorem dX0_findLowest_23 : decode cX0_findLowest 23 = .ok (.aload_n 0, 1) := by decide +kernel
theorem dX0_findLowest_24 : decode cX0_findLowest 24 = .ok (.getfield 15, 3) := by decide +kernel
theorem dX0_findLowest_27 : decode cX0_findLowest 27 = .ok (.iload_n 3, 1) := by decide +kernel
theorem dX0_findLowest_28 : decode cX0_findLowest 28 = .ok (.iaload, 1) := by decide +kernel
theorem dX0_findLowest_29 : decode cX0_findLowest 29 = .ok (.iload_n 2, 1) := by decide +kernel
theorem dX0_findLowest_30 : decode cX0_findLowest 30 = .ok (.if_icmp .ge 12, 3) := by decide +kernel
theorem dX0_findLowest_33 : decode cX0_findLowest 33 = .ok (.aload_n 0, 1) := by decide +kernel
theorem dX0_findLowest_34 : decode cX0_findLowest 34 = .ok (.getfield 15, 3) := by decide +kernel
theorem dX0_findLowest_37 : decode cX0_findLowest 37 = .ok (.iload_n 3, 1) := by decide +kernel
theorem dX0_findLowest_38 : decode cX0_findLowest 38 = .ok (.iaload, 1) := by decide +kernel
theorem dX0_findLowest_39 : decode cX0_findLowest 39 = .ok (.istore_n 2, 1) := by decide +kernel
theorem dX0_findLowest_40 : decode cX0_findLowest 40 = .ok (.iload_n 3, 1) := by decide +kernel
theorem dX0_findLowest_41 : decode cX0_findLowest 41 = .ok (.istore_n 1, 1) := by decide +kernel
theorem dX0_findLowest_42 : decode cX0_findLowest 42 = .ok (.iinc 3 1, 3) := by decide +kernel
theorem dX0_findLowest_45 : decode cX0_findLowest 45 = .ok (.goto (-38), 3) := by decide +kernel
theorem dX0_findLowest_48 : decode cX0_findLowest 48 = .ok (.iload_n 1, 1) := by decide +kernel
theorem dX0_findLowest_49 : decode cX0_findLowest 49 = .ok (.ireturn, 1) := by decide +kernel
theorem dX0_findBestTuning_0 : decode cX0_findBestTuning 0 = .ok (.iconst 0, 1) := by decide +kernel
theorem dX0_findBestTuning_1 : decode cX0_findBestTuning 1 = .ok (.istore_n 2, 1) := by decide +kernel
theorem dX0_findBestTuning_2 : decode cX0_findBestTuning 2 = .ok (.aload_n 0, 1) := by decide +kernel
theorem dX0_findBestTuning_3 : decode cX0_findBestTuning 3 = .ok (.iload_n 1, 1) := by decide +kernel
theorem dX0_findBestTuning_4 : decode cX0_findBestTuning 4 = .ok (.aload_n 0, 1) := by decide +kernel
theorem dX0_findBestTuning_5 : decode cX0_findBestTuning 5 = .ok (.getfield 15, 3) := by decide +kernel
theorem dX0_findBestTuning_8 : decode cX0_findBestTuning 8 = .ok (.iload_n 1, 1) := by decide +kernel
theorem dX0_findBestTuning_9 : decode cX0_findBestTuning 9 = .ok (.iaload, 1) := by decide +kernel
theorem dX0_findBestTuning_10 : decode cX0_findBestTuning 10 = .ok (.invokevirtual 83, 3) := by decide +kernel
theorem dX0_findBestTuning_13 : decode cX0_findBestTuning 13 = .ok (.istore_n 3, 1) := by decide +kernel
theorem dX0_findBestTuning_14 : decode cX0_findBestTuning 14 = .ok (.bipush (-12), 2) := by decide +kernel
theorem dX0_findBestTuning_16 : decode cX0_findBestTuning 16 = .ok (.istore 4, 2) := by decide +kernel
theorem dX0_findBestTuning_18 : decode cX0_findBestTuning 18 = .ok (.iload 4, 2) := by decide +kernel
theorem dX0_findBestTuning_20 : decode cX0_findBestTuning 20 = .ok (.bipush 12, 2) := by decide +kernel
theorem dX0_findBestTuning_22 : decode cX0_findBestTuning 22 = .ok (.if_icmp .gt 86, 3) := by decide +kernel
theorem dX0_findBestTuning_25 : decode cX0_findBestTuning 25 = .ok (.aload_n 0, 1) := by decide +kernel
theorem dX0_findBestTuning_26 : decode cX0_findBestTuning 26 = .ok (.getfield 15, 3) := by decide +kernel
theorem dX0_findBestTuning_29 : decode cX0_findBestTuning 29 = .ok (.iload_n 1, 1) := by decide +kernel
theorem dX0_findBestTuning_30 : decode cX0_findBestTuning 30 = .ok (.iaload, 1) := by decide +kernel
theorem dX0_findBestTuning_31 : decode cX0_findBestTuning 31 = .ok (.iload 4, 2) := by decide +kernel
theorem dX0_findBestTuning_33 : decode cX0_findBestTuning 33 = .ok (.iadd, 1) := by decide +kernel
theorem dX0_findBestTuning_34 : decode cX0_findBestTuning 34 = .ok (.istore 5, 2) := by decide +kernel
theorem dX0_findBestTuning_36 : decode cX0_findBestTuning 36 = .ok (.iload 5, 2) := by decide +kernel
theorem dX0_findBestTuning_38 : decode cX0_findBestTuning 38 = .ok (.ifCond .lt 64, 3) := by decide +kernel
theorem dX0_findBestTuning_41 : decode cX0_findBestTuning 41 = .ok (.iload 5, 2) := by decide +kernel
theorem dX0_findBestTuning_43 : decode cX0_findBestTuning 43 = .ok (.bipush 35, 2) := by decide +kernel
theorem dX0_findBestTuning_45 : decode cX0_findBestTuning 45 = .ok (.if_icmp .le 6, 3) := by decide +kernel
theorem dX0_findBestTuning_48 : decode cX0_findBestTuning 48 = .ok (.goto 54, 3) := by decide +kernel
theorem dX0_findBestTuning_51 : decode cX0_findBestTuning 51 = .ok (.aload_n 0, 1) := by decide +kernel
theorem dX0_findBestTuning_52 : decode cX0_findBestTuning 52 = .ok (.iload_n 1, 1) := by decide +kernel
theorem dX0_findBestTuning_53 : decode cX0_findBestTuning 53 = .ok (.iload 5, 2) := by decide +kernel
theorem dX0_findBestTuning_55 : decode cX0_findBestTuning 55 = .ok (.invokevirtual 83, 3) := by decide +kernel
theorem dX0_findBestTuning_58 : decode cX0_findBestTuning 58 = .ok (.istore 6, 2) := by decide +kernel
theorem dX0_findBestTuning_60 : decode cX0_findBestTuning 60 = .ok (.iload 4, 2) := by decide +kernel
theorem dX0_findBestTuning_62 : decode cX0_findBestTuning 62 = .ok (.invokestatic 89, 3) := by decide +kernel
theorem dX0_findBestTuning_65 : decode cX0_findBestTuning 65 = .ok (.iload_n 2, 1) := by decide +kernel
theorem dX0_findBestTuning_66 : decode cX0_findBestTuning 66 = .ok (.invokestatic 89, 3) := by decide +kernel
theorem dX0_findBestTuning_69 : decode cX0_findBestTuning 69 = .ok (.if_icmp .gt 7, 3) := by decide +kernel
theorem dX0_findBestTuning_72 : decode cX0_findBestTuning 72 = .ok (.iconst 1, 1) := by decide +kernel
theorem dX0_findBestTuning_73 : decode cX0_findBestTuning 73 = .ok (.goto 4, 3) := by decide +kernel
theorem dX0_findBestTuning_76 : decode cX0_findBestTuning 76 = .ok (.iconst 0, 1) := by decide +kernel
theorem dX0_findBestTuning_77 : decode cX0_findBestTuning 77 = .ok (.istore 7, 2) := by decide +kernel
theorem dX0_findBestTuning_79 : decode cX0_findBestTuning 79 = .ok (.iload 6, 2) := by decide +kernel
theorem dX0_findBestTuning_81 : decode cX0_findBestTuning 81 = .ok (.iload_n 3, 1) := by decide +kernel
theorem dX0_findBestTuning_82 : decode cX0_findBestTuning 82 = .ok (.if_icmp .lt 14, 3) := by decide +kernel
theorem dX0_findBestTuning_85 : decode cX0_findBestTuning 85 = .ok (.iload 6, 2) := by decide +kernel
theorem dX0_findBestTuning_87 : decode cX0_findBestTuning 87 = .ok (.iload_n 3, 1) := by decide +kernel
theorem dX0_findBestTuning_88 : decode cX0_findBestTuning 88 = .ok (.if_icmp .ne 14, 3) := by decide +kernel
theorem dX0_findBestTuning_91 : decode cX0_findBestTuning 91 = .ok (.iload 7, 2) := by decide +kernel
theorem dX0_findBestTuning_93 : decode cX0_findBestTuning 93 = .ok (.ifCond .eq 9, 3) := by decide +kernel
theorem dX0_findBestTuning_96 : decode cX0_findBestTuning 96 = .ok (.iload 6, 2) := by decide +kernel
theorem dX0_findBestTuning_98 : decode cX0_findBestTuning 98 = .ok (.istore_n 3, 1) := by decide +kernel
theorem dX0_findBestTuning_99 : decode cX0_findBestTuning 99 = .ok (.iload 4, 2) := by decide +kernel
theorem dX0_findBestTuning_101 : decode cX0_findBestTuning 101 = .ok (.istore_n 2, 1) := by decide +kernel
theorem dX0_findBestTuning_102 : decode cX0_findBestTuning 102 = .ok (.iinc 4 1, 3) := by decide +kernel
theorem dX0_findBestTuning_105 : decode cX0_findBestTuning 105 = .ok (.goto (-87), 3) := by decide +kernel
theorem dX0_findBestTuning_108 : decode cX0_findBestTuning 108 = .ok (.iload_n 2, 1) := by decide +kernel
theorem dX0_findBestTuning_109 : decode cX0_findBestTuning 109 = .ok (.ireturn, 1) := by decide +kernel
theorem dX0_sizeOfGreatestAccord_0 : decode cX0_sizeOfGreatestAccord 0 = .ok (.iconst 0, 1) := by decide +kernel
theorem dX0_sizeOfGreatestAccord_1 : decode cX0_sizeOfGreatestAccord 1 = .ok (.istore_n 1, 1) := by decide +kernel
theorem dX0_sizeOfGreatestAccord_2 : decode cX0_sizeOfGreatestAccord 2 = .ok (.iload_n 1, 1) := by decide +kernel
theorem dX0_sizeOfGreatestAccord_3 : decode cX0_sizeOfGreatestAccord 3 = .ok (.aload_n 0, 1) := by decide +kernel
theorem dX0_sizeOfGreatestAccord_4 : decode cX0_sizeOfGreatestAccord 4 = .ok (.getfield 31, 3) := by decide +kernel
theorem dX0_sizeOfGreatestAccord_7 : decode cX0_sizeOfGreatestAccord 7 = .ok (.if_icmp .ge 20, 3) := by decide +kernel
theorem dX0_sizeOfGreatestAccord_10 : decode cX0_sizeOfGreatestAccord 10 = .ok (.aload_n 0, 1) := by decide +kernel
theorem dX0_sizeOfGreatestAccord_11 : decode cX0_sizeOfGreatestAccord 11 = .ok (.getfield 28, 3) := by decide +kernel
theorem dX0_sizeOfGreatestAccord_14 : decode cX0_sizeOfGreatestAccord 14 = .ok (.iload_n 1, 1) := by decide +kernel
theorem dX0_sizeOfGreatestAccord_15 : decode cX0_sizeOfGreatestAccord 15 = .ok (.aload_n 0, 1) := by decide +kernel
theorem dX0_sizeOfGreatestAccord_16 : decode cX0_sizeOfGreatestAccord 16 = .ok (.iload_n 1, 1) := by decide +kernel
theorem dX0_sizeOfGreatestAccord_17 : decode cX0_sizeOfGreatestAccord 17 = .ok (.invokevirtual 93, 3) := by decide +kernel
theorem dX0_sizeOfGreatestAccord_20 : decode cX0_sizeOfGreatestAccord 20 = .ok (.iastore, 1) := by decide +kernel
theorem dX0_sizeOfGreatestAccord_21 : decode cX0_sizeOfGreatestAccord 21 = .ok (.iinc 1 1, 3) := by decide +kernel
theorem dX0_sizeOfGreatestAccord_24 : decode cX0_sizeOfGreatestAccord 24 = .ok (.goto (-22), 3) := by decide +kernel
theorem dX0_sizeOfGreatestAccord_27 : decode cX0_sizeOfGreatestAccord 27 = .ok (.iconst 0, 1) := by decide +kernel
theorem dX0_sizeOfGreatestAccord_28 : decode cX0_sizeOfGreatestAccord 28 = .ok (.istore_n 1, 1) := by decide +kernel
theorem dX0_sizeOfGreatestAccord_29 : decode cX0_sizeOfGreatestAccord 29 = .ok (.iconst 1, 1) := by decide +kernel
theorem dX0_sizeOfGreatestAccord_30 : decode cX0_sizeOfGreatestAccord 30 = .ok (.istore_n 2, 1) := by decide +kernel
theorem dX0_sizeOfGreatestAccord_31 : decode cX0_sizeOfGreatestAccord 31 = .ok (.iload_n 2, 1) := by decide +kernel
theorem dX0_sizeOfGreatestAccord_32 : decode cX0_sizeOfGreatestAccord 32 = .ok (.iconst 1, 1) := by decide +kernel
theorem dX0_sizeOfGreatestAccord_33 : decode cX0_sizeOfGreatestAccord 33 = .ok (.aload_n 0, 1) := by decide +kernel
theorem dX0_sizeOfGreatestAccord_34 : decode cX0_sizeOfGreatestAccord 34 = .ok (.getfield 31, 3) := by decide +kernel
theorem dX0_sizeOfGreatestAccord_37 : decode cX0_sizeOfGreatestAccord 37 = .ok (.ishl, 1) := by decide +kernel
theorem dX0_sizeOfGreatestAccord_38 : decode cX0_sizeOfGreatestAccord 38 = .ok (.if_icmp .ge 29, 3) := by decide +kernel
theorem dX0_sizeOfGreatestAccord_41 : decode cX0_sizeOfGreatestAccord 41 = .ok (.iload_n 2, 1) := by decide +kernel
theorem dX0_sizeOfGreatestAccord_42 : decode cX0_sizeOfGreatestAccord 42 = .ok (.invokestatic 96, 3) := by decide +kernel
theorem dX0_sizeOfGreatestAccord_45 : decode cX0_sizeOfGreatestAccord 45 = .ok (.istore_n 3, 1) := by decide +kernel
theorem dX0_sizeOfGreatestAccord_46 : decode cX0_sizeOfGreatestAccord 46 = .ok (.iload_n 3, 1) := by decide +kernel
theorem dX0_sizeOfGreatestAccord_47 : decode cX0_sizeOfGreatestAccord 47 = .ok (.iload_n 1, 1) := by decide +kernel
theorem dX0_sizeOfGreatestAccord_48 : decode cX0_sizeOfGreatestAccord 48 = .ok (.if_icmp .le 13, 3) := by decide +kernel
theorem dX0_sizeOfGreatestAccord_51 : decode cX0_sizeOfGreatestAccord 51 = .ok (.aload_n 0, 1) := by decide +kernel
theorem dX0_sizeOfGreatestAccord_52 : decode cX0_sizeOfGreatestAccord 52 = .ok (.iload_n 2, 1) := by decide +kernel
theorem dX0_sizeOfGreatestAccord_53 : decode cX0_sizeOfGreatestAccord 53 = .ok (.invokevirtual 101, 3) := by decide +kernel
theorem dX0_sizeOfGreatestAccord_56 : decode cX0_sizeOfGreatestAccord 56 = .ok (.ifCond .eq 5, 3) := by decide +kernel
theorem dX0_sizeOfGreatestAccord_59 : decode cX0_sizeOfGreatestAccord 59 = .ok (.iload_n 3, 1) := by decide +kernel
theorem dX0_sizeOfGreatestAccord_60 : decode cX0_sizeOfGreatestAccord 60 = .ok (.istore_n 1, 1) := by decide +kernel
theorem dX0_sizeOfGreatestAccord_61 : decode cX0_sizeOfGreatestAccord 61 = .ok (.iinc 2 1, 3) := by decide +kernel
theorem dX0_sizeOfGreatestAccord_64 : decode cX0_sizeOfGreatestAccord 64 = .ok (.goto (-33), 3) := by decide +kernel
theorem dX0_sizeOfGreatestAccord_67 : decode cX0_sizeOfGreatestAccord 67 = .ok (.iload_n 1, 1) := by decide +kernel
theorem dX0_sizeOfGreatestAccord_68 : decode cX0_sizeOfGreatestAccord 68 = .ok (.ireturn, 1) := by decide +kernel
theorem dX0_findBarred_0 : decode cX0_findBarred 0 = .ok (.aload_n 0, 1) := by decide +kernel
theorem dX0_findBarred_1 : decode cX0_findBarred 1 = .ok (.iload_n 1, 1) := by decide +kernel
theorem dX0_findBarred_2 : decode cX0_findBarred 2 = .ok (.invokevirtual 62, 3) := by decide +kernel
theorem dX0_findBarred_5 : decode cX0_findBarred 5 = .ok (.ifCond .ne 7, 3) := by decide +kernel
theorem dX0_findBarred_8 : decode cX0_findBarred 8 = .ok (.iconst 1, 1) := by decide +kernel
theorem dX0_findBarred_9 : decode cX0_findBarred 9 = .ok (.iload_n 1, 1) := by decide +kernel
theorem dX0_findBarred_10 : decode cX0_findBarred 10 = .ok (.ishl, 1) := by decide +kernel
theorem dX0_findBarred_11 : decode cX0_findBarred 11 = .ok (.ireturn, 1) := by decide +kernel
theorem dX0_findBarred_12 : decode cX0_findBarred 12 = .ok (.iconst 0, 1) := by decide +kernel
theorem dX0_findBarred_13 : decode cX0_findBarred 13 = .ok (.istore_n 2, 1) := by decide +kernel
theorem dX0_findBarred_14 : decode cX0_findBarred 14 = .ok (.iconst 0, 1) := by decide +kernel
theorem dX0_findBarred_15 : decode cX0_findBarred 15 = .ok (.istore_n 3, 1) := by decide +kernel
theorem dX0_findBarred_16 : decode cX0_findBarred 16 = .ok (.iload_n 3, 1) := by decide +kernel
theorem dX0_findBarred_17 : decode cX0_findBarred 17 = .ok (.aload_n 0, 1) := by decide +kernel
theorem dX0_findBarred_18 : decode cX0_findBarred 18 = .ok (.getfield 31, 3) := by decide +kernel
theorem dX0_findBarred_21 : decode cX0_findBarred 21 = .ok (.if_icmp .ge 33, 3) := by decide +kernel
theorem dX0_findBarred_24 : decode cX0_findBarred 24 = .ok (.aload_n 0, 1) := by decide +kernel
theorem dX0_findBarred_25 : decode cX0_findBarred 25 = .ok (.getfield 15, 3) := by decide +kernel
theorem dX0_findBarred_28 : decode cX0_findBarred 28 = .ok (.iload_n 1, 1) := by decide +kernel
theorem dX0_findBarred_29 : decode cX0_findBarred 29 = .ok (.iaload, 1) := by decide +kernel
theorem dX0_findBarred_30 : decode cX0_findBarred 30 = .ok (.aload_n 0, 1) := by decide +kernel
theorem dX0_findBarred_31 : decode cX0_findBarred 31 = .ok (.getfield 15, 3) := by decide +kernel
theorem dX0_findBarred_34 : decode cX0_findBarred 34 = .ok (.iload_n 3, 1) := by decide +kernel
theorem dX0_findBarred_35 : decode cX0_findBarred 35 = .ok (.iaload, 1) := by decide +kernel
theorem dX0_findBarred_36 : decode cX0_findBarred 36 = .ok (.invokestatic 79, 3) := by decide +kernel
theorem dX0_findBarred_39 : decode cX0_findBarred 39 = .ok (.ifCond .ne 9, 3) := by decide +kernel
theorem dX0_findBarred_42 : decode cX0_findBarred 42 = .ok (.iload_n 2, 1) := by decide +kernel
theorem dX0_findBarred_43 : decode cX0_findBarred 43 = .ok (.iconst 1, 1) := by decide +kernel
theorem dX0_findBarred_44 : decode cX0_findBarred 44 = .ok (.iload_n 3, 1) := by decide +kernel
theorem dX0_findBarred_45 : decode cX0_findBarred 45 = .ok (.ishl, 1) := by decide +kernel
theorem dX0_findBarred_46 : decode cX0_findBarred 46 = .ok (.ior, 1) := by decide +kernel
theorem dX0_findBarred_47 : decode cX0_findBarred 47 = .ok (.istore_n 2, 1) := by decide +kernel
theorem dX0_findBarred_48 : decode cX0_findBarred 48 = .ok (.iinc 3 1, 3) := by decide +kernel
theorem dX0_findBarred_51 : decode cX0_findBarred 51 = .ok (.goto (-35), 3) := by decide +kernel
theorem dX0_findBarred_54 : decode cX0_findBarred 54 = .ok (.iload_n 2, 1) := by decide +kernel
theorem dX0_findBarred_55 : decode cX0_findBarred 55 = .ok (.ireturn, 1) := by decide +kernel
theorem dX0_isGroupInAccord_0 : decode cX0_isGroupInAccord 0 = .ok (.iconst 0, 1) := by decide +kernel
theorem dX0_isGroupInAccord_1 : decode cX0_isGroupInAccord 1 = .ok (.istore_n 2, 1) := by decide +kernel
theorem dX0_isGroupInAccord_2 : decode cX0_isGroupInAccord 2 = .ok (.iload_n 2, 1) := by decide +kernel
theorem dX0_isGroupInAccord_3 : decode cX0_isGroupInAccord 3 = .ok (.aload_n 0, 1) := by decide +kernel
theorem dX0_isGroupInAccord_4 : decode cX0_isGroupInAccord 4 = .ok (.getfield 31, 3) := by decide +kernel
theorem dX0_isGroupInAccord_7 : decode cX0_isGroupInAccord 7 = .ok (.if_icmp .ge 31, 3) := by decide +kernel
theorem dX0_isGroupInAccord_10 : decode cX0_isGroupInAccord 10 = .ok (.iload_n 1, 1) := by decide +kernel
theorem dX0_isGroupInAccord_11 : decode cX0_isGroupInAccord 11 = .ok (.iload_n 2, 1) := by decide +kernel
theorem dX0_isGroupInAccord_12 : decode cX0_isGroupInAccord 12 = .ok (.ishr, 1) := by decide +kernel
theorem dX0_isGroupInAccord_13 : decode cX0_isGroupInAccord 13 = .ok (.iconst 1, 1) := by decide +kernel
theorem dX0_isGroupInAccord_14 : decode cX0_isGroupInAccord 14 = .ok (.iand, 1) := by decide +kernel
theorem dX0_isGroupInAccord_15 : decode cX0_isGroupInAccord 15 = .ok (.iconst 1, 1) := by decide +kernel
theorem dX0_isGroupInAccord_16 : decode cX0_isGroupInAccord 16 = .ok (.if_icmp .ne 16, 3) := by decide +kernel
theorem dX0_isGroupInAccord_19 : decode cX0_isGroupInAccord 19 = .ok (.iload_n 1, 1) := by decide +kernel
theorem dX0_isGroupInAccord_20 : decode cX0_isGroupInAccord 20 = .ok (.aload_n 0, 1) := by decide +kernel
theorem dX0_isGroupInAccord_21 : decode cX0_isGroupInAccord 21 = .ok (.getfield 28, 3) := by decide +kernel
theorem dX0_isGroupInAccord_24 : decode cX0_isGroupInAccord 24 = .ok (.iload_n 2, 1) := by decide +kernel
theorem dX0_isGroupInAccord_25 : decode cX0_isGroupInAccord 25 = .ok (.iaload, 1) := by decide +kernel
theorem dX0_isGroupInAccord_26 : decode cX0_isGroupInAccord 26 = .ok (.iand, 1) := by decide +kernel
theorem dX0_isGroupInAccord_27 : decode cX0_isGroupInAccord 27 = .ok (.ifCond .eq 5, 3) := by decide +kernel
theorem dX0_isGroupInAccord_30 : decode cX0_isGroupInAccord 30 = .ok (.iconst 0, 1) := by decide +kernel
theorem dX0_isGroupInAccord_31 : decode cX0_isGroupInAccord 31 = .ok (.ireturn, 1) := by decide +kernel
theorem dX0_isGroupInAccord_32 : decode cX0_isGroupInAccord 32 = .ok (.iinc 2 1, 3) := by decide +kernel
theorem dX0_isGroupInAccord_35 : decode cX0_isGroupInAccord 35 = .ok (.goto (-33), 3) := by decide +kernel
theorem dX0_isGroupInAccord_38 : decode cX0_isGroupInAccord 38 = .ok (.iconst 1, 1) := by decide +kernel
theorem dX0_isGroupInAccord_39 : decode cX0_isGroupInAccord 39 = .ok (.ireturn, 1) := by decide +kernel
theorem dX0_meanOfPitches_0 : decode cX0_meanOfPitches 0 = .ok (.aload_n 0, 1) := by decide +kernel
theorem dX0_meanOfPitches_1 : decode cX0_meanOfPitches 1 = .ok (.invokevirtual 86, 3) := by decide +kernel
theorem dX0_meanOfPitches_4 : decode cX0_meanOfPitches 4 = .ok (.istore_n 1, 1) := by decide +kernel
theorem dX0_meanOfPitches_5 : decode cX0_meanOfPitches 5 = .ok (.iload_n 1, 1) := by decide +kernel
theorem dX0_meanOfPitches_6 : decode cX0_meanOfPitches 6 = .ok (.ifCond .ne 5, 3) := by decide +kernel
theorem dX0_meanOfPitches_9 : decode cX0_meanOfPitches 9 = .ok (.dconst 0, 1) := by decide +kernel
theorem dX0_meanOfPitches_10 : decode cX0_meanOfPitches 10 = .ok (.dreturn, 1) := by decide +kernel
theorem dX0_meanOfPitches_11 : decode cX0_meanOfPitches 11 = .ok (.iconst 0, 1) := by decide +kernel
theorem dX0_meanOfPitches_12 : decode cX0_meanOfPitches 12 = .ok (.istore_n 2, 1) := by decide +kernel
theorem dX0_meanOfPitches_13 : decode cX0_meanOfPitches 13 = .ok (.iconst 0, 1) := by decide +kernel
theorem dX0_meanOfPitches_14 : decode cX0_meanOfPitches 14 = .ok (.istore_n 3, 1) := by decide +kernel
theorem dX0_meanOfPitches_15 : decode cX0_meanOfPitches 15 = .ok (.iload_n 3, 1) := by decide +kernel
theorem dX0_meanOfPitches_16 : decode cX0_meanOfPitches 16 = .ok (.aload_n 0, 1) := by decide +kernel
theorem dX0_meanOfPitches_17 : decode cX0_meanOfPitches 17 = .ok (.getfield 31, 3) := by decide +kernel
theorem dX0_meanOfPitches_20 : decode cX0_meanOfPitches 20 = .ok (.if_icmp .ge 26, 3) := by decide +kernel
theorem dX0_meanOfPitches_23 : decode cX0_meanOfPitches 23 = .ok (.aload_n 0, 1) := by decide +kernel
theorem dX0_meanOfPitches_24 : decode cX0_meanOfPitches 24 = .ok (.iload_n 3, 1) := by decide +kernel
theorem dX0_meanOfPitches_25 : decode cX0_meanOfPitches 25 = .ok (.invokevirtual 62, 3) := by decide +kernel
theorem dX0_meanOfPitches_28 : decode cX0_meanOfPitches 28 = .ok (.ifCond .eq 12, 3) := by decide +kernel
theorem dX0_meanOfPitches_31 : decode cX0_meanOfPitches 31 = .ok (.iload_n 2, 1) := by decide +kernel
theorem dX0_meanOfPitches_32 : decode cX0_meanOfPitches 32 = .ok (.aload_n 0, 1) := by decide +kernel
theorem dX0_meanOfPitches_33 : decode cX0_meanOfPitches 33 = .ok (.getfield 15, 3) := by decide +kernel
theorem dX0_meanOfPitches_36 : decode cX0_meanOfPitches 36 = .ok (.iload_n 3, 1) := by decide +kernel
theorem dX0_meanOfPitches_37 : decode cX0_meanOfPitches 37 = .ok (.iaload, 1) := by decide +kernel
theorem dX0_meanOfPitches_38 : decode cX0_meanOfPitches 38 = .ok (.iadd, 1) := by decide +kernel
theorem dX0_meanOfPitches_39 : decode cX0_meanOfPitches 39 = .ok (.istore_n 2, 1) := by decide +kernel
theorem dX0_meanOfPitches_40 : decode cX0_meanOfPitches 40 = .ok (.iinc 3 1, 3) := by decide +kernel
theorem dX0_meanOfPitches_43 : decode cX0_meanOfPitches 43 = .ok (.goto (-28), 3) := by decide +kernel
theorem dX0_meanOfPitches_46 : decode cX0_meanOfPitches 46 = .ok (.iload_n 2, 1) := by decide +kernel
theorem dX0_meanOfPitches_47 : decode cX0_meanOfPitches 47 = .ok (.i2d, 1) := by decide +kernel
theorem dX0_meanOfPitches_48 : decode cX0_meanOfPitches 48 = .ok (.iload_n 1, 1) := by decide +kernel
theorem dX0_meanOfPitches_49 : decode cX0_meanOfPitches 49 = .ok (.i2d, 1) := by decide +kernel
theorem dX0_meanOfPitches_50 : decode cX0_meanOfPitches 50 = .ok (.ddiv, 1) := by decide +kernel
theorem dX0_meanOfPitches_51 : decode cX0_meanOfPitches 51 = .ok (.dreturn, 1) := by decide +kernel
theorem dX1_init_0 : decode cX1_init 0 = .ok (.aload_n 0, 1) := by decide +kernel
theorem dX1_init_1 : decode cX1_init 1 = .ok (.invokespecial 1, 3) := by decide +kernel
theorem dX1_init_4 : decode cX1_init 4 = .ok (.aload_n 0, 1) := by decide +kernel
theorem dX1_init_5 : decode cX1_init 5 = .ok (.new 7, 3) := by decide +kernel
theorem dX1_init_8 : decode cX1_init 8 = .ok (.dup, 1) := by decide +kernel
theorem dX1_init_9 : decode cX1_init 9 = .ok (.invokespecial 9, 3) := by decide +kernel
theorem dX1_init_12 : decode cX1_init 12 = .ok (.putfield 10, 3) := by decide +kernel
theorem dX1_init_15 : decode cX1_init 15 = .ok (.aload_n 0, 1) := by decide +kernel
theorem dX1_init_16 : decode cX1_init 16 = .ok (.new 7, 3) := by decide +kernel
theorem dX1_init_19 : decode cX1_init 19 = .ok (.dup, 1) := by decide +kernel
theorem dX1_init_20 : decode cX1_init 20 = .ok (.invokespecial 9, 3) := by decide +kernel
theorem dX1_init_23 : decode cX1_init 23 = .ok (.putfield 16, 3) := by decide +kernel
theorem dX1_init_26 : decode cX1_init 26 = .ok (.return_, 1) := by decide +kernel
theorem dX1_addPot_0 : decode cX1_addPot 0 = .ok (.iload_n 1, 1) := by decide +kernel
theorem dX1_addPot_1 : decode cX1_addPot 1 = .ok (.iconst 0, 1) := by decide +kernel
theorem dX1_addPot_2 : decode cX1_addPot 2 = .ok (.iconst 3, 1) := by decide +kernel
theorem dX1_addPot_3 : decode cX1_addPot 3 = .ok (.invokestatic 19, 3) := by decide +kernel
theorem dX1_addPot_6 : decode cX1_addPot 6 = .ok (.iload_n 2, 1) := by decide +kernel
theorem dX1_addPot_7 : decode cX1_addPot 7 = .ok (.iconst 0, 1) := by decide +kernel
theorem dX1_addPot_8 : decode cX1_addPot 8 = .ok (.bipush 35, 2) := by decide +kernel
theorem dX1_addPot_10 : decode cX1_addPot 10 = .ok (.invokestatic 19, 3) := by decide +kernel
theorem dX1_addPot_13 : decode cX1_addPot 13 = .ok (.iload_n 3, 1) := by decide +kernel
theorem dX1_addPot_14 : decode cX1_addPot 14 = .ok (.iconst 0, 1) := by decide +kernel
theorem dX1_addPot_15 : decode cX1_addPot 15 = .ok (.bipush 20, 2) := by decide +kernel
theorem dX1_addPot_17 : decode cX1_addPot 17 = .ok (.invokestatic 19, 3) := by decide +kernel
theorem dX1_addPot_20 : decode cX1_addPot 20 = .ok (.aload_n 0, 1) := by decide +kernel
theorem dX1_addPot_21 : decode cX1_addPot 21 = .ok (.getfield 10, 3) := by decide +kernel
theorem dX1_addPot_24 : decode cX1_addPot 24 = .ok (.getfield 23, 3) := by decide +kernel
theorem dX1_addPot_27 : decode cX1_addPot 27 = .ok (.bipush 10, 2) := by decide +kernel
theorem dX1_addPot_29 : decode cX1_addPot 29 = .ok (.if_icmp .lt 13, 3) := by decide +kernel
theorem dX1_addPot_32 : decode cX1_addPot 32 = .ok (.new 27, 3) := by decide +kernel
theorem dX1_addPot_35 : decode cX1_addPot 35 = .ok (.dup, 1) := by decide +kernel
theorem dX1_addPot_36 : decode cX1_addPot 36 = .ok (.ldc 29, 2) := by decide +kernel
theorem dX1_addPot_38 : decode cX1_addPot 38 = .ok (.invokespecial 31, 3) := by decide +kernel
theorem dX1_addPot_41 : decode cX1_addPot 41 = .ok (.athrow, 1) := by decide +kernel
theorem dX1_addPot_42 : decode cX1_addPot 42 = .ok (.aload_n 0, 1) := by decide +kernel
theorem dX1_addPot_43 : decode cX1_addPot 43 = .ok (.getfield 10, 3) := by decide +kernel
theorem dX1_addPot_46 : decode cX1_addPot 46 = .ok (.iload_n 1, 1) := by decide +kernel
theorem dX1_addPot_47 : decode cX1_addPot 47 = .ok (.iload_n 2, 1) := by decide +kernel
theorem dX1_addPot_48 : decode cX1_addPot 48 = .ok (.iload_n 3, 1) := by decide +kernel
theorem dX1_addPot_49 : decode cX1_addPot 49 = .ok (.invokevirtual 34, 3) := by decide +kernel
theorem dX1_addPot_52 : decode cX1_addPot 52 = .ok (.ireturn, 1) := by decide +kernel
theorem dX1_tune_0 : decode cX1_tune 0 = .ok (.aload_n 0, 1) := by decide +kernel
theorem dX1_tune_1 : decode cX1_tune 1 = .ok (.iload_n 1, 1) := by decide +kernel
theorem dX1_tune_2 : decode cX1_tune 2 = .ok (.invokevirtual 38, 3) := by decide +kernel
theorem dX1_tune_5 : decode cX1_tune 5 = .ok (.iload_n 2, 1) := by decide +kernel
theorem dX1_tune_6 : decode cX1_tune 6 = .ok (.bipush (-12), 2) := by decide +kernel
theorem dX1_tune_8 : decode cX1_tune 8 = .ok (.bipush 12, 2) := by decide +kernel
theorem dX1_tune_10 : decode cX1_tune 10 = .ok (.invokestatic 19, 3) := by decide +kernel
theorem dX1_tune_13 : decode cX1_tune 13 = .ok (.aload_n 0, 1) := by decide +kernel
theorem dX1_tune_14 : decode cX1_tune 14 = .ok (.getfield 10, 3) := by decide +kernel
theorem dX1_tune_17 : decode cX1_tune 17 = .ok (.getfield 42, 3) := by decide +kernel
theorem dX1_tune_20 : decode cX1_tune 20 = .ok (.iload_n 1, 1) := by decide +kernel
theorem dX1_tune_21 : decode cX1_tune 21 = .ok (.iaload, 1) := by decide +kernel
theorem dX1_tune_22 : decode cX1_tune 22 = .ok (.iload_n 2, 1) := by decide +kernel
theorem dX1_tune_23 : decode cX1_tune 23 = .ok (.iadd, 1) := by decide +kernel
theorem dX1_tune_24 : decode cX1_tune 24 = .ok (.istore_n 3, 1) := by decide +kernel
theorem dX1_tune_25 : decode cX1_tune 25 = .ok (.iload_n 3, 1) := by decide +kernel
theorem dX1_tune_26 : decode cX1_tune 26 = .ok (.iconst 0, 1) := by decide +kernel
theorem dX1_tune_27 : decode cX1_tune 27 = .ok (.bipush 35, 2) := by decide +kernel
theorem dX1_tune_29 : decode cX1_tune 29 = .ok (.invokestatic 19, 3) := by decide +kernel
theorem dX1_tune_32 : decode cX1_tune 32 = .ok (.aload_n 0, 1) := by decide +kernel
theorem dX1_tune_33 : decode cX1_tune 33 = .ok (.getfield 10, 3) := by decide +kernel
theorem dX1_tune_36 : decode cX1_tune 36 = .ok (.getfield 42, 3) := by decide +kernel
theorem dX1_tune_39 : decode cX1_tune 39 = .ok (.iload_n 1, 1) := by decide +kernel
theorem dX1_tune_40 : decode cX1_tune 40 = .ok (.iload_n 3, 1) := by decide +kernel
theorem dX1_tune_41 : decode cX1_tune 41 = .ok (.iastore, 1) := by decide +kernel
theorem dX1_tune_42 : decode cX1_tune 42 = .ok (.iload_n 3, 1) := by decide +kernel
theorem dX1_tune_43 : decode cX1_tune 43 = .ok (.ireturn, 1) := by decide +kernel
theorem dX1_turnCosy_0 : decode cX1_turnCosy 0 = .ok (.aload_n 0, 1) := by decide +kernel
theorem dX1_turnCosy_1 : decode cX1_turnCosy 1 = .ok (.iload_n 1, 1) := by decide +kernel
theorem dX1_turnCosy_2 : decode cX1_turnCosy 2 = .ok (.invokevirtual 38, 3) := by decide +kernel
theorem dX1_turnCosy_5 : decode cX1_turnCosy 5 = .ok (.aload_n 0, 1) := by decide +kernel
theorem dX1_turnCosy_6 : decode cX1_turnCosy 6 = .ok (.getfield 10, 3) := by decide +kernel
theorem dX1_turnCosy_9 : decode cX1_turnCosy 9 = .ok (.getfield 46, 3) := by decide +kernel
theorem dX1_turnCosy_12 : decode cX1_turnCosy 12 = .ok (.iload_n 1, 1) := by decide +kernel
theorem dX1_turnCosy_13 : decode cX1_turnCosy 13 = .ok (.aload_n 0, 1) := by decide +kernel
theorem dX1_turnCosy_14 : decode cX1_turnCosy 14 = .ok (.getfield 10, 3) := by decide +kernel
theorem dX1_turnCosy_17 : decode cX1_turnCosy 17 = .ok (.getfield 46, 3) := by decide +kernel
theorem dX1_turnCosy_20 : decode cX1_turnCosy 20 = .ok (.iload_n 1, 1) := by decide +kernel
theorem dX1_turnCosy_21 : decode cX1_turnCosy 21 = .ok (.baload, 1) := by decide +kernel
theorem dX1_turnCosy_22 : decode cX1_turnCosy 22 = .ok (.ifCond .ne 7, 3) := by decide +kernel
theorem dX1_turnCosy_25 : decode cX1_turnCosy 25 = .ok (.iconst 1, 1) := by decide +kernel
theorem dX1_turnCosy_26 : decode cX1_turnCosy 26 = .ok (.goto 4, 3) := by decide +kernel
theorem dX1_turnCosy_29 : decode cX1_turnCosy 29 = .ok (.iconst 0, 1) := by decide +kernel
theorem dX1_turnCosy_30 : decode cX1_turnCosy 30 = .ok (.bastore, 1) := by decide +kernel
theorem dX1_turnCosy_31 : decode cX1_turnCosy 31 = .ok (.aload_n 0, 1) := by decide +kernel
theorem dX1_turnCosy_32 : decode cX1_turnCosy 32 = .ok (.getfield 10, 3) := by decide +kernel
theorem dX1_turnCosy_35 : decode cX1_turnCosy 35 = .ok (.getfield 46, 3) := by decide +kernel
theorem dX1_turnCosy_38 : decode cX1_turnCosy 38 = .ok (.iload_n 1, 1) := by decide +kernel
theorem dX1_turnCosy_39 : decode cX1_turnCosy 39 = .ok (.baload, 1) := by decide +kernel
theorem dX1_turnCosy_40 : decode cX1_turnCosy 40 = .ok (.ireturn, 1) := by decide +kernel
theorem dX1_pour_0 : decode cX1_pour 0 = .ok (.aload_n 0, 1) := by decide +kernel
theorem dX1_pour_1 : decode cX1_pour 1 = .ok (.iload_n 1, 1) := by decide +kernel
theorem dX1_pour_2 : decode cX1_pour 2 = .ok (.invokevirtual 38, 3) := by decide +kernel
theorem dX1_pour_5 : decode cX1_pour 5 = .ok (.aload_n 0, 1) := by decide +kernel
theorem dX1_pour_6 : decode cX1_pour 6 = .ok (.iload_n 2, 1) := by decide +kernel
theorem dX1_pour_7 : decode cX1_pour 7 = .ok (.invokevirtual 38, 3) := by decide +kernel
theorem dX1_pour_10 : decode cX1_pour 10 = .ok (.iload_n 1, 1) := by decide +kernel
theorem dX1_pour_11 : decode cX1_pour 11 = .ok (.iload_n 2, 1) := by decide +kernel
theorem dX1_pour_12 : decode cX1_pour 12 = .ok (.if_icmp .ne 13, 3) := by decide +kernel
theorem dX1_pour_15 : decode cX1_pour 15 = .ok (.new 50, 3) := by decide +kernel
theorem dX1_pour_18 : decode cX1_pour 18 = .ok (.dup, 1) := by decide +kernel
theorem dX1_pour_19 : decode cX1_pour 19 = .ok (.ldc 52, 2) := by decide +kernel
theorem dX1_pour_21 : decode cX1_pour 21 = .ok (.invokespecial 54, 3) := by decide +kernel
theorem dX1_pour_24 : decode cX1_pour 24 = .ok (.athrow, 1) := by decide +kernel
theorem dX1_pour_25 : decode cX1_pour 25 = .ok (.iload_n 3, 1) := by decide +kernel
theorem dX1_pour_26 : decode cX1_pour 26 = .ok (.iconst 1, 1) := by decide +kernel
theorem dX1_pour_27 : decode cX1_pour 27 = .ok (.bipush 20, 2) := by decide +kernel
theorem dX1_pour_29 : decode cX1_pour 29 = .ok (.invokestatic 19, 3) := by decide +kernel
theorem dX1_pour_32 : decode cX1_pour 32 = .ok (.iload_n 3, 1) := by decide +kernel
theorem dX1_pour_33 : decode cX1_pour 33 = .ok (.aload_n 0, 1) := by decide +kernel
theorem dX1_pour_34 : decode cX1_pour 34 = .ok (.getfield 10, 3) := by decide +kernel
theorem dX1_pour_37 : decode cX1_pour 37 = .ok (.getfield 55, 3) := by decide +kernel
theorem dX1_pour_40 : decode cX1_pour 40 = .ok (.iload_n 1, 1) := by decide +kernel
theorem dX1_pour_41 : decode cX1_pour 41 = .ok (.iaload, 1) := by decide +kernel
theorem dX1_pour_42 : decode cX1_pour 42 = .ok (.bipush 20, 2) := by decide +kernel
theorem dX1_pour_44 : decode cX1_pour 44 = .ok (.aload_n 0, 1) := by decide +kernel
theorem dX1_pour_45 : decode cX1_pour 45 = .ok (.getfield 10, 3) := by decide +kernel
theorem dX1_pour_48 : decode cX1_pour 48 = .ok (.getfield 55, 3) := by decide +kernel
theorem dX1_pour_51 : decode cX1_pour 51 = .ok (.iload_n 2, 1) := by decide +kernel
theorem dX1_pour_52 : decode cX1_pour 52 = .ok (.iaload, 1) := by decide +kernel
theorem dX1_pour_53 : decode cX1_pour 53 = .ok (.isub, 1) := by decide +kernel
theorem dX1_pour_54 : decode cX1_pour 54 = .ok (.invokestatic 58, 3) := by decide +kernel
theorem dX1_pour_57 : decode cX1_pour 57 = .ok (.invokestatic 58, 3) := by decide +kernel
theorem dX1_pour_60 : decode cX1_pour 60 = .ok (.istore 4, 2) := by decide +kernel
theorem dX1_pour_62 : decode cX1_pour 62 = .ok (.aload_n 0, 1) := by decide +kernel
theorem dX1_pour_63 : decode cX1_pour 63 = .ok (.getfield 10, 3) := by decide +kernel
theorem dX1_pour_66 : decode cX1_pour 66 = .ok (.getfield 55, 3) := by decide +kernel
theorem dX1_pour_69 : decode cX1_pour 69 = .ok (.iload_n 1, 1) := by decide +kernel
theorem dX1_pour_70 : decode cX1_pour 70 = .ok (.dup2, 1) := by decide +kernel
theorem dX1_pour_71 : decode cX1_pour 71 = .ok (.iaload, 1) := by decide +kernel
theorem dX1_pour_72 : decode cX1_pour 72 = .ok (.iload 4, 2) := by decide +kernel
theorem dX1_pour_74 : decode cX1_pour 74 = .ok (.isub, 1) := by decide +kernel
theorem dX1_pour_75 : decode cX1_pour 75 = .ok (.iastore, 1) := by decide +kernel
theorem dX1_pour_76 : decode cX1_pour 76 = .ok (.aload_n 0, 1) := by decide +kernel
theorem dX1_pour_77 : decode cX1_pour 77 = .ok (.getfield 10, 3) := by decide +kernel
theorem dX1_pour_80 : decode cX1_pour 80 = .ok (.getfield 55, 3) := by decide +kernel
theorem dX1_pour_83 : decode cX1_pour 83 = .ok (.iload_n 2, 1) := by decide +kernel
theorem dX1_pour_84 : decode cX1_pour 84 = .ok (.dup2, 1) := by decide +kernel
theorem dX1_pour_85 : decode cX1_pour 85 = .ok (.iaload, 1) := by decide +kernel
theorem dX1_pour_86 : decode cX1_pour 86 = .ok (.iload 4, 2) := by decide +kernel
theorem dX1_pour_88 : decode cX1_pour 88 = .ok (.iadd, 1) := by decide +kernel
theorem dX1_pour_89 : decode cX1_pour 89 = .ok (.iastore, 1) := by decide +kernel
theorem dX1_pour_90 : decode cX1_pour 90 = .ok (.iload 4, 2) := by decide +kernel
theorem dX1_pour_92 : decode cX1_pour 92 = .ok (.ireturn, 1) := by decide +kernel
theorem dX1_fill_0 : decode cX1_fill 0 = .ok (.aload_n 0, 1) := by decide +kernel
theorem dX1_fill_1 : decode cX1_fill 1 = .ok (.iload_n 1, 1) := by decide +kernel
theorem dX1_fill_2 : decode cX1_fill 2 = .ok (.invokevirtual 38, 3) := by decide +kernel
theorem dX1_fill_5 : decode cX1_fill 5 = .ok (.bipush 20, 2) := by decide +kernel
theorem dX1_fill_7 : decode cX1_fill 7 = .ok (.aload_n 0, 1) := by decide +kernel
theorem dX1_fill_8 : decode cX1_fill 8 = .ok (.getfield 10, 3) := by decide +kernel
theorem dX1_fill_11 : decode cX1_fill 11 = .ok (.getfield 55, 3) := by decide +kernel
theorem dX1_fill_14 : decode cX1_fill 14 = .ok (.iload_n 1, 1) := by decide +kernel
theorem dX1_fill_15 : decode cX1_fill 15 = .ok (.iaload, 1) := by decide +kernel
theorem dX1_fill_16 : decode cX1_fill 16 = .ok (.isub, 1) := by decide +kernel
theorem dX1_fill_17 : decode cX1_fill 17 = .ok (.istore_n 2, 1) := by decide +kernel
theorem dX1_fill_18 : decode cX1_fill 18 = .ok (.aload_n 0, 1) := by decide +kernel
theorem dX1_fill_19 : decode cX1_fill 19 = .ok (.getfield 10, 3) := by decide +kernel
theorem dX1_fill_22 : decode cX1_fill 22 = .ok (.getfield 55, 3) := by decide +kernel
theorem dX1_fill_25 : decode cX1_fill 25 = .ok (.iload_n 1, 1) := by decide +kernel
theorem dX1_fill_26 : decode cX1_fill 26 = .ok (.bipush 20, 2) := by decide +kernel
theorem dX1_fill_28 : decode cX1_fill 28 = .ok (.iastore, 1) := by decide +kernel
theorem dX1_fill_29 : decode cX1_fill 29 = .ok (.iload_n 2, 1) := by decide +kernel
theorem dX1_fill_30 : decode cX1_fill 30 = .ok (.ireturn, 1) := by decide +kernel
theorem dX1_mend_0 : decode cX1_mend 0 = .ok (.aload_n 0, 1) := by decide +kernel
theorem dX1_mend_1 : decode cX1_mend 1 = .ok (.iload_n 1, 1) := by decide +kernel
theorem dX1_mend_2 : decode cX1_mend 2 = .ok (.invokevirtual 38, 3) := by decide +kernel
theorem dX1_mend_5 : decode cX1_mend 5 = .ok (.aload_n 0, 1) := by decide +kernel
theorem dX1_mend_6 : decode cX1_mend 6 = .ok (.getfield 10, 3) := by decide +kernel
theorem dX1_mend_9 : decode cX1_mend 9 = .ok (.getfield 64, 3) := by decide +kernel
theorem dX1_mend_12 : decode cX1_mend 12 = .ok (.iload_n 1, 1) := by decide +kernel
theorem dX1_mend_13 : decode cX1_mend 13 = .ok (.iaload, 1) := by decide +kernel
theorem dX1_mend_14 : decode cX1_mend 14 = .ok (.istore_n 2, 1) := by decide +kernel
theorem dX1_mend_15 : decode cX1_mend 15 = .ok (.aload_n 0, 1) := by decide +kernel
theorem dX1_mend_16 : decode cX1_mend 16 = .ok (.getfield 10, 3) := by decide +kernel
theorem dX1_mend_19 : decode cX1_mend 19 = .ok (.getfield 64, 3) := by decide +kernel
theorem dX1_mend_22 : decode cX1_mend 22 = .ok (.iload_n 1, 1) := by decide +kernel
theorem dX1_mend_23 : decode cX1_mend 23 = .ok (.iconst 0, 1) := by decide +kernel
theorem dX1_mend_24 : decode cX1_mend 24 = .ok (.iastore, 1) := by decide +kernel
theorem dX1_mend_25 : decode cX1_mend 25 = .ok (.aload_n 0, 1) := by decide +kernel
theorem dX1_mend_26 : decode cX1_mend 26 = .ok (.getfield 10, 3) := by decide +kernel
theorem dX1_mend_29 : decode cX1_mend 29 = .ok (.getfield 55, 3) := by decide +kernel
theorem dX1_mend_32 : decode cX1_mend 32 = .ok (.iload_n 1, 1) := by decide +kernel
theorem dX1_mend_33 : decode cX1_mend 33 = .ok (.iconst 0, 1) := by decide +kernel
theorem dX1_mend_34 : decode cX1_mend 34 = .ok (.iastore, 1) := by decide +kernel
theorem dX1_mend_35 : decode cX1_mend 35 = .ok (.iload_n 2, 1) := by decide +kernel
theorem dX1_mend_36 : decode cX1_mend 36 = .ok (.ireturn, 1) := by decide +kernel
theorem dX1_sing_0 : decode cX1_sing 0 = .ok (.iload_n 1, 1) := by decide +kernel
theorem dX1_sing_1 : decode cX1_sing 1 = .ok (.iconst 1, 1) := by decide +kernel
theorem dX1_sing_2 : decode cX1_sing 2 = .ok (.bipush 60, 2) := by decide +kernel
theorem dX1_sing_4 : decode cX1_sing 4 = .ok (.invokestatic 19, 3) := by decide +kernel
theorem dX1_sing_7 : decode cX1_sing 7 = .ok (.aload_n 0, 1) := by decide +kernel
theorem dX1_sing_8 : decode cX1_sing 8 = .ok (.getfield 10, 3) := by decide +kernel
theorem dX1_sing_11 : decode cX1_sing 11 = .ok (.getfield 67, 3) := by decide +kernel
theorem dX1_sing_14 : decode cX1_sing 14 = .ok (.istore_n 2, 1) := by decide +kernel
theorem dX1_sing_15 : decode cX1_sing 15 = .ok (.aload_n 0, 1) := by decide +kernel
theorem dX1_sing_16 : decode cX1_sing 16 = .ok (.getfield 10, 3) := by decide +kernel
theorem dX1_sing_19 : decode cX1_sing 19 = .ok (.iload_n 1, 1) := by decide +kernel
theorem dX1_sing_20 : decode cX1_sing 20 = .ok (.invokevirtual 70, 3) := by decide +kernel
theorem dX1_sing_23 : decode cX1_sing 23 = .ok (.aload_n 0, 1) := by decide +kernel
theorem dX1_sing_24 : decode cX1_sing 24 = .ok (.getfield 10, 3) := by decide +kernel
theorem dX1_sing_27 : decode cX1_sing 27 = .ok (.getfield 67, 3) := by decide +kernel
theorem dX1_sing_30 : decode cX1_sing 30 = .ok (.iload_n 2, 1) := by decide +kernel
theorem dX1_sing_31 : decode cX1_sing 31 = .ok (.isub, 1) := by decide +kernel
theorem dX1_sing_32 : decode cX1_sing 32 = .ok (.ireturn, 1) := by decide +kernel
theorem dX1_pots_0 : decode cX1_pots 0 = .ok (.aload_n 0, 1) := by decide +kernel
theorem dX1_pots_1 : decode cX1_pots 1 = .ok (.getfield 10, 3) := by decide +kernel
theorem dX1_pots_4 : decode cX1_pots 4 = .ok (.getfield 23, 3) := by decide +kernel
theorem dX1_pots_7 : decode cX1_pots 7 = .ok (.ireturn, 1) := by decide +kernel
theorem dX1_partOf_0 : decode cX1_partOf 0 = .ok (.aload_n 0, 1) := by decide +kernel
theorem dX1_partOf_1 : decode cX1_partOf 1 = .ok (.iload_n 1, 1) := by decide +kernel
theorem dX1_partOf_2 : decode cX1_partOf 2 = .ok (.invokevirtual 38, 3) := by decide +kernel
theorem dX1_partOf_5 : decode cX1_partOf 5 = .ok (.aload_n 0, 1) := by decide +kernel
theorem dX1_partOf_6 : decode cX1_partOf 6 = .ok (.getfield 10, 3) := by decide +kernel
theorem dX1_partOf_9 : decode cX1_partOf 9 = .ok (.getfield 73, 3) := by decide +kernel
theorem dX1_partOf_12 : decode cX1_partOf 12 = .ok (.iload_n 1, 1) := by decide +kernel
theorem dX1_partOf_13 : decode cX1_partOf 13 = .ok (.iaload, 1) := by decide +kernel
theorem dX1_partOf_14 : decode cX1_partOf 14 = .ok (.ireturn, 1) := by decide +kernel
theorem dX1_pitchOf_0 : decode cX1_pitchOf 0 = .ok (.aload_n 0, 1) := by decide +kernel
theorem dX1_pitchOf_1 : decode cX1_pitchOf 1 = .ok (.iload_n 1, 1) := by decide +kernel
theorem dX1_pitchOf_2 : decode cX1_pitchOf 2 = .ok (.invokevirtual 38, 3) := by decide +kernel
theorem dX1_pitchOf_5 : decode cX1_pitchOf 5 = .ok (.aload_n 0, 1) := by decide +kernel
theorem dX1_pitchOf_6 : decode cX1_pitchOf 6 = .ok (.getfield 10, 3) := by decide +kernel
theorem dX1_pitchOf_9 : decode cX1_pitchOf 9 = .ok (.getfield 42, 3) := by decide +kernel
theorem dX1_pitchOf_12 : decode cX1_pitchOf 12 = .ok (.iload_n 1, 1) := by decide +kernel
theorem dX1_pitchOf_13 : decode cX1_pitchOf 13 = .ok (.iaload, 1) := by decide +kernel
theorem dX1_pitchOf_14 : decode cX1_pitchOf 14 = .ok (.ireturn, 1) := by decide +kernel
theorem dX1_teaOf_0 : decode cX1_teaOf 0 = .ok (.aload_n 0, 1) := by decide +kernel
theorem dX1_teaOf_1 : decode cX1_teaOf 1 = .ok (.iload_n 1, 1) := by decide +kernel
theorem dX1_teaOf_2 : decode cX1_teaOf 2 = .ok (.invokevirtual 38, 3) := by decide +kernel
theorem dX1_teaOf_5 : decode cX1_teaOf 5 = .ok (.aload_n 0, 1) := by decide +kernel
theorem dX1_teaOf_6 : decode cX1_teaOf 6 = .ok (.getfield 10, 3) := by decide +kernel
theorem dX1_teaOf_9 : decode cX1_teaOf 9 = .ok (.getfield 55, 3) := by decide +kernel
theorem dX1_teaOf_12 : decode cX1_teaOf 12 = .ok (.iload_n 1, 1) := by decide +kernel
theorem dX1_teaOf_13 : decode cX1_teaOf 13 = .ok (.iaload, 1) := by decide +kernel
theorem dX1_teaOf_14 : decode cX1_teaOf 14 = .ok (.ireturn, 1) := by decide +kernel
theorem dX1_crackOf_0 : decode cX1_crackOf 0 = .ok (.aload_n 0, 1) := by decide +kernel
theorem dX1_crackOf_1 : decode cX1_crackOf 1 = .ok (.iload_n 1, 1) := by decide +kernel
theorem dX1_crackOf_2 : decode cX1_crackOf 2 = .ok (.invokevirtual 38, 3) := by decide +kernel
theorem dX1_crackOf_5 : decode cX1_crackOf 5 = .ok (.aload_n 0, 1) := by decide +kernel
theorem dX1_crackOf_6 : decode cX1_crackOf 6 = .ok (.getfield 10, 3) := by decide +kernel
theorem dX1_crackOf_9 : decode cX1_crackOf 9 = .ok (.getfield 64, 3) := by decide +kernel
theorem dX1_crackOf_12 : decode cX1_crackOf 12 = .ok (.iload_n 1, 1) := by decide +kernel
theorem dX1_crackOf_13 : decode cX1_crackOf 13 = .ok (.iaload, 1) := by decide +kernel
theorem dX1_crackOf_14 : decode cX1_crackOf 14 = .ok (.ireturn, 1) := by decide +kernel
theorem dX1_sounds_0 : decode cX1_sounds 0 = .ok (.aload_n 0, 1) := by decide +kernel
theorem dX1_sounds_1 : decode cX1_sounds 1 = .ok (.iload_n 1, 1) := by decide +kernel
theorem dX1_sounds_2 : decode cX1_sounds 2 = .ok (.invokevirtual 38, 3) := by decide +kernel
theorem dX1_sounds_5 : decode cX1_sounds 5 = .ok (.aload_n 0, 1) := by decide +kernel
theorem dX1_sounds_6 : decode cX1_sounds 6 = .ok (.getfield 10, 3) := by decide +kernel
theorem dX1_sounds_9 : decode cX1_sounds 9 = .ok (.iload_n 1, 1) := by decide +kernel
theorem dX1_sounds_10 : decode cX1_sounds 10 = .ok (.invokevirtual 76, 3) := by decide +kernel
theorem dX1_sounds_13 : decode cX1_sounds 13 = .ok (.ireturn, 1) := by decide +kernel
theorem dX1_soundingOf_0 : decode cX1_soundingOf 0 = .ok (.iload_n 1, 1) := by decide +kernel
theorem dX1_soundingOf_1 : decode cX1_soundingOf 1 = .ok (.ifCond .lt 8, 3) := by decide +kernel
theorem dX1_soundingOf_4 : decode cX1_soundingOf 4 = .ok (.iload_n 1, 1) := by decide +kernel
theorem dX1_soundingOf_5 : decode cX1_soundingOf 5 = .ok (.iconst 4, 1) := by decide +kernel
theorem dX1_soundingOf_6 : decode cX1_soundingOf 6 = .ok (.if_icmp .lt 13, 3) := by decide +kernel
theorem dX1_soundingOf_9 : decode cX1_soundingOf 9 = .ok (.new 80, 3) := by decide +kernel
theorem dX1_soundingOf_12 : decode cX1_soundingOf 12 = .ok (.dup, 1) := by decide +kernel
theorem dX1_soundingOf_13 : decode cX1_soundingOf 13 = .ok (.ldc 82, 2) := by decide +kernel
theorem dX1_soundingOf_15 : decode cX1_soundingOf 15 = .ok (.invokespecial 84, 3) := by decide +kernel
theorem dX1_soundingOf_18 : decode cX1_soundingOf 18 = .ok (.athrow, 1) := by decide +kernel
theorem dX1_soundingOf_19 : decode cX1_soundingOf 19 = .ok (.aload_n 0, 1) := by decide +kernel
theorem dX1_soundingOf_20 : decode cX1_soundingOf 20 = .ok (.getfield 10, 3) := by decide +kernel
theorem dX1_soundingOf_23 : decode cX1_soundingOf 23 = .ok (.iload_n 1, 1) := by decide +kernel
theorem dX1_soundingOf_24 : decode cX1_soundingOf 24 = .ok (.invokevirtual 85, 3) := by decide +kernel
theorem dX1_soundingOf_27 : decode cX1_soundingOf 27 = .ok (.ireturn, 1) := by decide +kernel
theorem dX1_beats_0 : decode cX1_beats 0 = .ok (.aload_n 0, 1) := by decide +kernel
theorem dX1_beats_1 : decode cX1_beats 1 = .ok (.getfield 10, 3) := by decide +kernel
theorem dX1_beats_4 : decode cX1_beats 4 = .ok (.getfield 89, 3) := by decide +kernel
theorem dX1_beats_7 : decode cX1_beats 7 = .ok (.ireturn, 1) := by decide +kernel
theorem dX1_sounding_0 : decode cX1_sounding 0 = .ok (.aload_n 0, 1) := by decide +kernel
theorem dX1_sounding_1 : decode cX1_sounding 1 = .ok (.getfield 10, 3) := by decide +kernel
theorem dX1_sounding_4 : decode cX1_sounding 4 = .ok (.invokevirtual 92, 3) := by decide +kernel
theorem dX1_sounding_7 : decode cX1_sounding 7 = .ok (.ireturn, 1) := by decide +kernel
theorem dX1_interval_0 : decode cX1_interval 0 = .ok (.aload_n 0, 1) := by decide +kernel
theorem dX1_interval_1 : decode cX1_interval 1 = .ok (.iload_n 1, 1) := by decide +kernel
theorem dX1_interval_2 : decode cX1_interval 2 = .ok (.invokevirtual 38, 3) := by decide +kernel
theorem dX1_interval_5 : decode cX1_interval 5 = .ok (.aload_n 0, 1) := by decide +kernel
theorem dX1_interval_6 : decode cX1_interval 6 = .ok (.iload_n 2, 1) := by decide +kernel
theorem dX1_interval_7 : decode cX1_interval 7 = .ok (.invokevirtual 38, 3) := by decide +kernel
theorem dX1_interval_10 : decode cX1_interval 10 = .ok (.aload_n 0, 1) := by decide +kernel
theorem dX1_interval_11 : decode cX1_interval 11 = .ok (.getfield 10, 3) := by decide +kernel
theorem dX1_interval_14 : decode cX1_interval 14 = .ok (.getfield 42, 3) := by decide +kernel
theorem dX1_interval_17 : decode cX1_interval 17 = .ok (.iload_n 1, 1) := by decide +kernel
theorem dX1_interval_18 : decode cX1_interval 18 = .ok (.iaload, 1) := by decide +kernel
theorem dX1_interval_19 : decode cX1_interval 19 = .ok (.aload_n 0, 1) := by decide +kernel
theorem dX1_interval_20 : decode cX1_interval 20 = .ok (.getfield 10, 3) := by decide +kernel
theorem dX1_interval_23 : decode cX1_interval 23 = .ok (.getfield 42, 3) := by decide +kernel
theorem dX1_interval_26 : decode cX1_interval 26 = .ok (.iload_n 2, 1) := by decide +kernel
theorem dX1_interval_27 : decode cX1_interval 27 = .ok (.iaload, 1) := by decide +kernel
theorem dX1_interval_28 : decode cX1_interval 28 = .ok (.isub, 1) := by decide +kernel
theorem dX1_interval_29 : decode cX1_interval 29 = .ok (.invokestatic 96, 3) := by decide +kernel
theorem dX1_interval_32 : decode cX1_interval 32 = .ok (.ireturn, 1) := by decide +kernel
theorem dX1_areInAccord_0 : decode cX1_areInAccord 0 = .ok (.aload_n 0, 1) := by decide +kernel
theorem dX1_areInAccord_1 : decode cX1_areInAccord 1 = .ok (.iload_n 1, 1) := by decide +kernel
theorem dX1_areInAccord_2 : decode cX1_areInAccord 2 = .ok (.invokevirtual 38, 3) := by decide +kernel
theorem dX1_areInAccord_5 : decode cX1_areInAccord 5 = .ok (.aload_n 0, 1) := by decide +kernel
theorem dX1_areInAccord_6 : decode cX1_areInAccord 6 = .ok (.iload_n 2, 1) := by decide +kernel
theorem dX1_areInAccord_7 : decode cX1_areInAccord 7 = .ok (.invokevirtual 38, 3) := by decide +kernel
theorem dX1_areInAccord_10 : decode cX1_areInAccord 10 = .ok (.aload_n 0, 1) := by decide +kernel
theorem dX1_areInAccord_11 : decode cX1_areInAccord 11 = .ok (.getfield 10, 3) := by decide +kernel
theorem dX1_areInAccord_14 : decode cX1_areInAccord 14 = .ok (.getfield 42, 3) := by decide +kernel
theorem dX1_areInAccord_17 : decode cX1_areInAccord 17 = .ok (.iload_n 1, 1) := by decide +kernel
theorem dX1_areInAccord_18 : decode cX1_areInAccord 18 = .ok (.iaload, 1) := by decide +kernel
theorem dX1_areInAccord_19 : decode cX1_areInAccord 19 = .ok (.aload_n 0, 1) := by decide +kernel
theorem dX1_areInAccord_20 : decode cX1_areInAccord 20 = .ok (.getfield 10, 3) := by decide +kernel
theorem dX1_areInAccord_23 : decode cX1_areInAccord 23 = .ok (.getfield 42, 3) := by decide +kernel
theorem dX1_areInAccord_26 : decode cX1_areInAccord 26 = .ok (.iload_n 2, 1) := by decide +kernel
theorem dX1_areInAccord_27 : decode cX1_areInAccord 27 = .ok (.iaload, 1) := by decide +kernel
theorem dX1_areInAccord_28 : decode cX1_areInAccord 28 = .ok (.invokestatic 99, 3) := by decide +kernel
theorem dX1_areInAccord_31 : decode cX1_areInAccord 31 = .ok (.ireturn, 1) := by decide +kernel
theorem dX1_harmony_0 : decode cX1_harmony 0 = .ok (.aload_n 0, 1) := by decide +kernel
theorem dX1_harmony_1 : decode cX1_harmony 1 = .ok (.getfield 10, 3) := by decide +kernel
theorem dX1_harmony_4 : decode cX1_harmony 4 = .ok (.invokevirtual 103, 3) := by decide +kernel
theorem dX1_harmony_7 : decode cX1_harmony 7 = .ok (.ireturn, 1) := by decide +kernel
theorem dX1_clashes_0 : decode cX1_clashes 0 = .ok (.aload_n 0, 1) := by decide +kernel
theorem dX1_clashes_1 : decode cX1_clashes 1 = .ok (.getfield 10, 3) := by decide +kernel
theorem dX1_clashes_4 : decode cX1_clashes 4 = .ok (.invokevirtual 106, 3) := by decide +kernel
theorem dX1_clashes_7 : decode cX1_clashes 7 = .ok (.ireturn, 1) := by decide +kernel
theorem dX1_clashesOf_0 : decode cX1_clashesOf 0 = .ok (.aload_n 0, 1) := by decide +kernel
theorem dX1_clashesOf_1 : decode cX1_clashesOf 1 = .ok (.iload_n 1, 1) := by decide +kernel
theorem dX1_clashesOf_2 : decode cX1_clashesOf 2 = .ok (.invokevirtual 38, 3) := by decide +kernel
theorem dX1_clashesOf_5 : decode cX1_clashesOf 5 = .ok (.aload_n 0, 1) := by decide +kernel
theorem dX1_clashesOf_6 : decode cX1_clashesOf 6 = .ok (.getfield 10, 3) := by decide +kernel
theorem dX1_clashesOf_9 : decode cX1_clashesOf 9 = .ok (.iload_n 1, 1) := by decide +kernel
theorem dX1_clashesOf_10 : decode cX1_clashesOf 10 = .ok (.invokevirtual 76, 3) := by decide +kernel
theorem dX1_clashesOf_13 : decode cX1_clashesOf 13 = .ok (.ifCond .eq 23, 3) := by decide +kernel
theorem dX1_clashesOf_16 : decode cX1_clashesOf 16 = .ok (.aload_n 0, 1) := by decide +kernel
theorem dX1_clashesOf_17 : decode cX1_clashesOf 17 = .ok (.getfield 10, 3) := by decide +kernel
theorem dX1_clashesOf_20 : decode cX1_clashesOf 20 = .ok (.iload_n 1, 1) := by decide +kernel
theorem dX1_clashesOf_21 : decode cX1_clashesOf 21 = .ok (.aload_n 0, 1) := by decide +kernel
theorem dX1_clashesOf_22 : decode cX1_clashesOf 22 = .ok (.getfield 10, 3) := by decide +kernel
theorem dX1_clashesOf_25 : decode cX1_clashesOf 25 = .ok (.getfield 42, 3) := by decide +kernel
theorem dX1_clashesOf_28 : decode cX1_clashesOf 28 = .ok (.iload_n 1, 1) := by decide +kernel
theorem dX1_clashesOf_29 : decode cX1_clashesOf 29 = .ok (.iaload, 1) := by decide +kernel
theorem dX1_clashesOf_30 : decode cX1_clashesOf 30 = .ok (.invokevirtual 109, 3) := by decide +kernel
theorem dX1_clashesOf_33 : decode cX1_clashesOf 33 = .ok (.goto 4, 3) := by decide +kernel
theorem dX1_clashesOf_36 : decode cX1_clashesOf 36 = .ok (.iconst 0, 1) := by decide +kernel
theorem dX1_clashesOf_37 : decode cX1_clashesOf 37 = .ok (.ireturn, 1) := by decide +kernel
theorem dX1_harshest_0 : decode cX1_harshest 0 = .ok (.aload_n 0, 1) := by decide +kernel
theorem dX1_harshest_1 : decode cX1_harshest 1 = .ok (.getfield 10, 3) := by decide +kernel
theorem dX1_harshest_4 : decode cX1_harshest 4 = .ok (.invokevirtual 106, 3) := by decide +kernel
theorem dX1_harshest_7 : decode cX1_harshest 7 = .ok (.ifCond .le 13, 3) := by decide +kernel
theorem dX1_harshest_10 : decode cX1_harshest 10 = .ok (.aload_n 0, 1) := by decide +kernel
theorem dX1_harshest_11 : decode cX1_harshest 11 = .ok (.getfield 10, 3) := by decide +kernel
theorem dX1_harshest_14 : decode cX1_harshest 14 = .ok (.invokevirtual 112, 3) := by decide +kernel
theorem dX1_harshest_17 : decode cX1_harshest 17 = .ok (.goto 4, 3) := by decide +kernel
theorem dX1_harshest_20 : decode cX1_harshest 20 = .ok (.iconst (-1), 1) := by decide +kernel
theorem dX1_harshest_21 : decode cX1_harshest 21 = .ok (.ireturn, 1) := by decide +kernel
theorem dX1_lowest_0 : decode cX1_lowest 0 = .ok (.aload_n 0, 1) := by decide +kernel
theorem dX1_lowest_1 : decode cX1_lowest 1 = .ok (.getfield 10, 3) := by decide +kernel
theorem dX1_lowest_4 : decode cX1_lowest 4 = .ok (.invokevirtual 115, 3) := by decide +kernel
theorem dX1_lowest_7 : decode cX1_lowest 7 = .ok (.ireturn, 1) := by decide +kernel
theorem dX1_isClear_0 : decode cX1_isClear 0 = .ok (.aload_n 0, 1) := by decide +kernel
theorem dX1_isClear_1 : decode cX1_isClear 1 = .ok (.getfield 10, 3) := by decide +kernel
theorem dX1_isClear_4 : decode cX1_isClear 4 = .ok (.invokevirtual 118, 3) := by decide +kernel
theorem dX1_isClear_7 : decode cX1_isClear 7 = .ok (.ireturn, 1) := by decide +kernel
theorem dX1_cadences_0 : decode cX1_cadences 0 = .ok (.aload_n 0, 1) := by decide +kernel
theorem dX1_cadences_1 : decode cX1_cadences 1 = .ok (.getfield 10, 3) := by decide +kernel
theorem dX1_cadences_4 : decode cX1_cadences 4 = .ok (.getfield 67, 3) := by decide +kernel
theorem dX1_cadences_7 : decode cX1_cadences 7 = .ok (.ireturn, 1) := by decide +kernel
theorem dX1_bestTuning_0 : decode cX1_bestTuning 0 = .ok (.aload_n 0, 1) := by decide +kernel
theorem dX1_bestTuning_1 : decode cX1_bestTuning 1 = .ok (.iload_n 1, 1) := by decide +kernel
theorem dX1_bestTuning_2 : decode cX1_bestTuning 2 = .ok (.invokevirtual 38, 3) := by decide +kernel
theorem dX1_bestTuning_5 : decode cX1_bestTuning 5 = .ok (.aload_n 0, 1) := by decide +kernel
theorem dX1_bestTuning_6 : decode cX1_bestTuning 6 = .ok (.getfield 10, 3) := by decide +kernel
theorem dX1_bestTuning_9 : decode cX1_bestTuning 9 = .ok (.iload_n 1, 1) := by decide +kernel
theorem dX1_bestTuning_10 : decode cX1_bestTuning 10 = .ok (.invokevirtual 76, 3) := by decide +kernel
theorem dX1_bestTuning_13 : decode cX1_bestTuning 13 = .ok (.ifCond .eq 14, 3) := by decide +kernel
theorem dX1_bestTuning_16 : decode cX1_bestTuning 16 = .ok (.aload_n 0, 1) := by decide +kernel
theorem dX1_bestTuning_17 : decode cX1_bestTuning 17 = .ok (.getfield 10, 3) := by decide +kernel
theorem dX1_bestTuning_20 : decode cX1_bestTuning 20 = .ok (.iload_n 1, 1) := by decide +kernel
theorem dX1_bestTuning_21 : decode cX1_bestTuning 21 = .ok (.invokevirtual 122, 3) := by decide +kernel
theorem dX1_bestTuning_24 : decode cX1_bestTuning 24 = .ok (.goto 4, 3) := by decide +kernel
theorem dX1_bestTuning_27 : decode cX1_bestTuning 27 = .ok (.iconst 0, 1) := by decide +kernel
theorem dX1_bestTuning_28 : decode cX1_bestTuning 28 = .ok (.ireturn, 1) := by decide +kernel
theorem dX1_bestToMute_0 : decode cX1_bestToMute 0 = .ok (.aload_n 0, 1) := by decide +kernel
theorem dX1_bestToMute_1 : decode cX1_bestToMute 1 = .ok (.getfield 10, 3) := by decide +kernel
theorem dX1_bestToMute_4 : decode cX1_bestToMute 4 = .ok (.invokevirtual 112, 3) := by decide +kernel
theorem dX1_bestToMute_7 : decode cX1_bestToMute 7 = .ok (.ireturn, 1) := by decide +kernel
theorem dX1_harmonyIn_0 : decode cX1_harmonyIn 0 = .ok (.iload_n 1, 1) := by decide +kernel
theorem dX1_harmonyIn_1 : decode cX1_harmonyIn 1 = .ok (.iconst 1, 1) := by decide +kernel
theorem dX1_harmonyIn_2 : decode cX1_harmonyIn 2 = .ok (.bipush 60, 2) := by decide +kernel
theorem dX1_harmonyIn_4 : decode cX1_harmonyIn 4 = .ok (.invokestatic 19, 3) := by decide +kernel
theorem dX1_harmonyIn_7 : decode cX1_harmonyIn 7 = .ok (.aload_n 0, 1) := by decide +kernel
theorem dX1_harmonyIn_8 : decode cX1_harmonyIn 8 = .ok (.getfield 16, 3) := by decide +kernel
theorem dX1_harmonyIn_11 : decode cX1_harmonyIn 11 = .ok (.aload_n 0, 1) := by decide +kernel
theorem dX1_harmonyIn_12 : decode cX1_harmonyIn 12 = .ok (.getfield 10, 3) := by decide +kernel
theorem dX1_harmonyIn_15 : decode cX1_harmonyIn 15 = .ok (.invokevirtual 125, 3) := by decide +kernel
theorem dX1_harmonyIn_18 : decode cX1_harmonyIn 18 = .ok (.aload_n 0, 1) := by decide +kernel
theorem dX1_harmonyIn_19 : decode cX1_harmonyIn 19 = .ok (.getfield 16, 3) := by decide +kernel
theorem dX1_harmonyIn_22 : decode cX1_harmonyIn 22 = .ok (.iload_n 1, 1) := by decide +kernel
theorem dX1_harmonyIn_23 : decode cX1_harmonyIn 23 = .ok (.invokevirtual 70, 3) := by decide +kernel
theorem dX1_harmonyIn_26 : decode cX1_harmonyIn 26 = .ok (.aload_n 0, 1) := by decide +kernel
theorem dX1_harmonyIn_27 : decode cX1_harmonyIn 27 = .ok (.getfield 16, 3) := by decide +kernel
theorem dX1_harmonyIn_30 : decode cX1_harmonyIn 30 = .ok (.invokevirtual 103, 3) := by decide +kernel
theorem dX1_harmonyIn_33 : decode cX1_harmonyIn 33 = .ok (.ireturn, 1) := by decide +kernel
theorem dX1_beatsUntilSilence_0 : decode cX1_beatsUntilSilence 0 = .ok (.aload_n 0, 1) := by decide +kernel
theorem dX1_beatsUntilSilence_1 : decode cX1_beatsUntilSilence 1 = .ok (.getfield 16, 3) := by decide +kernel
theorem dX1_beatsUntilSilence_4 : decode cX1_beatsUntilSilence 4 = .ok (.aload_n 0, 1) := by decide +kernel
theorem dX1_beatsUntilSilence_5 : decode cX1_beatsUntilSilence 5 = .ok (.getfield 10, 3) := by decide +kernel
theorem dX1_beatsUntilSilence_8 : decode cX1_beatsUntilSilence 8 = .ok (.invokevirtual 125, 3) := by decide +kernel
theorem dX1_beatsUntilSilence_11 : decode cX1_beatsUntilSilence 11 = .ok (.iconst 0, 1) := by decide +kernel
theorem dX1_beatsUntilSilence_12 : decode cX1_beatsUntilSilence 12 = .ok (.istore_n 1, 1) := by decide +kernel
theorem dX1_beatsUntilSilence_13 : decode cX1_beatsUntilSilence 13 = .ok (.iload_n 1, 1) := by decide +kernel
theorem dX1_beatsUntilSilence_14 : decode cX1_beatsUntilSilence 14 = .ok (.bipush 20, 2) := by decide +kernel
theorem dX1_beatsUntilSilence_16 : decode cX1_beatsUntilSilence 16 = .ok (.if_icmp .ge 26, 3) := by decide +kernel
theorem dX1_beatsUntilSilence_19 : decode cX1_beatsUntilSilence 19 = .ok (.aload_n 0, 1) := by decide +kernel
theorem dX1_beatsUntilSilence_20 : decode cX1_beatsUntilSilence 20 = .ok (.getfield 16, 3) := by decide +kernel
theorem dX1_beatsUntilSilence_23 : decode cX1_beatsUntilSilence 23 = .ok (.invokevirtual 92, 3) := by decide +kernel
theorem dX1_beatsUntilSilence_26 : decode cX1_beatsUntilSilence 26 = .ok (.ifCond .le 16, 3) := by decide +kernel
theorem dX1_beatsUntilSilence_29 : decode cX1_beatsUntilSilence 29 = .ok (.aload_n 0, 1) := by decide +kernel
theorem dX1_beatsUntilSilence_30 : decode cX1_beatsUntilSilence 30 = .ok (.getfield 16, 3) := by decide +kernel
theorem dX1_beatsUntilSilence_33 : decode cX1_beatsUntilSilence 33 = .ok (.invokevirtual 129, 3) := by decide +kernel
theorem dX1_beatsUntilSilence_36 : decode cX1_beatsUntilSilence 36 = .ok (.iinc 1 1, 3) := by decide +kernel
theorem dX1_beatsUntilSilence_39 : decode cX1_beatsUntilSilence 39 = .ok (.goto (-26), 3) := by decide +kernel
theorem dX1_beatsUntilSilence_42 : decode cX1_beatsUntilSilence 42 = .ok (.iload_n 1, 1) := by decide +kernel
theorem dX1_beatsUntilSilence_43 : decode cX1_beatsUntilSilence 43 = .ok (.ireturn, 1) := by decide +kernel
theorem dX1_beatsUntilCadence_0 : decode cX1_beatsUntilCadence 0 = .ok (.aload_n 0, 1) := by decide +kernel
theorem dX1_beatsUntilCadence_1 : decode cX1_beatsUntilCadence 1 = .ok (.getfield 16, 3) := by decide +kernel
theorem dX1_beatsUntilCadence_4 : decode cX1_beatsUntilCadence 4 = .ok (.aload_n 0, 1) := by decide +kernel
theorem dX1_beatsUntilCadence_5 : decode cX1_beatsUntilCadence 5 = .ok (.getfield 10, 3) := by decide +kernel
theorem dX1_beatsUntilCadence_8 : decode cX1_beatsUntilCadence 8 = .ok (.invokevirtual 125, 3) := by decide +kernel
theorem dX1_beatsUntilCadence_11 : decode cX1_beatsUntilCadence 11 = .ok (.iconst 1, 1) := by decide +kernel
theorem dX1_beatsUntilCadence_12 : decode cX1_beatsUntilCadence 12 = .ok (.istore_n 1, 1) := by decide +kernel
theorem dX1_beatsUntilCadence_13 : decode cX1_beatsUntilCadence 13 = .ok (.iload_n 1, 1) := by decide +kernel
theorem dX1_beatsUntilCadence_14 : decode cX1_beatsUntilCadence 14 = .ok (.bipush 60, 2) := by decide +kernel
theorem dX1_beatsUntilCadence_16 : decode cX1_beatsUntilCadence 16 = .ok (.if_icmp .gt 35, 3) := by decide +kernel
theorem dX1_beatsUntilCadence_19 : decode cX1_beatsUntilCadence 19 = .ok (.aload_n 0, 1) := by decide +kernel
theorem dX1_beatsUntilCadence_20 : decode cX1_beatsUntilCadence 20 = .ok (.getfield 16, 3) := by decide +kernel
theorem dX1_beatsUntilCadence_23 : decode cX1_beatsUntilCadence 23 = .ok (.invokevirtual 129, 3) := by decide +kernel
theorem dX1_beatsUntilCadence_26 : decode cX1_beatsUntilCadence 26 = .ok (.aload_n 0, 1) := by decide +kernel
theorem dX1_beatsUntilCadence_27 : decode cX1_beatsUntilCadence 27 = .ok (.getfield 16, 3) := by decide +kernel
theorem dX1_beatsUntilCadence_30 : decode cX1_beatsUntilCadence 30 = .ok (.getfield 67, 3) := by decide +kernel
theorem dX1_beatsUntilCadence_33 : decode cX1_beatsUntilCadence 33 = .ok (.aload_n 0, 1) := by decide +kernel
theorem dX1_beatsUntilCadence_34 : decode cX1_beatsUntilCadence 34 = .ok (.getfield 10, 3) := by decide +kernel
theorem dX1_beatsUntilCadence_37 : decode cX1_beatsUntilCadence 37 = .ok (.getfield 67, 3) := by decide +kernel
theorem dX1_beatsUntilCadence_40 : decode cX1_beatsUntilCadence 40 = .ok (.if_icmp .le 5, 3) := by decide +kernel
theorem dX1_beatsUntilCadence_43 : decode cX1_beatsUntilCadence 43 = .ok (.iload_n 1, 1) := by decide +kernel
theorem dX1_beatsUntilCadence_44 : decode cX1_beatsUntilCadence 44 = .ok (.ireturn, 1) := by decide +kernel
theorem dX1_beatsUntilCadence_45 : decode cX1_beatsUntilCadence 45 = .ok (.iinc 1 1, 3) := by decide +kernel
theorem dX1_beatsUntilCadence_48 : decode cX1_beatsUntilCadence 48 = .ok (.goto (-35), 3) := by decide +kernel
theorem dX1_beatsUntilCadence_51 : decode cX1_beatsUntilCadence 51 = .ok (.iconst (-1), 1) := by decide +kernel
theorem dX1_beatsUntilCadence_52 : decode cX1_beatsUntilCadence 52 = .ok (.ireturn, 1) := by decide +kernel
theorem dX1_greatestAccord_0 : decode cX1_greatestAccord 0 = .ok (.aload_n 0, 1) := by decide +kernel
theorem dX1_greatestAccord_1 : decode cX1_greatestAccord 1 = .ok (.getfield 10, 3) := by decide +kernel
theorem dX1_greatestAccord_4 : decode cX1_greatestAccord 4 = .ok (.invokevirtual 132, 3) := by decide +kernel
theorem dX1_greatestAccord_7 : decode cX1_greatestAccord 7 = .ok (.ireturn, 1) := by decide +kernel
theorem dX1_meanPitch_0 : decode cX1_meanPitch 0 = .ok (.aload_n 0, 1) := by decide +kernel
theorem dX1_meanPitch_1 : decode cX1_meanPitch 1 = .ok (.getfield 10, 3) := by decide +kernel
theorem dX1_meanPitch_4 : decode cX1_meanPitch 4 = .ok (.invokevirtual 135, 3) := by decide +kernel
theorem dX1_meanPitch_7 : decode cX1_meanPitch 7 = .ok (.dreturn, 1) := by decide +kernel
theorem dX1_digest_0 : decode cX1_digest 0 = .ok (.ldc2_w 139, 3) := by decide +kernel
theorem dX1_digest_3 : decode cX1_digest 3 = .ok (.lstore_n 1, 1) := by decide +kernel
theorem dX1_digest_4 : decode cX1_digest 4 = .ok (.lload_n 1, 1) := by decide +kernel
theorem dX1_digest_5 : decode cX1_digest 5 = .ok (.ldc2_w 141, 3) := by decide +kernel
theorem dX1_digest_8 : decode cX1_digest 8 = .ok (.lmul, 1) := by decide +kernel
theorem dX1_digest_9 : decode cX1_digest 9 = .ok (.aload_n 0, 1) := by decide +kernel
theorem dX1_digest_10 : decode cX1_digest 10 = .ok (.invokevirtual 143, 3) := by decide +kernel
theorem dX1_digest_13 : decode cX1_digest 13 = .ok (.i2l, 1) := by decide +kernel
theorem dX1_digest_14 : decode cX1_digest 14 = .ok (.ladd, 1) := by decide +kernel
theorem dX1_digest_15 : decode cX1_digest 15 = .ok (.lstore_n 1, 1) := by decide +kernel
theorem dX1_digest_16 : decode cX1_digest 16 = .ok (.lload_n 1, 1) := by decide +kernel
theorem dX1_digest_17 : decode cX1_digest 17 = .ok (.ldc2_w 141, 3) := by decide +kernel
theorem dX1_digest_20 : decode cX1_digest 20 = .ok (.lmul, 1) := by decide +kernel
theorem dX1_digest_21 : decode cX1_digest 21 = .ok (.aload_n 0, 1) := by decide +kernel
theorem dX1_digest_22 : decode cX1_digest 22 = .ok (.invokevirtual 146, 3) := by decide +kernel
theorem dX1_digest_25 : decode cX1_digest 25 = .ok (.i2l, 1) := by decide +kernel
theorem dX1_digest_26 : decode cX1_digest 26 = .ok (.ladd, 1) := by decide +kernel
theorem dX1_digest_27 : decode cX1_digest 27 = .ok (.lstore_n 1, 1) := by decide +kernel
theorem dX1_digest_28 : decode cX1_digest 28 = .ok (.lload_n 1, 1) := by decide +kernel
theorem dX1_digest_29 : decode cX1_digest 29 = .ok (.ldc2_w 141, 3) := by decide +kernel
theorem dX1_digest_32 : decode cX1_digest 32 = .ok (.lmul, 1) := by decide +kernel
theorem dX1_digest_33 : decode cX1_digest 33 = .ok (.aload_n 0, 1) := by decide +kernel
theorem dX1_digest_34 : decode cX1_digest 34 = .ok (.invokevirtual 149, 3) := by decide +kernel
theorem dX1_digest_37 : decode cX1_digest 37 = .ok (.i2l, 1) := by decide +kernel
theorem dX1_digest_38 : decode cX1_digest 38 = .ok (.ladd, 1) := by decide +kernel
theorem dX1_digest_39 : decode cX1_digest 39 = .ok (.lstore_n 1, 1) := by decide +kernel
theorem dX1_digest_40 : decode cX1_digest 40 = .ok (.lload_n 1, 1) := by decide +kernel
theorem dX1_digest_41 : decode cX1_digest 41 = .ok (.ldc2_w 141, 3) := by decide +kernel
theorem dX1_digest_44 : decode cX1_digest 44 = .ok (.lmul, 1) := by decide +kernel
theorem dX1_digest_45 : decode cX1_digest 45 = .ok (.aload_n 0, 1) := by decide +kernel
theorem dX1_digest_46 : decode cX1_digest 46 = .ok (.invokevirtual 152, 3) := by decide +kernel
theorem dX1_digest_49 : decode cX1_digest 49 = .ok (.i2l, 1) := by decide +kernel
theorem dX1_digest_50 : decode cX1_digest 50 = .ok (.ladd, 1) := by decide +kernel
theorem dX1_digest_51 : decode cX1_digest 51 = .ok (.lstore_n 1, 1) := by decide +kernel
theorem dX1_digest_52 : decode cX1_digest 52 = .ok (.lload_n 1, 1) := by decide +kernel
theorem dX1_digest_53 : decode cX1_digest 53 = .ok (.ldc2_w 141, 3) := by decide +kernel
theorem dX1_digest_56 : decode cX1_digest 56 = .ok (.lmul, 1) := by decide +kernel
theorem dX1_digest_57 : decode cX1_digest 57 = .ok (.aload_n 0, 1) := by decide +kernel
theorem dX1_digest_58 : decode cX1_digest 58 = .ok (.invokevirtual 155, 3) := by decide +kernel
theorem dX1_digest_61 : decode cX1_digest 61 = .ok (.i2l, 1) := by decide +kernel
theorem dX1_digest_62 : decode cX1_digest 62 = .ok (.ladd, 1) := by decide +kernel
theorem dX1_digest_63 : decode cX1_digest 63 = .ok (.lstore_n 1, 1) := by decide +kernel
theorem dX1_digest_64 : decode cX1_digest 64 = .ok (.lload_n 1, 1) := by decide +kernel
theorem dX1_digest_65 : decode cX1_digest 65 = .ok (.ldc2_w 141, 3) := by decide +kernel
theorem dX1_digest_68 : decode cX1_digest 68 = .ok (.lmul, 1) := by decide +kernel
theorem dX1_digest_69 : decode cX1_digest 69 = .ok (.aload_n 0, 1) := by decide +kernel
theorem dX1_digest_70 : decode cX1_digest 70 = .ok (.invokevirtual 158, 3) := by decide +kernel
theorem dX1_digest_73 : decode cX1_digest 73 = .ok (.i2l, 1) := by decide +kernel
theorem dX1_digest_74 : decode cX1_digest 74 = .ok (.ladd, 1) := by decide +kernel
theorem dX1_digest_75 : decode cX1_digest 75 = .ok (.lstore_n 1, 1) := by decide +kernel
theorem dX1_digest_76 : decode cX1_digest 76 = .ok (.lload_n 1, 1) := by decide +kernel
theorem dX1_digest_77 : decode cX1_digest 77 = .ok (.ldc2_w 141, 3) := by decide +kernel
theorem dX1_digest_80 : decode cX1_digest 80 = .ok (.lmul, 1) := by decide +kernel
theorem dX1_digest_81 : decode cX1_digest 81 = .ok (.aload_n 0, 1) := by decide +kernel
theorem dX1_digest_82 : decode cX1_digest 82 = .ok (.invokevirtual 161, 3) := by decide +kernel
theorem dX1_digest_85 : decode cX1_digest 85 = .ok (.i2l, 1) := by decide +kernel
theorem dX1_digest_86 : decode cX1_digest 86 = .ok (.ladd, 1) := by decide +kernel
theorem dX1_digest_87 : decode cX1_digest 87 = .ok (.lstore_n 1, 1) := by decide +kernel
theorem dX1_digest_88 : decode cX1_digest 88 = .ok (.lload_n 1, 1) := by decide +kernel
theorem dX1_digest_89 : decode cX1_digest 89 = .ok (.ldc2_w 141, 3) := by decide +kernel
theorem dX1_digest_92 : decode cX1_digest 92 = .ok (.lmul, 1) := by decide +kernel
theorem dX1_digest_93 : decode cX1_digest 93 = .ok (.aload_n 0, 1) := by decide +kernel
theorem dX1_digest_94 : decode cX1_digest 94 = .ok (.invokevirtual 164, 3) := by decide +kernel
theorem dX1_digest_97 : decode cX1_digest 97 = .ok (.ifCond .eq 7, 3) := by decide +kernel
theorem dX1_digest_100 : decode cX1_digest 100 = .ok (.iconst 1, 1) := by decide +kernel
theorem dX1_digest_101 : decode cX1_digest 101 = .ok (.goto 4, 3) := by decide +kernel
theorem dX1_digest_104 : decode cX1_digest 104 = .ok (.iconst 0, 1) := by decide +kernel
theorem dX1_digest_105 : decode cX1_digest 105 = .ok (.i2l, 1) := by decide +kernel
theorem dX1_digest_106 : decode cX1_digest 106 = .ok (.ladd, 1) := by decide +kernel
theorem dX1_digest_107 : decode cX1_digest 107 = .ok (.lstore_n 1, 1) := by decide +kernel
theorem dX1_digest_108 : decode cX1_digest 108 = .ok (.lload_n 1, 1) := by decide +kernel
theorem dX1_digest_109 : decode cX1_digest 109 = .ok (.ldc2_w 141, 3) := by decide +kernel
theorem dX1_digest_112 : decode cX1_digest 112 = .ok (.lmul, 1) := by decide +kernel
theorem dX1_digest_113 : decode cX1_digest 113 = .ok (.aload_n 0, 1) := by decide +kernel
theorem dX1_digest_114 : decode cX1_digest 114 = .ok (.invokevirtual 167, 3) := by decide +kernel
theorem dX1_digest_117 : decode cX1_digest 117 = .ok (.i2l, 1) := by decide +kernel
theorem dX1_digest_118 : decode cX1_digest 118 = .ok (.ladd, 1) := by decide +kernel
theorem dX1_digest_119 : decode cX1_digest 119 = .ok (.lstore_n 1, 1) := by decide +kernel
theorem dX1_digest_120 : decode cX1_digest 120 = .ok (.lload_n 1, 1) := by decide +kernel
theorem dX1_digest_121 : decode cX1_digest 121 = .ok (.ldc2_w 141, 3) := by decide +kernel
theorem dX1_digest_124 : decode cX1_digest 124 = .ok (.lmul, 1) := by decide +kernel
theorem dX1_digest_125 : decode cX1_digest 125 = .ok (.aload_n 0, 1) := by decide +kernel
theorem dX1_digest_126 : decode cX1_digest 126 = .ok (.invokevirtual 170, 3) := by decide +kernel
theorem dX1_digest_129 : decode cX1_digest 129 = .ok (.i2l, 1) := by decide +kernel
theorem dX1_digest_130 : decode cX1_digest 130 = .ok (.ladd, 1) := by decide +kernel
theorem dX1_digest_131 : decode cX1_digest 131 = .ok (.lstore_n 1, 1) := by decide +kernel
theorem dX1_digest_132 : decode cX1_digest 132 = .ok (.lload_n 1, 1) := by decide +kernel
theorem dX1_digest_133 : decode cX1_digest 133 = .ok (.ldc2_w 141, 3) := by decide +kernel
theorem dX1_digest_136 : decode cX1_digest 136 = .ok (.lmul, 1) := by decide +kernel
theorem dX1_digest_137 : decode cX1_digest 137 = .ok (.aload_n 0, 1) := by decide +kernel
theorem dX1_digest_138 : decode cX1_digest 138 = .ok (.invokevirtual 173, 3) := by decide +kernel
theorem dX1_digest_141 : decode cX1_digest 141 = .ok (.i2l, 1) := by decide +kernel
theorem dX1_digest_142 : decode cX1_digest 142 = .ok (.ladd, 1) := by decide +kernel
theorem dX1_digest_143 : decode cX1_digest 143 = .ok (.lstore_n 1, 1) := by decide +kernel
theorem dX1_digest_144 : decode cX1_digest 144 = .ok (.lload_n 1, 1) := by decide +kernel
theorem dX1_digest_145 : decode cX1_digest 145 = .ok (.ldc2_w 141, 3) := by decide +kernel
theorem dX1_digest_148 : decode cX1_digest 148 = .ok (.lmul, 1) := by decide +kernel
theorem dX1_digest_149 : decode cX1_digest 149 = .ok (.aload_n 0, 1) := by decide +kernel
theorem dX1_digest_150 : decode cX1_digest 150 = .ok (.invokevirtual 176, 3) := by decide +kernel
theorem dX1_digest_153 : decode cX1_digest 153 = .ok (.i2l, 1) := by decide +kernel
theorem dX1_digest_154 : decode cX1_digest 154 = .ok (.ladd, 1) := by decide +kernel
theorem dX1_digest_155 : decode cX1_digest 155 = .ok (.lstore_n 1, 1) := by decide +kernel
theorem dX1_digest_156 : decode cX1_digest 156 = .ok (.lload_n 1, 1) := by decide +kernel
theorem dX1_digest_157 : decode cX1_digest 157 = .ok (.ldc2_w 141, 3) := by decide +kernel
theorem dX1_digest_160 : decode cX1_digest 160 = .ok (.lmul, 1) := by decide +kernel
theorem dX1_digest_161 : decode cX1_digest 161 = .ok (.aload_n 0, 1) := by decide +kernel
theorem dX1_digest_162 : decode cX1_digest 162 = .ok (.invokevirtual 179, 3) := by decide +kernel
theorem dX1_digest_165 : decode cX1_digest 165 = .ok (.i2l, 1) := by decide +kernel
theorem dX1_digest_166 : decode cX1_digest 166 = .ok (.ladd, 1) := by decide +kernel
theorem dX1_digest_167 : decode cX1_digest 167 = .ok (.lstore_n 1, 1) := by decide +kernel
theorem dX1_digest_168 : decode cX1_digest 168 = .ok (.iconst 0, 1) := by decide +kernel
theorem dX1_digest_169 : decode cX1_digest 169 = .ok (.istore_n 3, 1) := by decide +kernel
theorem dX1_digest_170 : decode cX1_digest 170 = .ok (.iload_n 3, 1) := by decide +kernel
theorem dX1_digest_171 : decode cX1_digest 171 = .ok (.aload_n 0, 1) := by decide +kernel
theorem dX1_digest_172 : decode cX1_digest 172 = .ok (.getfield 10, 3) := by decide +kernel
theorem dX1_digest_175 : decode cX1_digest 175 = .ok (.getfield 23, 3) := by decide +kernel
theorem dX1_digest_178 : decode cX1_digest 178 = .ok (.if_icmp .ge 16, 3) := by decide +kernel
theorem dX1_digest_181 : decode cX1_digest 181 = .ok (.aload_n 0, 1) := by decide +kernel
theorem dX1_digest_182 : decode cX1_digest 182 = .ok (.lload_n 1, 1) := by decide +kernel
theorem dX1_digest_183 : decode cX1_digest 183 = .ok (.iload_n 3, 1) := by decide +kernel
theorem dX1_digest_184 : decode cX1_digest 184 = .ok (.invokevirtual 182, 3) := by decide +kernel
theorem dX1_digest_187 : decode cX1_digest 187 = .ok (.lstore_n 1, 1) := by decide +kernel
theorem dX1_digest_188 : decode cX1_digest 188 = .ok (.iinc 3 1, 3) := by decide +kernel
theorem dX1_digest_191 : decode cX1_digest 191 = .ok (.goto (-21), 3) := by decide +kernel
theorem dX1_digest_194 : decode cX1_digest 194 = .ok (.lload_n 1, 1) := by decide +kernel
theorem dX1_digest_195 : decode cX1_digest 195 = .ok (.lreturn, 1) := by decide +kernel
theorem dX1_digestPot_0 : decode cX1_digestPot 0 = .ok (.lload_n 1, 1) := by decide +kernel
theorem dX1_digestPot_1 : decode cX1_digestPot 1 = .ok (.lstore 4, 2) := by decide +kernel
theorem dX1_digestPot_3 : decode cX1_digestPot 3 = .ok (.lload 4, 2) := by decide +kernel
theorem dX1_digestPot_5 : decode cX1_digestPot 5 = .ok (.ldc2_w 141, 3) := by decide +kernel
theorem dX1_digestPot_8 : decode cX1_digestPot 8 = .ok (.lmul, 1) := by decide +kernel
theorem dX1_digestPot_9 : decode cX1_digestPot 9 = .ok (.aload_n 0, 1) := by decide +kernel
theorem dX1_digestPot_10 : decode cX1_digestPot 10 = .ok (.iload_n 3, 1) := by decide +kernel
theorem dX1_digestPot_11 : decode cX1_digestPot 11 = .ok (.invokevirtual 186, 3) := by decide +kernel
theorem dX1_digestPot_14 : decode cX1_digestPot 14 = .ok (.i2l, 1) := by decide +kernel
theorem dX1_digestPot_15 : decode cX1_digestPot 15 = .ok (.ladd, 1) := by decide +kernel
theorem dX1_digestPot_16 : decode cX1_digestPot 16 = .ok (.lstore 4, 2) := by decide +kernel
theorem dX1_digestPot_18 : decode cX1_digestPot 18 = .ok (.lload 4, 2) := by decide +kernel
theorem dX1_digestPot_20 : decode cX1_digestPot 20 = .ok (.ldc2_w 141, 3) := by decide +kernel
theorem dX1_digestPot_23 : decode cX1_digestPot 23 = .ok (.lmul, 1) := by decide +kernel
theorem dX1_digestPot_24 : decode cX1_digestPot 24 = .ok (.aload_n 0, 1) := by decide +kernel
theorem dX1_digestPot_25 : decode cX1_digestPot 25 = .ok (.iload_n 3, 1) := by decide +kernel
theorem dX1_digestPot_26 : decode cX1_digestPot 26 = .ok (.invokevirtual 189, 3) := by decide +kernel
theorem dX1_digestPot_29 : decode cX1_digestPot 29 = .ok (.i2l, 1) := by decide +kernel
theorem dX1_digestPot_30 : decode cX1_digestPot 30 = .ok (.ladd, 1) := by decide +kernel
theorem dX1_digestPot_31 : decode cX1_digestPot 31 = .ok (.lstore 4, 2) := by decide +kernel
theorem dX1_digestPot_33 : decode cX1_digestPot 33 = .ok (.lload 4, 2) := by decide +kernel
theorem dX1_digestPot_35 : decode cX1_digestPot 35 = .ok (.ldc2_w 141, 3) := by decide +kernel
theorem dX1_digestPot_38 : decode cX1_digestPot 38 = .ok (.lmul, 1) := by decide +kernel
theorem dX1_digestPot_39 : decode cX1_digestPot 39 = .ok (.aload_n 0, 1) := by decide +kernel
theorem dX1_digestPot_40 : decode cX1_digestPot 40 = .ok (.iload_n 3, 1) := by decide +kernel
theorem dX1_digestPot_41 : decode cX1_digestPot 41 = .ok (.invokevirtual 192, 3) := by decide +kernel
theorem dX1_digestPot_44 : decode cX1_digestPot 44 = .ok (.i2l, 1) := by decide +kernel
theorem dX1_digestPot_45 : decode cX1_digestPot 45 = .ok (.ladd, 1) := by decide +kernel
theorem dX1_digestPot_46 : decode cX1_digestPot 46 = .ok (.lstore 4, 2) := by decide +kernel
theorem dX1_digestPot_48 : decode cX1_digestPot 48 = .ok (.lload 4, 2) := by decide +kernel
theorem dX1_digestPot_50 : decode cX1_digestPot 50 = .ok (.ldc2_w 141, 3) := by decide +kernel
theorem dX1_digestPot_53 : decode cX1_digestPot 53 = .ok (.lmul, 1) := by decide +kernel
theorem dX1_digestPot_54 : decode cX1_digestPot 54 = .ok (.aload_n 0, 1) := by decide +kernel
theorem dX1_digestPot_55 : decode cX1_digestPot 55 = .ok (.iload_n 3, 1) := by decide +kernel
theorem dX1_digestPot_56 : decode cX1_digestPot 56 = .ok (.invokevirtual 195, 3) := by decide +kernel
theorem dX1_digestPot_59 : decode cX1_digestPot 59 = .ok (.i2l, 1) := by decide +kernel
theorem dX1_digestPot_60 : decode cX1_digestPot 60 = .ok (.ladd, 1) := by decide +kernel
theorem dX1_digestPot_61 : decode cX1_digestPot 61 = .ok (.lstore 4, 2) := by decide +kernel
theorem dX1_digestPot_63 : decode cX1_digestPot 63 = .ok (.lload 4, 2) := by decide +kernel
theorem dX1_digestPot_65 : decode cX1_digestPot 65 = .ok (.ldc2_w 141, 3) := by decide +kernel
theorem dX1_digestPot_68 : decode cX1_digestPot 68 = .ok (.lmul, 1) := by decide +kernel
theorem dX1_digestPot_69 : decode cX1_digestPot 69 = .ok (.aload_n 0, 1) := by decide +kernel
theorem dX1_digestPot_70 : decode cX1_digestPot 70 = .ok (.iload_n 3, 1) := by decide +kernel
theorem dX1_digestPot_71 : decode cX1_digestPot 71 = .ok (.invokevirtual 198, 3) := by decide +kernel
theorem dX1_digestPot_74 : decode cX1_digestPot 74 = .ok (.ifCond .eq 7, 3) := by decide +kernel
theorem dX1_digestPot_77 : decode cX1_digestPot 77 = .ok (.iconst 1, 1) := by decide +kernel
theorem dX1_digestPot_78 : decode cX1_digestPot 78 = .ok (.goto 4, 3) := by decide +kernel
theorem dX1_digestPot_81 : decode cX1_digestPot 81 = .ok (.iconst 0, 1) := by decide +kernel
theorem dX1_digestPot_82 : decode cX1_digestPot 82 = .ok (.i2l, 1) := by decide +kernel
theorem dX1_digestPot_83 : decode cX1_digestPot 83 = .ok (.ladd, 1) := by decide +kernel
theorem dX1_digestPot_84 : decode cX1_digestPot 84 = .ok (.lstore 4, 2) := by decide +kernel
theorem dX1_digestPot_86 : decode cX1_digestPot 86 = .ok (.lload 4, 2) := by decide +kernel
theorem dX1_digestPot_88 : decode cX1_digestPot 88 = .ok (.ldc2_w 141, 3) := by decide +kernel
theorem dX1_digestPot_91 : decode cX1_digestPot 91 = .ok (.lmul, 1) := by decide +kernel
theorem dX1_digestPot_92 : decode cX1_digestPot 92 = .ok (.aload_n 0, 1) := by decide +kernel
theorem dX1_digestPot_93 : decode cX1_digestPot 93 = .ok (.iload_n 3, 1) := by decide +kernel
theorem dX1_digestPot_94 : decode cX1_digestPot 94 = .ok (.invokevirtual 201, 3) := by decide +kernel
theorem dX1_digestPot_97 : decode cX1_digestPot 97 = .ok (.i2l, 1) := by decide +kernel
theorem dX1_digestPot_98 : decode cX1_digestPot 98 = .ok (.ladd, 1) := by decide +kernel
theorem dX1_digestPot_99 : decode cX1_digestPot 99 = .ok (.lstore 4, 2) := by decide +kernel
theorem dX1_digestPot_101 : decode cX1_digestPot 101 = .ok (.lload 4, 2) := by decide +kernel
theorem dX1_digestPot_103 : decode cX1_digestPot 103 = .ok (.ldc2_w 141, 3) := by decide +kernel
theorem dX1_digestPot_106 : decode cX1_digestPot 106 = .ok (.lmul, 1) := by decide +kernel
theorem dX1_digestPot_107 : decode cX1_digestPot 107 = .ok (.aload_n 0, 1) := by decide +kernel
theorem dX1_digestPot_108 : decode cX1_digestPot 108 = .ok (.iload_n 3, 1) := by decide +kernel
theorem dX1_digestPot_109 : decode cX1_digestPot 109 = .ok (.invokevirtual 204, 3) := by decide +kernel
theorem dX1_digestPot_112 : decode cX1_digestPot 112 = .ok (.i2l, 1) := by decide +kernel
theorem dX1_digestPot_113 : decode cX1_digestPot 113 = .ok (.ladd, 1) := by decide +kernel
theorem dX1_digestPot_114 : decode cX1_digestPot 114 = .ok (.lstore 4, 2) := by decide +kernel
theorem dX1_digestPot_116 : decode cX1_digestPot 116 = .ok (.lload 4, 2) := by decide +kernel
theorem dX1_digestPot_118 : decode cX1_digestPot 118 = .ok (.lreturn, 1) := by decide +kernel
theorem dX1_requirePot_0 : decode cX1_requirePot 0 = .ok (.iload_n 1, 1) := by decide +kernel
theorem dX1_requirePot_1 : decode cX1_requirePot 1 = .ok (.ifCond .lt 14, 3) := by decide +kernel
theorem dX1_requirePot_4 : decode cX1_requirePot 4 = .ok (.iload_n 1, 1) := by decide +kernel
theorem dX1_requirePot_5 : decode cX1_requirePot 5 = .ok (.aload_n 0, 1) := by decide +kernel
theorem dX1_requirePot_6 : decode cX1_requirePot 6 = .ok (.getfield 10, 3) := by decide +kernel
theorem dX1_requirePot_9 : decode cX1_requirePot 9 = .ok (.getfield 23, 3) := by decide +kernel
theorem dX1_requirePot_12 : decode cX1_requirePot 12 = .ok (.if_icmp .lt 13, 3) := by decide +kernel
theorem dX1_requirePot_15 : decode cX1_requirePot 15 = .ok (.new 80, 3) := by decide +kernel
theorem dX1_requirePot_18 : decode cX1_requirePot 18 = .ok (.dup, 1) := by decide +kernel
theorem dX1_requirePot_19 : decode cX1_requirePot 19 = .ok (.ldc 207, 2) := by decide +kernel
theorem dX1_requirePot_21 : decode cX1_requirePot 21 = .ok (.invokespecial 84, 3) := by decide +kernel
theorem dX1_requirePot_24 : decode cX1_requirePot 24 = .ok (.athrow, 1) := by decide +kernel
theorem dX1_requirePot_25 : decode cX1_requirePot 25 = .ok (.return_, 1) := by decide +kernel
theorem dX1_requireWithin_0 : decode cX1_requireWithin 0 = .ok (.iload_n 0, 1) := by decide +kernel
theorem dX1_requireWithin_1 : decode cX1_requireWithin 1 = .ok (.iload_n 1, 1) := by decide +kernel
theorem dX1_requireWithin_2 : decode cX1_requireWithin 2 = .ok (.if_icmp .lt 8, 3) := by decide +kernel
theorem dX1_requireWithin_5 : decode cX1_requireWithin 5 = .ok (.iload_n 0, 1) := by decide +kernel
theorem dX1_requireWithin_6 : decode cX1_requireWithin 6 = .ok (.iload_n 2, 1) := by decide +kernel
theorem dX1_requireWithin_7 : decode cX1_requireWithin 7 = .ok (.if_icmp .le 13, 3) := by decide +kernel
theorem dX1_requireWithin_10 : decode cX1_requireWithin 10 = .ok (.new 50, 3) := by decide +kernel
theorem dX1_requireWithin_13 : decode cX1_requireWithin 13 = .ok (.dup, 1) := by decide +kernel
theorem dX1_requireWithin_14 : decode cX1_requireWithin 14 = .ok (.ldc 209, 2) := by decide +kernel
theorem dX1_requireWithin_16 : decode cX1_requireWithin 16 = .ok (.invokespecial 54, 3) := by decide +kernel
theorem dX1_requireWithin_19 : decode cX1_requireWithin 19 = .ok (.athrow, 1) := by decide +kernel
theorem dX1_requireWithin_20 : decode cX1_requireWithin 20 = .ok (.return_, 1) := by decide +kernel
theorem dX1_isAccord_0 : decode cX1_isAccord 0 = .ok (.iload_n 0, 1) := by decide +kernel
theorem dX1_isAccord_1 : decode cX1_isAccord 1 = .ok (.iload_n 1, 1) := by decide +kernel
theorem dX1_isAccord_2 : decode cX1_isAccord 2 = .ok (.isub, 1) := by decide +kernel
theorem dX1_isAccord_3 : decode cX1_isAccord 3 = .ok (.invokestatic 96, 3) := by decide +kernel
theorem dX1_isAccord_6 : decode cX1_isAccord 6 = .ok (.bipush 12, 2) := by decide +kernel
theorem dX1_isAccord_8 : decode cX1_isAccord 8 = .ok (.irem, 1) := by decide +kernel
theorem dX1_isAccord_9 : decode cX1_isAccord 9 = .ok (.tableswitch 57 0 9 #[55, 57, 57, 55, 55, 55, 57, 55, 55, 55], 55) := by decide +kernel
theorem dX1_isAccord_64 : decode cX1_isAccord 64 = .ok (.iconst 1, 1) := by decide +kernel
theorem dX1_isAccord_65 : decode cX1_isAccord 65 = .ok (.ireturn, 1) := by decide +kernel
theorem dX1_isAccord_66 : decode cX1_isAccord 66 = .ok (.iconst 0, 1) := by decide +kernel
theorem dX1_isAccord_67 : decode cX1_isAccord 67 = .ok (.ireturn, 1) := by decide +kernel
end
section
theorem dX2_init_0 : decode cX2_init 0 = .ok (.aload_n 0, 1) := by decide +kernel
theorem dX2_init_1 : decode cX2_init 1 = .ok (.invokespecial 3, 3) := by decide +kernel
theorem dX2_init_4 : decode cX2_init 4 = .ok (.aload_n 0, 1) := by decide +kernel
theorem dX2_init_5 : decode cX2_init 5 = .ok (.bipush 10, 2) := by decide +kernel
theorem dX2_init_7 : decode cX2_init 7 = .ok (.newarray .int, 2) := by decide +kernel
theorem dX2_init_9 : decode cX2_init 9 = .ok (.putfield 9, 3) := by decide +kernel
theorem dX2_init_12 : decode cX2_init 12 = .ok (.aload_n 0, 1) := by decide +kernel
theorem dX2_init_13 : decode cX2_init 13 = .ok (.bipush 33, 2) := by decide +kernel
theorem dX2_init_15 : decode cX2_init 15 = .ok (.newarray .int, 2) := by decide +kernel
theorem dX2_init_17 : decode cX2_init 17 = .ok (.putfield 13, 3) := by decide +kernel
theorem dX2_init_20 : decode cX2_init 20 = .ok (.aload_n 0, 1) := by decide +kernel
theorem dX2_init_21 : decode cX2_init 21 = .ok (.bipush 33, 2) := by decide +kernel
theorem dX2_init_23 : decode cX2_init 23 = .ok (.newarray .int, 2) := by decide +kernel
theorem dX2_init_25 : decode cX2_init 25 = .ok (.putfield 16, 3) := by decide +kernel
theorem dX2_init_28 : decode cX2_init 28 = .ok (.return_, 1) := by decide +kernel
theorem dX2_thrown_0 : decode cX2_thrown 0 = .ok (.aload_n 0, 1) := by decide +kernel
theorem dX2_thrown_1 : decode cX2_thrown 1 = .ok (.getfield 19, 3) := by decide +kernel
theorem dX2_thrown_4 : decode cX2_thrown 4 = .ok (.ireturn, 1) := by decide +kernel
theorem dX2_no_0 : decode cX2_no 0 = .ok (.aload_n 0, 1) := by decide +kernel
theorem dX2_no_1 : decode cX2_no 1 = .ok (.iload_n 1, 1) := by decide +kernel
theorem dX2_no_2 : decode cX2_no 2 = .ok (.putfield 19, 3) := by decide +kernel
theorem dX2_no_5 : decode cX2_no 5 = .ok (.iconst 0, 1) := by decide +kernel
theorem dX2_no_6 : decode cX2_no 6 = .ok (.ireturn, 1) := by decide +kernel
theorem dX2_isNot_0 : decode cX2_isNot 0 = .ok (.aload_n 0, 1) := by decide +kernel
theorem dX2_isNot_1 : decode cX2_isNot 1 = .ok (.iload_n 1, 1) := by decide +kernel
theorem dX2_isNot_2 : decode cX2_isNot 2 = .ok (.putfield 19, 3) := by decide +kernel
theorem dX2_isNot_5 : decode cX2_isNot 5 = .ok (.iconst 0, 1) := by decide +kernel
theorem dX2_isNot_6 : decode cX2_isNot 6 = .ok (.ireturn, 1) := by decide +kernel
theorem dX2_ok_0 : decode cX2_ok 0 = .ok (.aload_n 0, 1) := by decide +kernel
theorem dX2_ok_1 : decode cX2_ok 1 = .ok (.iconst 0, 1) := by decide +kernel
theorem dX2_ok_2 : decode cX2_ok 2 = .ok (.putfield 19, 3) := by decide +kernel
theorem dX2_ok_5 : decode cX2_ok 5 = .ok (.iload_n 1, 1) := by decide +kernel
theorem dX2_ok_6 : decode cX2_ok 6 = .ok (.ireturn, 1) := by decide +kernel
theorem dX2_isIn_0 : decode cX2_isIn 0 = .ok (.iload_n 0, 1) := by decide +kernel
theorem dX2_isIn_1 : decode cX2_isIn 1 = .ok (.iload_n 1, 1) := by decide +kernel
theorem dX2_isIn_2 : decode cX2_isIn 2 = .ok (.if_icmp .lt 12, 3) := by decide +kernel
theorem dX2_isIn_5 : decode cX2_isIn 5 = .ok (.iload_n 0, 1) := by decide +kernel
theorem dX2_isIn_6 : decode cX2_isIn 6 = .ok (.iload_n 2, 1) := by decide +kernel
theorem dX2_isIn_7 : decode cX2_isIn 7 = .ok (.if_icmp .gt 7, 3) := by decide +kernel
theorem dX2_isIn_10 : decode cX2_isIn 10 = .ok (.iconst 1, 1) := by decide +kernel
theorem dX2_isIn_11 : decode cX2_isIn 11 = .ok (.goto 4, 3) := by decide +kernel
theorem dX2_isIn_14 : decode cX2_isIn 14 = .ok (.iconst 0, 1) := by decide +kernel
theorem dX2_isIn_15 : decode cX2_isIn 15 = .ok (.ireturn, 1) := by decide +kernel
theorem dX2_isPot_0 : decode cX2_isPot 0 = .ok (.iload_n 1, 1) := by decide +kernel
theorem dX2_isPot_1 : decode cX2_isPot 1 = .ok (.iconst 0, 1) := by decide +kernel
theorem dX2_isPot_2 : decode cX2_isPot 2 = .ok (.aload_n 0, 1) := by decide +kernel
theorem dX2_isPot_3 : decode cX2_isPot 3 = .ok (.getfield 23, 3) := by decide +kernel
theorem dX2_isPot_6 : decode cX2_isPot 6 = .ok (.iconst 1, 1) := by decide +kernel
theorem dX2_isPot_7 : decode cX2_isPot 7 = .ok (.isub, 1) := by decide +kernel
theorem dX2_isPot_8 : decode cX2_isPot 8 = .ok (.invokestatic 26, 3) := by decide +kernel
theorem dX2_isPot_11 : decode cX2_isPot 11 = .ok (.ireturn, 1) := by decide +kernel
theorem dX2_keep_0 : decode cX2_keep 0 = .ok (.aload_n 0, 1) := by decide +kernel
theorem dX2_keep_1 : decode cX2_keep 1 = .ok (.getfield 13, 3) := by decide +kernel
theorem dX2_keep_4 : decode cX2_keep 4 = .ok (.iconst 0, 1) := by decide +kernel
theorem dX2_keep_5 : decode cX2_keep 5 = .ok (.aload_n 0, 1) := by decide +kernel
theorem dX2_keep_6 : decode cX2_keep 6 = .ok (.getfield 16, 3) := by decide +kernel
theorem dX2_keep_9 : decode cX2_keep 9 = .ok (.iconst 0, 1) := by decide +kernel
theorem dX2_keep_10 : decode cX2_keep 10 = .ok (.bipush 33, 2) := by decide +kernel
theorem dX2_keep_12 : decode cX2_keep 12 = .ok (.invokestatic 30, 3) := by decide +kernel
theorem dX2_keep_15 : decode cX2_keep 15 = .ok (.return_, 1) := by decide +kernel
theorem dX2_bringBack_0 : decode cX2_bringBack 0 = .ok (.aload_n 0, 1) := by decide +kernel
theorem dX2_bringBack_1 : decode cX2_bringBack 1 = .ok (.getfield 16, 3) := by decide +kernel
theorem dX2_bringBack_4 : decode cX2_bringBack 4 = .ok (.iconst 0, 1) := by decide +kernel
theorem dX2_bringBack_5 : decode cX2_bringBack 5 = .ok (.aload_n 0, 1) := by decide +kernel
theorem dX2_bringBack_6 : decode cX2_bringBack 6 = .ok (.getfield 13, 3) := by decide +kernel
theorem dX2_bringBack_9 : decode cX2_bringBack 9 = .ok (.iconst 0, 1) := by decide +kernel
theorem dX2_bringBack_10 : decode cX2_bringBack 10 = .ok (.bipush 33, 2) := by decide +kernel
theorem dX2_bringBack_12 : decode cX2_bringBack 12 = .ok (.invokestatic 30, 3) := by decide +kernel
theorem dX2_bringBack_15 : decode cX2_bringBack 15 = .ok (.return_, 1) := by decide +kernel
theorem dX2_heard_0 : decode cX2_heard 0 = .ok (.aload_n 0, 1) := by decide +kernel
theorem dX2_heard_1 : decode cX2_heard 1 = .ok (.getfield 13, 3) := by decide +kernel
theorem dX2_heard_4 : decode cX2_heard 4 = .ok (.bipush 13, 2) := by decide +kernel
theorem dX2_heard_6 : decode cX2_heard 6 = .ok (.iload_n 1, 1) := by decide +kernel
theorem dX2_heard_7 : decode cX2_heard 7 = .ok (.iadd, 1) := by decide +kernel
theorem dX2_heard_8 : decode cX2_heard 8 = .ok (.iaload, 1) := by decide +kernel
theorem dX2_heard_9 : decode cX2_heard 9 = .ok (.ifCond .le 18, 3) := by decide +kernel
theorem dX2_heard_12 : decode cX2_heard 12 = .ok (.aload_n 0, 1) := by decide +kernel
theorem dX2_heard_13 : decode cX2_heard 13 = .ok (.getfield 36, 3) := by decide +kernel
theorem dX2_heard_16 : decode cX2_heard 16 = .ok (.iload_n 1, 1) := by decide +kernel
theorem dX2_heard_17 : decode cX2_heard 17 = .ok (.ishr, 1) := by decide +kernel
theorem dX2_heard_18 : decode cX2_heard 18 = .ok (.iconst 1, 1) := by decide +kernel
theorem dX2_heard_19 : decode cX2_heard 19 = .ok (.iand, 1) := by decide +kernel
theorem dX2_heard_20 : decode cX2_heard 20 = .ok (.ifCond .ne 7, 3) := by decide +kernel
theorem dX2_heard_23 : decode cX2_heard 23 = .ok (.iconst 1, 1) := by decide +kernel
theorem dX2_heard_24 : decode cX2_heard 24 = .ok (.goto 4, 3) := by decide +kernel
theorem dX2_heard_27 : decode cX2_heard 27 = .ok (.iconst 0, 1) := by decide +kernel
theorem dX2_heard_28 : decode cX2_heard 28 = .ok (.ireturn, 1) := by decide +kernel
theorem dX2_set_0 : decode cX2_set 0 = .ok (.iconst 0, 1) := by decide +kernel
theorem dX2_set_1 : decode cX2_set 1 = .ok (.istore_n 1, 1) := by decide +kernel
theorem dX2_set_2 : decode cX2_set 2 = .ok (.iconst 0, 1) := by decide +kernel
theorem dX2_set_3 : decode cX2_set 3 = .ok (.istore_n 2, 1) := by decide +kernel
theorem dX2_set_4 : decode cX2_set 4 = .ok (.iload_n 2, 1) := by decide +kernel
theorem dX2_set_5 : decode cX2_set 5 = .ok (.aload_n 0, 1) := by decide +kernel
theorem dX2_set_6 : decode cX2_set 6 = .ok (.getfield 23, 3) := by decide +kernel
theorem dX2_set_9 : decode cX2_set 9 = .ok (.if_icmp .ge 23, 3) := by decide +kernel
theorem dX2_set_12 : decode cX2_set 12 = .ok (.aload_n 0, 1) := by decide +kernel
theorem dX2_set_13 : decode cX2_set 13 = .ok (.iload_n 2, 1) := by decide +kernel
theorem dX2_set_14 : decode cX2_set 14 = .ok (.invokevirtual 39, 3) := by decide +kernel
theorem dX2_set_17 : decode cX2_set 17 = .ok (.ifCond .eq 9, 3) := by decide +kernel
theorem dX2_set_20 : decode cX2_set 20 = .ok (.iload_n 1, 1) := by decide +kernel
theorem dX2_set_21 : decode cX2_set 21 = .ok (.iconst 1, 1) := by decide +kernel
theorem dX2_set_22 : decode cX2_set 22 = .ok (.iload_n 2, 1) := by decide +kernel
theorem dX2_set_23 : decode cX2_set 23 = .ok (.ishl, 1) := by decide +kernel
theorem dX2_set_24 : decode cX2_set 24 = .ok (.ior, 1) := by decide +kernel
theorem dX2_set_25 : decode cX2_set 25 = .ok (.istore_n 1, 1) := by decide +kernel
theorem dX2_set_26 : decode cX2_set 26 = .ok (.iinc 2 1, 3) := by decide +kernel
theorem dX2_set_29 : decode cX2_set 29 = .ok (.goto (-25), 3) := by decide +kernel
theorem dX2_set_32 : decode cX2_set 32 = .ok (.iload_n 1, 1) := by decide +kernel
theorem dX2_set_33 : decode cX2_set 33 = .ok (.ireturn, 1) := by decide +kernel
theorem dX2_apart_0 : decode cX2_apart 0 = .ok (.aload_n 0, 1) := by decide +kernel
theorem dX2_apart_1 : decode cX2_apart 1 = .ok (.getfield 13, 3) := by decide +kernel
theorem dX2_apart_4 : decode cX2_apart 4 = .ok (.iconst 3, 1) := by decide +kernel
theorem dX2_apart_5 : decode cX2_apart 5 = .ok (.iload_n 1, 1) := by decide +kernel
theorem dX2_apart_6 : decode cX2_apart 6 = .ok (.iadd, 1) := by decide +kernel
theorem dX2_apart_7 : decode cX2_apart 7 = .ok (.iaload, 1) := by decide +kernel
theorem dX2_apart_8 : decode cX2_apart 8 = .ok (.aload_n 0, 1) := by decide +kernel
theorem dX2_apart_9 : decode cX2_apart 9 = .ok (.getfield 13, 3) := by decide +kernel
theorem dX2_apart_12 : decode cX2_apart 12 = .ok (.iconst 3, 1) := by decide +kernel
theorem dX2_apart_13 : decode cX2_apart 13 = .ok (.iload_n 2, 1) := by decide +kernel
theorem dX2_apart_14 : decode cX2_apart 14 = .ok (.iadd, 1) := by decide +kernel
theorem dX2_apart_15 : decode cX2_apart 15 = .ok (.iaload, 1) := by decide +kernel
theorem dX2_apart_16 : decode cX2_apart 16 = .ok (.isub, 1) := by decide +kernel
theorem dX2_apart_17 : decode cX2_apart 17 = .ok (.invokestatic 43, 3) := by decide +kernel
theorem dX2_apart_20 : decode cX2_apart 20 = .ok (.ireturn, 1) := by decide +kernel
theorem dX2_accord_0 : decode cX2_accord 0 = .ok (.sipush 953, 3) := by decide +kernel
theorem dX2_accord_3 : decode cX2_accord 3 = .ok (.aload_n 0, 1) := by decide +kernel
theorem dX2_accord_4 : decode cX2_accord 4 = .ok (.iload_n 1, 1) := by decide +kernel
theorem dX2_accord_5 : decode cX2_accord 5 = .ok (.iload_n 2, 1) := by decide +kernel
theorem dX2_accord_6 : decode cX2_accord 6 = .ok (.invokevirtual 49, 3) := by decide +kernel
theorem dX2_accord_9 : decode cX2_accord 9 = .ok (.bipush 12, 2) := by decide +kernel
theorem dX2_accord_11 : decode cX2_accord 11 = .ok (.irem, 1) := by decide +kernel
theorem dX2_accord_12 : decode cX2_accord 12 = .ok (.ishr, 1) := by decide +kernel
theorem dX2_accord_13 : decode cX2_accord 13 = .ok (.iconst 1, 1) := by decide +kernel
theorem dX2_accord_14 : decode cX2_accord 14 = .ok (.iand, 1) := by decide +kernel
theorem dX2_accord_15 : decode cX2_accord 15 = .ok (.iconst 1, 1) := by decide +kernel
theorem dX2_accord_16 : decode cX2_accord 16 = .ok (.if_icmp .ne 7, 3) := by decide +kernel
theorem dX2_accord_19 : decode cX2_accord 19 = .ok (.iconst 1, 1) := by decide +kernel
theorem dX2_accord_20 : decode cX2_accord 20 = .ok (.goto 4, 3) := by decide +kernel
theorem dX2_accord_23 : decode cX2_accord 23 = .ok (.iconst 0, 1) := by decide +kernel
theorem dX2_accord_24 : decode cX2_accord 24 = .ok (.ireturn, 1) := by decide +kernel
theorem dX2_against_0 : decode cX2_against 0 = .ok (.iconst 0, 1) := by decide +kernel
theorem dX2_against_1 : decode cX2_against 1 = .ok (.istore_n 3, 1) := by decide +kernel
theorem dX2_against_2 : decode cX2_against 2 = .ok (.iconst 0, 1) := by decide +kernel
theorem dX2_against_3 : decode cX2_against 3 = .ok (.istore 4, 2) := by decide +kernel
theorem dX2_against_5 : decode cX2_against 5 = .ok (.iload 4, 2) := by decide +kernel
theorem dX2_against_7 : decode cX2_against 7 = .ok (.aload_n 0, 1) := by decide +kernel
theorem dX2_against_8 : decode cX2_against 8 = .ok (.getfield 23, 3) := by decide +kernel
theorem dX2_against_11 : decode cX2_against 11 = .ok (.if_icmp .ge 37, 3) := by decide +kernel
theorem dX2_against_14 : decode cX2_against 14 = .ok (.iload_n 3, 1) := by decide +kernel
theorem dX2_against_15 : decode cX2_against 15 = .ok (.iload_n 2, 1) := by decide +kernel
theorem dX2_against_16 : decode cX2_against 16 = .ok (.iload 4, 2) := by decide +kernel
theorem dX2_against_18 : decode cX2_against 18 = .ok (.ishr, 1) := by decide +kernel
theorem dX2_against_19 : decode cX2_against 19 = .ok (.iconst 1, 1) := by decide +kernel
theorem dX2_against_20 : decode cX2_against 20 = .ok (.iand, 1) := by decide +kernel
theorem dX2_against_21 : decode cX2_against 21 = .ok (.iconst 1, 1) := by decide +kernel
theorem dX2_against_22 : decode cX2_against 22 = .ok (.if_icmp .ne 17, 3) := by decide +kernel
theorem dX2_against_25 : decode cX2_against 25 = .ok (.aload_n 0, 1) := by decide +kernel
theorem dX2_against_26 : decode cX2_against 26 = .ok (.iload_n 1, 1) := by decide +kernel
theorem dX2_against_27 : decode cX2_against 27 = .ok (.iload 4, 2) := by decide +kernel
theorem dX2_against_29 : decode cX2_against 29 = .ok (.invokevirtual 53, 3) := by decide +kernel
theorem dX2_against_32 : decode cX2_against 32 = .ok (.ifCond .ne 7, 3) := by decide +kernel
theorem dX2_against_35 : decode cX2_against 35 = .ok (.iconst 1, 1) := by decide +kernel
theorem dX2_against_36 : decode cX2_against 36 = .ok (.goto 4, 3) := by decide +kernel
theorem dX2_against_39 : decode cX2_against 39 = .ok (.iconst 0, 1) := by decide +kernel
theorem dX2_against_40 : decode cX2_against 40 = .ok (.iadd, 1) := by decide +kernel
theorem dX2_against_41 : decode cX2_against 41 = .ok (.istore_n 3, 1) := by decide +kernel
theorem dX2_against_42 : decode cX2_against 42 = .ok (.iinc 4 1, 3) := by decide +kernel
theorem dX2_against_45 : decode cX2_against 45 = .ok (.goto (-40), 3) := by decide +kernel
theorem dX2_against_48 : decode cX2_against 48 = .ok (.iload_n 3, 1) := by decide +kernel
theorem dX2_against_49 : decode cX2_against 49 = .ok (.ireturn, 1) := by decide +kernel
theorem dX2_allClashes_0 : decode cX2_allClashes 0 = .ok (.iconst 0, 1) := by decide +kernel
theorem dX2_allClashes_1 : decode cX2_allClashes 1 = .ok (.istore_n 2, 1) := by decide +kernel
theorem dX2_allClashes_2 : decode cX2_allClashes 2 = .ok (.iconst 0, 1) := by decide +kernel
theorem dX2_allClashes_3 : decode cX2_allClashes 3 = .ok (.istore_n 3, 1) := by decide +kernel
theorem dX2_allClashes_4 : decode cX2_allClashes 4 = .ok (.iload_n 3, 1) := by decide +kernel
theorem dX2_allClashes_5 : decode cX2_allClashes 5 = .ok (.aload_n 0, 1) := by decide +kernel
theorem dX2_allClashes_6 : decode cX2_allClashes 6 = .ok (.getfield 23, 3) := by decide +kernel
theorem dX2_allClashes_9 : decode cX2_allClashes 9 = .ok (.if_icmp .ge 31, 3) := by decide +kernel
theorem dX2_allClashes_12 : decode cX2_allClashes 12 = .ok (.iload_n 2, 1) := by decide +kernel
theorem dX2_allClashes_13 : decode cX2_allClashes 13 = .ok (.iload_n 1, 1) := by decide +kernel
theorem dX2_allClashes_14 : decode cX2_allClashes 14 = .ok (.iload_n 3, 1) := by decide +kernel
theorem dX2_allClashes_15 : decode cX2_allClashes 15 = .ok (.ishr, 1) := by decide +kernel
theorem dX2_allClashes_16 : decode cX2_allClashes 16 = .ok (.iconst 1, 1) := by decide +kernel
theorem dX2_allClashes_17 : decode cX2_allClashes 17 = .ok (.iand, 1) := by decide +kernel
theorem dX2_allClashes_18 : decode cX2_allClashes 18 = .ok (.iconst 1, 1) := by decide +kernel
theorem dX2_allClashes_19 : decode cX2_allClashes 19 = .ok (.if_icmp .ne 12, 3) := by decide +kernel
theorem dX2_allClashes_22 : decode cX2_allClashes 22 = .ok (.aload_n 0, 1) := by decide +kernel
theorem dX2_allClashes_23 : decode cX2_allClashes 23 = .ok (.iload_n 3, 1) := by decide +kernel
theorem dX2_allClashes_24 : decode cX2_allClashes 24 = .ok (.iload_n 1, 1) := by decide +kernel
theorem dX2_allClashes_25 : decode cX2_allClashes 25 = .ok (.invokevirtual 57, 3) := by decide +kernel
theorem dX2_allClashes_28 : decode cX2_allClashes 28 = .ok (.goto 4, 3) := by decide +kernel
theorem dX2_allClashes_31 : decode cX2_allClashes 31 = .ok (.iconst 0, 1) := by decide +kernel
theorem dX2_allClashes_32 : decode cX2_allClashes 32 = .ok (.iadd, 1) := by decide +kernel
theorem dX2_allClashes_33 : decode cX2_allClashes 33 = .ok (.istore_n 2, 1) := by decide +kernel
theorem dX2_allClashes_34 : decode cX2_allClashes 34 = .ok (.iinc 3 1, 3) := by decide +kernel
theorem dX2_allClashes_37 : decode cX2_allClashes 37 = .ok (.goto (-33), 3) := by decide +kernel
theorem dX2_allClashes_40 : decode cX2_allClashes 40 = .ok (.iload_n 2, 1) := by decide +kernel
theorem dX2_allClashes_41 : decode cX2_allClashes 41 = .ok (.iconst 2, 1) := by decide +kernel
theorem dX2_allClashes_42 : decode cX2_allClashes 42 = .ok (.idiv, 1) := by decide +kernel
theorem dX2_allClashes_43 : decode cX2_allClashes 43 = .ok (.ireturn, 1) := by decide +kernel
theorem dX2_harmonyOf_0 : decode cX2_harmonyOf 0 = .ok (.iload_n 1, 1) := by decide +kernel
theorem dX2_harmonyOf_1 : decode cX2_harmonyOf 1 = .ok (.invokestatic 60, 3) := by decide +kernel
theorem dX2_harmonyOf_4 : decode cX2_harmonyOf 4 = .ok (.istore_n 2, 1) := by decide +kernel
theorem dX2_harmonyOf_5 : decode cX2_harmonyOf 5 = .ok (.iload_n 2, 1) := by decide +kernel
theorem dX2_harmonyOf_6 : decode cX2_harmonyOf 6 = .ok (.iload_n 2, 1) := by decide +kernel
theorem dX2_harmonyOf_7 : decode cX2_harmonyOf 7 = .ok (.iconst 1, 1) := by decide +kernel
theorem dX2_harmonyOf_8 : decode cX2_harmonyOf 8 = .ok (.isub, 1) := by decide +kernel
theorem dX2_harmonyOf_9 : decode cX2_harmonyOf 9 = .ok (.imul, 1) := by decide +kernel
theorem dX2_harmonyOf_10 : decode cX2_harmonyOf 10 = .ok (.iconst 2, 1) := by decide +kernel
theorem dX2_harmonyOf_11 : decode cX2_harmonyOf 11 = .ok (.idiv, 1) := by decide +kernel
theorem dX2_harmonyOf_12 : decode cX2_harmonyOf 12 = .ok (.iconst 2, 1) := by decide +kernel
theorem dX2_harmonyOf_13 : decode cX2_harmonyOf 13 = .ok (.aload_n 0, 1) := by decide +kernel
theorem dX2_harmonyOf_14 : decode cX2_harmonyOf 14 = .ok (.iload_n 1, 1) := by decide +kernel
theorem dX2_harmonyOf_15 : decode cX2_harmonyOf 15 = .ok (.invokevirtual 65, 3) := by decide +kernel
theorem dX2_harmonyOf_18 : decode cX2_harmonyOf 18 = .ok (.imul, 1) := by decide +kernel
theorem dX2_harmonyOf_19 : decode cX2_harmonyOf 19 = .ok (.isub, 1) := by decide +kernel
theorem dX2_harmonyOf_20 : decode cX2_harmonyOf 20 = .ok (.ireturn, 1) := by decide +kernel
theorem dX2_clear_0 : decode cX2_clear 0 = .ok (.aload_n 0, 1) := by decide +kernel
theorem dX2_clear_1 : decode cX2_clear 1 = .ok (.invokevirtual 68, 3) := by decide +kernel
theorem dX2_clear_4 : decode cX2_clear 4 = .ok (.invokestatic 60, 3) := by decide +kernel
theorem dX2_clear_7 : decode cX2_clear 7 = .ok (.iconst 2, 1) := by decide +kernel
theorem dX2_clear_8 : decode cX2_clear 8 = .ok (.if_icmp .le 18, 3) := by decide +kernel
theorem dX2_clear_11 : decode cX2_clear 11 = .ok (.aload_n 0, 1) := by decide +kernel
theorem dX2_clear_12 : decode cX2_clear 12 = .ok (.aload_n 0, 1) := by decide +kernel
theorem dX2_clear_13 : decode cX2_clear 13 = .ok (.invokevirtual 68, 3) := by decide +kernel
theorem dX2_clear_16 : decode cX2_clear 16 = .ok (.invokevirtual 65, 3) := by decide +kernel
theorem dX2_clear_19 : decode cX2_clear 19 = .ok (.ifCond .ne 7, 3) := by decide +kernel
theorem dX2_clear_22 : decode cX2_clear 22 = .ok (.iconst 1, 1) := by decide +kernel
theorem dX2_clear_23 : decode cX2_clear 23 = .ok (.goto 4, 3) := by decide +kernel
theorem dX2_clear_26 : decode cX2_clear 26 = .ok (.iconst 0, 1) := by decide +kernel
theorem dX2_clear_27 : decode cX2_clear 27 = .ok (.ireturn, 1) := by decide +kernel
theorem dX2_beat_0 : decode cX2_beat 0 = .ok (.aload_n 0, 1) := by decide +kernel
theorem dX2_beat_1 : decode cX2_beat 1 = .ok (.invokevirtual 68, 3) := by decide +kernel
theorem dX2_beat_4 : decode cX2_beat 4 = .ok (.istore_n 1, 1) := by decide +kernel
theorem dX2_beat_5 : decode cX2_beat 5 = .ok (.aload_n 0, 1) := by decide +kernel
theorem dX2_beat_6 : decode cX2_beat 6 = .ok (.iload_n 1, 1) := by decide +kernel
theorem dX2_beat_7 : decode cX2_beat 7 = .ok (.invokevirtual 65, 3) := by decide +kernel
theorem dX2_beat_10 : decode cX2_beat 10 = .ok (.istore_n 2, 1) := by decide +kernel
theorem dX2_beat_11 : decode cX2_beat 11 = .ok (.aload_n 0, 1) := by decide +kernel
theorem dX2_beat_12 : decode cX2_beat 12 = .ok (.getfield 13, 3) := by decide +kernel
theorem dX2_beat_15 : decode cX2_beat 15 = .ok (.iconst 2, 1) := by decide +kernel
theorem dX2_beat_16 : decode cX2_beat 16 = .ok (.iaload, 1) := by decide +kernel
theorem dX2_beat_17 : decode cX2_beat 17 = .ok (.iconst 1, 1) := by decide +kernel
theorem dX2_beat_18 : decode cX2_beat 18 = .ok (.if_icmp .ne 14, 3) := by decide +kernel
theorem dX2_beat_21 : decode cX2_beat 21 = .ok (.aload_n 0, 1) := by decide +kernel
theorem dX2_beat_22 : decode cX2_beat 22 = .ok (.invokevirtual 72, 3) := by decide +kernel
theorem dX2_beat_25 : decode cX2_beat 25 = .ok (.ifCond .eq 7, 3) := by decide +kernel
theorem dX2_beat_28 : decode cX2_beat 28 = .ok (.iconst 1, 1) := by decide +kernel
theorem dX2_beat_29 : decode cX2_beat 29 = .ok (.goto 4, 3) := by decide +kernel
theorem dX2_beat_32 : decode cX2_beat 32 = .ok (.iconst 0, 1) := by decide +kernel
theorem dX2_beat_33 : decode cX2_beat 33 = .ok (.istore_n 3, 1) := by decide +kernel
theorem dX2_beat_34 : decode cX2_beat 34 = .ok (.aload_n 0, 1) := by decide +kernel
theorem dX2_beat_35 : decode cX2_beat 35 = .ok (.getfield 13, 3) := by decide +kernel
theorem dX2_beat_38 : decode cX2_beat 38 = .ok (.iconst 0, 1) := by decide +kernel
theorem dX2_beat_39 : decode cX2_beat 39 = .ok (.iaload, 1) := by decide +kernel
theorem dX2_beat_40 : decode cX2_beat 40 = .ok (.iconst 4, 1) := by decide +kernel
theorem dX2_beat_41 : decode cX2_beat 41 = .ok (.irem, 1) := by decide +kernel
theorem dX2_beat_42 : decode cX2_beat 42 = .ok (.ifCond .ne 7, 3) := by decide +kernel
theorem dX2_beat_45 : decode cX2_beat 45 = .ok (.iconst 1, 1) := by decide +kernel
theorem dX2_beat_46 : decode cX2_beat 46 = .ok (.goto 4, 3) := by decide +kernel
theorem dX2_beat_49 : decode cX2_beat 49 = .ok (.iconst 0, 1) := by decide +kernel
theorem dX2_beat_50 : decode cX2_beat 50 = .ok (.istore 4, 2) := by decide +kernel
theorem dX2_beat_52 : decode cX2_beat 52 = .ok (.aload_n 0, 1) := by decide +kernel
theorem dX2_beat_53 : decode cX2_beat 53 = .ok (.getfield 13, 3) := by decide +kernel
theorem dX2_beat_56 : decode cX2_beat 56 = .ok (.iconst 0, 1) := by decide +kernel
theorem dX2_beat_57 : decode cX2_beat 57 = .ok (.iaload, 1) := by decide +kernel
theorem dX2_beat_58 : decode cX2_beat 58 = .ok (.iconst 3, 1) := by decide +kernel
theorem dX2_beat_59 : decode cX2_beat 59 = .ok (.irem, 1) := by decide +kernel
theorem dX2_beat_60 : decode cX2_beat 60 = .ok (.ifCond .ne 7, 3) := by decide +kernel
theorem dX2_beat_63 : decode cX2_beat 63 = .ok (.iconst 1, 1) := by decide +kernel
theorem dX2_beat_64 : decode cX2_beat 64 = .ok (.goto 4, 3) := by decide +kernel
theorem dX2_beat_67 : decode cX2_beat 67 = .ok (.iconst 0, 1) := by decide +kernel
theorem dX2_beat_68 : decode cX2_beat 68 = .ok (.istore 5, 2) := by decide +kernel
theorem dX2_beat_70 : decode cX2_beat 70 = .ok (.iconst 0, 1) := by decide +kernel
theorem dX2_beat_71 : decode cX2_beat 71 = .ok (.istore 6, 2) := by decide +kernel
theorem dX2_beat_73 : decode cX2_beat 73 = .ok (.iload 6, 2) := by decide +kernel
theorem dX2_beat_75 : decode cX2_beat 75 = .ok (.aload_n 0, 1) := by decide +kernel
theorem dX2_beat_76 : decode cX2_beat 76 = .ok (.getfield 23, 3) := by decide +kernel
theorem dX2_beat_79 : decode cX2_beat 79 = .ok (.if_icmp .ge 177, 3) := by decide +kernel
theorem dX2_beat_82 : decode cX2_beat 82 = .ok (.aload_n 0, 1) := by decide +kernel
theorem dX2_beat_83 : decode cX2_beat 83 = .ok (.getfield 13, 3) := by decide +kernel
theorem dX2_beat_86 : decode cX2_beat 86 = .ok (.bipush 23, 2) := by decide +kernel
theorem dX2_beat_88 : decode cX2_beat 88 = .ok (.iload 6, 2) := by decide +kernel
theorem dX2_beat_90 : decode cX2_beat 90 = .ok (.iadd, 1) := by decide +kernel
theorem dX2_beat_91 : decode cX2_beat 91 = .ok (.iaload, 1) := by decide +kernel
theorem dX2_beat_92 : decode cX2_beat 92 = .ok (.istore 7, 2) := by decide +kernel
theorem dX2_beat_94 : decode cX2_beat 94 = .ok (.iload_n 1, 1) := by decide +kernel
theorem dX2_beat_95 : decode cX2_beat 95 = .ok (.iload 6, 2) := by decide +kernel
theorem dX2_beat_97 : decode cX2_beat 97 = .ok (.ishr, 1) := by decide +kernel
theorem dX2_beat_98 : decode cX2_beat 98 = .ok (.iconst 1, 1) := by decide +kernel
theorem dX2_beat_99 : decode cX2_beat 99 = .ok (.iand, 1) := by decide +kernel
theorem dX2_beat_100 : decode cX2_beat 100 = .ok (.iconst 1, 1) := by decide +kernel
theorem dX2_beat_101 : decode cX2_beat 101 = .ok (.if_icmp .ne 113, 3) := by decide +kernel
theorem dX2_beat_104 : decode cX2_beat 104 = .ok (.aload_n 0, 1) := by decide +kernel
theorem dX2_beat_105 : decode cX2_beat 105 = .ok (.getfield 13, 3) := by decide +kernel
theorem dX2_beat_108 : decode cX2_beat 108 = .ok (.bipush 13, 2) := by decide +kernel
theorem dX2_beat_110 : decode cX2_beat 110 = .ok (.iload 6, 2) := by decide +kernel
theorem dX2_beat_112 : decode cX2_beat 112 = .ok (.iadd, 1) := by decide +kernel
theorem dX2_beat_113 : decode cX2_beat 113 = .ok (.iconst 0, 1) := by decide +kernel
theorem dX2_beat_114 : decode cX2_beat 114 = .ok (.aload_n 0, 1) := by decide +kernel
theorem dX2_beat_115 : decode cX2_beat 115 = .ok (.getfield 13, 3) := by decide +kernel
theorem dX2_beat_118 : decode cX2_beat 118 = .ok (.bipush 13, 2) := by decide +kernel
theorem dX2_beat_120 : decode cX2_beat 120 = .ok (.iload 6, 2) := by decide +kernel
theorem dX2_beat_122 : decode cX2_beat 122 = .ok (.iadd, 1) := by decide +kernel
theorem dX2_beat_123 : decode cX2_beat 123 = .ok (.iaload, 1) := by decide +kernel
theorem dX2_beat_124 : decode cX2_beat 124 = .ok (.iconst 1, 1) := by decide +kernel
theorem dX2_beat_125 : decode cX2_beat 125 = .ok (.isub, 1) := by decide +kernel
theorem dX2_beat_126 : decode cX2_beat 126 = .ok (.iload 7, 2) := by decide +kernel
theorem dX2_beat_128 : decode cX2_beat 128 = .ok (.iconst 3, 1) := by decide +kernel
theorem dX2_beat_129 : decode cX2_beat 129 = .ok (.idiv, 1) := by decide +kernel
theorem dX2_beat_130 : decode cX2_beat 130 = .ok (.isub, 1) := by decide +kernel
theorem dX2_beat_131 : decode cX2_beat 131 = .ok (.invokestatic 76, 3) := by decide +kernel
theorem dX2_beat_134 : decode cX2_beat 134 = .ok (.iastore, 1) := by decide +kernel
theorem dX2_beat_135 : decode cX2_beat 135 = .ok (.iload 4, 2) := by decide +kernel
theorem dX2_beat_137 : decode cX2_beat 137 = .ok (.ifCond .eq 36, 3) := by decide +kernel
theorem dX2_beat_140 : decode cX2_beat 140 = .ok (.aload_n 0, 1) := by decide +kernel
theorem dX2_beat_141 : decode cX2_beat 141 = .ok (.getfield 13, 3) := by decide +kernel
theorem dX2_beat_144 : decode cX2_beat 144 = .ok (.iconst 3, 1) := by decide +kernel
theorem dX2_beat_145 : decode cX2_beat 145 = .ok (.iload 6, 2) := by decide +kernel
theorem dX2_beat_147 : decode cX2_beat 147 = .ok (.iadd, 1) := by decide +kernel
theorem dX2_beat_148 : decode cX2_beat 148 = .ok (.iaload, 1) := by decide +kernel
theorem dX2_beat_149 : decode cX2_beat 149 = .ok (.bipush 24, 2) := by decide +kernel
theorem dX2_beat_151 : decode cX2_beat 151 = .ok (.if_icmp .lt 22, 3) := by decide +kernel
theorem dX2_beat_154 : decode cX2_beat 154 = .ok (.aload_n 0, 1) := by decide +kernel
theorem dX2_beat_155 : decode cX2_beat 155 = .ok (.getfield 13, 3) := by decide +kernel
theorem dX2_beat_158 : decode cX2_beat 158 = .ok (.bipush 23, 2) := by decide +kernel
theorem dX2_beat_160 : decode cX2_beat 160 = .ok (.iload 6, 2) := by decide +kernel
theorem dX2_beat_162 : decode cX2_beat 162 = .ok (.iadd, 1) := by decide +kernel
theorem dX2_beat_163 : decode cX2_beat 163 = .ok (.bipush 9, 2) := by decide +kernel
theorem dX2_beat_165 : decode cX2_beat 165 = .ok (.iload 7, 2) := by decide +kernel
theorem dX2_beat_167 : decode cX2_beat 167 = .ok (.iconst 1, 1) := by decide +kernel
theorem dX2_beat_168 : decode cX2_beat 168 = .ok (.iadd, 1) := by decide +kernel
theorem dX2_beat_169 : decode cX2_beat 169 = .ok (.invokestatic 79, 3) := by decide +kernel
theorem dX2_beat_172 : decode cX2_beat 172 = .ok (.iastore, 1) := by decide +kernel
theorem dX2_beat_173 : decode cX2_beat 173 = .ok (.aload_n 0, 1) := by decide +kernel
theorem dX2_beat_174 : decode cX2_beat 174 = .ok (.getfield 13, 3) := by decide +kernel
theorem dX2_beat_177 : decode cX2_beat 177 = .ok (.bipush 23, 2) := by decide +kernel
theorem dX2_beat_179 : decode cX2_beat 179 = .ok (.iload 6, 2) := by decide +kernel
theorem dX2_beat_181 : decode cX2_beat 181 = .ok (.iadd, 1) := by decide +kernel
theorem dX2_beat_182 : decode cX2_beat 182 = .ok (.iaload, 1) := by decide +kernel
theorem dX2_beat_183 : decode cX2_beat 183 = .ok (.iconst 5, 1) := by decide +kernel
theorem dX2_beat_184 : decode cX2_beat 184 = .ok (.if_icmp .lt 66, 3) := by decide +kernel
theorem dX2_beat_187 : decode cX2_beat 187 = .ok (.aload_n 0, 1) := by decide +kernel
theorem dX2_beat_188 : decode cX2_beat 188 = .ok (.getfield 13, 3) := by decide +kernel
theorem dX2_beat_191 : decode cX2_beat 191 = .ok (.iconst 3, 1) := by decide +kernel
theorem dX2_beat_192 : decode cX2_beat 192 = .ok (.iload 6, 2) := by decide +kernel
theorem dX2_beat_194 : decode cX2_beat 194 = .ok (.iadd, 1) := by decide +kernel
theorem dX2_beat_195 : decode cX2_beat 195 = .ok (.iconst 0, 1) := by decide +kernel
theorem dX2_beat_196 : decode cX2_beat 196 = .ok (.aload_n 0, 1) := by decide +kernel
theorem dX2_beat_197 : decode cX2_beat 197 = .ok (.getfield 13, 3) := by decide +kernel
theorem dX2_beat_200 : decode cX2_beat 200 = .ok (.iconst 3, 1) := by decide +kernel
theorem dX2_beat_201 : decode cX2_beat 201 = .ok (.iload 6, 2) := by decide +kernel
theorem dX2_beat_203 : decode cX2_beat 203 = .ok (.iadd, 1) := by decide +kernel
theorem dX2_beat_204 : decode cX2_beat 204 = .ok (.iaload, 1) := by decide +kernel
theorem dX2_beat_205 : decode cX2_beat 205 = .ok (.iconst 1, 1) := by decide +kernel
theorem dX2_beat_206 : decode cX2_beat 206 = .ok (.isub, 1) := by decide +kernel
theorem dX2_beat_207 : decode cX2_beat 207 = .ok (.invokestatic 76, 3) := by decide +kernel
theorem dX2_beat_210 : decode cX2_beat 210 = .ok (.iastore, 1) := by decide +kernel
theorem dX2_beat_211 : decode cX2_beat 211 = .ok (.goto 39, 3) := by decide +kernel
theorem dX2_beat_214 : decode cX2_beat 214 = .ok (.iload 5, 2) := by decide +kernel
theorem dX2_beat_216 : decode cX2_beat 216 = .ok (.ifCond .eq 34, 3) := by decide +kernel
theorem dX2_beat_219 : decode cX2_beat 219 = .ok (.aload_n 0, 1) := by decide +kernel
theorem dX2_beat_220 : decode cX2_beat 220 = .ok (.getfield 36, 3) := by decide +kernel
theorem dX2_beat_223 : decode cX2_beat 223 = .ok (.iload 6, 2) := by decide +kernel
theorem dX2_beat_225 : decode cX2_beat 225 = .ok (.ishr, 1) := by decide +kernel
theorem dX2_beat_226 : decode cX2_beat 226 = .ok (.iconst 1, 1) := by decide +kernel
theorem dX2_beat_227 : decode cX2_beat 227 = .ok (.iand, 1) := by decide +kernel
theorem dX2_beat_228 : decode cX2_beat 228 = .ok (.iconst 1, 1) := by decide +kernel
theorem dX2_beat_229 : decode cX2_beat 229 = .ok (.if_icmp .ne 21, 3) := by decide +kernel
theorem dX2_beat_232 : decode cX2_beat 232 = .ok (.aload_n 0, 1) := by decide +kernel
theorem dX2_beat_233 : decode cX2_beat 233 = .ok (.getfield 13, 3) := by decide +kernel
theorem dX2_beat_236 : decode cX2_beat 236 = .ok (.bipush 23, 2) := by decide +kernel
theorem dX2_beat_238 : decode cX2_beat 238 = .ok (.iload 6, 2) := by decide +kernel
theorem dX2_beat_240 : decode cX2_beat 240 = .ok (.iadd, 1) := by decide +kernel
theorem dX2_beat_241 : decode cX2_beat 241 = .ok (.iconst 0, 1) := by decide +kernel
theorem dX2_beat_242 : decode cX2_beat 242 = .ok (.iload 7, 2) := by decide +kernel
theorem dX2_beat_244 : decode cX2_beat 244 = .ok (.iconst 1, 1) := by decide +kernel
theorem dX2_beat_245 : decode cX2_beat 245 = .ok (.isub, 1) := by decide +kernel
theorem dX2_beat_246 : decode cX2_beat 246 = .ok (.invokestatic 76, 3) := by decide +kernel
theorem dX2_beat_249 : decode cX2_beat 249 = .ok (.iastore, 1) := by decide +kernel
theorem dX2_beat_250 : decode cX2_beat 250 = .ok (.iinc 6 1, 3) := by decide +kernel
theorem dX2_beat_253 : decode cX2_beat 253 = .ok (.goto (-180), 3) := by decide +kernel
theorem dX2_beat_256 : decode cX2_beat 256 = .ok (.aload_n 0, 1) := by decide +kernel
theorem dX2_beat_257 : decode cX2_beat 257 = .ok (.getfield 13, 3) := by decide +kernel
theorem dX2_beat_260 : decode cX2_beat 260 = .ok (.iconst 1, 1) := by decide +kernel
theorem dX2_beat_261 : decode cX2_beat 261 = .ok (.dup2, 1) := by decide +kernel
theorem dX2_beat_262 : decode cX2_beat 262 = .ok (.iaload, 1) := by decide +kernel
theorem dX2_beat_263 : decode cX2_beat 263 = .ok (.iload_n 3, 1) := by decide +kernel
theorem dX2_beat_264 : decode cX2_beat 264 = .ok (.iadd, 1) := by decide +kernel
theorem dX2_beat_265 : decode cX2_beat 265 = .ok (.iastore, 1) := by decide +kernel
theorem dX2_beat_266 : decode cX2_beat 266 = .ok (.aload_n 0, 1) := by decide +kernel
theorem dX2_beat_267 : decode cX2_beat 267 = .ok (.getfield 13, 3) := by decide +kernel
theorem dX2_beat_270 : decode cX2_beat 270 = .ok (.iconst 2, 1) := by decide +kernel
theorem dX2_beat_271 : decode cX2_beat 271 = .ok (.iload_n 2, 1) := by decide +kernel
theorem dX2_beat_272 : decode cX2_beat 272 = .ok (.ifCond .le 7, 3) := by decide +kernel
theorem dX2_beat_275 : decode cX2_beat 275 = .ok (.iconst 1, 1) := by decide +kernel
theorem dX2_beat_276 : decode cX2_beat 276 = .ok (.goto 4, 3) := by decide +kernel
theorem dX2_beat_279 : decode cX2_beat 279 = .ok (.iconst 0, 1) := by decide +kernel
theorem dX2_beat_280 : decode cX2_beat 280 = .ok (.iastore, 1) := by decide +kernel
theorem dX2_beat_281 : decode cX2_beat 281 = .ok (.aload_n 0, 1) := by decide +kernel
theorem dX2_beat_282 : decode cX2_beat 282 = .ok (.getfield 13, 3) := by decide +kernel
theorem dX2_beat_285 : decode cX2_beat 285 = .ok (.iconst 0, 1) := by decide +kernel
theorem dX2_beat_286 : decode cX2_beat 286 = .ok (.dup2, 1) := by decide +kernel
theorem dX2_beat_287 : decode cX2_beat 287 = .ok (.iaload, 1) := by decide +kernel
theorem dX2_beat_288 : decode cX2_beat 288 = .ok (.iconst 1, 1) := by decide +kernel
theorem dX2_beat_289 : decode cX2_beat 289 = .ok (.iadd, 1) := by decide +kernel
theorem dX2_beat_290 : decode cX2_beat 290 = .ok (.iastore, 1) := by decide +kernel
theorem dX2_beat_291 : decode cX2_beat 291 = .ok (.iload_n 3, 1) := by decide +kernel
theorem dX2_beat_292 : decode cX2_beat 292 = .ok (.ireturn, 1) := by decide +kernel
theorem dX2_beats_0 : decode cX2_beats 0 = .ok (.iconst 0, 1) := by decide +kernel
theorem dX2_beats_1 : decode cX2_beats 1 = .ok (.istore_n 2, 1) := by decide +kernel
theorem dX2_beats_2 : decode cX2_beats 2 = .ok (.iconst 0, 1) := by decide +kernel
theorem dX2_beats_3 : decode cX2_beats 3 = .ok (.istore_n 3, 1) := by decide +kernel
theorem dX2_beats_4 : decode cX2_beats 4 = .ok (.iload_n 3, 1) := by decide +kernel
theorem dX2_beats_5 : decode cX2_beats 5 = .ok (.iload_n 1, 1) := by decide +kernel
theorem dX2_beats_6 : decode cX2_beats 6 = .ok (.if_icmp .ge 16, 3) := by decide +kernel
theorem dX2_beats_9 : decode cX2_beats 9 = .ok (.iload_n 2, 1) := by decide +kernel
theorem dX2_beats_10 : decode cX2_beats 10 = .ok (.aload_n 0, 1) := by decide +kernel
theorem dX2_beats_11 : decode cX2_beats 11 = .ok (.invokevirtual 82, 3) := by decide +kernel
theorem dX2_beats_14 : decode cX2_beats 14 = .ok (.iadd, 1) := by decide +kernel
theorem dX2_beats_15 : decode cX2_beats 15 = .ok (.istore_n 2, 1) := by decide +kernel
theorem dX2_beats_16 : decode cX2_beats 16 = .ok (.iinc 3 1, 3) := by decide +kernel
theorem dX2_beats_19 : decode cX2_beats 19 = .ok (.goto (-15), 3) := by decide +kernel
theorem dX2_beats_22 : decode cX2_beats 22 = .ok (.iload_n 2, 1) := by decide +kernel
theorem dX2_beats_23 : decode cX2_beats 23 = .ok (.ireturn, 1) := by decide +kernel
theorem dX2_addPot_0 : decode cX2_addPot 0 = .ok (.aload_n 0, 1) := by decide +kernel
theorem dX2_addPot_1 : decode cX2_addPot 1 = .ok (.iconst 0, 1) := by decide +kernel
theorem dX2_addPot_2 : decode cX2_addPot 2 = .ok (.putfield 19, 3) := by decide +kernel
theorem dX2_addPot_5 : decode cX2_addPot 5 = .ok (.iload_n 1, 1) := by decide +kernel
theorem dX2_addPot_6 : decode cX2_addPot 6 = .ok (.iconst 0, 1) := by decide +kernel
theorem dX2_addPot_7 : decode cX2_addPot 7 = .ok (.iconst 3, 1) := by decide +kernel
theorem dX2_addPot_8 : decode cX2_addPot 8 = .ok (.invokestatic 26, 3) := by decide +kernel
theorem dX2_addPot_11 : decode cX2_addPot 11 = .ok (.ifCond .eq 23, 3) := by decide +kernel
theorem dX2_addPot_14 : decode cX2_addPot 14 = .ok (.iload_n 2, 1) := by decide +kernel
theorem dX2_addPot_15 : decode cX2_addPot 15 = .ok (.iconst 0, 1) := by decide +kernel
theorem dX2_addPot_16 : decode cX2_addPot 16 = .ok (.bipush 35, 2) := by decide +kernel
theorem dX2_addPot_18 : decode cX2_addPot 18 = .ok (.invokestatic 26, 3) := by decide +kernel
theorem dX2_addPot_21 : decode cX2_addPot 21 = .ok (.ifCond .eq 13, 3) := by decide +kernel
theorem dX2_addPot_24 : decode cX2_addPot 24 = .ok (.iload_n 3, 1) := by decide +kernel
theorem dX2_addPot_25 : decode cX2_addPot 25 = .ok (.iconst 0, 1) := by decide +kernel
theorem dX2_addPot_26 : decode cX2_addPot 26 = .ok (.bipush 20, 2) := by decide +kernel
theorem dX2_addPot_28 : decode cX2_addPot 28 = .ok (.invokestatic 26, 3) := by decide +kernel
theorem dX2_addPot_31 : decode cX2_addPot 31 = .ok (.ifCond .ne 9, 3) := by decide +kernel
theorem dX2_addPot_34 : decode cX2_addPot 34 = .ok (.aload_n 0, 1) := by decide +kernel
theorem dX2_addPot_35 : decode cX2_addPot 35 = .ok (.iconst 1, 1) := by decide +kernel
theorem dX2_addPot_36 : decode cX2_addPot 36 = .ok (.invokevirtual 85, 3) := by decide +kernel
theorem dX2_addPot_39 : decode cX2_addPot 39 = .ok (.ireturn, 1) := by decide +kernel
theorem dX2_addPot_40 : decode cX2_addPot 40 = .ok (.aload_n 0, 1) := by decide +kernel
theorem dX2_addPot_41 : decode cX2_addPot 41 = .ok (.getfield 23, 3) := by decide +kernel
theorem dX2_addPot_44 : decode cX2_addPot 44 = .ok (.bipush 10, 2) := by decide +kernel
theorem dX2_addPot_46 : decode cX2_addPot 46 = .ok (.if_icmp .ne 9, 3) := by decide +kernel
theorem dX2_addPot_49 : decode cX2_addPot 49 = .ok (.aload_n 0, 1) := by decide +kernel
theorem dX2_addPot_50 : decode cX2_addPot 50 = .ok (.iconst 2, 1) := by decide +kernel
theorem dX2_addPot_51 : decode cX2_addPot 51 = .ok (.invokevirtual 85, 3) := by decide +kernel
theorem dX2_addPot_54 : decode cX2_addPot 54 = .ok (.ireturn, 1) := by decide +kernel
theorem dX2_addPot_55 : decode cX2_addPot 55 = .ok (.aload_n 0, 1) := by decide +kernel
theorem dX2_addPot_56 : decode cX2_addPot 56 = .ok (.getfield 9, 3) := by decide +kernel
theorem dX2_addPot_59 : decode cX2_addPot 59 = .ok (.aload_n 0, 1) := by decide +kernel
theorem dX2_addPot_60 : decode cX2_addPot 60 = .ok (.getfield 23, 3) := by decide +kernel
theorem dX2_addPot_63 : decode cX2_addPot 63 = .ok (.iload_n 1, 1) := by decide +kernel
theorem dX2_addPot_64 : decode cX2_addPot 64 = .ok (.iastore, 1) := by decide +kernel
theorem dX2_addPot_65 : decode cX2_addPot 65 = .ok (.aload_n 0, 1) := by decide +kernel
theorem dX2_addPot_66 : decode cX2_addPot 66 = .ok (.getfield 13, 3) := by decide +kernel
theorem dX2_addPot_69 : decode cX2_addPot 69 = .ok (.iconst 3, 1) := by decide +kernel
theorem dX2_addPot_70 : decode cX2_addPot 70 = .ok (.aload_n 0, 1) := by decide +kernel
theorem dX2_addPot_71 : decode cX2_addPot 71 = .ok (.getfield 23, 3) := by decide +kernel
theorem dX2_addPot_74 : decode cX2_addPot 74 = .ok (.iadd, 1) := by decide +kernel
theorem dX2_addPot_75 : decode cX2_addPot 75 = .ok (.iload_n 2, 1) := by decide +kernel
theorem dX2_addPot_76 : decode cX2_addPot 76 = .ok (.iastore, 1) := by decide +kernel
theorem dX2_addPot_77 : decode cX2_addPot 77 = .ok (.aload_n 0, 1) := by decide +kernel
theorem dX2_addPot_78 : decode cX2_addPot 78 = .ok (.getfield 13, 3) := by decide +kernel
theorem dX2_addPot_81 : decode cX2_addPot 81 = .ok (.bipush 13, 2) := by decide +kernel
theorem dX2_addPot_83 : decode cX2_addPot 83 = .ok (.aload_n 0, 1) := by decide +kernel
theorem dX2_addPot_84 : decode cX2_addPot 84 = .ok (.getfield 23, 3) := by decide +kernel
theorem dX2_addPot_87 : decode cX2_addPot 87 = .ok (.iadd, 1) := by decide +kernel
theorem dX2_addPot_88 : decode cX2_addPot 88 = .ok (.iload_n 3, 1) := by decide +kernel
theorem dX2_addPot_89 : decode cX2_addPot 89 = .ok (.iastore, 1) := by decide +kernel
theorem dX2_addPot_90 : decode cX2_addPot 90 = .ok (.aload_n 0, 1) := by decide +kernel
theorem dX2_addPot_91 : decode cX2_addPot 91 = .ok (.dup, 1) := by decide +kernel
theorem dX2_addPot_92 : decode cX2_addPot 92 = .ok (.getfield 23, 3) := by decide +kernel
theorem dX2_addPot_95 : decode cX2_addPot 95 = .ok (.iconst 1, 1) := by decide +kernel
theorem dX2_addPot_96 : decode cX2_addPot 96 = .ok (.iadd, 1) := by decide +kernel
theorem dX2_addPot_97 : decode cX2_addPot 97 = .ok (.putfield 23, 3) := by decide +kernel
theorem dX2_addPot_100 : decode cX2_addPot 100 = .ok (.aload_n 0, 1) := by decide +kernel
theorem dX2_addPot_101 : decode cX2_addPot 101 = .ok (.getfield 23, 3) := by decide +kernel
theorem dX2_addPot_104 : decode cX2_addPot 104 = .ok (.iconst 1, 1) := by decide +kernel
theorem dX2_addPot_105 : decode cX2_addPot 105 = .ok (.isub, 1) := by decide +kernel
theorem dX2_addPot_106 : decode cX2_addPot 106 = .ok (.ireturn, 1) := by decide +kernel
theorem dX2_tune_0 : decode cX2_tune 0 = .ok (.aload_n 0, 1) := by decide +kernel
theorem dX2_tune_1 : decode cX2_tune 1 = .ok (.iconst 0, 1) := by decide +kernel
theorem dX2_tune_2 : decode cX2_tune 2 = .ok (.putfield 19, 3) := by decide +kernel
theorem dX2_tune_5 : decode cX2_tune 5 = .ok (.aload_n 0, 1) := by decide +kernel
theorem dX2_tune_6 : decode cX2_tune 6 = .ok (.iload_n 1, 1) := by decide +kernel
theorem dX2_tune_7 : decode cX2_tune 7 = .ok (.invokevirtual 88, 3) := by decide +kernel
theorem dX2_tune_10 : decode cX2_tune 10 = .ok (.ifCond .ne 9, 3) := by decide +kernel
theorem dX2_tune_13 : decode cX2_tune 13 = .ok (.aload_n 0, 1) := by decide +kernel
theorem dX2_tune_14 : decode cX2_tune 14 = .ok (.iconst 1, 1) := by decide +kernel
theorem dX2_tune_15 : decode cX2_tune 15 = .ok (.invokevirtual 85, 3) := by decide +kernel
theorem dX2_tune_18 : decode cX2_tune 18 = .ok (.ireturn, 1) := by decide +kernel
theorem dX2_tune_19 : decode cX2_tune 19 = .ok (.iload_n 2, 1) := by decide +kernel
theorem dX2_tune_20 : decode cX2_tune 20 = .ok (.bipush (-12), 2) := by decide +kernel
theorem dX2_tune_22 : decode cX2_tune 22 = .ok (.bipush 12, 2) := by decide +kernel
theorem dX2_tune_24 : decode cX2_tune 24 = .ok (.invokestatic 26, 3) := by decide +kernel
theorem dX2_tune_27 : decode cX2_tune 27 = .ok (.ifCond .eq 22, 3) := by decide +kernel
theorem dX2_tune_30 : decode cX2_tune 30 = .ok (.aload_n 0, 1) := by decide +kernel
theorem dX2_tune_31 : decode cX2_tune 31 = .ok (.getfield 13, 3) := by decide +kernel
theorem dX2_tune_34 : decode cX2_tune 34 = .ok (.iconst 3, 1) := by decide +kernel
theorem dX2_tune_35 : decode cX2_tune 35 = .ok (.iload_n 1, 1) := by decide +kernel
theorem dX2_tune_36 : decode cX2_tune 36 = .ok (.iadd, 1) := by decide +kernel
theorem dX2_tune_37 : decode cX2_tune 37 = .ok (.iaload, 1) := by decide +kernel
theorem dX2_tune_38 : decode cX2_tune 38 = .ok (.iload_n 2, 1) := by decide +kernel
theorem dX2_tune_39 : decode cX2_tune 39 = .ok (.iadd, 1) := by decide +kernel
theorem dX2_tune_40 : decode cX2_tune 40 = .ok (.iconst 0, 1) := by decide +kernel
theorem dX2_tune_41 : decode cX2_tune 41 = .ok (.bipush 35, 2) := by decide +kernel
theorem dX2_tune_43 : decode cX2_tune 43 = .ok (.invokestatic 26, 3) := by decide +kernel
theorem dX2_tune_46 : decode cX2_tune 46 = .ok (.ifCond .ne 9, 3) := by decide +kernel
theorem dX2_tune_49 : decode cX2_tune 49 = .ok (.aload_n 0, 1) := by decide +kernel
theorem dX2_tune_50 : decode cX2_tune 50 = .ok (.iconst 2, 1) := by decide +kernel
theorem dX2_tune_51 : decode cX2_tune 51 = .ok (.invokevirtual 85, 3) := by decide +kernel
theorem dX2_tune_54 : decode cX2_tune 54 = .ok (.ireturn, 1) := by decide +kernel
theorem dX2_tune_55 : decode cX2_tune 55 = .ok (.aload_n 0, 1) := by decide +kernel
theorem dX2_tune_56 : decode cX2_tune 56 = .ok (.getfield 13, 3) := by decide +kernel
theorem dX2_tune_59 : decode cX2_tune 59 = .ok (.iconst 3, 1) := by decide +kernel
theorem dX2_tune_60 : decode cX2_tune 60 = .ok (.iload_n 1, 1) := by decide +kernel
theorem dX2_tune_61 : decode cX2_tune 61 = .ok (.iadd, 1) := by decide +kernel
theorem dX2_tune_62 : decode cX2_tune 62 = .ok (.dup2, 1) := by decide +kernel
theorem dX2_tune_63 : decode cX2_tune 63 = .ok (.iaload, 1) := by decide +kernel
theorem dX2_tune_64 : decode cX2_tune 64 = .ok (.iload_n 2, 1) := by decide +kernel
theorem dX2_tune_65 : decode cX2_tune 65 = .ok (.iadd, 1) := by decide +kernel
theorem dX2_tune_66 : decode cX2_tune 66 = .ok (.iastore, 1) := by decide +kernel
theorem dX2_tune_67 : decode cX2_tune 67 = .ok (.aload_n 0, 1) := by decide +kernel
theorem dX2_tune_68 : decode cX2_tune 68 = .ok (.getfield 13, 3) := by decide +kernel
theorem dX2_tune_71 : decode cX2_tune 71 = .ok (.iconst 3, 1) := by decide +kernel
theorem dX2_tune_72 : decode cX2_tune 72 = .ok (.iload_n 1, 1) := by decide +kernel
theorem dX2_tune_73 : decode cX2_tune 73 = .ok (.iadd, 1) := by decide +kernel
theorem dX2_tune_74 : decode cX2_tune 74 = .ok (.iaload, 1) := by decide +kernel
theorem dX2_tune_75 : decode cX2_tune 75 = .ok (.ireturn, 1) := by decide +kernel
theorem dX2_turnCosy_0 : decode cX2_turnCosy 0 = .ok (.aload_n 0, 1) := by decide +kernel
theorem dX2_turnCosy_1 : decode cX2_turnCosy 1 = .ok (.iconst 0, 1) := by decide +kernel
theorem dX2_turnCosy_2 : decode cX2_turnCosy 2 = .ok (.putfield 19, 3) := by decide +kernel
theorem dX2_turnCosy_5 : decode cX2_turnCosy 5 = .ok (.aload_n 0, 1) := by decide +kernel
theorem dX2_turnCosy_6 : decode cX2_turnCosy 6 = .ok (.iload_n 1, 1) := by decide +kernel
theorem dX2_turnCosy_7 : decode cX2_turnCosy 7 = .ok (.invokevirtual 88, 3) := by decide +kernel
theorem dX2_turnCosy_10 : decode cX2_turnCosy 10 = .ok (.ifCond .ne 9, 3) := by decide +kernel
theorem dX2_turnCosy_13 : decode cX2_turnCosy 13 = .ok (.aload_n 0, 1) := by decide +kernel
theorem dX2_turnCosy_14 : decode cX2_turnCosy 14 = .ok (.iconst 1, 1) := by decide +kernel
theorem dX2_turnCosy_15 : decode cX2_turnCosy 15 = .ok (.invokevirtual 91, 3) := by decide +kernel
theorem dX2_turnCosy_18 : decode cX2_turnCosy 18 = .ok (.ireturn, 1) := by decide +kernel
theorem dX2_turnCosy_19 : decode cX2_turnCosy 19 = .ok (.aload_n 0, 1) := by decide +kernel
theorem dX2_turnCosy_20 : decode cX2_turnCosy 20 = .ok (.dup, 1) := by decide +kernel
theorem dX2_turnCosy_21 : decode cX2_turnCosy 21 = .ok (.getfield 36, 3) := by decide +kernel
theorem dX2_turnCosy_24 : decode cX2_turnCosy 24 = .ok (.iconst 1, 1) := by decide +kernel
theorem dX2_turnCosy_25 : decode cX2_turnCosy 25 = .ok (.iload_n 1, 1) := by decide +kernel
theorem dX2_turnCosy_26 : decode cX2_turnCosy 26 = .ok (.ishl, 1) := by decide +kernel
theorem dX2_turnCosy_27 : decode cX2_turnCosy 27 = .ok (.ixor, 1) := by decide +kernel
theorem dX2_turnCosy_28 : decode cX2_turnCosy 28 = .ok (.putfield 36, 3) := by decide +kernel
theorem dX2_turnCosy_31 : decode cX2_turnCosy 31 = .ok (.aload_n 0, 1) := by decide +kernel
theorem dX2_turnCosy_32 : decode cX2_turnCosy 32 = .ok (.getfield 36, 3) := by decide +kernel
theorem dX2_turnCosy_35 : decode cX2_turnCosy 35 = .ok (.iload_n 1, 1) := by decide +kernel
theorem dX2_turnCosy_36 : decode cX2_turnCosy 36 = .ok (.ishr, 1) := by decide +kernel
theorem dX2_turnCosy_37 : decode cX2_turnCosy 37 = .ok (.iconst 1, 1) := by decide +kernel
theorem dX2_turnCosy_38 : decode cX2_turnCosy 38 = .ok (.iand, 1) := by decide +kernel
theorem dX2_turnCosy_39 : decode cX2_turnCosy 39 = .ok (.iconst 1, 1) := by decide +kernel
theorem dX2_turnCosy_40 : decode cX2_turnCosy 40 = .ok (.if_icmp .ne 7, 3) := by decide +kernel
theorem dX2_turnCosy_43 : decode cX2_turnCosy 43 = .ok (.iconst 1, 1) := by decide +kernel
theorem dX2_turnCosy_44 : decode cX2_turnCosy 44 = .ok (.goto 4, 3) := by decide +kernel
theorem dX2_turnCosy_47 : decode cX2_turnCosy 47 = .ok (.iconst 0, 1) := by decide +kernel
theorem dX2_turnCosy_48 : decode cX2_turnCosy 48 = .ok (.ireturn, 1) := by decide +kernel
theorem dX2_pour_0 : decode cX2_pour 0 = .ok (.aload_n 0, 1) := by decide +kernel
theorem dX2_pour_1 : decode cX2_pour 1 = .ok (.iconst 0, 1) := by decide +kernel
theorem dX2_pour_2 : decode cX2_pour 2 = .ok (.putfield 19, 3) := by decide +kernel
theorem dX2_pour_5 : decode cX2_pour 5 = .ok (.aload_n 0, 1) := by decide +kernel
theorem dX2_pour_6 : decode cX2_pour 6 = .ok (.iload_n 1, 1) := by decide +kernel
theorem dX2_pour_7 : decode cX2_pour 7 = .ok (.invokevirtual 88, 3) := by decide +kernel
theorem dX2_pour_10 : decode cX2_pour 10 = .ok (.ifCond .eq 11, 3) := by decide +kernel
theorem dX2_pour_13 : decode cX2_pour 13 = .ok (.aload_n 0, 1) := by decide +kernel
theorem dX2_pour_14 : decode cX2_pour 14 = .ok (.iload_n 2, 1) := by decide +kernel
theorem dX2_pour_15 : decode cX2_pour 15 = .ok (.invokevirtual 88, 3) := by decide +kernel
theorem dX2_pour_18 : decode cX2_pour 18 = .ok (.ifCond .ne 9, 3) := by decide +kernel
theorem dX2_pour_21 : decode cX2_pour 21 = .ok (.aload_n 0, 1) := by decide +kernel
theorem dX2_pour_22 : decode cX2_pour 22 = .ok (.iconst 1, 1) := by decide +kernel
theorem dX2_pour_23 : decode cX2_pour 23 = .ok (.invokevirtual 85, 3) := by decide +kernel
theorem dX2_pour_26 : decode cX2_pour 26 = .ok (.ireturn, 1) := by decide +kernel
theorem dX2_pour_27 : decode cX2_pour 27 = .ok (.iload_n 1, 1) := by decide +kernel
theorem dX2_pour_28 : decode cX2_pour 28 = .ok (.iload_n 2, 1) := by decide +kernel
theorem dX2_pour_29 : decode cX2_pour 29 = .ok (.if_icmp .eq 13, 3) := by decide +kernel
theorem dX2_pour_32 : decode cX2_pour 32 = .ok (.iload_n 3, 1) := by decide +kernel
theorem dX2_pour_33 : decode cX2_pour 33 = .ok (.iconst 1, 1) := by decide +kernel
theorem dX2_pour_34 : decode cX2_pour 34 = .ok (.bipush 20, 2) := by decide +kernel
theorem dX2_pour_36 : decode cX2_pour 36 = .ok (.invokestatic 26, 3) := by decide +kernel
theorem dX2_pour_39 : decode cX2_pour 39 = .ok (.ifCond .ne 9, 3) := by decide +kernel
theorem dX2_pour_42 : decode cX2_pour 42 = .ok (.aload_n 0, 1) := by decide +kernel
theorem dX2_pour_43 : decode cX2_pour 43 = .ok (.iconst 2, 1) := by decide +kernel
theorem dX2_pour_44 : decode cX2_pour 44 = .ok (.invokevirtual 85, 3) := by decide +kernel
theorem dX2_pour_47 : decode cX2_pour 47 = .ok (.ireturn, 1) := by decide +kernel
theorem dX2_pour_48 : decode cX2_pour 48 = .ok (.iload_n 3, 1) := by decide +kernel
theorem dX2_pour_49 : decode cX2_pour 49 = .ok (.aload_n 0, 1) := by decide +kernel
theorem dX2_pour_50 : decode cX2_pour 50 = .ok (.getfield 13, 3) := by decide +kernel
theorem dX2_pour_53 : decode cX2_pour 53 = .ok (.bipush 13, 2) := by decide +kernel
theorem dX2_pour_55 : decode cX2_pour 55 = .ok (.iload_n 1, 1) := by decide +kernel
theorem dX2_pour_56 : decode cX2_pour 56 = .ok (.iadd, 1) := by decide +kernel
theorem dX2_pour_57 : decode cX2_pour 57 = .ok (.iaload, 1) := by decide +kernel
theorem dX2_pour_58 : decode cX2_pour 58 = .ok (.bipush 20, 2) := by decide +kernel
theorem dX2_pour_60 : decode cX2_pour 60 = .ok (.aload_n 0, 1) := by decide +kernel
theorem dX2_pour_61 : decode cX2_pour 61 = .ok (.getfield 13, 3) := by decide +kernel
theorem dX2_pour_64 : decode cX2_pour 64 = .ok (.bipush 13, 2) := by decide +kernel
theorem dX2_pour_66 : decode cX2_pour 66 = .ok (.iload_n 2, 1) := by decide +kernel
theorem dX2_pour_67 : decode cX2_pour 67 = .ok (.iadd, 1) := by decide +kernel
theorem dX2_pour_68 : decode cX2_pour 68 = .ok (.iaload, 1) := by decide +kernel
theorem dX2_pour_69 : decode cX2_pour 69 = .ok (.isub, 1) := by decide +kernel
theorem dX2_pour_70 : decode cX2_pour 70 = .ok (.invokestatic 79, 3) := by decide +kernel
theorem dX2_pour_73 : decode cX2_pour 73 = .ok (.invokestatic 79, 3) := by decide +kernel
theorem dX2_pour_76 : decode cX2_pour 76 = .ok (.istore 4, 2) := by decide +kernel
theorem dX2_pour_78 : decode cX2_pour 78 = .ok (.aload_n 0, 1) := by decide +kernel
theorem dX2_pour_79 : decode cX2_pour 79 = .ok (.getfield 13, 3) := by decide +kernel
theorem dX2_pour_82 : decode cX2_pour 82 = .ok (.bipush 13, 2) := by decide +kernel
theorem dX2_pour_84 : decode cX2_pour 84 = .ok (.iload_n 1, 1) := by decide +kernel
theorem dX2_pour_85 : decode cX2_pour 85 = .ok (.iadd, 1) := by decide +kernel
theorem dX2_pour_86 : decode cX2_pour 86 = .ok (.dup2, 1) := by decide +kernel
theorem dX2_pour_87 : decode cX2_pour 87 = .ok (.iaload, 1) := by decide +kernel
theorem dX2_pour_88 : decode cX2_pour 88 = .ok (.iload 4, 2) := by decide +kernel
theorem dX2_pour_90 : decode cX2_pour 90 = .ok (.isub, 1) := by decide +kernel
theorem dX2_pour_91 : decode cX2_pour 91 = .ok (.iastore, 1) := by decide +kernel
theorem dX2_pour_92 : decode cX2_pour 92 = .ok (.aload_n 0, 1) := by decide +kernel
theorem dX2_pour_93 : decode cX2_pour 93 = .ok (.getfield 13, 3) := by decide +kernel
theorem dX2_pour_96 : decode cX2_pour 96 = .ok (.bipush 13, 2) := by decide +kernel
theorem dX2_pour_98 : decode cX2_pour 98 = .ok (.iload_n 2, 1) := by decide +kernel
theorem dX2_pour_99 : decode cX2_pour 99 = .ok (.iadd, 1) := by decide +kernel
theorem dX2_pour_100 : decode cX2_pour 100 = .ok (.dup2, 1) := by decide +kernel
theorem dX2_pour_101 : decode cX2_pour 101 = .ok (.iaload, 1) := by decide +kernel
theorem dX2_pour_102 : decode cX2_pour 102 = .ok (.iload 4, 2) := by decide +kernel
theorem dX2_pour_104 : decode cX2_pour 104 = .ok (.iadd, 1) := by decide +kernel
theorem dX2_pour_105 : decode cX2_pour 105 = .ok (.iastore, 1) := by decide +kernel
theorem dX2_pour_106 : decode cX2_pour 106 = .ok (.iload 4, 2) := by decide +kernel
theorem dX2_pour_108 : decode cX2_pour 108 = .ok (.ireturn, 1) := by decide +kernel
theorem dX2_fill_0 : decode cX2_fill 0 = .ok (.aload_n 0, 1) := by decide +kernel
theorem dX2_fill_1 : decode cX2_fill 1 = .ok (.iconst 0, 1) := by decide +kernel
theorem dX2_fill_2 : decode cX2_fill 2 = .ok (.putfield 19, 3) := by decide +kernel
theorem dX2_fill_5 : decode cX2_fill 5 = .ok (.aload_n 0, 1) := by decide +kernel
theorem dX2_fill_6 : decode cX2_fill 6 = .ok (.iload_n 1, 1) := by decide +kernel
theorem dX2_fill_7 : decode cX2_fill 7 = .ok (.invokevirtual 88, 3) := by decide +kernel
theorem dX2_fill_10 : decode cX2_fill 10 = .ok (.ifCond .ne 9, 3) := by decide +kernel
theorem dX2_fill_13 : decode cX2_fill 13 = .ok (.aload_n 0, 1) := by decide +kernel
theorem dX2_fill_14 : decode cX2_fill 14 = .ok (.iconst 1, 1) := by decide +kernel
theorem dX2_fill_15 : decode cX2_fill 15 = .ok (.invokevirtual 85, 3) := by decide +kernel
theorem dX2_fill_18 : decode cX2_fill 18 = .ok (.ireturn, 1) := by decide +kernel
theorem dX2_fill_19 : decode cX2_fill 19 = .ok (.bipush 20, 2) := by decide +kernel
theorem dX2_fill_21 : decode cX2_fill 21 = .ok (.aload_n 0, 1) := by decide +kernel
theorem dX2_fill_22 : decode cX2_fill 22 = .ok (.getfield 13, 3) := by decide +kernel
theorem dX2_fill_25 : decode cX2_fill 25 = .ok (.bipush 13, 2) := by decide +kernel
theorem dX2_fill_27 : decode cX2_fill 27 = .ok (.iload_n 1, 1) := by decide +kernel
theorem dX2_fill_28 : decode cX2_fill 28 = .ok (.iadd, 1) := by decide +kernel
theorem dX2_fill_29 : decode cX2_fill 29 = .ok (.iaload, 1) := by decide +kernel
theorem dX2_fill_30 : decode cX2_fill 30 = .ok (.isub, 1) := by decide +kernel
theorem dX2_fill_31 : decode cX2_fill 31 = .ok (.istore_n 2, 1) := by decide +kernel
theorem dX2_fill_32 : decode cX2_fill 32 = .ok (.aload_n 0, 1) := by decide +kernel
theorem dX2_fill_33 : decode cX2_fill 33 = .ok (.getfield 13, 3) := by decide +kernel
theorem dX2_fill_36 : decode cX2_fill 36 = .ok (.bipush 13, 2) := by decide +kernel
theorem dX2_fill_38 : decode cX2_fill 38 = .ok (.iload_n 1, 1) := by decide +kernel
theorem dX2_fill_39 : decode cX2_fill 39 = .ok (.iadd, 1) := by decide +kernel
theorem dX2_fill_40 : decode cX2_fill 40 = .ok (.bipush 20, 2) := by decide +kernel
theorem dX2_fill_42 : decode cX2_fill 42 = .ok (.iastore, 1) := by decide +kernel
theorem dX2_fill_43 : decode cX2_fill 43 = .ok (.iload_n 2, 1) := by decide +kernel
theorem dX2_fill_44 : decode cX2_fill 44 = .ok (.ireturn, 1) := by decide +kernel
theorem dX2_mend_0 : decode cX2_mend 0 = .ok (.aload_n 0, 1) := by decide +kernel
theorem dX2_mend_1 : decode cX2_mend 1 = .ok (.iconst 0, 1) := by decide +kernel
theorem dX2_mend_2 : decode cX2_mend 2 = .ok (.putfield 19, 3) := by decide +kernel
theorem dX2_mend_5 : decode cX2_mend 5 = .ok (.aload_n 0, 1) := by decide +kernel
theorem dX2_mend_6 : decode cX2_mend 6 = .ok (.iload_n 1, 1) := by decide +kernel
theorem dX2_mend_7 : decode cX2_mend 7 = .ok (.invokevirtual 88, 3) := by decide +kernel
theorem dX2_mend_10 : decode cX2_mend 10 = .ok (.ifCond .ne 9, 3) := by decide +kernel
theorem dX2_mend_13 : decode cX2_mend 13 = .ok (.aload_n 0, 1) := by decide +kernel
theorem dX2_mend_14 : decode cX2_mend 14 = .ok (.iconst 1, 1) := by decide +kernel
theorem dX2_mend_15 : decode cX2_mend 15 = .ok (.invokevirtual 85, 3) := by decide +kernel
theorem dX2_mend_18 : decode cX2_mend 18 = .ok (.ireturn, 1) := by decide +kernel
theorem dX2_mend_19 : decode cX2_mend 19 = .ok (.aload_n 0, 1) := by decide +kernel
theorem dX2_mend_20 : decode cX2_mend 20 = .ok (.getfield 13, 3) := by decide +kernel
theorem dX2_mend_23 : decode cX2_mend 23 = .ok (.bipush 23, 2) := by decide +kernel
theorem dX2_mend_25 : decode cX2_mend 25 = .ok (.iload_n 1, 1) := by decide +kernel
theorem dX2_mend_26 : decode cX2_mend 26 = .ok (.iadd, 1) := by decide +kernel
theorem dX2_mend_27 : decode cX2_mend 27 = .ok (.iaload, 1) := by decide +kernel
theorem dX2_mend_28 : decode cX2_mend 28 = .ok (.istore_n 2, 1) := by decide +kernel
theorem dX2_mend_29 : decode cX2_mend 29 = .ok (.aload_n 0, 1) := by decide +kernel
theorem dX2_mend_30 : decode cX2_mend 30 = .ok (.getfield 13, 3) := by decide +kernel
theorem dX2_mend_33 : decode cX2_mend 33 = .ok (.bipush 23, 2) := by decide +kernel
theorem dX2_mend_35 : decode cX2_mend 35 = .ok (.iload_n 1, 1) := by decide +kernel
theorem dX2_mend_36 : decode cX2_mend 36 = .ok (.iadd, 1) := by decide +kernel
theorem dX2_mend_37 : decode cX2_mend 37 = .ok (.iconst 0, 1) := by decide +kernel
theorem dX2_mend_38 : decode cX2_mend 38 = .ok (.iastore, 1) := by decide +kernel
theorem dX2_mend_39 : decode cX2_mend 39 = .ok (.aload_n 0, 1) := by decide +kernel
theorem dX2_mend_40 : decode cX2_mend 40 = .ok (.getfield 13, 3) := by decide +kernel
theorem dX2_mend_43 : decode cX2_mend 43 = .ok (.bipush 13, 2) := by decide +kernel
theorem dX2_mend_45 : decode cX2_mend 45 = .ok (.iload_n 1, 1) := by decide +kernel
theorem dX2_mend_46 : decode cX2_mend 46 = .ok (.iadd, 1) := by decide +kernel
theorem dX2_mend_47 : decode cX2_mend 47 = .ok (.iconst 0, 1) := by decide +kernel
theorem dX2_mend_48 : decode cX2_mend 48 = .ok (.iastore, 1) := by decide +kernel
theorem dX2_mend_49 : decode cX2_mend 49 = .ok (.iload_n 2, 1) := by decide +kernel
theorem dX2_mend_50 : decode cX2_mend 50 = .ok (.ireturn, 1) := by decide +kernel
theorem dX2_sing_0 : decode cX2_sing 0 = .ok (.aload_n 0, 1) := by decide +kernel
theorem dX2_sing_1 : decode cX2_sing 1 = .ok (.iconst 0, 1) := by decide +kernel
theorem dX2_sing_2 : decode cX2_sing 2 = .ok (.putfield 19, 3) := by decide +kernel
theorem dX2_sing_5 : decode cX2_sing 5 = .ok (.iload_n 1, 1) := by decide +kernel
theorem dX2_sing_6 : decode cX2_sing 6 = .ok (.iconst 1, 1) := by decide +kernel
theorem dX2_sing_7 : decode cX2_sing 7 = .ok (.bipush 60, 2) := by decide +kernel
theorem dX2_sing_9 : decode cX2_sing 9 = .ok (.invokestatic 26, 3) := by decide +kernel
theorem dX2_sing_12 : decode cX2_sing 12 = .ok (.ifCond .eq 11, 3) := by decide +kernel
theorem dX2_sing_15 : decode cX2_sing 15 = .ok (.aload_n 0, 1) := by decide +kernel
theorem dX2_sing_16 : decode cX2_sing 16 = .ok (.iload_n 1, 1) := by decide +kernel
theorem dX2_sing_17 : decode cX2_sing 17 = .ok (.invokevirtual 94, 3) := by decide +kernel
theorem dX2_sing_20 : decode cX2_sing 20 = .ok (.goto 8, 3) := by decide +kernel
theorem dX2_sing_23 : decode cX2_sing 23 = .ok (.aload_n 0, 1) := by decide +kernel
theorem dX2_sing_24 : decode cX2_sing 24 = .ok (.iconst 1, 1) := by decide +kernel
theorem dX2_sing_25 : decode cX2_sing 25 = .ok (.invokevirtual 85, 3) := by decide +kernel
theorem dX2_sing_28 : decode cX2_sing 28 = .ok (.ireturn, 1) := by decide +kernel
theorem dX2_pots_0 : decode cX2_pots 0 = .ok (.aload_n 0, 1) := by decide +kernel
theorem dX2_pots_1 : decode cX2_pots 1 = .ok (.aload_n 0, 1) := by decide +kernel
theorem dX2_pots_2 : decode cX2_pots 2 = .ok (.getfield 23, 3) := by decide +kernel
theorem dX2_pots_5 : decode cX2_pots 5 = .ok (.invokevirtual 97, 3) := by decide +kernel
theorem dX2_pots_8 : decode cX2_pots 8 = .ok (.ireturn, 1) := by decide +kernel
theorem dX2_partOf_0 : decode cX2_partOf 0 = .ok (.aload_n 0, 1) := by decide +kernel
theorem dX2_partOf_1 : decode cX2_partOf 1 = .ok (.iconst 0, 1) := by decide +kernel
theorem dX2_partOf_2 : decode cX2_partOf 2 = .ok (.putfield 19, 3) := by decide +kernel
theorem dX2_partOf_5 : decode cX2_partOf 5 = .ok (.aload_n 0, 1) := by decide +kernel
theorem dX2_partOf_6 : decode cX2_partOf 6 = .ok (.iload_n 1, 1) := by decide +kernel
theorem dX2_partOf_7 : decode cX2_partOf 7 = .ok (.invokevirtual 88, 3) := by decide +kernel
theorem dX2_partOf_10 : decode cX2_partOf 10 = .ok (.ifCond .eq 12, 3) := by decide +kernel
theorem dX2_partOf_13 : decode cX2_partOf 13 = .ok (.aload_n 0, 1) := by decide +kernel
theorem dX2_partOf_14 : decode cX2_partOf 14 = .ok (.getfield 9, 3) := by decide +kernel
theorem dX2_partOf_17 : decode cX2_partOf 17 = .ok (.iload_n 1, 1) := by decide +kernel
theorem dX2_partOf_18 : decode cX2_partOf 18 = .ok (.iaload, 1) := by decide +kernel
theorem dX2_partOf_19 : decode cX2_partOf 19 = .ok (.goto 8, 3) := by decide +kernel
theorem dX2_partOf_22 : decode cX2_partOf 22 = .ok (.aload_n 0, 1) := by decide +kernel
theorem dX2_partOf_23 : decode cX2_partOf 23 = .ok (.iconst 1, 1) := by decide +kernel
theorem dX2_partOf_24 : decode cX2_partOf 24 = .ok (.invokevirtual 85, 3) := by decide +kernel
theorem dX2_partOf_27 : decode cX2_partOf 27 = .ok (.ireturn, 1) := by decide +kernel
theorem dX2_of_0 : decode cX2_of 0 = .ok (.aload_n 0, 1) := by decide +kernel
theorem dX2_of_1 : decode cX2_of 1 = .ok (.iconst 0, 1) := by decide +kernel
theorem dX2_of_2 : decode cX2_of 2 = .ok (.putfield 19, 3) := by decide +kernel
theorem dX2_of_5 : decode cX2_of 5 = .ok (.aload_n 0, 1) := by decide +kernel
theorem dX2_of_6 : decode cX2_of 6 = .ok (.iload_n 1, 1) := by decide +kernel
theorem dX2_of_7 : decode cX2_of 7 = .ok (.invokevirtual 88, 3) := by decide +kernel
theorem dX2_of_10 : decode cX2_of 10 = .ok (.ifCond .eq 14, 3) := by decide +kernel
theorem dX2_of_13 : decode cX2_of 13 = .ok (.aload_n 0, 1) := by decide +kernel
theorem dX2_of_14 : decode cX2_of 14 = .ok (.getfield 13, 3) := by decide +kernel
theorem dX2_of_17 : decode cX2_of 17 = .ok (.iload_n 2, 1) := by decide +kernel
theorem dX2_of_18 : decode cX2_of 18 = .ok (.iload_n 1, 1) := by decide +kernel
theorem dX2_of_19 : decode cX2_of 19 = .ok (.iadd, 1) := by decide +kernel
theorem dX2_of_20 : decode cX2_of 20 = .ok (.iaload, 1) := by decide +kernel
theorem dX2_of_21 : decode cX2_of 21 = .ok (.goto 8, 3) := by decide +kernel
theorem dX2_of_24 : decode cX2_of 24 = .ok (.aload_n 0, 1) := by decide +kernel
theorem dX2_of_25 : decode cX2_of 25 = .ok (.iconst 1, 1) := by decide +kernel
theorem dX2_of_26 : decode cX2_of 26 = .ok (.invokevirtual 85, 3) := by decide +kernel
theorem dX2_of_29 : decode cX2_of 29 = .ok (.ireturn, 1) := by decide +kernel
theorem dX2_pitchOf_0 : decode cX2_pitchOf 0 = .ok (.aload_n 0, 1) := by decide +kernel
theorem dX2_pitchOf_1 : decode cX2_pitchOf 1 = .ok (.iload_n 1, 1) := by decide +kernel
theorem dX2_pitchOf_2 : decode cX2_pitchOf 2 = .ok (.iconst 3, 1) := by decide +kernel
theorem dX2_pitchOf_3 : decode cX2_pitchOf 3 = .ok (.invokevirtual 100, 3) := by decide +kernel
theorem dX2_pitchOf_6 : decode cX2_pitchOf 6 = .ok (.ireturn, 1) := by decide +kernel
theorem dX2_teaOf_0 : decode cX2_teaOf 0 = .ok (.aload_n 0, 1) := by decide +kernel
theorem dX2_teaOf_1 : decode cX2_teaOf 1 = .ok (.iload_n 1, 1) := by decide +kernel
theorem dX2_teaOf_2 : decode cX2_teaOf 2 = .ok (.bipush 13, 2) := by decide +kernel
theorem dX2_teaOf_4 : decode cX2_teaOf 4 = .ok (.invokevirtual 100, 3) := by decide +kernel
theorem dX2_teaOf_7 : decode cX2_teaOf 7 = .ok (.ireturn, 1) := by decide +kernel
theorem dX2_crackOf_0 : decode cX2_crackOf 0 = .ok (.aload_n 0, 1) := by decide +kernel
theorem dX2_crackOf_1 : decode cX2_crackOf 1 = .ok (.iload_n 1, 1) := by decide +kernel
theorem dX2_crackOf_2 : decode cX2_crackOf 2 = .ok (.bipush 23, 2) := by decide +kernel
theorem dX2_crackOf_4 : decode cX2_crackOf 4 = .ok (.invokevirtual 100, 3) := by decide +kernel
theorem dX2_crackOf_7 : decode cX2_crackOf 7 = .ok (.ireturn, 1) := by decide +kernel
theorem dX2_sounds_0 : decode cX2_sounds 0 = .ok (.aload_n 0, 1) := by decide +kernel
theorem dX2_sounds_1 : decode cX2_sounds 1 = .ok (.iconst 0, 1) := by decide +kernel
theorem dX2_sounds_2 : decode cX2_sounds 2 = .ok (.putfield 19, 3) := by decide +kernel
theorem dX2_sounds_5 : decode cX2_sounds 5 = .ok (.aload_n 0, 1) := by decide +kernel
theorem dX2_sounds_6 : decode cX2_sounds 6 = .ok (.iload_n 1, 1) := by decide +kernel
theorem dX2_sounds_7 : decode cX2_sounds 7 = .ok (.invokevirtual 88, 3) := by decide +kernel
theorem dX2_sounds_10 : decode cX2_sounds 10 = .ok (.ifCond .eq 11, 3) := by decide +kernel
theorem dX2_sounds_13 : decode cX2_sounds 13 = .ok (.aload_n 0, 1) := by decide +kernel
theorem dX2_sounds_14 : decode cX2_sounds 14 = .ok (.iload_n 1, 1) := by decide +kernel
theorem dX2_sounds_15 : decode cX2_sounds 15 = .ok (.invokevirtual 39, 3) := by decide +kernel
theorem dX2_sounds_18 : decode cX2_sounds 18 = .ok (.goto 8, 3) := by decide +kernel
theorem dX2_sounds_21 : decode cX2_sounds 21 = .ok (.aload_n 0, 1) := by decide +kernel
theorem dX2_sounds_22 : decode cX2_sounds 22 = .ok (.iconst 1, 1) := by decide +kernel
theorem dX2_sounds_23 : decode cX2_sounds 23 = .ok (.invokevirtual 91, 3) := by decide +kernel
theorem dX2_sounds_26 : decode cX2_sounds 26 = .ok (.ireturn, 1) := by decide +kernel
theorem dX2_soundingOf_0 : decode cX2_soundingOf 0 = .ok (.aload_n 0, 1) := by decide +kernel
theorem dX2_soundingOf_1 : decode cX2_soundingOf 1 = .ok (.iconst 0, 1) := by decide +kernel
theorem dX2_soundingOf_2 : decode cX2_soundingOf 2 = .ok (.putfield 19, 3) := by decide +kernel
theorem dX2_soundingOf_5 : decode cX2_soundingOf 5 = .ok (.iload_n 1, 1) := by decide +kernel
theorem dX2_soundingOf_6 : decode cX2_soundingOf 6 = .ok (.iconst 0, 1) := by decide +kernel
theorem dX2_soundingOf_7 : decode cX2_soundingOf 7 = .ok (.iconst 3, 1) := by decide +kernel
theorem dX2_soundingOf_8 : decode cX2_soundingOf 8 = .ok (.invokestatic 26, 3) := by decide +kernel
theorem dX2_soundingOf_11 : decode cX2_soundingOf 11 = .ok (.ifCond .ne 9, 3) := by decide +kernel
theorem dX2_soundingOf_14 : decode cX2_soundingOf 14 = .ok (.aload_n 0, 1) := by decide +kernel
theorem dX2_soundingOf_15 : decode cX2_soundingOf 15 = .ok (.iconst 1, 1) := by decide +kernel
theorem dX2_soundingOf_16 : decode cX2_soundingOf 16 = .ok (.invokevirtual 85, 3) := by decide +kernel
theorem dX2_soundingOf_19 : decode cX2_soundingOf 19 = .ok (.ireturn, 1) := by decide +kernel
theorem dX2_soundingOf_20 : decode cX2_soundingOf 20 = .ok (.iconst 0, 1) := by decide +kernel
theorem dX2_soundingOf_21 : decode cX2_soundingOf 21 = .ok (.istore_n 2, 1) := by decide +kernel
theorem dX2_soundingOf_22 : decode cX2_soundingOf 22 = .ok (.iconst 0, 1) := by decide +kernel
theorem dX2_soundingOf_23 : decode cX2_soundingOf 23 = .ok (.istore_n 3, 1) := by decide +kernel
theorem dX2_soundingOf_24 : decode cX2_soundingOf 24 = .ok (.iload_n 3, 1) := by decide +kernel
theorem dX2_soundingOf_25 : decode cX2_soundingOf 25 = .ok (.aload_n 0, 1) := by decide +kernel
theorem dX2_soundingOf_26 : decode cX2_soundingOf 26 = .ok (.getfield 23, 3) := by decide +kernel
theorem dX2_soundingOf_29 : decode cX2_soundingOf 29 = .ok (.if_icmp .ge 35, 3) := by decide +kernel
theorem dX2_soundingOf_32 : decode cX2_soundingOf 32 = .ok (.iload_n 2, 1) := by decide +kernel
theorem dX2_soundingOf_33 : decode cX2_soundingOf 33 = .ok (.aload_n 0, 1) := by decide +kernel
theorem dX2_soundingOf_34 : decode cX2_soundingOf 34 = .ok (.iload_n 3, 1) := by decide +kernel
theorem dX2_soundingOf_35 : decode cX2_soundingOf 35 = .ok (.invokevirtual 39, 3) := by decide +kernel
theorem dX2_soundingOf_38 : decode cX2_soundingOf 38 = .ok (.ifCond .eq 17, 3) := by decide +kernel
theorem dX2_soundingOf_41 : decode cX2_soundingOf 41 = .ok (.aload_n 0, 1) := by decide +kernel
theorem dX2_soundingOf_42 : decode cX2_soundingOf 42 = .ok (.getfield 9, 3) := by decide +kernel
theorem dX2_soundingOf_45 : decode cX2_soundingOf 45 = .ok (.iload_n 3, 1) := by decide +kernel
theorem dX2_soundingOf_46 : decode cX2_soundingOf 46 = .ok (.iaload, 1) := by decide +kernel
theorem dX2_soundingOf_47 : decode cX2_soundingOf 47 = .ok (.iload_n 1, 1) := by decide +kernel
theorem dX2_soundingOf_48 : decode cX2_soundingOf 48 = .ok (.if_icmp .ne 7, 3) := by decide +kernel
theorem dX2_soundingOf_51 : decode cX2_soundingOf 51 = .ok (.iconst 1, 1) := by decide +kernel
theorem dX2_soundingOf_52 : decode cX2_soundingOf 52 = .ok (.goto 4, 3) := by decide +kernel
theorem dX2_soundingOf_55 : decode cX2_soundingOf 55 = .ok (.iconst 0, 1) := by decide +kernel
theorem dX2_soundingOf_56 : decode cX2_soundingOf 56 = .ok (.iadd, 1) := by decide +kernel
theorem dX2_soundingOf_57 : decode cX2_soundingOf 57 = .ok (.istore_n 2, 1) := by decide +kernel
theorem dX2_soundingOf_58 : decode cX2_soundingOf 58 = .ok (.iinc 3 1, 3) := by decide +kernel
theorem dX2_soundingOf_61 : decode cX2_soundingOf 61 = .ok (.goto (-37), 3) := by decide +kernel
theorem dX2_soundingOf_64 : decode cX2_soundingOf 64 = .ok (.iload_n 2, 1) := by decide +kernel
theorem dX2_soundingOf_65 : decode cX2_soundingOf 65 = .ok (.ireturn, 1) := by decide +kernel
theorem dX2_beats__0 : decode cX2_beats_ 0 = .ok (.aload_n 0, 1) := by decide +kernel
theorem dX2_beats__1 : decode cX2_beats_ 1 = .ok (.aload_n 0, 1) := by decide +kernel
theorem dX2_beats__2 : decode cX2_beats_ 2 = .ok (.getfield 13, 3) := by decide +kernel
theorem dX2_beats__5 : decode cX2_beats_ 5 = .ok (.iconst 0, 1) := by decide +kernel
theorem dX2_beats__6 : decode cX2_beats_ 6 = .ok (.iaload, 1) := by decide +kernel
theorem dX2_beats__7 : decode cX2_beats_ 7 = .ok (.invokevirtual 97, 3) := by decide +kernel
theorem dX2_beats__10 : decode cX2_beats_ 10 = .ok (.ireturn, 1) := by decide +kernel
theorem dX2_sounding_0 : decode cX2_sounding 0 = .ok (.aload_n 0, 1) := by decide +kernel
theorem dX2_sounding_1 : decode cX2_sounding 1 = .ok (.aload_n 0, 1) := by decide +kernel
theorem dX2_sounding_2 : decode cX2_sounding 2 = .ok (.invokevirtual 68, 3) := by decide +kernel
theorem dX2_sounding_5 : decode cX2_sounding 5 = .ok (.invokestatic 60, 3) := by decide +kernel
theorem dX2_sounding_8 : decode cX2_sounding 8 = .ok (.invokevirtual 97, 3) := by decide +kernel
theorem dX2_sounding_11 : decode cX2_sounding 11 = .ok (.ireturn, 1) := by decide +kernel
theorem dX2_interval_0 : decode cX2_interval 0 = .ok (.aload_n 0, 1) := by decide +kernel
theorem dX2_interval_1 : decode cX2_interval 1 = .ok (.iconst 0, 1) := by decide +kernel
theorem dX2_interval_2 : decode cX2_interval 2 = .ok (.putfield 19, 3) := by decide +kernel
theorem dX2_interval_5 : decode cX2_interval 5 = .ok (.aload_n 0, 1) := by decide +kernel
theorem dX2_interval_6 : decode cX2_interval 6 = .ok (.iload_n 1, 1) := by decide +kernel
theorem dX2_interval_7 : decode cX2_interval 7 = .ok (.invokevirtual 88, 3) := by decide +kernel
theorem dX2_interval_10 : decode cX2_interval 10 = .ok (.ifCond .eq 20, 3) := by decide +kernel
theorem dX2_interval_13 : decode cX2_interval 13 = .ok (.aload_n 0, 1) := by decide +kernel
theorem dX2_interval_14 : decode cX2_interval 14 = .ok (.iload_n 2, 1) := by decide +kernel
theorem dX2_interval_15 : decode cX2_interval 15 = .ok (.invokevirtual 88, 3) := by decide +kernel
theorem dX2_interval_18 : decode cX2_interval 18 = .ok (.ifCond .eq 12, 3) := by decide +kernel
theorem dX2_interval_21 : decode cX2_interval 21 = .ok (.aload_n 0, 1) := by decide +kernel
theorem dX2_interval_22 : decode cX2_interval 22 = .ok (.iload_n 1, 1) := by decide +kernel
theorem dX2_interval_23 : decode cX2_interval 23 = .ok (.iload_n 2, 1) := by decide +kernel
theorem dX2_interval_24 : decode cX2_interval 24 = .ok (.invokevirtual 49, 3) := by decide +kernel
theorem dX2_interval_27 : decode cX2_interval 27 = .ok (.goto 8, 3) := by decide +kernel
theorem dX2_interval_30 : decode cX2_interval 30 = .ok (.aload_n 0, 1) := by decide +kernel
theorem dX2_interval_31 : decode cX2_interval 31 = .ok (.iconst 1, 1) := by decide +kernel
theorem dX2_interval_32 : decode cX2_interval 32 = .ok (.invokevirtual 85, 3) := by decide +kernel
theorem dX2_interval_35 : decode cX2_interval 35 = .ok (.ireturn, 1) := by decide +kernel
theorem dX2_areInAccord_0 : decode cX2_areInAccord 0 = .ok (.aload_n 0, 1) := by decide +kernel
theorem dX2_areInAccord_1 : decode cX2_areInAccord 1 = .ok (.iconst 0, 1) := by decide +kernel
theorem dX2_areInAccord_2 : decode cX2_areInAccord 2 = .ok (.putfield 19, 3) := by decide +kernel
theorem dX2_areInAccord_5 : decode cX2_areInAccord 5 = .ok (.aload_n 0, 1) := by decide +kernel
theorem dX2_areInAccord_6 : decode cX2_areInAccord 6 = .ok (.iload_n 1, 1) := by decide +kernel
theorem dX2_areInAccord_7 : decode cX2_areInAccord 7 = .ok (.invokevirtual 88, 3) := by decide +kernel
theorem dX2_areInAccord_10 : decode cX2_areInAccord 10 = .ok (.ifCond .eq 20, 3) := by decide +kernel
theorem dX2_areInAccord_13 : decode cX2_areInAccord 13 = .ok (.aload_n 0, 1) := by decide +kernel
theorem dX2_areInAccord_14 : decode cX2_areInAccord 14 = .ok (.iload_n 2, 1) := by decide +kernel
theorem dX2_areInAccord_15 : decode cX2_areInAccord 15 = .ok (.invokevirtual 88, 3) := by decide +kernel
theorem dX2_areInAccord_18 : decode cX2_areInAccord 18 = .ok (.ifCond .eq 12, 3) := by decide +kernel
theorem dX2_areInAccord_21 : decode cX2_areInAccord 21 = .ok (.aload_n 0, 1) := by decide +kernel
theorem dX2_areInAccord_22 : decode cX2_areInAccord 22 = .ok (.iload_n 1, 1) := by decide +kernel
theorem dX2_areInAccord_23 : decode cX2_areInAccord 23 = .ok (.iload_n 2, 1) := by decide +kernel
theorem dX2_areInAccord_24 : decode cX2_areInAccord 24 = .ok (.invokevirtual 53, 3) := by decide +kernel
theorem dX2_areInAccord_27 : decode cX2_areInAccord 27 = .ok (.goto 8, 3) := by decide +kernel
theorem dX2_areInAccord_30 : decode cX2_areInAccord 30 = .ok (.aload_n 0, 1) := by decide +kernel
theorem dX2_areInAccord_31 : decode cX2_areInAccord 31 = .ok (.iconst 1, 1) := by decide +kernel
theorem dX2_areInAccord_32 : decode cX2_areInAccord 32 = .ok (.invokevirtual 91, 3) := by decide +kernel
theorem dX2_areInAccord_35 : decode cX2_areInAccord 35 = .ok (.ireturn, 1) := by decide +kernel
theorem dX2_harmony_0 : decode cX2_harmony 0 = .ok (.aload_n 0, 1) := by decide +kernel
theorem dX2_harmony_1 : decode cX2_harmony 1 = .ok (.aload_n 0, 1) := by decide +kernel
theorem dX2_harmony_2 : decode cX2_harmony 2 = .ok (.aload_n 0, 1) := by decide +kernel
theorem dX2_harmony_3 : decode cX2_harmony 3 = .ok (.invokevirtual 68, 3) := by decide +kernel
theorem dX2_harmony_6 : decode cX2_harmony 6 = .ok (.invokevirtual 103, 3) := by decide +kernel
theorem dX2_harmony_9 : decode cX2_harmony 9 = .ok (.invokevirtual 97, 3) := by decide +kernel
theorem dX2_harmony_12 : decode cX2_harmony 12 = .ok (.ireturn, 1) := by decide +kernel
theorem dX2_clashes_0 : decode cX2_clashes 0 = .ok (.aload_n 0, 1) := by decide +kernel
theorem dX2_clashes_1 : decode cX2_clashes 1 = .ok (.aload_n 0, 1) := by decide +kernel
theorem dX2_clashes_2 : decode cX2_clashes 2 = .ok (.aload_n 0, 1) := by decide +kernel
theorem dX2_clashes_3 : decode cX2_clashes 3 = .ok (.invokevirtual 68, 3) := by decide +kernel
theorem dX2_clashes_6 : decode cX2_clashes 6 = .ok (.invokevirtual 65, 3) := by decide +kernel
theorem dX2_clashes_9 : decode cX2_clashes 9 = .ok (.invokevirtual 97, 3) := by decide +kernel
theorem dX2_clashes_12 : decode cX2_clashes 12 = .ok (.ireturn, 1) := by decide +kernel
theorem dX2_clashing_0 : decode cX2_clashing 0 = .ok (.aload_n 0, 1) := by decide +kernel
theorem dX2_clashing_1 : decode cX2_clashing 1 = .ok (.iload_n 1, 1) := by decide +kernel
theorem dX2_clashing_2 : decode cX2_clashing 2 = .ok (.invokevirtual 39, 3) := by decide +kernel
theorem dX2_clashing_5 : decode cX2_clashing 5 = .ok (.ifCond .eq 15, 3) := by decide +kernel
theorem dX2_clashing_8 : decode cX2_clashing 8 = .ok (.aload_n 0, 1) := by decide +kernel
theorem dX2_clashing_9 : decode cX2_clashing 9 = .ok (.iload_n 1, 1) := by decide +kernel
theorem dX2_clashing_10 : decode cX2_clashing 10 = .ok (.aload_n 0, 1) := by decide +kernel
theorem dX2_clashing_11 : decode cX2_clashing 11 = .ok (.invokevirtual 68, 3) := by decide +kernel
theorem dX2_clashing_14 : decode cX2_clashing 14 = .ok (.invokevirtual 57, 3) := by decide +kernel
theorem dX2_clashing_17 : decode cX2_clashing 17 = .ok (.goto 4, 3) := by decide +kernel
theorem dX2_clashing_20 : decode cX2_clashing 20 = .ok (.iconst 0, 1) := by decide +kernel
theorem dX2_clashing_21 : decode cX2_clashing 21 = .ok (.ireturn, 1) := by decide +kernel
theorem dX2_clashesOf_0 : decode cX2_clashesOf 0 = .ok (.aload_n 0, 1) := by decide +kernel
theorem dX2_clashesOf_1 : decode cX2_clashesOf 1 = .ok (.iconst 0, 1) := by decide +kernel
theorem dX2_clashesOf_2 : decode cX2_clashesOf 2 = .ok (.putfield 19, 3) := by decide +kernel
theorem dX2_clashesOf_5 : decode cX2_clashesOf 5 = .ok (.aload_n 0, 1) := by decide +kernel
theorem dX2_clashesOf_6 : decode cX2_clashesOf 6 = .ok (.iload_n 1, 1) := by decide +kernel
theorem dX2_clashesOf_7 : decode cX2_clashesOf 7 = .ok (.invokevirtual 88, 3) := by decide +kernel
theorem dX2_clashesOf_10 : decode cX2_clashesOf 10 = .ok (.ifCond .eq 11, 3) := by decide +kernel
theorem dX2_clashesOf_13 : decode cX2_clashesOf 13 = .ok (.aload_n 0, 1) := by decide +kernel
theorem dX2_clashesOf_14 : decode cX2_clashesOf 14 = .ok (.iload_n 1, 1) := by decide +kernel
theorem dX2_clashesOf_15 : decode cX2_clashesOf 15 = .ok (.invokevirtual 106, 3) := by decide +kernel
theorem dX2_clashesOf_18 : decode cX2_clashesOf 18 = .ok (.goto 8, 3) := by decide +kernel
theorem dX2_clashesOf_21 : decode cX2_clashesOf 21 = .ok (.aload_n 0, 1) := by decide +kernel
theorem dX2_clashesOf_22 : decode cX2_clashesOf 22 = .ok (.iconst 1, 1) := by decide +kernel
theorem dX2_clashesOf_23 : decode cX2_clashesOf 23 = .ok (.invokevirtual 85, 3) := by decide +kernel
theorem dX2_clashesOf_26 : decode cX2_clashesOf 26 = .ok (.ireturn, 1) := by decide +kernel
theorem dX2_harsh_0 : decode cX2_harsh 0 = .ok (.iconst (-1), 1) := by decide +kernel
theorem dX2_harsh_1 : decode cX2_harsh 1 = .ok (.istore_n 1, 1) := by decide +kernel
theorem dX2_harsh_2 : decode cX2_harsh 2 = .ok (.iconst 0, 1) := by decide +kernel
theorem dX2_harsh_3 : decode cX2_harsh 3 = .ok (.istore_n 2, 1) := by decide +kernel
theorem dX2_harsh_4 : decode cX2_harsh 4 = .ok (.iload_n 2, 1) := by decide +kernel
theorem dX2_harsh_5 : decode cX2_harsh 5 = .ok (.aload_n 0, 1) := by decide +kernel
theorem dX2_harsh_6 : decode cX2_harsh 6 = .ok (.getfield 23, 3) := by decide +kernel
theorem dX2_harsh_9 : decode cX2_harsh 9 = .ok (.if_icmp .ge 37, 3) := by decide +kernel
theorem dX2_harsh_12 : decode cX2_harsh 12 = .ok (.aload_n 0, 1) := by decide +kernel
theorem dX2_harsh_13 : decode cX2_harsh 13 = .ok (.iload_n 2, 1) := by decide +kernel
theorem dX2_harsh_14 : decode cX2_harsh 14 = .ok (.invokevirtual 106, 3) := by decide +kernel
theorem dX2_harsh_17 : decode cX2_harsh 17 = .ok (.ifCond .le 23, 3) := by decide +kernel
theorem dX2_harsh_20 : decode cX2_harsh 20 = .ok (.iload_n 1, 1) := by decide +kernel
theorem dX2_harsh_21 : decode cX2_harsh 21 = .ok (.iconst (-1), 1) := by decide +kernel
theorem dX2_harsh_22 : decode cX2_harsh 22 = .ok (.if_icmp .eq 16, 3) := by decide +kernel
theorem dX2_harsh_25 : decode cX2_harsh 25 = .ok (.aload_n 0, 1) := by decide +kernel
theorem dX2_harsh_26 : decode cX2_harsh 26 = .ok (.iload_n 2, 1) := by decide +kernel
theorem dX2_harsh_27 : decode cX2_harsh 27 = .ok (.invokevirtual 106, 3) := by decide +kernel
theorem dX2_harsh_30 : decode cX2_harsh 30 = .ok (.aload_n 0, 1) := by decide +kernel
theorem dX2_harsh_31 : decode cX2_harsh 31 = .ok (.iload_n 1, 1) := by decide +kernel
theorem dX2_harsh_32 : decode cX2_harsh 32 = .ok (.invokevirtual 106, 3) := by decide +kernel
theorem dX2_harsh_35 : decode cX2_harsh 35 = .ok (.if_icmp .le 5, 3) := by decide +kernel
theorem dX2_harsh_38 : decode cX2_harsh 38 = .ok (.iload_n 2, 1) := by decide +kernel
theorem dX2_harsh_39 : decode cX2_harsh 39 = .ok (.istore_n 1, 1) := by decide +kernel
theorem dX2_harsh_40 : decode cX2_harsh 40 = .ok (.iinc 2 1, 3) := by decide +kernel
theorem dX2_harsh_43 : decode cX2_harsh 43 = .ok (.goto (-39), 3) := by decide +kernel
theorem dX2_harsh_46 : decode cX2_harsh 46 = .ok (.iload_n 1, 1) := by decide +kernel
theorem dX2_harsh_47 : decode cX2_harsh 47 = .ok (.ireturn, 1) := by decide +kernel
theorem dX2_harshest_0 : decode cX2_harshest 0 = .ok (.aload_n 0, 1) := by decide +kernel
theorem dX2_harshest_1 : decode cX2_harshest 1 = .ok (.aload_n 0, 1) := by decide +kernel
theorem dX2_harshest_2 : decode cX2_harshest 2 = .ok (.invokevirtual 109, 3) := by decide +kernel
theorem dX2_harshest_5 : decode cX2_harshest 5 = .ok (.invokevirtual 97, 3) := by decide +kernel
theorem dX2_harshest_8 : decode cX2_harshest 8 = .ok (.ireturn, 1) := by decide +kernel
theorem dX2_low_0 : decode cX2_low 0 = .ok (.iconst (-1), 1) := by decide +kernel
theorem dX2_low_1 : decode cX2_low 1 = .ok (.istore_n 1, 1) := by decide +kernel
theorem dX2_low_2 : decode cX2_low 2 = .ok (.iconst 0, 1) := by decide +kernel
theorem dX2_low_3 : decode cX2_low 3 = .ok (.istore_n 2, 1) := by decide +kernel
theorem dX2_low_4 : decode cX2_low 4 = .ok (.iload_n 2, 1) := by decide +kernel
theorem dX2_low_5 : decode cX2_low 5 = .ok (.aload_n 0, 1) := by decide +kernel
theorem dX2_low_6 : decode cX2_low 6 = .ok (.getfield 23, 3) := by decide +kernel
theorem dX2_low_9 : decode cX2_low 9 = .ok (.if_icmp .ge 43, 3) := by decide +kernel
theorem dX2_low_12 : decode cX2_low 12 = .ok (.aload_n 0, 1) := by decide +kernel
theorem dX2_low_13 : decode cX2_low 13 = .ok (.iload_n 2, 1) := by decide +kernel
theorem dX2_low_14 : decode cX2_low 14 = .ok (.invokevirtual 39, 3) := by decide +kernel
theorem dX2_low_17 : decode cX2_low 17 = .ok (.ifCond .eq 29, 3) := by decide +kernel
theorem dX2_low_20 : decode cX2_low 20 = .ok (.iload_n 1, 1) := by decide +kernel
theorem dX2_low_21 : decode cX2_low 21 = .ok (.iconst (-1), 1) := by decide +kernel
theorem dX2_low_22 : decode cX2_low 22 = .ok (.if_icmp .eq 22, 3) := by decide +kernel
theorem dX2_low_25 : decode cX2_low 25 = .ok (.aload_n 0, 1) := by decide +kernel
theorem dX2_low_26 : decode cX2_low 26 = .ok (.getfield 13, 3) := by decide +kernel
theorem dX2_low_29 : decode cX2_low 29 = .ok (.iconst 3, 1) := by decide +kernel
theorem dX2_low_30 : decode cX2_low 30 = .ok (.iload_n 2, 1) := by decide +kernel
theorem dX2_low_31 : decode cX2_low 31 = .ok (.iadd, 1) := by decide +kernel
theorem dX2_low_32 : decode cX2_low 32 = .ok (.iaload, 1) := by decide +kernel
theorem dX2_low_33 : decode cX2_low 33 = .ok (.aload_n 0, 1) := by decide +kernel
theorem dX2_low_34 : decode cX2_low 34 = .ok (.getfield 13, 3) := by decide +kernel
theorem dX2_low_37 : decode cX2_low 37 = .ok (.iconst 3, 1) := by decide +kernel
theorem dX2_low_38 : decode cX2_low 38 = .ok (.iload_n 1, 1) := by decide +kernel
theorem dX2_low_39 : decode cX2_low 39 = .ok (.iadd, 1) := by decide +kernel
theorem dX2_low_40 : decode cX2_low 40 = .ok (.iaload, 1) := by decide +kernel
theorem dX2_low_41 : decode cX2_low 41 = .ok (.if_icmp .ge 5, 3) := by decide +kernel
theorem dX2_low_44 : decode cX2_low 44 = .ok (.iload_n 2, 1) := by decide +kernel
theorem dX2_low_45 : decode cX2_low 45 = .ok (.istore_n 1, 1) := by decide +kernel
theorem dX2_low_46 : decode cX2_low 46 = .ok (.iinc 2 1, 3) := by decide +kernel
theorem dX2_low_49 : decode cX2_low 49 = .ok (.goto (-45), 3) := by decide +kernel
theorem dX2_low_52 : decode cX2_low 52 = .ok (.iload_n 1, 1) := by decide +kernel
theorem dX2_low_53 : decode cX2_low 53 = .ok (.ireturn, 1) := by decide +kernel
theorem dX2_lowest_0 : decode cX2_lowest 0 = .ok (.aload_n 0, 1) := by decide +kernel
theorem dX2_lowest_1 : decode cX2_lowest 1 = .ok (.aload_n 0, 1) := by decide +kernel
theorem dX2_lowest_2 : decode cX2_lowest 2 = .ok (.invokevirtual 112, 3) := by decide +kernel
theorem dX2_lowest_5 : decode cX2_lowest 5 = .ok (.invokevirtual 97, 3) := by decide +kernel
theorem dX2_lowest_8 : decode cX2_lowest 8 = .ok (.ireturn, 1) := by decide +kernel
theorem dX2_isClear_0 : decode cX2_isClear 0 = .ok (.aload_n 0, 1) := by decide +kernel
theorem dX2_isClear_1 : decode cX2_isClear 1 = .ok (.iconst 0, 1) := by decide +kernel
theorem dX2_isClear_2 : decode cX2_isClear 2 = .ok (.putfield 19, 3) := by decide +kernel
theorem dX2_isClear_5 : decode cX2_isClear 5 = .ok (.aload_n 0, 1) := by decide +kernel
theorem dX2_isClear_6 : decode cX2_isClear 6 = .ok (.invokevirtual 72, 3) := by decide +kernel
theorem dX2_isClear_9 : decode cX2_isClear 9 = .ok (.ireturn, 1) := by decide +kernel
theorem dX2_cadences_0 : decode cX2_cadences 0 = .ok (.aload_n 0, 1) := by decide +kernel
theorem dX2_cadences_1 : decode cX2_cadences 1 = .ok (.aload_n 0, 1) := by decide +kernel
theorem dX2_cadences_2 : decode cX2_cadences 2 = .ok (.getfield 13, 3) := by decide +kernel
theorem dX2_cadences_5 : decode cX2_cadences 5 = .ok (.iconst 1, 1) := by decide +kernel
theorem dX2_cadences_6 : decode cX2_cadences 6 = .ok (.iaload, 1) := by decide +kernel
theorem dX2_cadences_7 : decode cX2_cadences 7 = .ok (.invokevirtual 97, 3) := by decide +kernel
theorem dX2_cadences_10 : decode cX2_cadences 10 = .ok (.ireturn, 1) := by decide +kernel
theorem dX2_tuning_0 : decode cX2_tuning 0 = .ok (.aload_n 0, 1) := by decide +kernel
theorem dX2_tuning_1 : decode cX2_tuning 1 = .ok (.getfield 13, 3) := by decide +kernel
theorem dX2_tuning_4 : decode cX2_tuning 4 = .ok (.iconst 3, 1) := by decide +kernel
theorem dX2_tuning_5 : decode cX2_tuning 5 = .ok (.iload_n 1, 1) := by decide +kernel
theorem dX2_tuning_6 : decode cX2_tuning 6 = .ok (.iadd, 1) := by decide +kernel
theorem dX2_tuning_7 : decode cX2_tuning 7 = .ok (.iaload, 1) := by decide +kernel
theorem dX2_tuning_8 : decode cX2_tuning 8 = .ok (.istore_n 2, 1) := by decide +kernel
theorem dX2_tuning_9 : decode cX2_tuning 9 = .ok (.iconst 0, 1) := by decide +kernel
theorem dX2_tuning_10 : decode cX2_tuning 10 = .ok (.istore_n 3, 1) := by decide +kernel
theorem dX2_tuning_11 : decode cX2_tuning 11 = .ok (.aload_n 0, 1) := by decide +kernel
theorem dX2_tuning_12 : decode cX2_tuning 12 = .ok (.aload_n 0, 1) := by decide +kernel
theorem dX2_tuning_13 : decode cX2_tuning 13 = .ok (.invokevirtual 68, 3) := by decide +kernel
theorem dX2_tuning_16 : decode cX2_tuning 16 = .ok (.invokevirtual 103, 3) := by decide +kernel
theorem dX2_tuning_19 : decode cX2_tuning 19 = .ok (.istore 4, 2) := by decide +kernel
theorem dX2_tuning_21 : decode cX2_tuning 21 = .ok (.iconst 2, 1) := by decide +kernel
theorem dX2_tuning_22 : decode cX2_tuning 22 = .ok (.istore 5, 2) := by decide +kernel
theorem dX2_tuning_24 : decode cX2_tuning 24 = .ok (.iload 5, 2) := by decide +kernel
theorem dX2_tuning_26 : decode cX2_tuning 26 = .ok (.bipush 26, 2) := by decide +kernel
theorem dX2_tuning_28 : decode cX2_tuning 28 = .ok (.if_icmp .ge 85, 3) := by decide +kernel
theorem dX2_tuning_31 : decode cX2_tuning 31 = .ok (.iload 5, 2) := by decide +kernel
theorem dX2_tuning_33 : decode cX2_tuning 33 = .ok (.iconst 2, 1) := by decide +kernel
theorem dX2_tuning_34 : decode cX2_tuning 34 = .ok (.irem, 1) := by decide +kernel
theorem dX2_tuning_35 : decode cX2_tuning 35 = .ok (.ifCond .ne 10, 3) := by decide +kernel
theorem dX2_tuning_38 : decode cX2_tuning 38 = .ok (.iload 5, 2) := by decide +kernel
theorem dX2_tuning_40 : decode cX2_tuning 40 = .ok (.iconst 2, 1) := by decide +kernel
theorem dX2_tuning_41 : decode cX2_tuning 41 = .ok (.idiv, 1) := by decide +kernel
theorem dX2_tuning_42 : decode cX2_tuning 42 = .ok (.goto 8, 3) := by decide +kernel
theorem dX2_tuning_45 : decode cX2_tuning 45 = .ok (.iload 5, 2) := by decide +kernel
theorem dX2_tuning_47 : decode cX2_tuning 47 = .ok (.iconst 2, 1) := by decide +kernel
theorem dX2_tuning_48 : decode cX2_tuning 48 = .ok (.idiv, 1) := by decide +kernel
theorem dX2_tuning_49 : decode cX2_tuning 49 = .ok (.ineg, 1) := by decide +kernel
theorem dX2_tuning_50 : decode cX2_tuning 50 = .ok (.istore 6, 2) := by decide +kernel
theorem dX2_tuning_52 : decode cX2_tuning 52 = .ok (.iload_n 2, 1) := by decide +kernel
theorem dX2_tuning_53 : decode cX2_tuning 53 = .ok (.iload 6, 2) := by decide +kernel
theorem dX2_tuning_55 : decode cX2_tuning 55 = .ok (.iadd, 1) := by decide +kernel
theorem dX2_tuning_56 : decode cX2_tuning 56 = .ok (.iconst 0, 1) := by decide +kernel
theorem dX2_tuning_57 : decode cX2_tuning 57 = .ok (.bipush 35, 2) := by decide +kernel
theorem dX2_tuning_59 : decode cX2_tuning 59 = .ok (.invokestatic 26, 3) := by decide +kernel
theorem dX2_tuning_62 : decode cX2_tuning 62 = .ok (.ifCond .ne 6, 3) := by decide +kernel
theorem dX2_tuning_65 : decode cX2_tuning 65 = .ok (.goto 42, 3) := by decide +kernel
theorem dX2_tuning_68 : decode cX2_tuning 68 = .ok (.aload_n 0, 1) := by decide +kernel
theorem dX2_tuning_69 : decode cX2_tuning 69 = .ok (.getfield 13, 3) := by decide +kernel
theorem dX2_tuning_72 : decode cX2_tuning 72 = .ok (.iconst 3, 1) := by decide +kernel
theorem dX2_tuning_73 : decode cX2_tuning 73 = .ok (.iload_n 1, 1) := by decide +kernel
theorem dX2_tuning_74 : decode cX2_tuning 74 = .ok (.iadd, 1) := by decide +kernel
theorem dX2_tuning_75 : decode cX2_tuning 75 = .ok (.iload_n 2, 1) := by decide +kernel
theorem dX2_tuning_76 : decode cX2_tuning 76 = .ok (.iload 6, 2) := by decide +kernel
theorem dX2_tuning_78 : decode cX2_tuning 78 = .ok (.iadd, 1) := by decide +kernel
theorem dX2_tuning_79 : decode cX2_tuning 79 = .ok (.iastore, 1) := by decide +kernel
theorem dX2_tuning_80 : decode cX2_tuning 80 = .ok (.aload_n 0, 1) := by decide +kernel
theorem dX2_tuning_81 : decode cX2_tuning 81 = .ok (.aload_n 0, 1) := by decide +kernel
theorem dX2_tuning_82 : decode cX2_tuning 82 = .ok (.invokevirtual 68, 3) := by decide +kernel
theorem dX2_tuning_85 : decode cX2_tuning 85 = .ok (.invokevirtual 103, 3) := by decide +kernel
theorem dX2_tuning_88 : decode cX2_tuning 88 = .ok (.istore 7, 2) := by decide +kernel
theorem dX2_tuning_90 : decode cX2_tuning 90 = .ok (.iload 7, 2) := by decide +kernel
theorem dX2_tuning_92 : decode cX2_tuning 92 = .ok (.iload 4, 2) := by decide +kernel
theorem dX2_tuning_94 : decode cX2_tuning 94 = .ok (.if_icmp .gt 6, 3) := by decide +kernel
theorem dX2_tuning_97 : decode cX2_tuning 97 = .ok (.goto 10, 3) := by decide +kernel
theorem dX2_tuning_100 : decode cX2_tuning 100 = .ok (.iload 6, 2) := by decide +kernel
theorem dX2_tuning_102 : decode cX2_tuning 102 = .ok (.istore_n 3, 1) := by decide +kernel
theorem dX2_tuning_103 : decode cX2_tuning 103 = .ok (.iload 7, 2) := by decide +kernel
theorem dX2_tuning_105 : decode cX2_tuning 105 = .ok (.istore 4, 2) := by decide +kernel
theorem dX2_tuning_107 : decode cX2_tuning 107 = .ok (.iinc 5 1, 3) := by decide +kernel
theorem dX2_tuning_110 : decode cX2_tuning 110 = .ok (.goto (-86), 3) := by decide +kernel
theorem dX2_tuning_113 : decode cX2_tuning 113 = .ok (.aload_n 0, 1) := by decide +kernel
theorem dX2_tuning_114 : decode cX2_tuning 114 = .ok (.getfield 13, 3) := by decide +kernel
theorem dX2_tuning_117 : decode cX2_tuning 117 = .ok (.iconst 3, 1) := by decide +kernel
theorem dX2_tuning_118 : decode cX2_tuning 118 = .ok (.iload_n 1, 1) := by decide +kernel
theorem dX2_tuning_119 : decode cX2_tuning 119 = .ok (.iadd, 1) := by decide +kernel
theorem dX2_tuning_120 : decode cX2_tuning 120 = .ok (.iload_n 2, 1) := by decide +kernel
theorem dX2_tuning_121 : decode cX2_tuning 121 = .ok (.iastore, 1) := by decide +kernel
theorem dX2_tuning_122 : decode cX2_tuning 122 = .ok (.iload_n 3, 1) := by decide +kernel
theorem dX2_tuning_123 : decode cX2_tuning 123 = .ok (.ireturn, 1) := by decide +kernel
theorem dX2_bestTuning_0 : decode cX2_bestTuning 0 = .ok (.aload_n 0, 1) := by decide +kernel
theorem dX2_bestTuning_1 : decode cX2_bestTuning 1 = .ok (.iconst 0, 1) := by decide +kernel
theorem dX2_bestTuning_2 : decode cX2_bestTuning 2 = .ok (.putfield 19, 3) := by decide +kernel
theorem dX2_bestTuning_5 : decode cX2_bestTuning 5 = .ok (.aload_n 0, 1) := by decide +kernel
theorem dX2_bestTuning_6 : decode cX2_bestTuning 6 = .ok (.iload_n 1, 1) := by decide +kernel
theorem dX2_bestTuning_7 : decode cX2_bestTuning 7 = .ok (.invokevirtual 88, 3) := by decide +kernel
theorem dX2_bestTuning_10 : decode cX2_bestTuning 10 = .ok (.ifCond .eq 11, 3) := by decide +kernel
theorem dX2_bestTuning_13 : decode cX2_bestTuning 13 = .ok (.aload_n 0, 1) := by decide +kernel
theorem dX2_bestTuning_14 : decode cX2_bestTuning 14 = .ok (.iload_n 1, 1) := by decide +kernel
theorem dX2_bestTuning_15 : decode cX2_bestTuning 15 = .ok (.invokevirtual 115, 3) := by decide +kernel
theorem dX2_bestTuning_18 : decode cX2_bestTuning 18 = .ok (.goto 8, 3) := by decide +kernel
theorem dX2_bestTuning_21 : decode cX2_bestTuning 21 = .ok (.aload_n 0, 1) := by decide +kernel
theorem dX2_bestTuning_22 : decode cX2_bestTuning 22 = .ok (.iconst 1, 1) := by decide +kernel
theorem dX2_bestTuning_23 : decode cX2_bestTuning 23 = .ok (.invokevirtual 85, 3) := by decide +kernel
theorem dX2_bestTuning_26 : decode cX2_bestTuning 26 = .ok (.ireturn, 1) := by decide +kernel
theorem dX2_mute_0 : decode cX2_mute 0 = .ok (.aload_n 0, 1) := by decide +kernel
theorem dX2_mute_1 : decode cX2_mute 1 = .ok (.invokevirtual 68, 3) := by decide +kernel
theorem dX2_mute_4 : decode cX2_mute 4 = .ok (.istore_n 1, 1) := by decide +kernel
theorem dX2_mute_5 : decode cX2_mute 5 = .ok (.iconst (-1), 1) := by decide +kernel
theorem dX2_mute_6 : decode cX2_mute 6 = .ok (.istore_n 2, 1) := by decide +kernel
theorem dX2_mute_7 : decode cX2_mute 7 = .ok (.iconst 0, 1) := by decide +kernel
theorem dX2_mute_8 : decode cX2_mute 8 = .ok (.istore_n 3, 1) := by decide +kernel
theorem dX2_mute_9 : decode cX2_mute 9 = .ok (.iconst 0, 1) := by decide +kernel
theorem dX2_mute_10 : decode cX2_mute 10 = .ok (.istore 4, 2) := by decide +kernel
theorem dX2_mute_12 : decode cX2_mute 12 = .ok (.iload 4, 2) := by decide +kernel
theorem dX2_mute_14 : decode cX2_mute 14 = .ok (.aload_n 0, 1) := by decide +kernel
theorem dX2_mute_15 : decode cX2_mute 15 = .ok (.getfield 23, 3) := by decide +kernel
theorem dX2_mute_18 : decode cX2_mute 18 = .ok (.if_icmp .ge 55, 3) := by decide +kernel
theorem dX2_mute_21 : decode cX2_mute 21 = .ok (.iload_n 1, 1) := by decide +kernel
theorem dX2_mute_22 : decode cX2_mute 22 = .ok (.iload 4, 2) := by decide +kernel
theorem dX2_mute_24 : decode cX2_mute 24 = .ok (.ishr, 1) := by decide +kernel
theorem dX2_mute_25 : decode cX2_mute 25 = .ok (.iconst 1, 1) := by decide +kernel
theorem dX2_mute_26 : decode cX2_mute 26 = .ok (.iand, 1) := by decide +kernel
theorem dX2_mute_27 : decode cX2_mute 27 = .ok (.ifCond .ne 6, 3) := by decide +kernel
theorem dX2_mute_30 : decode cX2_mute 30 = .ok (.goto 37, 3) := by decide +kernel
theorem dX2_mute_33 : decode cX2_mute 33 = .ok (.aload_n 0, 1) := by decide +kernel
theorem dX2_mute_34 : decode cX2_mute 34 = .ok (.iload_n 1, 1) := by decide +kernel
theorem dX2_mute_35 : decode cX2_mute 35 = .ok (.iconst 1, 1) := by decide +kernel
theorem dX2_mute_36 : decode cX2_mute 36 = .ok (.iload 4, 2) := by decide +kernel
theorem dX2_mute_38 : decode cX2_mute 38 = .ok (.ishl, 1) := by decide +kernel
theorem dX2_mute_39 : decode cX2_mute 39 = .ok (.iconst (-1), 1) := by decide +kernel
theorem dX2_mute_40 : decode cX2_mute 40 = .ok (.ixor, 1) := by decide +kernel
theorem dX2_mute_41 : decode cX2_mute 41 = .ok (.iand, 1) := by decide +kernel
theorem dX2_mute_42 : decode cX2_mute 42 = .ok (.invokevirtual 103, 3) := by decide +kernel
theorem dX2_mute_45 : decode cX2_mute 45 = .ok (.istore 5, 2) := by decide +kernel
theorem dX2_mute_47 : decode cX2_mute 47 = .ok (.iload_n 2, 1) := by decide +kernel
theorem dX2_mute_48 : decode cX2_mute 48 = .ok (.iconst (-1), 1) := by decide +kernel
theorem dX2_mute_49 : decode cX2_mute 49 = .ok (.if_icmp .eq 12, 3) := by decide +kernel
theorem dX2_mute_52 : decode cX2_mute 52 = .ok (.iload 5, 2) := by decide +kernel
theorem dX2_mute_54 : decode cX2_mute 54 = .ok (.iload_n 3, 1) := by decide +kernel
theorem dX2_mute_55 : decode cX2_mute 55 = .ok (.if_icmp .gt 6, 3) := by decide +kernel
theorem dX2_mute_58 : decode cX2_mute 58 = .ok (.goto 9, 3) := by decide +kernel
theorem dX2_mute_61 : decode cX2_mute 61 = .ok (.iload 4, 2) := by decide +kernel
theorem dX2_mute_63 : decode cX2_mute 63 = .ok (.istore_n 2, 1) := by decide +kernel
theorem dX2_mute_64 : decode cX2_mute 64 = .ok (.iload 5, 2) := by decide +kernel
theorem dX2_mute_66 : decode cX2_mute 66 = .ok (.istore_n 3, 1) := by decide +kernel
theorem dX2_mute_67 : decode cX2_mute 67 = .ok (.iinc 4 1, 3) := by decide +kernel
theorem dX2_mute_70 : decode cX2_mute 70 = .ok (.goto (-58), 3) := by decide +kernel
theorem dX2_mute_73 : decode cX2_mute 73 = .ok (.iload_n 2, 1) := by decide +kernel
theorem dX2_mute_74 : decode cX2_mute 74 = .ok (.ireturn, 1) := by decide +kernel
theorem dX2_bestToMute_0 : decode cX2_bestToMute 0 = .ok (.aload_n 0, 1) := by decide +kernel
theorem dX2_bestToMute_1 : decode cX2_bestToMute 1 = .ok (.aload_n 0, 1) := by decide +kernel
theorem dX2_bestToMute_2 : decode cX2_bestToMute 2 = .ok (.invokevirtual 118, 3) := by decide +kernel
theorem dX2_bestToMute_5 : decode cX2_bestToMute 5 = .ok (.invokevirtual 97, 3) := by decide +kernel
theorem dX2_bestToMute_8 : decode cX2_bestToMute 8 = .ok (.ireturn, 1) := by decide +kernel
theorem dX2_harmonyIn_0 : decode cX2_harmonyIn 0 = .ok (.aload_n 0, 1) := by decide +kernel
theorem dX2_harmonyIn_1 : decode cX2_harmonyIn 1 = .ok (.iconst 0, 1) := by decide +kernel
theorem dX2_harmonyIn_2 : decode cX2_harmonyIn 2 = .ok (.putfield 19, 3) := by decide +kernel
theorem dX2_harmonyIn_5 : decode cX2_harmonyIn 5 = .ok (.iload_n 1, 1) := by decide +kernel
theorem dX2_harmonyIn_6 : decode cX2_harmonyIn 6 = .ok (.iconst 1, 1) := by decide +kernel
theorem dX2_harmonyIn_7 : decode cX2_harmonyIn 7 = .ok (.bipush 60, 2) := by decide +kernel
theorem dX2_harmonyIn_9 : decode cX2_harmonyIn 9 = .ok (.invokestatic 26, 3) := by decide +kernel
theorem dX2_harmonyIn_12 : decode cX2_harmonyIn 12 = .ok (.ifCond .ne 9, 3) := by decide +kernel
theorem dX2_harmonyIn_15 : decode cX2_harmonyIn 15 = .ok (.aload_n 0, 1) := by decide +kernel
theorem dX2_harmonyIn_16 : decode cX2_harmonyIn 16 = .ok (.iconst 1, 1) := by decide +kernel
theorem dX2_harmonyIn_17 : decode cX2_harmonyIn 17 = .ok (.invokevirtual 85, 3) := by decide +kernel
theorem dX2_harmonyIn_20 : decode cX2_harmonyIn 20 = .ok (.ireturn, 1) := by decide +kernel
theorem dX2_harmonyIn_21 : decode cX2_harmonyIn 21 = .ok (.aload_n 0, 1) := by decide +kernel
theorem dX2_harmonyIn_22 : decode cX2_harmonyIn 22 = .ok (.invokevirtual 121, 3) := by decide +kernel
theorem dX2_harmonyIn_25 : decode cX2_harmonyIn 25 = .ok (.aload_n 0, 1) := by decide +kernel
theorem dX2_harmonyIn_26 : decode cX2_harmonyIn 26 = .ok (.iload_n 1, 1) := by decide +kernel
theorem dX2_harmonyIn_27 : decode cX2_harmonyIn 27 = .ok (.invokevirtual 94, 3) := by decide +kernel
theorem dX2_harmonyIn_30 : decode cX2_harmonyIn 30 = .ok (.pop, 1) := by decide +kernel
theorem dX2_harmonyIn_31 : decode cX2_harmonyIn 31 = .ok (.aload_n 0, 1) := by decide +kernel
theorem dX2_harmonyIn_32 : decode cX2_harmonyIn 32 = .ok (.aload_n 0, 1) := by decide +kernel
theorem dX2_harmonyIn_33 : decode cX2_harmonyIn 33 = .ok (.invokevirtual 68, 3) := by decide +kernel
theorem dX2_harmonyIn_36 : decode cX2_harmonyIn 36 = .ok (.invokevirtual 103, 3) := by decide +kernel
theorem dX2_harmonyIn_39 : decode cX2_harmonyIn 39 = .ok (.istore_n 2, 1) := by decide +kernel
theorem dX2_harmonyIn_40 : decode cX2_harmonyIn 40 = .ok (.aload_n 0, 1) := by decide +kernel
theorem dX2_harmonyIn_41 : decode cX2_harmonyIn 41 = .ok (.invokevirtual 124, 3) := by decide +kernel
theorem dX2_harmonyIn_44 : decode cX2_harmonyIn 44 = .ok (.iload_n 2, 1) := by decide +kernel
theorem dX2_harmonyIn_45 : decode cX2_harmonyIn 45 = .ok (.ireturn, 1) := by decide +kernel
theorem dX2_silence_0 : decode cX2_silence 0 = .ok (.aload_n 0, 1) := by decide +kernel
theorem dX2_silence_1 : decode cX2_silence 1 = .ok (.invokevirtual 121, 3) := by decide +kernel
theorem dX2_silence_4 : decode cX2_silence 4 = .ok (.iconst 0, 1) := by decide +kernel
theorem dX2_silence_5 : decode cX2_silence 5 = .ok (.istore_n 1, 1) := by decide +kernel
theorem dX2_silence_6 : decode cX2_silence 6 = .ok (.aload_n 0, 1) := by decide +kernel
theorem dX2_silence_7 : decode cX2_silence 7 = .ok (.invokevirtual 68, 3) := by decide +kernel
theorem dX2_silence_10 : decode cX2_silence 10 = .ok (.ifCond .eq 14, 3) := by decide +kernel
theorem dX2_silence_13 : decode cX2_silence 13 = .ok (.aload_n 0, 1) := by decide +kernel
theorem dX2_silence_14 : decode cX2_silence 14 = .ok (.invokevirtual 82, 3) := by decide +kernel
theorem dX2_silence_17 : decode cX2_silence 17 = .ok (.pop, 1) := by decide +kernel
theorem dX2_silence_18 : decode cX2_silence 18 = .ok (.iinc 1 1, 3) := by decide +kernel
theorem dX2_silence_21 : decode cX2_silence 21 = .ok (.goto (-15), 3) := by decide +kernel
theorem dX2_silence_24 : decode cX2_silence 24 = .ok (.aload_n 0, 1) := by decide +kernel
theorem dX2_silence_25 : decode cX2_silence 25 = .ok (.invokevirtual 124, 3) := by decide +kernel
theorem dX2_silence_28 : decode cX2_silence 28 = .ok (.iload_n 1, 1) := by decide +kernel
theorem dX2_silence_29 : decode cX2_silence 29 = .ok (.ireturn, 1) := by decide +kernel
theorem dX2_beatsUntilSilence_0 : decode cX2_beatsUntilSilence 0 = .ok (.aload_n 0, 1) := by decide +kernel
theorem dX2_beatsUntilSilence_1 : decode cX2_beatsUntilSilence 1 = .ok (.aload_n 0, 1) := by decide +kernel
theorem dX2_beatsUntilSilence_2 : decode cX2_beatsUntilSilence 2 = .ok (.invokevirtual 127, 3) := by decide +kernel
theorem dX2_beatsUntilSilence_5 : decode cX2_beatsUntilSilence 5 = .ok (.invokevirtual 97, 3) := by decide +kernel
theorem dX2_beatsUntilSilence_8 : decode cX2_beatsUntilSilence 8 = .ok (.ireturn, 1) := by decide +kernel
theorem dX2_untilCadence_0 : decode cX2_untilCadence 0 = .ok (.aload_n 0, 1) := by decide +kernel
theorem dX2_untilCadence_1 : decode cX2_untilCadence 1 = .ok (.invokevirtual 121, 3) := by decide +kernel
theorem dX2_untilCadence_4 : decode cX2_untilCadence 4 = .ok (.iconst 1, 1) := by decide +kernel
theorem dX2_untilCadence_5 : decode cX2_untilCadence 5 = .ok (.istore_n 1, 1) := by decide +kernel
theorem dX2_untilCadence_6 : decode cX2_untilCadence 6 = .ok (.iload_n 1, 1) := by decide +kernel
theorem dX2_untilCadence_7 : decode cX2_untilCadence 7 = .ok (.bipush 61, 2) := by decide +kernel
theorem dX2_untilCadence_9 : decode cX2_untilCadence 9 = .ok (.if_icmp .ge 16, 3) := by decide +kernel
theorem dX2_untilCadence_12 : decode cX2_untilCadence 12 = .ok (.aload_n 0, 1) := by decide +kernel
theorem dX2_untilCadence_13 : decode cX2_untilCadence 13 = .ok (.invokevirtual 82, 3) := by decide +kernel
theorem dX2_untilCadence_16 : decode cX2_untilCadence 16 = .ok (.ifCond .ne 9, 3) := by decide +kernel
theorem dX2_untilCadence_19 : decode cX2_untilCadence 19 = .ok (.iinc 1 1, 3) := by decide +kernel
theorem dX2_untilCadence_22 : decode cX2_untilCadence 22 = .ok (.goto (-16), 3) := by decide +kernel
theorem dX2_untilCadence_25 : decode cX2_untilCadence 25 = .ok (.aload_n 0, 1) := by decide +kernel
theorem dX2_untilCadence_26 : decode cX2_untilCadence 26 = .ok (.invokevirtual 124, 3) := by decide +kernel
theorem dX2_untilCadence_29 : decode cX2_untilCadence 29 = .ok (.iload_n 1, 1) := by decide +kernel
theorem dX2_untilCadence_30 : decode cX2_untilCadence 30 = .ok (.bipush 60, 2) := by decide +kernel
theorem dX2_untilCadence_32 : decode cX2_untilCadence 32 = .ok (.if_icmp .le 7, 3) := by decide +kernel
theorem dX2_untilCadence_35 : decode cX2_untilCadence 35 = .ok (.iconst (-1), 1) := by decide +kernel
theorem dX2_untilCadence_36 : decode cX2_untilCadence 36 = .ok (.goto 4, 3) := by decide +kernel
theorem dX2_untilCadence_39 : decode cX2_untilCadence 39 = .ok (.iload_n 1, 1) := by decide +kernel
theorem dX2_untilCadence_40 : decode cX2_untilCadence 40 = .ok (.ireturn, 1) := by decide +kernel
theorem dX2_beatsUntilCadence_0 : decode cX2_beatsUntilCadence 0 = .ok (.aload_n 0, 1) := by decide +kernel
theorem dX2_beatsUntilCadence_1 : decode cX2_beatsUntilCadence 1 = .ok (.aload_n 0, 1) := by decide +kernel
theorem dX2_beatsUntilCadence_2 : decode cX2_beatsUntilCadence 2 = .ok (.invokevirtual 130, 3) := by decide +kernel
theorem dX2_beatsUntilCadence_5 : decode cX2_beatsUntilCadence 5 = .ok (.invokevirtual 97, 3) := by decide +kernel
theorem dX2_beatsUntilCadence_8 : decode cX2_beatsUntilCadence 8 = .ok (.ireturn, 1) := by decide +kernel
theorem dX2_greatest_0 : decode cX2_greatest 0 = .ok (.aload_n 0, 1) := by decide +kernel
theorem dX2_greatest_1 : decode cX2_greatest 1 = .ok (.invokevirtual 68, 3) := by decide +kernel
theorem dX2_greatest_4 : decode cX2_greatest 4 = .ok (.istore_n 1, 1) := by decide +kernel
theorem dX2_greatest_5 : decode cX2_greatest 5 = .ok (.iconst 0, 1) := by decide +kernel
theorem dX2_greatest_6 : decode cX2_greatest 6 = .ok (.istore_n 2, 1) := by decide +kernel
theorem dX2_greatest_7 : decode cX2_greatest 7 = .ok (.iload_n 1, 1) := by decide +kernel
theorem dX2_greatest_8 : decode cX2_greatest 8 = .ok (.istore_n 3, 1) := by decide +kernel
theorem dX2_greatest_9 : decode cX2_greatest 9 = .ok (.iload_n 3, 1) := by decide +kernel
theorem dX2_greatest_10 : decode cX2_greatest 10 = .ok (.ifCond .le 33, 3) := by decide +kernel
theorem dX2_greatest_13 : decode cX2_greatest 13 = .ok (.iload_n 3, 1) := by decide +kernel
theorem dX2_greatest_14 : decode cX2_greatest 14 = .ok (.invokestatic 60, 3) := by decide +kernel
theorem dX2_greatest_17 : decode cX2_greatest 17 = .ok (.iload_n 2, 1) := by decide +kernel
theorem dX2_greatest_18 : decode cX2_greatest 18 = .ok (.if_icmp .le 16, 3) := by decide +kernel
theorem dX2_greatest_21 : decode cX2_greatest 21 = .ok (.aload_n 0, 1) := by decide +kernel
theorem dX2_greatest_22 : decode cX2_greatest 22 = .ok (.iload_n 3, 1) := by decide +kernel
theorem dX2_greatest_23 : decode cX2_greatest 23 = .ok (.invokevirtual 65, 3) := by decide +kernel
theorem dX2_greatest_26 : decode cX2_greatest 26 = .ok (.ifCond .ne 8, 3) := by decide +kernel
theorem dX2_greatest_29 : decode cX2_greatest 29 = .ok (.iload_n 3, 1) := by decide +kernel
theorem dX2_greatest_30 : decode cX2_greatest 30 = .ok (.invokestatic 60, 3) := by decide +kernel
theorem dX2_greatest_33 : decode cX2_greatest 33 = .ok (.istore_n 2, 1) := by decide +kernel
theorem dX2_greatest_34 : decode cX2_greatest 34 = .ok (.iload_n 3, 1) := by decide +kernel
theorem dX2_greatest_35 : decode cX2_greatest 35 = .ok (.iconst 1, 1) := by decide +kernel
theorem dX2_greatest_36 : decode cX2_greatest 36 = .ok (.isub, 1) := by decide +kernel
theorem dX2_greatest_37 : decode cX2_greatest 37 = .ok (.iload_n 1, 1) := by decide +kernel
theorem dX2_greatest_38 : decode cX2_greatest 38 = .ok (.iand, 1) := by decide +kernel
theorem dX2_greatest_39 : decode cX2_greatest 39 = .ok (.istore_n 3, 1) := by decide +kernel
theorem dX2_greatest_40 : decode cX2_greatest 40 = .ok (.goto (-31), 3) := by decide +kernel
theorem dX2_greatest_43 : decode cX2_greatest 43 = .ok (.iload_n 2, 1) := by decide +kernel
theorem dX2_greatest_44 : decode cX2_greatest 44 = .ok (.ireturn, 1) := by decide +kernel
theorem dX2_greatestAccord_0 : decode cX2_greatestAccord 0 = .ok (.aload_n 0, 1) := by decide +kernel
theorem dX2_greatestAccord_1 : decode cX2_greatestAccord 1 = .ok (.aload_n 0, 1) := by decide +kernel
theorem dX2_greatestAccord_2 : decode cX2_greatestAccord 2 = .ok (.invokevirtual 133, 3) := by decide +kernel
theorem dX2_greatestAccord_5 : decode cX2_greatestAccord 5 = .ok (.invokevirtual 97, 3) := by decide +kernel
theorem dX2_greatestAccord_8 : decode cX2_greatestAccord 8 = .ok (.ireturn, 1) := by decide +kernel
theorem dX2_meanPitch_0 : decode cX2_meanPitch 0 = .ok (.aload_n 0, 1) := by decide +kernel
theorem dX2_meanPitch_1 : decode cX2_meanPitch 1 = .ok (.iconst 0, 1) := by decide +kernel
theorem dX2_meanPitch_2 : decode cX2_meanPitch 2 = .ok (.putfield 19, 3) := by decide +kernel
theorem dX2_meanPitch_5 : decode cX2_meanPitch 5 = .ok (.iconst 0, 1) := by decide +kernel
theorem dX2_meanPitch_6 : decode cX2_meanPitch 6 = .ok (.istore_n 1, 1) := by decide +kernel
theorem dX2_meanPitch_7 : decode cX2_meanPitch 7 = .ok (.iconst 0, 1) := by decide +kernel
theorem dX2_meanPitch_8 : decode cX2_meanPitch 8 = .ok (.istore_n 2, 1) := by decide +kernel
theorem dX2_meanPitch_9 : decode cX2_meanPitch 9 = .ok (.iload_n 2, 1) := by decide +kernel
theorem dX2_meanPitch_10 : decode cX2_meanPitch 10 = .ok (.aload_n 0, 1) := by decide +kernel
theorem dX2_meanPitch_11 : decode cX2_meanPitch 11 = .ok (.getfield 23, 3) := by decide +kernel
theorem dX2_meanPitch_14 : decode cX2_meanPitch 14 = .ok (.if_icmp .ge 32, 3) := by decide +kernel
theorem dX2_meanPitch_17 : decode cX2_meanPitch 17 = .ok (.iload_n 1, 1) := by decide +kernel
theorem dX2_meanPitch_18 : decode cX2_meanPitch 18 = .ok (.aload_n 0, 1) := by decide +kernel
theorem dX2_meanPitch_19 : decode cX2_meanPitch 19 = .ok (.iload_n 2, 1) := by decide +kernel
theorem dX2_meanPitch_20 : decode cX2_meanPitch 20 = .ok (.invokevirtual 39, 3) := by decide +kernel
theorem dX2_meanPitch_23 : decode cX2_meanPitch 23 = .ok (.ifCond .eq 14, 3) := by decide +kernel
theorem dX2_meanPitch_26 : decode cX2_meanPitch 26 = .ok (.aload_n 0, 1) := by decide +kernel
theorem dX2_meanPitch_27 : decode cX2_meanPitch 27 = .ok (.getfield 13, 3) := by decide +kernel
theorem dX2_meanPitch_30 : decode cX2_meanPitch 30 = .ok (.iconst 3, 1) := by decide +kernel
theorem dX2_meanPitch_31 : decode cX2_meanPitch 31 = .ok (.iload_n 2, 1) := by decide +kernel
theorem dX2_meanPitch_32 : decode cX2_meanPitch 32 = .ok (.iadd, 1) := by decide +kernel
theorem dX2_meanPitch_33 : decode cX2_meanPitch 33 = .ok (.iaload, 1) := by decide +kernel
theorem dX2_meanPitch_34 : decode cX2_meanPitch 34 = .ok (.goto 4, 3) := by decide +kernel
theorem dX2_meanPitch_37 : decode cX2_meanPitch 37 = .ok (.iconst 0, 1) := by decide +kernel
theorem dX2_meanPitch_38 : decode cX2_meanPitch 38 = .ok (.iadd, 1) := by decide +kernel
theorem dX2_meanPitch_39 : decode cX2_meanPitch 39 = .ok (.istore_n 1, 1) := by decide +kernel
theorem dX2_meanPitch_40 : decode cX2_meanPitch 40 = .ok (.iinc 2 1, 3) := by decide +kernel
theorem dX2_meanPitch_43 : decode cX2_meanPitch 43 = .ok (.goto (-34), 3) := by decide +kernel
theorem dX2_meanPitch_46 : decode cX2_meanPitch 46 = .ok (.aload_n 0, 1) := by decide +kernel
theorem dX2_meanPitch_47 : decode cX2_meanPitch 47 = .ok (.invokevirtual 68, 3) := by decide +kernel
theorem dX2_meanPitch_50 : decode cX2_meanPitch 50 = .ok (.ifCond .ne 7, 3) := by decide +kernel
theorem dX2_meanPitch_53 : decode cX2_meanPitch 53 = .ok (.dconst 0, 1) := by decide +kernel
theorem dX2_meanPitch_54 : decode cX2_meanPitch 54 = .ok (.goto 14, 3) := by decide +kernel
theorem dX2_meanPitch_57 : decode cX2_meanPitch 57 = .ok (.iload_n 1, 1) := by decide +kernel
theorem dX2_meanPitch_58 : decode cX2_meanPitch 58 = .ok (.i2d, 1) := by decide +kernel
theorem dX2_meanPitch_59 : decode cX2_meanPitch 59 = .ok (.aload_n 0, 1) := by decide +kernel
theorem dX2_meanPitch_60 : decode cX2_meanPitch 60 = .ok (.invokevirtual 68, 3) := by decide +kernel
theorem dX2_meanPitch_63 : decode cX2_meanPitch 63 = .ok (.invokestatic 60, 3) := by decide +kernel
theorem dX2_meanPitch_66 : decode cX2_meanPitch 66 = .ok (.i2d, 1) := by decide +kernel
theorem dX2_meanPitch_67 : decode cX2_meanPitch 67 = .ok (.ddiv, 1) := by decide +kernel
theorem dX2_meanPitch_68 : decode cX2_meanPitch 68 = .ok (.dreturn, 1) := by decide +kernel
theorem dX2_digest_0 : decode cX2_digest 0 = .ok (.aload_n 0, 1) := by decide +kernel
theorem dX2_digest_1 : decode cX2_digest 1 = .ok (.iconst 0, 1) := by decide +kernel
theorem dX2_digest_2 : decode cX2_digest 2 = .ok (.putfield 19, 3) := by decide +kernel
theorem dX2_digest_5 : decode cX2_digest 5 = .ok (.aload_n 0, 1) := by decide +kernel
theorem dX2_digest_6 : decode cX2_digest 6 = .ok (.invokevirtual 68, 3) := by decide +kernel
theorem dX2_digest_9 : decode cX2_digest 9 = .ok (.istore_n 1, 1) := by decide +kernel
theorem dX2_digest_10 : decode cX2_digest 10 = .ok (.bipush 13, 2) := by decide +kernel
theorem dX2_digest_12 : decode cX2_digest 12 = .ok (.newarray .int, 2) := by decide +kernel
theorem dX2_digest_14 : decode cX2_digest 14 = .ok (.dup, 1) := by decide +kernel
theorem dX2_digest_15 : decode cX2_digest 15 = .ok (.iconst 0, 1) := by decide +kernel
theorem dX2_digest_16 : decode cX2_digest 16 = .ok (.aload_n 0, 1) := by decide +kernel
theorem dX2_digest_17 : decode cX2_digest 17 = .ok (.getfield 23, 3) := by decide +kernel
theorem dX2_digest_20 : decode cX2_digest 20 = .ok (.iastore, 1) := by decide +kernel
theorem dX2_digest_21 : decode cX2_digest 21 = .ok (.dup, 1) := by decide +kernel
theorem dX2_digest_22 : decode cX2_digest 22 = .ok (.iconst 1, 1) := by decide +kernel
theorem dX2_digest_23 : decode cX2_digest 23 = .ok (.aload_n 0, 1) := by decide +kernel
theorem dX2_digest_24 : decode cX2_digest 24 = .ok (.getfield 13, 3) := by decide +kernel
theorem dX2_digest_27 : decode cX2_digest 27 = .ok (.iconst 0, 1) := by decide +kernel
theorem dX2_digest_28 : decode cX2_digest 28 = .ok (.iaload, 1) := by decide +kernel
theorem dX2_digest_29 : decode cX2_digest 29 = .ok (.iastore, 1) := by decide +kernel
theorem dX2_digest_30 : decode cX2_digest 30 = .ok (.dup, 1) := by decide +kernel
theorem dX2_digest_31 : decode cX2_digest 31 = .ok (.iconst 2, 1) := by decide +kernel
theorem dX2_digest_32 : decode cX2_digest 32 = .ok (.iload_n 1, 1) := by decide +kernel
theorem dX2_digest_33 : decode cX2_digest 33 = .ok (.invokestatic 60, 3) := by decide +kernel
theorem dX2_digest_36 : decode cX2_digest 36 = .ok (.iastore, 1) := by decide +kernel
theorem dX2_digest_37 : decode cX2_digest 37 = .ok (.dup, 1) := by decide +kernel
theorem dX2_digest_38 : decode cX2_digest 38 = .ok (.iconst 3, 1) := by decide +kernel
theorem dX2_digest_39 : decode cX2_digest 39 = .ok (.aload_n 0, 1) := by decide +kernel
theorem dX2_digest_40 : decode cX2_digest 40 = .ok (.iload_n 1, 1) := by decide +kernel
theorem dX2_digest_41 : decode cX2_digest 41 = .ok (.invokevirtual 103, 3) := by decide +kernel
theorem dX2_digest_44 : decode cX2_digest 44 = .ok (.iastore, 1) := by decide +kernel
theorem dX2_digest_45 : decode cX2_digest 45 = .ok (.dup, 1) := by decide +kernel
theorem dX2_digest_46 : decode cX2_digest 46 = .ok (.iconst 4, 1) := by decide +kernel
theorem dX2_digest_47 : decode cX2_digest 47 = .ok (.aload_n 0, 1) := by decide +kernel
theorem dX2_digest_48 : decode cX2_digest 48 = .ok (.iload_n 1, 1) := by decide +kernel
theorem dX2_digest_49 : decode cX2_digest 49 = .ok (.invokevirtual 65, 3) := by decide +kernel
theorem dX2_digest_52 : decode cX2_digest 52 = .ok (.iastore, 1) := by decide +kernel
theorem dX2_digest_53 : decode cX2_digest 53 = .ok (.dup, 1) := by decide +kernel
theorem dX2_digest_54 : decode cX2_digest 54 = .ok (.iconst 5, 1) := by decide +kernel
theorem dX2_digest_55 : decode cX2_digest 55 = .ok (.aload_n 0, 1) := by decide +kernel
theorem dX2_digest_56 : decode cX2_digest 56 = .ok (.invokevirtual 109, 3) := by decide +kernel
theorem dX2_digest_59 : decode cX2_digest 59 = .ok (.iastore, 1) := by decide +kernel
theorem dX2_digest_60 : decode cX2_digest 60 = .ok (.dup, 1) := by decide +kernel
theorem dX2_digest_61 : decode cX2_digest 61 = .ok (.bipush 6, 2) := by decide +kernel
theorem dX2_digest_63 : decode cX2_digest 63 = .ok (.aload_n 0, 1) := by decide +kernel
theorem dX2_digest_64 : decode cX2_digest 64 = .ok (.invokevirtual 112, 3) := by decide +kernel
theorem dX2_digest_67 : decode cX2_digest 67 = .ok (.iastore, 1) := by decide +kernel
theorem dX2_digest_68 : decode cX2_digest 68 = .ok (.dup, 1) := by decide +kernel
theorem dX2_digest_69 : decode cX2_digest 69 = .ok (.bipush 7, 2) := by decide +kernel
theorem dX2_digest_71 : decode cX2_digest 71 = .ok (.aload_n 0, 1) := by decide +kernel
theorem dX2_digest_72 : decode cX2_digest 72 = .ok (.invokevirtual 72, 3) := by decide +kernel
theorem dX2_digest_75 : decode cX2_digest 75 = .ok (.ifCond .eq 7, 3) := by decide +kernel
theorem dX2_digest_78 : decode cX2_digest 78 = .ok (.iconst 1, 1) := by decide +kernel
theorem dX2_digest_79 : decode cX2_digest 79 = .ok (.goto 4, 3) := by decide +kernel
theorem dX2_digest_82 : decode cX2_digest 82 = .ok (.iconst 0, 1) := by decide +kernel
theorem dX2_digest_83 : decode cX2_digest 83 = .ok (.iastore, 1) := by decide +kernel
theorem dX2_digest_84 : decode cX2_digest 84 = .ok (.dup, 1) := by decide +kernel
theorem dX2_digest_85 : decode cX2_digest 85 = .ok (.bipush 8, 2) := by decide +kernel
theorem dX2_digest_87 : decode cX2_digest 87 = .ok (.aload_n 0, 1) := by decide +kernel
theorem dX2_digest_88 : decode cX2_digest 88 = .ok (.getfield 13, 3) := by decide +kernel
theorem dX2_digest_91 : decode cX2_digest 91 = .ok (.iconst 1, 1) := by decide +kernel
theorem dX2_digest_92 : decode cX2_digest 92 = .ok (.iaload, 1) := by decide +kernel
theorem dX2_digest_93 : decode cX2_digest 93 = .ok (.iastore, 1) := by decide +kernel
theorem dX2_digest_94 : decode cX2_digest 94 = .ok (.dup, 1) := by decide +kernel
theorem dX2_digest_95 : decode cX2_digest 95 = .ok (.bipush 9, 2) := by decide +kernel
theorem dX2_digest_97 : decode cX2_digest 97 = .ok (.aload_n 0, 1) := by decide +kernel
theorem dX2_digest_98 : decode cX2_digest 98 = .ok (.invokevirtual 118, 3) := by decide +kernel
theorem dX2_digest_101 : decode cX2_digest 101 = .ok (.iastore, 1) := by decide +kernel
theorem dX2_digest_102 : decode cX2_digest 102 = .ok (.dup, 1) := by decide +kernel
theorem dX2_digest_103 : decode cX2_digest 103 = .ok (.bipush 10, 2) := by decide +kernel
theorem dX2_digest_105 : decode cX2_digest 105 = .ok (.aload_n 0, 1) := by decide +kernel
theorem dX2_digest_106 : decode cX2_digest 106 = .ok (.invokevirtual 127, 3) := by decide +kernel
theorem dX2_digest_109 : decode cX2_digest 109 = .ok (.iastore, 1) := by decide +kernel
theorem dX2_digest_110 : decode cX2_digest 110 = .ok (.dup, 1) := by decide +kernel
theorem dX2_digest_111 : decode cX2_digest 111 = .ok (.bipush 11, 2) := by decide +kernel
theorem dX2_digest_113 : decode cX2_digest 113 = .ok (.aload_n 0, 1) := by decide +kernel
theorem dX2_digest_114 : decode cX2_digest 114 = .ok (.invokevirtual 130, 3) := by decide +kernel
theorem dX2_digest_117 : decode cX2_digest 117 = .ok (.iastore, 1) := by decide +kernel
theorem dX2_digest_118 : decode cX2_digest 118 = .ok (.dup, 1) := by decide +kernel
theorem dX2_digest_119 : decode cX2_digest 119 = .ok (.bipush 12, 2) := by decide +kernel
theorem dX2_digest_121 : decode cX2_digest 121 = .ok (.aload_n 0, 1) := by decide +kernel
theorem dX2_digest_122 : decode cX2_digest 122 = .ok (.invokevirtual 133, 3) := by decide +kernel
theorem dX2_digest_125 : decode cX2_digest 125 = .ok (.iastore, 1) := by decide +kernel
theorem dX2_digest_126 : decode cX2_digest 126 = .ok (.astore_n 2, 1) := by decide +kernel
theorem dX2_digest_127 : decode cX2_digest 127 = .ok (.ldc2_w 136, 3) := by decide +kernel
theorem dX2_digest_130 : decode cX2_digest 130 = .ok (.lstore_n 3, 1) := by decide +kernel
theorem dX2_digest_131 : decode cX2_digest 131 = .ok (.aload_n 2, 1) := by decide +kernel
theorem dX2_digest_132 : decode cX2_digest 132 = .ok (.astore 5, 2) := by decide +kernel
theorem dX2_digest_134 : decode cX2_digest 134 = .ok (.aload 5, 2) := by decide +kernel
theorem dX2_digest_136 : decode cX2_digest 136 = .ok (.arraylength, 1) := by decide +kernel
theorem dX2_digest_137 : decode cX2_digest 137 = .ok (.istore 6, 2) := by decide +kernel
theorem dX2_digest_139 : decode cX2_digest 139 = .ok (.iconst 0, 1) := by decide +kernel
theorem dX2_digest_140 : decode cX2_digest 140 = .ok (.istore 7, 2) := by decide +kernel
theorem dX2_digest_142 : decode cX2_digest 142 = .ok (.iload 7, 2) := by decide +kernel
theorem dX2_digest_144 : decode cX2_digest 144 = .ok (.iload 6, 2) := by decide +kernel
theorem dX2_digest_146 : decode cX2_digest 146 = .ok (.if_icmp .ge 26, 3) := by decide +kernel
theorem dX2_digest_149 : decode cX2_digest 149 = .ok (.aload 5, 2) := by decide +kernel
theorem dX2_digest_151 : decode cX2_digest 151 = .ok (.iload 7, 2) := by decide +kernel
theorem dX2_digest_153 : decode cX2_digest 153 = .ok (.iaload, 1) := by decide +kernel
theorem dX2_digest_154 : decode cX2_digest 154 = .ok (.istore 8, 2) := by decide +kernel
theorem dX2_digest_156 : decode cX2_digest 156 = .ok (.lload_n 3, 1) := by decide +kernel
theorem dX2_digest_157 : decode cX2_digest 157 = .ok (.ldc2_w 138, 3) := by decide +kernel
theorem dX2_digest_160 : decode cX2_digest 160 = .ok (.lmul, 1) := by decide +kernel
theorem dX2_digest_161 : decode cX2_digest 161 = .ok (.iload 8, 2) := by decide +kernel
theorem dX2_digest_163 : decode cX2_digest 163 = .ok (.i2l, 1) := by decide +kernel
theorem dX2_digest_164 : decode cX2_digest 164 = .ok (.ladd, 1) := by decide +kernel
theorem dX2_digest_165 : decode cX2_digest 165 = .ok (.lstore_n 3, 1) := by decide +kernel
theorem dX2_digest_166 : decode cX2_digest 166 = .ok (.iinc 7 1, 3) := by decide +kernel
theorem dX2_digest_169 : decode cX2_digest 169 = .ok (.goto (-27), 3) := by decide +kernel
theorem dX2_digest_172 : decode cX2_digest 172 = .ok (.iconst 0, 1) := by decide +kernel
theorem dX2_digest_173 : decode cX2_digest 173 = .ok (.istore 5, 2) := by decide +kernel
theorem dX2_digest_175 : decode cX2_digest 175 = .ok (.iload 5, 2) := by decide +kernel
theorem dX2_digest_177 : decode cX2_digest 177 = .ok (.aload_n 0, 1) := by decide +kernel
theorem dX2_digest_178 : decode cX2_digest 178 = .ok (.getfield 23, 3) := by decide +kernel
theorem dX2_digest_181 : decode cX2_digest 181 = .ok (.if_icmp .ge 141, 3) := by decide +kernel
theorem dX2_digest_184 : decode cX2_digest 184 = .ok (.bipush 7, 2) := by decide +kernel
theorem dX2_digest_186 : decode cX2_digest 186 = .ok (.newarray .int, 2) := by decide +kernel
theorem dX2_digest_188 : decode cX2_digest 188 = .ok (.dup, 1) := by decide +kernel
theorem dX2_digest_189 : decode cX2_digest 189 = .ok (.iconst 0, 1) := by decide +kernel
theorem dX2_digest_190 : decode cX2_digest 190 = .ok (.aload_n 0, 1) := by decide +kernel
theorem dX2_digest_191 : decode cX2_digest 191 = .ok (.getfield 9, 3) := by decide +kernel
theorem dX2_digest_194 : decode cX2_digest 194 = .ok (.iload 5, 2) := by decide +kernel
theorem dX2_digest_196 : decode cX2_digest 196 = .ok (.iaload, 1) := by decide +kernel
theorem dX2_digest_197 : decode cX2_digest 197 = .ok (.iastore, 1) := by decide +kernel
theorem dX2_digest_198 : decode cX2_digest 198 = .ok (.dup, 1) := by decide +kernel
theorem dX2_digest_199 : decode cX2_digest 199 = .ok (.iconst 1, 1) := by decide +kernel
theorem dX2_digest_200 : decode cX2_digest 200 = .ok (.aload_n 0, 1) := by decide +kernel
theorem dX2_digest_201 : decode cX2_digest 201 = .ok (.getfield 13, 3) := by decide +kernel
theorem dX2_digest_204 : decode cX2_digest 204 = .ok (.iconst 3, 1) := by decide +kernel
theorem dX2_digest_205 : decode cX2_digest 205 = .ok (.iload 5, 2) := by decide +kernel
theorem dX2_digest_207 : decode cX2_digest 207 = .ok (.iadd, 1) := by decide +kernel
theorem dX2_digest_208 : decode cX2_digest 208 = .ok (.iaload, 1) := by decide +kernel
theorem dX2_digest_209 : decode cX2_digest 209 = .ok (.iastore, 1) := by decide +kernel
theorem dX2_digest_210 : decode cX2_digest 210 = .ok (.dup, 1) := by decide +kernel
theorem dX2_digest_211 : decode cX2_digest 211 = .ok (.iconst 2, 1) := by decide +kernel
theorem dX2_digest_212 : decode cX2_digest 212 = .ok (.aload_n 0, 1) := by decide +kernel
theorem dX2_digest_213 : decode cX2_digest 213 = .ok (.getfield 13, 3) := by decide +kernel
theorem dX2_digest_216 : decode cX2_digest 216 = .ok (.bipush 13, 2) := by decide +kernel
theorem dX2_digest_218 : decode cX2_digest 218 = .ok (.iload 5, 2) := by decide +kernel
theorem dX2_digest_220 : decode cX2_digest 220 = .ok (.iadd, 1) := by decide +kernel
theorem dX2_digest_221 : decode cX2_digest 221 = .ok (.iaload, 1) := by decide +kernel
theorem dX2_digest_222 : decode cX2_digest 222 = .ok (.iastore, 1) := by decide +kernel
theorem dX2_digest_223 : decode cX2_digest 223 = .ok (.dup, 1) := by decide +kernel
theorem dX2_digest_224 : decode cX2_digest 224 = .ok (.iconst 3, 1) := by decide +kernel
theorem dX2_digest_225 : decode cX2_digest 225 = .ok (.aload_n 0, 1) := by decide +kernel
theorem dX2_digest_226 : decode cX2_digest 226 = .ok (.getfield 13, 3) := by decide +kernel
theorem dX2_digest_229 : decode cX2_digest 229 = .ok (.bipush 23, 2) := by decide +kernel
theorem dX2_digest_231 : decode cX2_digest 231 = .ok (.iload 5, 2) := by decide +kernel
theorem dX2_digest_233 : decode cX2_digest 233 = .ok (.iadd, 1) := by decide +kernel
theorem dX2_digest_234 : decode cX2_digest 234 = .ok (.iaload, 1) := by decide +kernel
theorem dX2_digest_235 : decode cX2_digest 235 = .ok (.iastore, 1) := by decide +kernel
theorem dX2_digest_236 : decode cX2_digest 236 = .ok (.dup, 1) := by decide +kernel
theorem dX2_digest_237 : decode cX2_digest 237 = .ok (.iconst 4, 1) := by decide +kernel
theorem dX2_digest_238 : decode cX2_digest 238 = .ok (.aload_n 0, 1) := by decide +kernel
theorem dX2_digest_239 : decode cX2_digest 239 = .ok (.iload 5, 2) := by decide +kernel
theorem dX2_digest_241 : decode cX2_digest 241 = .ok (.invokevirtual 39, 3) := by decide +kernel
theorem dX2_digest_244 : decode cX2_digest 244 = .ok (.ifCond .eq 7, 3) := by decide +kernel
theorem dX2_digest_247 : decode cX2_digest 247 = .ok (.iconst 1, 1) := by decide +kernel
theorem dX2_digest_248 : decode cX2_digest 248 = .ok (.goto 4, 3) := by decide +kernel
theorem dX2_digest_251 : decode cX2_digest 251 = .ok (.iconst 0, 1) := by decide +kernel
theorem dX2_digest_252 : decode cX2_digest 252 = .ok (.iastore, 1) := by decide +kernel
theorem dX2_digest_253 : decode cX2_digest 253 = .ok (.dup, 1) := by decide +kernel
theorem dX2_digest_254 : decode cX2_digest 254 = .ok (.iconst 5, 1) := by decide +kernel
theorem dX2_digest_255 : decode cX2_digest 255 = .ok (.aload_n 0, 1) := by decide +kernel
theorem dX2_digest_256 : decode cX2_digest 256 = .ok (.iload 5, 2) := by decide +kernel
theorem dX2_digest_258 : decode cX2_digest 258 = .ok (.invokevirtual 106, 3) := by decide +kernel
theorem dX2_digest_261 : decode cX2_digest 261 = .ok (.iastore, 1) := by decide +kernel
theorem dX2_digest_262 : decode cX2_digest 262 = .ok (.dup, 1) := by decide +kernel
theorem dX2_digest_263 : decode cX2_digest 263 = .ok (.bipush 6, 2) := by decide +kernel
theorem dX2_digest_265 : decode cX2_digest 265 = .ok (.aload_n 0, 1) := by decide +kernel
theorem dX2_digest_266 : decode cX2_digest 266 = .ok (.iload 5, 2) := by decide +kernel
theorem dX2_digest_268 : decode cX2_digest 268 = .ok (.invokevirtual 115, 3) := by decide +kernel
theorem dX2_digest_271 : decode cX2_digest 271 = .ok (.iastore, 1) := by decide +kernel
theorem dX2_digest_272 : decode cX2_digest 272 = .ok (.astore 6, 2) := by decide +kernel
theorem dX2_digest_274 : decode cX2_digest 274 = .ok (.aload 6, 2) := by decide +kernel
theorem dX2_digest_276 : decode cX2_digest 276 = .ok (.astore 7, 2) := by decide +kernel
theorem dX2_digest_278 : decode cX2_digest 278 = .ok (.aload 7, 2) := by decide +kernel
theorem dX2_digest_280 : decode cX2_digest 280 = .ok (.arraylength, 1) := by decide +kernel
theorem dX2_digest_281 : decode cX2_digest 281 = .ok (.istore 8, 2) := by decide +kernel
theorem dX2_digest_283 : decode cX2_digest 283 = .ok (.iconst 0, 1) := by decide +kernel
theorem dX2_digest_284 : decode cX2_digest 284 = .ok (.istore 9, 2) := by decide +kernel
theorem dX2_digest_286 : decode cX2_digest 286 = .ok (.iload 9, 2) := by decide +kernel
theorem dX2_digest_288 : decode cX2_digest 288 = .ok (.iload 8, 2) := by decide +kernel
theorem dX2_digest_290 : decode cX2_digest 290 = .ok (.if_icmp .ge 26, 3) := by decide +kernel
theorem dX2_digest_293 : decode cX2_digest 293 = .ok (.aload 7, 2) := by decide +kernel
theorem dX2_digest_295 : decode cX2_digest 295 = .ok (.iload 9, 2) := by decide +kernel
theorem dX2_digest_297 : decode cX2_digest 297 = .ok (.iaload, 1) := by decide +kernel
theorem dX2_digest_298 : decode cX2_digest 298 = .ok (.istore 10, 2) := by decide +kernel
theorem dX2_digest_300 : decode cX2_digest 300 = .ok (.lload_n 3, 1) := by decide +kernel
theorem dX2_digest_301 : decode cX2_digest 301 = .ok (.ldc2_w 138, 3) := by decide +kernel
theorem dX2_digest_304 : decode cX2_digest 304 = .ok (.lmul, 1) := by decide +kernel
theorem dX2_digest_305 : decode cX2_digest 305 = .ok (.iload 10, 2) := by decide +kernel
theorem dX2_digest_307 : decode cX2_digest 307 = .ok (.i2l, 1) := by decide +kernel
theorem dX2_digest_308 : decode cX2_digest 308 = .ok (.ladd, 1) := by decide +kernel
theorem dX2_digest_309 : decode cX2_digest 309 = .ok (.lstore_n 3, 1) := by decide +kernel
theorem dX2_digest_310 : decode cX2_digest 310 = .ok (.iinc 9 1, 3) := by decide +kernel
theorem dX2_digest_313 : decode cX2_digest 313 = .ok (.goto (-27), 3) := by decide +kernel
theorem dX2_digest_316 : decode cX2_digest 316 = .ok (.iinc 5 1, 3) := by decide +kernel
theorem dX2_digest_319 : decode cX2_digest 319 = .ok (.goto (-144), 3) := by decide +kernel
theorem dX2_digest_322 : decode cX2_digest 322 = .ok (.lload_n 3, 1) := by decide +kernel
theorem dX2_digest_323 : decode cX2_digest 323 = .ok (.lreturn, 1) := by decide +kernel
theorem dJ6_bitCount_0f7a4_0 : decode cJ6_bitCount_0f7a4 0 = .ok (.iload_n 0, 1) := by decide +kernel
theorem dJ6_bitCount_0f7a4_1 : decode cJ6_bitCount_0f7a4 1 = .ok (.iload_n 0, 1) := by decide +kernel
theorem dJ6_bitCount_0f7a4_2 : decode cJ6_bitCount_0f7a4 2 = .ok (.iconst 1, 1) := by decide +kernel
theorem dJ6_bitCount_0f7a4_3 : decode cJ6_bitCount_0f7a4 3 = .ok (.iushr, 1) := by decide +kernel
theorem dJ6_bitCount_0f7a4_4 : decode cJ6_bitCount_0f7a4 4 = .ok (.ldc_w 265, 3) := by decide +kernel
theorem dJ6_bitCount_0f7a4_7 : decode cJ6_bitCount_0f7a4 7 = .ok (.iand, 1) := by decide +kernel
theorem dJ6_bitCount_0f7a4_8 : decode cJ6_bitCount_0f7a4 8 = .ok (.isub, 1) := by decide +kernel
theorem dJ6_bitCount_0f7a4_9 : decode cJ6_bitCount_0f7a4 9 = .ok (.istore_n 0, 1) := by decide +kernel
theorem dJ6_bitCount_0f7a4_10 : decode cJ6_bitCount_0f7a4 10 = .ok (.iload_n 0, 1) := by decide +kernel
theorem dJ6_bitCount_0f7a4_11 : decode cJ6_bitCount_0f7a4 11 = .ok (.ldc_w 266, 3) := by decide +kernel
theorem dJ6_bitCount_0f7a4_14 : decode cJ6_bitCount_0f7a4 14 = .ok (.iand, 1) := by decide +kernel
theorem dJ6_bitCount_0f7a4_15 : decode cJ6_bitCount_0f7a4 15 = .ok (.iload_n 0, 1) := by decide +kernel
theorem dJ6_bitCount_0f7a4_16 : decode cJ6_bitCount_0f7a4 16 = .ok (.iconst 2, 1) := by decide +kernel
theorem dJ6_bitCount_0f7a4_17 : decode cJ6_bitCount_0f7a4 17 = .ok (.iushr, 1) := by decide +kernel
theorem dJ6_bitCount_0f7a4_18 : decode cJ6_bitCount_0f7a4 18 = .ok (.ldc_w 266, 3) := by decide +kernel
theorem dJ6_bitCount_0f7a4_21 : decode cJ6_bitCount_0f7a4 21 = .ok (.iand, 1) := by decide +kernel
theorem dJ6_bitCount_0f7a4_22 : decode cJ6_bitCount_0f7a4 22 = .ok (.iadd, 1) := by decide +kernel
theorem dJ6_bitCount_0f7a4_23 : decode cJ6_bitCount_0f7a4 23 = .ok (.istore_n 0, 1) := by decide +kernel
theorem dJ6_bitCount_0f7a4_24 : decode cJ6_bitCount_0f7a4 24 = .ok (.iload_n 0, 1) := by decide +kernel
theorem dJ6_bitCount_0f7a4_25 : decode cJ6_bitCount_0f7a4 25 = .ok (.iload_n 0, 1) := by decide +kernel
theorem dJ6_bitCount_0f7a4_26 : decode cJ6_bitCount_0f7a4 26 = .ok (.iconst 4, 1) := by decide +kernel
theorem dJ6_bitCount_0f7a4_27 : decode cJ6_bitCount_0f7a4 27 = .ok (.iushr, 1) := by decide +kernel
theorem dJ6_bitCount_0f7a4_28 : decode cJ6_bitCount_0f7a4 28 = .ok (.iadd, 1) := by decide +kernel
theorem dJ6_bitCount_0f7a4_29 : decode cJ6_bitCount_0f7a4 29 = .ok (.ldc_w 267, 3) := by decide +kernel
theorem dJ6_bitCount_0f7a4_32 : decode cJ6_bitCount_0f7a4 32 = .ok (.iand, 1) := by decide +kernel
theorem dJ6_bitCount_0f7a4_33 : decode cJ6_bitCount_0f7a4 33 = .ok (.istore_n 0, 1) := by decide +kernel
theorem dJ6_bitCount_0f7a4_34 : decode cJ6_bitCount_0f7a4 34 = .ok (.iload_n 0, 1) := by decide +kernel
theorem dJ6_bitCount_0f7a4_35 : decode cJ6_bitCount_0f7a4 35 = .ok (.iload_n 0, 1) := by decide +kernel
theorem dJ6_bitCount_0f7a4_36 : decode cJ6_bitCount_0f7a4 36 = .ok (.bipush 8, 2) := by decide +kernel
theorem dJ6_bitCount_0f7a4_38 : decode cJ6_bitCount_0f7a4 38 = .ok (.iushr, 1) := by decide +kernel
theorem dJ6_bitCount_0f7a4_39 : decode cJ6_bitCount_0f7a4 39 = .ok (.iadd, 1) := by decide +kernel
theorem dJ6_bitCount_0f7a4_40 : decode cJ6_bitCount_0f7a4 40 = .ok (.istore_n 0, 1) := by decide +kernel
theorem dJ6_bitCount_0f7a4_41 : decode cJ6_bitCount_0f7a4 41 = .ok (.iload_n 0, 1) := by decide +kernel
theorem dJ6_bitCount_0f7a4_42 : decode cJ6_bitCount_0f7a4 42 = .ok (.iload_n 0, 1) := by decide +kernel
theorem dJ6_bitCount_0f7a4_43 : decode cJ6_bitCount_0f7a4 43 = .ok (.bipush 16, 2) := by decide +kernel
theorem dJ6_bitCount_0f7a4_45 : decode cJ6_bitCount_0f7a4 45 = .ok (.iushr, 1) := by decide +kernel
theorem dJ6_bitCount_0f7a4_46 : decode cJ6_bitCount_0f7a4 46 = .ok (.iadd, 1) := by decide +kernel
theorem dJ6_bitCount_0f7a4_47 : decode cJ6_bitCount_0f7a4 47 = .ok (.istore_n 0, 1) := by decide +kernel
theorem dJ6_bitCount_0f7a4_48 : decode cJ6_bitCount_0f7a4 48 = .ok (.iload_n 0, 1) := by decide +kernel
theorem dJ6_bitCount_0f7a4_49 : decode cJ6_bitCount_0f7a4 49 = .ok (.bipush 63, 2) := by decide +kernel
theorem dJ6_bitCount_0f7a4_51 : decode cJ6_bitCount_0f7a4 51 = .ok (.iand, 1) := by decide +kernel
theorem dJ6_bitCount_0f7a4_52 : decode cJ6_bitCount_0f7a4 52 = .ok (.ireturn, 1) := by decide +kernel
theorem dJ9_abs_0f7a4_0 : decode cJ9_abs_0f7a4 0 = .ok (.iload_n 0, 1) := by decide +kernel
theorem dJ9_abs_0f7a4_1 : decode cJ9_abs_0f7a4 1 = .ok (.ifCond .ge 8, 3) := by decide +kernel
theorem dJ9_abs_0f7a4_4 : decode cJ9_abs_0f7a4 4 = .ok (.iload_n 0, 1) := by decide +kernel
theorem dJ9_abs_0f7a4_5 : decode cJ9_abs_0f7a4 5 = .ok (.ineg, 1) := by decide +kernel
theorem dJ9_abs_0f7a4_6 : decode cJ9_abs_0f7a4 6 = .ok (.goto 4, 3) := by decide +kernel
theorem dJ9_abs_0f7a4_9 : decode cJ9_abs_0f7a4 9 = .ok (.iload_n 0, 1) := by decide +kernel
theorem dJ9_abs_0f7a4_10 : decode cJ9_abs_0f7a4 10 = .ok (.ireturn, 1) := by decide +kernel
theorem dJ9_max_7cf53_0 : decode cJ9_max_7cf53 0 = .ok (.iload_n 0, 1) := by decide +kernel
theorem dJ9_max_7cf53_1 : decode cJ9_max_7cf53 1 = .ok (.iload_n 1, 1) := by decide +kernel
theorem dJ9_max_7cf53_2 : decode cJ9_max_7cf53 2 = .ok (.if_icmp .lt 7, 3) := by decide +kernel
theorem dJ9_max_7cf53_5 : decode cJ9_max_7cf53 5 = .ok (.iload_n 0, 1) := by decide +kernel
theorem dJ9_max_7cf53_6 : decode cJ9_max_7cf53 6 = .ok (.goto 4, 3) := by decide +kernel
theorem dJ9_max_7cf53_9 : decode cJ9_max_7cf53 9 = .ok (.iload_n 1, 1) := by decide +kernel
theorem dJ9_max_7cf53_10 : decode cJ9_max_7cf53 10 = .ok (.ireturn, 1) := by decide +kernel
theorem dJ9_min_7cf53_0 : decode cJ9_min_7cf53 0 = .ok (.iload_n 0, 1) := by decide +kernel
theorem dJ9_min_7cf53_1 : decode cJ9_min_7cf53 1 = .ok (.iload_n 1, 1) := by decide +kernel
theorem dJ9_min_7cf53_2 : decode cJ9_min_7cf53 2 = .ok (.if_icmp .gt 7, 3) := by decide +kernel
theorem dJ9_min_7cf53_5 : decode cJ9_min_7cf53 5 = .ok (.iload_n 0, 1) := by decide +kernel
theorem dJ9_min_7cf53_6 : decode cJ9_min_7cf53 6 = .ok (.goto 4, 3) := by decide +kernel
theorem dJ9_min_7cf53_9 : decode cJ9_min_7cf53 9 = .ok (.iload_n 1, 1) := by decide +kernel
theorem dJ9_min_7cf53_10 : decode cJ9_min_7cf53 10 = .ok (.ireturn, 1) := by decide +kernel
end
section
/-! plain facts to paste, each family by itself; over the kit's nI, lN and upd -/
/-! ===== drawers: more things than places ===== -/
theorem fb_holes : ∀ (m n : Nat) (f : Nat → Nat), (∀ i, i < n → f i < m) → (∀ i j, i < j → j < n → f i ≠ f j) → n ≤ m := by
  intro m
  induction m with
  | zero =>
    intro n f h1 _
    rcases Nat.eq_zero_or_pos n with h | h
    · omega
    · exact absurd (h1 0 h) (Nat.not_lt_zero _)
  | succ m ih =>
    intro n f h1 h2
    by_cases hx : ∃ i, i < n ∧ f i = m
    · obtain ⟨a, ha, hfa⟩ := hx
      have hg := ih (n - 1) (fun i => if i < a then f i else f (i + 1)) (by
        intro i hi
        by_cases q : i < a
        · simp only [if_pos q]
          have b1 := h1 i (by omega)
          have b2 := h2 i a q ha
          omega
        · simp only [if_neg q]
          have b1 := h1 (i + 1) (by omega)
          have b2 := h2 a (i + 1) (by omega) (by omega)
          omega) (by
        intro i j hij hj
        by_cases q : i < a
        · by_cases r : j < a
          · simp only [if_pos q, if_pos r]
            exact h2 i j hij (by omega)
          · simp only [if_pos q, if_neg r]
            exact h2 i (j + 1) (by omega) (by omega)
        · have r : ¬ j < a := by omega
          simp only [if_neg q, if_neg r]
          exact h2 (i + 1) (j + 1) (by omega) (by omega))
      omega
    · have hg := ih n f (fun i hi => by
        have b1 := h1 i hi
        have b2 : f i ≠ m := fun e => hx ⟨i, hi, e⟩
        omega) h2
      omega
/-- two of them in one place -/
theorem fb_twice {m n : Nat} {f : Nat → Nat} (h : ∀ i, i < n → f i < m) (hm : m < n) : ∃ i j, i < j ∧ j < n ∧ f i = f j := by
  refine Classical.byContradiction fun hx => ?_
  have := fb_holes m n f h (fun i j hij hj e => hx ⟨i, j, hij, hj, e⟩)
  omega
/-- as many as places, none twice: each place is taken -/
theorem fb_onto {n : Nat} {f : Nat → Nat} (h : ∀ i, i < n → f i < n) (h2 : ∀ i j, i < j → j < n → f i ≠ f j) {y : Nat} (hy : y < n) : ∃ i, i < n ∧ f i = y := by
  refine Classical.byContradiction fun hx => ?_
  have hne : ∀ i, i < n → f i ≠ y := fun i hi e => hx ⟨i, hi, e⟩
  have := fb_holes (n - 1) n (fun i => if f i < y then f i else f i - 1) (by
    intro i hi
    have b1 := h i hi
    have b2 := hne i hi
    by_cases q : f i < y
    · simp only [if_pos q]; omega
    · simp only [if_neg q]; omega) (by
    intro i j hij hj
    have b1 := hne i (by omega)
    have b2 := hne j hj
    have b3 := h2 i j hij hj
    by_cases q : f i < y
    · by_cases r : f j < y
      · simp only [if_pos q, if_pos r]; exact b3
      · simp only [if_pos q, if_neg r]; omega
    · by_cases r : f j < y
      · simp only [if_neg q, if_pos r]; omega
      · simp only [if_neg q, if_neg r]; omega)
  omega
/-! ===== how many places have a property ===== -/
def fb_ct (p : Nat → Bool) : Nat → Nat
  | 0 => 0
  | n + 1 => fb_ct p n + (if p n then 1 else 0)
theorem fb_ct_succ (p : Nat → Bool) (n : Nat) : fb_ct p (n + 1) = fb_ct p n + (if p n then 1 else 0) := rfl
theorem fb_ct_le (p : Nat → Bool) : ∀ n, fb_ct p n ≤ n
  | 0 => Nat.le_refl _
  | n + 1 => by
    have h := fb_ct_le p n
    rw [fb_ct_succ]
    split <;> omega
theorem fb_ct_step (p : Nat → Bool) (m : Nat) : ∀ n, fb_ct p m ≤ fb_ct p (m + n)
  | 0 => Nat.le_refl _
  | n + 1 => by
    have h := fb_ct_step p m n
    show fb_ct p m ≤ fb_ct p (m + n + 1)
    rw [fb_ct_succ]
    omega
theorem fb_ct_mono (p : Nat → Bool) {m n : Nat} (h : m ≤ n) : fb_ct p m ≤ fb_ct p n := by
  have := fb_ct_step p m (n - m)
  rwa [Nat.add_sub_cancel' h] at this
theorem fb_ct_cong {p q : Nat → Bool} : ∀ {n : Nat}, (∀ k, k < n → p k = q k) → fb_ct p n = fb_ct q n
  | 0, _ => rfl
  | n + 1, h => by
    rw [fb_ct_succ, fb_ct_succ, fb_ct_cong (fun k hk => h k (by omega)), h n (by omega)]
/-- one place changed -/
theorem fb_ct_out (p : Nat → Bool) (b : Bool) {i n : Nat} (h : n ≤ i) : fb_ct (fun k => if k = i then b else p k) n = fb_ct p n :=
  fb_ct_cong fun k hk => if_neg (by omega)
theorem fb_ct_upd (p : Nat → Bool) (b : Bool) {i : Nat} : ∀ {n : Nat}, i < n → fb_ct (fun k => if k = i then b else p k) n + (if p i then 1 else 0) = fb_ct p n + (if b then 1 else 0)
  | 0, h => absurd h (Nat.not_lt_zero i)
  | n + 1, h => by
    rw [fb_ct_succ, fb_ct_succ]
    rcases Nat.lt_or_ge i n with q | q
    · have := fb_ct_upd p b q
      have e : (if n = i then b else p n) = p n := if_neg (by omega)
      rw [e]
      omega
    · have e : i = n := by omega
      subst e
      rw [fb_ct_out p b (Nat.le_refl _)]
      simp only [if_true]
      omega
theorem fb_ct_sub {p q : Nat → Bool} : ∀ {n : Nat}, (∀ k, k < n → p k = true → q k = true) → fb_ct p n ≤ fb_ct q n
  | 0, _ => Nat.le_refl _
  | n + 1, h => by
    have h1 := fb_ct_sub (n := n) (p := p) (q := q) (fun k hk => h k (by omega))
    have h2 := h n (by omega)
    rw [fb_ct_succ, fb_ct_succ]
    cases hp : p n <;> cases hq : q n <;> simp_all <;> omega
theorem fb_ct_or {p q : Nat → Bool} : ∀ {n : Nat}, (∀ k, k < n → ¬ (p k = true ∧ q k = true)) → fb_ct (fun k => p k || q k) n = fb_ct p n + fb_ct q n
  | 0, _ => rfl
  | n + 1, h => by
    have h1 := fb_ct_or (n := n) (p := p) (q := q) (fun k hk => h k (by omega))
    have h2 := h n (by omega)
    rw [fb_ct_succ, fb_ct_succ, fb_ct_succ, h1]
    cases hp : p n <;> cases hq : q n <;> simp_all <;> omega
theorem fb_ct_not (p : Nat → Bool) : ∀ n, fb_ct p n + fb_ct (fun k => !p k) n = n
  | 0 => rfl
  | n + 1 => by
    have h := fb_ct_not p n
    rw [fb_ct_succ, fb_ct_succ]
    cases p n <;> simp <;> omega
theorem fb_ct_split (p : Nat → Bool) (m : Nat) : ∀ n, fb_ct p (m + n) = fb_ct p m + fb_ct (fun k => p (m + k)) n
  | 0 => rfl
  | n + 1 => by
    have h := fb_ct_split p m n
    show fb_ct p (m + n + 1) = _
    rw [fb_ct_succ, fb_ct_succ, h, Nat.add_assoc]
theorem fb_ct_zero {p : Nat → Bool} : ∀ {n : Nat}, fb_ct p n = 0 ↔ ∀ k, k < n → p k = false
  | 0 => ⟨fun _ k hk => absurd hk (Nat.not_lt_zero k), fun _ => rfl⟩
  | n + 1 => by
    have h := fb_ct_zero (p := p) (n := n)
    rw [fb_ct_succ]
    constructor
    · intro e k hk
      have e1 : fb_ct p n = 0 := by omega
      rcases Nat.lt_or_ge k n with q | q
      · exact h.mp e1 k q
      · have ek : k = n := by omega
        subst ek
        cases hp : p k
        · rfl
        · simp [hp] at e
    · intro a
      rw [h.mpr (fun k hk => a k (by omega)), a n (by omega)]
      rfl
theorem fb_ct_pos {p : Nat → Bool} {n : Nat} : 0 < fb_ct p n ↔ ∃ k, k < n ∧ p k = true := by
  constructor
  · intro h
    refine Classical.byContradiction fun hx => ?_
    have := fb_ct_zero.mpr (fun k hk => by
      cases hp : p k
      · rfl
      · exact absurd ⟨k, hk, hp⟩ hx : ∀ k, k < n → p k = false)
    omega
  · rintro ⟨k, hk, hp⟩
    rcases Nat.eq_zero_or_pos (fb_ct p n) with e | e
    · have := fb_ct_zero.mp e k hk
      rw [this] at hp
      cases hp
    · exact e
theorem fb_ct_all {p : Nat → Bool} {n : Nat} : fb_ct p n = n ↔ ∀ k, k < n → p k = true := by
  have h := fb_ct_not p n
  constructor
  · intro e k hk
    have z : fb_ct (fun k => !p k) n = 0 := by omega
    have := fb_ct_zero.mp z k hk
    cases hp : p k
    · simp [hp] at this
    · rfl
  · intro a
    have z : fb_ct (fun k => !p k) n = 0 := fb_ct_zero.mpr (fun k hk => by simp [a k hk])
    omega
/-- the k-th place with the property -/
theorem fb_ct_kth {p : Nat → Bool} {k : Nat} : ∀ {n : Nat}, k < fb_ct p n → ∃ i, i < n ∧ p i = true ∧ fb_ct p i = k
  | 0, h => absurd h (Nat.not_lt_zero k)
  | n + 1, h => by
    rcases Nat.lt_or_ge k (fb_ct p n) with q | q
    · obtain ⟨i, h1, h2⟩ := fb_ct_kth q
      exact ⟨i, by omega, h2⟩
    · rw [fb_ct_succ] at h
      cases hp : p n
      · simp [hp] at h; omega
      · simp [hp] at h
        exact ⟨n, by omega, hp, by omega⟩
theorem fb_ct_kth_one {p : Nat → Bool} {i j : Nat} (hi : p i = true) (hj : p j = true) (e : fb_ct p i = fb_ct p j) : i = j := by
  have key : ∀ a b : Nat, a < b → p a = true → fb_ct p a < fb_ct p b := by
    intro a b hab ha
    have h := fb_ct_mono p (show a + 1 ≤ b from hab)
    rw [fb_ct_succ, ha] at h
    simp at h
    omega
  rcases Nat.lt_trichotomy i j with q | q | q
  · have := key i j q hi; omega
  · exact q
  · have := key j i q hj; omega
/-! ===== sums over a range: one place changed, parts, bounds ===== -/
def fb_sm (f : Nat → Nat) : Nat → Nat
  | 0 => 0
  | n + 1 => fb_sm f n + f n
theorem fb_sm_succ (f : Nat → Nat) (n : Nat) : fb_sm f (n + 1) = fb_sm f n + f n := rfl
theorem fb_sm_cong {f g : Nat → Nat} : ∀ {n : Nat}, (∀ k, k < n → f k = g k) → fb_sm f n = fb_sm g n
  | 0, _ => rfl
  | n + 1, h => by rw [fb_sm_succ, fb_sm_succ, fb_sm_cong (fun k hk => h k (by omega)), h n (by omega)]
theorem fb_sm_out (f : Nat → Nat) (v : Nat) {i n : Nat} (h : n ≤ i) : fb_sm (fun k => if k = i then v else f k) n = fb_sm f n :=
  fb_sm_cong fun k hk => if_neg (by omega)
theorem fb_sm_upd (f : Nat → Nat) (v : Nat) {i : Nat} : ∀ {n : Nat}, i < n → fb_sm (fun k => if k = i then v else f k) n + f i = fb_sm f n + v
  | 0, h => absurd h (Nat.not_lt_zero i)
  | n + 1, h => by
    rw [fb_sm_succ, fb_sm_succ]
    rcases Nat.lt_or_ge i n with q | q
    · have := fb_sm_upd f v q
      have e : (if n = i then v else f n) = f n := if_neg (by omega)
      rw [e]
      omega
    · have e : i = n := by omega
      subst e
      rw [fb_sm_out f v (Nat.le_refl _)]
      simp only [if_true]
      omega
theorem fb_sm_add (f g : Nat → Nat) : ∀ n, fb_sm (fun k => f k + g k) n = fb_sm f n + fb_sm g n
  | 0 => rfl
  | n + 1 => by
    have h := fb_sm_add f g n
    rw [fb_sm_succ, fb_sm_succ, fb_sm_succ, h]
    omega
theorem fb_sm_le {f g : Nat → Nat} : ∀ {n : Nat}, (∀ k, k < n → f k ≤ g k) → fb_sm f n ≤ fb_sm g n
  | 0, _ => Nat.le_refl _
  | n + 1, h => by
    have h1 := fb_sm_le (n := n) (f := f) (g := g) (fun k hk => h k (by omega))
    have h2 := h n (by omega)
    rw [fb_sm_succ, fb_sm_succ]
    omega
theorem fb_sm_const (c : Nat) : ∀ n, fb_sm (fun _ => c) n = n * c
  | 0 => by rw [Nat.zero_mul]; rfl
  | n + 1 => by rw [fb_sm_succ, fb_sm_const c n, Nat.succ_mul]
theorem fb_sm_bound {f : Nat → Nat} {c n : Nat} (h : ∀ k, k < n → f k ≤ c) : fb_sm f n ≤ n * c := by
  rw [← fb_sm_const c n]
  exact fb_sm_le h
theorem fb_sm_mono (f : Nat → Nat) (m : Nat) : ∀ n, fb_sm f m ≤ fb_sm f (m + n)
  | 0 => Nat.le_refl _
  | n + 1 => by
    have h := fb_sm_mono f m n
    show fb_sm f m ≤ fb_sm f (m + n + 1)
    rw [fb_sm_succ]
    omega
theorem fb_sm_part (f : Nat → Nat) {i n : Nat} (h : i < n) : fb_sm f i + f i ≤ fb_sm f n := by
  have := fb_sm_mono f (i + 1) (n - (i + 1))
  rw [fb_sm_succ, show i + 1 + (n - (i + 1)) = n by omega] at this
  exact this
theorem fb_sm_split (f : Nat → Nat) (m : Nat) : ∀ n, fb_sm f (m + n) = fb_sm f m + fb_sm (fun k => f (m + k)) n
  | 0 => rfl
  | n + 1 => by
    have h := fb_sm_split f m n
    show fb_sm f (m + n + 1) = _
    rw [fb_sm_succ, fb_sm_succ, h, Nat.add_assoc]
theorem fb_sm_zero {f : Nat → Nat} {n : Nat} (h : fb_sm f n = 0) : ∀ k, k < n → f k = 0 := fun k hk => by
  have := fb_sm_part f hk
  omega
/-- the same over whole numbers -/
def fb_si (f : Nat → Int) : Nat → Int
  | 0 => 0
  | n + 1 => fb_si f n + f n
theorem fb_si_succ (f : Nat → Int) (n : Nat) : fb_si f (n + 1) = fb_si f n + f n := rfl
theorem fb_si_cong {f g : Nat → Int} : ∀ {n : Nat}, (∀ k, k < n → f k = g k) → fb_si f n = fb_si g n
  | 0, _ => rfl
  | n + 1, h => by rw [fb_si_succ, fb_si_succ, fb_si_cong (fun k hk => h k (by omega)), h n (by omega)]
theorem fb_si_out (f : Nat → Int) (v : Int) {i n : Nat} (h : n ≤ i) : fb_si (fun k => if k = i then v else f k) n = fb_si f n :=
  fb_si_cong fun k hk => if_neg (by omega)
theorem fb_si_upd (f : Nat → Int) (v : Int) {i : Nat} : ∀ {n : Nat}, i < n → fb_si (fun k => if k = i then v else f k) n = fb_si f n - f i + v
  | 0, h => absurd h (Nat.not_lt_zero i)
  | n + 1, h => by
    rw [fb_si_succ, fb_si_succ]
    rcases Nat.lt_or_ge i n with q | q
    · have := fb_si_upd f v q
      have e : (if n = i then v else f n) = f n := if_neg (by omega)
      rw [e]
      omega
    · have e : i = n := by omega
      subst e
      rw [fb_si_out f v (Nat.le_refl _)]
      simp only [if_true]
      omega
theorem fb_si_add (f g : Nat → Int) : ∀ n, fb_si (fun k => f k + g k) n = fb_si f n + fb_si g n
  | 0 => rfl
  | n + 1 => by
    have h := fb_si_add f g n
    rw [fb_si_succ, fb_si_succ, fb_si_succ, h]
    omega
theorem fb_si_sub (f g : Nat → Int) : ∀ n, fb_si (fun k => f k - g k) n = fb_si f n - fb_si g n
  | 0 => rfl
  | n + 1 => by
    have h := fb_si_sub f g n
    rw [fb_si_succ, fb_si_succ, fb_si_succ, h]
    omega
theorem fb_si_mul (c : Int) (f : Nat → Int) : ∀ n, fb_si (fun k => c * f k) n = c * fb_si f n
  | 0 => (Int.mul_zero c).symm
  | n + 1 => by
    have h := fb_si_mul c f n
    rw [fb_si_succ, fb_si_succ, h, Int.mul_add]
theorem fb_si_split (f : Nat → Int) (m : Nat) : ∀ n, fb_si f (m + n) = fb_si f m + fb_si (fun k => f (m + k)) n
  | 0 => (Int.add_zero _).symm
  | n + 1 => by
    have h := fb_si_split f m n
    show fb_si f (m + n + 1) = _
    rw [fb_si_succ, fb_si_succ, h, Int.add_assoc]
theorem fb_si_nat (f : Nat → Nat) : ∀ n, fb_si (fun k => (f k : Int)) n = (fb_sm f n : Int)
  | 0 => rfl
  | n + 1 => by
    have h := fb_si_nat f n
    rw [fb_si_succ, fb_sm_succ, h]
    omega
theorem fb_si_bound {f : Nat → Int} {c : Int} (hc : 0 ≤ c) : ∀ {n : Nat}, (∀ k, k < n → -c ≤ f k ∧ f k ≤ c) → -(n * c) ≤ fb_si f n ∧ fb_si f n ≤ n * c
  | 0, _ => by simp [fb_si]
  | n + 1, h => by
    have h1 := fb_si_bound (n := n) (f := f) hc (fun k hk => h k (by omega))
    have h2 := h n (by omega)
    have e : ((n + 1 : Nat) : Int) * c = n * c + c := by rw [Int.natCast_add, Int.add_mul]; simp
    rw [fb_si_succ, e]
    omega
/-! ===== bits of a long that isn't negative ===== -/
theorem fb_andL (a b : Nat) : lN a &&& lN b = lN (a &&& b) := by
  apply Int64.toBitVec_inj.1
  show BitVec.ofNat 64 a &&& BitVec.ofNat 64 b = BitVec.ofNat 64 (a &&& b)
  apply BitVec.eq_of_getLsbD_eq
  intro i hi
  simp [hi]
theorem fb_orL (a b : Nat) : lN a ||| lN b = lN (a ||| b) := by
  apply Int64.toBitVec_inj.1
  show BitVec.ofNat 64 a ||| BitVec.ofNat 64 b = BitVec.ofNat 64 (a ||| b)
  apply BitVec.eq_of_getLsbD_eq
  intro i hi
  simp [hi]
theorem fb_xorL (a b : Nat) : lN a ^^^ lN b = lN (a ^^^ b) := by
  apply Int64.toBitVec_inj.1
  show BitVec.ofNat 64 a ^^^ BitVec.ofNat 64 b = BitVec.ofNat 64 (a ^^^ b)
  apply BitVec.eq_of_getLsbD_eq
  intro i hi
  simp [hi]
theorem fb_xorI (a b : Nat) : nI a ^^^ nI b = nI (a ^^^ b) := by
  apply Int32.toBitVec_inj.1
  show BitVec.ofNat 32 a ^^^ BitVec.ofNat 32 b = BitVec.ofNat 32 (a ^^^ b)
  apply BitVec.eq_of_getLsbD_eq
  intro i hi
  simp [hi]
theorem fb_maskL (n k : Nat) : lN n &&& lN (2 ^ k - 1) = lN (n % 2 ^ k) := by rw [fb_andL, Nat.and_two_pow_sub_one_eq_mod]
theorem fb_or_sumL {a k : Nat} (b : Nat) (h : a < 2 ^ k) : lN (2 ^ k * b) ||| lN a = lN (2 ^ k * b + a) := by rw [fb_orL, Nat.two_pow_add_eq_or_of_lt h]
theorem fb_lN_inj {a b : Nat} (ha : a < 2 ^ 63) (hb : b < 2 ^ 63) : lN a = lN b ↔ a = b := by
  constructor
  · intro h
    have h1 : (BitVec.ofNat 64 a).toNat = (BitVec.ofNat 64 b).toNat := congrArg (fun x : Int64 => x.toBitVec.toNat) h
    rw [BitVec.toNat_ofNat, BitVec.toNat_ofNat, Nat.mod_eq_of_lt (by omega), Nat.mod_eq_of_lt (by omega)] at h1
    exact h1
  · rintro rfl; rfl
theorem fb_bit_nat (n j : Nat) : n &&& 2 ^ j = 0 ↔ n.testBit j = false := by
  constructor
  · intro h
    have h1 : (n &&& 2 ^ j).testBit j = false := by rw [h]; simp
    rw [Nat.testBit_and] at h1
    simpa using h1
  · intro h
    apply Nat.eq_of_testBit_eq
    intro i
    rw [Nat.testBit_and]
    by_cases hi : j = i
    · subst hi; simp [h]
    · first | (simp [Nat.testBit_two_pow, hi]; done) | (simp [Nat.testBit_two_pow_of_ne hi]; done)
/-- one bit of a long -/
theorem fb_bitL {n j : Nat} (hj : j < 63) : lN n &&& lN (2 ^ j) = 0 ↔ n.testBit j = false := by
  have h2 : (2 : Nat) ^ j < 2 ^ 63 := Nat.pow_lt_pow_right (by decide) hj
  have hle : n &&& 2 ^ j ≤ 2 ^ j := Nat.and_le_right
  rw [fb_andL, ← fb_bit_nat, show (0 : Int64) = lN 0 from rfl]
  exact fb_lN_inj (by omega) (by decide)
/-- a bit set, a bit taken off -/
theorem fb_bit_set (n j i : Nat) : (n ||| 2 ^ j).testBit i = (n.testBit i || decide (i = j)) := by
  rw [Nat.testBit_or]
  by_cases h : j = i
  · subst h; simp
  · have h2 : ¬ i = j := fun e => h e.symm
    first | (simp [Nat.testBit_two_pow, h, h2]; done) | (simp [Nat.testBit_two_pow_of_ne h, h2]; done)
theorem fb_bit_flip (n j i : Nat) : (n ^^^ 2 ^ j).testBit i = (n.testBit i ^^ decide (i = j)) := by
  rw [Nat.testBit_xor]
  by_cases h : j = i
  · subst h; simp
  · have h2 : ¬ i = j := fun e => h e.symm
    first | (simp [Nat.testBit_two_pow, h, h2]; done) | (simp [Nat.testBit_two_pow_of_ne h, h2]; done)
/-! ===== a stretch of an array written over by a function ===== -/
def fb_put {α : Type} (f g : Nat → α) (a n : Nat) : Nat → α := fun k => if a ≤ k ∧ k < a + n then g (k - a) else f k
theorem fb_put_0 {α : Type} (f g : Nat → α) (a : Nat) : fb_put f g a 0 = f := funext fun k => if_neg (by omega)
theorem fb_put_in {α : Type} {f g : Nat → α} {a n k : Nat} (h1 : a ≤ k) (h2 : k < a + n) : fb_put f g a n k = g (k - a) := if_pos ⟨h1, h2⟩
theorem fb_put_out {α : Type} {f g : Nat → α} {a n k : Nat} (h : k < a ∨ a + n ≤ k) : fb_put f g a n k = f k := if_neg (by omega)
theorem fb_put_succ (f g : Nat → Int32) (a n : Nat) : upd (fb_put f g a n) (a + n) (g n) = fb_put f g a (n + 1) := by
  funext k
  by_cases h : k = a + n
  · subst h
    simp [upd, fb_put]
  · by_cases h1 : a ≤ k ∧ k < a + n
    · have h2 : a ≤ k ∧ k < a + (n + 1) := by omega
      simp only [upd, fb_put, if_neg h, if_pos h1, if_pos h2]
    · have h2 : ¬ (a ≤ k ∧ k < a + (n + 1)) := by omega
      simp only [upd, fb_put, if_neg h, if_neg h1, if_neg h2]
/-- .. from the far end down -/
theorem fb_put_down (f g : Nat → Int32) {a n m : Nat} (h : m < n) : upd (fb_put f (fun k => g (k + (m + 1))) (a + (m + 1)) (n - (m + 1))) (a + m) (g m) = fb_put f (fun k => g (k + m)) (a + m) (n - m) := by
  funext k
  by_cases h0 : k = a + m
  · subst h0
    simp only [upd, if_true]
    rw [fb_put_in (by omega) (by omega)]
    exact congrArg g (by omega)
  · simp only [upd, if_neg h0]
    by_cases h1 : a + (m + 1) ≤ k ∧ k < a + (m + 1) + (n - (m + 1))
    · rw [fb_put_in h1.1 h1.2, fb_put_in (by omega) (by omega)]
      exact congrArg g (by omega)
    · rw [fb_put_out (by omega), fb_put_out (by omega)]
theorem fb_put_cong {α : Type} {f f2 g g2 : Nat → α} {a n : Nat} (hf : ∀ k, (k < a ∨ a + n ≤ k) → f k = f2 k) (hg : ∀ k, k < n → g k = g2 k) : fb_put f g a n = fb_put f2 g2 a n := by
  funext k
  by_cases h : a ≤ k ∧ k < a + n
  · rw [fb_put_in h.1 h.2, fb_put_in h.1 h.2, hg _ (by omega)]
  · rw [fb_put_out (by omega), fb_put_out (by omega), hf _ (by omega)]
/-! ===== the least, the first, the best so far; that there is one alone ===== -/
theorem fb_first {p : Nat → Prop} [DecidablePred p] : ∀ {n : Nat}, (∃ i, i < n ∧ p i) → ∃ i, i < n ∧ p i ∧ ∀ j, j < i → ¬ p j
  | 0, h => by obtain ⟨i, hi, -⟩ := h; exact absurd hi (Nat.not_lt_zero i)
  | n + 1, h => by
    by_cases q : ∃ i, i < n ∧ p i
    · obtain ⟨i, h1, h2⟩ := fb_first q
      exact ⟨i, by omega, h2⟩
    · obtain ⟨i, h1, h2⟩ := h
      have e : i = n := by
        rcases Nat.lt_or_ge i n with r | r
        · exact absurd ⟨i, r, h2⟩ q
        · omega
      subst e
      exact ⟨i, by omega, h2, fun j hj hp => q ⟨j, hj, hp⟩⟩
theorem fb_first_one {p : Nat → Prop} {i j : Nat} (hi : p i) (hi2 : ∀ k, k < i → ¬ p k) (hj : p j) (hj2 : ∀ k, k < j → ¬ p k) : i = j := by
  rcases Nat.lt_trichotomy i j with q | q | q
  · exact absurd hi (hj2 i q)
  · exact q
  · exact absurd hj (hi2 j q)
theorem fb_last {p : Nat → Prop} [DecidablePred p] : ∀ {n : Nat}, (∃ i, i < n ∧ p i) → ∃ i, i < n ∧ p i ∧ ∀ j, i < j → j < n → ¬ p j
  | 0, h => by obtain ⟨i, hi, -⟩ := h; exact absurd hi (Nat.not_lt_zero i)
  | n + 1, h => by
    by_cases q : p n
    · exact ⟨n, by omega, q, fun j h1 h2 => by omega⟩
    · obtain ⟨i, h1, h2⟩ := h
      have hi : i < n := by
        rcases Nat.lt_or_ge i n with r | r
        · exact r
        · have e : i = n := by omega
          subst e
          exact absurd h2 q
      obtain ⟨i2, a1, a2, a3⟩ := fb_last (n := n) ⟨i, hi, h2⟩
      refine ⟨i2, by omega, a2, fun j b1 b2 => ?_⟩
      rcases Nat.lt_or_ge j n with r | r
      · exact a3 j b1 r
      · have e : j = n := by omega
        subst e
        exact q
/-- the first greatest -/
theorem fb_best (f : Nat → Int) : ∀ {n : Nat}, 0 < n → ∃ i, i < n ∧ (∀ j, j < n → f j ≤ f i) ∧ ∀ j, j < i → f j < f i
  | 0, h => absurd h (Nat.lt_irrefl 0)
  | 1, _ => ⟨0, by omega, fun j hj => by have e : j = 0 := by omega
                                         subst e; exact Int.le_refl _, fun j hj => absurd hj (Nat.not_lt_zero j)⟩
  | n + 2, _ => by
    obtain ⟨i, h1, h2, h3⟩ := fb_best f (n := n + 1) (by omega)
    by_cases q : f i < f (n + 1)
    · refine ⟨n + 1, by omega, fun j hj => ?_, fun j hj => ?_⟩
      · rcases Nat.lt_or_ge j (n + 1) with r | r
        · have := h2 j r; omega
        · have e : j = n + 1 := by omega
          subst e; exact Int.le_refl _
      · have := h2 j hj; omega
    · refine ⟨i, by omega, fun j hj => ?_, h3⟩
      rcases Nat.lt_or_ge j (n + 1) with r | r
      · exact h2 j r
      · have e : j = n + 1 := by omega
        subst e; omega
theorem fb_best_one {f : Nat → Int} {n i j : Nat} (hi : i < n) (hi2 : ∀ k, k < n → f k ≤ f i) (hi3 : ∀ k, k < i → f k < f i) (hj : j < n) (hj2 : ∀ k, k < n → f k ≤ f j) (hj3 : ∀ k, k < j → f k < f j) : i = j := by
  rcases Nat.lt_trichotomy i j with q | q | q
  · have a := hj3 i q
    have b := hi2 j hj
    omega
  · exact q
  · have a := hi3 j q
    have b := hj2 i hi
    omega
/-- the first least -/
theorem fb_low (f : Nat → Int) {n : Nat} (h : 0 < n) : ∃ i, i < n ∧ (∀ j, j < n → f i ≤ f j) ∧ ∀ j, j < i → f i < f j := by
  obtain ⟨i, h1, h2, h3⟩ := fb_best (fun k => -f k) h
  exact ⟨i, h1, fun j hj => by have := h2 j hj; omega, fun j hj => by have := h3 j hj; omega⟩
/-! ===== signed ints as whole numbers, within bounds ===== -/
theorem fb_rng (x : Int32) : -2147483648 ≤ x.toInt ∧ x.toInt < 2147483648 := by
  have h1 := Int32.le_toInt x
  have h2 := Int32.toInt_lt x
  omega
theorem fb_bmod {z : Int} (h1 : -2147483648 ≤ z) (h2 : z < 2147483648) : z.bmod (2 ^ 32) = z := by
  rw [Int.bmod_eq_of_le (by omega) (by omega)]
theorem fb_addI {x y : Int32} (h1 : -2147483648 ≤ x.toInt + y.toInt) (h2 : x.toInt + y.toInt < 2147483648) : (x + y).toInt = x.toInt + y.toInt := by
  rw [Int32.toInt_add, fb_bmod h1 h2]
theorem fb_subI {x y : Int32} (h1 : -2147483648 ≤ x.toInt - y.toInt) (h2 : x.toInt - y.toInt < 2147483648) : (x - y).toInt = x.toInt - y.toInt := by
  rw [Int32.toInt_sub, fb_bmod h1 h2]
theorem fb_mulI {x y : Int32} (h1 : -2147483648 ≤ x.toInt * y.toInt) (h2 : x.toInt * y.toInt < 2147483648) : (x * y).toInt = x.toInt * y.toInt := by
  rw [Int32.toInt_mul, fb_bmod h1 h2]
theorem fb_negI {x : Int32} (h : x.toInt ≠ -2147483648) : (-x).toInt = -x.toInt := by
  have := fb_rng x
  rw [Int32.toInt_neg, fb_bmod (by omega) (by omega)]
theorem fb_ofI {z : Int} (h1 : -2147483648 ≤ z) (h2 : z < 2147483648) : (Int32.ofInt z).toInt = z := by
  rw [Int32.toInt_ofInt, fb_bmod h1 h2]
theorem fb_asI (x : Int32) : Int32.ofInt x.toInt = x := Int32.ofInt_toInt x
theorem fb_rngL (x : Int64) : -9223372036854775808 ≤ x.toInt ∧ x.toInt < 9223372036854775808 := by
  have h1 := Int64.le_toInt x
  have h2 := Int64.toInt_lt x
  omega
theorem fb_bmodL {z : Int} (h1 : -9223372036854775808 ≤ z) (h2 : z < 9223372036854775808) : z.bmod (2 ^ 64) = z := by
  rw [Int.bmod_eq_of_le (by omega) (by omega)]
theorem fb_addL {x y : Int64} (h1 : -9223372036854775808 ≤ x.toInt + y.toInt) (h2 : x.toInt + y.toInt < 9223372036854775808) : (x + y).toInt = x.toInt + y.toInt := by
  rw [Int64.toInt_add, fb_bmodL h1 h2]
theorem fb_subL {x y : Int64} (h1 : -9223372036854775808 ≤ x.toInt - y.toInt) (h2 : x.toInt - y.toInt < 9223372036854775808) : (x - y).toInt = x.toInt - y.toInt := by
  rw [Int64.toInt_sub, fb_bmodL h1 h2]
theorem fb_mulL {x y : Int64} (h1 : -9223372036854775808 ≤ x.toInt * y.toInt) (h2 : x.toInt * y.toInt < 9223372036854775808) : (x * y).toInt = x.toInt * y.toInt := by
  rw [Int64.toInt_mul, fb_bmodL h1 h2]
/-! ===== cuts of what is narrow already ===== -/
theorem fb_byte {x : Int32} (h1 : -128 ≤ x.toInt) (h2 : x.toInt < 128) : x.toInt8.toInt32 = x := by
  apply Int32.toInt_inj.1
  rw [Int8.toInt_toInt32, Int32.toInt_toInt8, Int.bmod_eq_of_le (by omega) (by omega)]
theorem fb_short {x : Int32} (h1 : -32768 ≤ x.toInt) (h2 : x.toInt < 32768) : x.toInt16.toInt32 = x := by
  apply Int32.toInt_inj.1
  rw [Int16.toInt_toInt32, Int32.toInt_toInt16, Int.bmod_eq_of_le (by omega) (by omega)]
theorem fb_byte_rng (x : Int32) : -128 ≤ x.toInt8.toInt32.toInt ∧ x.toInt8.toInt32.toInt < 128 := by
  rw [Int8.toInt_toInt32]
  have h1 := Int8.le_toInt x.toInt8
  have h2 := Int8.toInt_lt x.toInt8
  omega
theorem fb_short_rng (x : Int32) : -32768 ≤ x.toInt16.toInt32.toInt ∧ x.toInt16.toInt32.toInt < 32768 := by
  rw [Int16.toInt_toInt32]
  have h1 := Int16.le_toInt x.toInt16
  have h2 := Int16.toInt_lt x.toInt16
  omega
theorem fb_byte_twice (x : Int32) : x.toInt8.toInt32.toInt8.toInt32 = x.toInt8.toInt32 := fb_byte (fb_byte_rng x).1 (fb_byte_rng x).2
theorem fb_short_twice (x : Int32) : x.toInt16.toInt32.toInt16.toInt32 = x.toInt16.toInt32 := fb_short (fb_short_rng x).1 (fb_short_rng x).2
theorem fb_char {n : Nat} (h : n < 65536) : (nI n).toUInt32.toUInt16.toUInt32.toInt32 = nI n := by
  apply Int32.toBitVec_inj.1
  apply BitVec.eq_of_toNat_eq
  have e1 : (nI n).toBitVec.toNat = n := by
    show (BitVec.ofNat 32 n).toNat = n
    rw [BitVec.toNat_ofNat, Nat.mod_eq_of_lt (by omega)]
  have e2 : ((nI n).toUInt32.toUInt16.toUInt32).toNat = n := by
    rw [UInt16.toNat_toUInt32, UInt32.toNat_toUInt16]
    show (nI n).toBitVec.toNat % 2 ^ 16 = n
    rw [e1, Nat.mod_eq_of_lt (by omega)]
  rw [e1]
  exact e2
end
section
/-! plain facts on numbers and arrays, to paste: each family by itself; over the kit's rows on nI and upd -/
/-! ===== order of ints, in all its forms, and through longs ===== -/
theorem fa_lt (a b : Int32) : a < b ↔ a.toInt < b.toInt := Int32.lt_iff_toInt_lt
theorem fa_le (a b : Int32) : a ≤ b ↔ a.toInt ≤ b.toInt := Int32.le_iff_toInt_le
theorem fa_eq (a b : Int32) : a = b ↔ a.toInt = b.toInt := Int32.toInt_inj.symm
theorem fa_lt64 (a b : Int64) : a < b ↔ a.toInt < b.toInt := Int64.lt_iff_toInt_lt
theorem fa_le64 (a b : Int64) : a ≤ b ↔ a.toInt ≤ b.toInt := Int64.le_iff_toInt_le
theorem fa_eq64 (a b : Int64) : a = b ↔ a.toInt = b.toInt := Int64.toInt_inj.symm
/-- a comparison of two ints taken as longs -/
theorem fa_wide_lt (a b : Int32) : a.toInt64 < b.toInt64 ↔ a < b := by rw [fa_lt64, fa_lt, Int32.toInt_toInt64, Int32.toInt_toInt64]
theorem fa_wide_le (a b : Int32) : a.toInt64 ≤ b.toInt64 ↔ a ≤ b := by rw [fa_le64, fa_le, Int32.toInt_toInt64, Int32.toInt_toInt64]
theorem fa_wide_eq (a b : Int32) : a.toInt64 = b.toInt64 ↔ a = b := by rw [fa_eq64, fa_eq, Int32.toInt_toInt64, Int32.toInt_toInt64]
/-- one strict comparison gives all the others -/
theorem fa_of_lt {a b : Int32} (h : a < b) : a ≤ b ∧ ¬ b ≤ a ∧ ¬ b < a ∧ a ≠ b ∧ b ≠ a := by
  rw [fa_lt] at h
  refine ⟨?_, ?_, ?_, ?_, ?_⟩
  · rw [fa_le]; omega
  · rw [fa_le]; omega
  · rw [fa_lt]; omega
  · intro e; rw [fa_eq] at e; omega
  · intro e; rw [fa_eq] at e; omega
theorem fa_of_nlt {a b : Int32} (h : ¬ a < b) : b ≤ a := by
  rw [fa_lt] at h
  rw [fa_le]
  omega
theorem fa_of_nle {a b : Int32} (h : ¬ a ≤ b) : b < a := by
  rw [fa_le] at h
  rw [fa_lt]
  omega
theorem fa_le_ne {a b : Int32} (h : a ≤ b) (h2 : a ≠ b) : a < b := by
  rw [fa_le] at h
  rw [fa_lt]
  have h3 : a.toInt ≠ b.toInt := fun e => h2 ((fa_eq a b).mpr e)
  omega
theorem fa_three (a b : Int32) : a < b ∨ a = b ∨ b < a := by
  rw [fa_lt, fa_lt, fa_eq]
  omega
theorem fa_trans {a b c : Int32} (h : a < b) (h2 : b ≤ c) : a < c := by
  rw [fa_lt] at *
  rw [fa_le] at h2
  omega
/-! ===== small literals as numbers ===== -/
theorem fa_lit (n : Nat) : (OfNat.ofNat n : Int32) = nI n := rfl
theorem fa_litL (n : Nat) : (OfNat.ofNat n : Int64) = lN n := rfl
/-! ===== bits of a number: 'or', masks, one bit ===== -/
theorem fa_and (a b : Nat) : nI a &&& nI b = nI (a &&& b) := by
  apply Int32.toBitVec_inj.1
  show BitVec.ofNat 32 a &&& BitVec.ofNat 32 b = BitVec.ofNat 32 (a &&& b)
  apply BitVec.eq_of_getLsbD_eq
  intro i hi
  simp [hi]
theorem fa_or (a b : Nat) : nI a ||| nI b = nI (a ||| b) := by
  apply Int32.toBitVec_inj.1
  show BitVec.ofNat 32 a ||| BitVec.ofNat 32 b = BitVec.ofNat 32 (a ||| b)
  apply BitVec.eq_of_getLsbD_eq
  intro i hi
  simp [hi]
/-- a remainder by a power of two, as a mask -/
theorem fa_mask (n k : Nat) : nI n &&& nI (2 ^ k - 1) = nI (n % 2 ^ k) := by rw [fa_and, Nat.and_two_pow_sub_one_eq_mod]
/-- 'or' of a high part and a low one that don't meet is their sum -/
theorem fa_or_sum {a k : Nat} (b : Nat) (h : a < 2 ^ k) : nI (2 ^ k * b) ||| nI a = nI (2 ^ k * b + a) := by rw [fa_or, Nat.two_pow_add_eq_or_of_lt h]
/-- one bit, by 'and' with a power of two -/
theorem fa_bit {n j : Nat} (hj : j < 31) : nI n &&& nI (2 ^ j) = 0 ↔ n.testBit j = false := by
  have h2 : (2 : Nat) ^ j < 2 ^ 31 := Nat.pow_lt_pow_right (by decide) hj
  have hle : n &&& 2 ^ j ≤ 2 ^ j := Nat.and_le_right
  have e : n &&& 2 ^ j = 0 ↔ n.testBit j = false := by
    constructor
    · intro h
      have h1 : (n &&& 2 ^ j).testBit j = false := by rw [h]; simp
      rw [Nat.testBit_and] at h1
      first | simpa using h1 | simpa [Nat.testBit_two_pow_self] using h1 | simpa [Nat.testBit_two_pow] using h1
    · intro h
      apply Nat.eq_of_testBit_eq
      intro i
      rw [Nat.testBit_and]
      by_cases hi : j = i
      · subst hi; simp [h]
      · first | (simp [Nat.testBit_two_pow, hi]; done) | (simp [Nat.testBit_two_pow_of_ne hi]; done)
  rw [fa_and]
  constructor
  · intro h
    apply e.mp
    rcases Nat.eq_zero_or_pos (n &&& 2 ^ j) with z | z
    · exact z
    · exact absurd h (nI_ne0 z (Nat.lt_of_le_of_lt hle h2))
  · intro h
    rw [e.mpr h]; exact nI_0
/-- a remainder by a power of two of a number that isn't negative, as Java divides -/
theorem fa_rem {a k : Nat} (ha : a < 2 ^ 31) (hk : k < 31) : nI a - nI a / nI (2 ^ k) * nI (2 ^ k) = nI (a % 2 ^ k) := pk_rem ha (Nat.two_pow_pos k) (Nat.pow_lt_pow_right (by decide) hk)
/-! ===== cuts to a byte, a short ===== -/
theorem fa_byte_xor (x y : Int32) : (x ^^^ y).toInt8 = x.toInt8 ^^^ y.toInt8 := by
  apply Int8.toBitVec_inj.1
  apply BitVec.eq_of_getLsbD_eq
  intro i hi
  first | (simp [hi]; done) | (simp [hi, BitVec.getLsbD_setWidth, BitVec.getLsbD_signExtend]; done)
theorem fa_short_xor (x y : Int32) : (x ^^^ y).toInt16 = x.toInt16 ^^^ y.toInt16 := by
  apply Int16.toBitVec_inj.1
  apply BitVec.eq_of_getLsbD_eq
  intro i hi
  first | (simp [hi]; done) | (simp [hi, BitVec.getLsbD_setWidth, BitVec.getLsbD_signExtend]; done)
/-- the cut to a byte sees the low byte alone -/
theorem fa_byte_low (x : Int32) : (x &&& 255).toInt8 = x.toInt8 := by
  apply Int8.toBitVec_inj.1
  apply BitVec.eq_of_getLsbD_eq
  intro i hi
  have h2 : (255 : Int32).toBitVec.getLsbD i = true := by
    have : ∀ j : Fin 8, (255 : Int32).toBitVec.getLsbD j.val = true := by decide +kernel
    exact this ⟨i, hi⟩
  have h4 : (x &&& 255).toBitVec.getLsbD i = x.toBitVec.getLsbD i := by
    show (x.toBitVec &&& (255 : Int32).toBitVec).getLsbD i = _
    rw [BitVec.getLsbD_and, h2, Bool.and_true]
  have h3 : i < 32 := by omega
  first
    | (show (((x &&& 255).toBitVec).signExtend 8).getLsbD i = (x.toBitVec.signExtend 8).getLsbD i; rw [BitVec.getLsbD_signExtend, BitVec.getLsbD_signExtend, if_pos h3, if_pos h3, h4])
    | (show (((x &&& 255).toBitVec).setWidth 8).getLsbD i = (x.toBitVec.setWidth 8).getLsbD i; rw [BitVec.getLsbD_setWidth, BitVec.getLsbD_setWidth, h4])
    | (simp [hi, h3, h4]; done)
theorem fa_short_low (x : Int32) : (x &&& 65535).toInt16 = x.toInt16 := by
  apply Int16.toBitVec_inj.1
  apply BitVec.eq_of_getLsbD_eq
  intro i hi
  have h2 : (65535 : Int32).toBitVec.getLsbD i = true := by
    have : ∀ j : Fin 16, (65535 : Int32).toBitVec.getLsbD j.val = true := by decide +kernel
    exact this ⟨i, hi⟩
  have h4 : (x &&& 65535).toBitVec.getLsbD i = x.toBitVec.getLsbD i := by
    show (x.toBitVec &&& (65535 : Int32).toBitVec).getLsbD i = _
    rw [BitVec.getLsbD_and, h2, Bool.and_true]
  have h3 : i < 32 := by omega
  first
    | (show (((x &&& 65535).toBitVec).signExtend 16).getLsbD i = (x.toBitVec.signExtend 16).getLsbD i; rw [BitVec.getLsbD_signExtend, BitVec.getLsbD_signExtend, if_pos h3, if_pos h3, h4])
    | (show (((x &&& 65535).toBitVec).setWidth 16).getLsbD i = (x.toBitVec.setWidth 16).getLsbD i; rw [BitVec.getLsbD_setWidth, BitVec.getLsbD_setWidth, h4])
    | (simp [hi, h3, h4]; done)
/-- a small number is its own byte, its own short -/
theorem fa_byte_small {n : Nat} (h : n < 128) : (nI n).toInt8.toInt32 = nI n := by
  have : ∀ j : Fin 128, (nI j.val).toInt8.toInt32 = nI j.val := by decide +kernel
  exact this ⟨n, h⟩
/-! ===== absolute difference ===== -/
theorem fa_absdiff {a b : Nat} (ha : a < 2 ^ 31) (hb : b < 2 ^ 31) : (if nI a < nI b then nI b - nI a else nI a - nI b) = nI (if a < b then b - a else a - b) := by
  by_cases h : a < b
  · rw [if_pos (nI_lt h hb), if_pos h]
    exact pk_sub (Nat.le_of_lt h)
  · rw [if_neg (nI_nlt (Nat.le_of_not_lt h) ha), if_neg h]
    exact pk_sub (Nat.le_of_not_lt h)
/-! ===== an array behind i stores, a conditional store, a row copied ===== -/
/-- f where k < i, what stood there else -/
def fa_fill {α : Type} (f g : Nat → α) (i : Nat) : Nat → α := fun k => if k < i then f k else g k
theorem fa_fill_0 {α : Type} (f g : Nat → α) : fa_fill f g 0 = g := funext fun k => if_neg (Nat.not_lt_zero k)
theorem fa_fill_in {α : Type} {f g : Nat → α} {i k : Nat} (h : k < i) : fa_fill f g i k = f k := if_pos h
theorem fa_fill_out {α : Type} {f g : Nat → α} {i k : Nat} (h : i ≤ k) : fa_fill f g i k = g k := if_neg (Nat.not_lt.mpr h)
theorem fa_fill_succ (f g : Nat → Int32) (i : Nat) : upd (fa_fill f g i) i (f i) = fa_fill f g (i + 1) := by
  funext k
  by_cases e : k = i
  · subst e
    rw [pk_us]
    exact (if_pos (Nat.lt_succ_self k)).symm
  · rw [pk_un e]
    by_cases h : k < i
    · rw [fa_fill_in h, fa_fill_in (Nat.lt_succ_of_lt h)]
    · rw [fa_fill_out (Nat.le_of_not_lt h), fa_fill_out (by omega)]
/-- a store that changes nothing -/
theorem fa_upd_same {f : Nat → Int32} {i : Nat} {x : Int32} (h : f i = x) : upd f i x = f := by
  funext k
  by_cases e : k = i
  · subst e
    rw [pk_us, h]
  · rw [pk_un e]
/-- a store under a condition, told as one -/
theorem fa_upd_if (c : Prop) [Decidable c] (f : Nat → Int32) (i : Nat) (x : Int32) : (if c then upd f i x else f) = upd f i (if c then x else f i) := by
  by_cases h : c
  · rw [if_pos h, if_pos h]
  · rw [if_neg h, if_neg h, fa_upd_same rfl]
/-- two stores at one place, at two -/
theorem fa_upd_twice (f : Nat → Int32) (i : Nat) (x y : Int32) : upd (upd f i x) i y = upd f i y := by
  funext k
  by_cases e : k = i
  · subst e
    rw [pk_us, pk_us]
  · rw [pk_un e, pk_un e, pk_un e]
theorem fa_upd_swap (f : Nat → Int32) {i j : Nat} (h : i ≠ j) (x y : Int32) : upd (upd f i x) j y = upd (upd f j y) i x := by
  funext k
  by_cases e : k = i
  · subst e
    rw [pk_un h, pk_us, pk_us]
  · by_cases e2 : k = j
    · subst e2
      rw [pk_us, pk_un e, pk_us]
    · rw [pk_un e2, pk_un e, pk_un e, pk_un e2]
/-! ===== the first index with a property; a count ===== -/
/-- the first k < n with p k, n if there is none -/
def fa_first (p : Nat → Bool) : Nat → Nat
  | 0 => 0
  | n + 1 => if fa_first p n < n then fa_first p n else if p n then n else n + 1
theorem fa_first_le (p : Nat → Bool) : ∀ n, fa_first p n ≤ n
  | 0 => Nat.le_refl 0
  | n + 1 => by
    have ih := fa_first_le p n
    unfold fa_first
    split
    · omega
    · split
      · omega
      · omega
theorem fa_first_no (p : Nat → Bool) : ∀ n k, k < fa_first p n → p k = false
  | 0, k, h => absurd h (Nat.not_lt_zero k)
  | n + 1, k, h => by
    have ih := fa_first_no p n
    have hl := fa_first_le p n
    unfold fa_first at h
    split at h
    · exact ih k h
    · rename_i h1
      split at h
      · exact ih k (by omega)
      · rename_i h2
        by_cases e : k = n
        · subst e
          exact Bool.eq_false_iff.mpr h2
        · exact ih k (by omega)
theorem fa_first_yes (p : Nat → Bool) : ∀ n, fa_first p n < n → p (fa_first p n) = true
  | 0, h => absurd h (Nat.not_lt_zero _)
  | n + 1, h => by
    have ih := fa_first_yes p n
    have hl := fa_first_le p n
    unfold fa_first at h ⊢
    split at h
    · rename_i h1
      rw [if_pos h1]
      exact ih h1
    · rename_i h1
      rw [if_neg h1]
      split at h
      · rename_i h2
        rw [if_pos h2]
        exact h2
      · omega
/-- how many k < n have p k -/
def fa_cnt (p : Nat → Bool) : Nat → Nat
  | 0 => 0
  | n + 1 => fa_cnt p n + if p n then 1 else 0
theorem fa_cnt_le (p : Nat → Bool) : ∀ n, fa_cnt p n ≤ n
  | 0 => Nat.le_refl 0
  | n + 1 => by
    have ih := fa_cnt_le p n
    unfold fa_cnt
    split
    · omega
    · omega
theorem fa_cnt_yes {p : Nat → Bool} {n : Nat} (h : p n = true) : fa_cnt p (n + 1) = fa_cnt p n + 1 := by rw [fa_cnt, if_pos h]
theorem fa_cnt_no {p : Nat → Bool} {n : Nat} (h : p n = false) : fa_cnt p (n + 1) = fa_cnt p n := by rw [fa_cnt, if_neg (by rw [h]; decide)]; rfl
theorem fa_cnt_cong {p q : Nat → Bool} : ∀ {n : Nat}, (∀ k, k < n → p k = q k) → fa_cnt p n = fa_cnt q n
  | 0, _ => rfl
  | n + 1, h => by rw [fa_cnt, fa_cnt, fa_cnt_cong (fun k hk => h k (Nat.lt_succ_of_lt hk)), h n (Nat.lt_succ_self n)]
/-! ===== an answer carried into a post; a branch on a boolean answer ===== -/
theorem fa_post {α : Type} {P : α → Prop} {x y : α} (h : x = y) (hp : P y) : P x := h ▸ hp
theorem fa_post2 {α β : Type} {P : α → β → Prop} {x y : α} {u v : β} (h : x = y) (h2 : u = v) (hp : P y v) : P x u := h ▸ h2 ▸ hp
theorem fa_bool {r : Int32} {b : Bool} (h : r = if b then 1 else 0) : (r = 0 ↔ b = false) ∧ (¬ r = 0 ↔ b = true) := by
  subst h
  cases b
  · exact ⟨⟨fun _ => rfl, fun _ => rfl⟩, ⟨fun h => absurd rfl h, fun h => absurd h (by decide)⟩⟩
  · exact ⟨⟨fun h => absurd h (by decide), fun h => absurd h (by decide)⟩, ⟨fun _ => rfl, fun _ => by decide⟩⟩
/-- a boolean's narrowing changes nothing -/
theorem fa_bool_and {r : Int32} (h : r = 0 ∨ r = 1) : r &&& 1 = r := by
  rcases h with rfl | rfl
  · decide
  · decide
theorem fa_bool_prop {c : Prop} [Decidable c] {r : Int32} (h : r = if c then 1 else 0) : (r = 0 ↔ ¬ c) ∧ (¬ r = 0 ↔ c) := by
  subst h
  by_cases hc : c
  · rw [if_pos hc]
    exact ⟨⟨fun h => absurd h (by decide), fun h => absurd hc h⟩, ⟨fun _ => hc, fun _ => by decide⟩⟩
  · rw [if_neg hc]
    exact ⟨⟨fun _ => hc, fun _ => rfl⟩, ⟨fun h => absurd rfl h, fun h => absurd h hc⟩⟩
end
section
/-! ===== numbers: J z is the int of the whole number z ===== -/
def J (z : Int) : Int32 := Int32.ofInt z
abbrev InR (z : Int) : Prop := -2147483648 ≤ z ∧ z < 2147483648
theorem J_toInt {z : Int} (h : InR z) : (J z).toInt = z := Int32.toInt_ofInt_of_le (by have := h.1; omega) (by have := h.2; omega)
theorem J_of (x : Int32) : J x.toInt = x := Int32.ofInt_toInt x
theorem J_rng (x : Int32) : InR x.toInt := ⟨by have := x.le_toInt; omega, by have := x.toInt_lt; omega⟩
theorem J_ex (x : Int32) : ∃ z : Int, InR z ∧ x = J z := ⟨x.toInt, J_rng x, (J_of x).symm⟩
theorem J_add (a b : Int) : J a + J b = J (a + b) := (Int32.ofInt_add a b).symm
theorem J_sub (a b : Int) : J a - J b = J (a - b) := (Int32.ofInt_sub a b).symm
theorem J_mul (a b : Int) : J a * J b = J (a * b) := (Int32.ofInt_mul a b).symm
theorem J_neg (a : Int) : -J a = J (-a) := (Int32.ofInt_neg a).symm
theorem J_inj {a b : Int} (ha : InR a) (hb : InR b) : J a = J b ↔ a = b := ⟨fun h => by rw [← J_toInt ha, ← J_toInt hb, h], fun h => by rw [h]⟩
theorem J_le {a b : Int} (ha : InR a) (hb : InR b) : J a ≤ J b ↔ a ≤ b := by rw [Int32.le_iff_toInt_le, J_toInt ha, J_toInt hb]
theorem J_lt {a b : Int} (ha : InR a) (hb : InR b) : J a < J b ↔ a < b := by rw [Int32.lt_iff_toInt_lt, J_toInt ha, J_toInt hb]
theorem J_0 : J 0 = 0 := rfl
theorem J_eq0 {a : Int} (ha : InR a) : J a = 0 ↔ a = 0 := by rw [← J_0, J_inj ha (by constructor <;> decide)]
theorem J_lt0 {a : Int} (ha : InR a) : J a < 0 ↔ a < 0 := by rw [← J_0, J_lt ha (by constructor <;> decide)]
theorem J_le0 {a : Int} (ha : InR a) : J a ≤ 0 ↔ a ≤ 0 := by rw [← J_0, J_le ha (by constructor <;> decide)]
theorem J_0lt {a : Int} (ha : InR a) : 0 < J a ↔ 0 < a := by rw [← J_0, J_lt (by constructor <;> decide) ha]
theorem J_0le {a : Int} (ha : InR a) : 0 ≤ J a ↔ 0 ≤ a := by rw [← J_0, J_le (by constructor <;> decide) ha]
theorem J_clamp {z : Int} {i : Nat} (hz : z = (i : Int)) (hi : i < 2147483648) : (J z).toNatClampNeg = i := by
  subst hz
  show (J (i : Int)).toInt.toNat = i
  rw [J_toInt ⟨by omega, by omega⟩]
  rfl
theorem J_in {z : Int} {i n : Nat} (hz : z = (i : Int)) (hi : i < n) (hn : n < 2147483648) : vp_in (J z) n := by
  rw [vp_in_iff, J_toInt ⟨by omega, by omega⟩]
  omega
theorem J_div {a d : Int} (h0 : 0 ≤ a) (ha : a < 2147483648) (d0 : 0 < d) (hd : d < 2147483648) : J a / J d = J (a / d) := by
  refine Int32.toInt_inj.mp ?_
  have h1 : J d ≠ -1 := by
    intro h
    have : (J d).toInt = -1 := by rw [h]; rfl
    rw [J_toInt ⟨by omega, hd⟩] at this
    omega
  have h2 : 0 ≤ a / d := Int.ediv_nonneg h0 (by omega)
  have h3 : a / d ≤ a := Int.ediv_le_self d h0
  rw [Int32.toInt_div_of_ne_right _ _ h1, J_toInt ⟨by omega, ha⟩, J_toInt ⟨by omega, hd⟩, J_toInt ⟨by omega, by omega⟩, Int.tdiv_eq_ediv_of_nonneg h0]
theorem J_rem {a d : Int} (h0 : 0 ≤ a) (ha : a < 2147483648) (d0 : 0 < d) (hd : d < 2147483648) : J a - J a / J d * J d = J (a % d) := by
  rw [J_div h0 ha d0 hd, J_mul, J_sub]
  congr 1
  have := Int.emod_def a d
  rw [this, Int.mul_comm]
theorem J_ne0 {d : Int} (d0 : 0 < d) (hd : d < 2147483648) : ¬ J d = 0 := by
  rw [J_eq0 ⟨by omega, hd⟩]
  omega
theorem J_nat (n : Nat) : J (n : Int) = nI n := Int32.ofInt_eq_ofNat
/-- the whole numbers of a truth -/
def bi (b : Bool) : Int := if b then 1 else 0
theorem bi_t : bi true = 1 := rfl
theorem bi_f : bi false = 0 := rfl
theorem bi_rng (b : Bool) : 0 ≤ bi b ∧ bi b ≤ 1 := by cases b <;> decide
theorem bi_InR (b : Bool) : InR (bi b) := by cases b <;> decide
theorem bi_eq1 {b : Bool} : bi b = 1 ↔ b = true := by cases b <;> decide
theorem bi_eq0 {b : Bool} : bi b = 0 ↔ b = false := by cases b <;> decide
theorem zn_01 {z : Int} (h : z = 0 ∨ z = 1) : vp_nar .boolean (J z) = J z := by rcases h with h | h <;> subst h <;> decide
theorem zr_01 {z : Int} (h : z = 0 ∨ z = 1) : narrow .boolean (.int (J z)) = .int (J z) := by rcases h with h | h <;> subst h <;> decide
/-! ===== a row of whole numbers, with one changed ===== -/
def upi (g : Nat → Int) (i : Nat) (v : Int) : Nat → Int := fun k => if k = i then v else g k
theorem upi_s (g : Nat → Int) (i : Nat) (v : Int) : upi g i v i = v := if_pos rfl
theorem upi_n (g : Nat → Int) {i k : Nat} (v : Int) (h : k ≠ i) : upi g i v k = g k := if_neg h
theorem upi_J (g : Nat → Int) (i : Nat) (v : Int) : upd (fun k => J (g k)) i (J v) = fun k => J (upi g i v k) := by
  funext k
  show (if k = i then J v else J (g k)) = J (if k = i then v else g k)
  by_cases h : k = i
  · rw [if_pos h, if_pos h]
  · rw [if_neg h, if_neg h]
/-! ===== the state: σ 0 pitch, σ 1 tea, σ 2 crack, σ 3 cosy (0, 1), σ 4 part; σ 5: 0 beat, 1 cadences, 2 clash ahead (0, 1), 3 pots ===== -/
abbrev Sg : Type := Nat → Nat → Int
def up (σ : Sg) (f i : Nat) (v : Int) : Sg := fun g => if g = f then upi (σ f) i v else σ g
theorem up_s (σ : Sg) (f i : Nat) (v : Int) : up σ f i v f = upi (σ f) i v := if_pos rfl
theorem up_n (σ : Sg) {f g : Nat} (i : Nat) (v : Int) (h : g ≠ f) : up σ f i v g = σ g := if_neg h
/-- the tables of a run: the classes, the class of int[], of boolean[], of long[] -/
abbrev Kp : Type := va_G × ClassId × ClassId × ClassId
abbrev kD (κ : Kp) : va_G := κ.1
abbrev kI (κ : Kp) : ClassId := κ.2.1
abbrev kZ (κ : Kp) : ClassId := κ.2.2.1
abbrev kL (κ : Kp) : ClassId := κ.2.2.2
abbrev kT (κ : Kp) : List (ClassId × FieldType) := [(kI κ, .int), (kZ κ, .boolean), (kL κ, .long)]
def St (κ : Kp) (A : Nat → Prop) (H0 H : Heap) (locs : List Loc) (ws : va_W) : Prop := va_P (kD κ) vwCl ws H ∧ va_D A ws ∧ va_S A H0 H locs
/-- a Choir: its object and its six rows, at the addresses a 0 .. a 6 -/
abbrev WC (κ : Kp) (a : Nat → Nat) (σ : Sg) (br : Nat → Int) : va_W := [(a 0, .inr (0, [.ref (a 1), .ref (a 2), .ref (a 3), .ref (a 4), .ref (a 5), .ref (a 6), .int (J (σ 5 3)), .int (J (σ 5 0)), .int (J (σ 5 1)), .int (J (σ 5 2))])),
  (a 1, .inl (kI κ, 10, .inl fun k => J (σ 4 k))), (a 2, .inl (kI κ, 10, .inl fun k => J (σ 0 k))), (a 3, .inl (kI κ, 10, .inl fun k => J (σ 1 k))), (a 4, .inl (kI κ, 10, .inl fun k => J (σ 2 k))), (a 5, .inl (kZ κ, 10, .inl fun k => J (σ 3 k))), (a 6, .inl (kI κ, 10, .inl fun k => J (br k)))]
end
section
/-! ===== contracts over a world, in one form ===== -/
def Kx (κ : Kp) (U : State) : Prop := va_K (kD κ) vwCl (kT κ) U ∧ va_Nw (.methodLinkNest RX0 79 yX1_isAccord RX1) U
theorem Kx.warm {κ : Kp} {s U : State} (hW : s.WarmedH U.vm) (h : Kx κ s) : Kx κ U := ⟨va_K.moved hW.alike h.1, va_Nw.warmM hW h.2⟩
theorem Kx.calling {κ : Kp} {U : State} {g : JFrame} {mk : MethodId} {a : Array Value} (h : Kx κ U) : Kx κ (U.calling g mk a) := ⟨va_K.moved (u := U) (U := U.calling g mk a) (Vm.Alike.refl U.vm) h.1, va_Nw.same (u := U) (U := U.calling g mk a) rfl rfl h.2⟩
def PreC (κ : Kp) (as : List Value) (W0 : va_W) (sz : Nat) : Array Value → State → Prop := va_Pc as (fun U => U.heap.size = sz ∧ va_P (kD κ) vwCl W0 U.heap ∧ Kx κ U ∧ va_D (fun _ => True) W0)
def PW (κ : Kp) (W1 : va_W) (A : Nat → Prop) (t : State) : Prop := va_P (kD κ) vwCl W1 t.heap ∧ va_D A W1
def CGi {S : Type} (l : Launch) (y : MethodName) (wl : List Cond) (rm : Room) (κ : Kp) (as : List Value) (W0 : va_W) (post : Int32 → S → Prop) (W1 : S → va_W) : Prop :=
  ∀ sz, Met l y wl rm (PreC κ as W0 sz) (va_Qi post (fun u => PW κ (W1 u) (va_A W0 sz)) (va_A W0 sz)) rm.cells rm.slots (va_A W0 sz)
def CGv {S : Type} (l : Launch) (y : MethodName) (wl : List Cond) (rm : Room) (κ : Kp) (as : List Value) (W0 : va_W) (post : S → Prop) (W1 : S → va_W) : Prop :=
  ∀ sz, Met l y wl rm (PreC κ as W0 sz) (va_Qv post (fun u => PW κ (W1 u) (va_A W0 sz)) (va_A W0 sz)) rm.cells rm.slots (va_A W0 sz)
def CGl {S : Type} (l : Launch) (y : MethodName) (wl : List Cond) (rm : Room) (κ : Kp) (as : List Value) (W0 : va_W) (post : Int64 → S → Prop) (W1 : S → va_W) : Prop :=
  ∀ sz, Met l y wl rm (PreC κ as W0 sz) (va_Ql post (fun u => PW κ (W1 u) (va_A W0 sz)) (va_A W0 sz)) rm.cells rm.slots (va_A W0 sz)
def CGd {S : Type} (l : Launch) (y : MethodName) (wl : List Cond) (rm : Room) (κ : Kp) (as : List Value) (W0 : va_W) (post : UInt64 → S → Prop) (W1 : S → va_W) : Prop :=
  ∀ sz, Met l y wl rm (PreC κ as W0 sz) (va_Qd post (fun u => PW κ (W1 u) (va_A W0 sz)) (va_A W0 sz)) rm.cells rm.slots (va_A W0 sz)
theorem PreC.blind {κ : Kp} {as : List Value} {W0 : va_W} {sz : Nat} : FrameBlind (PreC κ as W0 sz) := fun a U g mk q => ⟨q.1, q.2.1, q.2.2.1, q.2.2.2.1.calling, q.2.2.2.2⟩
section Entry
variable {l : Launch} {y : MethodName} {wl wl' : List Cond} {rm : Room} {κ : Kp} {as : List Value} {W0 : va_W} {cc : ByteArray} {maxL : Nat} {ret : Option FieldType}
/-- the walk of a body, whatever its end -/
theorem entry_of {Qc : Nat → Array Value → State → Outcome → State → Prop} (hy : plainName y.cls = true) (hw : wl = Cond.code y cc maxL ret :: wl') (hlen : (lg_sl as).length ≤ maxL)
    (body : ∀ (p : Program) (e : Env) (s : State) (m : MethodId) (below : List Frame) (meth : Method) (c : Code) (ls : Array Slot) (A : Nat → Prop), A = va_A W0 s.heap.size → CallFix p m c cc maxL s as.toArray wl y.cls → meth.sig.returnType = ret → meth.locks = false → (y.name = "<init>" → meth.name = "<init>") → Kx κ s → (∀ q, s.heap.size ≤ q → A q) → St κ A s.heap s.heap [] W0 → lv_has ls maxL (lv_args 0 as) →
      W p l e rm s m as.toArray below meth c s.heap [] 0 0 (MQ below (Qc s.heap.size) as.toArray s rm.cells rm.slots A) (F0 m 0 ls [])) : ∀ sz, Met l y wl rm (PreC κ as W0 sz) (Qc sz) rm.cells rm.slots (va_A W0 sz) := by
  intro sz
  refine Met.ofW (cc := cc) (maxL := maxL) (ret := ret) hy hw ?_
  intro p e s m args below meth c s₁ B hml hv
  obtain ⟨rfl, hsz, hP, hK, hD0⟩ := hv
  subst hsz
  have hown : s.vm.findClass y.cls = some m.cls := findClass_of_methodNamed B.named
  have hname : meth.name = y.name := (name_of_methodNamed B.named B.method).1
  have hl := lv_entry as (n := maxL) hlen
  rw [lg_entry_eq]
  exact body p e s m below meth c _ (va_A W0 s.heap.size) rfl ⟨B.exec, B.bytes, hml, hown, atoms_spec (ws := wl) B.pre⟩ B.returns B.notSynchronized (fun h => hname.trans h) hK (fun q h => Or.inr h) ⟨hP, hD0.self, va_S.rf⟩ hl
end Entry
section Ends
variable {p : Program} {l : Launch} {e : Env} {R : Room} {s : State} {m : MethodId} {args : Array Value} {below : List Frame} {meth : Method} {c : Code} {H : Heap} {locs : List Loc} {cells slots mc ms : Nat} {cc : ByteArray} {pc : Nat} {ls : Array Slot} {κ : Kp} {A : Nat → Prop}
theorem ret_i {S : Type} {post : Int32 → S → Prop} {W1 : S → va_W} {r : Int32} (u : S) (hx : p.tables.exec = Jvm.exec) (hb : c.code = cc) (hr : meth.sig.returnType = some .int) (hlk : meth.locks = false) (hW : St κ A s.heap H locs (W1 u)) (hdg : decode cc pc = .ok (.ireturn, 1)) (hc : cells ≤ mc) (hs : slots ≤ ms) (hp : post r u) :
    W p l e R s m args below meth c H locs cells slots (MQ below (va_Qi post (fun u => PW κ (W1 u) A) A) args s mc ms A) (F0 m pc ls [.int r]) :=
  W.widen hc hs (W.iret hx hb hr (fun t ht _ => ⟨⟨r, u, rfl, hp, by rw [ht]; exact hW.1, hW.2.1⟩, hW.2.2.F ht⟩) hW.2.2.2.2 hdg hlk)
theorem ret_z {S : Type} {post : Int32 → S → Prop} {W1 : S → va_W} {r : Int32} (u : S) (hx : p.tables.exec = Jvm.exec) (hb : c.code = cc) (hr : meth.sig.returnType = some .boolean) (hlk : meth.locks = false) (hW : St κ A s.heap H locs (W1 u)) (hdg : decode cc pc = .ok (.ireturn, 1)) (hc : cells ≤ mc) (hs : slots ≤ ms) (hn : narrow .boolean (.int r) = .int r) (hp : post r u) :
    W p l e R s m args below meth c H locs cells slots (MQ below (va_Qi post (fun u => PW κ (W1 u) A) A) args s mc ms A) (F0 m pc ls [.int r]) :=
  W.widen hc hs (W.zret hx hb hr hn (fun t ht _ => ⟨⟨r, u, rfl, hp, by rw [ht]; exact hW.1, hW.2.1⟩, hW.2.2.F ht⟩) hW.2.2.2.2 hdg hlk)
theorem ret_v {S : Type} {post : S → Prop} {W1 : S → va_W} (u : S) (hx : p.tables.exec = Jvm.exec) (hb : c.code = cc) (hr : meth.sig.returnType = none) (hlk : meth.locks = false) (hW : St κ A s.heap H locs (W1 u)) (hdg : decode cc pc = .ok (.return_, 1)) (hc : cells ≤ mc) (hs : slots ≤ ms) (hp : post u) :
    W p l e R s m args below meth c H locs cells slots (MQ below (va_Qv post (fun u => PW κ (W1 u) A) A) args s mc ms A) (F0 m pc ls []) :=
  W.widen hc hs (W.vret hx hb hr (fun t ht _ => ⟨⟨u, rfl, hp, by rw [ht]; exact hW.1, hW.2.1⟩, hW.2.2.F ht⟩) hW.2.2.2.2 hdg hlk)
theorem ret_l {S : Type} {post : Int64 → S → Prop} {W1 : S → va_W} {r : Int64} (u : S) (hx : p.tables.exec = Jvm.exec) (hb : c.code = cc) (hr : meth.sig.returnType = some .long) (hlk : meth.locks = false) (hW : St κ A s.heap H locs (W1 u)) (hdg : decode cc pc = .ok (.lreturn, 1)) (hc : cells ≤ mc) (hs : slots ≤ ms) (hp : post r u) :
    W p l e R s m args below meth c H locs cells slots (MQ below (va_Ql post (fun u => PW κ (W1 u) A) A) args s mc ms A) (F0 m pc ls [.long r]) :=
  W.widen hc hs (W.lret hx hb hr (fun t ht _ => ⟨⟨r, u, rfl, hp, by rw [ht]; exact hW.1, hW.2.1⟩, hW.2.2.F ht⟩) hW.2.2.2.2 hdg hlk)
theorem ret_d {S : Type} {post : UInt64 → S → Prop} {W1 : S → va_W} {r : UInt64} (u : S) (hx : p.tables.exec = Jvm.exec) (hb : c.code = cc) (hr : meth.sig.returnType = some .double) (hlk : meth.locks = false) (hW : St κ A s.heap H locs (W1 u)) (hdg : decode cc pc = .ok (.dreturn, 1)) (hc : cells ≤ mc) (hs : slots ≤ ms) (hp : post r u) :
    W p l e R s m args below meth c H locs cells slots (MQ below (va_Qd post (fun u => PW κ (W1 u) A) A) args s mc ms A) (F0 m pc ls [.double r]) :=
  W.widen hc hs (W.dret hx hb hr (fun t ht _ => ⟨⟨r, u, rfl, hp, by rw [ht]; exact hW.1, hW.2.1⟩, hW.2.2.F ht⟩) hW.2.2.2.2 hdg hlk)
end Ends
section Entries
variable {l : Launch} {y : MethodName} {wl wl' : List Cond} {rm : Room} {κ : Kp} {as : List Value} {W0 : va_W} {cc : ByteArray} {maxL : Nat}
theorem entry_i {S : Type} {post : Int32 → S → Prop} {W1 : S → va_W} (hy : plainName y.cls = true) (hw : wl = Cond.code y cc maxL (some .int) :: wl') (hlen : (lg_sl as).length ≤ maxL)
    (body : ∀ (P : Program) (e : Env) (s : State) (m : MethodId) (args : Array Value) (below : List Frame) (meth : Method) (c : Code) (ls : Array Slot) (A : Nat → Prop) (Q : State → Prop), CallFix P m c cc maxL s args wl y.cls → (y.name = "<init>" → meth.name = "<init>") → Kx κ s → (∀ q, s.heap.size ≤ q → A q) →
      (∀ (u : S) {H : Heap} {locs : List Loc} {ls : Array Slot} {pc cells slots : Nat} {r : Int32}, St κ A s.heap H locs (W1 u) → decode cc pc = .ok (.ireturn, 1) → cells ≤ rm.cells → slots ≤ rm.slots → post r u → W P l e rm s m args below meth c H locs cells slots Q (F0 m pc ls [.int r])) →
      St κ A s.heap s.heap [] W0 → lv_has ls maxL (lv_args 0 as) → W P l e rm s m args below meth c s.heap [] 0 0 Q (F0 m 0 ls [])) : CGi l y wl rm κ as W0 post W1 := by
  refine entry_of hy hw hlen (fun P e s m below meth c ls A hAe F hr hlk hnm hK hA hW hl => ?_)
  subst hAe
  exact body P e s m as.toArray below meth c ls _ _ F hnm hK hA (fun u _ _ _ _ _ _ _ h1 h2 h3 h4 h5 => ret_i u F.1 F.2.1 hr hlk h1 h2 h3 h4 h5) hW hl
theorem entry_z {S : Type} {post : Int32 → S → Prop} {W1 : S → va_W} (hy : plainName y.cls = true) (hw : wl = Cond.code y cc maxL (some .boolean) :: wl') (hlen : (lg_sl as).length ≤ maxL)
    (body : ∀ (P : Program) (e : Env) (s : State) (m : MethodId) (args : Array Value) (below : List Frame) (meth : Method) (c : Code) (ls : Array Slot) (A : Nat → Prop) (Q : State → Prop), CallFix P m c cc maxL s args wl y.cls → (y.name = "<init>" → meth.name = "<init>") → Kx κ s → (∀ q, s.heap.size ≤ q → A q) →
      (∀ (u : S) {H : Heap} {locs : List Loc} {ls : Array Slot} {pc cells slots : Nat} {r : Int32}, St κ A s.heap H locs (W1 u) → decode cc pc = .ok (.ireturn, 1) → cells ≤ rm.cells → slots ≤ rm.slots → narrow .boolean (.int r) = .int r → post r u → W P l e rm s m args below meth c H locs cells slots Q (F0 m pc ls [.int r])) →
      St κ A s.heap s.heap [] W0 → lv_has ls maxL (lv_args 0 as) → W P l e rm s m args below meth c s.heap [] 0 0 Q (F0 m 0 ls [])) : CGi l y wl rm κ as W0 post W1 := by
  refine entry_of hy hw hlen (fun P e s m below meth c ls A hAe F hr hlk hnm hK hA hW hl => ?_)
  subst hAe
  exact body P e s m as.toArray below meth c ls _ _ F hnm hK hA (fun u _ _ _ _ _ _ _ h1 h2 h3 h4 hz h5 => ret_z u F.1 F.2.1 hr hlk h1 h2 h3 h4 hz h5) hW hl
theorem entry_v {S : Type} {post : S → Prop} {W1 : S → va_W} (hy : plainName y.cls = true) (hw : wl = Cond.code y cc maxL none :: wl') (hlen : (lg_sl as).length ≤ maxL)
    (body : ∀ (P : Program) (e : Env) (s : State) (m : MethodId) (args : Array Value) (below : List Frame) (meth : Method) (c : Code) (ls : Array Slot) (A : Nat → Prop) (Q : State → Prop), CallFix P m c cc maxL s args wl y.cls → (y.name = "<init>" → meth.name = "<init>") → Kx κ s → (∀ q, s.heap.size ≤ q → A q) →
      (∀ (u : S) {H : Heap} {locs : List Loc} {ls : Array Slot} {pc cells slots : Nat}, St κ A s.heap H locs (W1 u) → decode cc pc = .ok (.return_, 1) → cells ≤ rm.cells → slots ≤ rm.slots → post u → W P l e rm s m args below meth c H locs cells slots Q (F0 m pc ls [])) →
      St κ A s.heap s.heap [] W0 → lv_has ls maxL (lv_args 0 as) → W P l e rm s m args below meth c s.heap [] 0 0 Q (F0 m 0 ls [])) : CGv l y wl rm κ as W0 post W1 := by
  refine entry_of hy hw hlen (fun P e s m below meth c ls A hAe F hr hlk hnm hK hA hW hl => ?_)
  subst hAe
  exact body P e s m as.toArray below meth c ls _ _ F hnm hK hA (fun u _ _ _ _ _ _ h1 h2 h3 h4 h5 => ret_v u F.1 F.2.1 hr hlk h1 h2 h3 h4 h5) hW hl
theorem entry_l {S : Type} {post : Int64 → S → Prop} {W1 : S → va_W} (hy : plainName y.cls = true) (hw : wl = Cond.code y cc maxL (some .long) :: wl') (hlen : (lg_sl as).length ≤ maxL)
    (body : ∀ (P : Program) (e : Env) (s : State) (m : MethodId) (args : Array Value) (below : List Frame) (meth : Method) (c : Code) (ls : Array Slot) (A : Nat → Prop) (Q : State → Prop), CallFix P m c cc maxL s args wl y.cls → (y.name = "<init>" → meth.name = "<init>") → Kx κ s → (∀ q, s.heap.size ≤ q → A q) →
      (∀ (u : S) {H : Heap} {locs : List Loc} {ls : Array Slot} {pc cells slots : Nat} {r : Int64}, St κ A s.heap H locs (W1 u) → decode cc pc = .ok (.lreturn, 1) → cells ≤ rm.cells → slots ≤ rm.slots → post r u → W P l e rm s m args below meth c H locs cells slots Q (F0 m pc ls [.long r])) →
      St κ A s.heap s.heap [] W0 → lv_has ls maxL (lv_args 0 as) → W P l e rm s m args below meth c s.heap [] 0 0 Q (F0 m 0 ls [])) : CGl l y wl rm κ as W0 post W1 := by
  refine entry_of hy hw hlen (fun P e s m below meth c ls A hAe F hr hlk hnm hK hA hW hl => ?_)
  subst hAe
  exact body P e s m as.toArray below meth c ls _ _ F hnm hK hA (fun u _ _ _ _ _ _ _ h1 h2 h3 h4 h5 => ret_l u F.1 F.2.1 hr hlk h1 h2 h3 h4 h5) hW hl
theorem entry_d {S : Type} {post : UInt64 → S → Prop} {W1 : S → va_W} (hy : plainName y.cls = true) (hw : wl = Cond.code y cc maxL (some .double) :: wl') (hlen : (lg_sl as).length ≤ maxL)
    (body : ∀ (P : Program) (e : Env) (s : State) (m : MethodId) (args : Array Value) (below : List Frame) (meth : Method) (c : Code) (ls : Array Slot) (A : Nat → Prop) (Q : State → Prop), CallFix P m c cc maxL s args wl y.cls → (y.name = "<init>" → meth.name = "<init>") → Kx κ s → (∀ q, s.heap.size ≤ q → A q) →
      (∀ (u : S) {H : Heap} {locs : List Loc} {ls : Array Slot} {pc cells slots : Nat} {r : UInt64}, St κ A s.heap H locs (W1 u) → decode cc pc = .ok (.dreturn, 1) → cells ≤ rm.cells → slots ≤ rm.slots → post r u → W P l e rm s m args below meth c H locs cells slots Q (F0 m pc ls [.double r])) →
      St κ A s.heap s.heap [] W0 → lv_has ls maxL (lv_args 0 as) → W P l e rm s m args below meth c s.heap [] 0 0 Q (F0 m 0 ls [])) : CGd l y wl rm κ as W0 post W1 := by
  refine entry_of hy hw hlen (fun P e s m below meth c ls A hAe F hr hlk hnm hK hA hW hl => ?_)
  subst hAe
  exact body P e s m as.toArray below meth c ls _ _ F hnm hK hA (fun u _ _ _ _ _ _ _ h1 h2 h3 h4 h5 => ret_d u F.1 F.2.1 hr hlk h1 h2 h3 h4 h5) hW hl
end Entries
/-! ===== calls ===== -/
section Frame
variable {κ : Kp} {A : Nat → Prop} {H0 H H1 : Heap} {locs locs1 : List Loc} {ws wc w1 ws' : va_W}
theorem fm_all {ws : va_W} {isR : List Nat} (h : isR.all (fun i => decide (i < ws.length)) = true) : isR.map (fun i => ws[i]?) = (isR.filterMap (fun i => ws[i]?)).map some := by
  induction isR with
  | nil => rfl
  | cons i t ih =>
    rw [List.all_cons, Bool.and_eq_true] at h
    have h1 : i < ws.length := of_decide_eq_true h.1
    rw [List.map_cons, List.filterMap_cons, List.getElem?_eq_getElem h1, ih h.2]
    rfl
theorem fm_of {α β : Type} {f : α → Option β} : ∀ {is : List α} {w : List β}, is.map f = w.map some → is.filterMap f = w
  | [], [], _ => rfl
  | [], _ :: _, h => by cases h
  | _ :: _, [], h => by cases h
  | i :: is, b :: w, h => by
    rw [List.map_cons, List.map_cons] at h
    have h1 := (List.cons.inj h).1
    rw [List.filterMap_cons, h1]
    exact congrArg _ (fm_of (List.cons.inj h).2)
/-- the caller's world behind a call: what the callee had is as it left it, the rest as it was -/
theorem St.join (hW : St κ A H0 H locs ws) (hA : ∀ q, H0.size ≤ q → A q) (isC isR pm : List Nat) (hC : isC.map (fun i => ws[i]?) = wc.map some) (hR : isR.all (fun i => decide (i < ws.length)) = true) (hn : va_nd isR = true) (hdis : ∀ i ∈ isR, i ∉ isC) (hpn : va_nd pm = true) (hpm : pm.map (fun i => (isR.filterMap (fun i => ws[i]?) ++ w1)[i]?) = ws'.map some)
    (hk : ∀ q : Nat, q < H.size → ¬ va_A wc H.size q → H1[q]? = H[q]?) (hP1 : va_P (kD κ) vwCl w1 H1) (hD1 : va_D (va_A wc H.size) w1) (hS : va_S A H0 H1 locs1) : St κ A H0 H1 locs1 ws' := by
  obtain ⟨hP, hD⟩ := va_join (wr := isR.filterMap (fun i => ws[i]?)) hW.1 hW.2.1 isC isR hC (fm_all hR) hn hdis hk (va_free hW.2.1 hW.2.2 hA isC hC) hP1 hD1
  exact ⟨hP.sub pm (fm_of hpm), hD.sub pm hpn hpm, hS⟩
end Frame
section Fin
variable {p : Program} {l : Launch} {e : Env} {R : Room} {s : State} {m : MethodId} {args : Array Value} {below : List Frame} {meth : Method} {c : Code} {H : Heap} {locs : List Loc} {cells slots mc ms : Nat} {Q : State → Prop}
variable {pc : Nat} {ls : Array Slot} {rest st0 : List Value} {a : Array Value} {κ : Kp} {A : Nat → Prop} {H0 : Heap} {ws W0 : va_W}
theorem fin_i {S : Type} {post : Int32 → S → Prop} {W1 W2 : S → va_W} (k n : Nat) (isC isR pm : List Nat) (hW : St κ A H0 H locs ws) (hA : ∀ q, H0.size ≤ q → A q)
    (hr : va_Run p l e R s m args below meth c H locs cells slots mc ms (F0 m pc ls st0) rest (va_Qi post (fun u => PW κ (W1 u) (va_A W0 H.size)) (va_A W0 H.size) a) (va_A W0 H.size))
    (hC : isC.map (fun i => ws[i]?) = W0.map some) (hR : isR.all (fun i => decide (i < ws.length)) = true) (hn : va_nd isR = true) (hdis : ∀ i ∈ isR, i ∉ isC) (hpn : va_nd pm = true) (hpm : ∀ u, pm.map (fun i => (isR.filterMap (fun i => ws[i]?) ++ W1 u)[i]?) = (W2 u).map some) (hk : cells + mc ≤ k) (hs : slots + ms ≤ n)
    (kk : ∀ (r : Int32) (u : S) (H1 : Heap) (locs1 : List Loc), post r u → St κ A H0 H1 locs1 (W2 u) → W p l e R s m args below meth c H1 locs1 k n Q (F0 m (pc + 3) ls (.int r :: rest))) : W p l e R s m args below meth c H locs cells slots Q (F0 m pc ls st0) := by
  have hF := va_free hW.2.1 hW.2.2 hA isC hC
  refine va_calli hr hW.2.2 (fun q _ h => hF q h) hF (fun r u t H1 locs1 ht hvm hw hB hz1 hk1 hS => W.widen hk hs ?_)
  have hB1 : va_P (kD κ) vwCl (W1 u) H1 := by rw [← ht]; exact hB.1
  exact kk r u H1 locs1 hw (St.join hW hA isC isR pm hC hR hn hdis hpn (hpm u) hk1 hB1 hB.2 hS)
theorem fin_v {S : Type} {post : S → Prop} {W1 W2 : S → va_W} (k n : Nat) (isC isR pm : List Nat) (hW : St κ A H0 H locs ws) (hA : ∀ q, H0.size ≤ q → A q)
    (hr : va_Run p l e R s m args below meth c H locs cells slots mc ms (F0 m pc ls st0) rest (va_Qv post (fun u => PW κ (W1 u) (va_A W0 H.size)) (va_A W0 H.size) a) (va_A W0 H.size))
    (hC : isC.map (fun i => ws[i]?) = W0.map some) (hR : isR.all (fun i => decide (i < ws.length)) = true) (hn : va_nd isR = true) (hdis : ∀ i ∈ isR, i ∉ isC) (hpn : va_nd pm = true) (hpm : ∀ u, pm.map (fun i => (isR.filterMap (fun i => ws[i]?) ++ W1 u)[i]?) = (W2 u).map some) (hk : cells + mc ≤ k) (hs : slots + ms ≤ n)
    (kk : ∀ (u : S) (H1 : Heap) (locs1 : List Loc), post u → St κ A H0 H1 locs1 (W2 u) → W p l e R s m args below meth c H1 locs1 k n Q (F0 m (pc + 3) ls rest)) : W p l e R s m args below meth c H locs cells slots Q (F0 m pc ls st0) := by
  have hF := va_free hW.2.1 hW.2.2 hA isC hC
  refine va_callv hr hW.2.2 (fun q _ h => hF q h) hF (fun u t H1 locs1 ht hvm hw hB hz1 hk1 hS => W.widen hk hs ?_)
  have hB1 : va_P (kD κ) vwCl (W1 u) H1 := by rw [← ht]; exact hB.1
  exact kk u H1 locs1 hw (St.join hW hA isC isR pm hC hR hn hdis hpn (hpm u) hk1 hB1 hB.2 hS)
theorem fin_l {S : Type} {post : Int64 → S → Prop} {W1 W2 : S → va_W} (k n : Nat) (isC isR pm : List Nat) (hW : St κ A H0 H locs ws) (hA : ∀ q, H0.size ≤ q → A q)
    (hr : va_Run p l e R s m args below meth c H locs cells slots mc ms (F0 m pc ls st0) rest (va_Ql post (fun u => PW κ (W1 u) (va_A W0 H.size)) (va_A W0 H.size) a) (va_A W0 H.size))
    (hC : isC.map (fun i => ws[i]?) = W0.map some) (hR : isR.all (fun i => decide (i < ws.length)) = true) (hn : va_nd isR = true) (hdis : ∀ i ∈ isR, i ∉ isC) (hpn : va_nd pm = true) (hpm : ∀ u, pm.map (fun i => (isR.filterMap (fun i => ws[i]?) ++ W1 u)[i]?) = (W2 u).map some) (hk : cells + mc ≤ k) (hs : slots + ms ≤ n)
    (kk : ∀ (r : Int64) (u : S) (H1 : Heap) (locs1 : List Loc), post r u → St κ A H0 H1 locs1 (W2 u) → W p l e R s m args below meth c H1 locs1 k n Q (F0 m (pc + 3) ls (.long r :: rest))) : W p l e R s m args below meth c H locs cells slots Q (F0 m pc ls st0) := by
  have hF := va_free hW.2.1 hW.2.2 hA isC hC
  refine va_calll hr hW.2.2 (fun q _ h => hF q h) hF (fun r u t H1 locs1 ht hvm hw hB hz1 hk1 hS => W.widen hk hs ?_)
  have hB1 : va_P (kD κ) vwCl (W1 u) H1 := by rw [← ht]; exact hB.1
  exact kk r u H1 locs1 hw (St.join hW hA isC isR pm hC hR hn hdis hpn (hpm u) hk1 hB1 hB.2 hS)
theorem fin_d {S : Type} {post : UInt64 → S → Prop} {W1 W2 : S → va_W} (k n : Nat) (isC isR pm : List Nat) (hW : St κ A H0 H locs ws) (hA : ∀ q, H0.size ≤ q → A q)
    (hr : va_Run p l e R s m args below meth c H locs cells slots mc ms (F0 m pc ls st0) rest (va_Qd post (fun u => PW κ (W1 u) (va_A W0 H.size)) (va_A W0 H.size) a) (va_A W0 H.size))
    (hC : isC.map (fun i => ws[i]?) = W0.map some) (hR : isR.all (fun i => decide (i < ws.length)) = true) (hn : va_nd isR = true) (hdis : ∀ i ∈ isR, i ∉ isC) (hpn : va_nd pm = true) (hpm : ∀ u, pm.map (fun i => (isR.filterMap (fun i => ws[i]?) ++ W1 u)[i]?) = (W2 u).map some) (hk : cells + mc ≤ k) (hs : slots + ms ≤ n)
    (kk : ∀ (r : UInt64) (u : S) (H1 : Heap) (locs1 : List Loc), post r u → St κ A H0 H1 locs1 (W2 u) → W p l e R s m args below meth c H1 locs1 k n Q (F0 m (pc + 3) ls (.double r :: rest))) : W p l e R s m args below meth c H locs cells slots Q (F0 m pc ls st0) := by
  have hF := va_free hW.2.1 hW.2.2 hA isC hC
  refine va_calld hr hW.2.2 (fun q _ h => hF q h) hF (fun r u t H1 locs1 ht hvm hw hB hz1 hk1 hS => W.widen hk hs ?_)
  have hB1 : va_P (kD κ) vwCl (W1 u) H1 := by rw [← ht]; exact hB.1
  exact kk r u H1 locs1 hw (St.join hW hA isC isR pm hC hR hn hdis hpn (hpm u) hk1 hB1 hB.2 hS)
end Fin
section Pre
variable {s : State} {κ : Kp} {A : Nat → Prop} {H0 H : Heap} {locs : List Loc} {ws wc : va_W} {as As : List Value} {b : Nat}
theorem pre_S (hK : Kx κ s) (hW : St κ A H0 H locs ws) (isC : List Nat) (hC : isC.map (fun i => ws[i]?) = wc.map some) (hCn : va_nd isC = true) : PreS s H (PreC κ as wc H.size) as :=
  ⟨PreC.blind, fun U hU hWm => ⟨rfl, by rw [hU], by rw [hU]; exact hW.1.sub isC (fm_of hC), hK.warm hWm, (hW.2.1.sub isC hCn hC).weaken (fun _ _ _ _ => trivial)⟩⟩
theorem pre_V (hK : Kx κ s) (hW : St κ A H0 H locs ws) (isC : List Nat) (hC : isC.map (fun i => ws[i]?) = wc.map some) (hCn : va_nd isC = true) (ci q0 : Nat) {q : vw_C} {fs : List Value} (hc : vwCl[ci]? = some q) (he : ws[q0]? = some (b, .inr (ci, fs))) : PreV s H q.1 b (PreC κ (.ref b :: As) wc H.size) As :=
  ⟨PreC.blind, va_recv hK.1 hW.1 hc he, fun U hU hWm => ⟨rfl, by rw [hU], by rw [hU]; exact hW.1.sub isC (fm_of hC), hK.warm hWm, (hW.2.1.sub isC hCn hC).weaken (fun _ _ _ _ => trivial)⟩⟩
end Pre
end
section
/-! ===== the kit's rows over J ===== -/
section JRows
variable {p : Program} {l : Launch} {e : Env} {R : Room} {s : State} {m : MethodId} {args : Array Value} {below : List Frame} {meth : Method} {c : Code} {H : Heap} {locs : List Loc} {cells slots : Nat} {Q : State → Prop} {cc : ByteArray} {pc : Nat} {ls : Array Slot} {rest : List Value}
theorem jv_iconst (hx : p.tables.exec = Jvm.exec) (hb : c.code = cc) {n : Int} (hdg : decode cc pc = .ok (.iconst n, 1)) (k : W p l e R s m args below meth c H locs cells slots Q (F0 m (pc + 1) ls (.int (J n) :: rest))) : W p l e R s m args below meth c H locs cells slots Q (F0 m pc ls rest) := lv_iconst hx hb hdg rfl k
theorem jv_bipush (hx : p.tables.exec = Jvm.exec) (hb : c.code = cc) {n : Int} (v : Int) (hdg : decode cc pc = .ok (.bipush n, 2)) (hv : (Int8.ofInt n).toInt32 = J v) (k : W p l e R s m args below meth c H locs cells slots Q (F0 m (pc + 2) ls (.int (J v) :: rest))) : W p l e R s m args below meth c H locs cells slots Q (F0 m pc ls rest) := lv_bipush hx hb hdg hv k
theorem jv_sipush (hx : p.tables.exec = Jvm.exec) (hb : c.code = cc) {n : Int} (v : Int) (hdg : decode cc pc = .ok (.sipush n, 3)) (hv : (Int16.ofInt n).toInt32 = J v) (k : W p l e R s m args below meth c H locs cells slots Q (F0 m (pc + 3) ls (.int (J v) :: rest))) : W p l e R s m args below meth c H locs cells slots Q (F0 m pc ls rest) := lv_sipush hx hb hdg hv k
theorem jv_iadd (hx : p.tables.exec = Jvm.exec) (hb : c.code = cc) {a b : Int} (hdg : decode cc pc = .ok (.iadd, 1)) (k : W p l e R s m args below meth c H locs cells slots Q (F0 m (pc + 1) ls (.int (J (a + b)) :: rest))) : W p l e R s m args below meth c H locs cells slots Q (F0 m pc ls (.int (J b) :: .int (J a) :: rest)) := lv_iadd hx hb hdg (by rw [J_add]; exact k)
theorem jv_isub (hx : p.tables.exec = Jvm.exec) (hb : c.code = cc) {a b : Int} (hdg : decode cc pc = .ok (.isub, 1)) (k : W p l e R s m args below meth c H locs cells slots Q (F0 m (pc + 1) ls (.int (J (a - b)) :: rest))) : W p l e R s m args below meth c H locs cells slots Q (F0 m pc ls (.int (J b) :: .int (J a) :: rest)) := lv_isub hx hb hdg (by rw [J_sub]; exact k)
theorem jv_imul (hx : p.tables.exec = Jvm.exec) (hb : c.code = cc) {a b : Int} (hdg : decode cc pc = .ok (.imul, 1)) (k : W p l e R s m args below meth c H locs cells slots Q (F0 m (pc + 1) ls (.int (J (a * b)) :: rest))) : W p l e R s m args below meth c H locs cells slots Q (F0 m pc ls (.int (J b) :: .int (J a) :: rest)) := lv_imul hx hb hdg (by rw [J_mul]; exact k)
theorem jv_ineg (hx : p.tables.exec = Jvm.exec) (hb : c.code = cc) {a : Int} (hdg : decode cc pc = .ok (.ineg, 1)) (k : W p l e R s m args below meth c H locs cells slots Q (F0 m (pc + 1) ls (.int (J (-a)) :: rest))) : W p l e R s m args below meth c H locs cells slots Q (F0 m pc ls (.int (J a) :: rest)) := lv_ineg hx hb hdg (by rw [J_neg]; exact k)
theorem jv_idiv (hx : p.tables.exec = Jvm.exec) (hb : c.code = cc) {a d : Int} (hdg : decode cc pc = .ok (.idiv, 1)) (h : 0 ≤ a ∧ a < 2147483648 ∧ 0 < d ∧ d < 2147483648) (k : W p l e R s m args below meth c H locs cells slots Q (F0 m (pc + 1) ls (.int (J (a / d)) :: rest))) : W p l e R s m args below meth c H locs cells slots Q (F0 m pc ls (.int (J d) :: .int (J a) :: rest)) := lv_idiv hx hb hdg (J_ne0 h.2.2.1 h.2.2.2) (by rw [J_div h.1 h.2.1 h.2.2.1 h.2.2.2]; exact k)
theorem jv_irem (hx : p.tables.exec = Jvm.exec) (hb : c.code = cc) {a d : Int} (hdg : decode cc pc = .ok (.irem, 1)) (h : 0 ≤ a ∧ a < 2147483648 ∧ 0 < d ∧ d < 2147483648) (k : W p l e R s m args below meth c H locs cells slots Q (F0 m (pc + 1) ls (.int (J (a % d)) :: rest))) : W p l e R s m args below meth c H locs cells slots Q (F0 m pc ls (.int (J d) :: .int (J a) :: rest)) := lv_irem hx hb hdg (J_ne0 h.2.2.1 h.2.2.2) (by rw [J_rem h.1 h.2.1 h.2.2.1 h.2.2.2]; exact k)
theorem jv_iinc (hx : p.tables.exec = Jvm.exec) (hb : c.code = cc) {i nL k : Nat} {n z : Int} {lv lv' : List (Nat × Value)} (hdg : decode cc pc = .ok (.iinc i n, 3)) (h : lv_has ls nL lv) (hk : lv[k]? = some (i, .int (J z))) (hn : i < nL) (hl : (i, Value.int (J (z + n))) :: lv.filter (fun q => !(q.1 == i) && !(q.1 + 1 == i && q.2.category == 2)) = lv') (kk : ∀ ls' : Array Slot, lv_has ls' nL lv' → W p l e R s m args below meth c H locs cells slots Q (F0 m (pc + 3) ls' rest)) : W p l e R s m args below meth c H locs cells slots Q (F0 m pc ls rest) := lv_iinc (v := J (z + n)) hx hb hdg h hk (J_add z n) hn hl kk
theorem jv_if_eq (hx : p.tables.exec = Jvm.exec) (hb : c.code = cc) {z : Int} {off : Int} (tgt : Nat) (hdg : decode cc pc = .ok (.ifCond .eq off, 3)) (ht : (pc : Int) + off = (tgt : Int)) (hz : InR z) (kt : z = 0 → W p l e R s m args below meth c H locs cells slots Q (F0 m tgt ls rest)) (kf : ¬ z = 0 → W p l e R s m args below meth c H locs cells slots Q (F0 m (pc + 3) ls rest)) : W p l e R s m args below meth c H locs cells slots Q (F0 m pc ls (.int (J z) :: rest)) := lv_if_eq hx hb hdg ht (fun h => kt ((J_eq0 hz).mp h)) (fun h => kf (fun h' => h ((J_eq0 hz).mpr h')))
theorem jv_if_ne (hx : p.tables.exec = Jvm.exec) (hb : c.code = cc) {z : Int} {off : Int} (tgt : Nat) (hdg : decode cc pc = .ok (.ifCond .ne off, 3)) (ht : (pc : Int) + off = (tgt : Int)) (hz : InR z) (kt : ¬ z = 0 → W p l e R s m args below meth c H locs cells slots Q (F0 m tgt ls rest)) (kf : z = 0 → W p l e R s m args below meth c H locs cells slots Q (F0 m (pc + 3) ls rest)) : W p l e R s m args below meth c H locs cells slots Q (F0 m pc ls (.int (J z) :: rest)) := lv_if_ne hx hb hdg ht (fun h => kt (fun h' => h ((J_eq0 hz).mpr h'))) (fun h => kf ((J_eq0 hz).mp h))
theorem jv_if_lt (hx : p.tables.exec = Jvm.exec) (hb : c.code = cc) {z : Int} {off : Int} (tgt : Nat) (hdg : decode cc pc = .ok (.ifCond .lt off, 3)) (ht : (pc : Int) + off = (tgt : Int)) (hz : InR z) (kt : z < 0 → W p l e R s m args below meth c H locs cells slots Q (F0 m tgt ls rest)) (kf : ¬ z < 0 → W p l e R s m args below meth c H locs cells slots Q (F0 m (pc + 3) ls rest)) : W p l e R s m args below meth c H locs cells slots Q (F0 m pc ls (.int (J z) :: rest)) := lv_if_lt hx hb hdg ht (fun h => kt ((J_lt0 hz).mp h)) (fun h => kf (fun h' => h ((J_lt0 hz).mpr h')))
theorem jv_if_ge (hx : p.tables.exec = Jvm.exec) (hb : c.code = cc) {z : Int} {off : Int} (tgt : Nat) (hdg : decode cc pc = .ok (.ifCond .ge off, 3)) (ht : (pc : Int) + off = (tgt : Int)) (hz : InR z) (kt : 0 ≤ z → W p l e R s m args below meth c H locs cells slots Q (F0 m tgt ls rest)) (kf : ¬ 0 ≤ z → W p l e R s m args below meth c H locs cells slots Q (F0 m (pc + 3) ls rest)) : W p l e R s m args below meth c H locs cells slots Q (F0 m pc ls (.int (J z) :: rest)) := lv_if_ge hx hb hdg ht (fun h => kt ((J_0le hz).mp h)) (fun h => kf (fun h' => h ((J_0le hz).mpr h')))
theorem jv_if_gt (hx : p.tables.exec = Jvm.exec) (hb : c.code = cc) {z : Int} {off : Int} (tgt : Nat) (hdg : decode cc pc = .ok (.ifCond .gt off, 3)) (ht : (pc : Int) + off = (tgt : Int)) (hz : InR z) (kt : 0 < z → W p l e R s m args below meth c H locs cells slots Q (F0 m tgt ls rest)) (kf : ¬ 0 < z → W p l e R s m args below meth c H locs cells slots Q (F0 m (pc + 3) ls rest)) : W p l e R s m args below meth c H locs cells slots Q (F0 m pc ls (.int (J z) :: rest)) := lv_if_gt hx hb hdg ht (fun h => kt ((J_0lt hz).mp h)) (fun h => kf (fun h' => h ((J_0lt hz).mpr h')))
theorem jv_if_le (hx : p.tables.exec = Jvm.exec) (hb : c.code = cc) {z : Int} {off : Int} (tgt : Nat) (hdg : decode cc pc = .ok (.ifCond .le off, 3)) (ht : (pc : Int) + off = (tgt : Int)) (hz : InR z) (kt : z ≤ 0 → W p l e R s m args below meth c H locs cells slots Q (F0 m tgt ls rest)) (kf : ¬ z ≤ 0 → W p l e R s m args below meth c H locs cells slots Q (F0 m (pc + 3) ls rest)) : W p l e R s m args below meth c H locs cells slots Q (F0 m pc ls (.int (J z) :: rest)) := lv_if_le hx hb hdg ht (fun h => kt ((J_le0 hz).mp h)) (fun h => kf (fun h' => h ((J_le0 hz).mpr h')))
theorem jv_icmp_eq (hx : p.tables.exec = Jvm.exec) (hb : c.code = cc) {x y : Int} {off : Int} (tgt : Nat) (hdg : decode cc pc = .ok (.if_icmp .eq off, 3)) (ht : (pc : Int) + off = (tgt : Int)) (hz : InR x) (hw : InR y) (kt : x = y → W p l e R s m args below meth c H locs cells slots Q (F0 m tgt ls rest)) (kf : ¬ x = y → W p l e R s m args below meth c H locs cells slots Q (F0 m (pc + 3) ls rest)) : W p l e R s m args below meth c H locs cells slots Q (F0 m pc ls (.int (J y) :: .int (J x) :: rest)) := lv_icmp_eq hx hb hdg ht (fun h => kt ((J_inj hz hw).mp h)) (fun h => kf (fun h' => h ((J_inj hz hw).mpr h')))
theorem jv_icmp_ne (hx : p.tables.exec = Jvm.exec) (hb : c.code = cc) {x y : Int} {off : Int} (tgt : Nat) (hdg : decode cc pc = .ok (.if_icmp .ne off, 3)) (ht : (pc : Int) + off = (tgt : Int)) (hz : InR x) (hw : InR y) (kt : ¬ x = y → W p l e R s m args below meth c H locs cells slots Q (F0 m tgt ls rest)) (kf : x = y → W p l e R s m args below meth c H locs cells slots Q (F0 m (pc + 3) ls rest)) : W p l e R s m args below meth c H locs cells slots Q (F0 m pc ls (.int (J y) :: .int (J x) :: rest)) := lv_icmp_ne hx hb hdg ht (fun h => kt (fun h' => h ((J_inj hz hw).mpr h'))) (fun h => kf ((J_inj hz hw).mp h))
theorem jv_icmp_lt (hx : p.tables.exec = Jvm.exec) (hb : c.code = cc) {x y : Int} {off : Int} (tgt : Nat) (hdg : decode cc pc = .ok (.if_icmp .lt off, 3)) (ht : (pc : Int) + off = (tgt : Int)) (hz : InR x) (hw : InR y) (kt : x < y → W p l e R s m args below meth c H locs cells slots Q (F0 m tgt ls rest)) (kf : ¬ x < y → W p l e R s m args below meth c H locs cells slots Q (F0 m (pc + 3) ls rest)) : W p l e R s m args below meth c H locs cells slots Q (F0 m pc ls (.int (J y) :: .int (J x) :: rest)) := lv_icmp_lt hx hb hdg ht (fun h => kt ((J_lt hz hw).mp h)) (fun h => kf (fun h' => h ((J_lt hz hw).mpr h')))
theorem jv_icmp_ge (hx : p.tables.exec = Jvm.exec) (hb : c.code = cc) {x y : Int} {off : Int} (tgt : Nat) (hdg : decode cc pc = .ok (.if_icmp .ge off, 3)) (ht : (pc : Int) + off = (tgt : Int)) (hz : InR x) (hw : InR y) (kt : y ≤ x → W p l e R s m args below meth c H locs cells slots Q (F0 m tgt ls rest)) (kf : ¬ y ≤ x → W p l e R s m args below meth c H locs cells slots Q (F0 m (pc + 3) ls rest)) : W p l e R s m args below meth c H locs cells slots Q (F0 m pc ls (.int (J y) :: .int (J x) :: rest)) := lv_icmp_ge hx hb hdg ht (fun h => kt ((J_le hw hz).mp h)) (fun h => kf (fun h' => h ((J_le hw hz).mpr h')))
theorem jv_icmp_gt (hx : p.tables.exec = Jvm.exec) (hb : c.code = cc) {x y : Int} {off : Int} (tgt : Nat) (hdg : decode cc pc = .ok (.if_icmp .gt off, 3)) (ht : (pc : Int) + off = (tgt : Int)) (hz : InR x) (hw : InR y) (kt : y < x → W p l e R s m args below meth c H locs cells slots Q (F0 m tgt ls rest)) (kf : ¬ y < x → W p l e R s m args below meth c H locs cells slots Q (F0 m (pc + 3) ls rest)) : W p l e R s m args below meth c H locs cells slots Q (F0 m pc ls (.int (J y) :: .int (J x) :: rest)) := lv_icmp_gt hx hb hdg ht (fun h => kt ((J_lt hw hz).mp h)) (fun h => kf (fun h' => h ((J_lt hw hz).mpr h')))
theorem jv_icmp_le (hx : p.tables.exec = Jvm.exec) (hb : c.code = cc) {x y : Int} {off : Int} (tgt : Nat) (hdg : decode cc pc = .ok (.if_icmp .le off, 3)) (ht : (pc : Int) + off = (tgt : Int)) (hz : InR x) (hw : InR y) (kt : x ≤ y → W p l e R s m args below meth c H locs cells slots Q (F0 m tgt ls rest)) (kf : ¬ x ≤ y → W p l e R s m args below meth c H locs cells slots Q (F0 m (pc + 3) ls rest)) : W p l e R s m args below meth c H locs cells slots Q (F0 m pc ls (.int (J y) :: .int (J x) :: rest)) := lv_icmp_le hx hb hdg ht (fun h => kt ((J_le hz hw).mp h)) (fun h => kf (fun h' => h ((J_le hz hw).mpr h')))
theorem jv_ifb_eq (hx : p.tables.exec = Jvm.exec) (hb : c.code = cc) {b : Bool} {off : Int} (tgt : Nat) (hdg : decode cc pc = .ok (.ifCond .eq off, 3)) (ht : (pc : Int) + off = (tgt : Int)) (kt : b = false → W p l e R s m args below meth c H locs cells slots Q (F0 m tgt ls rest)) (kf : b = true → W p l e R s m args below meth c H locs cells slots Q (F0 m (pc + 3) ls rest)) : W p l e R s m args below meth c H locs cells slots Q (F0 m pc ls (.int (J (bi b)) :: rest)) := jv_if_eq hx hb tgt hdg ht (bi_InR b) (fun h => kt (bi_eq0.mp h)) (fun h => kf (by cases b with | false => exact absurd rfl h | true => rfl))
theorem jv_ifb_ne (hx : p.tables.exec = Jvm.exec) (hb : c.code = cc) {b : Bool} {off : Int} (tgt : Nat) (hdg : decode cc pc = .ok (.ifCond .ne off, 3)) (ht : (pc : Int) + off = (tgt : Int)) (kt : b = true → W p l e R s m args below meth c H locs cells slots Q (F0 m tgt ls rest)) (kf : b = false → W p l e R s m args below meth c H locs cells slots Q (F0 m (pc + 3) ls rest)) : W p l e R s m args below meth c H locs cells slots Q (F0 m pc ls (.int (J (bi b)) :: rest)) := jv_if_ne hx hb tgt hdg ht (bi_InR b) (fun h => kt (by cases b with | false => exact absurd rfl h | true => rfl)) (fun h => kf (bi_eq0.mp h))
theorem jv_top {x y : Int32} (h : x = y) (k : W p l e R s m args below meth c H locs cells slots Q (F0 m pc ls (.int y :: rest))) : W p l e R s m args below meth c H locs cells slots Q (F0 m pc ls (.int x :: rest)) := by rw [h]; exact k
theorem jv_eq {x y : Int} (h : x = y) (k : W p l e R s m args below meth c H locs cells slots Q (F0 m pc ls (.int (J y) :: rest))) : W p l e R s m args below meth c H locs cells slots Q (F0 m pc ls (.int (J x) :: rest)) := by rw [h]; exact k
variable {κ : Kp} {A : Nat → Prop} {H0 : Heap} {ws ws' : va_W} {a : Nat} {Ts : List Cond} {own C : String} {T : u_T} {N ci index : Nat} {fs : List Value}
theorem jv_get (hx : p.tables.exec = Jvm.exec) (hb : c.code = cc) (hts : ∀ w ∈ Ts, w.before args s = true) (hin : ∀ w ∈ u_ws C T N, w ∈ Ts) (hown : s.vm.findClass own = some m.cls) (hK : Kx κ s) (hW : St κ A H0 H locs ws) (q0 : Nat) (he : ws[q0]? = some (a, .inr (ci, fs))) (hc : vwCl[ci]? = some (C, T, N)) (k : Nat) (hk : k < N) (hlink : Cond.fieldLink own index (T k).1 (T k).2.1 (T k).2.2.1 ∈ Ts) {v : Value} (hv : fs[k]? = some v) (hdg : decode cc pc = .ok (.getfield index, 3)) (kk : W p l e R s m args below meth c H locs cells slots Q (F0 m (pc + 3) ls (v :: rest))) : W p l e R s m args below meth c H locs cells slots Q (F0 m pc ls (.ref a :: rest)) := va_get hx hb hts hin hown hK.1 hW.1 q0 he hc k hk (hts _ hlink) (fun _ h => h) hv hdg kk
theorem jv_put (hx : p.tables.exec = Jvm.exec) (hb : c.code = cc) (hts : ∀ w ∈ Ts, w.before args s = true) (hin : ∀ w ∈ u_ws C T N, w ∈ Ts) (ty0 : Nat → FieldType) (hty : ∀ k, k < N → parseFieldDescriptor (T k).2.2.1 = some (ty0 k)) (hnm : ∀ a, a < N → ∀ b, b < N → a ≠ b → (T a).2.1 ≠ (T b).2.1) (hown : s.vm.findClass own = some m.cls) (hK : Kx κ s) (hW : St κ A H0 H locs ws) (q0 : Nat) (he : ws[q0]? = some (a, .inr (ci, fs))) (hc : vwCl[ci]? = some (C, T, N)) (k : Nat) (hk : k < N) (hlink : Cond.fieldLink own index (T k).1 (T k).2.1 (T k).2.2.1 ∈ Ts) (hfin : (T k).2.2.2 = false) {v : Value} (hn : narrow (ty0 k) v = v) (hfit : fits (ty0 k) v = true) (hl : k < fs.length) (hws : ws.set q0 (a, .inr (ci, fs.set k v)) = ws') (hdg : decode cc pc = .ok (.putfield index, 3)) (kk : ∀ (H1 : Heap) (locs1 : List Loc), St κ A H0 H1 locs1 ws' → W p l e R s m args below meth c H1 locs1 cells slots Q (F0 m (pc + 3) ls rest)) : W p l e R s m args below meth c H locs cells slots Q (F0 m pc ls (v :: .ref a :: rest)) := va_put hx hb hts hin ty0 hty hnm hown hK.1 hW.1 hW.2.1 hW.2.2 q0 he hc k hk (hts _ hlink) (fun _ h => h) hfin (hty k hk) hn hfit hl hdg (fun H1 locs1 h1 h2 h3 => by subst hws; exact kk H1 locs1 ⟨h1, h2, h3⟩)
theorem jv_putF (hx : p.tables.exec = Jvm.exec) (hb : c.code = cc) (hts : ∀ w ∈ Ts, w.before args s = true) (hin : ∀ w ∈ u_ws C T N, w ∈ Ts) (ty0 : Nat → FieldType) (hty : ∀ k, k < N → parseFieldDescriptor (T k).2.2.1 = some (ty0 k)) (hnm : ∀ a, a < N → ∀ b, b < N → a ≠ b → (T a).2.1 ≠ (T b).2.1) (hown : s.vm.findClass own = some m.cls) (hK : Kx κ s) (hW : St κ A H0 H locs ws) (q0 : Nat) (he : ws[q0]? = some (a, .inr (ci, fs))) (hc : vwCl[ci]? = some (C, T, N)) (k : Nat) (hk : k < N) (hlink : Cond.fieldLink own index (T k).1 (T k).2.1 (T k).2.2.1 ∈ Ts) (hfin : (T k).2.2.2 = true) (hini : meth.name = "<init>") (hdecl : (T k).1 = own) {v : Value} (hn : narrow (ty0 k) v = v) (hfit : fits (ty0 k) v = true) (hl : k < fs.length) (hws : ws.set q0 (a, .inr (ci, fs.set k v)) = ws') (hdg : decode cc pc = .ok (.putfield index, 3)) (kk : ∀ (H1 : Heap) (locs1 : List Loc), St κ A H0 H1 locs1 ws' → W p l e R s m args below meth c H1 locs1 cells slots Q (F0 m (pc + 3) ls rest)) : W p l e R s m args below meth c H locs cells slots Q (F0 m pc ls (v :: .ref a :: rest)) := va_putF hx hb hts hin ty0 hty hnm hown hK.1 hW.1 hW.2.1 hW.2.2 q0 he hc k hk (hts _ hlink) (fun _ h => h) hfin hini hdecl (hty k hk) hn hfit hl hdg (fun H1 locs1 h1 h2 h3 => by subst hws; exact kk H1 locs1 ⟨h1, h2, h3⟩)
theorem jv_iald (hx : p.tables.exec = Jvm.exec) (hb : c.code = cc) (hK : Kx κ s) (hW : St κ A H0 H locs ws) (q0 : Nat) {n : Nat} {g : Nat → Int} (ha : ws[q0]? = some (a, .inl (kI κ, n, .inl fun k => J (g k)))) {z : Int} (i : Nat) (hz : z = (i : Int)) (hi : i < n) (hn : n < 2147483648) (hdg : decode cc pc = .ok (.iaload, 1)) (kk : W p l e R s m args below meth c H locs cells slots Q (F0 m (pc + 1) ls (.int (J (g i)) :: rest))) : W p l e R s m args below meth c H locs cells slots Q (F0 m pc ls (.int (J z) :: .ref a :: rest)) := va_iald hx hb hK.1 hW.1 q0 0 ha rfl (J_in hz hi hn) hdg (by rw [J_clamp hz (by omega)]; exact kk)
theorem jv_zald (hx : p.tables.exec = Jvm.exec) (hb : c.code = cc) (hK : Kx κ s) (hW : St κ A H0 H locs ws) (q0 : Nat) {n : Nat} {g : Nat → Int} (ha : ws[q0]? = some (a, .inl (kZ κ, n, .inl fun k => J (g k)))) {z : Int} (i : Nat) (hz : z = (i : Int)) (hi : i < n) (hn : n < 2147483648) (hdg : decode cc pc = .ok (.baload, 1)) (kk : W p l e R s m args below meth c H locs cells slots Q (F0 m (pc + 1) ls (.int (J (g i)) :: rest))) : W p l e R s m args below meth c H locs cells slots Q (F0 m pc ls (.int (J z) :: .ref a :: rest)) := va_zald hx hb hK.1 hW.1 q0 1 ha rfl (J_in hz hi hn) hdg (by rw [J_clamp hz (by omega)]; exact kk)
theorem jv_iast (hx : p.tables.exec = Jvm.exec) (hb : c.code = cc) (hK : Kx κ s) (hW : St κ A H0 H locs ws) (q0 : Nat) {n : Nat} {g : Nat → Int} (ha : ws[q0]? = some (a, .inl (kI κ, n, .inl fun k => J (g k)))) {z v : Int} (i : Nat) (hz : z = (i : Int)) (hi : i < n) (hn : n < 2147483648) (hws : ws.set q0 (a, .inl (kI κ, n, .inl fun k => J (upi g i v k))) = ws') (hdg : decode cc pc = .ok (.iastore, 1)) (kk : ∀ (H1 : Heap) (locs1 : List Loc), St κ A H0 H1 locs1 ws' → W p l e R s m args below meth c H1 locs1 cells slots Q (F0 m (pc + 1) ls rest)) : W p l e R s m args below meth c H locs cells slots Q (F0 m pc ls (.int (J v) :: .int (J z) :: .ref a :: rest)) := va_iast hx hb hK.1 hW.1 hW.2.1 hW.2.2 q0 0 ha rfl (J_in hz hi hn) hdg (fun H1 locs1 h1 h2 h3 => by rw [J_clamp hz (by omega), upi_J, hws] at h1 h2; exact kk H1 locs1 ⟨h1, h2, h3⟩)
theorem jv_zast (hx : p.tables.exec = Jvm.exec) (hb : c.code = cc) (hK : Kx κ s) (hW : St κ A H0 H locs ws) (q0 : Nat) {n : Nat} {g : Nat → Int} (ha : ws[q0]? = some (a, .inl (kZ κ, n, .inl fun k => J (g k)))) {z v : Int} (i : Nat) (hz : z = (i : Int)) (hi : i < n) (hn : n < 2147483648) (hv : v = 0 ∨ v = 1) (hws : ws.set q0 (a, .inl (kZ κ, n, .inl fun k => J (upi g i v k))) = ws') (hdg : decode cc pc = .ok (.bastore, 1)) (kk : ∀ (H1 : Heap) (locs1 : List Loc), St κ A H0 H1 locs1 ws' → W p l e R s m args below meth c H1 locs1 cells slots Q (F0 m (pc + 1) ls rest)) : W p l e R s m args below meth c H locs cells slots Q (F0 m pc ls (.int (J v) :: .int (J z) :: .ref a :: rest)) := va_zast hx hb hK.1 hW.1 hW.2.1 hW.2.2 q0 1 ha rfl (J_in hz hi hn) hdg (fun H1 locs1 h1 h2 h3 => by rw [J_clamp hz (by omega), zn_01 hv, upi_J, hws] at h1 h2; exact kk H1 locs1 ⟨h1, h2, h3⟩)
variable {nL : Nat} {lv : List (Nat × Value)}
theorem J_abs {z : Int} (hz : InR z) : (if 0 ≤ J z then J z else 0 - J z) = J (if 0 ≤ z then z else 0 - z) := by
  by_cases h : 0 ≤ z
  · rw [if_pos ((J_0le hz).mpr h), if_pos h]
  · rw [if_neg (fun h' => h ((J_0le hz).mp h')), if_neg h, ← J_0, J_sub]
theorem J_max {a b : Int} (ha : InR a) (hb : InR b) : (if J a < J b then J b else J a) = J (max a b) := by
  by_cases h : a < b
  · rw [if_pos ((J_lt ha hb).mpr h), Int.max_eq_right (by omega)]
  · rw [if_neg (fun h' => h ((J_lt ha hb).mp h')), Int.max_eq_left (by omega)]
theorem J_min {a b : Int} (ha : InR a) (hb : InR b) : (if J b < J a then J b else J a) = J (min a b) := by
  by_cases h : b < a
  · rw [if_pos ((J_lt hb ha).mpr h), Int.min_eq_right (by omega)]
  · rw [if_neg (fun h' => h ((J_lt hb ha).mp h')), Int.min_eq_left (by omega)]
theorem jv_abs (hx : p.tables.exec = Jvm.exec) (hb : c.code = cc) (hown : s.vm.findClass own = some m.cls) (hml : c.maxLocals = nL) (hl : lv_has ls nL lv) (hts : ∀ w ∈ Ts, w.before args s = true) (hlink : Cond.methodLink own index Lib.Math.abs.name ∈ Ts) (hstat : Cond.static Lib.Math.abs.name ∈ Ts) (hini : Cond.initialized "java/lang/Math" ∈ Ts) (hcode : Cond.code Lib.Math.abs.name Lib.Math.abs.code 1 (some .int) ∈ Ts) (hf : 1 ≤ R.frames) (hlo : (rest.map fun v => v.category).sum + 13 ≤ R.locals) (hc : cells ≤ R.cells) (hs : slots ≤ R.slots) {z : Int} (hz : InR z) (hdg : decode cc pc = .ok (.invokestatic index, 3)) (kk : W p l e R s m args below meth c H locs cells slots Q (F0 m (pc + 3) ls (.int (J (if 0 ≤ z then z else 0 - z)) :: rest))) : W p l e R s m args below meth c H locs cells slots Q (F0 m pc ls (.int (J z) :: rest)) := va_mabs hx hb (by rw [hml]; exact hl.1.symm) hown (hts _ hlink) (hts _ hstat) (hts _ hini) (hts _ hcode) hf hlo hc hs hdg (by rw [J_abs hz]; exact kk)
theorem jv_max (hx : p.tables.exec = Jvm.exec) (hb : c.code = cc) (hown : s.vm.findClass own = some m.cls) (hml : c.maxLocals = nL) (hl : lv_has ls nL lv) (hts : ∀ w ∈ Ts, w.before args s = true) (hlink : Cond.methodLink own index Lib.Math.max.name ∈ Ts) (hstat : Cond.static Lib.Math.max.name ∈ Ts) (hini : Cond.initialized "java/lang/Math" ∈ Ts) (hcode : Cond.code Lib.Math.max.name Lib.Math.max.code 2 (some .int) ∈ Ts) (hf : 1 ≤ R.frames) (hlo : (rest.map fun v => v.category).sum + 13 ≤ R.locals) (hc : cells ≤ R.cells) (hs : slots ≤ R.slots) {x y : Int} (hz : InR x) (hw : InR y) (hdg : decode cc pc = .ok (.invokestatic index, 3)) (kk : W p l e R s m args below meth c H locs cells slots Q (F0 m (pc + 3) ls (.int (J (max x y)) :: rest))) : W p l e R s m args below meth c H locs cells slots Q (F0 m pc ls (.int (J y) :: .int (J x) :: rest)) := va_mmax hx hb (by rw [hml]; exact hl.1.symm) hown (hts _ hlink) (hts _ hstat) (hts _ hini) (hts _ hcode) hf hlo hc hs hdg (by rw [J_max hz hw]; exact kk)
theorem jv_min (hx : p.tables.exec = Jvm.exec) (hb : c.code = cc) (hown : s.vm.findClass own = some m.cls) (hml : c.maxLocals = nL) (hl : lv_has ls nL lv) (hts : ∀ w ∈ Ts, w.before args s = true) (hlink : Cond.methodLink own index Lib.Math.min.name ∈ Ts) (hstat : Cond.static Lib.Math.min.name ∈ Ts) (hini : Cond.initialized "java/lang/Math" ∈ Ts) (hcode : Cond.code Lib.Math.min.name Lib.Math.min.code 2 (some .int) ∈ Ts) (hf : 1 ≤ R.frames) (hlo : (rest.map fun v => v.category).sum + 13 ≤ R.locals) (hc : cells ≤ R.cells) (hs : slots ≤ R.slots) {x y : Int} (hz : InR x) (hw : InR y) (hdg : decode cc pc = .ok (.invokestatic index, 3)) (kk : W p l e R s m args below meth c H locs cells slots Q (F0 m (pc + 3) ls (.int (J (min x y)) :: rest))) : W p l e R s m args below meth c H locs cells slots Q (F0 m pc ls (.int (J y) :: .int (J x) :: rest)) := va_mmin hx hb (by rw [hml]; exact hl.1.symm) hown (hts _ hlink) (hts _ hstat) (hts _ hini) (hts _ hcode) hf hlo hc hs hdg (by rw [J_min hz hw]; exact kk)
end JRows
/-! ===== bits ===== -/
theorem J_and (a b : Nat) : J (a : Int) &&& J (b : Int) = J ((a &&& b : Nat) : Int) := by rw [J_nat, J_nat, J_nat]; exact fa_and a b
theorem J_or (a b : Nat) : J (a : Int) ||| J (b : Int) = J ((a ||| b : Nat) : Int) := by rw [J_nat, J_nat, J_nat]; exact fa_or a b
theorem J_xor (a b : Nat) : J (a : Int) ^^^ J (b : Int) = J ((a ^^^ b : Nat) : Int) := by rw [J_nat, J_nat, J_nat]; exact fb_xorI a b
theorem J_shl1 {k : Nat} (hk : k < 31) : J 1 <<< (J (k : Int) &&& 31) = J ((2 ^ k : Nat) : Int) := by
  have h : ∀ k : Nat, k < 31 → nI 1 <<< (nI k &&& 31) = nI (2 ^ k) := by decide +kernel
  rw [J_nat, J_nat]
  exact h k hk
theorem J_shr {m k : Nat} (hm : m < 2147483648) (hk : k < 31) : J (m : Int) >>> (J (k : Int) &&& 31) = J ((m / 2 ^ k : Nat) : Int) := by
  have h : ∀ k : Nat, k < 31 → (((nI k &&& 31).toBitVec.smod 32).toNat = k) := by decide +kernel
  rw [J_nat, J_nat, J_nat]
  exact pk_shrN (by omega) _ k (h k hk)
section BRows
variable {p : Program} {l : Launch} {e : Env} {R : Room} {s : State} {m : MethodId} {args : Array Value} {below : List Frame} {meth : Method} {c : Code} {H : Heap} {locs : List Loc} {cells slots : Nat} {Q : State → Prop} {cc : ByteArray} {pc : Nat} {ls : Array Slot} {rest : List Value}
theorem jv_ishl1 (hx : p.tables.exec = Jvm.exec) (hb : c.code = cc) (k : Nat) (hdg : decode cc pc = .ok (.ishl, 1)) (hk : k < 31) (kk : W p l e R s m args below meth c H locs cells slots Q (F0 m (pc + 1) ls (.int (J ((2 ^ k : Nat) : Int)) :: rest))) : W p l e R s m args below meth c H locs cells slots Q (F0 m pc ls (.int (J (k : Int)) :: .int (J 1) :: rest)) := lv_ishl hx hb hdg (by rw [J_shl1 hk]; exact kk)
theorem jv_ishr (hx : p.tables.exec = Jvm.exec) (hb : c.code = cc) (n k : Nat) (hdg : decode cc pc = .ok (.ishr, 1)) (hn : n < 2147483648) (hk : k < 31) (kk : W p l e R s m args below meth c H locs cells slots Q (F0 m (pc + 1) ls (.int (J ((n / 2 ^ k : Nat) : Int)) :: rest))) : W p l e R s m args below meth c H locs cells slots Q (F0 m pc ls (.int (J (k : Int)) :: .int (J (n : Int)) :: rest)) := lv_ishr hx hb hdg (by rw [J_shr hn hk]; exact kk)
theorem jv_iand (hx : p.tables.exec = Jvm.exec) (hb : c.code = cc) (a b : Nat) (hdg : decode cc pc = .ok (.iand, 1)) (kk : W p l e R s m args below meth c H locs cells slots Q (F0 m (pc + 1) ls (.int (J ((a &&& b : Nat) : Int)) :: rest))) : W p l e R s m args below meth c H locs cells slots Q (F0 m pc ls (.int (J (b : Int)) :: .int (J (a : Int)) :: rest)) := lv_iand hx hb hdg (by rw [J_and]; exact kk)
theorem jv_ior (hx : p.tables.exec = Jvm.exec) (hb : c.code = cc) (a b : Nat) (hdg : decode cc pc = .ok (.ior, 1)) (kk : W p l e R s m args below meth c H locs cells slots Q (F0 m (pc + 1) ls (.int (J ((a ||| b : Nat) : Int)) :: rest))) : W p l e R s m args below meth c H locs cells slots Q (F0 m pc ls (.int (J (b : Int)) :: .int (J (a : Int)) :: rest)) := lv_ior hx hb hdg (by rw [J_or]; exact kk)
theorem jv_ixor (hx : p.tables.exec = Jvm.exec) (hb : c.code = cc) (a b : Nat) (hdg : decode cc pc = .ok (.ixor, 1)) (kk : W p l e R s m args below meth c H locs cells slots Q (F0 m (pc + 1) ls (.int (J ((a ^^^ b : Nat) : Int)) :: rest))) : W p l e R s m args below meth c H locs cells slots Q (F0 m pc ls (.int (J (b : Int)) :: .int (J (a : Int)) :: rest)) := lv_ixor hx hb hdg (by rw [J_xor]; exact kk)
end BRows
/-! ===== a row read another way, a row copied ===== -/
theorem arrV_congr (cA : ClassId) {n : Nat} {f g : Nat → Value} (h : ∀ j, j < n → f j = g j) : arrV cA n f = arrV cA n g := by
  unfold arrV
  congr 1
  exact congrArg Array.ofFn (funext fun j => h j.val j.isLt)
theorem St.arr {κ : Kp} {A : Nat → Prop} {H0 H : Heap} {locs : List Loc} {ws ws' : va_W} (hW : St κ A H0 H locs ws) (q0 : Nat) {a : Nat} {cA : ClassId} {n : Nat} {f g : Nat → Int32} (ha : ws[q0]? = some (a, .inl (cA, n, .inl f))) (hfg : ∀ j, j < n → f j = g j) (hws : ws.set q0 (a, .inl (cA, n, .inl g)) = ws') : St κ A H0 H locs ws' := by
  subst hws
  refine ⟨hW.1.set hW.2.1 ha ?_ (fun _ _ => rfl), hW.2.1.set ha, hW.2.2⟩
  have h1 : H[a]? = some (vp_cell cA (n, .inl f)) := hW.1 q0 _ ha
  show H[a]? = some (vp_cell cA (n, .inl g))
  rw [h1, vp_cell_i, vp_cell_i, arrV_congr cA (fun j hj => by rw [hfg j hj])]
section CRows
variable {p : Program} {l : Launch} {e : Env} {R : Room} {s : State} {m : MethodId} {args : Array Value} {below : List Frame} {meth : Method} {c : Code} {H : Heap} {locs : List Loc} {cells slots : Nat} {Q : State → Prop} {cc : ByteArray} {pc : Nat} {ls : Array Slot} {rest : List Value} {κ : Kp} {A : Nat → Prop} {H0 : Heap} {ws ws' : va_W} {a a0 : Nat} {Ts : List Cond} {own : String} {index nL : Nat} {lv : List (Nat × Value)} {cA : ClassId} {ty : FieldType}
/-- a whole row copied over another one of the same length -/
theorem jv_copy (hx : p.tables.exec = Jvm.exec) (hb : c.code = cc) (hown : s.vm.findClass own = some m.cls) (hml : c.maxLocals = nL) (hl : lv_has ls nL lv) (hts : ∀ w ∈ Ts, w.before args s = true) (hlink : Cond.methodLink own index arraycopyName ∈ Ts) (hnat : Cond.native arraycopyName ∈ Ts) (hstat : Cond.static arraycopyName ∈ Ts) (hini : Cond.initialized "java/lang/System" ∈ Ts)
    (hK : Kx κ s) (hW : St κ A H0 H locs ws) (q0 q1 t0 : Nat) {f g : Nat → Int} {n : Nat} (ha0 : ws[q0]? = some (a0, .inl (cA, n, .inl fun k => J (f k)))) (ha1 : ws[q1]? = some (a, .inl (cA, n, .inl fun k => J (g k)))) (ht0 : (kT κ)[t0]? = some (cA, ty)) (hprim : refKind ty = false) (hn : n < 2147483648) (hfit : ∀ i, i < n → fits ty (.int (J (f i))) = true)
    (hf : 1 ≤ R.frames) (hlo : (rest.map fun v => v.category).sum + (nativeFrameWords "java/lang/System" "arraycopy" 5 + 11) ≤ R.locals) (hws : ws.set q1 (a, .inl (cA, n, .inl fun k => J (f k))) = ws') (hdg : decode cc pc = .ok (.invokestatic index, 3))
    (kk : ∀ (H1 : Heap) (locs1 : List Loc), St κ A H0 H1 locs1 ws' → W p l e R s m args below meth c H1 locs1 cells slots Q (F0 m (pc + 3) ls rest)) : W p l e R s m args below meth c H locs cells slots Q (F0 m pc ls (.int (J (n : Int)) :: .int (J 0) :: .ref a :: .int (J 0) :: .ref a0 :: rest)) := by
  have e0 : (J 0).toNatClampNeg = 0 := J_clamp (i := 0) rfl (by decide)
  have en : (J (n : Int)).toNatClampNeg = n := J_clamp rfl hn
  refine va_copyi hx hb (by rw [hml]; exact hl.1.symm) hown (hts _ hlink) (hts _ hnat) (hts _ hstat) (hts _ hini) hK.1 hW.1 hW.2.1 hW.2.2 q0 q1 t0 t0 ha0 ha1 ht0 ht0 hprim (by decide) (by decide) (by rw [J_lt0 ⟨by omega, by omega⟩]; omega) (by rw [e0, en]; omega) (by rw [e0, en]; omega) (fun i hi => by rw [e0, Nat.zero_add]; rw [en] at hi; exact hfit i hi) hf hlo hdg (fun H1 locs1 h1 h2 h3 => ?_)
  rw [e0, en] at h1 h2
  have hl1 : q1 < ws.length := (List.getElem?_eq_some_iff.mp ha1).1
  refine kk H1 locs1 (St.arr (ws := ws.set q1 (a, .inl (cA, n, .inl (va_cpy (fun k => J (f k)) (fun k => J (g k)) 0 0 n)))) ⟨h1, h2, h3⟩ q1 (f := va_cpy (fun k => J (f k)) (fun k => J (g k)) 0 0 n) (g := fun k => J (f k)) (a := a) (cA := cA) (n := n) (by rw [List.getElem?_set_self hl1]) (fun j hj => by rw [pk_cpy_in (Nat.zero_le j) (by omega)]; simp) (by rw [List.set_set]; exact hws))
end CRows
end
section
/-! ===== what the document says, over the state ===== -/
def nn (σ : Sg) : Nat := (σ 5 3).toNat
def sn (σ : Sg) (p : Nat) : Bool := decide (0 < σ 1 p ∧ σ 3 p = 0)
def stp (a b : Int) : Int := (if 0 ≤ a - b then a - b else 0 - (a - b)) % 12
def ac (a b : Int) : Bool := decide (stp a b = 0 ∨ stp a b = 3 ∨ stp a b = 4 ∨ stp a b = 5 ∨ stp a b = 7 ∨ stp a b = 8 ∨ stp a b = 9)
/-- the pot o is another one, sounds, and clashes with the pitch v -/
def clp (σ : Sg) (p : Nat) (v : Int) (o : Nat) : Bool := decide (o ≠ p) && (sn σ o && !ac v (σ 0 o))
def ca (σ : Sg) (p : Nat) (v : Int) : Nat := fb_ct (clp σ p v) (nn σ)
def cs (σ : Sg) (p : Nat) : Nat := if sn σ p then ca σ p (σ 0 p) else 0
def cc2 (σ : Sg) : Nat := fb_sm (cs σ) (nn σ)
def ccl (σ : Sg) : Int := (cc2 σ : Int) / 2
def ns (σ : Sg) : Nat := fb_ct (sn σ) (nn σ)
def hm (σ : Sg) : Int := (ns σ : Int) * ((ns σ : Int) - 1) / 2 - 2 * ccl σ
def ic (σ : Sg) : Bool := decide (3 ≤ (ns σ : Int) ∧ ccl σ = 0)
def snp (σ : Sg) (t : Int) (p : Nat) : Bool := decide (σ 4 p = t) && sn σ p
/-- every number of a choir is in its range -/
def Inv (σ : Sg) : Prop := (0 ≤ σ 5 3 ∧ σ 5 3 ≤ 10) ∧ 0 ≤ σ 5 0 ∧ 0 ≤ σ 5 1 ∧ (0 ≤ σ 5 2 ∧ σ 5 2 ≤ 1) ∧
  ∀ p, p < 10 → (0 ≤ σ 0 p ∧ σ 0 p ≤ 35) ∧ (0 ≤ σ 1 p ∧ σ 1 p ≤ 20) ∧ (0 ≤ σ 2 p ∧ σ 2 p ≤ 9) ∧ (0 ≤ σ 3 p ∧ σ 3 p ≤ 1) ∧ (0 ≤ σ 4 p ∧ σ 4 p ≤ 3)
theorem Inv.hN {σ : Sg} (h : Inv σ) : σ 5 3 = (nn σ : Int) := by have := h.1; unfold nn; omega
theorem Inv.n10 {σ : Sg} (h : Inv σ) : nn σ ≤ 10 := by have := h.1; unfold nn; omega
theorem Inv.at {σ : Sg} (h : Inv σ) (p : Nat) (hp : p < 10) : (0 ≤ σ 0 p ∧ σ 0 p ≤ 35) ∧ (0 ≤ σ 1 p ∧ σ 1 p ≤ 20) ∧ (0 ≤ σ 2 p ∧ σ 2 p ≤ 9) ∧ (0 ≤ σ 3 p ∧ σ 3 p ≤ 1) ∧ (0 ≤ σ 4 p ∧ σ 4 p ≤ 3) := h.2.2.2.2 p hp
theorem J_t {b : Bool} (h : b = true) : J 1 = J (bi b) := by rw [h]; rfl
theorem J_f {b : Bool} (h : b = false) : J 0 = J (bi b) := by rw [h]; rfl
theorem zr_b (b : Bool) : narrow .boolean (.int (J (bi b))) = .int (J (bi b)) := by cases b <;> decide
theorem zf_b (b : Bool) : fits .boolean (.int (J (bi b))) = true := by cases b <;> decide
theorem ns_le (σ : Sg) : ns σ ≤ nn σ := fb_ct_le _ _
theorem ca_le (σ : Sg) (p : Nat) (v : Int) : ca σ p v ≤ nn σ := fb_ct_le _ _
theorem cs_le (σ : Sg) (p : Nat) : cs σ p ≤ nn σ := by
  unfold cs
  by_cases h : sn σ p = true
  · rw [if_pos h]; exact ca_le _ _ _
  · rw [if_neg h]; exact Nat.zero_le _
theorem cc2_le {σ : Sg} (h : nn σ ≤ 10) : cc2 σ ≤ 100 := by
  have h1 : fb_sm (cs σ) (nn σ) ≤ nn σ * nn σ := fb_sm_bound (fun k _ => cs_le σ k)
  have h2 : nn σ * nn σ ≤ 10 * 10 := Nat.mul_le_mul h h
  unfold cc2
  omega
theorem tri_b {n : Nat} (h : n ≤ 10) : 0 ≤ (n : Int) * ((n : Int) - 1) ∧ (n : Int) * ((n : Int) - 1) ≤ 90 := by
  have : ∀ n : Nat, n ≤ 10 → 0 ≤ (n : Int) * ((n : Int) - 1) ∧ (n : Int) * ((n : Int) - 1) ≤ 90 := by decide
  exact this n h
/-! changes keep the ranges -/
theorem upi_in {g : Nat → Int} {p q : Nat} {v lo hi : Int} (hv : lo ≤ v ∧ v ≤ hi) (h : lo ≤ g q ∧ g q ≤ hi) : lo ≤ upi g p v q ∧ upi g p v q ≤ hi := by
  unfold upi
  by_cases e : q = p
  · rw [if_pos e]; exact hv
  · rw [if_neg e]; exact h
theorem Inv.u0 {σ : Sg} (h : Inv σ) {p : Nat} {v : Int} (hv : 0 ≤ v ∧ v ≤ 35) : Inv (up σ 0 p v) := ⟨h.1, h.2.1, h.2.2.1, h.2.2.2.1, fun q hq => ⟨upi_in hv (h.at q hq).1, (h.at q hq).2⟩⟩
theorem Inv.u1 {σ : Sg} (h : Inv σ) {p : Nat} {v : Int} (hv : 0 ≤ v ∧ v ≤ 20) : Inv (up σ 1 p v) := ⟨h.1, h.2.1, h.2.2.1, h.2.2.2.1, fun q hq => ⟨(h.at q hq).1, upi_in hv (h.at q hq).2.1, (h.at q hq).2.2⟩⟩
theorem Inv.u2 {σ : Sg} (h : Inv σ) {p : Nat} {v : Int} (hv : 0 ≤ v ∧ v ≤ 9) : Inv (up σ 2 p v) := ⟨h.1, h.2.1, h.2.2.1, h.2.2.2.1, fun q hq => ⟨(h.at q hq).1, (h.at q hq).2.1, upi_in hv (h.at q hq).2.2.1, (h.at q hq).2.2.2⟩⟩
theorem Inv.u3 {σ : Sg} (h : Inv σ) {p : Nat} {v : Int} (hv : 0 ≤ v ∧ v ≤ 1) : Inv (up σ 3 p v) := ⟨h.1, h.2.1, h.2.2.1, h.2.2.2.1, fun q hq => ⟨(h.at q hq).1, (h.at q hq).2.1, (h.at q hq).2.2.1, upi_in hv (h.at q hq).2.2.2.1, (h.at q hq).2.2.2.2⟩⟩
theorem Inv.u4 {σ : Sg} (h : Inv σ) {p : Nat} {v : Int} (hv : 0 ≤ v ∧ v ≤ 3) : Inv (up σ 4 p v) := ⟨h.1, h.2.1, h.2.2.1, h.2.2.2.1, fun q hq => ⟨(h.at q hq).1, (h.at q hq).2.1, (h.at q hq).2.2.1, (h.at q hq).2.2.2.1, upi_in hv (h.at q hq).2.2.2.2⟩⟩
theorem Inv.u50 {σ : Sg} (h : Inv σ) {v : Int} (hv : 0 ≤ v) : Inv (up σ 5 0 v) := ⟨h.1, hv, h.2.2.1, h.2.2.2.1, h.2.2.2.2⟩
theorem Inv.u51 {σ : Sg} (h : Inv σ) {v : Int} (hv : 0 ≤ v) : Inv (up σ 5 1 v) := ⟨h.1, h.2.1, hv, h.2.2.2.1, h.2.2.2.2⟩
theorem Inv.u52 {σ : Sg} (h : Inv σ) {v : Int} (hv : 0 ≤ v ∧ v ≤ 1) : Inv (up σ 5 2 v) := ⟨h.1, h.2.1, h.2.2.1, hv, h.2.2.2.2⟩
theorem Inv.u53 {σ : Sg} (h : Inv σ) {v : Int} (hv : 0 ≤ v ∧ v ≤ 10) : Inv (up σ 5 3 v) := ⟨hv, h.2.1, h.2.2.1, h.2.2.2.1, h.2.2.2.2⟩
theorem up_id (σ : Sg) (f i : Nat) : up σ f i (σ f i) = σ := by
  funext g k
  unfold up upi
  by_cases h : g = f
  · subst h
    rw [if_pos rfl]
    by_cases e : k = i
    · subst e; rw [if_pos rfl]
    · rw [if_neg e]
  · rw [if_neg h]
theorem up_same {σ : Sg} {f i : Nat} {v : Int} (h : v = σ f i) : up σ f i v = σ := by rw [h]; exact up_id σ f i
/-! the one who clashes with the most -/
def fv (σ : Sg) (i : Nat) : Int := if sn σ i then (ca σ i (σ 0 i) : Int) else -1
def fmr (σ : Sg) : Nat → Int × Int
  | 0 => (-1, -1)
  | i + 1 => if (fmr σ i).2 < fv σ i then ((i : Int), fv σ i) else fmr σ i
def fm (σ : Sg) : Int := (fmr σ (nn σ)).1
theorem fmr_y {σ : Sg} {i : Nat} {x y v : Int} (q : fmr σ i = (x, y)) (hv : fv σ i = v) (h : y < v) : fmr σ (i + 1) = ((i : Int), v) := by
  show (if (fmr σ i).2 < fv σ i then ((i : Int), fv σ i) else fmr σ i) = _
  rw [q, hv, if_pos h]
theorem fmr_n {σ : Sg} {i : Nat} {x y v : Int} (q : fmr σ i = (x, y)) (hv : fv σ i = v) (h : ¬ y < v) : fmr σ (i + 1) = (x, y) := by
  show (if (fmr σ i).2 < fv σ i then ((i : Int), fv σ i) else fmr σ i) = _
  rw [q, hv, if_neg h]
/-! the lowest one -/
def flr (σ : Sg) : Nat → Int × Int
  | 0 => (-1, 36)
  | i + 1 => if sn σ i = true ∧ σ 0 i < (flr σ i).2 then ((i : Int), σ 0 i) else flr σ i
def fl (σ : Sg) : Int := (flr σ (nn σ)).1
theorem flr_y {σ : Sg} {i : Nat} {x y : Int} (q : flr σ i = (x, y)) (h : sn σ i = true) (h2 : σ 0 i < y) : flr σ (i + 1) = ((i : Int), σ 0 i) := by
  show (if sn σ i = true ∧ σ 0 i < (flr σ i).2 then ((i : Int), σ 0 i) else flr σ i) = _
  rw [q, if_pos ⟨h, h2⟩]
theorem flr_n {σ : Sg} {i : Nat} {x y : Int} (q : flr σ i = (x, y)) (h : ¬ (sn σ i = true ∧ σ 0 i < y)) : flr σ (i + 1) = (x, y) := by
  show (if sn σ i = true ∧ σ 0 i < (flr σ i).2 then ((i : Int), σ 0 i) else flr σ i) = _
  rw [q, if_neg h]
/-! the best tuning -/
abbrev iab (z : Int) : Int := if 0 ≤ z then z else 0 - z
def ftr (σ : Sg) (p : Nat) : Nat → Int × Int
  | 0 => (0, (ca σ p (σ 0 p) : Int))
  | k + 1 => if (0 ≤ σ 0 p + ((k : Int) - 12) ∧ σ 0 p + ((k : Int) - 12) ≤ 35) ∧ ((ca σ p (σ 0 p + ((k : Int) - 12)) : Int) < (ftr σ p k).2 ∨ ((ca σ p (σ 0 p + ((k : Int) - 12)) : Int) = (ftr σ p k).2 ∧ iab ((k : Int) - 12) ≤ iab (ftr σ p k).1)) then ((k : Int) - 12, (ca σ p (σ 0 p + ((k : Int) - 12)) : Int)) else ftr σ p k
def ft (σ : Sg) (p : Nat) : Int := (ftr σ p 25).1
theorem ftr_y {σ : Sg} {p k : Nat} {x y b : Int} (hb : b = (k : Int) - 12) (q : ftr σ p k = (x, y)) (h1 : 0 ≤ σ 0 p + b ∧ σ 0 p + b ≤ 35) (h2 : (ca σ p (σ 0 p + b) : Int) < y ∨ ((ca σ p (σ 0 p + b) : Int) = y ∧ iab b ≤ iab x)) : ftr σ p (k + 1) = (b, (ca σ p (σ 0 p + b) : Int)) := by
  subst hb
  unfold ftr
  rw [q, if_pos ⟨h1, h2⟩]
theorem ftr_n {σ : Sg} {p k : Nat} {x y b : Int} (hb : b = (k : Int) - 12) (q : ftr σ p k = (x, y)) (h : ¬ ((0 ≤ σ 0 p + b ∧ σ 0 p + b ≤ 35) ∧ ((ca σ p (σ 0 p + b) : Int) < y ∨ ((ca σ p (σ 0 p + b) : Int) = y ∧ iab b ≤ iab x)))) : ftr σ p (k + 1) = (x, y) := by
  subst hb
  unfold ftr
  rw [q, if_neg h]
/-! a beat -/
def wte (σ : Sg) (p : Nat) : Int := max 0 (σ 1 p - 1 - σ 2 p / 3)
def wcr (σ : Sg) (p : Nat) : Int := if 24 ≤ σ 0 p ∧ σ 5 0 % 4 = 0 then min 9 (σ 2 p + 1) else σ 2 p
def wpi (σ : Sg) (p : Nat) : Int := if 5 ≤ wcr σ p then max 0 (σ 0 p - 1) else σ 0 p
def wear (σ : Sg) (p : Nat) : Sg := up (up (up σ 1 p (wte σ p)) 2 p (wcr σ p)) 0 p (wpi σ p)
theorem wear_tt {σ : Sg} {p : Nat} (h1 : 24 ≤ σ 0 p ∧ σ 5 0 % 4 = 0) (h2 : 5 ≤ min 9 (σ 2 p + 1)) : wear σ p = up (up (up σ 1 p (max 0 (σ 1 p - 1 - σ 2 p / 3))) 2 p (min 9 (σ 2 p + 1))) 0 p (max 0 (σ 0 p - 1)) := by
  unfold wear wpi wcr wte
  rw [if_pos h1, if_pos h2]
theorem wear_tf {σ : Sg} {p : Nat} (h1 : 24 ≤ σ 0 p ∧ σ 5 0 % 4 = 0) (h2 : ¬ 5 ≤ min 9 (σ 2 p + 1)) : wear σ p = up (up σ 1 p (max 0 (σ 1 p - 1 - σ 2 p / 3))) 2 p (min 9 (σ 2 p + 1)) := by
  unfold wear wpi wcr wte
  rw [if_pos h1, if_neg h2]
  exact up_same rfl
theorem wear_ft {σ : Sg} {p : Nat} (h1 : ¬ (24 ≤ σ 0 p ∧ σ 5 0 % 4 = 0)) (h2 : 5 ≤ σ 2 p) : wear σ p = up (up σ 1 p (max 0 (σ 1 p - 1 - σ 2 p / 3))) 0 p (max 0 (σ 0 p - 1)) := by
  unfold wear wpi wcr wte
  rw [if_neg h1, if_pos h2, up_same (σ := up σ 1 p (max 0 (σ 1 p - 1 - σ 2 p / 3))) (f := 2) (i := p) (v := σ 2 p) rfl]
theorem wear_ff {σ : Sg} {p : Nat} (h1 : ¬ (24 ≤ σ 0 p ∧ σ 5 0 % 4 = 0)) (h2 : ¬ 5 ≤ σ 2 p) : wear σ p = up σ 1 p (max 0 (σ 1 p - 1 - σ 2 p / 3)) := by
  unfold wear wpi wcr wte
  rw [if_neg h1, if_neg h2, up_same (σ := up σ 1 p (max 0 (σ 1 p - 1 - σ 2 p / 3))) (f := 2) (i := p) (v := σ 2 p) rfl]
  exact up_same rfl
theorem Inv.hwear {σ : Sg} (h : Inv σ) {p : Nat} (hp : p < 10) : Inv (wear σ p) := by
  have hb := h.at p hp
  have h1 : 0 ≤ wte σ p ∧ wte σ p ≤ 20 := by unfold wte; omega
  have h2 : 0 ≤ wcr σ p ∧ wcr σ p ≤ 9 := by unfold wcr; split <;> omega
  have h3 : 0 ≤ wpi σ p ∧ wpi σ p ≤ 35 := by unfold wpi; split <;> omega
  exact ((h.u1 h1).u2 h2).u0 h3
def ps (σ : Sg) (i : Nat) : Sg := if sn σ i = true then wear σ i else if σ 3 i = 1 ∧ σ 5 0 % 3 = 0 then up σ 2 i (max 0 (σ 2 i - 1)) else σ
def lp (σ : Sg) : Nat → Sg
  | 0 => σ
  | i + 1 => ps (lp σ i) i
theorem lp_sn {σ : Sg} {i : Nat} (h : sn (lp σ i) i = true) : lp σ (i + 1) = wear (lp σ i) i := by
  show ps (lp σ i) i = _
  unfold ps
  rw [if_pos h]
theorem lp_co {σ : Sg} {i : Nat} (h : sn (lp σ i) i = false) (h2 : lp σ i 3 i = 1) (h3 : lp σ i 5 0 % 3 = 0) : lp σ (i + 1) = up (lp σ i) 2 i (max 0 (lp σ i 2 i - 1)) := by
  show ps (lp σ i) i = _
  unfold ps
  rw [if_neg (by rw [h]; decide), if_pos ⟨h2, h3⟩]
theorem lp_no {σ : Sg} {i : Nat} (h : sn (lp σ i) i = false) (h2 : ¬ (lp σ i 3 i = 1 ∧ lp σ i 5 0 % 3 = 0)) : lp σ (i + 1) = lp σ i := by
  show ps (lp σ i) i = _
  unfold ps
  rw [if_neg (by rw [h]; decide), if_neg h2]
theorem ps_5 (σ : Sg) (i : Nat) : ps σ i 5 = σ 5 := by
  unfold ps
  by_cases h : sn σ i = true
  · rw [if_pos h]; rfl
  · rw [if_neg h]
    by_cases h2 : σ 3 i = 1 ∧ σ 5 0 % 3 = 0
    · rw [if_pos h2]; rfl
    · rw [if_neg h2]
theorem lp_5 (σ : Sg) : ∀ i, lp σ i 5 = σ 5
  | 0 => rfl
  | i + 1 => (ps_5 _ _).trans (lp_5 σ i)
theorem Inv.hps {σ : Sg} (h : Inv σ) {i : Nat} (hi : i < 10) : Inv (ps σ i) := by
  show Inv (if sn σ i = true then wear σ i else if σ 3 i = 1 ∧ σ 5 0 % 3 = 0 then up σ 2 i (max 0 (σ 2 i - 1)) else σ)
  have hb := h.at i hi
  by_cases h1 : sn σ i = true
  · rw [if_pos h1]; exact h.hwear hi
  · rw [if_neg h1]
    by_cases h2 : σ 3 i = 1 ∧ σ 5 0 % 3 = 0
    · rw [if_pos h2]; exact h.u2 (by omega)
    · rw [if_neg h2]; exact h
theorem Inv.hlp {σ : Sg} (h : Inv σ) : ∀ {i : Nat}, i ≤ 10 → Inv (lp σ i)
  | 0, _ => h
  | i + 1, hi => (Inv.hlp h (i := i) (by omega)).hps (by omega)
/-- is there a cadence as this beat begins -/
def cadb (σ : Sg) : Bool := decide (σ 5 2 = 1) && ic σ
def pb0 (σ : Sg) : Sg := up (up σ 5 1 (σ 5 1 + bi (cadb σ))) 5 2 (bi (decide (0 < ccl σ)))
def pb (σ : Sg) : Sg := up (lp (pb0 σ) (nn σ)) 5 0 (σ 5 0 + 1)
theorem Inv.hpb0 {σ : Sg} (h : Inv σ) : Inv (pb0 σ) := (h.u51 (by have := bi_rng (cadb σ); have := h.2.2.1; omega)).u52 (bi_rng _)
theorem Inv.hpb {σ : Sg} (h : Inv σ) : Inv (pb σ) := (h.hpb0.hlp h.n10).u50 (by have := h.2.1; omega)
theorem pb_50 (σ : Sg) : pb σ 5 0 = σ 5 0 + 1 := rfl
theorem pb_51 (σ : Sg) : pb σ 5 1 = σ 5 1 + bi (cadb σ) := by
  show lp (pb0 σ) (nn σ) 5 1 = _
  rw [lp_5]
  rfl
theorem pb_53 (σ : Sg) : pb σ 5 3 = σ 5 3 := by
  show lp (pb0 σ) (nn σ) 5 3 = _
  rw [lp_5]
  rfl
def pbn (σ : Sg) : Nat → Sg
  | 0 => σ
  | i + 1 => pb (pbn σ i)
theorem Inv.hpbn {σ : Sg} (h : Inv σ) : ∀ i, Inv (pbn σ i)
  | 0 => h
  | i + 1 => (Inv.hpbn h i).hpb
theorem pbn_50 (σ : Sg) : ∀ i : Nat, pbn σ i 5 0 = σ 5 0 + i
  | 0 => by show σ 5 0 = σ 5 0 + 0; omega
  | i + 1 => by show pb (pbn σ i) 5 0 = _; rw [pb_50, pbn_50 σ i]; omega
theorem pbn_51 (σ : Sg) : ∀ i : Nat, σ 5 1 ≤ pbn σ i 5 1 ∧ pbn σ i 5 1 ≤ σ 5 1 + i
  | 0 => by show σ 5 1 ≤ σ 5 1 ∧ σ 5 1 ≤ σ 5 1 + 0; omega
  | i + 1 => by show σ 5 1 ≤ pb (pbn σ i) 5 1 ∧ pb (pbn σ i) 5 1 ≤ _; have h1 := pbn_51 σ i; have h2 := bi_rng (cadb (pbn σ i)); rw [pb_51]; omega
theorem zf_01 {z : Int} (h : 0 ≤ z ∧ z ≤ 1) : fits .boolean (.int (J z)) = true := by
  rcases (show z = 0 ∨ z = 1 by omega) with e | e <;> subst e <;> decide
/-- a state by its rows -/
def mkS (r0 r1 r2 r3 r4 : Nat → Int) (b c d n : Int) : Sg := fun f => match f with
  | 0 => r0
  | 1 => r1
  | 2 => r2
  | 3 => r3
  | 4 => r4
  | _ => fun k => if k = 0 then b else if k = 1 then c else if k = 2 then d else n
theorem ccl_rng {σ : Sg} (h : nn σ ≤ 10) : 0 ≤ ccl σ ∧ ccl σ ≤ 50 := by
  have := cc2_le h
  unfold ccl
  omega
theorem pb_eq (σ : Sg) : pb σ = up (lp (pb0 σ) (nn σ)) 5 0 (lp (pb0 σ) (nn σ) 5 0 + 1) := by
  show up (lp (pb0 σ) (nn σ)) 5 0 (σ 5 0 + 1) = _
  rw [show lp (pb0 σ) (nn σ) 5 0 = σ 5 0 by rw [lp_5]; rfl]
end
section
/-! ===== new rows and objects ===== -/
theorem kI_of {κ : Kp} {s : State} {cA : ClassId} (hK : Kx κ s) (h : va_RA s cA .int) : cA = kI κ := by
  have h1 : s.vm.findClass _ = some (kI κ) := (hK.1.2 0 (kI κ, .int) rfl).2
  exact Option.some.inj (h.symm.trans h1)
theorem kZ_of {κ : Kp} {s : State} {cA : ClassId} (hK : Kx κ s) (h : va_RA s cA .boolean) : cA = kZ κ := by
  have h1 : s.vm.findClass _ = some (kZ κ) := (hK.1.2 1 (kZ κ, .boolean) rfl).2
  exact Option.some.inj (h.symm.trans h1)
theorem kL_of {κ : Kp} {s : State} {cA : ClassId} (hK : Kx κ s) (h : va_RA s cA .long) : cA = kL κ := by
  have h1 : s.vm.findClass _ = some (kL κ) := (hK.1.2 2 (kL κ, .long) rfl).2
  exact Option.some.inj (h.symm.trans h1)
/-- a row alone -/
abbrev WA (κ : Kp) (q n : Nat) (g : Nat → Int) : va_W := [(q, .inl (kI κ, n, .inl fun k => J (g k)))]
abbrev WZ (κ : Kp) (q n : Nat) (g : Nat → Int) : va_W := [(q, .inl (kZ κ, n, .inl fun k => J (g k)))]
abbrev WL (κ : Kp) (q : Nat) (g : Nat → Int64) : va_W := [(q, .inl (kL κ, 1, .inr (.inl g)))]
abbrev WX (κ : Kp) (x : Nat) (a a2 : Nat → Nat) : va_W := [(x, .inr (1, [.ref (a 0), .ref (a2 0)]))]
section NRows
variable {p : Program} {l : Launch} {e : Env} {R : Room} {s : State} {m : MethodId} {args : Array Value} {below : List Frame} {meth : Method} {c : Code} {H : Heap} {locs : List Loc} {cells slots : Nat} {Q : State → Prop} {cc : ByteArray} {pc : Nat} {ls : Array Slot} {rest : List Value} {κ : Kp} {A : Nat → Prop} {H0 : Heap} {ws ws' : va_W} {Ts : List Cond} {own : String} {index : Nat}
theorem jv_newi (hx : p.tables.exec = Jvm.exec) (hb : c.code = cc) (hts : ∀ w ∈ Ts, w.before args s = true) (harr : Cond.arrayClass .int ∈ Ts) (hK : Kx κ s) (hW : St κ A H0 H locs ws) (hA : ∀ q, H0.size ≤ q → A q) (n : Nat) (hn : n < 1000) (k k2 : Nat) (hk : cells + 1 ≤ k) (hk2 : slots + n ≤ k2) (hcells : k ≤ R.cells) (hslots : k2 ≤ R.slots) (hdg : decode cc pc = .ok (.newarray .int, 2))
    (kk : ∀ (q : Nat) (H1 : Heap), St κ A H0 H1 locs (ws ++ WA κ q n (fun _ => 0)) → W p l e R s m args below meth c H1 locs k k2 Q (F0 m (pc + 2) ls (.ref q :: rest))) : W p l e R s m args below meth c H locs cells slots Q (F0 m pc ls (.int (J (n : Int)) :: rest)) := by
  refine va_newa (atype := .int) (ty := .int) hx hb (hts _ harr) rfl hK.1 hW.1 hW.2.1 hW.2.2 hA (n := J (n : Int)) (N' := n) (a0 := (n, .inl fun _ => J 0)) (fun cA => rfl) (by rw [J_lt0 ⟨by omega, by omega⟩]; omega) (J_clamp rfl (by omega)) (by show n * 4 ≤ _; omega) (Nat.le_trans hk hcells) (Nat.le_trans hk2 hslots) hdg (fun q cA H1 h0 h1 h2 h3 => W.widen hk hk2 ?_)
  have e : cA = kI κ := kI_of hK (h0.2 3 (cA, .int) rfl).2
  subst e
  exact kk q H1 ⟨h1, h2, h3⟩
theorem jv_newz (hx : p.tables.exec = Jvm.exec) (hb : c.code = cc) (hts : ∀ w ∈ Ts, w.before args s = true) (harr : Cond.arrayClass .boolean ∈ Ts) (hK : Kx κ s) (hW : St κ A H0 H locs ws) (hA : ∀ q, H0.size ≤ q → A q) (n : Nat) (hn : n < 1000) (k k2 : Nat) (hk : cells + 1 ≤ k) (hk2 : slots + n ≤ k2) (hcells : k ≤ R.cells) (hslots : k2 ≤ R.slots) (hdg : decode cc pc = .ok (.newarray .boolean, 2))
    (kk : ∀ (q : Nat) (H1 : Heap), St κ A H0 H1 locs (ws ++ WZ κ q n (fun _ => 0)) → W p l e R s m args below meth c H1 locs k k2 Q (F0 m (pc + 2) ls (.ref q :: rest))) : W p l e R s m args below meth c H locs cells slots Q (F0 m pc ls (.int (J (n : Int)) :: rest)) := by
  refine va_newa (atype := .boolean) (ty := .boolean) hx hb (hts _ harr) rfl hK.1 hW.1 hW.2.1 hW.2.2 hA (n := J (n : Int)) (N' := n) (a0 := (n, .inl fun _ => J 0)) (fun cA => rfl) (by rw [J_lt0 ⟨by omega, by omega⟩]; omega) (J_clamp rfl (by omega)) (by show n * 1 ≤ _; omega) (Nat.le_trans hk hcells) (Nat.le_trans hk2 hslots) hdg (fun q cA H1 h0 h1 h2 h3 => W.widen hk hk2 ?_)
  have e : cA = kZ κ := kZ_of hK (h0.2 3 (cA, .boolean) rfl).2
  subst e
  exact kk q H1 ⟨h1, h2, h3⟩
theorem jv_newl (hx : p.tables.exec = Jvm.exec) (hb : c.code = cc) (hts : ∀ w ∈ Ts, w.before args s = true) (harr : Cond.arrayClass .long ∈ Ts) (hK : Kx κ s) (hW : St κ A H0 H locs ws) (hA : ∀ q, H0.size ≤ q → A q) (k k2 : Nat) (hk : cells + 1 ≤ k) (hk2 : slots + 1 ≤ k2) (hcells : k ≤ R.cells) (hslots : k2 ≤ R.slots) (hdg : decode cc pc = .ok (.newarray .long, 2))
    (kk : ∀ (q : Nat) (H1 : Heap), St κ A H0 H1 locs (ws ++ WL κ q (fun _ => 0)) → W p l e R s m args below meth c H1 locs k k2 Q (F0 m (pc + 2) ls (.ref q :: rest))) : W p l e R s m args below meth c H locs cells slots Q (F0 m pc ls (.int (J 1) :: rest)) := by
  refine va_newa (atype := .long) (ty := .long) hx hb (hts _ harr) rfl hK.1 hW.1 hW.2.1 hW.2.2 hA (n := J 1) (N' := 1) (a0 := (1, .inr (.inl fun _ => 0))) (fun cA => rfl) (by decide) (by decide) (by decide) (Nat.le_trans hk hcells) (Nat.le_trans hk2 hslots) hdg (fun q cA H1 h0 h1 h2 h3 => W.widen hk hk2 ?_)
  have e : cA = kL κ := kL_of hK (h0.2 3 (cA, .long) rfl).2
  subst e
  exact kk q H1 ⟨h1, h2, h3⟩
theorem jv_new (hx : p.tables.exec = Jvm.exec) (hb : c.code = cc) {C : String} {T : u_T} {N ci : Nat} (hts : ∀ w ∈ Ts, w.before args s = true) (hin : ∀ w ∈ u_ws C T N, w ∈ Ts) (ty : Nat → FieldType) (hty : ∀ k, k < N → parseFieldDescriptor (T k).2.2.1 = some (ty k)) (hown : s.vm.findClass own = some m.cls) (hcl : Cond.classLink own index C ∈ Ts) (hinst : Cond.instantiable C N ∈ Ts) (hini : Cond.initialized C ∈ Ts)
    (hK : Kx κ s) (hW : St κ A H0 H locs ws) (hA : ∀ q, H0.size ≤ q → A q) (hc : vwCl[ci]? = some (C, T, N)) (fs : List Value) (hfs : (List.range N).all (fun j => decide (defaultValue (ty j) = vp_V fs j)) = true) (k k2 : Nat) (hk : cells + 1 ≤ k) (hk2 : slots + N ≤ k2) (hcells : k ≤ R.cells) (hslots : k2 ≤ R.slots) (hdg : decode cc pc = .ok (.new index, 3))
    (kk : ∀ (q : Nat) (H1 : Heap), St κ A H0 H1 locs (ws ++ [(q, .inr (ci, fs))]) → W p l e R s m args below meth c H1 locs k k2 Q (F0 m (pc + 3) ls (.ref q :: rest))) : W p l e R s m args below meth c H locs cells slots Q (F0 m pc ls rest) :=
  va_new hx hb hts hin ty hty hown (hts _ hcl) (hts _ hinst) (hts _ hini) hK.1 hW.1 hW.2.1 hW.2.2 hA hc (fun j hj => of_decide_eq_true (List.all_eq_true.mp hfs j (List.mem_range.mpr hj))) (Nat.le_trans hk hcells) (Nat.le_trans hk2 hslots) hdg (fun q H1 h1 h2 h3 => W.widen hk hk2 (kk q H1 ⟨h1, h2, h3⟩))
end NRows
theorem St.sub {κ : Kp} {A : Nat → Prop} {H0 H : Heap} {locs : List Loc} {ws ws' : va_W} (hW : St κ A H0 H locs ws) (pm : List Nat) (hn : va_nd pm = true) (h : pm.map (fun i => ws[i]?) = ws'.map some) : St κ A H0 H locs ws' := ⟨hW.1.sub pm (fm_of h), hW.2.1.sub pm hn h, hW.2.2⟩
/-- the state of a new choir -/
def zs : Sg := fun _ _ => 0
theorem Inv_zs : Inv zs := ⟨by decide, by decide, by decide, by decide, fun p _ => by
  show (0 ≤ (0 : Int) ∧ (0 : Int) ≤ 35) ∧ (0 ≤ (0 : Int) ∧ (0 : Int) ≤ 20) ∧ (0 ≤ (0 : Int) ∧ (0 : Int) ≤ 9) ∧ (0 ≤ (0 : Int) ∧ (0 : Int) ≤ 1) ∧ (0 ≤ (0 : Int) ∧ (0 : Int) ≤ 3)
  decide⟩
/-! ===== bits of a group ===== -/
/-- how many of the first ten bits are set -/
def pcn (m : Nat) : Nat := fb_ct (fun k => m.testBit k) 10
/-- what the JDK's bitCount computes -/
def bcf (x : Int32) : Int32 :=
  let u := fun (x y : Int32) => (x.toUInt32 >>> (y.toUInt32 &&& Int32.toUInt32 31)).toInt32
  let x1 := x - (u x (J 1) &&& (1431655765 : Int32))
  let x2 := (x1 &&& (858993459 : Int32)) + (u x1 (J 2) &&& (858993459 : Int32))
  let x3 := (x2 + u x2 (J 4)) &&& (252645135 : Int32)
  let x4 := x3 + u x3 (J 8)
  let x5 := x4 + u x4 (J 16)
  x5 &&& J 63
theorem bcf_ok : ∀ m : Nat, m < 1024 → bcf (nI m) = nI (pcn m) := by decide +kernel
/-- the bits of those below n that are so -/
def bm (f : Nat → Bool) : Nat → Nat
  | 0 => 0
  | n + 1 => bm f n + if f n then 2 ^ n else 0
theorem bm_lt (f : Nat → Bool) : ∀ n, bm f n < 2 ^ n
  | 0 => by show 0 < 2 ^ 0; decide
  | n + 1 => by
    have h := bm_lt f n
    show bm f n + (if f n then 2 ^ n else 0) < 2 ^ (n + 1)
    rw [Nat.pow_succ]
    split <;> omega
theorem bm_or (f : Nat → Bool) (n : Nat) (h : f n = true) : bm f n ||| 2 ^ n = bm f (n + 1) := by
  show _ = bm f n + (if f n then 2 ^ n else 0)
  have e := Nat.two_pow_add_eq_or_of_lt (bm_lt f n) 1
  rw [Nat.mul_one] at e
  rw [if_pos h, Nat.or_comm, ← e, Nat.add_comm]
theorem bm_no (f : Nat → Bool) (n : Nat) (h : f n = false) : bm f (n + 1) = bm f n := by
  show bm f n + (if f n then 2 ^ n else 0) = bm f n
  rw [h]
  rfl
theorem bm_bit (f : Nat → Bool) : ∀ n i, (bm f n).testBit i = (decide (i < n) && f i)
  | 0, i => by simp [bm]
  | n + 1, i => by
    cases hf : f n with
    | false =>
      rw [bm_no f n hf, bm_bit f n i]
      by_cases h : i = n
      · subst h; simp [hf]
      · have : decide (i < n) = decide (i < n + 1) := by by_cases h2 : i < n <;> simp [h2] <;> omega
        rw [this]
    | true =>
      rw [← bm_or f n hf, Nat.testBit_or, bm_bit f n i, Nat.testBit_two_pow]
      by_cases h : n = i
      · subst h; simp [hf]
      · have : decide (i < n) = decide (i < n + 1) := by by_cases h2 : i < n <;> simp [h2] <;> omega
        simp [this, h]
theorem bm_1024 (f : Nat → Bool) {n : Nat} (h : n ≤ 10) : bm f n < 1024 := Nat.lt_of_lt_of_le (bm_lt f n) (Nat.pow_le_pow_right (n := 2) (by decide) h)
theorem bit_mod (m k : Nat) : (m / 2 ^ k) &&& 1 = if m.testBit k then 1 else 0 := by
  rw [Nat.and_one_is_mod, Nat.testBit_eq_decide_div_mod_eq]
  have := Nat.mod_two_eq_zero_or_one (m / 2 ^ k)
  rcases this with h | h <;> simp [h]
/-! ===== the greatest accord, by groups ===== -/
/-- the pots that can't be in one accord with p, p itself if it does not sound -/
def bar (σ : Sg) (p : Nat) : Nat := if sn σ p = true then bm (fun o => !ac (σ 0 p) (σ 0 o)) (nn σ) else 2 ^ p
theorem bar_lt {σ : Sg} (h : nn σ ≤ 10) {p : Nat} (hp : p < 10) : bar σ p < 1024 := by
  unfold bar
  split
  · exact bm_1024 _ h
  · exact Nat.pow_lt_pow_right (by decide) hp
def gok (σ : Sg) (m : Nat) : Bool := decide (∀ p, p < nn σ → m.testBit p = true → m &&& bar σ p = 0)
def gar (σ : Sg) : Nat → Nat
  | 0 => 0
  | m + 1 => if gar σ m < pcn m ∧ gok σ m = true then pcn m else gar σ m
def ga (σ : Sg) : Nat := gar σ (2 ^ nn σ)
theorem gar_y {σ : Sg} {m : Nat} (h : gar σ m < pcn m) (h2 : gok σ m = true) : gar σ (m + 1) = pcn m := if_pos ⟨h, h2⟩
theorem gar_n {σ : Sg} {m : Nat} (h : ¬ (gar σ m < pcn m ∧ gok σ m = true)) : gar σ (m + 1) = gar σ m := if_neg h
theorem pcn_le (m : Nat) : pcn m ≤ 10 := fb_ct_le _ _
theorem pcn_0 : pcn 0 = 0 := by decide
theorem gar_le (σ : Sg) : ∀ m, gar σ m ≤ 10
  | 0 => Nat.zero_le _
  | m + 1 => by
    by_cases h : gar σ m < pcn m ∧ gok σ m = true
    · rw [gar_y h.1 h.2]; exact pcn_le m
    · rw [gar_n h]; exact gar_le σ m
/-! ===== the mean pitch ===== -/
def psum (σ : Sg) : Nat → Int
  | 0 => 0
  | i + 1 => psum σ i + if sn σ i then σ 0 i else 0
theorem psum_rng {σ : Sg} (h : Inv σ) : ∀ i : Nat, i ≤ 10 → 0 ≤ psum σ i ∧ psum σ i ≤ 35 * i
  | 0, _ => by show (0 : Int) ≤ 0 ∧ (0 : Int) ≤ 35 * 0; omega
  | i + 1, hi => by
    have h1 := psum_rng h i (by omega)
    have h2 := h.at i (by omega)
    show 0 ≤ psum σ i + (if sn σ i then σ 0 i else 0) ∧ psum σ i + (if sn σ i then σ 0 i else 0) ≤ _
    split <;> omega
def mp (σ : Sg) : UInt64 := if ns σ = 0 then FP.dconst0 else FP.ddiv (FP.i2d (J (psum σ (nn σ)))) (FP.i2d (J (ns σ : Int)))
theorem dd_ok : ∀ a : Nat, a < 351 → ∀ b : Nat, b < 10 → vf_n64 (FP.ddiv (FP.i2d (nI a)) (FP.i2d (nI (b + 1)))) := by
  unfold vf_n64
  decide +kernel
theorem bar_upi (σ : Sg) (br : Nat → Int) (i : Nat) : (fun k => if k < i + 1 then (bar σ k : Int) else br k) = upi (fun k => if k < i then (bar σ k : Int) else br k) i (bar σ i : Int) := by
  funext k
  show (if k < i + 1 then (bar σ k : Int) else br k) = if k = i then (bar σ i : Int) else if k < i then (bar σ k : Int) else br k
  by_cases h : k = i
  · subst h; rw [if_pos rfl, if_pos (Nat.lt_succ_self k)]
  · rw [if_neg h]
    by_cases h2 : k < i
    · rw [if_pos h2, if_pos (by omega)]
    · rw [if_neg h2, if_neg (by omega)]
/-! ===== what would be ===== -/
theorem first_eq {p : Nat → Bool} {n i : Nat} (h : ∀ j, j < i → p j = false) (hi : i ≤ n) (hp : i = n ∨ p i = true) : fa_first p n = i := by
  have h1 := fa_first_le p n
  rcases Nat.lt_trichotomy (fa_first p n) i with q | q | q
  · have h2 : p (fa_first p n) = false := h _ q
    have h3 := fa_first_yes p n (by omega)
    rw [h2] at h3
    cases h3
  · exact q
  · have h2 := fa_first_no p n i q
    rcases hp with hp | hp
    · omega
    · rw [h2] at hp
      cases hp
def su (σ : Sg) : Nat := fa_first (fun j => decide (ns (pbn σ j) = 0)) 20
def uc (σ : Sg) : Int := if fa_first (fun j => cadb (pbn σ j)) 60 < 60 then (fa_first (fun j => cadb (pbn σ j)) 60 : Int) + 1 else -1
def hst (σ : Sg) : Int := if 0 < ccl σ then fm σ else -1
def cof (σ : Sg) (p : Nat) : Int := if sn σ p = true then (ca σ p (σ 0 p) : Int) else 0
def btu (σ : Sg) (p : Nat) : Int := if sn σ p = true then ft σ p else 0
def dstep (d : Int64) (x : Int) : Int64 := d * 31 + (J x).toInt64
def dpt (σ : Sg) (d : Int64) (p : Nat) : Int64 := dstep (dstep (dstep (dstep (dstep (dstep (dstep d (σ 4 p)) (σ 0 p)) (σ 1 p)) (σ 2 p)) (bi (sn σ p))) (cof σ p)) (btu σ p)
def dl (σ : Sg) (d : Int64) : Nat → Int64
  | 0 => d
  | i + 1 => dpt σ (dl σ d i) i
def dg0 (σ : Sg) : Int64 := dstep (dstep (dstep (dstep (dstep (dstep (dstep (dstep (dstep (dstep (dstep (dstep (dstep 2087 (σ 5 3)) (σ 5 0)) (ns σ : Int)) (hm σ)) (ccl σ)) (hst σ)) (fl σ)) (bi (ic σ))) (σ 5 1)) (fm σ)) (su σ : Int)) (uc σ)) (ga σ : Int)
def dg (σ : Sg) : Int64 := dl σ (dg0 σ) (nn σ)
theorem pbn_cad (σ : Sg) (i : Nat) : pbn σ (i + 1) 5 1 = pbn σ i 5 1 + bi (cadb (pbn σ i)) := pb_51 _
def ptea (σ : Sg) (p q : Nat) (t : Int) : Int := min t (min (σ 1 p) (20 - σ 1 q))
end
section
/-! ===== methods that throw ===== -/
abbrev eIO : String := "java/lang/IndexOutOfBoundsException"
abbrev eIA : String := "java/lang/IllegalArgumentException"
abbrev eIS : String := "java/lang/IllegalStateException"
abbrev eUp : List String := ["java/lang/RuntimeException", "java/lang/Exception"]
def Bx (E : String) : List Cond := [.declares (Bundle.initS "java/lang/RuntimeException"), .declares (Bundle.initS "java/lang/Exception"), .declares (Bundle.initS Bundle.tN), .castable E E]
def Nx (U : State) : Prop := va_Nw (.declares (Bundle.initS "java/lang/RuntimeException")) U ∧ va_Nw (.declares (Bundle.initS "java/lang/Exception")) U ∧ va_Nw (.declares (Bundle.initS Bundle.tN)) U ∧ va_Nw (.castable eIO eIO) U ∧ va_Nw (.castable eIA eIA) U ∧ va_Nw (.castable eIS eIS) U
theorem Nx.warm {s U : State} (hW : s.WarmedH U.vm) (h : Nx s) : Nx U := ⟨va_Nw.warmD hW h.1, va_Nw.warmD hW h.2.1, va_Nw.warmD hW h.2.2.1, va_Nw.warmC hW h.2.2.2.1, va_Nw.warmC hW h.2.2.2.2.1, va_Nw.warmC hW h.2.2.2.2.2⟩
theorem Nx.bx {s : State} {args : Array Value} (h : Nx s) {E : String} (hE : E = eIO ∨ E = eIA ∨ E = eIS) : ∀ w ∈ Bx E, w.before args s = true := by
  have hc : va_Nw (.castable E E) s := by
    rcases hE with e | e | e <;> subst e
    · exact h.2.2.2.1
    · exact h.2.2.2.2.1
    · exact h.2.2.2.2.2
  intro w hw
  rcases List.mem_cons.mp hw with e | hw
  · rw [e]; exact va_Nw.use rfl h.1
  rcases List.mem_cons.mp hw with e | hw
  · rw [e]; exact va_Nw.use rfl h.2.1
  rcases List.mem_cons.mp hw with e | hw
  · rw [e]; exact va_Nw.use rfl h.2.2.1
  rcases List.mem_cons.mp hw with e | hw
  · rw [e]; exact va_Nw.use rfl hc
  · exact absurd hw List.not_mem_nil
def Sx (U : State) : Prop := (∃ q : Nat, vk_R RX1 29 "there are 10 teapots" q U) ∧ (∃ q : Nat, vk_R RX1 52 "a pot can't be poured into itself" q U) ∧ (∃ q : Nat, vk_R RX1 82 "no such part" q U) ∧ (∃ q : Nat, vk_R RX1 207 "no such teapot" q U) ∧ (∃ q : Nat, vk_R RX1 209 "a number is out of its range" q U)
theorem Sx.warm {s U : State} (hW : s.WarmedH U.vm) (h : Sx s) : Sx U := ⟨h.1.elim fun q hq => ⟨q, vk_R.warm hW hq⟩, h.2.1.elim fun q hq => ⟨q, vk_R.warm hW hq⟩, h.2.2.1.elim fun q hq => ⟨q, vk_R.warm hW hq⟩, h.2.2.2.1.elim fun q hq => ⟨q, vk_R.warm hW hq⟩, h.2.2.2.2.elim fun q hq => ⟨q, vk_R.warm hW hq⟩⟩
theorem Sx.same {u U : State} (hv : U.vm = u.vm) (h : Sx u) : Sx U := ⟨h.1.elim fun q hq => ⟨q, vk_R.same hv hq⟩, h.2.1.elim fun q hq => ⟨q, vk_R.same hv hq⟩, h.2.2.1.elim fun q hq => ⟨q, vk_R.same hv hq⟩, h.2.2.2.1.elim fun q hq => ⟨q, vk_R.same hv hq⟩, h.2.2.2.2.elim fun q hq => ⟨q, vk_R.same hv hq⟩⟩
theorem Sx.s0 {U : State} (h : Sx U) : ∃ q : Nat, vk_R RX1 29 "there are 10 teapots" q U := h.1
theorem Sx.s1 {U : State} (h : Sx U) : ∃ q : Nat, vk_R RX1 52 "a pot can't be poured into itself" q U := h.2.1
theorem Sx.s2 {U : State} (h : Sx U) : ∃ q : Nat, vk_R RX1 82 "no such part" q U := h.2.2.1
theorem Sx.s3 {U : State} (h : Sx U) : ∃ q : Nat, vk_R RX1 207 "no such teapot" q U := h.2.2.2.1
theorem Sx.s4 {U : State} (h : Sx U) : ∃ q : Nat, vk_R RX1 209 "a number is out of its range" q U := h.2.2.2.2
def Tk (A : Nat → Prop) (U : State) (H : Heap) : Prop := (vx_Zq Bundle.tN "UNASSIGNED_STACK" Bundle.steD A U H ∧ vx_Zq Bundle.tN "SUPPRESSED_SENTINEL" Bundle.listD A U H) ∧ Nx U ∧ Sx U
theorem Tk.to {A B : Nat → Prop} {s U : State} {H : Heap} {locs : List Loc} (h : Tk A s s.heap) (hS : va_S A s.heap H locs) (hAB : ∀ q, B q → A q) (hU : U.heap = H) (hW : s.WarmedH U.vm) : Tk B U U.heap := by
  rw [hU]
  exact ⟨⟨((h.1.1.kept (fun q h1 h2 => hS.2.1 q h1 h2)).narrow hAB).moved hW.alike, ((h.1.2.kept (fun q h1 h2 => hS.2.1 q h1 h2)).narrow hAB).moved hW.alike⟩, h.2.1.warm hW, h.2.2.warm hW⟩
def PreT (κ : Kp) (as : List Value) (W0 : va_W) (sz : Nat) : Array Value → State → Prop := fun a U => PreC κ as W0 sz a U ∧ Tk (va_A W0 sz) U U.heap
theorem PreT.blind {κ : Kp} {as : List Value} {W0 : va_W} {sz : Nat} : FrameBlind (PreT κ as W0 sz) := fun a U g mk q => ⟨PreC.blind a U g mk q.1, ⟨⟨vx_Zq.moved (u := U) (U := U.calling g mk a) (Vm.Alike.refl U.vm) q.2.1.1, vx_Zq.moved (u := U) (U := U.calling g mk a) (Vm.Alike.refl U.vm) q.2.1.2⟩,
  ⟨va_Nw.same (u := U) (U := U.calling g mk a) rfl rfl q.2.2.1.1, va_Nw.same (u := U) (U := U.calling g mk a) rfl rfl q.2.2.1.2.1, va_Nw.same (u := U) (U := U.calling g mk a) rfl rfl q.2.2.1.2.2.1, va_Nw.same (u := U) (U := U.calling g mk a) rfl rfl q.2.2.1.2.2.2.1, va_Nw.same (u := U) (U := U.calling g mk a) rfl rfl q.2.2.1.2.2.2.2.1, va_Nw.same (u := U) (U := U.calling g mk a) rfl rfl q.2.2.1.2.2.2.2.2⟩, Sx.same (u := U) (U := U.calling g mk a) rfl q.2.2.2⟩⟩
def XQ (κ : Kp) (W0 : va_W) (A : Nat → Prop) (X : String → Prop) : String → State → State → Prop := vx_X (fun _ : Unit => True) (fun E _ t => X E ∧ PW κ W0 A t) A
def TGi {S : Type} (l : Launch) (y : MethodName) (wl : List Cond) (rm : Room) (κ : Kp) (as : List Value) (W0 : va_W) (X : String → Prop) (post : Int32 → S → Prop) (W1 : S → va_W) : Prop :=
  ∀ sz, vx_Met l y wl rm (PreT κ as W0 sz) (va_Qi post (fun u => PW κ (W1 u) (va_A W0 sz)) (va_A W0 sz)) (XQ κ W0 (va_A W0 sz) X) rm.cells rm.slots (va_A W0 sz)
def TGv {S : Type} (l : Launch) (y : MethodName) (wl : List Cond) (rm : Room) (κ : Kp) (as : List Value) (W0 : va_W) (X : String → Prop) (post : S → Prop) (W1 : S → va_W) : Prop :=
  ∀ sz, vx_Met l y wl rm (PreT κ as W0 sz) (va_Qv post (fun u => PW κ (W1 u) (va_A W0 sz)) (va_A W0 sz)) (XQ κ W0 (va_A W0 sz) X) rm.cells rm.slots (va_A W0 sz)
def TGl {S : Type} (l : Launch) (y : MethodName) (wl : List Cond) (rm : Room) (κ : Kp) (as : List Value) (W0 : va_W) (X : String → Prop) (post : Int64 → S → Prop) (W1 : S → va_W) : Prop :=
  ∀ sz, vx_Met l y wl rm (PreT κ as W0 sz) (va_Ql post (fun u => PW κ (W1 u) (va_A W0 sz)) (va_A W0 sz)) (XQ κ W0 (va_A W0 sz) X) rm.cells rm.slots (va_A W0 sz)
section EntriesT
variable {l : Launch} {y : MethodName} {wl wl' : List Cond} {rm : Room} {κ : Kp} {as : List Value} {W0 : va_W} {cc : ByteArray} {maxL : Nat}
theorem entry_ti {S : Type} {X : String → Prop} {post : Int32 → S → Prop} {W1 : S → va_W} (hst : l.stackTraces = false) (hy : plainName y.cls = true) (hw : wl = Cond.code y cc maxL (some .int) :: wl') (hlen : (lg_sl as).length ≤ maxL)
    (body : ∀ (P : Program) (e : Env) (s : State) (m : MethodId) (args : Array Value) (below : List Frame) (meth : Method) (c : Code) (ls : Array Slot) (A : Nat → Prop) (Q : State → Prop), CallFix P m c cc maxL s args wl y.cls → (y.name = "<init>" → meth.name = "<init>") → Kx κ s → Tk A s s.heap → (∀ q, s.heap.size ≤ q → A q) →
      (∀ (u : S) {H : Heap} {locs : List Loc} {ls : Array Slot} {pc cells slots : Nat} {r : Int32}, St κ A s.heap H locs (W1 u) → decode cc pc = .ok (.ireturn, 1) → cells ≤ rm.cells → slots ≤ rm.slots → post r u → W P l e rm s m args below meth c H locs cells slots Q (F0 m pc ls [.int r])) →
      (∀ (E : String) {H : Heap} {locs : List Loc} {ls : Array Slot} {lv : List (Nat × Value)} {rest : List Value} {pc cells slots ik ist ic : Nat} {text : String}, St κ A s.heap H locs W0 → X E → (E = eIO ∨ E = eIA ∨ E = eIS) → lv_has ls maxL lv → Bundle.fit E = true → Cond.classLink y.cls ik E ∈ wl → Cond.initialized E ∈ wl → (∀ w ∈ (vx_atS y.cls ic E eUp).filter goodWord, w ∈ wl) → (∀ w ∈ (vx_atS y.cls ic E eUp).filter (fun w => !goodWord w), w ∈ Bx E) → (∀ w ∈ Cond.classLink y.cls ik E :: Cond.initialized E :: vx_atS y.cls ic E eUp, vx_ot w = true) → (∃ q : Nat, vk_R y.cls ist text q s) →
        decode cc pc = .ok (.new ik, 3) → decode cc (pc + 3) = .ok (.dup, 1) → decode cc (pc + 4) = .ok (.ldc ist, 2) → decode cc (pc + 6) = .ok (.invokespecial ic, 3) → decode cc (pc + 9) = .ok (.athrow, 1) → 5 < rm.frames → (rest.map fun v => v.category).sum + 82 ≤ rm.locals → cells + 1 ≤ rm.cells → slots + 6 ≤ rm.slots → W P l e rm s m args below meth c H locs cells slots Q (F0 m pc ls rest)) →
      (∀ {E : String} {ce : Cell} {q9 : Addr} {H : Heap} {locs : List Loc} {ls : Array Slot} {rest : List Value} {pc cells slots : Nat}, St κ A s.heap H locs W0 → X E → H[q9]? = some ce → ce.vm = .none → s.vm.findClass E = some ce.cls → cells ≤ rm.cells → slots ≤ rm.slots → vx_W P l e rm s m args below meth c H locs cells slots Q (F0 m pc ls rest) q9) →
      St κ A s.heap s.heap [] W0 → lv_has ls maxL (lv_args 0 as) → W P l e rm s m args below meth c s.heap [] 0 0 Q (F0 m 0 ls [])) : TGi l y wl rm κ as W0 X post W1 := by
  intro sz
  refine vx_ofW (cc := cc) (maxL := maxL) (ret := (some .int)) hy hw ?_
  intro p e s m args below meth c s₁ B hml htab hv
  obtain ⟨⟨rfl, hsz, hP, hK, hD0⟩, hT⟩ := hv
  subst hsz
  have hown : s.vm.findClass y.cls = some m.cls := findClass_of_methodNamed B.named
  have hname : meth.name = y.name := (name_of_methodNamed B.named B.method).1
  have hl := lv_entry as (n := maxL) hlen
  have hts := atoms_spec (ws := wl) B.pre
  rw [lg_entry_eq]
  refine body p e s m as.toArray below meth c _ _ _ ⟨B.exec, B.bytes, hml, hown, hts⟩ (fun h => hname.trans h) hK hT (fun q h => Or.inr h) ?_ ?_ ?_ ⟨hP, hD0.self, va_S.rf⟩ hl
  · intro u _ _ _ _ _ _ _ h1 h2 h3 h4 h5
    exact vx_ret (ret_i u B.exec B.bytes B.returns B.notSynchronized h1 h2 h3 h4 h5)
  · intro E H locs ls lv rest pc cells slots ik ist ic text hW hX hE hls hfit hcl hini hg hbd hot hstr d0 d3 d4 d6 d9 hf hlo hc hs
    obtain ⟨q, hq⟩ := hstr
    exact vx_throwS (names := eUp) B.exec B.bytes hst hown hfit (by decide) (hts _ hcl) (hts _ hini) hq (vx_hat (fun w h => hts w (hg w h)) hbd (hT.2.1.bx hE)) hot hT.1.1 hT.1.2 hW.2.2 (by rw [hls.1, hml]) d0 d3 d4 d6 d9 (fun x hx => (htab x hx).elim) hf hlo hc hs B.notSynchronized
      (fun t _ hz ho => ⟨(), trivial, ⟨hX, hW.1.kept (fun k q hk => ho q.1 ((hW.1 k q hk).lt)), hW.2.1⟩, Nat.le_trans hW.2.2.1 hz, fun q h1 h2 => (ho q (Nat.lt_of_lt_of_le h1 hW.2.2.1)).trans (hW.2.2.2.1 q h1 h2)⟩) hW.2.2.2.2 hc hs
  · intro E ce q9 H locs ls rest pc cells slots hW hX h1 h2 h3 hc hs
    exact vx_out (fun x hx => (htab x hx).elim) B.notSynchronized h1 h2 h3 (fun t ht _ => ⟨(), trivial, ⟨hX, by rw [ht]; exact hW.1, hW.2.1⟩, hW.2.2.F ht⟩) hW.2.2.2.2 hc hs
theorem entry_tz {S : Type} {X : String → Prop} {post : Int32 → S → Prop} {W1 : S → va_W} (hst : l.stackTraces = false) (hy : plainName y.cls = true) (hw : wl = Cond.code y cc maxL (some .boolean) :: wl') (hlen : (lg_sl as).length ≤ maxL)
    (body : ∀ (P : Program) (e : Env) (s : State) (m : MethodId) (args : Array Value) (below : List Frame) (meth : Method) (c : Code) (ls : Array Slot) (A : Nat → Prop) (Q : State → Prop), CallFix P m c cc maxL s args wl y.cls → (y.name = "<init>" → meth.name = "<init>") → Kx κ s → Tk A s s.heap → (∀ q, s.heap.size ≤ q → A q) →
      (∀ (u : S) {H : Heap} {locs : List Loc} {ls : Array Slot} {pc cells slots : Nat} {r : Int32}, St κ A s.heap H locs (W1 u) → decode cc pc = .ok (.ireturn, 1) → cells ≤ rm.cells → slots ≤ rm.slots → narrow .boolean (.int r) = .int r → post r u → W P l e rm s m args below meth c H locs cells slots Q (F0 m pc ls [.int r])) →
      (∀ (E : String) {H : Heap} {locs : List Loc} {ls : Array Slot} {lv : List (Nat × Value)} {rest : List Value} {pc cells slots ik ist ic : Nat} {text : String}, St κ A s.heap H locs W0 → X E → (E = eIO ∨ E = eIA ∨ E = eIS) → lv_has ls maxL lv → Bundle.fit E = true → Cond.classLink y.cls ik E ∈ wl → Cond.initialized E ∈ wl → (∀ w ∈ (vx_atS y.cls ic E eUp).filter goodWord, w ∈ wl) → (∀ w ∈ (vx_atS y.cls ic E eUp).filter (fun w => !goodWord w), w ∈ Bx E) → (∀ w ∈ Cond.classLink y.cls ik E :: Cond.initialized E :: vx_atS y.cls ic E eUp, vx_ot w = true) → (∃ q : Nat, vk_R y.cls ist text q s) →
        decode cc pc = .ok (.new ik, 3) → decode cc (pc + 3) = .ok (.dup, 1) → decode cc (pc + 4) = .ok (.ldc ist, 2) → decode cc (pc + 6) = .ok (.invokespecial ic, 3) → decode cc (pc + 9) = .ok (.athrow, 1) → 5 < rm.frames → (rest.map fun v => v.category).sum + 82 ≤ rm.locals → cells + 1 ≤ rm.cells → slots + 6 ≤ rm.slots → W P l e rm s m args below meth c H locs cells slots Q (F0 m pc ls rest)) →
      (∀ {E : String} {ce : Cell} {q9 : Addr} {H : Heap} {locs : List Loc} {ls : Array Slot} {rest : List Value} {pc cells slots : Nat}, St κ A s.heap H locs W0 → X E → H[q9]? = some ce → ce.vm = .none → s.vm.findClass E = some ce.cls → cells ≤ rm.cells → slots ≤ rm.slots → vx_W P l e rm s m args below meth c H locs cells slots Q (F0 m pc ls rest) q9) →
      St κ A s.heap s.heap [] W0 → lv_has ls maxL (lv_args 0 as) → W P l e rm s m args below meth c s.heap [] 0 0 Q (F0 m 0 ls [])) : TGi l y wl rm κ as W0 X post W1 := by
  intro sz
  refine vx_ofW (cc := cc) (maxL := maxL) (ret := (some .boolean)) hy hw ?_
  intro p e s m args below meth c s₁ B hml htab hv
  obtain ⟨⟨rfl, hsz, hP, hK, hD0⟩, hT⟩ := hv
  subst hsz
  have hown : s.vm.findClass y.cls = some m.cls := findClass_of_methodNamed B.named
  have hname : meth.name = y.name := (name_of_methodNamed B.named B.method).1
  have hl := lv_entry as (n := maxL) hlen
  have hts := atoms_spec (ws := wl) B.pre
  rw [lg_entry_eq]
  refine body p e s m as.toArray below meth c _ _ _ ⟨B.exec, B.bytes, hml, hown, hts⟩ (fun h => hname.trans h) hK hT (fun q h => Or.inr h) ?_ ?_ ?_ ⟨hP, hD0.self, va_S.rf⟩ hl
  · intro u _ _ _ _ _ _ _ h1 h2 h3 h4 hz h5
    exact vx_ret (ret_z u B.exec B.bytes B.returns B.notSynchronized h1 h2 h3 h4 hz h5)
  · intro E H locs ls lv rest pc cells slots ik ist ic text hW hX hE hls hfit hcl hini hg hbd hot hstr d0 d3 d4 d6 d9 hf hlo hc hs
    obtain ⟨q, hq⟩ := hstr
    exact vx_throwS (names := eUp) B.exec B.bytes hst hown hfit (by decide) (hts _ hcl) (hts _ hini) hq (vx_hat (fun w h => hts w (hg w h)) hbd (hT.2.1.bx hE)) hot hT.1.1 hT.1.2 hW.2.2 (by rw [hls.1, hml]) d0 d3 d4 d6 d9 (fun x hx => (htab x hx).elim) hf hlo hc hs B.notSynchronized
      (fun t _ hz ho => ⟨(), trivial, ⟨hX, hW.1.kept (fun k q hk => ho q.1 ((hW.1 k q hk).lt)), hW.2.1⟩, Nat.le_trans hW.2.2.1 hz, fun q h1 h2 => (ho q (Nat.lt_of_lt_of_le h1 hW.2.2.1)).trans (hW.2.2.2.1 q h1 h2)⟩) hW.2.2.2.2 hc hs
  · intro E ce q9 H locs ls rest pc cells slots hW hX h1 h2 h3 hc hs
    exact vx_out (fun x hx => (htab x hx).elim) B.notSynchronized h1 h2 h3 (fun t ht _ => ⟨(), trivial, ⟨hX, by rw [ht]; exact hW.1, hW.2.1⟩, hW.2.2.F ht⟩) hW.2.2.2.2 hc hs
theorem entry_tv {S : Type} {X : String → Prop} {post : S → Prop} {W1 : S → va_W} (hst : l.stackTraces = false) (hy : plainName y.cls = true) (hw : wl = Cond.code y cc maxL none :: wl') (hlen : (lg_sl as).length ≤ maxL)
    (body : ∀ (P : Program) (e : Env) (s : State) (m : MethodId) (args : Array Value) (below : List Frame) (meth : Method) (c : Code) (ls : Array Slot) (A : Nat → Prop) (Q : State → Prop), CallFix P m c cc maxL s args wl y.cls → (y.name = "<init>" → meth.name = "<init>") → Kx κ s → Tk A s s.heap → (∀ q, s.heap.size ≤ q → A q) →
      (∀ (u : S) {H : Heap} {locs : List Loc} {ls : Array Slot} {pc cells slots : Nat}, St κ A s.heap H locs (W1 u) → decode cc pc = .ok (.return_, 1) → cells ≤ rm.cells → slots ≤ rm.slots → post u → W P l e rm s m args below meth c H locs cells slots Q (F0 m pc ls [])) →
      (∀ (E : String) {H : Heap} {locs : List Loc} {ls : Array Slot} {lv : List (Nat × Value)} {rest : List Value} {pc cells slots ik ist ic : Nat} {text : String}, St κ A s.heap H locs W0 → X E → (E = eIO ∨ E = eIA ∨ E = eIS) → lv_has ls maxL lv → Bundle.fit E = true → Cond.classLink y.cls ik E ∈ wl → Cond.initialized E ∈ wl → (∀ w ∈ (vx_atS y.cls ic E eUp).filter goodWord, w ∈ wl) → (∀ w ∈ (vx_atS y.cls ic E eUp).filter (fun w => !goodWord w), w ∈ Bx E) → (∀ w ∈ Cond.classLink y.cls ik E :: Cond.initialized E :: vx_atS y.cls ic E eUp, vx_ot w = true) → (∃ q : Nat, vk_R y.cls ist text q s) →
        decode cc pc = .ok (.new ik, 3) → decode cc (pc + 3) = .ok (.dup, 1) → decode cc (pc + 4) = .ok (.ldc ist, 2) → decode cc (pc + 6) = .ok (.invokespecial ic, 3) → decode cc (pc + 9) = .ok (.athrow, 1) → 5 < rm.frames → (rest.map fun v => v.category).sum + 82 ≤ rm.locals → cells + 1 ≤ rm.cells → slots + 6 ≤ rm.slots → W P l e rm s m args below meth c H locs cells slots Q (F0 m pc ls rest)) →
      (∀ {E : String} {ce : Cell} {q9 : Addr} {H : Heap} {locs : List Loc} {ls : Array Slot} {rest : List Value} {pc cells slots : Nat}, St κ A s.heap H locs W0 → X E → H[q9]? = some ce → ce.vm = .none → s.vm.findClass E = some ce.cls → cells ≤ rm.cells → slots ≤ rm.slots → vx_W P l e rm s m args below meth c H locs cells slots Q (F0 m pc ls rest) q9) →
      St κ A s.heap s.heap [] W0 → lv_has ls maxL (lv_args 0 as) → W P l e rm s m args below meth c s.heap [] 0 0 Q (F0 m 0 ls [])) : TGv l y wl rm κ as W0 X post W1 := by
  intro sz
  refine vx_ofW (cc := cc) (maxL := maxL) (ret := none) hy hw ?_
  intro p e s m args below meth c s₁ B hml htab hv
  obtain ⟨⟨rfl, hsz, hP, hK, hD0⟩, hT⟩ := hv
  subst hsz
  have hown : s.vm.findClass y.cls = some m.cls := findClass_of_methodNamed B.named
  have hname : meth.name = y.name := (name_of_methodNamed B.named B.method).1
  have hl := lv_entry as (n := maxL) hlen
  have hts := atoms_spec (ws := wl) B.pre
  rw [lg_entry_eq]
  refine body p e s m as.toArray below meth c _ _ _ ⟨B.exec, B.bytes, hml, hown, hts⟩ (fun h => hname.trans h) hK hT (fun q h => Or.inr h) ?_ ?_ ?_ ⟨hP, hD0.self, va_S.rf⟩ hl
  · intro u _ _ _ _ _ _ h1 h2 h3 h4 h5
    exact vx_ret (ret_v u B.exec B.bytes B.returns B.notSynchronized h1 h2 h3 h4 h5)
  · intro E H locs ls lv rest pc cells slots ik ist ic text hW hX hE hls hfit hcl hini hg hbd hot hstr d0 d3 d4 d6 d9 hf hlo hc hs
    obtain ⟨q, hq⟩ := hstr
    exact vx_throwS (names := eUp) B.exec B.bytes hst hown hfit (by decide) (hts _ hcl) (hts _ hini) hq (vx_hat (fun w h => hts w (hg w h)) hbd (hT.2.1.bx hE)) hot hT.1.1 hT.1.2 hW.2.2 (by rw [hls.1, hml]) d0 d3 d4 d6 d9 (fun x hx => (htab x hx).elim) hf hlo hc hs B.notSynchronized
      (fun t _ hz ho => ⟨(), trivial, ⟨hX, hW.1.kept (fun k q hk => ho q.1 ((hW.1 k q hk).lt)), hW.2.1⟩, Nat.le_trans hW.2.2.1 hz, fun q h1 h2 => (ho q (Nat.lt_of_lt_of_le h1 hW.2.2.1)).trans (hW.2.2.2.1 q h1 h2)⟩) hW.2.2.2.2 hc hs
  · intro E ce q9 H locs ls rest pc cells slots hW hX h1 h2 h3 hc hs
    exact vx_out (fun x hx => (htab x hx).elim) B.notSynchronized h1 h2 h3 (fun t ht _ => ⟨(), trivial, ⟨hX, by rw [ht]; exact hW.1, hW.2.1⟩, hW.2.2.F ht⟩) hW.2.2.2.2 hc hs
theorem entry_tl {S : Type} {X : String → Prop} {post : Int64 → S → Prop} {W1 : S → va_W} (hst : l.stackTraces = false) (hy : plainName y.cls = true) (hw : wl = Cond.code y cc maxL (some .long) :: wl') (hlen : (lg_sl as).length ≤ maxL)
    (body : ∀ (P : Program) (e : Env) (s : State) (m : MethodId) (args : Array Value) (below : List Frame) (meth : Method) (c : Code) (ls : Array Slot) (A : Nat → Prop) (Q : State → Prop), CallFix P m c cc maxL s args wl y.cls → (y.name = "<init>" → meth.name = "<init>") → Kx κ s → Tk A s s.heap → (∀ q, s.heap.size ≤ q → A q) →
      (∀ (u : S) {H : Heap} {locs : List Loc} {ls : Array Slot} {pc cells slots : Nat} {r : Int64}, St κ A s.heap H locs (W1 u) → decode cc pc = .ok (.lreturn, 1) → cells ≤ rm.cells → slots ≤ rm.slots → post r u → W P l e rm s m args below meth c H locs cells slots Q (F0 m pc ls [.long r])) →
      (∀ (E : String) {H : Heap} {locs : List Loc} {ls : Array Slot} {lv : List (Nat × Value)} {rest : List Value} {pc cells slots ik ist ic : Nat} {text : String}, St κ A s.heap H locs W0 → X E → (E = eIO ∨ E = eIA ∨ E = eIS) → lv_has ls maxL lv → Bundle.fit E = true → Cond.classLink y.cls ik E ∈ wl → Cond.initialized E ∈ wl → (∀ w ∈ (vx_atS y.cls ic E eUp).filter goodWord, w ∈ wl) → (∀ w ∈ (vx_atS y.cls ic E eUp).filter (fun w => !goodWord w), w ∈ Bx E) → (∀ w ∈ Cond.classLink y.cls ik E :: Cond.initialized E :: vx_atS y.cls ic E eUp, vx_ot w = true) → (∃ q : Nat, vk_R y.cls ist text q s) →
        decode cc pc = .ok (.new ik, 3) → decode cc (pc + 3) = .ok (.dup, 1) → decode cc (pc + 4) = .ok (.ldc ist, 2) → decode cc (pc + 6) = .ok (.invokespecial ic, 3) → decode cc (pc + 9) = .ok (.athrow, 1) → 5 < rm.frames → (rest.map fun v => v.category).sum + 82 ≤ rm.locals → cells + 1 ≤ rm.cells → slots + 6 ≤ rm.slots → W P l e rm s m args below meth c H locs cells slots Q (F0 m pc ls rest)) →
      (∀ {E : String} {ce : Cell} {q9 : Addr} {H : Heap} {locs : List Loc} {ls : Array Slot} {rest : List Value} {pc cells slots : Nat}, St κ A s.heap H locs W0 → X E → H[q9]? = some ce → ce.vm = .none → s.vm.findClass E = some ce.cls → cells ≤ rm.cells → slots ≤ rm.slots → vx_W P l e rm s m args below meth c H locs cells slots Q (F0 m pc ls rest) q9) →
      St κ A s.heap s.heap [] W0 → lv_has ls maxL (lv_args 0 as) → W P l e rm s m args below meth c s.heap [] 0 0 Q (F0 m 0 ls [])) : TGl l y wl rm κ as W0 X post W1 := by
  intro sz
  refine vx_ofW (cc := cc) (maxL := maxL) (ret := (some .long)) hy hw ?_
  intro p e s m args below meth c s₁ B hml htab hv
  obtain ⟨⟨rfl, hsz, hP, hK, hD0⟩, hT⟩ := hv
  subst hsz
  have hown : s.vm.findClass y.cls = some m.cls := findClass_of_methodNamed B.named
  have hname : meth.name = y.name := (name_of_methodNamed B.named B.method).1
  have hl := lv_entry as (n := maxL) hlen
  have hts := atoms_spec (ws := wl) B.pre
  rw [lg_entry_eq]
  refine body p e s m as.toArray below meth c _ _ _ ⟨B.exec, B.bytes, hml, hown, hts⟩ (fun h => hname.trans h) hK hT (fun q h => Or.inr h) ?_ ?_ ?_ ⟨hP, hD0.self, va_S.rf⟩ hl
  · intro u _ _ _ _ _ _ _ h1 h2 h3 h4 h5
    exact vx_ret (ret_l u B.exec B.bytes B.returns B.notSynchronized h1 h2 h3 h4 h5)
  · intro E H locs ls lv rest pc cells slots ik ist ic text hW hX hE hls hfit hcl hini hg hbd hot hstr d0 d3 d4 d6 d9 hf hlo hc hs
    obtain ⟨q, hq⟩ := hstr
    exact vx_throwS (names := eUp) B.exec B.bytes hst hown hfit (by decide) (hts _ hcl) (hts _ hini) hq (vx_hat (fun w h => hts w (hg w h)) hbd (hT.2.1.bx hE)) hot hT.1.1 hT.1.2 hW.2.2 (by rw [hls.1, hml]) d0 d3 d4 d6 d9 (fun x hx => (htab x hx).elim) hf hlo hc hs B.notSynchronized
      (fun t _ hz ho => ⟨(), trivial, ⟨hX, hW.1.kept (fun k q hk => ho q.1 ((hW.1 k q hk).lt)), hW.2.1⟩, Nat.le_trans hW.2.2.1 hz, fun q h1 h2 => (ho q (Nat.lt_of_lt_of_le h1 hW.2.2.1)).trans (hW.2.2.2.1 q h1 h2)⟩) hW.2.2.2.2 hc hs
  · intro E ce q9 H locs ls rest pc cells slots hW hX h1 h2 h3 hc hs
    exact vx_out (fun x hx => (htab x hx).elim) B.notSynchronized h1 h2 h3 (fun t ht _ => ⟨(), trivial, ⟨hX, by rw [ht]; exact hW.1, hW.2.1⟩, hW.2.2.F ht⟩) hW.2.2.2.2 hc hs
end EntriesT
section PreTs
variable {s : State} {κ : Kp} {A : Nat → Prop} {H : Heap} {locs : List Loc} {ws wc : va_W} {as As : List Value} {b : Nat}
theorem pre_ST (hK : Kx κ s) (hT : Tk A s s.heap) (hW : St κ A s.heap H locs ws) (hA : ∀ q, s.heap.size ≤ q → A q) (isC : List Nat) (hC : isC.map (fun i => ws[i]?) = wc.map some) (hCn : va_nd isC = true) : PreS s H (PreT κ as wc H.size) as :=
  ⟨PreT.blind, fun U hU hWm => ⟨(pre_S hK hW isC hC hCn).2 U hU hWm, hT.to hW.2.2 (va_free hW.2.1 hW.2.2 hA isC hC) hU hWm⟩⟩
theorem pre_VT (hK : Kx κ s) (hT : Tk A s s.heap) (hW : St κ A s.heap H locs ws) (hA : ∀ q, s.heap.size ≤ q → A q) (isC : List Nat) (hC : isC.map (fun i => ws[i]?) = wc.map some) (hCn : va_nd isC = true) (ci q0 : Nat) {q : vw_C} {fs : List Value} (hc : vwCl[ci]? = some q) (he : ws[q0]? = some (b, .inr (ci, fs))) : PreV s H q.1 b (PreT κ (.ref b :: As) wc H.size) As :=
  ⟨PreT.blind, va_recv hK.1 hW.1 hc he, fun U hU hWm => ⟨(pre_V hK hW isC hC hCn ci q0 hc he).2.2 U hU hWm, hT.to hW.2.2 (va_free hW.2.1 hW.2.2 hA isC hC) hU hWm⟩⟩
end PreTs
section FinT
variable {p : Program} {l : Launch} {e : Env} {R : Room} {s : State} {m : MethodId} {args : Array Value} {below : List Frame} {meth : Method} {c : Code} {H : Heap} {locs : List Loc} {cells slots mc ms : Nat} {Q : State → Prop} {pc : Nat} {ls : Array Slot} {rest st0 : List Value} {a : Array Value} {κ : Kp} {A : Nat → Prop} {H0 : Heap} {ws W0 : va_W}
theorem fint_i {S : Type} {X : String → Prop} {post : Int32 → S → Prop} {W1 W2 : S → va_W} (k n : Nat) (isC isR pm : List Nat) (hW : St κ A H0 H locs ws) (hA : ∀ q, H0.size ≤ q → A q)
    (hr : vx_Run p l e R s m args below meth c H locs cells slots mc ms (F0 m pc ls st0) rest (va_Qi post (fun u => PW κ (W1 u) (va_A W0 H.size)) (va_A W0 H.size) a) (XQ κ W0 (va_A W0 H.size) X) (va_A W0 H.size))
    (hC : isC.map (fun i => ws[i]?) = W0.map some) (hR : isR.all (fun i => decide (i < ws.length)) = true) (hn : va_nd isR = true) (hdis : ∀ i ∈ isR, i ∉ isC) (hpn : va_nd pm = true) (hpm : ∀ u, pm.map (fun i => (isR.filterMap (fun i => ws[i]?) ++ W1 u)[i]?) = (W2 u).map some) (hpx : pm.map (fun i => (isR.filterMap (fun i => ws[i]?) ++ W0)[i]?) = ws.map some) (hk : cells + mc ≤ k) (hs : slots + ms ≤ n)
    (kx : ∀ (E : String) (ce : Cell) (q9 : Addr) (H1 : Heap) (locs1 : List Loc), X E → St κ A H0 H1 locs1 ws → H1[q9]? = some ce → ce.vm = .none → s.vm.findClass E = some ce.cls → vx_W p l e R s m args below meth c H1 locs1 k n Q (F0 m pc ls rest) q9)
    (kk : ∀ (r : Int32) (u : S) (H1 : Heap) (locs1 : List Loc), post r u → St κ A H0 H1 locs1 (W2 u) → W p l e R s m args below meth c H1 locs1 k n Q (F0 m (pc + 3) ls (.int r :: rest))) : W p l e R s m args below meth c H locs cells slots Q (F0 m pc ls st0) := by
  have hF := va_free hW.2.1 hW.2.2 hA isC hC
  refine vx_calli hr hW.2.2 (fun q _ h => hF q h) hF (fun q _ h => hF q h) (fun E ce q9 u t H1 locs1 ht hvm hw hB hz1 hk1 hS g1 g2 g3 => vx_widen hk hs ?_) (fun r u t H1 locs1 ht hvm hw hB hz1 hk1 hS => W.widen hk hs ?_)
  · have hB1 : va_P (kD κ) vwCl W0 H1 := by rw [← ht]; exact hB.2.1
    exact kx E ce q9 H1 locs1 hB.1 (St.join hW hA isC isR pm hC hR hn hdis hpn hpx hk1 hB1 hB.2.2 hS) g1 g2 g3
  · have hB1 : va_P (kD κ) vwCl (W1 u) H1 := by rw [← ht]; exact hB.1
    exact kk r u H1 locs1 hw (St.join hW hA isC isR pm hC hR hn hdis hpn (hpm u) hk1 hB1 hB.2 hS)
theorem fint_v {S : Type} {X : String → Prop} {post : S → Prop} {W1 W2 : S → va_W} (k n : Nat) (isC isR pm : List Nat) (hW : St κ A H0 H locs ws) (hA : ∀ q, H0.size ≤ q → A q)
    (hr : vx_Run p l e R s m args below meth c H locs cells slots mc ms (F0 m pc ls st0) rest (va_Qv post (fun u => PW κ (W1 u) (va_A W0 H.size)) (va_A W0 H.size) a) (XQ κ W0 (va_A W0 H.size) X) (va_A W0 H.size))
    (hC : isC.map (fun i => ws[i]?) = W0.map some) (hR : isR.all (fun i => decide (i < ws.length)) = true) (hn : va_nd isR = true) (hdis : ∀ i ∈ isR, i ∉ isC) (hpn : va_nd pm = true) (hpm : ∀ u, pm.map (fun i => (isR.filterMap (fun i => ws[i]?) ++ W1 u)[i]?) = (W2 u).map some) (hpx : pm.map (fun i => (isR.filterMap (fun i => ws[i]?) ++ W0)[i]?) = ws.map some) (hk : cells + mc ≤ k) (hs : slots + ms ≤ n)
    (kx : ∀ (E : String) (ce : Cell) (q9 : Addr) (H1 : Heap) (locs1 : List Loc), X E → St κ A H0 H1 locs1 ws → H1[q9]? = some ce → ce.vm = .none → s.vm.findClass E = some ce.cls → vx_W p l e R s m args below meth c H1 locs1 k n Q (F0 m pc ls rest) q9)
    (kk : ∀ (u : S) (H1 : Heap) (locs1 : List Loc), post u → St κ A H0 H1 locs1 (W2 u) → W p l e R s m args below meth c H1 locs1 k n Q (F0 m (pc + 3) ls rest)) : W p l e R s m args below meth c H locs cells slots Q (F0 m pc ls st0) := by
  have hF := va_free hW.2.1 hW.2.2 hA isC hC
  refine vx_callv hr hW.2.2 (fun q _ h => hF q h) hF (fun q _ h => hF q h) (fun E ce q9 u t H1 locs1 ht hvm hw hB hz1 hk1 hS g1 g2 g3 => vx_widen hk hs ?_) (fun u t H1 locs1 ht hvm hw hB hz1 hk1 hS => W.widen hk hs ?_)
  · have hB1 : va_P (kD κ) vwCl W0 H1 := by rw [← ht]; exact hB.2.1
    exact kx E ce q9 H1 locs1 hB.1 (St.join hW hA isC isR pm hC hR hn hdis hpn hpx hk1 hB1 hB.2.2 hS) g1 g2 g3
  · have hB1 : va_P (kD κ) vwCl (W1 u) H1 := by rw [← ht]; exact hB.1
    exact kk u H1 locs1 hw (St.join hW hA isC isR pm hC hR hn hdis hpn (hpm u) hk1 hB1 hB.2 hS)
theorem fint_l {S : Type} {X : String → Prop} {post : Int64 → S → Prop} {W1 W2 : S → va_W} (k n : Nat) (isC isR pm : List Nat) (hW : St κ A H0 H locs ws) (hA : ∀ q, H0.size ≤ q → A q)
    (hr : vx_Run p l e R s m args below meth c H locs cells slots mc ms (F0 m pc ls st0) rest (va_Ql post (fun u => PW κ (W1 u) (va_A W0 H.size)) (va_A W0 H.size) a) (XQ κ W0 (va_A W0 H.size) X) (va_A W0 H.size))
    (hC : isC.map (fun i => ws[i]?) = W0.map some) (hR : isR.all (fun i => decide (i < ws.length)) = true) (hn : va_nd isR = true) (hdis : ∀ i ∈ isR, i ∉ isC) (hpn : va_nd pm = true) (hpm : ∀ u, pm.map (fun i => (isR.filterMap (fun i => ws[i]?) ++ W1 u)[i]?) = (W2 u).map some) (hpx : pm.map (fun i => (isR.filterMap (fun i => ws[i]?) ++ W0)[i]?) = ws.map some) (hk : cells + mc ≤ k) (hs : slots + ms ≤ n)
    (kx : ∀ (E : String) (ce : Cell) (q9 : Addr) (H1 : Heap) (locs1 : List Loc), X E → St κ A H0 H1 locs1 ws → H1[q9]? = some ce → ce.vm = .none → s.vm.findClass E = some ce.cls → vx_W p l e R s m args below meth c H1 locs1 k n Q (F0 m pc ls rest) q9)
    (kk : ∀ (r : Int64) (u : S) (H1 : Heap) (locs1 : List Loc), post r u → St κ A H0 H1 locs1 (W2 u) → W p l e R s m args below meth c H1 locs1 k n Q (F0 m (pc + 3) ls (.long r :: rest))) : W p l e R s m args below meth c H locs cells slots Q (F0 m pc ls st0) := by
  have hF := va_free hW.2.1 hW.2.2 hA isC hC
  refine vx_calll hr hW.2.2 (fun q _ h => hF q h) hF (fun q _ h => hF q h) (fun E ce q9 u t H1 locs1 ht hvm hw hB hz1 hk1 hS g1 g2 g3 => vx_widen hk hs ?_) (fun r u t H1 locs1 ht hvm hw hB hz1 hk1 hS => W.widen hk hs ?_)
  · have hB1 : va_P (kD κ) vwCl W0 H1 := by rw [← ht]; exact hB.2.1
    exact kx E ce q9 H1 locs1 hB.1 (St.join hW hA isC isR pm hC hR hn hdis hpn hpx hk1 hB1 hB.2.2 hS) g1 g2 g3
  · have hB1 : va_P (kD κ) vwCl (W1 u) H1 := by rw [← ht]; exact hB.1
    exact kk r u H1 locs1 hw (St.join hW hA isC isR pm hC hR hn hdis hpn (hpm u) hk1 hB1 hB.2 hS)
end FinT
end
section
/-! ===== the reference's world ===== -/
def nowf (σ : Sg) : Nat → Int := fun k => if k = 0 then σ 5 0 else if k = 1 then σ 5 1 else if k = 2 then σ 5 2 else if k < 13 then σ 0 (k - 3) else if k < 23 then σ 1 (k - 13) else σ 2 (k - 23)
def cmn (σ : Sg) : Nat := bm (fun p => decide (σ 3 p = 1)) 10
abbrev WM (κ : Kp) (a : Nat → Nat) (σ : Sg) (th : Int) (kp : Nat → Int) : va_W := [(a 0, .inr (2, [.int (J th), .int (J (σ 5 3)), .int (J (cmn σ : Int)), .ref (a 1), .ref (a 2), .ref (a 3)])),
  (a 1, .inl (kI κ, 10, .inl fun k => J (σ 4 k))), (a 2, .inl (kI κ, 33, .inl fun k => J (nowf σ k))), (a 3, .inl (kI κ, 33, .inl fun k => J (kp k)))]
theorem nowf_r0 (σ : Sg) {p : Nat} (hp : p < 10) : nowf σ (3 + p) = σ 0 p := by
  unfold nowf
  rw [if_neg (by omega), if_neg (by omega), if_neg (by omega), if_pos (by omega), Nat.add_sub_cancel_left]
theorem nowf_r1 (σ : Sg) {p : Nat} (hp : p < 10) : nowf σ (13 + p) = σ 1 p := by
  unfold nowf
  rw [if_neg (by omega), if_neg (by omega), if_neg (by omega), if_neg (by omega), if_pos (by omega), Nat.add_sub_cancel_left]
theorem nowf_r2 (σ : Sg) {p : Nat} (hp : p < 10) : nowf σ (23 + p) = σ 2 p := by
  unfold nowf
  rw [if_neg (by omega), if_neg (by omega), if_neg (by omega), if_neg (by omega), if_neg (by omega), Nat.add_sub_cancel_left]
theorem nowf_s0 (σ : Sg) : nowf σ 0 = σ 5 0 := rfl
theorem nowf_s1 (σ : Sg) : nowf σ 1 = σ 5 1 := rfl
theorem nowf_s2 (σ : Sg) : nowf σ 2 = σ 5 2 := rfl
theorem nowf_p0 (σ : Sg) {p : Nat} (v : Int) (hp : p < 10) : upi (nowf σ) (3 + p) v = nowf (up σ 0 p v) := by
  funext k
  show (if k = 3 + p then v else nowf σ k) = (if k = 0 then σ 5 0 else if k = 1 then σ 5 1 else if k = 2 then σ 5 2 else if k < 13 then (if k - 3 = p then v else σ 0 (k - 3)) else if k < 23 then σ 1 (k - 13) else σ 2 (k - 23))
  unfold nowf
  by_cases h : k = 3 + p
  · rw [if_pos h, if_neg (by omega), if_neg (by omega), if_neg (by omega), if_pos (by omega), if_pos (by omega)]
  · rw [if_neg h]
    by_cases h3 : k < 13
    · by_cases h4 : k < 3
      · rcases (show k = 0 ∨ k = 1 ∨ k = 2 by omega) with e | e | e <;> subst e <;> rfl
      · rw [if_pos h3, if_pos h3, if_neg (show ¬ k - 3 = p by omega)]
    · rw [if_neg h3, if_neg h3]
theorem nowf_p1 (σ : Sg) {p : Nat} (v : Int) (hp : p < 10) : upi (nowf σ) (13 + p) v = nowf (up σ 1 p v) := by
  funext k
  show (if k = 13 + p then v else nowf σ k) = (if k = 0 then σ 5 0 else if k = 1 then σ 5 1 else if k = 2 then σ 5 2 else if k < 13 then σ 0 (k - 3) else if k < 23 then (if k - 13 = p then v else σ 1 (k - 13)) else σ 2 (k - 23))
  unfold nowf
  by_cases h : k = 13 + p
  · rw [if_pos h, if_neg (by omega), if_neg (by omega), if_neg (by omega), if_neg (by omega), if_pos (by omega), if_pos (by omega)]
  · rw [if_neg h]
    by_cases h3 : k < 13
    · rw [if_pos h3, if_pos h3]
    · rw [if_neg h3, if_neg h3, if_neg (show ¬ k - 13 = p by omega)]
theorem nowf_p2 (σ : Sg) {p : Nat} (v : Int) (hp : p < 10) : upi (nowf σ) (23 + p) v = nowf (up σ 2 p v) := by
  funext k
  show (if k = 23 + p then v else nowf σ k) = (if k = 0 then σ 5 0 else if k = 1 then σ 5 1 else if k = 2 then σ 5 2 else if k < 13 then σ 0 (k - 3) else if k < 23 then σ 1 (k - 13) else (if k - 23 = p then v else σ 2 (k - 23)))
  unfold nowf
  by_cases h : k = 23 + p
  · rw [if_pos h, if_neg (by omega), if_neg (by omega), if_neg (by omega), if_neg (by omega), if_neg (by omega), if_pos (by omega)]
  · rw [if_neg h]
    by_cases h3 : k < 23
    · rw [if_pos h3, if_pos h3]
    · rw [if_neg h3, if_neg h3, if_neg (show ¬ k - 23 = p by omega)]
theorem nowf_q0 (σ : Sg) (v : Int) : upi (nowf σ) 0 v = nowf (up σ 5 0 v) := by
  funext k
  match k with
  | 0 => rfl
  | 1 => rfl
  | 2 => rfl
  | k + 3 => rfl
theorem nowf_q1 (σ : Sg) (v : Int) : upi (nowf σ) 1 v = nowf (up σ 5 1 v) := by
  funext k
  match k with
  | 0 => rfl
  | 1 => rfl
  | 2 => rfl
  | k + 3 => rfl
theorem nowf_q2 (σ : Sg) (v : Int) : upi (nowf σ) 2 v = nowf (up σ 5 2 v) := by
  funext k
  match k with
  | 0 => rfl
  | 1 => rfl
  | 2 => rfl
  | k + 3 => rfl
theorem cmn_lt (σ : Sg) : cmn σ < 1024 := bm_1024 _ (Nat.le_refl 10)
theorem cmn_bit (σ : Sg) (p : Nat) (hp : p < 10) : (cmn σ).testBit p = decide (σ 3 p = 1) := by
  unfold cmn
  rw [bm_bit, decide_eq_true hp, Bool.true_and]
/-- the pots that sound, as bits -/
def stn (σ : Sg) : Nat := bm (sn σ) (nn σ)
theorem stn_lt {σ : Sg} (h : nn σ ≤ 10) : stn σ < 1024 := bm_1024 _ h
theorem stn_bit (σ : Sg) (p : Nat) : (stn σ).testBit p = (decide (p < nn σ) && sn σ p) := bm_bit _ _ _
def agp (σ : Sg) (p m o : Nat) : Bool := m.testBit o && !ac (σ 0 p) (σ 0 o)
def ag (σ : Sg) (p m : Nat) : Nat := fb_ct (agp σ p m) (nn σ)
def asm (σ : Sg) (m p : Nat) : Nat := if m.testBit p = true then ag σ p m else 0
def acl (σ : Sg) (m : Nat) : Int := (fb_sm (asm σ m) (nn σ) : Int) / 2
def hmo (σ : Sg) (m : Nat) : Int := (pcn m : Int) * ((pcn m : Int) - 1) / 2 - 2 * acl σ m
theorem ag_le (σ : Sg) (p m : Nat) : ag σ p m ≤ nn σ := fb_ct_le _ _
theorem asm_le (σ : Sg) (m p : Nat) : asm σ m p ≤ nn σ := by
  unfold asm
  split
  · exact ag_le _ _ _
  · exact Nat.zero_le _
theorem asm_sum {σ : Sg} (h : nn σ ≤ 10) (m : Nat) : fb_sm (asm σ m) (nn σ) ≤ 100 := by
  have h1 : fb_sm (asm σ m) (nn σ) ≤ nn σ * nn σ := fb_sm_bound (fun k _ => asm_le σ m k)
  have h2 : nn σ * nn σ ≤ 10 * 10 := Nat.mul_le_mul h h
  omega
theorem acl_rng {σ : Sg} (h : nn σ ≤ 10) (m : Nat) : 0 ≤ acl σ m ∧ acl σ m ≤ 50 := by
  have := asm_sum h m
  unfold acl
  omega
theorem ac_refl (x : Int) : ac x x = true := by
  unfold ac stp
  rw [Int.sub_self]
  decide
theorem ac_comm (x y : Int) : ac x y = ac y x := by
  unfold ac
  rw [show stp x y = stp y x by unfold stp; congr 1; split <;> split <;> omega]
theorem ag_set (σ : Sg) (p : Nat) : ag σ p (stn σ) = ca σ p (σ 0 p) := by
  unfold ag ca
  refine fb_ct_cong (fun o ho => ?_)
  unfold agp clp
  rw [stn_bit, decide_eq_true ho, Bool.true_and]
  by_cases h : o = p
  · subst h; rw [ac_refl]; simp
  · rw [decide_eq_true h, Bool.true_and]
theorem asm_set (σ : Sg) {p : Nat} (hp : p < nn σ) : asm σ (stn σ) p = cs σ p := by
  unfold asm cs
  rw [stn_bit, decide_eq_true hp, Bool.true_and, ag_set]
theorem acl_set (σ : Sg) : acl σ (stn σ) = ccl σ := by
  unfold acl ccl cc2
  rw [fb_sm_cong (fun k hk => asm_set σ hk)]
theorem pcn_bm (f : Nat → Bool) {n : Nat} (h : n ≤ 10) : pcn (bm f n) = fb_ct f n := by
  unfold pcn
  obtain ⟨k, hk⟩ := Nat.exists_eq_add_of_le h
  rw [hk, fb_ct_split]
  have h1 : fb_ct (fun j => (bm f n).testBit j) n = fb_ct f n := fb_ct_cong (fun j hj => by rw [bm_bit, decide_eq_true hj, Bool.true_and])
  have h2 : fb_ct (fun j => (bm f n).testBit (n + j)) k = 0 := fb_ct_zero.mpr (fun j hj => by rw [bm_bit, decide_eq_false (by omega), Bool.false_and])
  rw [h1, h2]
  omega
theorem pcn_set {σ : Sg} (h : nn σ ≤ 10) : pcn (stn σ) = ns σ := pcn_bm _ h
theorem hmo_set {σ : Sg} (h : nn σ ≤ 10) : hmo σ (stn σ) = hm σ := by
  unfold hmo hm
  rw [pcn_set h, acl_set]
theorem acb {x y : Int} : (J 953 >>> (J (stp x y) &&& 31)) &&& J 1 = J (bi (ac x y)) := by
  unfold ac
  have h : 0 ≤ stp x y ∧ stp x y < 12 := by unfold stp; omega
  generalize stp x y = t at h ⊢
  rcases (show t = 0 ∨ t = 1 ∨ t = 2 ∨ t = 3 ∨ t = 4 ∨ t = 5 ∨ t = 6 ∨ t = 7 ∨ t = 8 ∨ t = 9 ∨ t = 10 ∨ t = 11 by omega) with e | e | e | e | e | e | e | e | e | e | e | e <;> subst e <;> decide +kernel
section B2
variable {p : Program} {l : Launch} {e : Env} {R : Room} {s : State} {m : MethodId} {args : Array Value} {below : List Frame} {meth : Method} {c : Code} {H : Heap} {locs : List Loc} {cells slots : Nat} {Q : State → Prop} {cc : ByteArray} {pc : Nat} {ls : Array Slot} {rest : List Value}
theorem jv_icmpb_ne (hx : p.tables.exec = Jvm.exec) (hb : c.code = cc) {b : Bool} {off : Int} (tgt : Nat) (hdg : decode cc pc = .ok (.if_icmp .ne off, 3)) (ht : (pc : Int) + off = (tgt : Int)) (kt : b = false → W p l e R s m args below meth c H locs cells slots Q (F0 m tgt ls rest)) (kf : b = true → W p l e R s m args below meth c H locs cells slots Q (F0 m (pc + 3) ls rest)) : W p l e R s m args below meth c H locs cells slots Q (F0 m pc ls (.int (J 1) :: .int (J (bi b)) :: rest)) :=
  jv_icmp_ne hx hb tgt hdg ht (bi_InR b) ⟨by decide, by decide⟩ (fun h => kt (by cases b with | false => rfl | true => exact absurd rfl h)) (fun h => kf (bi_eq1.mp h))
end B2
/-! a beat, the reference's way -/
theorem up_comm (σ : Sg) {f g : Nat} (h : f ≠ g) (i j : Nat) (v w : Int) : up (up σ f i v) g j w = up (up σ g j w) f i v := by
  funext r k
  unfold up
  by_cases h1 : r = g
  · subst h1
    rw [if_pos rfl, if_neg (fun e => h e.symm), if_neg (fun e => h e.symm), if_pos rfl]
  · rw [if_neg h1]
    by_cases h2 : r = f
    · subst h2; rw [if_pos rfl, if_pos rfl, if_neg h1]
    · rw [if_neg h2, if_neg h2, if_neg h1]
theorem wear_5 (σ : Sg) (p k : Nat) (v : Int) (hk : k ≠ 0) : wear (up σ 5 k v) p = up (wear σ p) 5 k v := by
  have h50 : up σ 5 k v 5 0 = σ 5 0 := upi_n _ _ (fun e => hk e.symm)
  have hc : wcr (up σ 5 k v) p = wcr σ p := by
    show (if 24 ≤ σ 0 p ∧ up σ 5 k v 5 0 % 4 = 0 then min 9 (σ 2 p + 1) else σ 2 p) = _
    rw [h50]; rfl
  have hp : wpi (up σ 5 k v) p = wpi σ p := by
    show (if 5 ≤ wcr (up σ 5 k v) p then max 0 (σ 0 p - 1) else σ 0 p) = _
    rw [hc]; rfl
  have ht : wte (up σ 5 k v) p = wte σ p := rfl
  unfold wear
  rw [hc, hp, ht, up_comm σ (by decide), up_comm (up σ 1 p (wte σ p)) (by decide), up_comm (up (up σ 1 p (wte σ p)) 2 p (wcr σ p)) (by decide)]
theorem ps_up5 (σ : Sg) (i k : Nat) (v : Int) (hk : k ≠ 0) : ps (up σ 5 k v) i = up (ps σ i) 5 k v := by
  have h50 : up σ 5 k v 5 0 = σ 5 0 := upi_n _ _ (fun e => hk e.symm)
  show (if sn σ i = true then wear (up σ 5 k v) i else if σ 3 i = 1 ∧ up σ 5 k v 5 0 % 3 = 0 then up (up σ 5 k v) 2 i (max 0 (σ 2 i - 1)) else up σ 5 k v) = _
  unfold ps
  rw [h50]
  by_cases h1 : sn σ i = true
  · rw [if_pos h1, if_pos h1, wear_5 σ i k v hk]
  · rw [if_neg h1, if_neg h1]
    by_cases h2 : σ 3 i = 1 ∧ σ 5 0 % 3 = 0
    · rw [if_pos h2, if_pos h2, up_comm σ (by decide)]
    · rw [if_neg h2, if_neg h2]
theorem lp_up5 (σ : Sg) (k : Nat) (v : Int) (hk : k ≠ 0) : ∀ i, lp (up σ 5 k v) i = up (lp σ i) 5 k v
  | 0 => rfl
  | i + 1 => by
    show ps (lp (up σ 5 k v) i) i = up (ps (lp σ i) i) 5 k v
    rw [lp_up5 σ k v hk i, ps_up5 _ _ _ _ hk]
theorem pb_mod (σ : Sg) : pb σ = up (up (up (lp σ (nn σ)) 5 1 (σ 5 1 + bi (cadb σ))) 5 2 (bi (decide (0 < ccl σ)))) 5 0 (σ 5 0 + 1) := by
  unfold pb pb0
  rw [lp_up5 _ 2 _ (by decide), lp_up5 _ 1 _ (by decide)]
theorem ps_ge (σ : Sg) (i : Nat) {f k : Nat} (hf : f < 5) (hk : i < k) : ps σ i f k = σ f k := by
  have hu : ∀ (τ : Sg) (g : Nat) (v : Int), up τ g i v f k = τ f k := fun τ g v => by
    unfold up
    by_cases h : f = g
    · subst h; rw [if_pos rfl]; exact upi_n _ _ (by omega)
    · rw [if_neg h]
  unfold ps
  by_cases h1 : sn σ i = true
  · rw [if_pos h1]
    unfold wear
    rw [hu, hu, hu]
  · rw [if_neg h1]
    by_cases h2 : σ 3 i = 1 ∧ σ 5 0 % 3 = 0
    · rw [if_pos h2, hu]
    · rw [if_neg h2]
theorem lp_ge (σ : Sg) {f k : Nat} (hf : f < 5) : ∀ i, i ≤ k → lp σ i f k = σ f k
  | 0, _ => rfl
  | i + 1, h => by
    show ps (lp σ i) i f k = _
    rw [ps_ge _ i hf (by omega), lp_ge σ hf i (by omega)]
theorem lp_sni (σ : Sg) (i : Nat) : sn (lp σ i) i = sn σ i := by
  unfold sn
  rw [lp_ge σ (by decide) i (Nat.le_refl i), lp_ge σ (by decide) i (Nat.le_refl i)]
theorem ps_3 (σ : Sg) (i : Nat) : ps σ i 3 = σ 3 := by
  unfold ps
  by_cases h1 : sn σ i = true
  · rw [if_pos h1]; rfl
  · rw [if_neg h1]
    by_cases h2 : σ 3 i = 1 ∧ σ 5 0 % 3 = 0
    · rw [if_pos h2]; rfl
    · rw [if_neg h2]
theorem lp_3 (σ : Sg) : ∀ i, lp σ i 3 = σ 3
  | 0 => rfl
  | i + 1 => (ps_3 _ _).trans (lp_3 σ i)
theorem cmn_same {σ τ : Sg} (h : σ 3 = τ 3) : cmn σ = cmn τ := by unfold cmn; rw [h]
theorem pb_mod2 (σ : Sg) : pb σ = up (up (up (lp σ (nn σ)) 5 1 (lp σ (nn σ) 5 1 + bi (cadb σ))) 5 2 (bi (decide (0 < ccl σ)))) 5 0 (lp σ (nn σ) 5 0 + 1) := by
  have h := lp_5 σ (nn σ)
  rw [pb_mod, h]
theorem ps_4 (σ : Sg) (i : Nat) : ps σ i 4 = σ 4 := by
  unfold ps
  by_cases h1 : sn σ i = true
  · rw [if_pos h1]; rfl
  · rw [if_neg h1]
    by_cases h2 : σ 3 i = 1 ∧ σ 5 0 % 3 = 0
    · rw [if_pos h2]; rfl
    · rw [if_neg h2]
theorem lp_4 (σ : Sg) : ∀ i, lp σ i 4 = σ 4
  | 0 => rfl
  | i + 1 => (ps_4 _ _).trans (lp_4 σ i)
theorem pbn_3 (σ : Sg) : ∀ i, pbn σ i 3 = σ 3
  | 0 => rfl
  | i + 1 => by show lp (pb0 (pbn σ i)) _ 3 = _; rw [lp_3]; exact pbn_3 σ i
theorem pbn_4 (σ : Sg) : ∀ i, pbn σ i 4 = σ 4
  | 0 => rfl
  | i + 1 => by show lp (pb0 (pbn σ i)) _ 4 = _; rw [lp_4]; exact pbn_4 σ i
theorem pbn_53 (σ : Sg) : ∀ i, pbn σ i 5 3 = σ 5 3
  | 0 => rfl
  | i + 1 => (pb_53 _).trans (pbn_53 σ i)
theorem cmn_flip (σ : Sg) {p : Nat} (hp : p < 10) (h : 0 ≤ σ 3 p ∧ σ 3 p ≤ 1) : cmn σ ^^^ 2 ^ p = cmn (up σ 3 p (1 - σ 3 p)) := by
  refine Nat.eq_of_testBit_eq (fun i => ?_)
  rw [Nat.testBit_xor, Nat.testBit_two_pow]
  unfold cmn
  rw [bm_bit, bm_bit]
  show (_ ^^ _) = (decide (i < 10) && decide (upi (σ 3) p (1 - σ 3 p) i = 1))
  by_cases e : p = i
  · subst e
    rw [upi_s, decide_eq_true hp, decide_eq_true (rfl : p = p), Bool.true_and, Bool.true_and]
    rcases (show σ 3 p = 0 ∨ σ 3 p = 1 by omega) with q | q <;> rw [q] <;> decide
  · rw [upi_n _ _ (fun h => e h.symm), decide_eq_false e, Bool.xor_false]
end
section
/-! ===== silence comes ===== -/
theorem ps_ne (σ : Sg) (i : Nat) {f k : Nat} (hf : f < 5) (hk : k ≠ i) : ps σ i f k = σ f k := by
  have hu : ∀ (τ : Sg) (g : Nat) (v : Int), up τ g i v f k = τ f k := fun τ g v => by
    unfold up
    by_cases h : f = g
    · subst h; rw [if_pos rfl]; exact upi_n _ _ hk
    · rw [if_neg h]
  unfold ps
  by_cases h1 : sn σ i = true
  · rw [if_pos h1]
    unfold wear
    rw [hu, hu, hu]
  · rw [if_neg h1]
    by_cases h2 : σ 3 i = 1 ∧ σ 5 0 % 3 = 0
    · rw [if_pos h2, hu]
    · rw [if_neg h2]
theorem lp_keep (σ : Sg) {f p : Nat} (hf : f < 5) : ∀ i, p < i → lp σ i f p = lp σ (p + 1) f p
  | 0, h => absurd h (Nat.not_lt_zero p)
  | i + 1, h => by
    by_cases e : p = i
    · rw [e]
    · show ps (lp σ i) i f p = _
      rw [ps_ne _ i hf e]
      exact lp_keep σ hf i (by omega)
theorem lp_1 (σ : Sg) {i p : Nat} (hp : p < i) : lp σ i 1 p = if sn σ p = true then wte σ p else σ 1 p := by
  rw [lp_keep σ (by decide) i hp]
  show ps (lp σ p) p 1 p = _
  have h0 := lp_sni σ p
  have h1 : lp σ p 1 p = σ 1 p := lp_ge σ (by decide) p (Nat.le_refl p)
  have h2 : lp σ p 2 p = σ 2 p := lp_ge σ (by decide) p (Nat.le_refl p)
  unfold ps
  rw [h0]
  by_cases h : sn σ p = true
  · rw [if_pos h, if_pos h]
    show upi (lp σ p 1) p (wte (lp σ p) p) p = wte σ p
    rw [upi_s]
    unfold wte
    rw [h1, h2]
  · rw [if_neg h, if_neg h]
    by_cases h3 : lp σ p 3 p = 1 ∧ lp σ p 5 0 % 3 = 0
    · rw [if_pos h3]; exact h1
    · rw [if_neg h3]; exact h1
theorem pb_1 (σ : Sg) {p : Nat} (hp : p < nn σ) : pb σ 1 p = if sn σ p = true then wte σ p else σ 1 p := by
  show lp (pb0 σ) (nn σ) 1 p = _
  rw [lp_1 _ hp]
  rfl
theorem pb_3 (σ : Sg) : pb σ 3 = σ 3 := by
  show lp (pb0 σ) (nn σ) 3 = _
  rw [lp_3]
  rfl
theorem pbn_nn (σ : Sg) (i : Nat) : nn (pbn σ i) = nn σ := by unfold nn; rw [pbn_53]
theorem quiet {σ : Sg} (h : Inv σ) {p : Nat} (hp : p < nn σ) : ∀ i : Nat, sn (pbn σ i) p = true → pbn σ i 1 p ≤ 20 - (i : Int)
  | 0, _ => by
    have h1 := h.n10
    have h2 := h.at p (by omega)
    show σ 1 p ≤ 20 - 0
    omega
  | i + 1, hs => by
    have hs2 : sn (pb (pbn σ i)) p = true := hs
    have hI := h.hpbn i
    have h1 := h.n10
    have hb := hI.at p (by omega)
    have h3 : pb (pbn σ i) 1 p = if sn (pbn σ i) p = true then wte (pbn σ i) p else pbn σ i 1 p := pb_1 _ (by rw [pbn_nn]; exact hp)
    have h4 := of_decide_eq_true hs2
    rw [pb_3] at h4
    show pb (pbn σ i) 1 p ≤ _
    by_cases h5 : sn (pbn σ i) p = true
    · have h6 := quiet h hp i h5
      rw [h3, if_pos h5] at h4 ⊢
      unfold wte at h4 ⊢
      omega
    · rw [h3, if_neg h5] at h4
      exact absurd (decide_eq_true h4) h5
theorem ns_0 {σ : Sg} : ns σ = 0 ↔ ∀ p, p < nn σ → sn σ p = false := fb_ct_zero
theorem silent {σ : Sg} (h : Inv σ) {i : Nat} (hi : 20 ≤ i) : ns (pbn σ i) = 0 := by
  refine ns_0.mpr (fun p hp => ?_)
  rw [pbn_nn] at hp
  cases hs : sn (pbn σ i) p with
  | false => rfl
  | true =>
    have h1 := quiet h hp i hs
    have h2 := of_decide_eq_true hs
    omega
theorem stn_0 {σ : Sg} (h : nn σ ≤ 10) : stn σ = 0 ↔ ns σ = 0 := by
  constructor
  · intro e
    rw [← pcn_set h, e]
    decide
  · intro e
    have h1 := ns_0.mp e
    refine Nat.eq_of_testBit_eq (fun i => ?_)
    rw [stn_bit, Nat.zero_testBit]
    by_cases hi : i < nn σ
    · rw [h1 i hi, Bool.and_false]
    · rw [decide_eq_false hi, Bool.false_and]
/-! ===== sums over pairs ===== -/
theorem ct_sm (p : Nat → Bool) : ∀ n, fb_ct p n = fb_sm (fun k => if p k then 1 else 0) n
  | 0 => rfl
  | n + 1 => by rw [fb_ct_succ, fb_sm_succ, ct_sm p n]
/-- one row and column of a symmetric table changed -/
theorem sym_chg {n : Nat} (x y : Nat → Nat → Nat) {p : Nat} (hp : p < n) (hx : ∀ i j, x i j = x j i) (hy : ∀ i j, y i j = y j i) (hxp : x p p = 0) (hyp : y p p = 0) (h : ∀ i j, i ≠ p → j ≠ p → i < n → j < n → y i j = x i j) :
    fb_sm (fun i => fb_sm (y i) n) n + 2 * fb_sm (x p) n = fb_sm (fun i => fb_sm (x i) n) n + 2 * fb_sm (y p) n := by
  have h1 : ∀ i, i < n → i ≠ p → fb_sm (y i) n + x i p = fb_sm (x i) n + y i p := fun i hi hne => by
    have e := fb_sm_upd (x i) (y i p) hp
    rw [← e]
    congr 1
    refine fb_sm_cong (fun k hk => ?_)
    by_cases hkp : k = p
    · rw [if_pos hkp, hkp]
    · rw [if_neg hkp]; exact h i k hne hkp hi hk
  have h2 := fb_sm_upd (fun i => fb_sm (y i) n) (fb_sm (x p) n) hp
  have h3 : fb_sm (fun k => (if k = p then fb_sm (x p) n else fb_sm (y k) n) + x k p) n = fb_sm (fun k => fb_sm (x k) n + y k p) n := fb_sm_cong (fun k hk => by
    by_cases hkp : k = p
    · rw [if_pos hkp, hkp, hxp, hyp]
    · rw [if_neg hkp]; exact h1 k hk hkp)
  rw [fb_sm_add, fb_sm_add] at h3
  have h4 : fb_sm (fun k => x k p) n = fb_sm (x p) n := fb_sm_cong (fun k _ => hx k p)
  have h5 : fb_sm (fun k => y k p) n = fb_sm (y p) n := fb_sm_cong (fun k _ => hy k p)
  rw [h4, h5] at h3
  have h6 : fb_sm (fun k => if k = p then fb_sm (x p) n else (fun i => fb_sm (y i) n) k) n = fb_sm (fun k => if k = p then fb_sm (x p) n else fb_sm (y k) n) n := rfl
  rw [h6] at h2
  omega
/-- do two pots of a group clash -/
def xg (σ : Sg) (m p q : Nat) : Nat := if (m.testBit p && (m.testBit q && !ac (σ 0 p) (σ 0 q))) = true then 1 else 0
theorem xg_comm (σ : Sg) (m p q : Nat) : xg σ m p q = xg σ m q p := by
  unfold xg
  rw [ac_comm (σ 0 q), ← Bool.and_assoc, ← Bool.and_assoc, Bool.and_comm (m.testBit p)]
theorem xg_self (σ : Sg) (m p : Nat) : xg σ m p p = 0 := by
  unfold xg
  rw [ac_refl]
  simp
theorem asm_xg (σ : Sg) (m p : Nat) : asm σ m p = fb_sm (xg σ m p) (nn σ) := by
  unfold asm
  by_cases h : m.testBit p = true
  · rw [if_pos h]
    unfold ag
    rw [ct_sm]
    refine fb_sm_cong (fun k _ => ?_)
    unfold agp xg
    rw [h, Bool.true_and]
  · rw [if_neg h]
    symm
    have : ∀ n, fb_sm (xg σ m p) n = 0 := fun n => by
      induction n with
      | zero => rfl
      | succ n ih =>
        rw [fb_sm_succ, ih]
        unfold xg
        rw [if_neg (by rw [Bool.and_eq_true]; exact fun hh => h hh.1)]
    exact this _
theorem sm_asm (σ : Sg) (m : Nat) : fb_sm (asm σ m) (nn σ) = fb_sm (fun i => fb_sm (xg σ m i) (nn σ)) (nn σ) := fb_sm_cong (fun k _ => asm_xg σ m k)
theorem cc2_xg (σ : Sg) : cc2 σ = fb_sm (fun i => fb_sm (xg σ (stn σ) i) (nn σ)) (nn σ) := by
  unfold cc2
  rw [fb_sm_cong (fun k hk => ((asm_set σ hk).symm.trans (asm_xg σ (stn σ) k)))]
theorem ca_xg (σ : Sg) {p : Nat} (hp : p < nn σ) (hs : sn σ p = true) : ca σ p (σ 0 p) = fb_sm (xg σ (stn σ) p) (nn σ) := by
  rw [← asm_xg, asm_set σ hp]
  unfold cs
  rw [if_pos hs]
/-! ===== a pot tuned ===== -/
theorem stn_up0 (σ : Sg) (p : Nat) (v : Int) : stn (up σ 0 p v) = stn σ := rfl
theorem nn_up0 (σ : Sg) (p : Nat) (v : Int) : nn (up σ 0 p v) = nn σ := rfl
theorem ca_up0 (σ : Sg) (p : Nat) (v w : Int) : ca (up σ 0 p v) p w = ca σ p w := by
  unfold ca
  rw [nn_up0]
  refine fb_ct_cong (fun o _ => ?_)
  unfold clp
  by_cases h : o = p
  · rw [decide_eq_false (fun hh => hh h)]; rfl
  · show (decide (o ≠ p) && (sn σ o && !ac w (upi (σ 0) p v o))) = _
    rw [upi_n _ _ h]
theorem hm_tune {σ : Sg} (p : Nat) (hp : p < nn σ) (hs : sn σ p = true) (v : Int) : hm (up σ 0 p v) = hm σ + 2 * (ca σ p (σ 0 p) : Int) - 2 * (ca σ p v : Int) := by
  have h := sym_chg (xg σ (stn σ)) (xg (up σ 0 p v) (stn σ)) hp (xg_comm σ _) (xg_comm _ _) (xg_self σ _ p) (xg_self _ _ p) (fun i j hi hj _ _ => by
    unfold xg
    rw [show (up σ 0 p v) 0 i = σ 0 i from upi_n _ _ hi, show (up σ 0 p v) 0 j = σ 0 j from upi_n _ _ hj])
  have h1 := cc2_xg σ
  have h2 := cc2_xg (up σ 0 p v)
  rw [nn_up0, stn_up0] at h2
  have h3 := ca_xg σ hp hs
  have h4 := ca_xg (up σ 0 p v) (p := p) hp hs
  rw [nn_up0, stn_up0, ca_up0, show (up σ 0 p v) 0 p = v from upi_s _ _ _] at h4
  rw [← h1, ← h2, ← h3, ← h4] at h
  have h5 : ns (up σ 0 p v) = ns σ := rfl
  unfold hm ccl
  rw [h5]
  generalize (ns σ : Int) * ((ns σ : Int) - 1) / 2 = t
  omega
theorem hm_still {σ : Sg} (p : Nat) (hs : sn σ p = false) (v : Int) : hm (up σ 0 p v) = hm σ := by
  have h : cc2 (up σ 0 p v) = cc2 σ := by
    rw [cc2_xg, cc2_xg, nn_up0, stn_up0]
    refine fb_sm_cong (fun i _ => fb_sm_cong (fun j _ => ?_))
    have hb : (stn σ).testBit p = false := by rw [stn_bit, hs, Bool.and_false]
    unfold xg
    by_cases hi : i = p
    · subst hi; rw [hb]; rfl
    · by_cases hj : j = p
      · subst hj; rw [hb]; simp
      · rw [show (up σ 0 p v) 0 i = σ 0 i from upi_n _ _ hi, show (up σ 0 p v) 0 j = σ 0 j from upi_n _ _ hj]
  have h5 : ns (up σ 0 p v) = ns σ := rfl
  unfold hm ccl
  rw [h5, h]
/-- b is a better tuning than d, or the same -/
def Bst (c : Int → Int) (b d : Int) : Prop := c b < c d ∨ (c b = c d ∧ (iab b < iab d ∨ (iab b = iab d ∧ d ≤ b)))
theorem Bst.refl (c : Int → Int) (b : Int) : Bst c b b := Or.inr ⟨rfl, Or.inr ⟨rfl, Int.le_refl b⟩⟩
theorem Bst.trans {c : Int → Int} {b d e : Int} (h1 : Bst c b d) (h2 : Bst c d e) : Bst c b e := by
  unfold Bst at *
  omega
theorem Bst.anti {c : Int → Int} {b d : Int} (h1 : Bst c b d) (h2 : Bst c d b) : b = d := by
  unfold Bst at *
  omega
theorem ft_best {σ : Sg} (p : Nat) (h0 : 0 ≤ σ 0 p ∧ σ 0 p ≤ 35) : ∀ k : Nat, k ≤ 25 → ∃ x y : Int, ftr σ p k = (x, y) ∧ y = (ca σ p (σ 0 p + x) : Int) ∧ (0 ≤ σ 0 p + x ∧ σ 0 p + x ≤ 35) ∧ (x = 0 ∨ x < (k : Int) - 12) ∧ (-12 ≤ x ∧ x ≤ 12) ∧ Bst (fun b => (ca σ p (σ 0 p + b) : Int)) x 0 ∧ ∀ b : Int, -12 ≤ b → b < (k : Int) - 12 → 0 ≤ σ 0 p + b → σ 0 p + b ≤ 35 → Bst (fun b => (ca σ p (σ 0 p + b) : Int)) x b
  | 0, _ => ⟨0, (ca σ p (σ 0 p) : Int), rfl, by rw [Int.add_zero], by omega, Or.inl rfl, by omega, Bst.refl _ _, fun b h1 h2 => by omega⟩
  | k + 1, hk => by
    obtain ⟨x, y, q, hy, hv, hx, hr, hz, ha⟩ := ft_best p h0 k (by omega)
    by_cases ht : (0 ≤ σ 0 p + ((k : Int) - 12) ∧ σ 0 p + ((k : Int) - 12) ≤ 35) ∧ ((ca σ p (σ 0 p + ((k : Int) - 12)) : Int) < y ∨ ((ca σ p (σ 0 p + ((k : Int) - 12)) : Int) = y ∧ iab ((k : Int) - 12) ≤ iab x))
    · have hb : Bst (fun b => (ca σ p (σ 0 p + b) : Int)) ((k : Int) - 12) x := by
        unfold Bst
        have h2 := ht.2
        rw [hy] at h2
        rcases h2 with h2 | ⟨h2, h3⟩
        · exact Or.inl h2
        · refine Or.inr ⟨h2, ?_⟩
          unfold iab at *
          omega
      refine ⟨(k : Int) - 12, _, ftr_y rfl q ht.1 ht.2, rfl, ht.1, by omega, by omega, hb.trans hz, fun b h1 h2 h3 h4 => ?_⟩
      by_cases e : b = (k : Int) - 12
      · rw [e]; exact Bst.refl _ _
      · exact hb.trans (ha b h1 (by omega) h3 h4)
    · refine ⟨x, y, ftr_n rfl q ht, hy, hv, by omega, hr, hz, fun b h1 h2 h3 h4 => ?_⟩
      by_cases e : b = (k : Int) - 12
      · rw [e] at h3 h4 ⊢
        unfold Bst
        rw [hy] at ht
        show _ < (ca σ p (σ 0 p + ((k : Int) - 12)) : Int) ∨ (_ = (ca σ p (σ 0 p + ((k : Int) - 12)) : Int) ∧ _)
        generalize (ca σ p (σ 0 p + ((k : Int) - 12)) : Int) = cb at *
        show (ca σ p (σ 0 p + x) : Int) < cb ∨ ((ca σ p (σ 0 p + x) : Int) = cb ∧ _)
        generalize (ca σ p (σ 0 p + x) : Int) = cx at *
        unfold iab at *
        omega
      · exact ha b h1 (by omega) h3 h4
/-- whoever is better than all others is the best tuning -/
theorem ft_is {σ : Sg} {p : Nat} (h0 : 0 ≤ σ 0 p ∧ σ 0 p ≤ 35) {x : Int} (hr : -12 ≤ x ∧ x ≤ 12) (hv : 0 ≤ σ 0 p + x ∧ σ 0 p + x ≤ 35) (h : ∀ b : Int, -12 ≤ b → b ≤ 12 → 0 ≤ σ 0 p + b → σ 0 p + b ≤ 35 → Bst (fun b => (ca σ p (σ 0 p + b) : Int)) x b) : x = ft σ p := by
  obtain ⟨z, y, q, hy, hv2, hx2, hr2, hz2, ha2⟩ := ft_best p h0 25 (Nat.le_refl 25)
  have e : ft σ p = z := by unfold ft; rw [q]
  rw [e]
  exact (h z (by omega) (by omega) (by omega) (by omega)).anti (ha2 x (by omega) (by omega) (by omega) (by omega))
/-! ===== a pot muted ===== -/
def rmb (m p : Nat) : Nat := bm (fun i => m.testBit i && decide (i ≠ p)) 10
theorem rmb_J : ∀ p : Nat, p < 10 → ∀ m : Nat, m < 1024 → nI m &&& (nI (2 ^ p) ^^^ (-1)) = nI (rmb m p) := by decide +kernel
theorem rmb_lt (m p : Nat) : rmb m p < 1024 := bm_1024 _ (Nat.le_refl 10)
theorem rmb_bit {m p i : Nat} (hi : i < 10) : (rmb m p).testBit i = (m.testBit i && decide (i ≠ p)) := by
  unfold rmb
  rw [bm_bit, decide_eq_true hi, Bool.true_and]
theorem hmo_mute {σ : Sg} (h10 : nn σ ≤ 10) {p : Nat} (hp : p < nn σ) (hs : sn σ p = true) : hmo σ (rmb (stn σ) p) = ((ns σ : Int) - 1) * ((ns σ : Int) - 1 - 1) / 2 - 2 * ccl σ + 2 * (ca σ p (σ 0 p) : Int) := by
  have h := sym_chg (xg σ (stn σ)) (xg σ (rmb (stn σ) p)) hp (xg_comm σ _) (xg_comm _ _) (xg_self σ _ p) (xg_self _ _ p) (fun i j hi hj hi2 hj2 => by
    unfold xg
    rw [rmb_bit (by omega), rmb_bit (by omega), decide_eq_true hi, decide_eq_true hj, Bool.and_true, Bool.and_true])
  have h0 : fb_sm (xg σ (rmb (stn σ) p) p) (nn σ) = 0 := by
    rw [← asm_xg]
    unfold asm
    rw [if_neg]
    rw [rmb_bit (by omega), decide_eq_false (fun hh => hh rfl), Bool.and_false]
    decide
  rw [h0, ← cc2_xg, ← ca_xg σ hp hs, ← sm_asm] at h
  have hb : (stn σ).testBit p = true := by rw [stn_bit, decide_eq_true hp, hs]; rfl
  have hc : pcn (rmb (stn σ) p) + 1 = ns σ := by
    rw [← pcn_set h10]
    unfold pcn
    have e := fb_ct_upd (fun k => (stn σ).testBit k) false (i := p) (n := 10) (by omega)
    have e2 : fb_ct (fun k => (rmb (stn σ) p).testBit k) 10 = fb_ct (fun k => if k = p then false else (stn σ).testBit k) 10 := fb_ct_cong (fun k hk => by
      rw [rmb_bit hk]
      by_cases hkp : k = p
      · rw [if_pos hkp, decide_eq_false (fun hh => hh hkp), Bool.and_false]
      · rw [if_neg hkp, decide_eq_true hkp, Bool.and_true])
    rw [e2]
    rw [hb] at e
    simpa using e
  unfold hmo acl ccl
  rw [show ((pcn (rmb (stn σ) p) : Nat) : Int) = (ns σ : Int) - 1 by omega]
  generalize ((ns σ : Int) - 1) * ((ns σ : Int) - 1 - 1) / 2 = t
  omega
/-! ===== the harshest ===== -/
theorem fmr_max (σ : Sg) : ∀ i j : Nat, j < i → fv σ j ≤ (fmr σ i).2
  | 0, j, h => absurd h (Nat.not_lt_zero j)
  | i + 1, j, h => by
    obtain ⟨⟨x, y⟩, q⟩ : ∃ z, fmr σ i = z := ⟨_, rfl⟩
    have ih := fun hj => fmr_max σ i j hj
    rw [q] at ih
    by_cases ht : y < fv σ i
    · rw [fmr_y q rfl ht]
      by_cases e : j = i
      · rw [e]; exact Int.le_refl _
      · have := ih (by omega); show fv σ j ≤ fv σ i; omega
    · rw [fmr_n q rfl ht]
      by_cases e : j = i
      · rw [e]; show fv σ i ≤ y; omega
      · exact ih (by omega)
theorem sm_pos {f : Nat → Nat} : ∀ {n : Nat}, 0 < fb_sm f n → ∃ k, k < n ∧ 0 < f k
  | 0, h => absurd h (Nat.lt_irrefl 0)
  | n + 1, h => by
    rw [fb_sm_succ] at h
    by_cases h1 : 0 < fb_sm f n
    · obtain ⟨k, h2, h3⟩ := sm_pos h1; exact ⟨k, by omega, h3⟩
    · exact ⟨n, Nat.lt_succ_self n, by omega⟩
theorem sm_two {f : Nat → Nat} {n a b : Nat} (ha : a < n) (hb : b < n) (hab : a ≠ b) : f a + f b ≤ fb_sm f n := by
  have h1 := fb_sm_upd f 0 ha
  have h2 := fb_sm_part (fun k => if k = a then 0 else f k) hb
  rw [if_neg (fun e => hab e.symm)] at h2
  omega
/-- clashes come in twos -/
theorem sm_asm2 {σ : Sg} {m : Nat} (h : 0 < fb_sm (asm σ m) (nn σ)) : 2 ≤ fb_sm (asm σ m) (nn σ) := by
  obtain ⟨a, ha, h1⟩ := sm_pos h
  have h1' := h1
  rw [asm_xg] at h1'
  obtain ⟨b, hb, h2⟩ := sm_pos h1'
  have hab : a ≠ b := fun e => by subst e; rw [xg_self] at h2; exact absurd h2 (Nat.lt_irrefl 0)
  have h3 : 0 < asm σ m b := by
    rw [asm_xg]
    have h4 := fb_sm_part (xg σ m b) ha
    rw [xg_comm σ m b a] at h4
    omega
  have := sm_two (f := asm σ m) ha hb hab
  omega
theorem ccl_pos {σ : Sg} : 0 < ccl σ ↔ 0 < cc2 σ := by
  have h : cc2 σ = fb_sm (asm σ (stn σ)) (nn σ) := by unfold cc2; exact (fb_sm_cong (fun k hk => asm_set σ hk)).symm
  unfold ccl
  constructor
  · intro h1; omega
  · intro h1
    rw [h] at h1 ⊢
    have := sm_asm2 h1
    omega
theorem cof_fv (σ : Sg) (p : Nat) : 0 < cof σ p ↔ 0 < fv σ p := by
  unfold cof fv
  split <;> omega
theorem cof_fv2 {σ : Sg} {p : Nat} (h : 0 < fv σ p) : cof σ p = fv σ p := by
  unfold cof fv at *
  by_cases hs : sn σ p = true
  · rw [if_pos hs, if_pos hs]
  · rw [if_neg hs] at h; omega
theorem ccl_fm {σ : Sg} : 0 < ccl σ ↔ 0 < (fmr σ (nn σ)).2 := by
  rw [ccl_pos]
  constructor
  · intro h
    obtain ⟨k, hk, h1⟩ := sm_pos (show 0 < fb_sm (cs σ) (nn σ) from h)
    have h2 := fmr_max σ (nn σ) k hk
    have h3 : fv σ k = (cs σ k : Int) := by
      unfold cs at h1 ⊢
      unfold fv
      split at h1
      · rename_i hs; rw [if_pos hs, if_pos hs]
      · omega
    omega
  · intro h
    have key : ∀ i : Nat, i ≤ nn σ → 0 < (fmr σ i).2 → ∃ k, k < nn σ ∧ 0 < fv σ k := by
      intro i
      induction i with
      | zero => intro _ h; exact absurd h (by show ¬ (0 : Int) < -1; decide)
      | succ i ih =>
        intro hi h
        obtain ⟨⟨x, y⟩, q⟩ : ∃ z, fmr σ i = z := ⟨_, rfl⟩
        by_cases ht : y < fv σ i
        · rw [fmr_y q rfl ht] at h; exact ⟨i, by omega, h⟩
        · rw [fmr_n q rfl ht] at h; exact ih (by omega) (by rw [q]; exact h)
    obtain ⟨k, hk, h1⟩ := key _ (Nat.le_refl _) h
    have h2 : 0 < cs σ k := by
      unfold fv at h1
      unfold cs
      split at h1
      · rename_i hs; rw [if_pos hs]; omega
      · omega
    have := fb_sm_part (cs σ) hk
    unfold cc2
    omega
/-! ===== the greatest accord ===== -/
theorem gar_max (σ : Sg) : ∀ m k : Nat, k < m → gok σ k = true → pcn k ≤ gar σ m
  | 0, k, h, _ => absurd h (Nat.not_lt_zero k)
  | m + 1, k, h, hk => by
    by_cases ht : gar σ m < pcn m ∧ gok σ m = true
    · rw [gar_y ht.1 ht.2]
      by_cases e : k = m
      · rw [e]; exact Nat.le_refl _
      · have := gar_max σ m k (by omega) hk; omega
    · rw [gar_n ht]
      by_cases e : k = m
      · subst e
        rcases Nat.lt_or_ge (gar σ k) (pcn k) with h1 | h1
        · exact absurd ⟨h1, hk⟩ ht
        · exact h1
      · exact gar_max σ m k (by omega) hk
theorem gar_in (σ : Sg) : ∀ m : Nat, gar σ m = 0 ∨ ∃ k, k < m ∧ gok σ k = true ∧ pcn k = gar σ m
  | 0 => Or.inl rfl
  | m + 1 => by
    by_cases ht : gar σ m < pcn m ∧ gok σ m = true
    · rw [gar_y ht.1 ht.2]; exact Or.inr ⟨m, Nat.lt_succ_self m, ht.2, rfl⟩
    · rw [gar_n ht]
      rcases gar_in σ m with h | ⟨k, h1, h2, h3⟩
      · exact Or.inl h
      · exact Or.inr ⟨k, by omega, h2, h3⟩
/-- bits of n or above are none in a number below 2^n -/
theorem bit_lt {m n i : Nat} (h : m < 2 ^ n) (hb : m.testBit i = true) : i < n := by
  rcases Nat.lt_or_ge i n with h1 | h1
  · exact h1
  · have h2 : m < 2 ^ i := Nat.lt_of_lt_of_le h (Nat.pow_le_pow_right (by decide) h1)
    rw [Nat.testBit_lt_two_pow h2] at hb
    cases hb
/-- a group is in accord, the class's way, when all its pots sound and no two clash -/
theorem gok_iff {σ : Sg} {m : Nat} (hm : m < 2 ^ nn σ) : gok σ m = true ↔ (m &&& stn σ = m ∧ acl σ m = 0) := by
  have h1 : acl σ m = 0 ↔ ∀ p, p < nn σ → m.testBit p = true → ∀ q, q < nn σ → m.testBit q = true → ac (σ 0 p) (σ 0 q) = true := by
    have h2 : acl σ m = 0 ↔ fb_sm (asm σ m) (nn σ) = 0 := by
      unfold acl
      constructor
      · intro h
        rcases Nat.eq_zero_or_pos (fb_sm (asm σ m) (nn σ)) with h3 | h3
        · exact h3
        · have := sm_asm2 h3; omega
      · intro h; rw [h]; rfl
    rw [h2]
    constructor
    · intro h p hp hbp q hq hbq
      have h3 := fb_sm_zero h p hp
      rw [asm_xg] at h3
      have h4 := fb_sm_zero h3 q hq
      unfold xg at h4
      rw [hbp, hbq, Bool.true_and, Bool.true_and] at h4
      cases hc : ac (σ 0 p) (σ 0 q) with
      | true => rfl
      | false => rw [hc] at h4; exact absurd h4 (by decide)
    · intro h
      rcases Nat.eq_zero_or_pos (fb_sm (asm σ m) (nn σ)) with h3 | h3
      · exact h3
      · obtain ⟨a, ha, h4⟩ := sm_pos h3
        rw [asm_xg] at h4
        obtain ⟨b, hb, h5⟩ := sm_pos h4
        unfold xg at h5
        split at h5
        · rename_i hx
          rw [Bool.and_eq_true, Bool.and_eq_true] at hx
          have := h a ha hx.1 b hb hx.2.1
          rw [this] at hx
          exact absurd hx.2.2 (by decide)
        · exact absurd h5 (Nat.lt_irrefl 0)
  have h0 : gok σ m = true ↔ ∀ p, p < nn σ → m.testBit p = true → m &&& bar σ p = 0 := ⟨fun h => of_decide_eq_true h, fun h => decide_eq_true h⟩
  rw [h0, h1]
  constructor
  · intro h
    have hs : ∀ p, p < nn σ → m.testBit p = true → sn σ p = true := fun p hp hb => by
      cases hsn : sn σ p with
      | true => rfl
      | false =>
        have h3 := h p hp hb
        unfold bar at h3
        rw [if_neg (by rw [hsn]; decide)] at h3
        have h4 : (m &&& 2 ^ p).testBit p = false := by rw [h3]; exact Nat.zero_testBit p
        rw [Nat.testBit_and, hb, Nat.testBit_two_pow_self] at h4
        cases h4
    refine ⟨Nat.eq_of_testBit_eq (fun i => ?_), fun p hp hbp q hq hbq => ?_⟩
    · rw [Nat.testBit_and, stn_bit]
      cases hb : m.testBit i with
      | false => rfl
      | true =>
        have hi := bit_lt hm hb
        rw [decide_eq_true hi, hs i hi hb]
        rfl
    · have h3 := h p hp hbp
      unfold bar at h3
      rw [if_pos (hs p hp hbp)] at h3
      have h4 : (m &&& bm (fun o => !ac (σ 0 p) (σ 0 o)) (nn σ)).testBit q = false := by rw [h3]; exact Nat.zero_testBit q
      rw [Nat.testBit_and, hbq, bm_bit, decide_eq_true hq] at h4
      cases hc : ac (σ 0 p) (σ 0 q) with
      | true => rfl
      | false => rw [hc] at h4; exact absurd h4 (by decide)
  · intro h p hp hb
    have hs : sn σ p = true := by
      have h3 : (m &&& stn σ).testBit p = true := by rw [h.1]; exact hb
      rw [Nat.testBit_and, stn_bit, hb, decide_eq_true hp, Bool.true_and, Bool.true_and] at h3
      exact h3
    unfold bar
    rw [if_pos hs]
    refine Nat.eq_of_testBit_eq (fun i => ?_)
    rw [Nat.testBit_and, bm_bit, Nat.zero_testBit]
    cases hbi : m.testBit i with
    | false => rfl
    | true =>
      have hi := bit_lt hm hbi
      rw [h.2 p hp hb i hi hbi]
      simp
/-- from one part of a set to the next lower one -/
theorem sub_next : ∀ (n s m t : Nat), t < 2 ^ n → m &&& t = m → s &&& t = s → m < s → m ≤ (s - 1) &&& t
  | 0, s, m, t, ht, hm, hs, h => by
    have : t = 0 := by omega
    subst this
    rw [Nat.and_zero] at hs
    omega
  | n + 1, s, m, t, ht, hm, hs, h => by
    have hd : ∀ x : Nat, x = 2 * (x / 2) + x % 2 := fun x => by omega
    have ha : ∀ x y : Nat, (x &&& y) / 2 = (x / 2) &&& (y / 2) := fun x y => Nat.and_div_two
    have hr : ∀ x y : Nat, (x &&& y) % 2 = (x % 2) &&& (y % 2) := fun x y => by
      rw [← Nat.and_one_is_mod, ← Nat.and_one_is_mod, ← Nat.and_one_is_mod]
      refine Nat.eq_of_testBit_eq (fun i => ?_)
      simp only [Nat.testBit_and]
      cases x.testBit i <;> cases y.testBit i <;> cases (1 : Nat).testBit i <;> rfl
    have hb : ∀ x y : Nat, x % 2 = 0 ∨ y % 2 = 0 → (x % 2) &&& (y % 2) = 0 := fun x y h => by
      rcases h with h | h <;> rw [h]
      · exact Nat.zero_and _
      · exact Nat.and_zero _
    have h1 : ∀ x y : Nat, x % 2 = 1 → y % 2 = 1 → (x % 2) &&& (y % 2) = 1 := fun x y h h' => by rw [h, h']; rfl
    have hm2 : (m / 2) &&& (t / 2) = m / 2 := by rw [← ha, hm]
    have hs2 : (s / 2) &&& (t / 2) = s / 2 := by rw [← ha, hs]
    have hmr : (m % 2) &&& (t % 2) = m % 2 := by rw [← hr, hm]
    have hsr : (s % 2) &&& (t % 2) = s % 2 := by rw [← hr, hs]
    have e := hd ((s - 1) &&& t)
    rw [ha, hr] at e
    rcases Nat.mod_two_eq_zero_or_one s with q | q
    · have q1 : (s - 1) / 2 = s / 2 - 1 := by omega
      have q2 : (s - 1) % 2 = 1 := by omega
      have ih := sub_next n (s / 2) (m / 2) (t / 2) (by rw [Nat.pow_succ] at ht; omega) hm2 hs2 (by omega)
      rw [q1] at e
      rcases Nat.mod_two_eq_zero_or_one t with q3 | q3
      · have q4 := hb m t (Or.inr q3)
        rw [hmr] at q4
        omega
      · rw [h1 _ _ q2 q3] at e
        omega
    · have q1 : (s - 1) / 2 = s / 2 := by omega
      rw [q1, hs2] at e
      omega
theorem and_sub (s t : Nat) : (s &&& t) &&& t = s &&& t := by rw [Nat.and_assoc, Nat.and_self]
end
section
theorem last_of_all : True := trivial
end
