/-! ===== methods that throw ===== -/
abbrev eIO : String := "java/lang/IndexOutOfBoundsException"
abbrev eIA : String := "java/lang/IllegalArgumentException"
abbrev eIS : String := "java/lang/IllegalStateException"
abbrev eUp : List String := ["java/lang/RuntimeException", "java/lang/Exception"]
def Bx (E : String) : List Cond := [.declares (Bundle.initS "java/lang/RuntimeException"), .declares (Bundle.initS "java/lang/Exception"), .declares (Bundle.initS Bundle.tN), .castable E E]
def Nx (U : State) : Prop := va_Nw (.declares (Bundle.initS "java/lang/RuntimeException")) U ∧ va_Nw (.declares (Bundle.initS "java/lang/Exception")) U ∧ va_Nw (.declares (Bundle.initS Bundle.tN)) U ∧ va_Nw (.castable eIO eIO) U ∧ va_Nw (.castable eIA eIA) U ∧ va_Nw (.castable eIS eIS) U
theorem Nx.warm {s U : State} (hW : s.WarmedH U.vm) (h : Nx s) : Nx U := ⟨va_Nw.warmD hW h.1, va_Nw.warmD hW h.2.1, va_Nw.warmD hW h.2.2.1, va_Nw.warmC hW h.2.2.2.1, va_Nw.warmC hW h.2.2.2.2.1, va_Nw.warmC hW h.2.2.2.2.2⟩
theorem Nx.bx {s : State} {args : Array Value} (h : Nx s) {E : String} (hE : E = eIO ∨ E = eIA ∨ E = eIS) : ∀ w ∈ Bx E, w.before args s = true := by
  have hc : va_Nw (.castable E E) s := by
    rcases hE with e | e | e <;> subst e
    · exact h.2.2.2.1
    · exact h.2.2.2.2.1
    · exact h.2.2.2.2.2
  intro w hw
  rcases List.mem_cons.mp hw with e | hw
  · rw [e]; exact va_Nw.use rfl h.1
  rcases List.mem_cons.mp hw with e | hw
  · rw [e]; exact va_Nw.use rfl h.2.1
  rcases List.mem_cons.mp hw with e | hw
  · rw [e]; exact va_Nw.use rfl h.2.2.1
  rcases List.mem_cons.mp hw with e | hw
  · rw [e]; exact va_Nw.use rfl hc
  · exact absurd hw List.not_mem_nil
def Sx (U : State) : Prop := (∃ q : Nat, vk_R RX1 29 "there are 10 teapots" q U) ∧ (∃ q : Nat, vk_R RX1 52 "a pot can't be poured into itself" q U) ∧ (∃ q : Nat, vk_R RX1 82 "no such part" q U) ∧ (∃ q : Nat, vk_R RX1 207 "no such teapot" q U) ∧ (∃ q : Nat, vk_R RX1 209 "a number is out of its range" q U)
theorem Sx.warm {s U : State} (hW : s.WarmedH U.vm) (h : Sx s) : Sx U := ⟨h.1.elim fun q hq => ⟨q, vk_R.warm hW hq⟩, h.2.1.elim fun q hq => ⟨q, vk_R.warm hW hq⟩, h.2.2.1.elim fun q hq => ⟨q, vk_R.warm hW hq⟩, h.2.2.2.1.elim fun q hq => ⟨q, vk_R.warm hW hq⟩, h.2.2.2.2.elim fun q hq => ⟨q, vk_R.warm hW hq⟩⟩
theorem Sx.same {u U : State} (hv : U.vm = u.vm) (h : Sx u) : Sx U := ⟨h.1.elim fun q hq => ⟨q, vk_R.same hv hq⟩, h.2.1.elim fun q hq => ⟨q, vk_R.same hv hq⟩, h.2.2.1.elim fun q hq => ⟨q, vk_R.same hv hq⟩, h.2.2.2.1.elim fun q hq => ⟨q, vk_R.same hv hq⟩, h.2.2.2.2.elim fun q hq => ⟨q, vk_R.same hv hq⟩⟩
theorem Sx.s0 {U : State} (h : Sx U) : ∃ q : Nat, vk_R RX1 29 "there are 10 teapots" q U := h.1
theorem Sx.s1 {U : State} (h : Sx U) : ∃ q : Nat, vk_R RX1 52 "a pot can't be poured into itself" q U := h.2.1
theorem Sx.s2 {U : State} (h : Sx U) : ∃ q : Nat, vk_R RX1 82 "no such part" q U := h.2.2.1
theorem Sx.s3 {U : State} (h : Sx U) : ∃ q : Nat, vk_R RX1 207 "no such teapot" q U := h.2.2.2.1
theorem Sx.s4 {U : State} (h : Sx U) : ∃ q : Nat, vk_R RX1 209 "a number is out of its range" q U := h.2.2.2.2
def Tk (A : Nat → Prop) (U : State) (H : Heap) : Prop := (vx_Zq Bundle.tN "UNASSIGNED_STACK" Bundle.steD A U H ∧ vx_Zq Bundle.tN "SUPPRESSED_SENTINEL" Bundle.listD A U H) ∧ Nx U ∧ Sx U
theorem Tk.to {A B : Nat → Prop} {s U : State} {H : Heap} {locs : List Loc} (h : Tk A s s.heap) (hS : va_S A s.heap H locs) (hAB : ∀ q, B q → A q) (hU : U.heap = H) (hW : s.WarmedH U.vm) : Tk B U U.heap := by
  rw [hU]
  exact ⟨⟨((h.1.1.kept (fun q h1 h2 => hS.2.1 q h1 h2)).narrow hAB).moved hW.alike, ((h.1.2.kept (fun q h1 h2 => hS.2.1 q h1 h2)).narrow hAB).moved hW.alike⟩, h.2.1.warm hW, h.2.2.warm hW⟩
def PreT (κ : Kp) (as : List Value) (W0 : va_W) (sz : Nat) : Array Value → State → Prop := fun a U => PreC κ as W0 sz a U ∧ Tk (va_A W0 sz) U U.heap
theorem PreT.blind {κ : Kp} {as : List Value} {W0 : va_W} {sz : Nat} : FrameBlind (PreT κ as W0 sz) := fun a U g mk q => ⟨PreC.blind a U g mk q.1, ⟨⟨vx_Zq.moved (u := U) (U := U.calling g mk a) (Vm.Alike.refl U.vm) q.2.1.1, vx_Zq.moved (u := U) (U := U.calling g mk a) (Vm.Alike.refl U.vm) q.2.1.2⟩,
  ⟨va_Nw.same (u := U) (U := U.calling g mk a) rfl rfl q.2.2.1.1, va_Nw.same (u := U) (U := U.calling g mk a) rfl rfl q.2.2.1.2.1, va_Nw.same (u := U) (U := U.calling g mk a) rfl rfl q.2.2.1.2.2.1, va_Nw.same (u := U) (U := U.calling g mk a) rfl rfl q.2.2.1.2.2.2.1, va_Nw.same (u := U) (U := U.calling g mk a) rfl rfl q.2.2.1.2.2.2.2.1, va_Nw.same (u := U) (U := U.calling g mk a) rfl rfl q.2.2.1.2.2.2.2.2⟩, Sx.same (u := U) (U := U.calling g mk a) rfl q.2.2.2⟩⟩
def XQ (κ : Kp) (W0 : va_W) (A : Nat → Prop) (X : String → Prop) : String → State → State → Prop := vx_X (fun _ : Unit => True) (fun E _ t => X E ∧ PW κ W0 A t) A
def TGi {S : Type} (l : Launch) (y : MethodName) (wl : List Cond) (rm : Room) (κ : Kp) (as : List Value) (W0 : va_W) (X : String → Prop) (post : Int32 → S → Prop) (W1 : S → va_W) : Prop :=
  ∀ sz, vx_Met l y wl rm (PreT κ as W0 sz) (va_Qi post (fun u => PW κ (W1 u) (va_A W0 sz)) (va_A W0 sz)) (XQ κ W0 (va_A W0 sz) X) rm.cells rm.slots (va_A W0 sz)
def TGv {S : Type} (l : Launch) (y : MethodName) (wl : List Cond) (rm : Room) (κ : Kp) (as : List Value) (W0 : va_W) (X : String → Prop) (post : S → Prop) (W1 : S → va_W) : Prop :=
  ∀ sz, vx_Met l y wl rm (PreT κ as W0 sz) (va_Qv post (fun u => PW κ (W1 u) (va_A W0 sz)) (va_A W0 sz)) (XQ κ W0 (va_A W0 sz) X) rm.cells rm.slots (va_A W0 sz)
def TGl {S : Type} (l : Launch) (y : MethodName) (wl : List Cond) (rm : Room) (κ : Kp) (as : List Value) (W0 : va_W) (X : String → Prop) (post : Int64 → S → Prop) (W1 : S → va_W) : Prop :=
  ∀ sz, vx_Met l y wl rm (PreT κ as W0 sz) (va_Ql post (fun u => PW κ (W1 u) (va_A W0 sz)) (va_A W0 sz)) (XQ κ W0 (va_A W0 sz) X) rm.cells rm.slots (va_A W0 sz)
section EntriesT
variable {l : Launch} {y : MethodName} {wl wl' : List Cond} {rm : Room} {κ : Kp} {as : List Value} {W0 : va_W} {cc : ByteArray} {maxL : Nat}
theorem entry_ti {S : Type} {X : String → Prop} {post : Int32 → S → Prop} {W1 : S → va_W} (hst : l.stackTraces = false) (hy : plainName y.cls = true) (hw : wl = Cond.code y cc maxL (some .int) :: wl') (hlen : (lg_sl as).length ≤ maxL)
    (body : ∀ (P : Program) (e : Env) (s : State) (m : MethodId) (args : Array Value) (below : List Frame) (meth : Method) (c : Code) (ls : Array Slot) (A : Nat → Prop) (Q : State → Prop), CallFix P m c cc maxL s args wl y.cls → (y.name = "<init>" → meth.name = "<init>") → Kx κ s → Tk A s s.heap → (∀ q, s.heap.size ≤ q → A q) →
      (∀ (u : S) {H : Heap} {locs : List Loc} {ls : Array Slot} {pc cells slots : Nat} {r : Int32}, St κ A s.heap H locs (W1 u) → decode cc pc = .ok (.ireturn, 1) → cells ≤ rm.cells → slots ≤ rm.slots → post r u → W P l e rm s m args below meth c H locs cells slots Q (F0 m pc ls [.int r])) →
      (∀ (E : String) {H : Heap} {locs : List Loc} {ls : Array Slot} {lv : List (Nat × Value)} {rest : List Value} {pc cells slots ik ist ic : Nat} {text : String}, St κ A s.heap H locs W0 → X E → (E = eIO ∨ E = eIA ∨ E = eIS) → lv_has ls maxL lv → Bundle.fit E = true → Cond.classLink y.cls ik E ∈ wl → Cond.initialized E ∈ wl → (∀ w ∈ (vx_atS y.cls ic E eUp).filter goodWord, w ∈ wl) → (∀ w ∈ (vx_atS y.cls ic E eUp).filter (fun w => !goodWord w), w ∈ Bx E) → (∀ w ∈ Cond.classLink y.cls ik E :: Cond.initialized E :: vx_atS y.cls ic E eUp, vx_ot w = true) → (∃ q : Nat, vk_R y.cls ist text q s) →
        decode cc pc = .ok (.new ik, 3) → decode cc (pc + 3) = .ok (.dup, 1) → decode cc (pc + 4) = .ok (.ldc ist, 2) → decode cc (pc + 6) = .ok (.invokespecial ic, 3) → decode cc (pc + 9) = .ok (.athrow, 1) → 5 < rm.frames → (rest.map fun v => v.category).sum + 82 ≤ rm.locals → cells + 1 ≤ rm.cells → slots + 6 ≤ rm.slots → W P l e rm s m args below meth c H locs cells slots Q (F0 m pc ls rest)) →
      (∀ {E : String} {ce : Cell} {q9 : Addr} {H : Heap} {locs : List Loc} {ls : Array Slot} {rest : List Value} {pc cells slots : Nat}, St κ A s.heap H locs W0 → X E → H[q9]? = some ce → ce.vm = .none → s.vm.findClass E = some ce.cls → cells ≤ rm.cells → slots ≤ rm.slots → vx_W P l e rm s m args below meth c H locs cells slots Q (F0 m pc ls rest) q9) →
      St κ A s.heap s.heap [] W0 → lv_has ls maxL (lv_args 0 as) → W P l e rm s m args below meth c s.heap [] 0 0 Q (F0 m 0 ls [])) : TGi l y wl rm κ as W0 X post W1 := by
  intro sz
  refine vx_ofW (cc := cc) (maxL := maxL) (ret := (some .int)) hy hw ?_
  intro p e s m args below meth c s₁ B hml htab hv
  obtain ⟨⟨rfl, hsz, hP, hK, hD0⟩, hT⟩ := hv
  subst hsz
  have hown : s.vm.findClass y.cls = some m.cls := findClass_of_methodNamed B.named
  have hname : meth.name = y.name := (name_of_methodNamed B.named B.method).1
  have hl := lv_entry as (n := maxL) hlen
  have hts := atoms_spec (ws := wl) B.pre
  rw [lg_entry_eq]
  refine body p e s m as.toArray below meth c _ _ _ ⟨B.exec, B.bytes, hml, hown, hts⟩ (fun h => hname.trans h) hK hT (fun q h => Or.inr h) ?_ ?_ ?_ ⟨hP, hD0.self, va_S.rf⟩ hl
  · intro u _ _ _ _ _ _ _ h1 h2 h3 h4 h5
    exact vx_ret (ret_i u B.exec B.bytes B.returns B.notSynchronized h1 h2 h3 h4 h5)
  · intro E H locs ls lv rest pc cells slots ik ist ic text hW hX hE hls hfit hcl hini hg hbd hot hstr d0 d3 d4 d6 d9 hf hlo hc hs
    obtain ⟨q, hq⟩ := hstr
    exact vx_throwS (names := eUp) B.exec B.bytes hst hown hfit (by decide) (hts _ hcl) (hts _ hini) hq (vx_hat (fun w h => hts w (hg w h)) hbd (hT.2.1.bx hE)) hot hT.1.1 hT.1.2 hW.2.2 (by rw [hls.1, hml]) d0 d3 d4 d6 d9 (fun x hx => (htab x hx).elim) hf hlo hc hs B.notSynchronized
      (fun t _ hz ho => ⟨(), trivial, ⟨hX, hW.1.kept (fun k q hk => ho q.1 ((hW.1 k q hk).lt)), hW.2.1⟩, Nat.le_trans hW.2.2.1 hz, fun q h1 h2 => (ho q (Nat.lt_of_lt_of_le h1 hW.2.2.1)).trans (hW.2.2.2.1 q h1 h2)⟩) hW.2.2.2.2 hc hs
  · intro E ce q9 H locs ls rest pc cells slots hW hX h1 h2 h3 hc hs
    exact vx_out (fun x hx => (htab x hx).elim) B.notSynchronized h1 h2 h3 (fun t ht _ => ⟨(), trivial, ⟨hX, by rw [ht]; exact hW.1, hW.2.1⟩, hW.2.2.F ht⟩) hW.2.2.2.2 hc hs
theorem entry_tz {S : Type} {X : String → Prop} {post : Int32 → S → Prop} {W1 : S → va_W} (hst : l.stackTraces = false) (hy : plainName y.cls = true) (hw : wl = Cond.code y cc maxL (some .boolean) :: wl') (hlen : (lg_sl as).length ≤ maxL)
    (body : ∀ (P : Program) (e : Env) (s : State) (m : MethodId) (args : Array Value) (below : List Frame) (meth : Method) (c : Code) (ls : Array Slot) (A : Nat → Prop) (Q : State → Prop), CallFix P m c cc maxL s args wl y.cls → (y.name = "<init>" → meth.name = "<init>") → Kx κ s → Tk A s s.heap → (∀ q, s.heap.size ≤ q → A q) →
      (∀ (u : S) {H : Heap} {locs : List Loc} {ls : Array Slot} {pc cells slots : Nat} {r : Int32}, St κ A s.heap H locs (W1 u) → decode cc pc = .ok (.ireturn, 1) → cells ≤ rm.cells → slots ≤ rm.slots → narrow .boolean (.int r) = .int r → post r u → W P l e rm s m args below meth c H locs cells slots Q (F0 m pc ls [.int r])) →
      (∀ (E : String) {H : Heap} {locs : List Loc} {ls : Array Slot} {lv : List (Nat × Value)} {rest : List Value} {pc cells slots ik ist ic : Nat} {text : String}, St κ A s.heap H locs W0 → X E → (E = eIO ∨ E = eIA ∨ E = eIS) → lv_has ls maxL lv → Bundle.fit E = true → Cond.classLink y.cls ik E ∈ wl → Cond.initialized E ∈ wl → (∀ w ∈ (vx_atS y.cls ic E eUp).filter goodWord, w ∈ wl) → (∀ w ∈ (vx_atS y.cls ic E eUp).filter (fun w => !goodWord w), w ∈ Bx E) → (∀ w ∈ Cond.classLink y.cls ik E :: Cond.initialized E :: vx_atS y.cls ic E eUp, vx_ot w = true) → (∃ q : Nat, vk_R y.cls ist text q s) →
        decode cc pc = .ok (.new ik, 3) → decode cc (pc + 3) = .ok (.dup, 1) → decode cc (pc + 4) = .ok (.ldc ist, 2) → decode cc (pc + 6) = .ok (.invokespecial ic, 3) → decode cc (pc + 9) = .ok (.athrow, 1) → 5 < rm.frames → (rest.map fun v => v.category).sum + 82 ≤ rm.locals → cells + 1 ≤ rm.cells → slots + 6 ≤ rm.slots → W P l e rm s m args below meth c H locs cells slots Q (F0 m pc ls rest)) →
      (∀ {E : String} {ce : Cell} {q9 : Addr} {H : Heap} {locs : List Loc} {ls : Array Slot} {rest : List Value} {pc cells slots : Nat}, St κ A s.heap H locs W0 → X E → H[q9]? = some ce → ce.vm = .none → s.vm.findClass E = some ce.cls → cells ≤ rm.cells → slots ≤ rm.slots → vx_W P l e rm s m args below meth c H locs cells slots Q (F0 m pc ls rest) q9) →
      St κ A s.heap s.heap [] W0 → lv_has ls maxL (lv_args 0 as) → W P l e rm s m args below meth c s.heap [] 0 0 Q (F0 m 0 ls [])) : TGi l y wl rm κ as W0 X post W1 := by
  intro sz
  refine vx_ofW (cc := cc) (maxL := maxL) (ret := (some .boolean)) hy hw ?_
  intro p e s m args below meth c s₁ B hml htab hv
  obtain ⟨⟨rfl, hsz, hP, hK, hD0⟩, hT⟩ := hv
  subst hsz
  have hown : s.vm.findClass y.cls = some m.cls := findClass_of_methodNamed B.named
  have hname : meth.name = y.name := (name_of_methodNamed B.named B.method).1
  have hl := lv_entry as (n := maxL) hlen
  have hts := atoms_spec (ws := wl) B.pre
  rw [lg_entry_eq]
  refine body p e s m as.toArray below meth c _ _ _ ⟨B.exec, B.bytes, hml, hown, hts⟩ (fun h => hname.trans h) hK hT (fun q h => Or.inr h) ?_ ?_ ?_ ⟨hP, hD0.self, va_S.rf⟩ hl
  · intro u _ _ _ _ _ _ _ h1 h2 h3 h4 hz h5
    exact vx_ret (ret_z u B.exec B.bytes B.returns B.notSynchronized h1 h2 h3 h4 hz h5)
  · intro E H locs ls lv rest pc cells slots ik ist ic text hW hX hE hls hfit hcl hini hg hbd hot hstr d0 d3 d4 d6 d9 hf hlo hc hs
    obtain ⟨q, hq⟩ := hstr
    exact vx_throwS (names := eUp) B.exec B.bytes hst hown hfit (by decide) (hts _ hcl) (hts _ hini) hq (vx_hat (fun w h => hts w (hg w h)) hbd (hT.2.1.bx hE)) hot hT.1.1 hT.1.2 hW.2.2 (by rw [hls.1, hml]) d0 d3 d4 d6 d9 (fun x hx => (htab x hx).elim) hf hlo hc hs B.notSynchronized
      (fun t _ hz ho => ⟨(), trivial, ⟨hX, hW.1.kept (fun k q hk => ho q.1 ((hW.1 k q hk).lt)), hW.2.1⟩, Nat.le_trans hW.2.2.1 hz, fun q h1 h2 => (ho q (Nat.lt_of_lt_of_le h1 hW.2.2.1)).trans (hW.2.2.2.1 q h1 h2)⟩) hW.2.2.2.2 hc hs
  · intro E ce q9 H locs ls rest pc cells slots hW hX h1 h2 h3 hc hs
    exact vx_out (fun x hx => (htab x hx).elim) B.notSynchronized h1 h2 h3 (fun t ht _ => ⟨(), trivial, ⟨hX, by rw [ht]; exact hW.1, hW.2.1⟩, hW.2.2.F ht⟩) hW.2.2.2.2 hc hs
theorem entry_tv {S : Type} {X : String → Prop} {post : S → Prop} {W1 : S → va_W} (hst : l.stackTraces = false) (hy : plainName y.cls = true) (hw : wl = Cond.code y cc maxL none :: wl') (hlen : (lg_sl as).length ≤ maxL)
    (body : ∀ (P : Program) (e : Env) (s : State) (m : MethodId) (args : Array Value) (below : List Frame) (meth : Method) (c : Code) (ls : Array Slot) (A : Nat → Prop) (Q : State → Prop), CallFix P m c cc maxL s args wl y.cls → (y.name = "<init>" → meth.name = "<init>") → Kx κ s → Tk A s s.heap → (∀ q, s.heap.size ≤ q → A q) →
      (∀ (u : S) {H : Heap} {locs : List Loc} {ls : Array Slot} {pc cells slots : Nat}, St κ A s.heap H locs (W1 u) → decode cc pc = .ok (.return_, 1) → cells ≤ rm.cells → slots ≤ rm.slots → post u → W P l e rm s m args below meth c H locs cells slots Q (F0 m pc ls [])) →
      (∀ (E : String) {H : Heap} {locs : List Loc} {ls : Array Slot} {lv : List (Nat × Value)} {rest : List Value} {pc cells slots ik ist ic : Nat} {text : String}, St κ A s.heap H locs W0 → X E → (E = eIO ∨ E = eIA ∨ E = eIS) → lv_has ls maxL lv → Bundle.fit E = true → Cond.classLink y.cls ik E ∈ wl → Cond.initialized E ∈ wl → (∀ w ∈ (vx_atS y.cls ic E eUp).filter goodWord, w ∈ wl) → (∀ w ∈ (vx_atS y.cls ic E eUp).filter (fun w => !goodWord w), w ∈ Bx E) → (∀ w ∈ Cond.classLink y.cls ik E :: Cond.initialized E :: vx_atS y.cls ic E eUp, vx_ot w = true) → (∃ q : Nat, vk_R y.cls ist text q s) →
        decode cc pc = .ok (.new ik, 3) → decode cc (pc + 3) = .ok (.dup, 1) → decode cc (pc + 4) = .ok (.ldc ist, 2) → decode cc (pc + 6) = .ok (.invokespecial ic, 3) → decode cc (pc + 9) = .ok (.athrow, 1) → 5 < rm.frames → (rest.map fun v => v.category).sum + 82 ≤ rm.locals → cells + 1 ≤ rm.cells → slots + 6 ≤ rm.slots → W P l e rm s m args below meth c H locs cells slots Q (F0 m pc ls rest)) →
      (∀ {E : String} {ce : Cell} {q9 : Addr} {H : Heap} {locs : List Loc} {ls : Array Slot} {rest : List Value} {pc cells slots : Nat}, St κ A s.heap H locs W0 → X E → H[q9]? = some ce → ce.vm = .none → s.vm.findClass E = some ce.cls → cells ≤ rm.cells → slots ≤ rm.slots → vx_W P l e rm s m args below meth c H locs cells slots Q (F0 m pc ls rest) q9) →
      St κ A s.heap s.heap [] W0 → lv_has ls maxL (lv_args 0 as) → W P l e rm s m args below meth c s.heap [] 0 0 Q (F0 m 0 ls [])) : TGv l y wl rm κ as W0 X post W1 := by
  intro sz
  refine vx_ofW (cc := cc) (maxL := maxL) (ret := none) hy hw ?_
  intro p e s m args below meth c s₁ B hml htab hv
  obtain ⟨⟨rfl, hsz, hP, hK, hD0⟩, hT⟩ := hv
  subst hsz
  have hown : s.vm.findClass y.cls = some m.cls := findClass_of_methodNamed B.named
  have hname : meth.name = y.name := (name_of_methodNamed B.named B.method).1
  have hl := lv_entry as (n := maxL) hlen
  have hts := atoms_spec (ws := wl) B.pre
  rw [lg_entry_eq]
  refine body p e s m as.toArray below meth c _ _ _ ⟨B.exec, B.bytes, hml, hown, hts⟩ (fun h => hname.trans h) hK hT (fun q h => Or.inr h) ?_ ?_ ?_ ⟨hP, hD0.self, va_S.rf⟩ hl
  · intro u _ _ _ _ _ _ h1 h2 h3 h4 h5
    exact vx_ret (ret_v u B.exec B.bytes B.returns B.notSynchronized h1 h2 h3 h4 h5)
  · intro E H locs ls lv rest pc cells slots ik ist ic text hW hX hE hls hfit hcl hini hg hbd hot hstr d0 d3 d4 d6 d9 hf hlo hc hs
    obtain ⟨q, hq⟩ := hstr
    exact vx_throwS (names := eUp) B.exec B.bytes hst hown hfit (by decide) (hts _ hcl) (hts _ hini) hq (vx_hat (fun w h => hts w (hg w h)) hbd (hT.2.1.bx hE)) hot hT.1.1 hT.1.2 hW.2.2 (by rw [hls.1, hml]) d0 d3 d4 d6 d9 (fun x hx => (htab x hx).elim) hf hlo hc hs B.notSynchronized
      (fun t _ hz ho => ⟨(), trivial, ⟨hX, hW.1.kept (fun k q hk => ho q.1 ((hW.1 k q hk).lt)), hW.2.1⟩, Nat.le_trans hW.2.2.1 hz, fun q h1 h2 => (ho q (Nat.lt_of_lt_of_le h1 hW.2.2.1)).trans (hW.2.2.2.1 q h1 h2)⟩) hW.2.2.2.2 hc hs
  · intro E ce q9 H locs ls rest pc cells slots hW hX h1 h2 h3 hc hs
    exact vx_out (fun x hx => (htab x hx).elim) B.notSynchronized h1 h2 h3 (fun t ht _ => ⟨(), trivial, ⟨hX, by rw [ht]; exact hW.1, hW.2.1⟩, hW.2.2.F ht⟩) hW.2.2.2.2 hc hs
theorem entry_tl {S : Type} {X : String → Prop} {post : Int64 → S → Prop} {W1 : S → va_W} (hst : l.stackTraces = false) (hy : plainName y.cls = true) (hw : wl = Cond.code y cc maxL (some .long) :: wl') (hlen : (lg_sl as).length ≤ maxL)
    (body : ∀ (P : Program) (e : Env) (s : State) (m : MethodId) (args : Array Value) (below : List Frame) (meth : Method) (c : Code) (ls : Array Slot) (A : Nat → Prop) (Q : State → Prop), CallFix P m c cc maxL s args wl y.cls → (y.name = "<init>" → meth.name = "<init>") → Kx κ s → Tk A s s.heap → (∀ q, s.heap.size ≤ q → A q) →
      (∀ (u : S) {H : Heap} {locs : List Loc} {ls : Array Slot} {pc cells slots : Nat} {r : Int64}, St κ A s.heap H locs (W1 u) → decode cc pc = .ok (.lreturn, 1) → cells ≤ rm.cells → slots ≤ rm.slots → post r u → W P l e rm s m args below meth c H locs cells slots Q (F0 m pc ls [.long r])) →
      (∀ (E : String) {H : Heap} {locs : List Loc} {ls : Array Slot} {lv : List (Nat × Value)} {rest : List Value} {pc cells slots ik ist ic : Nat} {text : String}, St κ A s.heap H locs W0 → X E → (E = eIO ∨ E = eIA ∨ E = eIS) → lv_has ls maxL lv → Bundle.fit E = true → Cond.classLink y.cls ik E ∈ wl → Cond.initialized E ∈ wl → (∀ w ∈ (vx_atS y.cls ic E eUp).filter goodWord, w ∈ wl) → (∀ w ∈ (vx_atS y.cls ic E eUp).filter (fun w => !goodWord w), w ∈ Bx E) → (∀ w ∈ Cond.classLink y.cls ik E :: Cond.initialized E :: vx_atS y.cls ic E eUp, vx_ot w = true) → (∃ q : Nat, vk_R y.cls ist text q s) →
        decode cc pc = .ok (.new ik, 3) → decode cc (pc + 3) = .ok (.dup, 1) → decode cc (pc + 4) = .ok (.ldc ist, 2) → decode cc (pc + 6) = .ok (.invokespecial ic, 3) → decode cc (pc + 9) = .ok (.athrow, 1) → 5 < rm.frames → (rest.map fun v => v.category).sum + 82 ≤ rm.locals → cells + 1 ≤ rm.cells → slots + 6 ≤ rm.slots → W P l e rm s m args below meth c H locs cells slots Q (F0 m pc ls rest)) →
      (∀ {E : String} {ce : Cell} {q9 : Addr} {H : Heap} {locs : List Loc} {ls : Array Slot} {rest : List Value} {pc cells slots : Nat}, St κ A s.heap H locs W0 → X E → H[q9]? = some ce → ce.vm = .none → s.vm.findClass E = some ce.cls → cells ≤ rm.cells → slots ≤ rm.slots → vx_W P l e rm s m args below meth c H locs cells slots Q (F0 m pc ls rest) q9) →
      St κ A s.heap s.heap [] W0 → lv_has ls maxL (lv_args 0 as) → W P l e rm s m args below meth c s.heap [] 0 0 Q (F0 m 0 ls [])) : TGl l y wl rm κ as W0 X post W1 := by
  intro sz
  refine vx_ofW (cc := cc) (maxL := maxL) (ret := (some .long)) hy hw ?_
  intro p e s m args below meth c s₁ B hml htab hv
  obtain ⟨⟨rfl, hsz, hP, hK, hD0⟩, hT⟩ := hv
  subst hsz
  have hown : s.vm.findClass y.cls = some m.cls := findClass_of_methodNamed B.named
  have hname : meth.name = y.name := (name_of_methodNamed B.named B.method).1
  have hl := lv_entry as (n := maxL) hlen
  have hts := atoms_spec (ws := wl) B.pre
  rw [lg_entry_eq]
  refine body p e s m as.toArray below meth c _ _ _ ⟨B.exec, B.bytes, hml, hown, hts⟩ (fun h => hname.trans h) hK hT (fun q h => Or.inr h) ?_ ?_ ?_ ⟨hP, hD0.self, va_S.rf⟩ hl
  · intro u _ _ _ _ _ _ _ h1 h2 h3 h4 h5
    exact vx_ret (ret_l u B.exec B.bytes B.returns B.notSynchronized h1 h2 h3 h4 h5)
  · intro E H locs ls lv rest pc cells slots ik ist ic text hW hX hE hls hfit hcl hini hg hbd hot hstr d0 d3 d4 d6 d9 hf hlo hc hs
    obtain ⟨q, hq⟩ := hstr
    exact vx_throwS (names := eUp) B.exec B.bytes hst hown hfit (by decide) (hts _ hcl) (hts _ hini) hq (vx_hat (fun w h => hts w (hg w h)) hbd (hT.2.1.bx hE)) hot hT.1.1 hT.1.2 hW.2.2 (by rw [hls.1, hml]) d0 d3 d4 d6 d9 (fun x hx => (htab x hx).elim) hf hlo hc hs B.notSynchronized
      (fun t _ hz ho => ⟨(), trivial, ⟨hX, hW.1.kept (fun k q hk => ho q.1 ((hW.1 k q hk).lt)), hW.2.1⟩, Nat.le_trans hW.2.2.1 hz, fun q h1 h2 => (ho q (Nat.lt_of_lt_of_le h1 hW.2.2.1)).trans (hW.2.2.2.1 q h1 h2)⟩) hW.2.2.2.2 hc hs
  · intro E ce q9 H locs ls rest pc cells slots hW hX h1 h2 h3 hc hs
    exact vx_out (fun x hx => (htab x hx).elim) B.notSynchronized h1 h2 h3 (fun t ht _ => ⟨(), trivial, ⟨hX, by rw [ht]; exact hW.1, hW.2.1⟩, hW.2.2.F ht⟩) hW.2.2.2.2 hc hs
end EntriesT
section PreTs
variable {s : State} {κ : Kp} {A : Nat → Prop} {H : Heap} {locs : List Loc} {ws wc : va_W} {as As : List Value} {b : Nat}
theorem pre_ST (hK : Kx κ s) (hT : Tk A s s.heap) (hW : St κ A s.heap H locs ws) (hA : ∀ q, s.heap.size ≤ q → A q) (isC : List Nat) (hC : isC.map (fun i => ws[i]?) = wc.map some) (hCn : va_nd isC = true) : PreS s H (PreT κ as wc H.size) as :=
  ⟨PreT.blind, fun U hU hWm => ⟨(pre_S hK hW isC hC hCn).2 U hU hWm, hT.to hW.2.2 (va_free hW.2.1 hW.2.2 hA isC hC) hU hWm⟩⟩
theorem pre_VT (hK : Kx κ s) (hT : Tk A s s.heap) (hW : St κ A s.heap H locs ws) (hA : ∀ q, s.heap.size ≤ q → A q) (isC : List Nat) (hC : isC.map (fun i => ws[i]?) = wc.map some) (hCn : va_nd isC = true) (ci q0 : Nat) {q : vw_C} {fs : List Value} (hc : vwCl[ci]? = some q) (he : ws[q0]? = some (b, .inr (ci, fs))) : PreV s H q.1 b (PreT κ (.ref b :: As) wc H.size) As :=
  ⟨PreT.blind, va_recv hK.1 hW.1 hc he, fun U hU hWm => ⟨(pre_V hK hW isC hC hCn ci q0 hc he).2.2 U hU hWm, hT.to hW.2.2 (va_free hW.2.1 hW.2.2 hA isC hC) hU hWm⟩⟩
end PreTs
section FinT
variable {p : Program} {l : Launch} {e : Env} {R : Room} {s : State} {m : MethodId} {args : Array Value} {below : List Frame} {meth : Method} {c : Code} {H : Heap} {locs : List Loc} {cells slots mc ms : Nat} {Q : State → Prop} {pc : Nat} {ls : Array Slot} {rest st0 : List Value} {a : Array Value} {κ : Kp} {A : Nat → Prop} {H0 : Heap} {ws W0 : va_W}
theorem fint_i {S : Type} {X : String → Prop} {post : Int32 → S → Prop} {W1 W2 : S → va_W} (k n : Nat) (isC isR pm : List Nat) (hW : St κ A H0 H locs ws) (hA : ∀ q, H0.size ≤ q → A q)
    (hr : vx_Run p l e R s m args below meth c H locs cells slots mc ms (F0 m pc ls st0) rest (va_Qi post (fun u => PW κ (W1 u) (va_A W0 H.size)) (va_A W0 H.size) a) (XQ κ W0 (va_A W0 H.size) X) (va_A W0 H.size))
    (hC : isC.map (fun i => ws[i]?) = W0.map some) (hR : isR.all (fun i => decide (i < ws.length)) = true) (hn : va_nd isR = true) (hdis : ∀ i ∈ isR, i ∉ isC) (hpn : va_nd pm = true) (hpm : ∀ u, pm.map (fun i => (isR.filterMap (fun i => ws[i]?) ++ W1 u)[i]?) = (W2 u).map some) (hpx : pm.map (fun i => (isR.filterMap (fun i => ws[i]?) ++ W0)[i]?) = ws.map some) (hk : cells + mc ≤ k) (hs : slots + ms ≤ n)
    (kx : ∀ (E : String) (ce : Cell) (q9 : Addr) (H1 : Heap) (locs1 : List Loc), X E → St κ A H0 H1 locs1 ws → H1[q9]? = some ce → ce.vm = .none → s.vm.findClass E = some ce.cls → vx_W p l e R s m args below meth c H1 locs1 k n Q (F0 m pc ls rest) q9)
    (kk : ∀ (r : Int32) (u : S) (H1 : Heap) (locs1 : List Loc), post r u → St κ A H0 H1 locs1 (W2 u) → W p l e R s m args below meth c H1 locs1 k n Q (F0 m (pc + 3) ls (.int r :: rest))) : W p l e R s m args below meth c H locs cells slots Q (F0 m pc ls st0) := by
  have hF := va_free hW.2.1 hW.2.2 hA isC hC
  refine vx_calli hr hW.2.2 (fun q _ h => hF q h) hF (fun q _ h => hF q h) (fun E ce q9 u t H1 locs1 ht hvm hw hB hz1 hk1 hS g1 g2 g3 => vx_widen hk hs ?_) (fun r u t H1 locs1 ht hvm hw hB hz1 hk1 hS => W.widen hk hs ?_)
  · have hB1 : va_P (kD κ) vwCl W0 H1 := by rw [← ht]; exact hB.2.1
    exact kx E ce q9 H1 locs1 hB.1 (St.join hW hA isC isR pm hC hR hn hdis hpn hpx hk1 hB1 hB.2.2 hS) g1 g2 g3
  · have hB1 : va_P (kD κ) vwCl (W1 u) H1 := by rw [← ht]; exact hB.1
    exact kk r u H1 locs1 hw (St.join hW hA isC isR pm hC hR hn hdis hpn (hpm u) hk1 hB1 hB.2 hS)
theorem fint_v {S : Type} {X : String → Prop} {post : S → Prop} {W1 W2 : S → va_W} (k n : Nat) (isC isR pm : List Nat) (hW : St κ A H0 H locs ws) (hA : ∀ q, H0.size ≤ q → A q)
    (hr : vx_Run p l e R s m args below meth c H locs cells slots mc ms (F0 m pc ls st0) rest (va_Qv post (fun u => PW κ (W1 u) (va_A W0 H.size)) (va_A W0 H.size) a) (XQ κ W0 (va_A W0 H.size) X) (va_A W0 H.size))
    (hC : isC.map (fun i => ws[i]?) = W0.map some) (hR : isR.all (fun i => decide (i < ws.length)) = true) (hn : va_nd isR = true) (hdis : ∀ i ∈ isR, i ∉ isC) (hpn : va_nd pm = true) (hpm : ∀ u, pm.map (fun i => (isR.filterMap (fun i => ws[i]?) ++ W1 u)[i]?) = (W2 u).map some) (hpx : pm.map (fun i => (isR.filterMap (fun i => ws[i]?) ++ W0)[i]?) = ws.map some) (hk : cells + mc ≤ k) (hs : slots + ms ≤ n)
    (kx : ∀ (E : String) (ce : Cell) (q9 : Addr) (H1 : Heap) (locs1 : List Loc), X E → St κ A H0 H1 locs1 ws → H1[q9]? = some ce → ce.vm = .none → s.vm.findClass E = some ce.cls → vx_W p l e R s m args below meth c H1 locs1 k n Q (F0 m pc ls rest) q9)
    (kk : ∀ (u : S) (H1 : Heap) (locs1 : List Loc), post u → St κ A H0 H1 locs1 (W2 u) → W p l e R s m args below meth c H1 locs1 k n Q (F0 m (pc + 3) ls rest)) : W p l e R s m args below meth c H locs cells slots Q (F0 m pc ls st0) := by
  have hF := va_free hW.2.1 hW.2.2 hA isC hC
  refine vx_callv hr hW.2.2 (fun q _ h => hF q h) hF (fun q _ h => hF q h) (fun E ce q9 u t H1 locs1 ht hvm hw hB hz1 hk1 hS g1 g2 g3 => vx_widen hk hs ?_) (fun u t H1 locs1 ht hvm hw hB hz1 hk1 hS => W.widen hk hs ?_)
  · have hB1 : va_P (kD κ) vwCl W0 H1 := by rw [← ht]; exact hB.2.1
    exact kx E ce q9 H1 locs1 hB.1 (St.join hW hA isC isR pm hC hR hn hdis hpn hpx hk1 hB1 hB.2.2 hS) g1 g2 g3
  · have hB1 : va_P (kD κ) vwCl (W1 u) H1 := by rw [← ht]; exact hB.1
    exact kk u H1 locs1 hw (St.join hW hA isC isR pm hC hR hn hdis hpn (hpm u) hk1 hB1 hB.2 hS)
theorem fint_l {S : Type} {X : String → Prop} {post : Int64 → S → Prop} {W1 W2 : S → va_W} (k n : Nat) (isC isR pm : List Nat) (hW : St κ A H0 H locs ws) (hA : ∀ q, H0.size ≤ q → A q)
    (hr : vx_Run p l e R s m args below meth c H locs cells slots mc ms (F0 m pc ls st0) rest (va_Ql post (fun u => PW κ (W1 u) (va_A W0 H.size)) (va_A W0 H.size) a) (XQ κ W0 (va_A W0 H.size) X) (va_A W0 H.size))
    (hC : isC.map (fun i => ws[i]?) = W0.map some) (hR : isR.all (fun i => decide (i < ws.length)) = true) (hn : va_nd isR = true) (hdis : ∀ i ∈ isR, i ∉ isC) (hpn : va_nd pm = true) (hpm : ∀ u, pm.map (fun i => (isR.filterMap (fun i => ws[i]?) ++ W1 u)[i]?) = (W2 u).map some) (hpx : pm.map (fun i => (isR.filterMap (fun i => ws[i]?) ++ W0)[i]?) = ws.map some) (hk : cells + mc ≤ k) (hs : slots + ms ≤ n)
    (kx : ∀ (E : String) (ce : Cell) (q9 : Addr) (H1 : Heap) (locs1 : List Loc), X E → St κ A H0 H1 locs1 ws → H1[q9]? = some ce → ce.vm = .none → s.vm.findClass E = some ce.cls → vx_W p l e R s m args below meth c H1 locs1 k n Q (F0 m pc ls rest) q9)
    (kk : ∀ (r : Int64) (u : S) (H1 : Heap) (locs1 : List Loc), post r u → St κ A H0 H1 locs1 (W2 u) → W p l e R s m args below meth c H1 locs1 k n Q (F0 m (pc + 3) ls (.long r :: rest))) : W p l e R s m args below meth c H locs cells slots Q (F0 m pc ls st0) := by
  have hF := va_free hW.2.1 hW.2.2 hA isC hC
  refine vx_calll hr hW.2.2 (fun q _ h => hF q h) hF (fun q _ h => hF q h) (fun E ce q9 u t H1 locs1 ht hvm hw hB hz1 hk1 hS g1 g2 g3 => vx_widen hk hs ?_) (fun r u t H1 locs1 ht hvm hw hB hz1 hk1 hS => W.widen hk hs ?_)
  · have hB1 : va_P (kD κ) vwCl W0 H1 := by rw [← ht]; exact hB.2.1
    exact kx E ce q9 H1 locs1 hB.1 (St.join hW hA isC isR pm hC hR hn hdis hpn hpx hk1 hB1 hB.2.2 hS) g1 g2 g3
  · have hB1 : va_P (kD κ) vwCl (W1 u) H1 := by rw [← ht]; exact hB.1
    exact kk r u H1 locs1 hw (St.join hW hA isC isR pm hC hR hn hdis hpn (hpm u) hk1 hB1 hB.2 hS)
end FinT
