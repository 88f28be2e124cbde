/-! ===== contracts over a world, in one form ===== -/
def Kx (κ : Kp) (U : State) : Prop := va_K (kD κ) vwCl (kT κ) U ∧ va_Nw (.methodLinkNest RX0 73 yX1_isAccord RX1) U ∧ va_Nw (.methodLinkNest RX1 9 yX0_init RX1) U ∧ KQ κ U ∧ va_Nw (.methodLinkNest RL 52 yX2_init RL) U
theorem Kx.warm {κ : Kp} {s U : State} (hW : s.WarmedH U.vm) (h : Kx κ s) : Kx κ U := ⟨va_K.moved hW.alike h.1, va_Nw.warmM hW h.2.1, va_Nw.warmM hW h.2.2.1, h.2.2.2.1.moved hW.alike, va_Nw.warmM hW h.2.2.2.2⟩
theorem Kx.calling {κ : Kp} {U : State} {g : JFrame} {mk : MethodId} {a : Array Value} (h : Kx κ U) : Kx κ (U.calling g mk a) := ⟨va_K.moved (u := U) (U := U.calling g mk a) (Vm.Alike.refl U.vm) h.1, va_Nw.same (u := U) (U := U.calling g mk a) rfl rfl h.2.1, va_Nw.same (u := U) (U := U.calling g mk a) rfl rfl h.2.2.1, h.2.2.2.1.moved (u := U) (U := U.calling g mk a) (Vm.Alike.refl U.vm), va_Nw.same (u := U) (U := U.calling g mk a) rfl rfl h.2.2.2.2⟩
def PreC (κ : Kp) (as : List Value) (W0 : va_W) (sz : Nat) : Array Value → State → Prop := va_Pc as (fun U => U.heap.size = sz ∧ va_P (kD κ) vwCl W0 U.heap ∧ Kx κ U ∧ va_D (fun _ => True) W0)
def PW (κ : Kp) (W1 : va_W) (A : Nat → Prop) (t : State) : Prop := va_P (kD κ) vwCl W1 t.heap ∧ va_D A W1
def CGi {S : Type} (l : Launch) (y : MethodName) (wl : List Cond) (rm : Room) (κ : Kp) (as : List Value) (W0 : va_W) (post : Int32 → S → Prop) (W1 : S → va_W) : Prop :=
  ∀ sz, Met l y wl rm (PreC κ as W0 sz) (va_Qi post (fun u => PW κ (W1 u) (va_A W0 sz)) (va_A W0 sz)) rm.cells rm.slots (va_A W0 sz)
def CGv {S : Type} (l : Launch) (y : MethodName) (wl : List Cond) (rm : Room) (κ : Kp) (as : List Value) (W0 : va_W) (post : S → Prop) (W1 : S → va_W) : Prop :=
  ∀ sz, Met l y wl rm (PreC κ as W0 sz) (va_Qv post (fun u => PW κ (W1 u) (va_A W0 sz)) (va_A W0 sz)) rm.cells rm.slots (va_A W0 sz)
def CGl {S : Type} (l : Launch) (y : MethodName) (wl : List Cond) (rm : Room) (κ : Kp) (as : List Value) (W0 : va_W) (post : Int64 → S → Prop) (W1 : S → va_W) : Prop :=
  ∀ sz, Met l y wl rm (PreC κ as W0 sz) (va_Ql post (fun u => PW κ (W1 u) (va_A W0 sz)) (va_A W0 sz)) rm.cells rm.slots (va_A W0 sz)
def CGd {S : Type} (l : Launch) (y : MethodName) (wl : List Cond) (rm : Room) (κ : Kp) (as : List Value) (W0 : va_W) (post : UInt64 → S → Prop) (W1 : S → va_W) : Prop :=
  ∀ sz, Met l y wl rm (PreC κ as W0 sz) (va_Qd post (fun u => PW κ (W1 u) (va_A W0 sz)) (va_A W0 sz)) rm.cells rm.slots (va_A W0 sz)
theorem PreC.blind {κ : Kp} {as : List Value} {W0 : va_W} {sz : Nat} : FrameBlind (PreC κ as W0 sz) := fun a U g mk q => ⟨q.1, q.2.1, q.2.2.1, q.2.2.2.1.calling, q.2.2.2.2⟩
section Entry
variable {l : Launch} {y : MethodName} {wl wl' : List Cond} {rm : Room} {κ : Kp} {as : List Value} {W0 : va_W} {cc : ByteArray} {maxL : Nat} {ret : Option FieldType}
/-- the walk of a body, whatever its end -/
theorem entry_of {Qc : Nat → Array Value → State → Outcome → State → Prop} (hy : plainName y.cls = true) (hw : wl = Cond.code y cc maxL ret :: wl') (hlen : (lg_sl as).length ≤ maxL)
    (body : ∀ (p : Program) (e : Env) (s : State) (m : MethodId) (below : List Frame) (meth : Method) (c : Code) (ls : Array Slot) (A : Nat → Prop), A = va_A W0 s.heap.size → CallFix p m c cc maxL s as.toArray wl y.cls → meth.sig.returnType = ret → meth.locks = false → (y.name = "<init>" → meth.name = "<init>") → Kx κ s → (∀ q, s.heap.size ≤ q → A q) → St κ A s.heap s.heap [] W0 → lv_has ls maxL (lv_args 0 as) →
      W p l e rm s m as.toArray below meth c s.heap [] 0 0 (MQ below (Qc s.heap.size) as.toArray s rm.cells rm.slots A) (F0 m 0 ls [])) : ∀ sz, Met l y wl rm (PreC κ as W0 sz) (Qc sz) rm.cells rm.slots (va_A W0 sz) := by
  intro sz
  refine Met.ofW (cc := cc) (maxL := maxL) (ret := ret) hy hw ?_
  intro p e s m args below meth c s₁ B hml hv
  obtain ⟨rfl, hsz, hP, hK, hD0⟩ := hv
  subst hsz
  have hown : s.vm.findClass y.cls = some m.cls := findClass_of_methodNamed B.named
  have hname : meth.name = y.name := (name_of_methodNamed B.named B.method).1
  have hl := lv_entry as (n := maxL) hlen
  rw [lg_entry_eq]
  exact body p e s m below meth c _ (va_A W0 s.heap.size) rfl ⟨B.exec, B.bytes, hml, hown, atoms_spec (ws := wl) B.pre⟩ B.returns B.notSynchronized (fun h => hname.trans h) hK (fun q h => Or.inr h) ⟨hP, hD0.self, va_S.rf⟩ hl
end Entry
section Ends
variable {p : Program} {l : Launch} {e : Env} {R : Room} {s : State} {m : MethodId} {args : Array Value} {below : List Frame} {meth : Method} {c : Code} {H : Heap} {locs : List Loc} {cells slots mc ms : Nat} {cc : ByteArray} {pc : Nat} {ls : Array Slot} {κ : Kp} {A : Nat → Prop}
theorem ret_i {S : Type} {post : Int32 → S → Prop} {W1 : S → va_W} {r : Int32} (u : S) (hx : p.tables.exec = Jvm.exec) (hb : c.code = cc) (hr : meth.sig.returnType = some .int) (hlk : meth.locks = false) (hW : St κ A s.heap H locs (W1 u)) (hdg : decode cc pc = .ok (.ireturn, 1)) (hc : cells ≤ mc) (hs : slots ≤ ms) (hp : post r u) :
    W p l e R s m args below meth c H locs cells slots (MQ below (va_Qi post (fun u => PW κ (W1 u) A) A) args s mc ms A) (F0 m pc ls [.int r]) :=
  W.widen hc hs (W.iret hx hb hr (fun t ht _ => ⟨⟨r, u, rfl, hp, by rw [ht]; exact hW.1, hW.2.1⟩, hW.2.2.F ht⟩) hW.2.2.2.2 hdg hlk)
theorem ret_z {S : Type} {post : Int32 → S → Prop} {W1 : S → va_W} {r : Int32} (u : S) (hx : p.tables.exec = Jvm.exec) (hb : c.code = cc) (hr : meth.sig.returnType = some .boolean) (hlk : meth.locks = false) (hW : St κ A s.heap H locs (W1 u)) (hdg : decode cc pc = .ok (.ireturn, 1)) (hc : cells ≤ mc) (hs : slots ≤ ms) (hn : narrow .boolean (.int r) = .int r) (hp : post r u) :
    W p l e R s m args below meth c H locs cells slots (MQ below (va_Qi post (fun u => PW κ (W1 u) A) A) args s mc ms A) (F0 m pc ls [.int r]) :=
  W.widen hc hs (W.zret hx hb hr hn (fun t ht _ => ⟨⟨r, u, rfl, hp, by rw [ht]; exact hW.1, hW.2.1⟩, hW.2.2.F ht⟩) hW.2.2.2.2 hdg hlk)
theorem ret_v {S : Type} {post : S → Prop} {W1 : S → va_W} (u : S) (hx : p.tables.exec = Jvm.exec) (hb : c.code = cc) (hr : meth.sig.returnType = none) (hlk : meth.locks = false) (hW : St κ A s.heap H locs (W1 u)) (hdg : decode cc pc = .ok (.return_, 1)) (hc : cells ≤ mc) (hs : slots ≤ ms) (hp : post u) :
    W p l e R s m args below meth c H locs cells slots (MQ below (va_Qv post (fun u => PW κ (W1 u) A) A) args s mc ms A) (F0 m pc ls []) :=
  W.widen hc hs (W.vret hx hb hr (fun t ht _ => ⟨⟨u, rfl, hp, by rw [ht]; exact hW.1, hW.2.1⟩, hW.2.2.F ht⟩) hW.2.2.2.2 hdg hlk)
theorem ret_l {S : Type} {post : Int64 → S → Prop} {W1 : S → va_W} {r : Int64} (u : S) (hx : p.tables.exec = Jvm.exec) (hb : c.code = cc) (hr : meth.sig.returnType = some .long) (hlk : meth.locks = false) (hW : St κ A s.heap H locs (W1 u)) (hdg : decode cc pc = .ok (.lreturn, 1)) (hc : cells ≤ mc) (hs : slots ≤ ms) (hp : post r u) :
    W p l e R s m args below meth c H locs cells slots (MQ below (va_Ql post (fun u => PW κ (W1 u) A) A) args s mc ms A) (F0 m pc ls [.long r]) :=
  W.widen hc hs (W.lret hx hb hr (fun t ht _ => ⟨⟨r, u, rfl, hp, by rw [ht]; exact hW.1, hW.2.1⟩, hW.2.2.F ht⟩) hW.2.2.2.2 hdg hlk)
theorem ret_d {S : Type} {post : UInt64 → S → Prop} {W1 : S → va_W} {r : UInt64} (u : S) (hx : p.tables.exec = Jvm.exec) (hb : c.code = cc) (hr : meth.sig.returnType = some .double) (hlk : meth.locks = false) (hW : St κ A s.heap H locs (W1 u)) (hdg : decode cc pc = .ok (.dreturn, 1)) (hc : cells ≤ mc) (hs : slots ≤ ms) (hp : post r u) :
    W p l e R s m args below meth c H locs cells slots (MQ below (va_Qd post (fun u => PW κ (W1 u) A) A) args s mc ms A) (F0 m pc ls [.double r]) :=
  W.widen hc hs (W.dret hx hb hr (fun t ht _ => ⟨⟨r, u, rfl, hp, by rw [ht]; exact hW.1, hW.2.1⟩, hW.2.2.F ht⟩) hW.2.2.2.2 hdg hlk)
end Ends
section Entries
variable {l : Launch} {y : MethodName} {wl wl' : List Cond} {rm : Room} {κ : Kp} {as : List Value} {W0 : va_W} {cc : ByteArray} {maxL : Nat}
theorem entry_i {S : Type} {post : Int32 → S → Prop} {W1 : S → va_W} (hy : plainName y.cls = true) (hw : wl = Cond.code y cc maxL (some .int) :: wl') (hlen : (lg_sl as).length ≤ maxL)
    (body : ∀ (P : Program) (e : Env) (s : State) (m : MethodId) (args : Array Value) (below : List Frame) (meth : Method) (c : Code) (ls : Array Slot) (A : Nat → Prop) (Q : State → Prop), CallFix P m c cc maxL s args wl y.cls → (y.name = "<init>" → meth.name = "<init>") → Kx κ s → (∀ q, s.heap.size ≤ q → A q) →
      (∀ (u : S) {H : Heap} {locs : List Loc} {ls : Array Slot} {pc cells slots : Nat} {r : Int32}, St κ A s.heap H locs (W1 u) → decode cc pc = .ok (.ireturn, 1) → cells ≤ rm.cells → slots ≤ rm.slots → post r u → W P l e rm s m args below meth c H locs cells slots Q (F0 m pc ls [.int r])) →
      St κ A s.heap s.heap [] W0 → lv_has ls maxL (lv_args 0 as) → W P l e rm s m args below meth c s.heap [] 0 0 Q (F0 m 0 ls [])) : CGi l y wl rm κ as W0 post W1 := by
  refine entry_of hy hw hlen (fun P e s m below meth c ls A hAe F hr hlk hnm hK hA hW hl => ?_)
  subst hAe
  exact body P e s m as.toArray below meth c ls _ _ F hnm hK hA (fun u _ _ _ _ _ _ _ h1 h2 h3 h4 h5 => ret_i u F.1 F.2.1 hr hlk h1 h2 h3 h4 h5) hW hl
theorem entry_z {S : Type} {post : Int32 → S → Prop} {W1 : S → va_W} (hy : plainName y.cls = true) (hw : wl = Cond.code y cc maxL (some .boolean) :: wl') (hlen : (lg_sl as).length ≤ maxL)
    (body : ∀ (P : Program) (e : Env) (s : State) (m : MethodId) (args : Array Value) (below : List Frame) (meth : Method) (c : Code) (ls : Array Slot) (A : Nat → Prop) (Q : State → Prop), CallFix P m c cc maxL s args wl y.cls → (y.name = "<init>" → meth.name = "<init>") → Kx κ s → (∀ q, s.heap.size ≤ q → A q) →
      (∀ (u : S) {H : Heap} {locs : List Loc} {ls : Array Slot} {pc cells slots : Nat} {r : Int32}, St κ A s.heap H locs (W1 u) → decode cc pc = .ok (.ireturn, 1) → cells ≤ rm.cells → slots ≤ rm.slots → narrow .boolean (.int r) = .int r → post r u → W P l e rm s m args below meth c H locs cells slots Q (F0 m pc ls [.int r])) →
      St κ A s.heap s.heap [] W0 → lv_has ls maxL (lv_args 0 as) → W P l e rm s m args below meth c s.heap [] 0 0 Q (F0 m 0 ls [])) : CGi l y wl rm κ as W0 post W1 := by
  refine entry_of hy hw hlen (fun P e s m below meth c ls A hAe F hr hlk hnm hK hA hW hl => ?_)
  subst hAe
  exact body P e s m as.toArray below meth c ls _ _ F hnm hK hA (fun u _ _ _ _ _ _ _ h1 h2 h3 h4 hz h5 => ret_z u F.1 F.2.1 hr hlk h1 h2 h3 h4 hz h5) hW hl
theorem entry_v {S : Type} {post : S → Prop} {W1 : S → va_W} (hy : plainName y.cls = true) (hw : wl = Cond.code y cc maxL none :: wl') (hlen : (lg_sl as).length ≤ maxL)
    (body : ∀ (P : Program) (e : Env) (s : State) (m : MethodId) (args : Array Value) (below : List Frame) (meth : Method) (c : Code) (ls : Array Slot) (A : Nat → Prop) (Q : State → Prop), CallFix P m c cc maxL s args wl y.cls → (y.name = "<init>" → meth.name = "<init>") → Kx κ s → (∀ q, s.heap.size ≤ q → A q) →
      (∀ (u : S) {H : Heap} {locs : List Loc} {ls : Array Slot} {pc cells slots : Nat}, St κ A s.heap H locs (W1 u) → decode cc pc = .ok (.return_, 1) → cells ≤ rm.cells → slots ≤ rm.slots → post u → W P l e rm s m args below meth c H locs cells slots Q (F0 m pc ls [])) →
      St κ A s.heap s.heap [] W0 → lv_has ls maxL (lv_args 0 as) → W P l e rm s m args below meth c s.heap [] 0 0 Q (F0 m 0 ls [])) : CGv l y wl rm κ as W0 post W1 := by
  refine entry_of hy hw hlen (fun P e s m below meth c ls A hAe F hr hlk hnm hK hA hW hl => ?_)
  subst hAe
  exact body P e s m as.toArray below meth c ls _ _ F hnm hK hA (fun u _ _ _ _ _ _ h1 h2 h3 h4 h5 => ret_v u F.1 F.2.1 hr hlk h1 h2 h3 h4 h5) hW hl
theorem entry_l {S : Type} {post : Int64 → S → Prop} {W1 : S → va_W} (hy : plainName y.cls = true) (hw : wl = Cond.code y cc maxL (some .long) :: wl') (hlen : (lg_sl as).length ≤ maxL)
    (body : ∀ (P : Program) (e : Env) (s : State) (m : MethodId) (args : Array Value) (below : List Frame) (meth : Method) (c : Code) (ls : Array Slot) (A : Nat → Prop) (Q : State → Prop), CallFix P m c cc maxL s args wl y.cls → (y.name = "<init>" → meth.name = "<init>") → Kx κ s → (∀ q, s.heap.size ≤ q → A q) →
      (∀ (u : S) {H : Heap} {locs : List Loc} {ls : Array Slot} {pc cells slots : Nat} {r : Int64}, St κ A s.heap H locs (W1 u) → decode cc pc = .ok (.lreturn, 1) → cells ≤ rm.cells → slots ≤ rm.slots → post r u → W P l e rm s m args below meth c H locs cells slots Q (F0 m pc ls [.long r])) →
      St κ A s.heap s.heap [] W0 → lv_has ls maxL (lv_args 0 as) → W P l e rm s m args below meth c s.heap [] 0 0 Q (F0 m 0 ls [])) : CGl l y wl rm κ as W0 post W1 := by
  refine entry_of hy hw hlen (fun P e s m below meth c ls A hAe F hr hlk hnm hK hA hW hl => ?_)
  subst hAe
  exact body P e s m as.toArray below meth c ls _ _ F hnm hK hA (fun u _ _ _ _ _ _ _ h1 h2 h3 h4 h5 => ret_l u F.1 F.2.1 hr hlk h1 h2 h3 h4 h5) hW hl
theorem entry_d {S : Type} {post : UInt64 → S → Prop} {W1 : S → va_W} (hy : plainName y.cls = true) (hw : wl = Cond.code y cc maxL (some .double) :: wl') (hlen : (lg_sl as).length ≤ maxL)
    (body : ∀ (P : Program) (e : Env) (s : State) (m : MethodId) (args : Array Value) (below : List Frame) (meth : Method) (c : Code) (ls : Array Slot) (A : Nat → Prop) (Q : State → Prop), CallFix P m c cc maxL s args wl y.cls → (y.name = "<init>" → meth.name = "<init>") → Kx κ s → (∀ q, s.heap.size ≤ q → A q) →
      (∀ (u : S) {H : Heap} {locs : List Loc} {ls : Array Slot} {pc cells slots : Nat} {r : UInt64}, St κ A s.heap H locs (W1 u) → decode cc pc = .ok (.dreturn, 1) → cells ≤ rm.cells → slots ≤ rm.slots → post r u → W P l e rm s m args below meth c H locs cells slots Q (F0 m pc ls [.double r])) →
      St κ A s.heap s.heap [] W0 → lv_has ls maxL (lv_args 0 as) → W P l e rm s m args below meth c s.heap [] 0 0 Q (F0 m 0 ls [])) : CGd l y wl rm κ as W0 post W1 := by
  refine entry_of hy hw hlen (fun P e s m below meth c ls A hAe F hr hlk hnm hK hA hW hl => ?_)
  subst hAe
  exact body P e s m as.toArray below meth c ls _ _ F hnm hK hA (fun u _ _ _ _ _ _ _ h1 h2 h3 h4 h5 => ret_d u F.1 F.2.1 hr hlk h1 h2 h3 h4 h5) hW hl
end Entries
/-! ===== calls ===== -/
section Frame
variable {κ : Kp} {A : Nat → Prop} {H0 H H1 : Heap} {locs locs1 : List Loc} {ws wc w1 ws' : va_W}
theorem fm_all {ws : va_W} {isR : List Nat} (h : isR.all (fun i => decide (i < ws.length)) = true) : isR.map (fun i => ws[i]?) = (isR.filterMap (fun i => ws[i]?)).map some := by
  induction isR with
  | nil => rfl
  | cons i t ih =>
    rw [List.all_cons, Bool.and_eq_true] at h
    have h1 : i < ws.length := of_decide_eq_true h.1
    rw [List.map_cons, List.filterMap_cons, List.getElem?_eq_getElem h1, ih h.2]
    rfl
theorem fm_of {α β : Type} {f : α → Option β} : ∀ {is : List α} {w : List β}, is.map f = w.map some → is.filterMap f = w
  | [], [], _ => rfl
  | [], _ :: _, h => by cases h
  | _ :: _, [], h => by cases h
  | i :: is, b :: w, h => by
    rw [List.map_cons, List.map_cons] at h
    have h1 := (List.cons.inj h).1
    rw [List.filterMap_cons, h1]
    exact congrArg _ (fm_of (List.cons.inj h).2)
/-- the caller's world behind a call: what the callee had is as it left it, the rest as it was -/
theorem St.join (hW : St κ A H0 H locs ws) (hA : ∀ q, H0.size ≤ q → A q) (isC isR pm : List Nat) (hC : isC.map (fun i => ws[i]?) = wc.map some) (hR : isR.all (fun i => decide (i < ws.length)) = true) (hn : va_nd isR = true) (hdis : ∀ i ∈ isR, i ∉ isC) (hpn : va_nd pm = true) (hpm : pm.map (fun i => (isR.filterMap (fun i => ws[i]?) ++ w1)[i]?) = ws'.map some)
    (hk : ∀ q : Nat, q < H.size → ¬ va_A wc H.size q → H1[q]? = H[q]?) (hP1 : va_P (kD κ) vwCl w1 H1) (hD1 : va_D (va_A wc H.size) w1) (hS : va_S A H0 H1 locs1) : St κ A H0 H1 locs1 ws' := by
  obtain ⟨hP, hD⟩ := va_join (wr := isR.filterMap (fun i => ws[i]?)) hW.1 hW.2.1 isC isR hC (fm_all hR) hn hdis hk (va_free hW.2.1 hW.2.2 hA isC hC) hP1 hD1
  exact ⟨hP.sub pm (fm_of hpm), hD.sub pm hpn hpm, hS⟩
end Frame
section Fin
variable {p : Program} {l : Launch} {e : Env} {R : Room} {s : State} {m : MethodId} {args : Array Value} {below : List Frame} {meth : Method} {c : Code} {H : Heap} {locs : List Loc} {cells slots mc ms : Nat} {Q : State → Prop}
variable {pc : Nat} {ls : Array Slot} {rest st0 : List Value} {a : Array Value} {κ : Kp} {A : Nat → Prop} {H0 : Heap} {ws W0 : va_W}
theorem fin_i {S : Type} {post : Int32 → S → Prop} {W1 W2 : S → va_W} (k n : Nat) (isC isR pm : List Nat) (hW : St κ A H0 H locs ws) (hA : ∀ q, H0.size ≤ q → A q)
    (hr : va_Run p l e R s m args below meth c H locs cells slots mc ms (F0 m pc ls st0) rest (va_Qi post (fun u => PW κ (W1 u) (va_A W0 H.size)) (va_A W0 H.size) a) (va_A W0 H.size))
    (hC : isC.map (fun i => ws[i]?) = W0.map some) (hR : isR.all (fun i => decide (i < ws.length)) = true) (hn : va_nd isR = true) (hdis : ∀ i ∈ isR, i ∉ isC) (hpn : va_nd pm = true) (hpm : ∀ u, pm.map (fun i => (isR.filterMap (fun i => ws[i]?) ++ W1 u)[i]?) = (W2 u).map some) (hk : cells + mc ≤ k) (hs : slots + ms ≤ n)
    (kk : ∀ (r : Int32) (u : S) (H1 : Heap) (locs1 : List Loc), post r u → St κ A H0 H1 locs1 (W2 u) → W p l e R s m args below meth c H1 locs1 k n Q (F0 m (pc + 3) ls (.int r :: rest))) : W p l e R s m args below meth c H locs cells slots Q (F0 m pc ls st0) := by
  have hF := va_free hW.2.1 hW.2.2 hA isC hC
  refine va_calli hr hW.2.2 (fun q _ h => hF q h) hF (fun r u t H1 locs1 ht hvm hw hB hz1 hk1 hS => W.widen hk hs ?_)
  have hB1 : va_P (kD κ) vwCl (W1 u) H1 := by rw [← ht]; exact hB.1
  exact kk r u H1 locs1 hw (St.join hW hA isC isR pm hC hR hn hdis hpn (hpm u) hk1 hB1 hB.2 hS)
theorem fin_v {S : Type} {post : S → Prop} {W1 W2 : S → va_W} (k n : Nat) (isC isR pm : List Nat) (hW : St κ A H0 H locs ws) (hA : ∀ q, H0.size ≤ q → A q)
    (hr : va_Run p l e R s m args below meth c H locs cells slots mc ms (F0 m pc ls st0) rest (va_Qv post (fun u => PW κ (W1 u) (va_A W0 H.size)) (va_A W0 H.size) a) (va_A W0 H.size))
    (hC : isC.map (fun i => ws[i]?) = W0.map some) (hR : isR.all (fun i => decide (i < ws.length)) = true) (hn : va_nd isR = true) (hdis : ∀ i ∈ isR, i ∉ isC) (hpn : va_nd pm = true) (hpm : ∀ u, pm.map (fun i => (isR.filterMap (fun i => ws[i]?) ++ W1 u)[i]?) = (W2 u).map some) (hk : cells + mc ≤ k) (hs : slots + ms ≤ n)
    (kk : ∀ (u : S) (H1 : Heap) (locs1 : List Loc), post u → St κ A H0 H1 locs1 (W2 u) → W p l e R s m args below meth c H1 locs1 k n Q (F0 m (pc + 3) ls rest)) : W p l e R s m args below meth c H locs cells slots Q (F0 m pc ls st0) := by
  have hF := va_free hW.2.1 hW.2.2 hA isC hC
  refine va_callv hr hW.2.2 (fun q _ h => hF q h) hF (fun u t H1 locs1 ht hvm hw hB hz1 hk1 hS => W.widen hk hs ?_)
  have hB1 : va_P (kD κ) vwCl (W1 u) H1 := by rw [← ht]; exact hB.1
  exact kk u H1 locs1 hw (St.join hW hA isC isR pm hC hR hn hdis hpn (hpm u) hk1 hB1 hB.2 hS)
theorem fin_l {S : Type} {post : Int64 → S → Prop} {W1 W2 : S → va_W} (k n : Nat) (isC isR pm : List Nat) (hW : St κ A H0 H locs ws) (hA : ∀ q, H0.size ≤ q → A q)
    (hr : va_Run p l e R s m args below meth c H locs cells slots mc ms (F0 m pc ls st0) rest (va_Ql post (fun u => PW κ (W1 u) (va_A W0 H.size)) (va_A W0 H.size) a) (va_A W0 H.size))
    (hC : isC.map (fun i => ws[i]?) = W0.map some) (hR : isR.all (fun i => decide (i < ws.length)) = true) (hn : va_nd isR = true) (hdis : ∀ i ∈ isR, i ∉ isC) (hpn : va_nd pm = true) (hpm : ∀ u, pm.map (fun i => (isR.filterMap (fun i => ws[i]?) ++ W1 u)[i]?) = (W2 u).map some) (hk : cells + mc ≤ k) (hs : slots + ms ≤ n)
    (kk : ∀ (r : Int64) (u : S) (H1 : Heap) (locs1 : List Loc), post r u → St κ A H0 H1 locs1 (W2 u) → W p l e R s m args below meth c H1 locs1 k n Q (F0 m (pc + 3) ls (.long r :: rest))) : W p l e R s m args below meth c H locs cells slots Q (F0 m pc ls st0) := by
  have hF := va_free hW.2.1 hW.2.2 hA isC hC
  refine va_calll hr hW.2.2 (fun q _ h => hF q h) hF (fun r u t H1 locs1 ht hvm hw hB hz1 hk1 hS => W.widen hk hs ?_)
  have hB1 : va_P (kD κ) vwCl (W1 u) H1 := by rw [← ht]; exact hB.1
  exact kk r u H1 locs1 hw (St.join hW hA isC isR pm hC hR hn hdis hpn (hpm u) hk1 hB1 hB.2 hS)
theorem fin_d {S : Type} {post : UInt64 → S → Prop} {W1 W2 : S → va_W} (k n : Nat) (isC isR pm : List Nat) (hW : St κ A H0 H locs ws) (hA : ∀ q, H0.size ≤ q → A q)
    (hr : va_Run p l e R s m args below meth c H locs cells slots mc ms (F0 m pc ls st0) rest (va_Qd post (fun u => PW κ (W1 u) (va_A W0 H.size)) (va_A W0 H.size) a) (va_A W0 H.size))
    (hC : isC.map (fun i => ws[i]?) = W0.map some) (hR : isR.all (fun i => decide (i < ws.length)) = true) (hn : va_nd isR = true) (hdis : ∀ i ∈ isR, i ∉ isC) (hpn : va_nd pm = true) (hpm : ∀ u, pm.map (fun i => (isR.filterMap (fun i => ws[i]?) ++ W1 u)[i]?) = (W2 u).map some) (hk : cells + mc ≤ k) (hs : slots + ms ≤ n)
    (kk : ∀ (r : UInt64) (u : S) (H1 : Heap) (locs1 : List Loc), post r u → St κ A H0 H1 locs1 (W2 u) → W p l e R s m args below meth c H1 locs1 k n Q (F0 m (pc + 3) ls (.double r :: rest))) : W p l e R s m args below meth c H locs cells slots Q (F0 m pc ls st0) := by
  have hF := va_free hW.2.1 hW.2.2 hA isC hC
  refine va_calld hr hW.2.2 (fun q _ h => hF q h) hF (fun r u t H1 locs1 ht hvm hw hB hz1 hk1 hS => W.widen hk hs ?_)
  have hB1 : va_P (kD κ) vwCl (W1 u) H1 := by rw [← ht]; exact hB.1
  exact kk r u H1 locs1 hw (St.join hW hA isC isR pm hC hR hn hdis hpn (hpm u) hk1 hB1 hB.2 hS)
end Fin
section Pre
variable {s : State} {κ : Kp} {A : Nat → Prop} {H0 H : Heap} {locs : List Loc} {ws wc : va_W} {as As : List Value} {b : Nat}
theorem pre_S (hK : Kx κ s) (hW : St κ A H0 H locs ws) (isC : List Nat) (hC : isC.map (fun i => ws[i]?) = wc.map some) (hCn : va_nd isC = true) : PreS s H (PreC κ as wc H.size) as :=
  ⟨PreC.blind, fun U hU hWm => ⟨rfl, by rw [hU], by rw [hU]; exact hW.1.sub isC (fm_of hC), hK.warm hWm, (hW.2.1.sub isC hCn hC).weaken (fun _ _ _ _ => trivial)⟩⟩
theorem pre_V (hK : Kx κ s) (hW : St κ A H0 H locs ws) (isC : List Nat) (hC : isC.map (fun i => ws[i]?) = wc.map some) (hCn : va_nd isC = true) (ci q0 : Nat) {q : vw_C} {fs : List Value} (hc : vwCl[ci]? = some q) (he : ws[q0]? = some (b, .inr (ci, fs))) : PreV s H q.1 b (PreC κ (.ref b :: As) wc H.size) As :=
  ⟨PreC.blind, va_recv hK.1 hW.1 hc he, fun U hU hWm => ⟨rfl, by rw [hU], by rw [hU]; exact hW.1.sub isC (fm_of hC), hK.warm hWm, (hW.2.1.sub isC hCn hC).weaken (fun _ _ _ _ => trivial)⟩⟩
end Pre
