/-! ===== what the law's helpers need ===== -/
def Ncx (U : State) : Prop := va_Nc eIS eIA U ∧ va_Nc eIA eIO U
theorem Ncx.warm {s U : State} (hW : s.WarmedH U.vm) (h : Ncx s) : Ncx U := ⟨va_Nc.moved hW.alike h.1, va_Nc.moved hW.alike h.2⟩
def PreL (κ : Kp) (as : List Value) (W0 : va_W) (sz : Nat) : Array Value → State → Prop := fun a U => PreT κ as W0 sz a U ∧ Ncx U
theorem PreL.blind {κ : Kp} {as : List Value} {W0 : va_W} {sz : Nat} : FrameBlind (PreL κ as W0 sz) := fun a U g mk q => ⟨PreT.blind a U g mk q.1, va_Nc.moved (u := U) (U := U.calling g mk a) (Vm.Alike.refl U.vm) q.2.1, va_Nc.moved (u := U) (U := U.calling g mk a) (Vm.Alike.refl U.vm) q.2.2⟩
def HGi {S : Type} (l : Launch) (y : MethodName) (wl : List Cond) (rm : Room) (κ : Kp) (as : List Value) (W0 : va_W) (post : Int32 → S → Prop) (W1 : S → va_W) : Prop :=
  ∀ sz, vx_Met l y wl rm (PreL κ as W0 sz) (va_Qi post (fun u => PW κ (W1 u) (va_A W0 sz)) (va_A W0 sz)) (XQ κ W0 (va_A W0 sz) (fun _ => False)) rm.cells rm.slots (va_A W0 sz)
theorem entry_hi {l : Launch} {y : MethodName} {wl wl' : List Cond} {rm : Room} {κ : Kp} {as : List Value} {W0 : va_W} {cc : ByteArray} {maxL : Nat} {hh : List (Nat × Nat × Nat × Nat)} {S : Type} {post : Int32 → S → Prop} {W1 : S → va_W} (hy : plainName y.cls = true) (hw : wl = Cond.codeWith y cc maxL (some .int) hh :: wl') (hlen : (lg_sl as).length ≤ maxL)
    (body : ∀ (P : Program) (e : Env) (s : State) (m : MethodId) (args : Array Value) (below : List Frame) (meth : Method) (c : Code) (ls : Array Slot) (A : Nat → Prop) (Q : State → Prop), CallFix P m c cc maxL s args wl y.cls → Kx κ s → Tk A s s.heap → Ncx s → c.exceptionTable.toList = tableOf hh → (∀ q, s.heap.size ≤ q → A q) →
      (∀ (u : S) {H : Heap} {locs : List Loc} {ls : Array Slot} {pc cells slots : Nat} {r : Int32}, St κ A s.heap H locs (W1 u) → decode cc pc = .ok (.ireturn, 1) → cells ≤ rm.cells → slots ≤ rm.slots → post r u → W P l e rm s m args below meth c H locs cells slots Q (F0 m pc ls [.int r])) →
      St κ A s.heap s.heap [] W0 → lv_has ls maxL (lv_args 0 as) → W P l e rm s m args below meth c s.heap [] 0 0 Q (F0 m 0 ls [])) : HGi l y wl rm κ as W0 post W1 := by
  intro sz
  refine vx_ofWH (cc := cc) (maxL := maxL) (ret := (some .int)) (hh := hh) hy hw ?_
  intro p e s m args below meth c s₁ B hml hv
  obtain ⟨⟨⟨rfl, hsz, hP, hK, hD0⟩, hT⟩, hN⟩ := hv
  subst hsz
  have hown : s.vm.findClass y.cls = some m.cls := findClass_of_methodNamed B.named
  have hl := lv_entry as (n := maxL) hlen
  have hts := atoms_spec (ws := wl) B.pre
  have htab : c.exceptionTable.toList = tableOf hh := vx_table (x := y) B (hts _ (by rw [hw]; exact List.mem_cons_self))
  rw [lg_entry_eq]
  refine body p e s m as.toArray below meth c _ _ _ ⟨B.exec, B.bytes, hml, hown, hts⟩ hK hT hN htab (fun q h => Or.inr h) ?_ ⟨hP, hD0.self, va_S.rf⟩ hl
  intro u _ _ _ _ _ _ _ h1 h2 h3 h4 h5
  exact vx_ret (ret_i u B.exec B.bytes B.returns B.notSynchronized h1 h2 h3 h4 h5)
section PreLs
variable {s : State} {κ : Kp} {A : Nat → Prop} {H : Heap} {locs : List Loc} {ws wc : va_W} {as As : List Value} {b : Nat}
theorem pre_SL (hN : Ncx s) (hK : Kx κ s) (hT : Tk A s s.heap) (hW : St κ A s.heap H locs ws) (hA : ∀ q, s.heap.size ≤ q → A q) (isC : List Nat) (hC : isC.map (fun i => ws[i]?) = wc.map some) (hCn : va_nd isC = true) : PreS s H (PreL κ as wc H.size) as :=
  ⟨PreL.blind, fun U hU hWm => ⟨(pre_ST hK hT hW hA isC hC hCn).2 U hU hWm, hN.warm hWm⟩⟩
end PreLs
section LRows
variable {wl : List Cond} {p : Program} {l : Launch} {e : Env} {R : Room} {s : State} {m : MethodId} {args : Array Value} {below : List Frame} {meth : Method} {c : Code} {H H0 : Heap} {locs : List Loc} {cells slots : Nat} {Q : State → Prop} {pc : Nat} {ls : Array Slot} {rest : List Value} {κ : Kp} {A : Nat → Prop} {ws ws' : va_W} {cc : ByteArray} {a : Nat}
theorem jv_last (hx : p.tables.exec = Jvm.exec) (hb : c.code = cc) (hK : Kx κ s) (hW : St κ A H0 H locs ws) (q0 : Nat) {g : Nat → Int64} (ha : ws[q0]? = some (a, .inl (kL κ, 1, .inr (.inl g)))) {x : Int64} (hws : ws.set q0 (a, .inl (kL κ, 1, .inr (.inl (vp_updL g 0 x)))) = ws') (hdg : decode cc pc = .ok (.lastore, 1)) (kk : ∀ (H1 : Heap) (locs1 : List Loc), St κ A H0 H1 locs1 ws' → W p l e R s m args below meth c H1 locs1 cells slots Q (F0 m (pc + 1) ls rest)) : W p l e R s m args below meth c H locs cells slots Q (F0 m pc ls (.long x :: .int (J 0) :: .ref a :: rest)) :=
  va_last hx hb hK.1 hW.1 hW.2.1 hW.2.2 q0 2 ha rfl (J_in (z := 0) (i := 0) rfl (by decide) (by decide)) hdg (fun H1 locs1 h1 h2 h3 => by rw [J_clamp (z := 0) (i := 0) rfl (by decide), hws] at h1 h2; exact kk H1 locs1 ⟨h1, h2, h3⟩)
theorem jv_lald (hx : p.tables.exec = Jvm.exec) (hb : c.code = cc) (hK : Kx κ s) (hW : St κ A H0 H locs ws) (q0 : Nat) {g : Nat → Int64} (ha : ws[q0]? = some (a, .inl (kL κ, 1, .inr (.inl g)))) (hdg : decode cc pc = .ok (.laload, 1)) (kk : W p l e R s m args below meth c H locs cells slots Q (F0 m (pc + 1) ls (.long (g 0) :: rest))) : W p l e R s m args below meth c H locs cells slots Q (F0 m pc ls (.int (J 0) :: .ref a :: rest)) :=
  va_lald hx hb hK.1 hW.1 q0 2 ha rfl (J_in (z := 0) (i := 0) rfl (by decide) (by decide)) hdg (by rw [J_clamp (z := 0) (i := 0) rfl (by decide)]; exact kk)
/-- one of a helper's handlers takes it -/
theorem catch1 {own E : String} {ce : Cell} {q : Addr} {hh : List (Nat × Nat × Nat × Nat)} (hown : s.vm.findClass own = some m.cls) (hts : ∀ w ∈ wl, w.before args s = true) (htab : c.exceptionTable.toList = tableOf hh) (a b d i : Nat) (suf : List (Nat × Nat × Nat × Nat)) (hsplit : hh = (a, b, d, i) :: suf) (hx : covers ⟨a, b, d, i⟩ pc = true) (h0 : i ≠ 0)
    (hlink : Cond.classLink own i E ∈ wl) (hcast : va_Nw (.castable E E) s) (hcell : H[q]? = some ce) (hv : ce.vm = .none) (hcl : s.vm.findClass E = some ce.cls) (kk : W p l e R s m args below meth c H locs cells slots Q (F0 m d ls [.ref q])) : vx_W p l e R s m args below meth c H locs cells slots Q (F0 m pc ls rest) q :=
  vx_catch hown [] ⟨a, b, d, i⟩ (tableOf suf) (by rw [htab, hsplit]; rfl) (fun z hz => absurd hz List.not_mem_nil) hx h0 (hts _ hlink) (va_Nw.use rfl hcast) hcell hv hcl kk
theorem catch2 {own E F : String} {ce : Cell} {q : Addr} {hh : List (Nat × Nat × Nat × Nat)} (hown : s.vm.findClass own = some m.cls) (hts : ∀ w ∈ wl, w.before args s = true) (htab : c.exceptionTable.toList = tableOf hh) (f a b d i j : Nat) (hsplit : hh = [(a, b, f, i), (a, b, d, j)]) (hx : covers ⟨a, b, d, j⟩ pc = true) (h0 : j ≠ 0) (h1 : i ≠ 0)
    (hlink : Cond.classLink own j E ∈ wl) (hlink2 : Cond.classLink own i F ∈ wl) (hno : va_Nc E F s) (hcast : va_Nw (.castable E E) s) (hcell : H[q]? = some ce) (hv : ce.vm = .none) (hcl : s.vm.findClass E = some ce.cls) (kk : W p l e R s m args below meth c H locs cells slots Q (F0 m d ls [.ref q])) : vx_W p l e R s m args below meth c H locs cells slots Q (F0 m pc ls rest) q :=
  vx_catch hown [⟨a, b, f, i⟩] ⟨a, b, d, j⟩ [] (by rw [htab, hsplit]; rfl) (fun z hz => by rw [List.mem_singleton.mp hz]; exact Or.inr ⟨h1, F, hts _ hlink2, hno⟩) hx h0 (hts _ hlink) (va_Nw.use rfl hcast) hcell hv hcl kk
end LRows
theorem bl_t : (1 : Int64) = (J (bi true)).toInt64 := by decide
theorem bl_f : (0 : Int64) = (J (bi false)).toInt64 := by decide
theorem jl_1 : (1 : Int64) = (J 1).toInt64 := by decide
theorem jl_0 : (0 : Int64) = (J 0).toInt64 := by decide
