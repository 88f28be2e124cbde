/-- a row of references -/
abbrev WQ (κ : Kp) (q n : Nat) (f : Nat → Option Nat) : va_W := [(q, .inl (kL κ, n, .inr (.inr (.inr (.inr f)))))]
section QStand
variable {p : Program} {l : Launch} {e : Env} {R : Room} {s : State} {m : MethodId} {args : Array Value} {below : List Frame} {meth : Method} {c : Code} {T : State} {locs : List Loc} {cells slots : Nat}
theorem newQ_st (X : Stand p l e R s m args below meth c T locs cells slots) (hexec : p.tables.exec = Jvm.exec) {own : String} {index : Nat} {κ : Kp} (hown : s.vm.findClass own = some m.cls) (hclink : (Cond.classLink own index "[I").before args s = true) (hQ : KQ κ s)
    {g : JFrame} (hg : g.method = m) (hdg : decode c.code g.pc = .ok (.anewarray index, 3)) {n : Int32} {rest : List Value} (hstack : g.stack = .int n :: rest)
    (hn : ¬ n < 0) (hbytes : n.toNatClampNeg * 4 ≤ 536870912) (hcells : cells + 1 ≤ R.cells) (hslots : slots + n.toNatClampNeg ≤ R.slots) :
    ∃ vm₁ : Vm, s.WarmedH vm₁ ∧ Stand p l e R s m args below meth c ((T.setVm vm₁).pushCell { cls := kL κ, slots := Array.replicate n.toNatClampNeg .null, vm := .none }) locs (cells + 1) (slots + n.toNatClampNeg) ∧
      ∀ target, Steps p.tables e below (((T.setVm vm₁).pushCell { cls := kL κ, slots := Array.replicate n.toNatClampNeg .null, vm := .none }).setTop { g with pc := g.pc + 3, stack := .ref T.heap.size :: rest }) target →
        Steps p.tables e below (T.setTop g) target := by
  subst hg
  have hpl : e.platform.magicAccessors = ({} : Platform).magicAccessors := by rw [X.admits.platform]
  obtain ⟨⟨kA, hkA, hkindA⟩, hidx⟩ := hQ.spec
  obtain ⟨cc, hfcc, hcl⟩ := Cond.classLink_spec hown hclink e.platform hpl
  have ecc : cc = kI κ := Option.some.inj (hfcc.symm.trans hQ.1.2)
  subst ecc
  obtain ⟨kComp, hkComp, -⟩ := Vm.findClass_spec hQ.1.2
  obtain ⟨hg₁, hwarm₁, hready₁⟩ := State.classEntry (e := e) X.warmed hcl
  generalize T.vm.noted g.method.cls index (.cls (kI κ)) = vm₁ at hg₁ hwarm₁ hready₁
  have hal : s.vm.Alike vm₁ := hwarm₁.alike
  obtain ⟨kComp₁, hkComp₁, -⟩ := hal.2.2 _ _ hkComp
  obtain ⟨kA₁, hkA₁, heA⟩ := hal.2.2 _ _ hkA
  have hkindA₁ : kA₁.kind = .array (kI κ) (.array .int) := by rw [heA]; exact hkindA
  have hidx₁ : (vm₁.classes.findIdx? fun x => match x.kind with | .array component _ => component == kI κ | _ => false) = some (kL κ) := by
    rw [hal.findIdx?_eqK _ (fun _ => rfl)]; exact hidx
  have hlimit : ¬ n.toNatClampNeg > e.platform.arrayLengthLimit := by rw [Launch.admits_arrayLengthLimit X.admits]; omega
  have hheap : ¬ n.toNatClampNeg * componentBytes (.array .int) > e.platform.maxHeapBytes := by
    rw [Launch.admits_maxHeapBytes X.admits]; show ¬ n.toNatClampNeg * 4 > 536870912; omega
  have X₁ := X.noted hwarm₁
  have X₂ := X₁.pushed { cls := kL κ, slots := Array.replicate n.toNatClampNeg .null, vm := .none }
  obtain ⟨hr1, hr2⟩ := X.roomAbove hcells hslots
  refine ⟨vm₁, hwarm₁, by simpa using X₂, fun target hrest => ?_⟩
  jvm_step X.here [hexec, hdg, anewarray.wp_cold (e := e) (s := T) (f := g) X.here.top hg₁ hready₁,
    anewarray.wp_ready (e := e) (s := T.setVm vm₁) (f := g) (kc := kComp₁) (k := kA₁) (type := .array .int) X.here.top hready₁ hkComp₁ hidx₁ hkA₁ hkindA₁ rfl hstack hn hlimit hheap]
  exact ⟨by show T.heap.size < _; omega, by show T.slotsUsed + _ ≤ _; exact hr2, hrest⟩
end QStand
section QRows
variable {p : Program} {l : Launch} {e : Env} {R : Room} {s : State} {m : MethodId} {args : Array Value} {below : List Frame} {meth : Method} {c : Code} {H : Heap} {locs : List Loc} {cells slots : Nat} {Q : State → Prop} {cc : ByteArray} {pc : Nat} {ls : Array Slot} {rest : List Value} {κ : Kp} {A : Nat → Prop} {H0 : Heap} {ws ws' : va_W} {a : Nat} {Ts : List Cond} {own : String} {index : Nat}
theorem jv_newq (hx : p.tables.exec = Jvm.exec) (hb : c.code = cc) (hts : ∀ w ∈ Ts, w.before args s = true) (hown : s.vm.findClass own = some m.cls) (hcl : Cond.classLink own index "[I" ∈ Ts) (hQ : KQ κ s) (hW : St κ A H0 H locs ws) (hA : ∀ q, H0.size ≤ q → A q) (n : Nat) (hn : n < 1000) (k k2 : Nat) (hk : cells + 1 ≤ k) (hk2 : slots + n ≤ k2) (hcells : k ≤ R.cells) (hslots : k2 ≤ R.slots) (hdg : decode cc pc = .ok (.anewarray index, 3))
    (kk : ∀ (q : Nat) (H1 : Heap), St κ A H0 H1 locs (ws ++ WQ κ q n (fun _ => none)) → W p l e R s m args below meth c H1 locs k k2 Q (F0 m (pc + 3) ls (.ref q :: rest))) : W p l e R s m args below meth c H locs cells slots Q (F0 m pc ls (.int (J (n : Int)) :: rest)) := by
  have hc : (J (n : Int)).toNatClampNeg = n := J_clamp rfl (by omega)
  intro T hT X
  obtain ⟨vm₁, hw, X', st⟩ := newQ_st X hx hown (hts _ hcl) hQ (g := F0 m pc ls (.int (J (n : Int)) :: rest)) rfl (by rw [hb]; exact hdg) rfl (by rw [J_lt0 ⟨by omega, by omega⟩]; omega) (by rw [hc]; omega) (Nat.le_trans hk hcells) (by rw [hc]; exact Nat.le_trans hk2 hslots)
  rw [hc] at X' st
  generalize hH1 : H.push ({ cls := kL κ, slots := Array.replicate n .null, vm := .none } : Cell) = H1
  have e1 : H1[H.size]? = some (arrV (kL κ) n (fun _ => .null)) := by rw [← hH1, Array.getElem?_push_size, ← arrV_new]
  have o1 : ∀ q : Nat, q < H.size → H1[q]? = H[q]? := fun q hq => by rw [← hH1, Array.getElem?_push, if_neg (Nat.ne_of_lt hq)]
  have z1 : H1.size = H.size + 1 := by rw [← hH1, Array.size_push]
  have hW1 : St κ A H0 H1 locs (ws ++ WQ κ H.size n (fun _ => none)) := by
    refine ⟨(hW.1.kept (fun k x hx => o1 x.1 ((hW.1 k x hx).lt))).app (fun k x hx => ?_), hW.2.1.push hW.1 rfl (hA _ hW.2.2.1), Nat.le_trans hW.2.2.1 (by omega), fun x h1 h2 => (o1 x (Nat.lt_of_lt_of_le h1 hW.2.2.1)).trans (hW.2.2.2.1 x h1 h2), hW.2.2.2.2⟩
    have hz : k < 1 := (List.getElem?_eq_some_iff.mp hx).1
    rw [show k = 0 by omega] at hx
    cases hx
    show H1[H.size]? = some (vp_cell _ _)
    rw [vp_cell_q]
    exact e1
  have hw2 := W.widen (cells := cells + 1) (slots := slots + n) hk hk2 (kk H.size H1 hW1)
  obtain ⟨t', a1, b1⟩ := hw2 _ (by show T.heap.push _ = H1; rw [hT]; exact hH1) X'
  exact ⟨t', st t' (by rw [hT]; exact a1), b1⟩
/-- a reference out of a row of references -/
theorem jv_qld (hx : p.tables.exec = Jvm.exec) (hb : c.code = cc) (hQ : KQ κ s) (hW : St κ A H0 H locs ws) (q0 : Nat) {n : Nat} {f : Nat → Option Nat} (ha : ws[q0]? = some (a, .inl (kL κ, n, .inr (.inr (.inr (.inr f)))))) {z : Int} (i v : Nat) (hz : z = (i : Int)) (hi : i < n) (hn : n < 2147483648) (hv : f i = some v) (hdg : decode cc pc = .ok (.aaload, 1)) (kk : W p l e R s m args below meth c H locs cells slots Q (F0 m (pc + 1) ls (.ref v :: rest))) : W p l e R s m args below meth c H locs cells slots Q (F0 m pc ls (.int (J z) :: .ref a :: rest)) := by
  have hin : vp_in (J z) n := J_in hz hi hn
  have hc : (J z).toNatClampNeg = i := J_clamp hz (by omega)
  refine W.aald (v := .ref v) (ty := .array .int) hx hb (hW.1 q0 _ ha) (hQ.arr n (fun j => va_rf (f j))) rfl (fun q => by cases q) (by show ¬ (J z < 0 ∨ (arrV _ _ _).slots.size ≤ _); rw [arrV_size]; exact hin) ?_ rfl rfl hdg kk
  show (arrV _ _ _).slots[_]? = _
  rw [hc, arrV_read _ _ hi, hv]
  rfl
/-- a row's reference into a row of references -/
theorem jv_qst (hx : p.tables.exec = Jvm.exec) (hb : c.code = cc) (hK : Kx κ s) (hQ : KQ κ s) (hW : St κ A H0 H locs ws) (q0 : Nat) {n : Nat} {f : Nat → Option Nat} (ha : ws[q0]? = some (a, .inl (kL κ, n, .inr (.inr (.inr (.inr f)))))) {z : Int} (i v : Nat) (hv : ∃ (qk N : Nat) (g : Nat → Int32), ws[qk]? = some (v, .inl (kI κ, N, .inl g))) (hz : z = (i : Int)) (hi : i < n) (hn : n < 2147483648) (hws : ws.set q0 (a, .inl (kL κ, n, .inr (.inr (.inr (.inr (va_up f i (some v))))))) = ws') (hdg : decode cc pc = .ok (.aastore, 1))
    (kk : ∀ (H1 : Heap) (locs1 : List Loc), St κ A H0 H1 locs1 ws' → W p l e R s m args below meth c H1 locs1 cells slots Q (F0 m (pc + 1) ls rest)) : W p l e R s m args below meth c H locs cells slots Q (F0 m pc ls (.ref v :: .int (J z) :: .ref a :: rest)) := by
  have hin : vp_in (J z) n := J_in hz hi hn
  have hc : (J z).toNatClampNeg = i := J_clamp hz (by omega)
  obtain ⟨⟨kA, k1, k2⟩, -⟩ := hQ.spec
  obtain ⟨qk, N, g, hg⟩ := hv
  have hcv : H[v]? = some (vp_cell (kI κ) (N, .inl g)) := hW.1 qk _ hg
  obtain ⟨-, kC, hkC, comp, hkk⟩ := ((hK.1.2 0 (kI κ, .int) rfl).1) 0 (fun _ => .null)
  have hkC' : s.vm.classes[kI κ]? = some kC := hkC
  have has : s.vm.assignable (kI κ) (kI κ) = true := by
    show (kI κ == kI κ || _) = true
    rw [beq_self_eq_true]
    rfl
  refine W.aast (a := a) hx hb (hW.1 q0 _ ha) (fun q h => by cases h) (fun h => by cases h) k1 k2 rfl hkC' ⟨fun q => hin (Or.inl q), by show _ < (arrV _ _ _).slots.size; rw [arrV_size, hc]; exact hi⟩ hcv (fun q h => by cases h) hkC' has rfl rfl hdg fun H1 e zz oq => ?_
  have hW1 : St κ A H0 H1 (locs ++ [⟨a, (J z).toNatClampNeg⟩]) ws' := by
    subst hws
    refine ⟨hW.1.set hW.2.1 ha ?_ oq, hW.2.1.set ha, hW.2.2.put zz oq (hW.2.1.2 q0 _ ha)⟩
    show H1[a]? = some (vp_cell _ _)
    rw [e, hc, vp_cell_q, vp_cell_q, arrV_store]
    congr 2
    funext q
    by_cases hq : q = i
    · subst hq
      simp [updV, va_up, va_rf]
    · simp [updV, va_up, hq]
  exact kk H1 _ hW1
/-- how many references a row of references has -/
theorem jv_qlen (hx : p.tables.exec = Jvm.exec) (hb : c.code = cc) (hK : Kx κ s) (hQ : KQ κ s) (hW : St κ A H0 H locs ws) (q0 : Nat) {n : Nat} {f : Nat → Option Nat} (ha : ws[q0]? = some (a, .inl (kL κ, n, .inr (.inr (.inr (.inr f)))))) (hdg : decode cc pc = .ok (.arraylength, 1)) (kk : W p l e R s m args below meth c H locs cells slots Q (F0 m (pc + 1) ls (.int (J (n : Int)) :: rest))) : W p l e R s m args below meth c H locs cells slots Q (F0 m pc ls (.ref a :: rest)) := by
  have hK2 : va_K (kD κ) vwCl [(kL κ, .array .int)] s := ⟨hK.1.1, fun k q hk => by
    match k, hk with
    | 0, hk => cases hk; exact ⟨hQ.arr, hQ.1.1⟩
    | k + 1, hk => simp at hk⟩
  exact va_alen (v := J (n : Int)) hx hb hK2 hW.1 q0 0 ha rfl (by rw [J_nat]; rfl) hdg kk
end QRows
