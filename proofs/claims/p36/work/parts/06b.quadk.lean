/-! ===== int[][]: rows of references to rows ===== -/
def va_AQ (U : State) : Prop := (Cond.arrayOver (.array .int)).before #[] U = true
theorem aq_spec {args : Array Value} {first s : State} {o : Option Outcome} {idx : List Nat} (h : (Cond.arrayOver (.array .int)).holds args first o s idx = true) :
    ∃ comp c k, s.vm.findClass (FieldType.array .int).toString = some comp ∧ (s.vm.classes.findIdx? fun x => match x.kind with | .array component _ => component == comp | _ => false) = some c ∧ s.vm.classes[c]? = some k ∧ k.kind = .array comp (.array .int) ∧ s.vm.findClass ("[" ++ (FieldType.array .int).toString) = some c := by
  simp only [Cond.holds, Cond.value, beq_iff_eq] at h
  obtain ⟨comp, hc, h⟩ := Option.bind_eq_some_iff.mp h
  obtain ⟨c, hi, h⟩ := Option.bind_eq_some_iff.mp h
  obtain ⟨k, hk, hb⟩ := Option.map_eq_some_iff.mp h
  obtain ⟨hlt, hp, -⟩ := Array.findIdx?_eq_some_iff_getElem.mp hi
  rw [(Array.getElem?_eq_some_iff.mp hk).2] at hp
  cases hkind : k.kind with
  | array component ty =>
    rw [hkind] at hb hp
    simp only [Bool.and_eq_true, decide_eq_true_eq] at hb
    have e : component = comp := eq_of_beq hp
    exact ⟨comp, c, k, hc, hi, hk, by rw [hkind, hb.1, e], hb.2⟩
  | _ => rw [hkind] at hb; cases hb
theorem va_AQ.moved {u U : State} (hvm : u.vm.Alike U.vm) (h : va_AQ u) : va_AQ U := by
  obtain ⟨comp, c, k, h1, h2, h3, h4, h5⟩ := aq_spec h
  obtain ⟨k', hk', he⟩ := hvm.2.2 _ _ h3
  have hi : (U.vm.classes.findIdx? fun (x : Class) => match x.kind with | .array component _ => component == comp | _ => false) = some c := by
    rw [hvm.findIdx?_eqK _ (fun _ => rfl)]
    exact h2
  have hkind : k'.kind = .array comp (.array .int) := by rw [he]; exact h4
  have f1 : U.vm.findClass (FieldType.array .int).toString = some comp := by rw [hvm.findClass]; exact h1
  have f2 : U.vm.findClass ("[" ++ (FieldType.array .int).toString) = some c := by rw [hvm.findClass]; exact h5
  unfold va_AQ Cond.before Cond.holds
  simp only [Cond.value]
  rw [f1, Option.bind_some]
  refine (congrArg (fun o : Option Nat => (o.bind (fun c => (U.vm.classes[c]?).map fun (k : Class) => match k.kind with | .array _ ty => decide (ty = FieldType.array .int) && decide (U.vm.findClass ("[" ++ (FieldType.array .int).toString) = some c) | _ => false) == some true)) hi).trans ?_
  simp [hk', hkind, f2]
/-- the class of int[][] is known, and its rows' class is that of int[] -/
def KQ (κ : Kp) (U : State) : Prop := (U.vm.findClass ("[" ++ (FieldType.array .int).toString) = some (kL κ) ∧ U.vm.findClass (FieldType.array .int).toString = some (kI κ)) ∧ va_AQ U
theorem KQ.moved {κ : Kp} {u U : State} (hvm : u.vm.Alike U.vm) (h : KQ κ u) : KQ κ U := ⟨⟨by rw [hvm.findClass]; exact h.1.1, by rw [hvm.findClass]; exact h.1.2⟩, h.2.moved hvm⟩
theorem KQ.spec {κ : Kp} {U : State} (h : KQ κ U) : (∃ k : Class, U.vm.classes[kL κ]? = some k ∧ k.kind = .array (kI κ) (.array .int)) ∧ (U.vm.classes.findIdx? fun x => match x.kind with | .array component _ => component == kI κ | _ => false) = some (kL κ) := by
  obtain ⟨comp, c, k, h1, h2, h3, h4, h5⟩ := aq_spec h.2
  have e1 : comp = kI κ := Option.some.inj (h1.symm.trans h.1.2)
  have e2 : c = kL κ := Option.some.inj (h5.symm.trans h.1.1)
  subst e1
  rw [e2] at h2 h3
  exact ⟨⟨k, h3, h4⟩, h2⟩
theorem KQ.arr {κ : Kp} {U : State} (h : KQ κ U) : ArrOfT U (kL κ) (.array .int) := by
  obtain ⟨⟨k, h1, h2⟩, -⟩ := h.spec
  exact fun N z => ⟨(fun q h => by cases h), k, h1, kI κ, h2⟩
