/-! ===== what the start gives ===== -/
theorem st_arr {s : State} {args : Array Value} {ty : FieldType} (h : (Cond.arrayClass ty).before args s = true) (ho : ∀ C, ty ≠ .object C) : ∃ cA : ClassId, ArrOfT s cA ty ∧ va_RA s cA ty := by
  obtain ⟨cA, kA, comp, h1, h2, h3⟩ := Cond.arrayClass_spec h
  refine ⟨cA, fun n z => ⟨fun k h => (by cases h), kA, h2, comp, h3⟩, ?_⟩
  cases ty with
  | object C => exact absurd rfl (ho C)
  | _ => exact h1
theorem st_Q {s : State} {args : Array Value} {cI : ClassId} (h : (Cond.arrayOver (.array .int)).before args s = true) (hI : va_RA s cI .int) : ∃ cL : ClassId, (s.vm.findClass ("[" ++ (FieldType.array .int).toString) = some cL ∧ s.vm.findClass (FieldType.array .int).toString = some cI) ∧ va_AQ s := by
  obtain ⟨comp, c, k, h1, h2, h3, h4, h5⟩ := aq_spec h
  have e : s.vm.findClass (FieldType.array .int).toString = some cI := hI
  exact ⟨c, ⟨h5, e⟩, h⟩
set_option maxRecDepth 40000 in
theorem st_K {s : State} {b : Nat} (hts : ∀ w ∈ lw_tbl, w.before #[Value.ref b] s = true) : ∃ κ : Kp, Kx κ s := by
  obtain ⟨c0, i0, h0⟩ := u_known (C := RX0) (T := TX0) (N := 10) (n := 10) hts inX0 (hts (.instantiable RX0 10) (List.mem_of_getElem? (i := 27) (by decide +kernel)))
  obtain ⟨c1, i1, h1⟩ := u_known (C := RX1) (T := TX1) (N := 2) (n := 2) hts inX1 (hts (.instantiable RX1 2) (List.mem_of_getElem? (i := 19) (by decide +kernel)))
  obtain ⟨c2, i2, h2⟩ := u_known (C := RX2) (T := TX2) (N := 4) (n := 4) hts inX2 (hts (.instantiable RX2 4) (List.mem_of_getElem? (i := 527) (by decide +kernel)))
  obtain ⟨cI, hI⟩ := st_arr (hts (.arrayClass .int) (List.mem_of_getElem? (i := 71) (by decide +kernel))) (fun _ h => by cases h)
  obtain ⟨cZ, hZ⟩ := st_arr (hts (.arrayClass .boolean) (List.mem_of_getElem? (i := 72) (by decide +kernel))) (fun _ h => by cases h)
  obtain ⟨cL, hQ⟩ := st_Q (hts (.arrayOver (.array .int)) (List.mem_of_getElem? (i := 475) (by decide +kernel))) hI.2
  refine ⟨((fun k => if k = 0 then c0 else if k = 1 then c1 else c2, fun k => if k = 0 then i0 else if k = 1 then i1 else i2), cI, cZ, cL), ⟨?_, ?_⟩, ?_, ?_, hQ, ?_⟩
  · intro k q hq
    match k, hq with
    | 0, hq => cases hq; exact h0
    | 1, hq => cases hq; exact h1
    | 2, hq => cases hq; exact h2
    | k + 3, hq => simp [vwCl] at hq
  · intro k q hq
    match k, hq with
    | 0, hq => cases hq; exact hI
    | 1, hq => cases hq; exact hZ
    | k + 2, hq => simp at hq
  · exact va_Nw.of rfl (hts (.methodLinkNest RX0 73 yX1_isAccord RX1) (List.mem_of_getElem? (i := 207) (by decide +kernel)))
  · exact va_Nw.of rfl (hts (.methodLinkNest RX1 9 yX0_init RX1) (List.mem_of_getElem? (i := 28) (by decide +kernel)))
  · exact va_Nw.of rfl (hts (.methodLinkNest RL 52 yX2_init RL) (List.mem_of_getElem? (i := 528) (by decide +kernel)))
