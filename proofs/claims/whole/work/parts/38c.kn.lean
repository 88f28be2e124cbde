/-! ===== what the start gives ===== -/
theorem st_arr {s : State} {args : Array Value} {ty : FieldType} (h : (Cond.arrayClass ty).before args s = true) (ho : ∀ C, ty ≠ .object C) : ∃ cA : ClassId, ArrOfT s cA ty ∧ va_RA s cA ty := by
  obtain ⟨cA, kA, comp, h1, h2, h3⟩ := Cond.arrayClass_spec h
  refine ⟨cA, fun n z => ⟨fun k h => (by cases h), kA, h2, comp, h3⟩, ?_⟩
  cases ty with
  | object C => exact absurd rfl (ho C)
  | _ => exact h1
set_option maxRecDepth 40000 in
theorem st_K {s : State} {b : Nat} (hts : ∀ w ∈ lw_tbl, w.before #[Value.ref b] s = true) : ∃ κ : Kp, Kx κ s := by
  obtain ⟨c0, i0, h0⟩ := u_known (C := RX0) (T := TX0) (N := 10) (n := 10) hts inX0 (hts (.instantiable RX0 10) (List.mem_of_getElem? (i := 53) (by decide +kernel)))
  obtain ⟨c1, i1, h1⟩ := u_known (C := RX1) (T := TX1) (N := 2) (n := 2) hts inX1 (hts (.instantiable RX1 2) (List.mem_of_getElem? (i := 45) (by decide +kernel)))
  obtain ⟨c2, i2, h2⟩ := u_known (C := RX2) (T := TX2) (N := 6) (n := 6) hts inX2 (hts (.instantiable RX2 6) (List.mem_of_getElem? (i := 534) (by decide +kernel)))
  obtain ⟨cI, hI⟩ := st_arr (hts (.arrayClass .int) (List.mem_of_getElem? (i := 97) (by decide +kernel))) (fun _ h => by cases h)
  obtain ⟨cZ, hZ⟩ := st_arr (hts (.arrayClass .boolean) (List.mem_of_getElem? (i := 98) (by decide +kernel))) (fun _ h => by cases h)
  obtain ⟨cL, hL⟩ := st_arr (hts (.arrayClass .long) (List.mem_of_getElem? (i := 806) (by decide +kernel))) (fun _ h => by cases h)
  refine ⟨((fun k => if k = 0 then c0 else if k = 1 then c1 else c2, fun k => if k = 0 then i0 else if k = 1 then i1 else i2), cI, cZ, cL), ⟨?_, ?_⟩, ?_, ?_⟩
  · intro k q hq
    match k, hq with
    | 0, hq => cases hq; exact h0
    | 1, hq => cases hq; exact h1
    | 2, hq => cases hq; exact h2
    | k + 3, hq => simp [vwCl] at hq
  · intro k q hq
    match k, hq with
    | 0, hq => cases hq; exact hI
    | 1, hq => cases hq; exact hZ
    | 2, hq => cases hq; exact hL
    | k + 3, hq => simp at hq
  · exact va_Nw.of rfl (hts (.methodLinkNest RX0 73 yX1_isAccord RX1) (List.mem_of_getElem? (i := 143) (by decide +kernel)))
  · exact va_Nw.of rfl (hts (.methodLinkNest RX1 9 yX0_init RX1) (List.mem_of_getElem? (i := 54) (by decide +kernel)))
set_option maxRecDepth 40000 in
theorem st_str {s : State} {b : Nat} (hts : ∀ w ∈ lw_tbl, w.before #[Value.ref b] s = true) (hgs : ∀ w ∈ flatC (Jvm.Cond.and given_1 narrow_1), w.before #[Value.ref b] s = true) (k : Nat) (tx : String) (h1 : Cond.stringRef RX1 k tx ∈ lw_tbl) (h2 : Cond.exactly (.string RX1 k) "java/lang/String" ∈ flatC (Jvm.Cond.and given_1 narrow_1)) : ∃ q : Nat, vk_R RX1 k tx q s := by
  obtain ⟨a, c, cA, kA, q1, -⟩ := Cond.exactly_spec (args := #[Value.ref b]) (first := s) (o := none) (s := s) (idx := []) (t := .string RX1 k) (cls := "java/lang/String") (hgs _ h2)
  exact ⟨a, vk_R.of (hts _ h1) q1⟩
set_option maxRecDepth 40000 in
theorem st_T {s : State} {b : Nat} (hts : ∀ w ∈ lw_tbl, w.before #[Value.ref b] s = true) (hgs : ∀ w ∈ flatC (Jvm.Cond.and given_1 narrow_1), w.before #[Value.ref b] s = true) : Tk (fun q : Nat => s.heap.size ≤ q) s s.heap :=
  ⟨⟨vx_Zqof (hts (.laysStatic Bundle.tN "UNASSIGNED_STACK" Bundle.steD) (List.mem_of_getElem? (i := 301) (by decide +kernel))) (hts (.initialized Bundle.tN) (List.mem_of_getElem? (i := 35) (by decide +kernel))) (hgs (.isRef (.static Bundle.tN "UNASSIGNED_STACK" Bundle.steD)) (by decide +kernel)) (fun a h => Nat.not_le.mpr h), vx_Zqof (hts (.laysStatic Bundle.tN "SUPPRESSED_SENTINEL" Bundle.listD) (List.mem_of_getElem? (i := 303) (by decide +kernel))) (hts (.initialized Bundle.tN) (List.mem_of_getElem? (i := 35) (by decide +kernel))) (hgs (.isRef (.static Bundle.tN "SUPPRESSED_SENTINEL" Bundle.listD)) (by decide +kernel)) (fun a h => Nat.not_le.mpr h)⟩,
   ⟨va_Nw.of rfl (hts (.declares (Bundle.initS "java/lang/RuntimeException")) (List.mem_of_getElem? (i := 278) (by decide +kernel))), va_Nw.of rfl (hts (.declares (Bundle.initS "java/lang/Exception")) (List.mem_of_getElem? (i := 280) (by decide +kernel))), va_Nw.of rfl (hts (.declares (Bundle.initS Bundle.tN)) (List.mem_of_getElem? (i := 282) (by decide +kernel))), va_Nw.of rfl (hts (.castable eIO eIO) (List.mem_of_getElem? (i := 276) (by decide +kernel))), va_Nw.of rfl (hts (.castable eIA eIA) (List.mem_of_getElem? (i := 387) (by decide +kernel))), va_Nw.of rfl (hts (.castable eIS eIS) (List.mem_of_getElem? (i := 403) (by decide +kernel)))⟩,
   ⟨st_str hts hgs 29 "there are 10 teapots" (List.mem_of_getElem? (i := 410) (by decide +kernel)) (by decide +kernel), st_str hts hgs 52 "a pot can't be poured into itself" (List.mem_of_getElem? (i := 443) (by decide +kernel)) (by decide +kernel), st_str hts hgs 82 "no such part" (List.mem_of_getElem? (i := 498) (by decide +kernel)) (by decide +kernel), st_str hts hgs 207 "no such teapot" (List.mem_of_getElem? (i := 315) (by decide +kernel)) (by decide +kernel), st_str hts hgs 209 "a number is out of its range" (List.mem_of_getElem? (i := 394) (by decide +kernel)) (by decide +kernel)⟩⟩
set_option maxRecDepth 40000 in
theorem st_N {s : State} {b : Nat} (hgs : ∀ w ∈ flatC (Jvm.Cond.and given_1 narrow_1), w.before #[Value.ref b] s = true) : Ncx s := ⟨va_Nc.of (hgs (.not (.castable eIS eIA)) (by decide +kernel)), va_Nc.of (hgs (.not (.castable eIA eIO)) (by decide +kernel))⟩
theorem st_F {l : Launch} (h : l.flags = flags0) : l.stackTraces = false := by
  show (!l.flags.contains noTraceFlag) = false
  rw [h]
  decide +kernel
