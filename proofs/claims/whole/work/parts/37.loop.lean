set_option maxHeartbeats 4000000 in
set_option maxRecDepth 100000 in
/-- the law's switch: whatever the number, a round comes to its end -/
theorem law_switch {P : Program} {l : Launch} {e : Env} {s : State} {m : MethodId} {below : List Frame} {meth : Method} {c : Code} {Q : State → Prop} {b L : Nat} {xs : Nat → Int32} {κ : Kp} {A : Nat → Prop} {x o : Nat} {a a2 mm : Nat → Nat} (hstk : l.stackTraces = false) (F : CallFix P m c cL_law 9 s #[Value.ref b] wsL_law RL) (hK : Kx κ s) (hT : Tk A s s.heap) (hN9 : Ncx s) (hA : ∀ q, s.heap.size ≤ q → A q) (hX : va_X b L xs s s.heap) (hbl : b < s.heap.size) (hbA : ¬ A b) (hL : L ≤ 2048) {i : Nat} (hi : 4 * i + 4 ≤ L) {k n : Nat} (hk : k + 300 ≤ 601024) (hn : n + 2000 ≤ 7293034) {σ τ : Sg} {br bt kp : Nat → Int} {th : Int} {g : Nat → Int64} (hI : Inv σ) (hB0 : σ 5 0 ≤ 60 * (i : Int)) (hC0 : σ 5 1 ≤ 60 * (i : Int))
    (next : LNext P l e s m below meth c Q κ A b x o a a2 mm i k n) {H : Heap} {locs : List Loc} {ls : Array Slot} (hW : St κ A s.heap H locs (WB κ x a a2 mm o σ τ br bt kp th g)) (hl : lv_has ls 9 (LLoc b x o mm i)) (w : Nat) (hw : w ≤ 63) : W P l e rm_law s m #[Value.ref b] below meth c H locs k n Q (F0 m 39 ls [.int (J (w : Int))]) := by
  obtain ⟨hx, hb, hml, hown, hts⟩ := id F
  by_cases h0 : w = 0
  · subst h0
    exact lv_tableIn (x := J ((0 : Nat) : Int)) (off := 145) (tgt := 184) hx hb dL_law_39 (by decide +kernel) (by decide +kernel) (by decide +kernel) (by decide) (law_c0 hstk F hK hT hN9 hA hX hbl hbA hL hi hk hn hI hB0 hC0 next hW hl)
  by_cases h1 : w = 1
  · subst h1
    exact lv_tableIn (x := J ((1 : Nat) : Int)) (off := 225) (tgt := 264) hx hb dL_law_39 (by decide +kernel) (by decide +kernel) (by decide +kernel) (by decide) (law_c1 hstk F hK hT hN9 hA hX hbl hbA hL hi hk hn hI hB0 hC0 next hW hl)
  by_cases h2 : w = 2
  · subst h2
    exact lv_tableIn (x := J ((2 : Nat) : Int)) (off := 293) (tgt := 332) hx hb dL_law_39 (by decide +kernel) (by decide +kernel) (by decide +kernel) (by decide) (law_c2 hstk F hK hT hN9 hA hX hbl hbA hL hi hk hn hI hB0 hC0 next hW hl)
  by_cases h3 : w = 3
  · subst h3
    exact lv_tableIn (x := J ((3 : Nat) : Int)) (off := 356) (tgt := 395) hx hb dL_law_39 (by decide +kernel) (by decide +kernel) (by decide +kernel) (by decide) (law_c3 hstk F hK hT hN9 hA hX hbl hbA hL hi hk hn hI hB0 hC0 next hW hl)
  by_cases h4 : w = 4
  · subst h4
    exact lv_tableIn (x := J ((4 : Nat) : Int)) (off := 436) (tgt := 475) hx hb dL_law_39 (by decide +kernel) (by decide +kernel) (by decide +kernel) (by decide) (law_c4 hstk F hK hT hN9 hA hX hbl hbA hL hi hk hn hI hB0 hC0 next hW hl)
  by_cases h5 : w = 5
  · subst h5
    exact lv_tableIn (x := J ((5 : Nat) : Int)) (off := 492) (tgt := 531) hx hb dL_law_39 (by decide +kernel) (by decide +kernel) (by decide +kernel) (by decide) (law_c5 hstk F hK hT hN9 hA hX hbl hbA hL hi hk hn hI hB0 hC0 next hW hl)
  by_cases h6 : w = 6
  · subst h6
    exact lv_tableIn (x := J ((6 : Nat) : Int)) (off := 548) (tgt := 587) hx hb dL_law_39 (by decide +kernel) (by decide +kernel) (by decide +kernel) (by decide) (law_c6 hstk F hK hT hN9 hA hX hbl hbA hL hi hk hn hI hB0 hC0 next hW hl)
  by_cases h7 : w = 7
  · subst h7
    exact lv_tableIn (x := J ((7 : Nat) : Int)) (off := 604) (tgt := 643) hx hb dL_law_39 (by decide +kernel) (by decide +kernel) (by decide +kernel) (by decide) (law_c7 hstk F hK hT hN9 hA hX hbl hbA hL hi hk hn hI hB0 hC0 next hW hl)
  by_cases h8 : w = 8
  · subst h8
    exact lv_tableIn (x := J ((8 : Nat) : Int)) (off := 617) (tgt := 656) hx hb dL_law_39 (by decide +kernel) (by decide +kernel) (by decide +kernel) (by decide) (law_c8 hstk F hK hT hN9 hA hX hbl hbA hL hi hk hn hI hB0 hC0 next hW hl)
  by_cases h9 : w = 9
  · subst h9
    exact lv_tableIn (x := J ((9 : Nat) : Int)) (off := 673) (tgt := 712) hx hb dL_law_39 (by decide +kernel) (by decide +kernel) (by decide +kernel) (by decide) (law_c9 hstk F hK hT hN9 hA hX hbl hbA hL hi hk hn hI hB0 hC0 next hW hl)
  by_cases h10 : w = 10
  · subst h10
    exact lv_tableIn (x := J ((10 : Nat) : Int)) (off := 729) (tgt := 768) hx hb dL_law_39 (by decide +kernel) (by decide +kernel) (by decide +kernel) (by decide) (law_c10 hstk F hK hT hN9 hA hX hbl hbA hL hi hk hn hI hB0 hC0 next hW hl)
  by_cases h11 : w = 11
  · subst h11
    exact lv_tableIn (x := J ((11 : Nat) : Int)) (off := 785) (tgt := 824) hx hb dL_law_39 (by decide +kernel) (by decide +kernel) (by decide +kernel) (by decide) (law_c11 hstk F hK hT hN9 hA hX hbl hbA hL hi hk hn hI hB0 hC0 next hW hl)
  by_cases h12 : w = 12
  · subst h12
    exact lv_tableIn (x := J ((12 : Nat) : Int)) (off := 841) (tgt := 880) hx hb dL_law_39 (by decide +kernel) (by decide +kernel) (by decide +kernel) (by decide) (law_c12 hstk F hK hT hN9 hA hX hbl hbA hL hi hk hn hI hB0 hC0 next hW hl)
  by_cases h13 : w = 13
  · subst h13
    exact lv_tableIn (x := J ((13 : Nat) : Int)) (off := 904) (tgt := 943) hx hb dL_law_39 (by decide +kernel) (by decide +kernel) (by decide +kernel) (by decide) (law_c13 hstk F hK hT hN9 hA hX hbl hbA hL hi hk hn hI hB0 hC0 next hW hl)
  by_cases h14 : w = 14
  · subst h14
    exact lv_tableIn (x := J ((14 : Nat) : Int)) (off := 960) (tgt := 999) hx hb dL_law_39 (by decide +kernel) (by decide +kernel) (by decide +kernel) (by decide) (law_c14 hstk F hK hT hN9 hA hX hbl hbA hL hi hk hn hI hB0 hC0 next hW hl)
  by_cases h15 : w = 15
  · subst h15
    exact lv_tableIn (x := J ((15 : Nat) : Int)) (off := 973) (tgt := 1012) hx hb dL_law_39 (by decide +kernel) (by decide +kernel) (by decide +kernel) (by decide) (law_c15 hstk F hK hT hN9 hA hX hbl hbA hL hi hk hn hI hB0 hC0 next hW hl)
  by_cases h16 : w = 16
  · subst h16
    exact lv_tableIn (x := J ((16 : Nat) : Int)) (off := 986) (tgt := 1025) hx hb dL_law_39 (by decide +kernel) (by decide +kernel) (by decide +kernel) (by decide) (law_c16 hstk F hK hT hN9 hA hX hbl hbA hL hi hk hn hI hB0 hC0 next hW hl)
  by_cases h17 : w = 17
  · subst h17
    exact lv_tableIn (x := J ((17 : Nat) : Int)) (off := 1054) (tgt := 1093) hx hb dL_law_39 (by decide +kernel) (by decide +kernel) (by decide +kernel) (by decide) (law_c17 hstk F hK hT hN9 hA hX hbl hbA hL hi hk hn hI hB0 hC0 next hW hl)
  by_cases h18 : w = 18
  · subst h18
    exact lv_tableIn (x := J ((18 : Nat) : Int)) (off := 1129) (tgt := 1168) hx hb dL_law_39 (by decide +kernel) (by decide +kernel) (by decide +kernel) (by decide) (law_c18 hstk F hK hT hN9 hA hX hbl hbA hL hi hk hn hI hB0 hC0 next hW hl)
  by_cases h19 : w = 19
  · subst h19
    exact lv_tableIn (x := J ((19 : Nat) : Int)) (off := 1142) (tgt := 1181) hx hb dL_law_39 (by decide +kernel) (by decide +kernel) (by decide +kernel) (by decide) (law_c19 hstk F hK hT hN9 hA hX hbl hbA hL hi hk hn hI hB0 hC0 next hW hl)
  by_cases h20 : w = 20
  · subst h20
    exact lv_tableIn (x := J ((20 : Nat) : Int)) (off := 1155) (tgt := 1194) hx hb dL_law_39 (by decide +kernel) (by decide +kernel) (by decide +kernel) (by decide) (law_c20 hstk F hK hT hN9 hA hX hbl hbA hL hi hk hn hI hB0 hC0 next hW hl)
  by_cases h21 : w = 21
  · subst h21
    exact lv_tableIn (x := J ((21 : Nat) : Int)) (off := 1211) (tgt := 1250) hx hb dL_law_39 (by decide +kernel) (by decide +kernel) (by decide +kernel) (by decide) (law_c21 hstk F hK hT hN9 hA hX hbl hbA hL hi hk hn hI hB0 hC0 next hW hl)
  by_cases h22 : w = 22
  · subst h22
    exact lv_tableIn (x := J ((22 : Nat) : Int)) (off := 1224) (tgt := 1263) hx hb dL_law_39 (by decide +kernel) (by decide +kernel) (by decide +kernel) (by decide) (law_c22 hstk F hK hT hN9 hA hX hbl hbA hL hi hk hn hI hB0 hC0 next hW hl)
  by_cases h23 : w = 23
  · subst h23
    exact lv_tableIn (x := J ((23 : Nat) : Int)) (off := 1237) (tgt := 1276) hx hb dL_law_39 (by decide +kernel) (by decide +kernel) (by decide +kernel) (by decide) (law_c23 hstk F hK hT hN9 hA hX hbl hbA hL hi hk hn hI hB0 hC0 next hW hl)
  by_cases h24 : w = 24
  · subst h24
    exact lv_tableIn (x := J ((24 : Nat) : Int)) (off := 1250) (tgt := 1289) hx hb dL_law_39 (by decide +kernel) (by decide +kernel) (by decide +kernel) (by decide) (law_c24 hstk F hK hT hN9 hA hX hbl hbA hL hi hk hn hI hB0 hC0 next hW hl)
  by_cases h25 : w = 25
  · subst h25
    exact lv_tableIn (x := J ((25 : Nat) : Int)) (off := 1263) (tgt := 1302) hx hb dL_law_39 (by decide +kernel) (by decide +kernel) (by decide +kernel) (by decide) (law_c25 hstk F hK hT hN9 hA hX hbl hbA hL hi hk hn hI hB0 hC0 next hW hl)
  by_cases h26 : w = 26
  · subst h26
    exact lv_tableIn (x := J ((26 : Nat) : Int)) (off := 1319) (tgt := 1358) hx hb dL_law_39 (by decide +kernel) (by decide +kernel) (by decide +kernel) (by decide) (law_c26 hstk F hK hT hN9 hA hX hbl hbA hL hi hk hn hI hB0 hC0 next hW hl)
  by_cases h27 : w = 27
  · subst h27
    exact lv_tableIn (x := J ((27 : Nat) : Int)) (off := 1332) (tgt := 1371) hx hb dL_law_39 (by decide +kernel) (by decide +kernel) (by decide +kernel) (by decide) (law_c27 hstk F hK hT hN9 hA hX hbl hbA hL hi hk hn hI hB0 hC0 next hW hl)
  by_cases h28 : w = 28
  · subst h28
    exact lv_tableIn (x := J ((28 : Nat) : Int)) (off := 1388) (tgt := 1427) hx hb dL_law_39 (by decide +kernel) (by decide +kernel) (by decide +kernel) (by decide) (law_c28 hstk F hK hT hN9 hA hX hbl hbA hL hi hk hn hI hB0 hC0 next hW hl)
  by_cases h29 : w = 29
  · subst h29
    exact lv_tableIn (x := J ((29 : Nat) : Int)) (off := 1401) (tgt := 1440) hx hb dL_law_39 (by decide +kernel) (by decide +kernel) (by decide +kernel) (by decide) (law_c29 hstk F hK hT hN9 hA hX hbl hbA hL hi hk hn hI hB0 hC0 next hW hl)
  by_cases h30 : w = 30
  · subst h30
    exact lv_tableIn (x := J ((30 : Nat) : Int)) (off := 1414) (tgt := 1453) hx hb dL_law_39 (by decide +kernel) (by decide +kernel) (by decide +kernel) (by decide) (law_c30 hstk F hK hT hN9 hA hX hbl hbA hL hi hk hn hI hB0 hC0 next hW hl)
  by_cases h31 : w = 31
  · subst h31
    exact lv_tableIn (x := J ((31 : Nat) : Int)) (off := 1427) (tgt := 1466) hx hb dL_law_39 (by decide +kernel) (by decide +kernel) (by decide +kernel) (by decide) (law_c31 hstk F hK hT hN9 hA hX hbl hbA hL hi hk hn hI hB0 hC0 next hW hl)
  by_cases h32 : w = 32
  · subst h32
    exact lv_tableIn (x := J ((32 : Nat) : Int)) (off := 1468) (tgt := 1507) hx hb dL_law_39 (by decide +kernel) (by decide +kernel) (by decide +kernel) (by decide) (law_c32 hstk F hK hT hN9 hA hX hbl hbA hL hi hk hn hI hB0 hC0 next hW hl)
  refine lv_tableOut (x := J (w : Int)) (tgt := 1521) hx hb dL_law_39 (Or.inr (by rw [J_toInt ⟨by omega, by omega⟩]; omega)) (by decide) ?_
  refine W.widen (k := k + 300) (n := n + 2000) (by omega) (by omega) ?_
  exact next σ τ br bt kp th g _ _ _ hI (by omega) (by omega) hW hl
set_option maxHeartbeats 4000000 in
set_option maxRecDepth 100000 in
/-- THE LAW'S LOOP, from its head, behind i rounds -/
theorem law_loop {P : Program} {l : Launch} {e : Env} {s : State} {m : MethodId} {below : List Frame} {meth : Method} {c : Code} {b L : Nat} {xs : Nat → Int32} {κ : Kp} {x o : Nat} {a a2 mm : Nat → Nat} (hstk : l.stackTraces = false) (F : CallFix P m c cL_law 9 s #[Value.ref b] wsL_law RL) (hr : meth.sig.returnType = ret) (hlocks : meth.locks = false) (hK : Kx κ s) (hT : Tk (fun q => s.heap.size ≤ q) s s.heap) (hN9 : Ncx s) (hX : va_X b L xs s s.heap) (hbl : b < s.heap.size) (hL : L ≤ 2048) :
    ∀ (n i : Nat), i + n = 513 → ∀ (σ τ : Sg) (br bt kp : Nat → Int) (th : Int) (g : Nat → Int64) (H : Heap) (locs : List Loc) (ls : Array Slot), Inv σ → σ 5 0 ≤ 60 * (i : Int) → σ 5 1 ≤ 60 * (i : Int) → St κ (fun q => s.heap.size ≤ q) s.heap H locs (WB κ x a a2 mm o σ τ br bt kp th g) → lv_has ls 9 (LLoc b x o mm i) → W P l e rm_law s m #[Value.ref b] below meth c H locs (100 + 300 * i) (1000 + 2000 * i) (lw_Z below #[Value.ref b] s) (F0 m 23 ls []) := by
  obtain ⟨hx, hb, hml, hown, hts⟩ := id F
  have hA : ∀ q : Nat, s.heap.size ≤ q → (fun q : Nat => s.heap.size ≤ q) q := fun _ h => h
  have hbA : ¬ (fun q : Nat => s.heap.size ≤ q) b := Nat.not_le.mpr hbl
  intro n
  induction n with
  | zero =>
    intro i hin σ τ br bt kp th g H locs ls hI hB hC hW hl
    refine lv_iload hx hb dL_law_23 (lv_at hl 4 rfl) ?_
    refine lv_aload_n hx hb dL_law_25 rfl (lv_at hl 0 rfl) ?_
    refine js_len (xs := xs) hx hb hX hbl hbA hW dL_law_26 ?_
    refine jv_iconst hx hb dL_law_27 ?_
    refine jv_isub hx hb dL_law_28 ?_
    refine jv_icmp_gt hx hb 1527 dL_law_29 (by decide) ⟨by omega, by omega⟩ ⟨by omega, by omega⟩ (fun h => ?_) (fun h => by exfalso; omega)
    refine jv_iconst hx hb dL_law_1527 ?_
    refine va_forget (fun q hq => hW.2.2.2.2 q hq) ?_
    refine W.widen (k := 601024) (n := 7293034) (by omega) (by omega) ?_
    exact lw_ret (d0 := s.drawn) (Drawn.sameBut.refl s.drawn lw_cs) hx hb hr hlocks dL_law_1528
  | succ n ih =>
    intro i hin σ τ br bt kp th g H locs ls hI hB hC hW hl
    refine lv_iload hx hb dL_law_23 (lv_at hl 4 rfl) ?_
    refine lv_aload_n hx hb dL_law_25 rfl (lv_at hl 0 rfl) ?_
    refine js_len (xs := xs) hx hb hX hbl hbA hW dL_law_26 ?_
    refine jv_iconst hx hb dL_law_27 ?_
    refine jv_isub hx hb dL_law_28 ?_
    refine jv_icmp_gt hx hb 1527 dL_law_29 (by decide) ⟨by omega, by omega⟩ ⟨by omega, by omega⟩ (fun h => ?_) (fun h => ?_)
    · refine jv_iconst hx hb dL_law_1527 ?_
      refine va_forget (fun q hq => hW.2.2.2.2 q hq) ?_
      refine W.widen (k := 601024) (n := 7293034) (by omega) (by omega) ?_
      exact lw_ret (d0 := s.drawn) (Drawn.sameBut.refl s.drawn lw_cs) hx hb hr hlocks dL_law_1528
    · refine lv_aload_n hx hb dL_law_32 rfl (lv_at hl 0 rfl) ?_
      refine lv_iload hx hb dL_law_33 (lv_at hl 4 rfl) ?_
      refine js_ld (xs := xs) hx hb hX hbl hbA hW (4 * i) (by omega) (by omega) hL dL_law_35 ?_
      refine jv_bipush hx hb 63 dL_law_36 (by decide +kernel) ?_
      obtain ⟨w, hw, ew⟩ := and63 (J (sx xs (4 * i)))
      refine lv_iand hx hb dL_law_38 ?_
      refine jv_top ew ?_
      refine law_switch hstk F hK hT hN9 hA hX hbl hbA hL (i := i) (by omega) (by omega) (by omega) hI hB hC ?_ hW hl w hw
      intro σ' τ' br' bt' kp' th' g' H locs ls hI' hB' hC' hW hl
      refine jv_iinc (k := 4) (z := 4 * (i : Int)) (lv' := [(4, .int (J (4 * (i : Int) + 4))), (0, .ref b), (1, .ref x), (2, .ref (mm 0)), (3, .ref o)]) hx hb dL_law_1521 hl rfl (by decide) rfl (fun ls hl => ?_)
      refine lv_goto (tgt := 23) hx hb dL_law_1524 (by decide) ?_
      have hl2 := lv_sub (l' := [(0, .ref b), (1, .ref x), (2, .ref (mm 0)), (3, .ref o), (4, .int (J (4 * (i : Int) + 4)))]) hl [1, 2, 3, 4, 0] rfl
      rw [show 4 * (i : Int) + 4 = 4 * ((i + 1 : Nat) : Int) by omega] at hl2
      refine W.widen (k := 100 + 300 * (i + 1)) (n := 1000 + 2000 * (i + 1)) (by omega) (by omega) ?_
      exact ih (i + 1) (by omega) σ' τ' br' bt' kp' th' g' H locs ls hI' (by omega) (by omega) hW hl2