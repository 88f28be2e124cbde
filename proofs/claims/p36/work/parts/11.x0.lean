abbrev rm_X0_isSounding : Room := { frames := 0, cells := 0, slots := 0, locals := 0 }
set_option maxHeartbeats 4000000 in
set_option maxRecDepth 100000 in
/-- isSounding -/
theorem m_X0_isSounding (l : Launch) (κ : Kp) (a : Nat → Nat) (σ : Sg) (br : Nat → Int) (p : Nat) (hp : p < 10) (hI : Inv σ) : CGi l yX0_isSounding wsX0_isSounding rm_X0_isSounding κ [.ref (a 0), .int (J (p : Int))] (WC κ a σ br) (fun r _ => r = J (bi (sn σ p))) (fun (_ : Unit) => (WC κ a σ br)) := by
  refine entry_z (by decide) rfl (Nat.le_of_ble_eq_true rfl) ?_
  intro P e s m args below meth c ls A Q F hname hK hA hret hW hl
  obtain ⟨hx, hb, hml, hown, hts⟩ := id F
  have hn0 : ∀ w ∈ wsX00, w ∈ wsX0_isSounding := by decide +kernel
  have hbp := hI.at p hp
  refine lv_aload_n hx hb dX0_isSounding_0 rfl (lv_at hl 0 rfl) ?_
  refine jv_get (T := TX0) (N := 10) (v := .ref (a 3)) hx hb hts hn0 hown hK hW 0 rfl rfl 2 (by decide) (List.mem_of_getElem? (i := 1) rfl) rfl dX0_isSounding_1 ?_
  refine lv_iload_n hx hb dX0_isSounding_4 rfl (lv_at hl 1 rfl) ?_
  refine jv_iald (g := (σ 1)) hx hb hK hW 3 rfl p rfl (by omega) (by decide) dX0_isSounding_5 ?_
  refine jv_if_le hx hb 22 dX0_isSounding_6 (by decide) ⟨by omega, by omega⟩ (fun h_1 => ?_) (fun h_1 => ?_)
  · skip
    refine jv_iconst hx hb dX0_isSounding_22 ?_
    exact hret () hW dX0_isSounding_23 (by first | exact Nat.le_of_ble_eq_true rfl | omega | (dsimp only [rm_X0_isSounding]; omega)) (by first | exact Nat.le_of_ble_eq_true rfl | omega | (dsimp only [rm_X0_isSounding]; omega)) (by first | exact zr_01 (Or.inl rfl) | exact zr_01 (Or.inr rfl) | exact zr_b _ | exact zr_01 (by omega)) (J_f (decide_eq_false (by omega)))
  · skip
    refine lv_aload_n hx hb dX0_isSounding_9 rfl (lv_at hl 0 rfl) ?_
    refine jv_get (T := TX0) (N := 10) (v := .ref (a 5)) hx hb hts hn0 hown hK hW 0 rfl rfl 4 (by decide) (List.mem_of_getElem? (i := 2) rfl) rfl dX0_isSounding_10 ?_
    refine lv_iload_n hx hb dX0_isSounding_13 rfl (lv_at hl 1 rfl) ?_
    refine jv_zald (g := (σ 3)) hx hb hK hW 5 rfl p rfl (by omega) (by decide) dX0_isSounding_14 ?_
    refine jv_if_ne hx hb 22 dX0_isSounding_15 (by decide) ⟨by omega, by omega⟩ (fun h_2 => ?_) (fun h_2 => ?_)
    · skip
      refine jv_iconst hx hb dX0_isSounding_22 ?_
      exact hret () hW dX0_isSounding_23 (by first | exact Nat.le_of_ble_eq_true rfl | omega | (dsimp only [rm_X0_isSounding]; omega)) (by first | exact Nat.le_of_ble_eq_true rfl | omega | (dsimp only [rm_X0_isSounding]; omega)) (by first | exact zr_01 (Or.inl rfl) | exact zr_01 (Or.inr rfl) | exact zr_b _ | exact zr_01 (by omega)) (J_f (decide_eq_false (by omega)))
    · skip
      refine jv_iconst hx hb dX0_isSounding_18 ?_
      refine lv_goto (tgt := 23) hx hb dX0_isSounding_19 (by decide) ?_
      exact hret () hW dX0_isSounding_23 (by first | exact Nat.le_of_ble_eq_true rfl | omega | (dsimp only [rm_X0_isSounding]; omega)) (by first | exact Nat.le_of_ble_eq_true rfl | omega | (dsimp only [rm_X0_isSounding]; omega)) (by first | exact zr_01 (Or.inl rfl) | exact zr_01 (Or.inr rfl) | exact zr_b _ | exact zr_01 (by omega)) (J_t (decide_eq_true (by omega)))

abbrev rm_X1_isAccord : Room := { frames := 1, cells := 0, slots := 0, locals := 21 }
set_option maxHeartbeats 4000000 in
set_option maxRecDepth 100000 in
/-- isAccord -/
theorem m_X1_isAccord (l : Launch) (κ : Kp) (x y : Int) (hxy : -100 ≤ x ∧ x ≤ 100 ∧ -100 ≤ y ∧ y ≤ 100) : CGi l yX1_isAccord wsX1_isAccord rm_X1_isAccord κ [.int (J x), .int (J y)] ([] : va_W) (fun r _ => r = J (bi (ac x y))) (fun (_ : Unit) => ([] : va_W)) := by
  refine entry_z (by decide) rfl (Nat.le_of_ble_eq_true rfl) ?_
  intro P e s m args below meth c ls A Q F hname hK hA hret hW hl
  obtain ⟨hx, hb, hml, hown, hts⟩ := id F
  refine lv_iload_n hx hb dX1_isAccord_0 rfl (lv_at hl 0 rfl) ?_
  refine lv_iload_n hx hb dX1_isAccord_1 rfl (lv_at hl 1 rfl) ?_
  refine jv_isub hx hb dX1_isAccord_2 ?_
  refine jv_abs hx hb hown hml hl hts (List.mem_of_getElem? (i := 1) rfl) (List.mem_of_getElem? (i := 2) rfl) (List.mem_of_getElem? (i := 3) rfl) (List.mem_of_getElem? (i := 4) rfl) (Nat.le_of_ble_eq_true rfl) (Nat.le_of_ble_eq_true rfl) (by first | exact Nat.le_of_ble_eq_true rfl | omega) (by first | exact Nat.le_of_ble_eq_true rfl | omega) ⟨by omega, by omega⟩ dX1_isAccord_3 ?_
  refine jv_bipush hx hb 12 dX1_isAccord_6 (by decide +kernel) ?_
  refine jv_irem hx hb dX1_isAccord_8 (by omega) ?_
  obtain ⟨t, ht⟩ : ∃ t : Int, t = stp x y := ⟨_, rfl⟩
  have ht0 : 0 ≤ t ∧ t < 12 := by rw [ht]; unfold stp; omega
  refine jv_eq (y := t) (by rw [ht]; rfl) ?_
  have hac : ∀ b : Bool, decide (t = 0 ∨ t = 3 ∨ t = 4 ∨ t = 5 ∨ t = 7 ∨ t = 8 ∨ t = 9) = b → ac x y = b := fun b h => by rw [← h, ht]; rfl
  clear ht
  rcases (show t = 0 ∨ t = 1 ∨ t = 2 ∨ t = 3 ∨ t = 4 ∨ t = 5 ∨ t = 6 ∨ t = 7 ∨ t = 8 ∨ t = 9 ∨ t = 10 ∨ t = 11 by omega) with h | h | h | h | h | h | h | h | h | h | h | h
  · subst h
    refine lv_tableIn (off := 55) (tgt := 64) hx hb dX1_isAccord_9 (by decide) (by decide) (by decide +kernel) (by decide) ?_
    refine jv_iconst hx hb dX1_isAccord_64 ?_
    exact hret () hW dX1_isAccord_65 (by first | exact Nat.le_of_ble_eq_true rfl | omega | (dsimp only [rm_X1_isAccord]; omega)) (by first | exact Nat.le_of_ble_eq_true rfl | omega | (dsimp only [rm_X1_isAccord]; omega)) (by first | exact zr_01 (Or.inl rfl) | exact zr_01 (Or.inr rfl) | exact zr_b _ | exact zr_01 (by omega)) (J_t (hac true (by decide)))
  · subst h
    refine lv_tableIn (off := 57) (tgt := 66) hx hb dX1_isAccord_9 (by decide) (by decide) (by decide +kernel) (by decide) ?_
    refine jv_iconst hx hb dX1_isAccord_66 ?_
    exact hret () hW dX1_isAccord_67 (by first | exact Nat.le_of_ble_eq_true rfl | omega | (dsimp only [rm_X1_isAccord]; omega)) (by first | exact Nat.le_of_ble_eq_true rfl | omega | (dsimp only [rm_X1_isAccord]; omega)) (by first | exact zr_01 (Or.inl rfl) | exact zr_01 (Or.inr rfl) | exact zr_b _ | exact zr_01 (by omega)) (J_f (hac false (by decide)))
  · subst h
    refine lv_tableIn (off := 57) (tgt := 66) hx hb dX1_isAccord_9 (by decide) (by decide) (by decide +kernel) (by decide) ?_
    refine jv_iconst hx hb dX1_isAccord_66 ?_
    exact hret () hW dX1_isAccord_67 (by first | exact Nat.le_of_ble_eq_true rfl | omega | (dsimp only [rm_X1_isAccord]; omega)) (by first | exact Nat.le_of_ble_eq_true rfl | omega | (dsimp only [rm_X1_isAccord]; omega)) (by first | exact zr_01 (Or.inl rfl) | exact zr_01 (Or.inr rfl) | exact zr_b _ | exact zr_01 (by omega)) (J_f (hac false (by decide)))
  · subst h
    refine lv_tableIn (off := 55) (tgt := 64) hx hb dX1_isAccord_9 (by decide) (by decide) (by decide +kernel) (by decide) ?_
    refine jv_iconst hx hb dX1_isAccord_64 ?_
    exact hret () hW dX1_isAccord_65 (by first | exact Nat.le_of_ble_eq_true rfl | omega | (dsimp only [rm_X1_isAccord]; omega)) (by first | exact Nat.le_of_ble_eq_true rfl | omega | (dsimp only [rm_X1_isAccord]; omega)) (by first | exact zr_01 (Or.inl rfl) | exact zr_01 (Or.inr rfl) | exact zr_b _ | exact zr_01 (by omega)) (J_t (hac true (by decide)))
  · subst h
    refine lv_tableIn (off := 55) (tgt := 64) hx hb dX1_isAccord_9 (by decide) (by decide) (by decide +kernel) (by decide) ?_
    refine jv_iconst hx hb dX1_isAccord_64 ?_
    exact hret () hW dX1_isAccord_65 (by first | exact Nat.le_of_ble_eq_true rfl | omega | (dsimp only [rm_X1_isAccord]; omega)) (by first | exact Nat.le_of_ble_eq_true rfl | omega | (dsimp only [rm_X1_isAccord]; omega)) (by first | exact zr_01 (Or.inl rfl) | exact zr_01 (Or.inr rfl) | exact zr_b _ | exact zr_01 (by omega)) (J_t (hac true (by decide)))
  · subst h
    refine lv_tableIn (off := 55) (tgt := 64) hx hb dX1_isAccord_9 (by decide) (by decide) (by decide +kernel) (by decide) ?_
    refine jv_iconst hx hb dX1_isAccord_64 ?_
    exact hret () hW dX1_isAccord_65 (by first | exact Nat.le_of_ble_eq_true rfl | omega | (dsimp only [rm_X1_isAccord]; omega)) (by first | exact Nat.le_of_ble_eq_true rfl | omega | (dsimp only [rm_X1_isAccord]; omega)) (by first | exact zr_01 (Or.inl rfl) | exact zr_01 (Or.inr rfl) | exact zr_b _ | exact zr_01 (by omega)) (J_t (hac true (by decide)))
  · subst h
    refine lv_tableIn (off := 57) (tgt := 66) hx hb dX1_isAccord_9 (by decide) (by decide) (by decide +kernel) (by decide) ?_
    refine jv_iconst hx hb dX1_isAccord_66 ?_
    exact hret () hW dX1_isAccord_67 (by first | exact Nat.le_of_ble_eq_true rfl | omega | (dsimp only [rm_X1_isAccord]; omega)) (by first | exact Nat.le_of_ble_eq_true rfl | omega | (dsimp only [rm_X1_isAccord]; omega)) (by first | exact zr_01 (Or.inl rfl) | exact zr_01 (Or.inr rfl) | exact zr_b _ | exact zr_01 (by omega)) (J_f (hac false (by decide)))
  · subst h
    refine lv_tableIn (off := 55) (tgt := 64) hx hb dX1_isAccord_9 (by decide) (by decide) (by decide +kernel) (by decide) ?_
    refine jv_iconst hx hb dX1_isAccord_64 ?_
    exact hret () hW dX1_isAccord_65 (by first | exact Nat.le_of_ble_eq_true rfl | omega | (dsimp only [rm_X1_isAccord]; omega)) (by first | exact Nat.le_of_ble_eq_true rfl | omega | (dsimp only [rm_X1_isAccord]; omega)) (by first | exact zr_01 (Or.inl rfl) | exact zr_01 (Or.inr rfl) | exact zr_b _ | exact zr_01 (by omega)) (J_t (hac true (by decide)))
  · subst h
    refine lv_tableIn (off := 55) (tgt := 64) hx hb dX1_isAccord_9 (by decide) (by decide) (by decide +kernel) (by decide) ?_
    refine jv_iconst hx hb dX1_isAccord_64 ?_
    exact hret () hW dX1_isAccord_65 (by first | exact Nat.le_of_ble_eq_true rfl | omega | (dsimp only [rm_X1_isAccord]; omega)) (by first | exact Nat.le_of_ble_eq_true rfl | omega | (dsimp only [rm_X1_isAccord]; omega)) (by first | exact zr_01 (Or.inl rfl) | exact zr_01 (Or.inr rfl) | exact zr_b _ | exact zr_01 (by omega)) (J_t (hac true (by decide)))
  · subst h
    refine lv_tableIn (off := 55) (tgt := 64) hx hb dX1_isAccord_9 (by decide) (by decide) (by decide +kernel) (by decide) ?_
    refine jv_iconst hx hb dX1_isAccord_64 ?_
    exact hret () hW dX1_isAccord_65 (by first | exact Nat.le_of_ble_eq_true rfl | omega | (dsimp only [rm_X1_isAccord]; omega)) (by first | exact Nat.le_of_ble_eq_true rfl | omega | (dsimp only [rm_X1_isAccord]; omega)) (by first | exact zr_01 (Or.inl rfl) | exact zr_01 (Or.inr rfl) | exact zr_b _ | exact zr_01 (by omega)) (J_t (hac true (by decide)))
  · subst h
    refine lv_tableOut (tgt := 66) hx hb dX1_isAccord_9 (by decide) (by decide) ?_
    refine jv_iconst hx hb dX1_isAccord_66 ?_
    exact hret () hW dX1_isAccord_67 (by first | exact Nat.le_of_ble_eq_true rfl | omega | (dsimp only [rm_X1_isAccord]; omega)) (by first | exact Nat.le_of_ble_eq_true rfl | omega | (dsimp only [rm_X1_isAccord]; omega)) (by first | exact zr_01 (Or.inl rfl) | exact zr_01 (Or.inr rfl) | exact zr_b _ | exact zr_01 (by omega)) (J_f (hac false (by decide)))
  · subst h
    refine lv_tableOut (tgt := 66) hx hb dX1_isAccord_9 (by decide) (by decide) ?_
    refine jv_iconst hx hb dX1_isAccord_66 ?_
    exact hret () hW dX1_isAccord_67 (by first | exact Nat.le_of_ble_eq_true rfl | omega | (dsimp only [rm_X1_isAccord]; omega)) (by first | exact Nat.le_of_ble_eq_true rfl | omega | (dsimp only [rm_X1_isAccord]; omega)) (by first | exact zr_01 (Or.inl rfl) | exact zr_01 (Or.inr rfl) | exact zr_b _ | exact zr_01 (by omega)) (J_f (hac false (by decide)))

abbrev rm_X0_countSounding : Room := { frames := 1, cells := 0, slots := 0, locals := 21 }
set_option maxHeartbeats 4000000 in
set_option maxRecDepth 100000 in
/-- countSounding -/
theorem m_X0_countSounding (l : Launch) (κ : Kp) (a : Nat → Nat) (σ : Sg) (br : Nat → Int) (hI : Inv σ) : CGi l yX0_countSounding wsX0_countSounding rm_X0_countSounding κ [.ref (a 0)] (WC κ a σ br) (fun r _ => r = J (ns σ : Int)) (fun (_ : Unit) => (WC κ a σ br)) := by
  refine entry_i (by decide) rfl (Nat.le_of_ble_eq_true rfl) ?_
  intro P e s m args below meth c ls A Q F hname hK hA hret hW hl
  obtain ⟨hx, hb, hml, hown, hts⟩ := id F
  have hn0 : ∀ w ∈ wsX00, w ∈ wsX0_countSounding := by decide +kernel
  have hN := hI.hN
  have hN10 := hI.n10
  refine jv_iconst hx hb dX0_countSounding_0 ?_
  refine lv_istore_n (lv' := [(1, .int (J 0)), (0, .ref (a 0))]) hx hb dX0_countSounding_1 rfl hl (by decide) rfl (fun ls hl => ?_)
  refine jv_iconst hx hb dX0_countSounding_2 ?_
  refine lv_istore_n (lv' := [(2, .int (J 0)), (1, .int (J 0)), (0, .ref (a 0))]) hx hb dX0_countSounding_3 rfl hl (by decide) rfl (fun ls hl => ?_)
  suffices hlp : ∀ (n i : Nat), i ≤ (nn σ) → (nn σ) < i + n → ∀ (f : Int), ∀ (H : Heap) (locs : List Loc) (ls : Array Slot), (f = (fb_ct (sn σ) i : Int)) → St κ A s.heap H locs (WC κ a σ br) → lv_has ls 3 [(2, .int (J (i : Int))), (1, .int (J f)), (0, .ref (a 0))] → W P l e rm_X0_countSounding s m args below meth c H locs 0 0 Q (F0 m 4 ls []) from
    hlp ((nn σ) + 1) 0 (Nat.zero_le _) (by omega) 0 _ _ _ (by simp [fb_ct, fb_sm]) hW hl
  intro n
  induction n with
  | zero => intro i h1 h2; exact absurd h2 (by omega)
  | succ n ih =>
    intro i hi hn f H locs ls q_f hW hl
    refine lv_iload_n hx hb dX0_countSounding_4 rfl (lv_at hl 0 rfl) ?_
    refine lv_aload_n hx hb dX0_countSounding_5 rfl (lv_at hl 2 rfl) ?_
    refine jv_get (T := TX0) (N := 10) (v := .int (J (σ 5 3))) hx hb hts hn0 hown hK hW 0 rfl rfl 6 (by decide) (List.mem_of_getElem? (i := 1) rfl) rfl dX0_countSounding_6 ?_
    refine jv_icmp_ge hx hb 29 dX0_countSounding_9 (by decide) ⟨by omega, by omega⟩ ⟨by omega, by omega⟩ (fun h_1 => ?_) (fun h_1 => ?_)
    · skip
      refine lv_iload_n hx hb dX0_countSounding_29 rfl (lv_at hl 1 rfl) ?_
      exact hret () hW dX0_countSounding_30 (by first | exact Nat.le_of_ble_eq_true rfl | omega | (dsimp only [rm_X0_countSounding]; omega)) (by first | exact Nat.le_of_ble_eq_true rfl | omega | (dsimp only [rm_X0_countSounding]; omega)) (by rw [q_f, show i = nn σ by omega]; rfl)
    · skip
      refine lv_aload_n hx hb dX0_countSounding_12 rfl (lv_at hl 2 rfl) ?_
      refine lv_iload_n hx hb dX0_countSounding_13 rfl (lv_at hl 0 rfl) ?_
      refine fin_i (k := 0) (n := 0) (W2 := (fun _ => (WC κ a σ br))) [0, 1, 2, 3, 4, 5, 6] [] [0, 1, 2, 3, 4, 5, 6] hW hA (va_runV (As := [.int (J (i : Int))]) (rest := []) F ((m_X0_isSounding l κ a σ br i (by omega) hI) _) (cwV 1 hts gX0_countSounding_X0_isSounding rfl rfl rfl (by decide +kernel) ⟨(Nat.le_of_ble_eq_true rfl), (Nat.le_of_ble_eq_true rfl)⟩) (pre_V hK hW [0, 1, 2, 3, 4, 5, 6] rfl (by decide) 0 0 rfl rfl) rfl rfl hl.1 rfl (lv_room (Nat.le_of_ble_eq_true rfl)) dX0_countSounding_14 ⟨(by first | exact Nat.le_of_ble_eq_true rfl | omega | (dsimp only [rm_X0_countSounding, rm_X0_isSounding]; omega)), (by first | exact Nat.le_of_ble_eq_true rfl | omega | (dsimp only [rm_X0_countSounding, rm_X0_isSounding]; omega))⟩) rfl rfl rfl (by decide) rfl (fun _ => rfl) (by first | exact Nat.le_of_ble_eq_true rfl | omega | (dsimp only [rm_X0_countSounding, rm_X0_isSounding]; omega)) (by first | exact Nat.le_of_ble_eq_true rfl | omega | (dsimp only [rm_X0_countSounding, rm_X0_isSounding]; omega)) (fun r_3 u H locs hp_2 hW => ?_)
      subst hp_2
      refine jv_ifb_eq (b := (sn σ i)) hx hb 23 dX0_countSounding_17 (by decide) (fun h_4 => ?_) (fun h_4 => ?_)
      · skip
        refine jv_iinc (k := 0) (z := (i : Int)) (lv' := [(2, .int (J ((i : Int) + 1))), (1, .int (J f)), (0, .ref (a 0))]) hx hb dX0_countSounding_23 hl rfl (by decide) rfl (fun ls hl => ?_)
        refine lv_goto (tgt := 4) hx hb dX0_countSounding_26 (by decide) ?_
        exact ih (i + 1) (by omega) (by omega) f _ _ _ (by simp [fb_ct_succ, q_f, h_4]) hW hl
      · skip
        refine jv_iinc (k := 1) (z := f) (lv' := [(1, .int (J (f + 1))), (2, .int (J (i : Int))), (0, .ref (a 0))]) hx hb dX0_countSounding_20 hl rfl (by decide) rfl (fun ls hl => ?_)
        refine jv_iinc (k := 1) (z := (i : Int)) (lv' := [(2, .int (J ((i : Int) + 1))), (1, .int (J (f + 1))), (0, .ref (a 0))]) hx hb dX0_countSounding_23 hl rfl (by decide) rfl (fun ls hl => ?_)
        refine lv_goto (tgt := 4) hx hb dX0_countSounding_26 (by decide) ?_
        exact ih (i + 1) (by omega) (by omega) (f + 1) _ _ _ (by simp [fb_ct_succ, q_f, h_4]) hW hl

abbrev rm_X0_countSoundingIn : Room := { frames := 1, cells := 0, slots := 0, locals := 21 }
set_option maxHeartbeats 4000000 in
set_option maxRecDepth 100000 in
/-- countSoundingIn -/
theorem m_X0_countSoundingIn (l : Launch) (κ : Kp) (a : Nat → Nat) (σ : Sg) (br : Nat → Int) (z : Int) (hz : 0 ≤ z ∧ z ≤ 3) (hI : Inv σ) : CGi l yX0_countSoundingIn wsX0_countSoundingIn rm_X0_countSoundingIn κ [.ref (a 0), .int (J z)] (WC κ a σ br) (fun r _ => r = J (fb_ct (snp σ z) (nn σ) : Int)) (fun (_ : Unit) => (WC κ a σ br)) := by
  refine entry_i (by decide) rfl (Nat.le_of_ble_eq_true rfl) ?_
  intro P e s m args below meth c ls A Q F hname hK hA hret hW hl
  obtain ⟨hx, hb, hml, hown, hts⟩ := id F
  have hn0 : ∀ w ∈ wsX00, w ∈ wsX0_countSoundingIn := by decide +kernel
  have hN := hI.hN
  have hN10 := hI.n10
  refine jv_iconst hx hb dX0_countSoundingIn_0 ?_
  refine lv_istore_n (lv' := [(2, .int (J 0)), (0, .ref (a 0)), (1, .int (J z))]) hx hb dX0_countSoundingIn_1 rfl hl (by decide) rfl (fun ls hl => ?_)
  refine jv_iconst hx hb dX0_countSoundingIn_2 ?_
  refine lv_istore_n (lv' := [(3, .int (J 0)), (2, .int (J 0)), (0, .ref (a 0)), (1, .int (J z))]) hx hb dX0_countSoundingIn_3 rfl hl (by decide) rfl (fun ls hl => ?_)
  suffices hlp : ∀ (n i : Nat), i ≤ (nn σ) → (nn σ) < i + n → ∀ (f : Int), ∀ (H : Heap) (locs : List Loc) (ls : Array Slot), (f = (fb_ct (snp σ z) i : Int)) → St κ A s.heap H locs (WC κ a σ br) → lv_has ls 4 [(3, .int (J (i : Int))), (2, .int (J f)), (0, .ref (a 0)), (1, .int (J z))] → W P l e rm_X0_countSoundingIn s m args below meth c H locs 0 0 Q (F0 m 4 ls []) from
    hlp ((nn σ) + 1) 0 (Nat.zero_le _) (by omega) 0 _ _ _ (by simp [fb_ct, fb_sm]) hW hl
  intro n
  induction n with
  | zero => intro i h1 h2; exact absurd h2 (by omega)
  | succ n ih =>
    intro i hi hn f H locs ls q_f hW hl
    refine lv_iload_n hx hb dX0_countSoundingIn_4 rfl (lv_at hl 0 rfl) ?_
    refine lv_aload_n hx hb dX0_countSoundingIn_5 rfl (lv_at hl 2 rfl) ?_
    refine jv_get (T := TX0) (N := 10) (v := .int (J (σ 5 3))) hx hb hts hn0 hown hK hW 0 rfl rfl 6 (by decide) (List.mem_of_getElem? (i := 1) rfl) rfl dX0_countSoundingIn_6 ?_
    refine jv_icmp_ge hx hb 39 dX0_countSoundingIn_9 (by decide) ⟨by omega, by omega⟩ ⟨by omega, by omega⟩ (fun h_1 => ?_) (fun h_1 => ?_)
    · skip
      refine lv_iload_n hx hb dX0_countSoundingIn_39 rfl (lv_at hl 1 rfl) ?_
      exact hret () hW dX0_countSoundingIn_40 (by first | exact Nat.le_of_ble_eq_true rfl | omega | (dsimp only [rm_X0_countSoundingIn]; omega)) (by first | exact Nat.le_of_ble_eq_true rfl | omega | (dsimp only [rm_X0_countSoundingIn]; omega)) (by rw [q_f, show i = nn σ by omega])
    · skip
      have hbi := hI.at i (by omega)
      refine lv_aload_n hx hb dX0_countSoundingIn_12 rfl (lv_at hl 2 rfl) ?_
      refine jv_get (T := TX0) (N := 10) (v := .ref (a 1)) hx hb hts hn0 hown hK hW 0 rfl rfl 0 (by decide) (List.mem_of_getElem? (i := 2) rfl) rfl dX0_countSoundingIn_13 ?_
      refine lv_iload_n hx hb dX0_countSoundingIn_16 rfl (lv_at hl 0 rfl) ?_
      refine jv_iald (g := (σ 4)) hx hb hK hW 1 rfl i rfl (by omega) (by decide) dX0_countSoundingIn_17 ?_
      refine lv_iload_n hx hb dX0_countSoundingIn_18 rfl (lv_at hl 3 rfl) ?_
      refine jv_icmp_ne hx hb 33 dX0_countSoundingIn_19 (by decide) ⟨by omega, by omega⟩ ⟨by omega, by omega⟩ (fun h_2 => ?_) (fun h_2 => ?_)
      · skip
        refine jv_iinc (k := 0) (z := (i : Int)) (lv' := [(3, .int (J ((i : Int) + 1))), (2, .int (J f)), (0, .ref (a 0)), (1, .int (J z))]) hx hb dX0_countSoundingIn_33 hl rfl (by decide) rfl (fun ls hl => ?_)
        refine lv_goto (tgt := 4) hx hb dX0_countSoundingIn_36 (by decide) ?_
        exact ih (i + 1) (by omega) (by omega) f _ _ _ (by simp [fb_ct_succ, q_f, snp, h_2]) hW hl
      · skip
        refine lv_aload_n hx hb dX0_countSoundingIn_22 rfl (lv_at hl 2 rfl) ?_
        refine lv_iload_n hx hb dX0_countSoundingIn_23 rfl (lv_at hl 0 rfl) ?_
        refine fin_i (k := 0) (n := 0) (W2 := (fun _ => (WC κ a σ br))) [0, 1, 2, 3, 4, 5, 6] [] [0, 1, 2, 3, 4, 5, 6] hW hA (va_runV (As := [.int (J (i : Int))]) (rest := []) F ((m_X0_isSounding l κ a σ br i (by omega) hI) _) (cwV 1 hts gX0_countSoundingIn_X0_isSounding rfl rfl rfl (by decide +kernel) ⟨(Nat.le_of_ble_eq_true rfl), (Nat.le_of_ble_eq_true rfl)⟩) (pre_V hK hW [0, 1, 2, 3, 4, 5, 6] rfl (by decide) 0 0 rfl rfl) rfl rfl hl.1 rfl (lv_room (Nat.le_of_ble_eq_true rfl)) dX0_countSoundingIn_24 ⟨(by first | exact Nat.le_of_ble_eq_true rfl | omega | (dsimp only [rm_X0_countSoundingIn, rm_X0_isSounding]; omega)), (by first | exact Nat.le_of_ble_eq_true rfl | omega | (dsimp only [rm_X0_countSoundingIn, rm_X0_isSounding]; omega))⟩) rfl rfl rfl (by decide) rfl (fun _ => rfl) (by first | exact Nat.le_of_ble_eq_true rfl | omega | (dsimp only [rm_X0_countSoundingIn, rm_X0_isSounding]; omega)) (by first | exact Nat.le_of_ble_eq_true rfl | omega | (dsimp only [rm_X0_countSoundingIn, rm_X0_isSounding]; omega)) (fun r_4 u H locs hp_3 hW => ?_)
        subst hp_3
        refine jv_ifb_eq (b := (sn σ i)) hx hb 33 dX0_countSoundingIn_27 (by decide) (fun h_5 => ?_) (fun h_5 => ?_)
        · skip
          refine jv_iinc (k := 0) (z := (i : Int)) (lv' := [(3, .int (J ((i : Int) + 1))), (2, .int (J f)), (0, .ref (a 0)), (1, .int (J z))]) hx hb dX0_countSoundingIn_33 hl rfl (by decide) rfl (fun ls hl => ?_)
          refine lv_goto (tgt := 4) hx hb dX0_countSoundingIn_36 (by decide) ?_
          exact ih (i + 1) (by omega) (by omega) f _ _ _ (by simp [fb_ct_succ, q_f, snp, h_2, h_5]) hW hl
        · skip
          refine jv_iinc (k := 1) (z := f) (lv' := [(2, .int (J (f + 1))), (3, .int (J (i : Int))), (0, .ref (a 0)), (1, .int (J z))]) hx hb dX0_countSoundingIn_30 hl rfl (by decide) rfl (fun ls hl => ?_)
          refine jv_iinc (k := 1) (z := (i : Int)) (lv' := [(3, .int (J ((i : Int) + 1))), (2, .int (J (f + 1))), (0, .ref (a 0)), (1, .int (J z))]) hx hb dX0_countSoundingIn_33 hl rfl (by decide) rfl (fun ls hl => ?_)
          refine lv_goto (tgt := 4) hx hb dX0_countSoundingIn_36 (by decide) ?_
          exact ih (i + 1) (by omega) (by omega) (f + 1) _ _ _ (by simp [fb_ct_succ, q_f, snp, h_2, h_5]) hW hl

abbrev rm_X0_countClashesAt : Room := { frames := 2, cells := 0, slots := 0, locals := 42 }
set_option maxHeartbeats 4000000 in
set_option maxRecDepth 100000 in
/-- countClashesAt -/
theorem m_X0_countClashesAt (l : Launch) (κ : Kp) (a : Nat → Nat) (σ : Sg) (br : Nat → Int) (p : Nat) (v : Int) (hp : p < 10) (hv : 0 ≤ v ∧ v ≤ 35) (hI : Inv σ) : CGi l yX0_countClashesAt wsX0_countClashesAt rm_X0_countClashesAt κ [.ref (a 0), .int (J (p : Int)), .int (J v)] (WC κ a σ br) (fun r _ => r = J (ca σ p v : Int)) (fun (_ : Unit) => (WC κ a σ br)) := by
  refine entry_i (by decide) rfl (Nat.le_of_ble_eq_true rfl) ?_
  intro P e s m args below meth c ls A Q F hname hK hA hret hW hl
  obtain ⟨hx, hb, hml, hown, hts⟩ := id F
  have hn0 : ∀ w ∈ wsX00, w ∈ wsX0_countClashesAt := by decide +kernel
  have hN := hI.hN
  have hN10 := hI.n10
  refine jv_iconst hx hb dX0_countClashesAt_0 ?_
  refine lv_istore_n (lv' := [(3, .int (J 0)), (0, .ref (a 0)), (1, .int (J (p : Int))), (2, .int (J v))]) hx hb dX0_countClashesAt_1 rfl hl (by decide) rfl (fun ls hl => ?_)
  refine jv_iconst hx hb dX0_countClashesAt_2 ?_
  refine lv_istore (lv' := [(4, .int (J 0)), (3, .int (J 0)), (0, .ref (a 0)), (1, .int (J (p : Int))), (2, .int (J v))]) hx hb dX0_countClashesAt_3 hl (by decide) rfl (fun ls hl => ?_)
  suffices hlp : ∀ (n i : Nat), i ≤ (nn σ) → (nn σ) < i + n → ∀ (f : Int), ∀ (H : Heap) (locs : List Loc) (ls : Array Slot), (f = (fb_ct (clp σ p v) i : Int)) → St κ A s.heap H locs (WC κ a σ br) → lv_has ls 5 [(4, .int (J (i : Int))), (3, .int (J f)), (0, .ref (a 0)), (1, .int (J (p : Int))), (2, .int (J v))] → W P l e rm_X0_countClashesAt s m args below meth c H locs 0 0 Q (F0 m 5 ls []) from
    hlp ((nn σ) + 1) 0 (Nat.zero_le _) (by omega) 0 _ _ _ (by simp [fb_ct, fb_sm]) hW hl
  intro n
  induction n with
  | zero => intro i h1 h2; exact absurd h2 (by omega)
  | succ n ih =>
    intro i hi hn f H locs ls q_f hW hl
    refine lv_iload hx hb dX0_countClashesAt_5 (lv_at hl 0 rfl) ?_
    refine lv_aload_n hx hb dX0_countClashesAt_7 rfl (lv_at hl 2 rfl) ?_
    refine jv_get (T := TX0) (N := 10) (v := .int (J (σ 5 3))) hx hb hts hn0 hown hK hW 0 rfl rfl 6 (by decide) (List.mem_of_getElem? (i := 1) rfl) rfl dX0_countClashesAt_8 ?_
    refine jv_icmp_ge hx hb 52 dX0_countClashesAt_11 (by decide) ⟨by omega, by omega⟩ ⟨by omega, by omega⟩ (fun h_1 => ?_) (fun h_1 => ?_)
    · skip
      refine lv_iload_n hx hb dX0_countClashesAt_52 rfl (lv_at hl 1 rfl) ?_
      exact hret () hW dX0_countClashesAt_53 (by first | exact Nat.le_of_ble_eq_true rfl | omega | (dsimp only [rm_X0_countClashesAt]; omega)) (by first | exact Nat.le_of_ble_eq_true rfl | omega | (dsimp only [rm_X0_countClashesAt]; omega)) (by rw [q_f, show i = nn σ by omega]; rfl)
    · skip
      have hbi := hI.at i (by omega)
      refine lv_iload hx hb dX0_countClashesAt_14 (lv_at hl 0 rfl) ?_
      refine lv_iload_n hx hb dX0_countClashesAt_16 rfl (lv_at hl 3 rfl) ?_
      refine jv_icmp_eq hx hb 46 dX0_countClashesAt_17 (by decide) ⟨by omega, by omega⟩ ⟨by omega, by omega⟩ (fun h_2 => ?_) (fun h_2 => ?_)
      · skip
        refine jv_iinc (k := 0) (z := (i : Int)) (lv' := [(4, .int (J ((i : Int) + 1))), (3, .int (J f)), (0, .ref (a 0)), (1, .int (J (p : Int))), (2, .int (J v))]) hx hb dX0_countClashesAt_46 hl rfl (by decide) rfl (fun ls hl => ?_)
        refine lv_goto (tgt := 5) hx hb dX0_countClashesAt_49 (by decide) ?_
        exact ih (i + 1) (by omega) (by omega) f _ _ _ (by simp [fb_ct_succ, q_f, clp, show i = p by omega]) hW hl
      · skip
        refine lv_aload_n hx hb dX0_countClashesAt_20 rfl (lv_at hl 2 rfl) ?_
        refine lv_iload hx hb dX0_countClashesAt_21 (lv_at hl 0 rfl) ?_
        refine fin_i (k := 0) (n := 0) (W2 := (fun _ => (WC κ a σ br))) [0, 1, 2, 3, 4, 5, 6] [] [0, 1, 2, 3, 4, 5, 6] hW hA (va_runV (As := [.int (J (i : Int))]) (rest := []) F ((m_X0_isSounding l κ a σ br i (by omega) hI) _) (cwV 1 hts gX0_countClashesAt_X0_isSounding rfl rfl rfl (by decide +kernel) ⟨(Nat.le_of_ble_eq_true rfl), (Nat.le_of_ble_eq_true rfl)⟩) (pre_V hK hW [0, 1, 2, 3, 4, 5, 6] rfl (by decide) 0 0 rfl rfl) rfl rfl hl.1 rfl (lv_room (Nat.le_of_ble_eq_true rfl)) dX0_countClashesAt_23 ⟨(by first | exact Nat.le_of_ble_eq_true rfl | omega | (dsimp only [rm_X0_countClashesAt, rm_X0_isSounding]; omega)), (by first | exact Nat.le_of_ble_eq_true rfl | omega | (dsimp only [rm_X0_countClashesAt, rm_X0_isSounding]; omega))⟩) rfl rfl rfl (by decide) rfl (fun _ => rfl) (by first | exact Nat.le_of_ble_eq_true rfl | omega | (dsimp only [rm_X0_countClashesAt, rm_X0_isSounding]; omega)) (by first | exact Nat.le_of_ble_eq_true rfl | omega | (dsimp only [rm_X0_countClashesAt, rm_X0_isSounding]; omega)) (fun r_4 u H locs hp_3 hW => ?_)
        subst hp_3
        refine jv_ifb_eq (b := (sn σ i)) hx hb 46 dX0_countClashesAt_26 (by decide) (fun h_5 => ?_) (fun h_5 => ?_)
        · skip
          refine jv_iinc (k := 0) (z := (i : Int)) (lv' := [(4, .int (J ((i : Int) + 1))), (3, .int (J f)), (0, .ref (a 0)), (1, .int (J (p : Int))), (2, .int (J v))]) hx hb dX0_countClashesAt_46 hl rfl (by decide) rfl (fun ls hl => ?_)
          refine lv_goto (tgt := 5) hx hb dX0_countClashesAt_49 (by decide) ?_
          exact ih (i + 1) (by omega) (by omega) f _ _ _ (by simp [fb_ct_succ, q_f, clp, h_5]) hW hl
        · skip
          refine lv_iload_n hx hb dX0_countClashesAt_29 rfl (lv_at hl 4 rfl) ?_
          refine lv_aload_n hx hb dX0_countClashesAt_30 rfl (lv_at hl 2 rfl) ?_
          refine jv_get (T := TX0) (N := 10) (v := .ref (a 2)) hx hb hts hn0 hown hK hW 0 rfl rfl 1 (by decide) (List.mem_of_getElem? (i := 2) rfl) rfl dX0_countClashesAt_31 ?_
          refine lv_iload hx hb dX0_countClashesAt_34 (lv_at hl 0 rfl) ?_
          refine jv_iald (g := (σ 0)) hx hb hK hW 2 rfl i rfl (by omega) (by decide) dX0_countClashesAt_36 ?_
          refine fin_i (k := 0) (n := 0) (W2 := (fun _ => (WC κ a σ br))) [] [0, 1, 2, 3, 4, 5, 6] [0, 1, 2, 3, 4, 5, 6] hW hA (va_runSN (As := [.int (J v), .int (J (σ 0 i))]) (rest := []) F ((m_X1_isAccord l κ v (σ 0 i) (by omega)) _) ⟨va_cnB 2 hts gX0_countClashesAt_X1_isAccord_n73 rfl rfl rfl (hK.2.1) (hts _ (List.mem_of_getElem? (i := 11) rfl)) (by decide +kernel) ⟨(Nat.le_of_ble_eq_true rfl), (Nat.le_of_ble_eq_true rfl)⟩, hts _ (List.mem_of_getElem? (i := 10) rfl), trivial⟩ (pre_S hK hW [] rfl (by decide)) rfl rfl hl.1 rfl (lv_room (Nat.le_of_ble_eq_true rfl)) dX0_countClashesAt_37 ⟨(by first | exact Nat.le_of_ble_eq_true rfl | omega | (dsimp only [rm_X0_countClashesAt, rm_X1_isAccord]; omega)), (by first | exact Nat.le_of_ble_eq_true rfl | omega | (dsimp only [rm_X0_countClashesAt, rm_X1_isAccord]; omega))⟩) rfl rfl rfl (by decide) rfl (fun _ => rfl) (by first | exact Nat.le_of_ble_eq_true rfl | omega | (dsimp only [rm_X0_countClashesAt, rm_X1_isAccord]; omega)) (by first | exact Nat.le_of_ble_eq_true rfl | omega | (dsimp only [rm_X0_countClashesAt, rm_X1_isAccord]; omega)) (fun r_7 u H locs hp_6 hW => ?_)
          subst hp_6
          refine jv_ifb_ne (b := (ac v (σ 0 i))) hx hb 46 dX0_countClashesAt_40 (by decide) (fun h_8 => ?_) (fun h_8 => ?_)
          · skip
            refine jv_iinc (k := 0) (z := (i : Int)) (lv' := [(4, .int (J ((i : Int) + 1))), (3, .int (J f)), (0, .ref (a 0)), (1, .int (J (p : Int))), (2, .int (J v))]) hx hb dX0_countClashesAt_46 hl rfl (by decide) rfl (fun ls hl => ?_)
            refine lv_goto (tgt := 5) hx hb dX0_countClashesAt_49 (by decide) ?_
            exact ih (i + 1) (by omega) (by omega) f _ _ _ (by simp [fb_ct_succ, q_f, clp, show i ≠ p by omega, h_5, h_8]) hW hl
          · skip
            refine jv_iinc (k := 1) (z := f) (lv' := [(3, .int (J (f + 1))), (4, .int (J (i : Int))), (0, .ref (a 0)), (1, .int (J (p : Int))), (2, .int (J v))]) hx hb dX0_countClashesAt_43 hl rfl (by decide) rfl (fun ls hl => ?_)
            refine jv_iinc (k := 1) (z := (i : Int)) (lv' := [(4, .int (J ((i : Int) + 1))), (3, .int (J (f + 1))), (0, .ref (a 0)), (1, .int (J (p : Int))), (2, .int (J v))]) hx hb dX0_countClashesAt_46 hl rfl (by decide) rfl (fun ls hl => ?_)
            refine lv_goto (tgt := 5) hx hb dX0_countClashesAt_49 (by decide) ?_
            exact ih (i + 1) (by omega) (by omega) (f + 1) _ _ _ (by simp [fb_ct_succ, q_f, clp, show i ≠ p by omega, h_5, h_8]) hW hl

abbrev rm_X0_countClashes : Room := { frames := 3, cells := 0, slots := 0, locals := 66 }
set_option maxHeartbeats 4000000 in
set_option maxRecDepth 100000 in
/-- countClashes -/
theorem m_X0_countClashes (l : Launch) (κ : Kp) (a : Nat → Nat) (σ : Sg) (br : Nat → Int) (hI : Inv σ) : CGi l yX0_countClashes wsX0_countClashes rm_X0_countClashes κ [.ref (a 0)] (WC κ a σ br) (fun r _ => r = J (ccl σ)) (fun (_ : Unit) => (WC κ a σ br)) := by
  refine entry_i (by decide) rfl (Nat.le_of_ble_eq_true rfl) ?_
  intro P e s m args below meth c ls A Q F hname hK hA hret hW hl
  obtain ⟨hx, hb, hml, hown, hts⟩ := id F
  have hn0 : ∀ w ∈ wsX00, w ∈ wsX0_countClashes := by decide +kernel
  have hN := hI.hN
  have hN10 := hI.n10
  refine jv_iconst hx hb dX0_countClashes_0 ?_
  refine lv_istore_n (lv' := [(1, .int (J 0)), (0, .ref (a 0))]) hx hb dX0_countClashes_1 rfl hl (by decide) rfl (fun ls hl => ?_)
  refine jv_iconst hx hb dX0_countClashes_2 ?_
  refine lv_istore_n (lv' := [(2, .int (J 0)), (1, .int (J 0)), (0, .ref (a 0))]) hx hb dX0_countClashes_3 rfl hl (by decide) rfl (fun ls hl => ?_)
  suffices hlp : ∀ (n i : Nat), i ≤ (nn σ) → (nn σ) < i + n → ∀ (f : Int), ∀ (H : Heap) (locs : List Loc) (ls : Array Slot), (f = (fb_sm (cs σ) i : Int)) → St κ A s.heap H locs (WC κ a σ br) → lv_has ls 3 [(2, .int (J (i : Int))), (1, .int (J f)), (0, .ref (a 0))] → W P l e rm_X0_countClashes s m args below meth c H locs 0 0 Q (F0 m 4 ls []) from
    hlp ((nn σ) + 1) 0 (Nat.zero_le _) (by omega) 0 _ _ _ (by simp [fb_ct, fb_sm]) hW hl
  intro n
  induction n with
  | zero => intro i h1 h2; exact absurd h2 (by omega)
  | succ n ih =>
    intro i hi hn f H locs ls q_f hW hl
    refine lv_iload_n hx hb dX0_countClashes_4 rfl (lv_at hl 0 rfl) ?_
    refine lv_aload_n hx hb dX0_countClashes_5 rfl (lv_at hl 2 rfl) ?_
    refine jv_get (T := TX0) (N := 10) (v := .int (J (σ 5 3))) hx hb hts hn0 hown hK hW 0 rfl rfl 6 (by decide) (List.mem_of_getElem? (i := 1) rfl) rfl dX0_countClashes_6 ?_
    refine jv_icmp_ge hx hb 40 dX0_countClashes_9 (by decide) ⟨by omega, by omega⟩ ⟨by omega, by omega⟩ (fun h_1 => ?_) (fun h_1 => ?_)
    · skip
      have hcc := cc2_le hN10
      have q2 : f = (cc2 σ : Int) := by rw [q_f, show i = nn σ by omega]; rfl
      refine lv_iload_n hx hb dX0_countClashes_40 rfl (lv_at hl 1 rfl) ?_
      refine jv_iconst hx hb dX0_countClashes_41 ?_
      refine jv_idiv hx hb dX0_countClashes_42 (by omega) ?_
      exact hret () hW dX0_countClashes_43 (by first | exact Nat.le_of_ble_eq_true rfl | omega | (dsimp only [rm_X0_countClashes]; omega)) (by first | exact Nat.le_of_ble_eq_true rfl | omega | (dsimp only [rm_X0_countClashes]; omega)) (by rw [q2]; rfl)
    · skip
      refine lv_aload_n hx hb dX0_countClashes_12 rfl (lv_at hl 2 rfl) ?_
      refine lv_iload_n hx hb dX0_countClashes_13 rfl (lv_at hl 0 rfl) ?_
      refine fin_i (k := 0) (n := 0) (W2 := (fun _ => (WC κ a σ br))) [0, 1, 2, 3, 4, 5, 6] [] [0, 1, 2, 3, 4, 5, 6] hW hA (va_runV (As := [.int (J (i : Int))]) (rest := []) F ((m_X0_isSounding l κ a σ br i (by omega) hI) _) (cwV 1 hts gX0_countClashes_X0_isSounding rfl rfl rfl (by decide +kernel) ⟨(Nat.le_of_ble_eq_true rfl), (Nat.le_of_ble_eq_true rfl)⟩) (pre_V hK hW [0, 1, 2, 3, 4, 5, 6] rfl (by decide) 0 0 rfl rfl) rfl rfl hl.1 rfl (lv_room (Nat.le_of_ble_eq_true rfl)) dX0_countClashes_14 ⟨(by first | exact Nat.le_of_ble_eq_true rfl | omega | (dsimp only [rm_X0_countClashes, rm_X0_isSounding]; omega)), (by first | exact Nat.le_of_ble_eq_true rfl | omega | (dsimp only [rm_X0_countClashes, rm_X0_isSounding]; omega))⟩) rfl rfl rfl (by decide) rfl (fun _ => rfl) (by first | exact Nat.le_of_ble_eq_true rfl | omega | (dsimp only [rm_X0_countClashes, rm_X0_isSounding]; omega)) (by first | exact Nat.le_of_ble_eq_true rfl | omega | (dsimp only [rm_X0_countClashes, rm_X0_isSounding]; omega)) (fun r_3 u H locs hp_2 hW => ?_)
      subst hp_2
      refine jv_ifb_eq (b := (sn σ i)) hx hb 34 dX0_countClashes_17 (by decide) (fun h_4 => ?_) (fun h_4 => ?_)
      · skip
        refine jv_iinc (k := 0) (z := (i : Int)) (lv' := [(2, .int (J ((i : Int) + 1))), (1, .int (J f)), (0, .ref (a 0))]) hx hb dX0_countClashes_34 hl rfl (by decide) rfl (fun ls hl => ?_)
        refine lv_goto (tgt := 4) hx hb dX0_countClashes_37 (by decide) ?_
        exact ih (i + 1) (by omega) (by omega) f _ _ _ (by simp [fb_sm_succ, q_f, cs, h_4]) hW hl
      · skip
        have hbi := hI.at i (by omega)
        refine lv_iload_n hx hb dX0_countClashes_20 rfl (lv_at hl 1 rfl) ?_
        refine lv_aload_n hx hb dX0_countClashes_21 rfl (lv_at hl 2 rfl) ?_
        refine lv_iload_n hx hb dX0_countClashes_22 rfl (lv_at hl 0 rfl) ?_
        refine lv_aload_n hx hb dX0_countClashes_23 rfl (lv_at hl 2 rfl) ?_
        refine jv_get (T := TX0) (N := 10) (v := .ref (a 2)) hx hb hts hn0 hown hK hW 0 rfl rfl 1 (by decide) (List.mem_of_getElem? (i := 2) rfl) rfl dX0_countClashes_24 ?_
        refine lv_iload_n hx hb dX0_countClashes_27 rfl (lv_at hl 0 rfl) ?_
        refine jv_iald (g := (σ 0)) hx hb hK hW 2 rfl i rfl (by omega) (by decide) dX0_countClashes_28 ?_
        refine fin_i (k := 0) (n := 0) (W2 := (fun _ => (WC κ a σ br))) [0, 1, 2, 3, 4, 5, 6] [] [0, 1, 2, 3, 4, 5, 6] hW hA (va_runV (As := [.int (J (i : Int)), .int (J (σ 0 i))]) (rest := [.int (J f)]) F ((m_X0_countClashesAt l κ a σ br i (σ 0 i) (by omega) (by omega) hI) _) (cwV 2 hts gX0_countClashes_X0_countClashesAt rfl rfl rfl (by decide +kernel) ⟨(Nat.le_of_ble_eq_true rfl), (Nat.le_of_ble_eq_true rfl)⟩) (pre_V hK hW [0, 1, 2, 3, 4, 5, 6] rfl (by decide) 0 0 rfl rfl) rfl rfl hl.1 rfl (lv_room (Nat.le_of_ble_eq_true rfl)) dX0_countClashes_29 ⟨(by first | exact Nat.le_of_ble_eq_true rfl | omega | (dsimp only [rm_X0_countClashes, rm_X0_countClashesAt]; omega)), (by first | exact Nat.le_of_ble_eq_true rfl | omega | (dsimp only [rm_X0_countClashes, rm_X0_countClashesAt]; omega))⟩) rfl rfl rfl (by decide) rfl (fun _ => rfl) (by first | exact Nat.le_of_ble_eq_true rfl | omega | (dsimp only [rm_X0_countClashes, rm_X0_countClashesAt]; omega)) (by first | exact Nat.le_of_ble_eq_true rfl | omega | (dsimp only [rm_X0_countClashes, rm_X0_countClashesAt]; omega)) (fun r_6 u H locs hp_5 hW => ?_)
        subst hp_5
        refine jv_iadd hx hb dX0_countClashes_32 ?_
        refine lv_istore_n (lv' := [(1, .int (J (f + (ca σ i (σ 0 i) : Int)))), (2, .int (J (i : Int))), (0, .ref (a 0))]) hx hb dX0_countClashes_33 rfl hl (by decide) rfl (fun ls hl => ?_)
        refine jv_iinc (k := 1) (z := (i : Int)) (lv' := [(2, .int (J ((i : Int) + 1))), (1, .int (J (f + (ca σ i (σ 0 i) : Int)))), (0, .ref (a 0))]) hx hb dX0_countClashes_34 hl rfl (by decide) rfl (fun ls hl => ?_)
        refine lv_goto (tgt := 4) hx hb dX0_countClashes_37 (by decide) ?_
        exact ih (i + 1) (by omega) (by omega) (f + (ca σ i (σ 0 i) : Int)) _ _ _ (by simp [fb_sm_succ, q_f, cs, h_4]) hW hl

abbrev rm_X0_harmonyNow : Room := { frames := 4, cells := 0, slots := 0, locals := 88 }
set_option maxHeartbeats 4000000 in
set_option maxRecDepth 100000 in
/-- harmonyNow -/
theorem m_X0_harmonyNow (l : Launch) (κ : Kp) (a : Nat → Nat) (σ : Sg) (br : Nat → Int) (hI : Inv σ) : CGi l yX0_harmonyNow wsX0_harmonyNow rm_X0_harmonyNow κ [.ref (a 0)] (WC κ a σ br) (fun r _ => r = J (hm σ)) (fun (_ : Unit) => (WC κ a σ br)) := by
  refine entry_i (by decide) rfl (Nat.le_of_ble_eq_true rfl) ?_
  intro P e s m args below meth c ls A Q F hname hK hA hret hW hl
  obtain ⟨hx, hb, hml, hown, hts⟩ := id F
  have hN := hI.hN
  have hN10 := hI.n10
  have htri := tri_b (Nat.le_trans (ns_le σ) hN10)
  refine lv_aload_n hx hb dX0_harmonyNow_0 rfl (lv_at hl 0 rfl) ?_
  refine fin_i (k := 0) (n := 0) (W2 := (fun _ => (WC κ a σ br))) [0, 1, 2, 3, 4, 5, 6] [] [0, 1, 2, 3, 4, 5, 6] hW hA (va_runV (As := []) (rest := []) F ((m_X0_countSounding l κ a σ br  hI) _) (cwV 0 hts gX0_harmonyNow_X0_countSounding rfl rfl rfl (by decide +kernel) ⟨(Nat.le_of_ble_eq_true rfl), (Nat.le_of_ble_eq_true rfl)⟩) (pre_V hK hW [0, 1, 2, 3, 4, 5, 6] rfl (by decide) 0 0 rfl rfl) rfl rfl hl.1 rfl (lv_room (Nat.le_of_ble_eq_true rfl)) dX0_harmonyNow_1 ⟨(by first | exact Nat.le_of_ble_eq_true rfl | omega | (dsimp only [rm_X0_harmonyNow, rm_X0_countSounding]; omega)), (by first | exact Nat.le_of_ble_eq_true rfl | omega | (dsimp only [rm_X0_harmonyNow, rm_X0_countSounding]; omega))⟩) rfl rfl rfl (by decide) rfl (fun _ => rfl) (by first | exact Nat.le_of_ble_eq_true rfl | omega | (dsimp only [rm_X0_harmonyNow, rm_X0_countSounding]; omega)) (by first | exact Nat.le_of_ble_eq_true rfl | omega | (dsimp only [rm_X0_harmonyNow, rm_X0_countSounding]; omega)) (fun r_2 u H locs hp_1 hW => ?_)
  subst hp_1
  refine lv_istore_n (lv' := [(1, .int (J (ns σ : Int))), (0, .ref (a 0))]) hx hb dX0_harmonyNow_4 rfl hl (by decide) rfl (fun ls hl => ?_)
  refine lv_iload_n hx hb dX0_harmonyNow_5 rfl (lv_at hl 0 rfl) ?_
  refine lv_iload_n hx hb dX0_harmonyNow_6 rfl (lv_at hl 0 rfl) ?_
  refine jv_iconst hx hb dX0_harmonyNow_7 ?_
  refine jv_isub hx hb dX0_harmonyNow_8 ?_
  refine jv_imul hx hb dX0_harmonyNow_9 ?_
  refine jv_iconst hx hb dX0_harmonyNow_10 ?_
  refine jv_idiv hx hb dX0_harmonyNow_11 (by omega) ?_
  refine lv_istore_n (lv' := [(2, .int (J (((ns σ : Int) * ((ns σ : Int) - 1)) / 2))), (1, .int (J (ns σ : Int))), (0, .ref (a 0))]) hx hb dX0_harmonyNow_12 rfl hl (by decide) rfl (fun ls hl => ?_)
  refine lv_iload_n hx hb dX0_harmonyNow_13 rfl (lv_at hl 0 rfl) ?_
  refine jv_iconst hx hb dX0_harmonyNow_14 ?_
  refine lv_aload_n hx hb dX0_harmonyNow_15 rfl (lv_at hl 2 rfl) ?_
  refine fin_i (k := 0) (n := 0) (W2 := (fun _ => (WC κ a σ br))) [0, 1, 2, 3, 4, 5, 6] [] [0, 1, 2, 3, 4, 5, 6] hW hA (va_runV (As := []) (rest := [.int (J 2), .int (J (((ns σ : Int) * ((ns σ : Int) - 1)) / 2))]) F ((m_X0_countClashes l κ a σ br  hI) _) (cwV 0 hts gX0_harmonyNow_X0_countClashes rfl rfl rfl (by decide +kernel) ⟨(Nat.le_of_ble_eq_true rfl), (Nat.le_of_ble_eq_true rfl)⟩) (pre_V hK hW [0, 1, 2, 3, 4, 5, 6] rfl (by decide) 0 0 rfl rfl) rfl rfl hl.1 rfl (lv_room (Nat.le_of_ble_eq_true rfl)) dX0_harmonyNow_16 ⟨(by first | exact Nat.le_of_ble_eq_true rfl | omega | (dsimp only [rm_X0_harmonyNow, rm_X0_countClashes]; omega)), (by first | exact Nat.le_of_ble_eq_true rfl | omega | (dsimp only [rm_X0_harmonyNow, rm_X0_countClashes]; omega))⟩) rfl rfl rfl (by decide) rfl (fun _ => rfl) (by first | exact Nat.le_of_ble_eq_true rfl | omega | (dsimp only [rm_X0_harmonyNow, rm_X0_countClashes]; omega)) (by first | exact Nat.le_of_ble_eq_true rfl | omega | (dsimp only [rm_X0_harmonyNow, rm_X0_countClashes]; omega)) (fun r_4 u H locs hp_3 hW => ?_)
  subst hp_3
  refine jv_imul hx hb dX0_harmonyNow_19 ?_
  refine jv_isub hx hb dX0_harmonyNow_20 ?_
  exact hret () hW dX0_harmonyNow_21 (by first | exact Nat.le_of_ble_eq_true rfl | omega | (dsimp only [rm_X0_harmonyNow]; omega)) (by first | exact Nat.le_of_ble_eq_true rfl | omega | (dsimp only [rm_X0_harmonyNow]; omega)) rfl

abbrev rm_X0_isChordClear : Room := { frames := 4, cells := 0, slots := 0, locals := 88 }
set_option maxHeartbeats 4000000 in
set_option maxRecDepth 100000 in
/-- isChordClear -/
theorem m_X0_isChordClear (l : Launch) (κ : Kp) (a : Nat → Nat) (σ : Sg) (br : Nat → Int) (hI : Inv σ) : CGi l yX0_isChordClear wsX0_isChordClear rm_X0_isChordClear κ [.ref (a 0)] (WC κ a σ br) (fun r _ => r = J (bi (ic σ))) (fun (_ : Unit) => (WC κ a σ br)) := by
  refine entry_z (by decide) rfl (Nat.le_of_ble_eq_true rfl) ?_
  intro P e s m args below meth c ls A Q F hname hK hA hret hW hl
  obtain ⟨hx, hb, hml, hown, hts⟩ := id F
  have hN := hI.hN
  have hN10 := hI.n10
  have hns := ns_le σ
  have hcr := ccl_rng hN10
  refine lv_aload_n hx hb dX0_isChordClear_0 rfl (lv_at hl 0 rfl) ?_
  refine fin_i (k := 0) (n := 0) (W2 := (fun _ => (WC κ a σ br))) [0, 1, 2, 3, 4, 5, 6] [] [0, 1, 2, 3, 4, 5, 6] hW hA (va_runV (As := []) (rest := []) F ((m_X0_countSounding l κ a σ br  hI) _) (cwV 0 hts gX0_isChordClear_X0_countSounding rfl rfl rfl (by decide +kernel) ⟨(Nat.le_of_ble_eq_true rfl), (Nat.le_of_ble_eq_true rfl)⟩) (pre_V hK hW [0, 1, 2, 3, 4, 5, 6] rfl (by decide) 0 0 rfl rfl) rfl rfl hl.1 rfl (lv_room (Nat.le_of_ble_eq_true rfl)) dX0_isChordClear_1 ⟨(by first | exact Nat.le_of_ble_eq_true rfl | omega | (dsimp only [rm_X0_isChordClear, rm_X0_countSounding]; omega)), (by first | exact Nat.le_of_ble_eq_true rfl | omega | (dsimp only [rm_X0_isChordClear, rm_X0_countSounding]; omega))⟩) rfl rfl rfl (by decide) rfl (fun _ => rfl) (by first | exact Nat.le_of_ble_eq_true rfl | omega | (dsimp only [rm_X0_isChordClear, rm_X0_countSounding]; omega)) (by first | exact Nat.le_of_ble_eq_true rfl | omega | (dsimp only [rm_X0_isChordClear, rm_X0_countSounding]; omega)) (fun r_2 u H locs hp_1 hW => ?_)
  subst hp_1
  refine jv_iconst hx hb dX0_isChordClear_4 ?_
  refine jv_icmp_lt hx hb 19 dX0_isChordClear_5 (by decide) ⟨by omega, by omega⟩ ⟨by omega, by omega⟩ (fun h_3 => ?_) (fun h_3 => ?_)
  · skip
    refine jv_iconst hx hb dX0_isChordClear_19 ?_
    exact hret () hW dX0_isChordClear_20 (by first | exact Nat.le_of_ble_eq_true rfl | omega | (dsimp only [rm_X0_isChordClear]; omega)) (by first | exact Nat.le_of_ble_eq_true rfl | omega | (dsimp only [rm_X0_isChordClear]; omega)) (by first | exact zr_01 (Or.inl rfl) | exact zr_01 (Or.inr rfl) | exact zr_b _ | exact zr_01 (by omega)) (J_f (decide_eq_false (by omega)))
  · skip
    refine lv_aload_n hx hb dX0_isChordClear_8 rfl (lv_at hl 0 rfl) ?_
    refine fin_i (k := 0) (n := 0) (W2 := (fun _ => (WC κ a σ br))) [0, 1, 2, 3, 4, 5, 6] [] [0, 1, 2, 3, 4, 5, 6] hW hA (va_runV (As := []) (rest := []) F ((m_X0_countClashes l κ a σ br  hI) _) (cwV 0 hts gX0_isChordClear_X0_countClashes rfl rfl rfl (by decide +kernel) ⟨(Nat.le_of_ble_eq_true rfl), (Nat.le_of_ble_eq_true rfl)⟩) (pre_V hK hW [0, 1, 2, 3, 4, 5, 6] rfl (by decide) 0 0 rfl rfl) rfl rfl hl.1 rfl (lv_room (Nat.le_of_ble_eq_true rfl)) dX0_isChordClear_9 ⟨(by first | exact Nat.le_of_ble_eq_true rfl | omega | (dsimp only [rm_X0_isChordClear, rm_X0_countClashes]; omega)), (by first | exact Nat.le_of_ble_eq_true rfl | omega | (dsimp only [rm_X0_isChordClear, rm_X0_countClashes]; omega))⟩) rfl rfl rfl (by decide) rfl (fun _ => rfl) (by first | exact Nat.le_of_ble_eq_true rfl | omega | (dsimp only [rm_X0_isChordClear, rm_X0_countClashes]; omega)) (by first | exact Nat.le_of_ble_eq_true rfl | omega | (dsimp only [rm_X0_isChordClear, rm_X0_countClashes]; omega)) (fun r_5 u H locs hp_4 hW => ?_)
    subst hp_4
    refine jv_if_ne hx hb 19 dX0_isChordClear_12 (by decide) ⟨by omega, by omega⟩ (fun h_6 => ?_) (fun h_6 => ?_)
    · skip
      refine jv_iconst hx hb dX0_isChordClear_19 ?_
      exact hret () hW dX0_isChordClear_20 (by first | exact Nat.le_of_ble_eq_true rfl | omega | (dsimp only [rm_X0_isChordClear]; omega)) (by first | exact Nat.le_of_ble_eq_true rfl | omega | (dsimp only [rm_X0_isChordClear]; omega)) (by first | exact zr_01 (Or.inl rfl) | exact zr_01 (Or.inr rfl) | exact zr_b _ | exact zr_01 (by omega)) (J_f (decide_eq_false (by omega)))
    · skip
      refine jv_iconst hx hb dX0_isChordClear_15 ?_
      refine lv_goto (tgt := 20) hx hb dX0_isChordClear_16 (by decide) ?_
      exact hret () hW dX0_isChordClear_20 (by first | exact Nat.le_of_ble_eq_true rfl | omega | (dsimp only [rm_X0_isChordClear]; omega)) (by first | exact Nat.le_of_ble_eq_true rfl | omega | (dsimp only [rm_X0_isChordClear]; omega)) (by first | exact zr_01 (Or.inl rfl) | exact zr_01 (Or.inr rfl) | exact zr_b _ | exact zr_01 (by omega)) (J_t (decide_eq_true (by omega)))

abbrev rm_X0_findMostClashing : Room := { frames := 3, cells := 0, slots := 0, locals := 66 }
set_option maxHeartbeats 4000000 in
set_option maxRecDepth 100000 in
/-- findMostClashing -/
theorem m_X0_findMostClashing (l : Launch) (κ : Kp) (a : Nat → Nat) (σ : Sg) (br : Nat → Int) (hI : Inv σ) : CGi l yX0_findMostClashing wsX0_findMostClashing rm_X0_findMostClashing κ [.ref (a 0)] (WC κ a σ br) (fun r _ => r = J (fm σ)) (fun (_ : Unit) => (WC κ a σ br)) := by
  refine entry_i (by decide) rfl (Nat.le_of_ble_eq_true rfl) ?_
  intro P e s m args below meth c ls A Q F hname hK hA hret hW hl
  obtain ⟨hx, hb, hml, hown, hts⟩ := id F
  have hn0 : ∀ w ∈ wsX00, w ∈ wsX0_findMostClashing := by decide +kernel
  have hN := hI.hN
  have hN10 := hI.n10
  refine jv_iconst hx hb dX0_findMostClashing_0 ?_
  refine lv_istore_n (lv' := [(1, .int (J (-1))), (0, .ref (a 0))]) hx hb dX0_findMostClashing_1 rfl hl (by decide) rfl (fun ls hl => ?_)
  refine jv_iconst hx hb dX0_findMostClashing_2 ?_
  refine lv_istore_n (lv' := [(2, .int (J (-1))), (1, .int (J (-1))), (0, .ref (a 0))]) hx hb dX0_findMostClashing_3 rfl hl (by decide) rfl (fun ls hl => ?_)
  refine jv_iconst hx hb dX0_findMostClashing_4 ?_
  refine lv_istore_n (lv' := [(3, .int (J 0)), (2, .int (J (-1))), (1, .int (J (-1))), (0, .ref (a 0))]) hx hb dX0_findMostClashing_5 rfl hl (by decide) rfl (fun ls hl => ?_)
  suffices hlp : ∀ (n i : Nat), i ≤ (nn σ) → (nn σ) < i + n → ∀ (x y : Int), ∀ (H : Heap) (locs : List Loc) (ls : Array Slot), (True) → (-1 ≤ y ∧ y ≤ 10) → (fmr σ i = (x, y)) → St κ A s.heap H locs (WC κ a σ br) → lv_has ls 5 [(3, .int (J (i : Int))), (2, .int (J y)), (1, .int (J x)), (0, .ref (a 0))] → W P l e rm_X0_findMostClashing s m args below meth c H locs 0 0 Q (F0 m 6 ls []) from
    hlp ((nn σ) + 1) 0 (Nat.zero_le _) (by omega) (-1) (-1) _ _ _ trivial (by omega) (by rfl) hW hl
  intro n
  induction n with
  | zero => intro i h1 h2; exact absurd h2 (by omega)
  | succ n ih =>
    intro i hi hn x y H locs ls q_x q_y q hW hl
    refine lv_iload_n hx hb dX0_findMostClashing_6 rfl (lv_at hl 0 rfl) ?_
    refine lv_aload_n hx hb dX0_findMostClashing_7 rfl (lv_at hl 3 rfl) ?_
    refine jv_get (T := TX0) (N := 10) (v := .int (J (σ 5 3))) hx hb hts hn0 hown hK hW 0 rfl rfl 6 (by decide) (List.mem_of_getElem? (i := 1) rfl) rfl dX0_findMostClashing_8 ?_
    refine jv_icmp_ge hx hb 56 dX0_findMostClashing_11 (by decide) ⟨by omega, by omega⟩ ⟨by omega, by omega⟩ (fun h_1 => ?_) (fun h_1 => ?_)
    · skip
      refine lv_iload_n hx hb dX0_findMostClashing_56 rfl (lv_at hl 2 rfl) ?_
      exact hret () hW dX0_findMostClashing_57 (by first | exact Nat.le_of_ble_eq_true rfl | omega | (dsimp only [rm_X0_findMostClashing]; omega)) (by first | exact Nat.le_of_ble_eq_true rfl | omega | (dsimp only [rm_X0_findMostClashing]; omega)) (by rw [show x = fm σ by unfold fm; rw [← show i = nn σ by omega, q]])
    · skip
      have hbi := hI.at i (by omega)
      refine lv_aload_n hx hb dX0_findMostClashing_14 rfl (lv_at hl 3 rfl) ?_
      refine lv_iload_n hx hb dX0_findMostClashing_15 rfl (lv_at hl 0 rfl) ?_
      refine fin_i (k := 0) (n := 0) (W2 := (fun _ => (WC κ a σ br))) [0, 1, 2, 3, 4, 5, 6] [] [0, 1, 2, 3, 4, 5, 6] hW hA (va_runV (As := [.int (J (i : Int))]) (rest := []) F ((m_X0_isSounding l κ a σ br i (by omega) hI) _) (cwV 1 hts gX0_findMostClashing_X0_isSounding rfl rfl rfl (by decide +kernel) ⟨(Nat.le_of_ble_eq_true rfl), (Nat.le_of_ble_eq_true rfl)⟩) (pre_V hK hW [0, 1, 2, 3, 4, 5, 6] rfl (by decide) 0 0 rfl rfl) rfl rfl hl.1 rfl (lv_room (Nat.le_of_ble_eq_true rfl)) dX0_findMostClashing_16 ⟨(by first | exact Nat.le_of_ble_eq_true rfl | omega | (dsimp only [rm_X0_findMostClashing, rm_X0_isSounding]; omega)), (by first | exact Nat.le_of_ble_eq_true rfl | omega | (dsimp only [rm_X0_findMostClashing, rm_X0_isSounding]; omega))⟩) rfl rfl rfl (by decide) rfl (fun _ => rfl) (by first | exact Nat.le_of_ble_eq_true rfl | omega | (dsimp only [rm_X0_findMostClashing, rm_X0_isSounding]; omega)) (by first | exact Nat.le_of_ble_eq_true rfl | omega | (dsimp only [rm_X0_findMostClashing, rm_X0_isSounding]; omega)) (fun r_3 u H locs hp_2 hW => ?_)
      subst hp_2
      refine jv_ifb_eq (b := (sn σ i)) hx hb 36 dX0_findMostClashing_19 (by decide) (fun h_4 => ?_) (fun h_4 => ?_)
      · skip
        refine jv_iconst hx hb dX0_findMostClashing_36 ?_
        refine lv_istore (lv' := [(4, .int (J (-1))), (3, .int (J (i : Int))), (2, .int (J y)), (1, .int (J x)), (0, .ref (a 0))]) hx hb dX0_findMostClashing_37 hl (by decide) rfl (fun ls hl => ?_)
        have hv : fv σ i = (-1) := by simp [fv, h_4]
        have hcal := ca_le σ i (σ 0 i)
        refine lv_iload hx hb dX0_findMostClashing_39 (lv_at hl 0 rfl) ?_
        refine lv_iload_n hx hb dX0_findMostClashing_41 rfl (lv_at hl 2 rfl) ?_
        refine jv_icmp_le hx hb 50 dX0_findMostClashing_42 (by decide) ⟨by omega, by omega⟩ ⟨by omega, by omega⟩ (fun h_5 => ?_) (fun h_5 => ?_)
        · skip
          refine jv_iinc (k := 1) (z := (i : Int)) (lv' := [(3, .int (J ((i : Int) + 1))), (4, .int (J (-1))), (2, .int (J y)), (1, .int (J x)), (0, .ref (a 0))]) hx hb dX0_findMostClashing_50 hl rfl (by decide) rfl (fun ls hl => ?_)
          refine lv_goto (tgt := 6) hx hb dX0_findMostClashing_53 (by decide) ?_
          exact ih (i + 1) (by omega) (by omega) x y _ _ _ trivial (by omega) (by exact fmr_n q hv (by omega)) hW (lv_sub hl [0, 2, 3, 4] rfl)
        · skip
          refine lv_iload hx hb dX0_findMostClashing_45 (lv_at hl 0 rfl) ?_
          refine lv_istore_n (lv' := [(2, .int (J (-1))), (4, .int (J (-1))), (3, .int (J (i : Int))), (1, .int (J x)), (0, .ref (a 0))]) hx hb dX0_findMostClashing_47 rfl hl (by decide) rfl (fun ls hl => ?_)
          refine lv_iload_n hx hb dX0_findMostClashing_48 rfl (lv_at hl 2 rfl) ?_
          refine lv_istore_n (lv' := [(1, .int (J (i : Int))), (2, .int (J (-1))), (4, .int (J (-1))), (3, .int (J (i : Int))), (0, .ref (a 0))]) hx hb dX0_findMostClashing_49 rfl hl (by decide) rfl (fun ls hl => ?_)
          refine jv_iinc (k := 3) (z := (i : Int)) (lv' := [(3, .int (J ((i : Int) + 1))), (1, .int (J (i : Int))), (2, .int (J (-1))), (4, .int (J (-1))), (0, .ref (a 0))]) hx hb dX0_findMostClashing_50 hl rfl (by decide) rfl (fun ls hl => ?_)
          refine lv_goto (tgt := 6) hx hb dX0_findMostClashing_53 (by decide) ?_
          exact ih (i + 1) (by omega) (by omega) (i : Int) (-1) _ _ _ trivial (by omega) (by exact fmr_y q hv (by omega)) hW (lv_sub hl [0, 2, 1, 4] rfl)
      · skip
        refine lv_aload_n hx hb dX0_findMostClashing_22 rfl (lv_at hl 3 rfl) ?_
        refine lv_iload_n hx hb dX0_findMostClashing_23 rfl (lv_at hl 0 rfl) ?_
        refine lv_aload_n hx hb dX0_findMostClashing_24 rfl (lv_at hl 3 rfl) ?_
        refine jv_get (T := TX0) (N := 10) (v := .ref (a 2)) hx hb hts hn0 hown hK hW 0 rfl rfl 1 (by decide) (List.mem_of_getElem? (i := 2) rfl) rfl dX0_findMostClashing_25 ?_
        refine lv_iload_n hx hb dX0_findMostClashing_28 rfl (lv_at hl 0 rfl) ?_
        refine jv_iald (g := (σ 0)) hx hb hK hW 2 rfl i rfl (by omega) (by decide) dX0_findMostClashing_29 ?_
        refine fin_i (k := 0) (n := 0) (W2 := (fun _ => (WC κ a σ br))) [0, 1, 2, 3, 4, 5, 6] [] [0, 1, 2, 3, 4, 5, 6] hW hA (va_runV (As := [.int (J (i : Int)), .int (J (σ 0 i))]) (rest := []) F ((m_X0_countClashesAt l κ a σ br i (σ 0 i) (by omega) (by omega) hI) _) (cwV 2 hts gX0_findMostClashing_X0_countClashesAt rfl rfl rfl (by decide +kernel) ⟨(Nat.le_of_ble_eq_true rfl), (Nat.le_of_ble_eq_true rfl)⟩) (pre_V hK hW [0, 1, 2, 3, 4, 5, 6] rfl (by decide) 0 0 rfl rfl) rfl rfl hl.1 rfl (lv_room (Nat.le_of_ble_eq_true rfl)) dX0_findMostClashing_30 ⟨(by first | exact Nat.le_of_ble_eq_true rfl | omega | (dsimp only [rm_X0_findMostClashing, rm_X0_countClashesAt]; omega)), (by first | exact Nat.le_of_ble_eq_true rfl | omega | (dsimp only [rm_X0_findMostClashing, rm_X0_countClashesAt]; omega))⟩) rfl rfl rfl (by decide) rfl (fun _ => rfl) (by first | exact Nat.le_of_ble_eq_true rfl | omega | (dsimp only [rm_X0_findMostClashing, rm_X0_countClashesAt]; omega)) (by first | exact Nat.le_of_ble_eq_true rfl | omega | (dsimp only [rm_X0_findMostClashing, rm_X0_countClashesAt]; omega)) (fun r_7 u H locs hp_6 hW => ?_)
        subst hp_6
        refine lv_goto (tgt := 37) hx hb dX0_findMostClashing_33 (by decide) ?_
        refine lv_istore (lv' := [(4, .int (J (ca σ i (σ 0 i) : Int))), (3, .int (J (i : Int))), (2, .int (J y)), (1, .int (J x)), (0, .ref (a 0))]) hx hb dX0_findMostClashing_37 hl (by decide) rfl (fun ls hl => ?_)
        have hv : fv σ i = (ca σ i (σ 0 i) : Int) := by simp [fv, h_4]
        have hcal := ca_le σ i (σ 0 i)
        refine lv_iload hx hb dX0_findMostClashing_39 (lv_at hl 0 rfl) ?_
        refine lv_iload_n hx hb dX0_findMostClashing_41 rfl (lv_at hl 2 rfl) ?_
        refine jv_icmp_le hx hb 50 dX0_findMostClashing_42 (by decide) ⟨by omega, by omega⟩ ⟨by omega, by omega⟩ (fun h_8 => ?_) (fun h_8 => ?_)
        · skip
          refine jv_iinc (k := 1) (z := (i : Int)) (lv' := [(3, .int (J ((i : Int) + 1))), (4, .int (J (ca σ i (σ 0 i) : Int))), (2, .int (J y)), (1, .int (J x)), (0, .ref (a 0))]) hx hb dX0_findMostClashing_50 hl rfl (by decide) rfl (fun ls hl => ?_)
          refine lv_goto (tgt := 6) hx hb dX0_findMostClashing_53 (by decide) ?_
          exact ih (i + 1) (by omega) (by omega) x y _ _ _ trivial (by omega) (by exact fmr_n q hv (by omega)) hW (lv_sub hl [0, 2, 3, 4] rfl)
        · skip
          refine lv_iload hx hb dX0_findMostClashing_45 (lv_at hl 0 rfl) ?_
          refine lv_istore_n (lv' := [(2, .int (J (ca σ i (σ 0 i) : Int))), (4, .int (J (ca σ i (σ 0 i) : Int))), (3, .int (J (i : Int))), (1, .int (J x)), (0, .ref (a 0))]) hx hb dX0_findMostClashing_47 rfl hl (by decide) rfl (fun ls hl => ?_)
          refine lv_iload_n hx hb dX0_findMostClashing_48 rfl (lv_at hl 2 rfl) ?_
          refine lv_istore_n (lv' := [(1, .int (J (i : Int))), (2, .int (J (ca σ i (σ 0 i) : Int))), (4, .int (J (ca σ i (σ 0 i) : Int))), (3, .int (J (i : Int))), (0, .ref (a 0))]) hx hb dX0_findMostClashing_49 rfl hl (by decide) rfl (fun ls hl => ?_)
          refine jv_iinc (k := 3) (z := (i : Int)) (lv' := [(3, .int (J ((i : Int) + 1))), (1, .int (J (i : Int))), (2, .int (J (ca σ i (σ 0 i) : Int))), (4, .int (J (ca σ i (σ 0 i) : Int))), (0, .ref (a 0))]) hx hb dX0_findMostClashing_50 hl rfl (by decide) rfl (fun ls hl => ?_)
          refine lv_goto (tgt := 6) hx hb dX0_findMostClashing_53 (by decide) ?_
          exact ih (i + 1) (by omega) (by omega) (i : Int) (ca σ i (σ 0 i) : Int) _ _ _ trivial (by omega) (by exact fmr_y q hv (by omega)) hW (lv_sub hl [0, 2, 1, 4] rfl)

abbrev rm_X0_findLowest : Room := { frames := 1, cells := 0, slots := 0, locals := 21 }
set_option maxHeartbeats 4000000 in
set_option maxRecDepth 100000 in
/-- findLowest -/
theorem m_X0_findLowest (l : Launch) (κ : Kp) (a : Nat → Nat) (σ : Sg) (br : Nat → Int) (hI : Inv σ) : CGi l yX0_findLowest wsX0_findLowest rm_X0_findLowest κ [.ref (a 0)] (WC κ a σ br) (fun r _ => r = J (fl σ)) (fun (_ : Unit) => (WC κ a σ br)) := by
  refine entry_i (by decide) rfl (Nat.le_of_ble_eq_true rfl) ?_
  intro P e s m args below meth c ls A Q F hname hK hA hret hW hl
  obtain ⟨hx, hb, hml, hown, hts⟩ := id F
  have hn0 : ∀ w ∈ wsX00, w ∈ wsX0_findLowest := by decide +kernel
  have hN := hI.hN
  have hN10 := hI.n10
  refine jv_iconst hx hb dX0_findLowest_0 ?_
  refine lv_istore_n (lv' := [(1, .int (J (-1))), (0, .ref (a 0))]) hx hb dX0_findLowest_1 rfl hl (by decide) rfl (fun ls hl => ?_)
  refine jv_bipush hx hb 36 dX0_findLowest_2 (by decide +kernel) ?_
  refine lv_istore_n (lv' := [(2, .int (J 36)), (1, .int (J (-1))), (0, .ref (a 0))]) hx hb dX0_findLowest_4 rfl hl (by decide) rfl (fun ls hl => ?_)
  refine jv_iconst hx hb dX0_findLowest_5 ?_
  refine lv_istore_n (lv' := [(3, .int (J 0)), (2, .int (J 36)), (1, .int (J (-1))), (0, .ref (a 0))]) hx hb dX0_findLowest_6 rfl hl (by decide) rfl (fun ls hl => ?_)
  suffices hlp : ∀ (n i : Nat), i ≤ (nn σ) → (nn σ) < i + n → ∀ (x y : Int), ∀ (H : Heap) (locs : List Loc) (ls : Array Slot), (True) → (0 ≤ y ∧ y ≤ 36) → (flr σ i = (x, y)) → St κ A s.heap H locs (WC κ a σ br) → lv_has ls 4 [(3, .int (J (i : Int))), (2, .int (J y)), (1, .int (J x)), (0, .ref (a 0))] → W P l e rm_X0_findLowest s m args below meth c H locs 0 0 Q (F0 m 7 ls []) from
    hlp ((nn σ) + 1) 0 (Nat.zero_le _) (by omega) (-1) 36 _ _ _ trivial (by omega) (by rfl) hW hl
  intro n
  induction n with
  | zero => intro i h1 h2; exact absurd h2 (by omega)
  | succ n ih =>
    intro i hi hn x y H locs ls q_x q_y q hW hl
    refine lv_iload_n hx hb dX0_findLowest_7 rfl (lv_at hl 0 rfl) ?_
    refine lv_aload_n hx hb dX0_findLowest_8 rfl (lv_at hl 3 rfl) ?_
    refine jv_get (T := TX0) (N := 10) (v := .int (J (σ 5 3))) hx hb hts hn0 hown hK hW 0 rfl rfl 6 (by decide) (List.mem_of_getElem? (i := 1) rfl) rfl dX0_findLowest_9 ?_
    refine jv_icmp_ge hx hb 48 dX0_findLowest_12 (by decide) ⟨by omega, by omega⟩ ⟨by omega, by omega⟩ (fun h_1 => ?_) (fun h_1 => ?_)
    · skip
      refine lv_iload_n hx hb dX0_findLowest_48 rfl (lv_at hl 2 rfl) ?_
      exact hret () hW dX0_findLowest_49 (by first | exact Nat.le_of_ble_eq_true rfl | omega | (dsimp only [rm_X0_findLowest]; omega)) (by first | exact Nat.le_of_ble_eq_true rfl | omega | (dsimp only [rm_X0_findLowest]; omega)) (by rw [show x = fl σ by unfold fl; rw [← show i = nn σ by omega, q]])
    · skip
      have hbi := hI.at i (by omega)
      refine lv_aload_n hx hb dX0_findLowest_15 rfl (lv_at hl 3 rfl) ?_
      refine lv_iload_n hx hb dX0_findLowest_16 rfl (lv_at hl 0 rfl) ?_
      refine fin_i (k := 0) (n := 0) (W2 := (fun _ => (WC κ a σ br))) [0, 1, 2, 3, 4, 5, 6] [] [0, 1, 2, 3, 4, 5, 6] hW hA (va_runV (As := [.int (J (i : Int))]) (rest := []) F ((m_X0_isSounding l κ a σ br i (by omega) hI) _) (cwV 1 hts gX0_findLowest_X0_isSounding rfl rfl rfl (by decide +kernel) ⟨(Nat.le_of_ble_eq_true rfl), (Nat.le_of_ble_eq_true rfl)⟩) (pre_V hK hW [0, 1, 2, 3, 4, 5, 6] rfl (by decide) 0 0 rfl rfl) rfl rfl hl.1 rfl (lv_room (Nat.le_of_ble_eq_true rfl)) dX0_findLowest_17 ⟨(by first | exact Nat.le_of_ble_eq_true rfl | omega | (dsimp only [rm_X0_findLowest, rm_X0_isSounding]; omega)), (by first | exact Nat.le_of_ble_eq_true rfl | omega | (dsimp only [rm_X0_findLowest, rm_X0_isSounding]; omega))⟩) rfl rfl rfl (by decide) rfl (fun _ => rfl) (by first | exact Nat.le_of_ble_eq_true rfl | omega | (dsimp only [rm_X0_findLowest, rm_X0_isSounding]; omega)) (by first | exact Nat.le_of_ble_eq_true rfl | omega | (dsimp only [rm_X0_findLowest, rm_X0_isSounding]; omega)) (fun r_3 u H locs hp_2 hW => ?_)
      subst hp_2
      refine jv_ifb_eq (b := (sn σ i)) hx hb 42 dX0_findLowest_20 (by decide) (fun h_4 => ?_) (fun h_4 => ?_)
      · skip
        refine jv_iinc (k := 0) (z := (i : Int)) (lv' := [(3, .int (J ((i : Int) + 1))), (2, .int (J y)), (1, .int (J x)), (0, .ref (a 0))]) hx hb dX0_findLowest_42 hl rfl (by decide) rfl (fun ls hl => ?_)
        refine lv_goto (tgt := 7) hx hb dX0_findLowest_45 (by decide) ?_
        exact ih (i + 1) (by omega) (by omega) x y _ _ _ trivial (by omega) (by exact flr_n q (by rw [h_4]; exact fun h => absurd h.1 (by decide))) hW hl
      · skip
        refine lv_aload_n hx hb dX0_findLowest_23 rfl (lv_at hl 3 rfl) ?_
        refine jv_get (T := TX0) (N := 10) (v := .ref (a 2)) hx hb hts hn0 hown hK hW 0 rfl rfl 1 (by decide) (List.mem_of_getElem? (i := 2) rfl) rfl dX0_findLowest_24 ?_
        refine lv_iload_n hx hb dX0_findLowest_27 rfl (lv_at hl 0 rfl) ?_
        refine jv_iald (g := (σ 0)) hx hb hK hW 2 rfl i rfl (by omega) (by decide) dX0_findLowest_28 ?_
        refine lv_iload_n hx hb dX0_findLowest_29 rfl (lv_at hl 1 rfl) ?_
        refine jv_icmp_ge hx hb 42 dX0_findLowest_30 (by decide) ⟨by omega, by omega⟩ ⟨by omega, by omega⟩ (fun h_5 => ?_) (fun h_5 => ?_)
        · skip
          refine jv_iinc (k := 0) (z := (i : Int)) (lv' := [(3, .int (J ((i : Int) + 1))), (2, .int (J y)), (1, .int (J x)), (0, .ref (a 0))]) hx hb dX0_findLowest_42 hl rfl (by decide) rfl (fun ls hl => ?_)
          refine lv_goto (tgt := 7) hx hb dX0_findLowest_45 (by decide) ?_
          exact ih (i + 1) (by omega) (by omega) x y _ _ _ trivial (by omega) (by exact flr_n q (fun h => by have := h.2; omega)) hW hl
        · skip
          refine lv_aload_n hx hb dX0_findLowest_33 rfl (lv_at hl 3 rfl) ?_
          refine jv_get (T := TX0) (N := 10) (v := .ref (a 2)) hx hb hts hn0 hown hK hW 0 rfl rfl 1 (by decide) (List.mem_of_getElem? (i := 2) rfl) rfl dX0_findLowest_34 ?_
          refine lv_iload_n hx hb dX0_findLowest_37 rfl (lv_at hl 0 rfl) ?_
          refine jv_iald (g := (σ 0)) hx hb hK hW 2 rfl i rfl (by omega) (by decide) dX0_findLowest_38 ?_
          refine lv_istore_n (lv' := [(2, .int (J (σ 0 i))), (3, .int (J (i : Int))), (1, .int (J x)), (0, .ref (a 0))]) hx hb dX0_findLowest_39 rfl hl (by decide) rfl (fun ls hl => ?_)
          refine lv_iload_n hx hb dX0_findLowest_40 rfl (lv_at hl 1 rfl) ?_
          refine lv_istore_n (lv' := [(1, .int (J (i : Int))), (2, .int (J (σ 0 i))), (3, .int (J (i : Int))), (0, .ref (a 0))]) hx hb dX0_findLowest_41 rfl hl (by decide) rfl (fun ls hl => ?_)
          refine jv_iinc (k := 2) (z := (i : Int)) (lv' := [(3, .int (J ((i : Int) + 1))), (1, .int (J (i : Int))), (2, .int (J (σ 0 i))), (0, .ref (a 0))]) hx hb dX0_findLowest_42 hl rfl (by decide) rfl (fun ls hl => ?_)
          refine lv_goto (tgt := 7) hx hb dX0_findLowest_45 (by decide) ?_
          exact ih (i + 1) (by omega) (by omega) (i : Int) (σ 0 i) _ _ _ trivial (by omega) (by exact flr_y q h_4 (by omega)) hW (lv_sub hl [0, 2, 1, 3] rfl)

abbrev rm_X0_findBestTuning : Room := { frames := 3, cells := 0, slots := 0, locals := 66 }
set_option maxHeartbeats 4000000 in
set_option maxRecDepth 100000 in
/-- findBestTuning -/
theorem m_X0_findBestTuning (l : Launch) (κ : Kp) (a : Nat → Nat) (σ : Sg) (br : Nat → Int) (p : Nat) (hp : p < 10) (hI : Inv σ) : CGi l yX0_findBestTuning wsX0_findBestTuning rm_X0_findBestTuning κ [.ref (a 0), .int (J (p : Int))] (WC κ a σ br) (fun r _ => r = J (ft σ p)) (fun (_ : Unit) => (WC κ a σ br)) := by
  refine entry_i (by decide) rfl (Nat.le_of_ble_eq_true rfl) ?_
  intro P e s m args below meth c ls A Q F hname hK hA hret hW hl
  obtain ⟨hx, hb, hml, hown, hts⟩ := id F
  have hn0 : ∀ w ∈ wsX00, w ∈ wsX0_findBestTuning := by decide +kernel
  have hN := hI.hN
  have hN10 := hI.n10
  have hbp := hI.at p hp
  have hca0 := ca_le σ p (σ 0 p)
  refine jv_iconst hx hb dX0_findBestTuning_0 ?_
  refine lv_istore_n (lv' := [(2, .int (J 0)), (0, .ref (a 0)), (1, .int (J (p : Int)))]) hx hb dX0_findBestTuning_1 rfl hl (by decide) rfl (fun ls hl => ?_)
  refine lv_aload_n hx hb dX0_findBestTuning_2 rfl (lv_at hl 1 rfl) ?_
  refine lv_iload_n hx hb dX0_findBestTuning_3 rfl (lv_at hl 2 rfl) ?_
  refine lv_aload_n hx hb dX0_findBestTuning_4 rfl (lv_at hl 1 rfl) ?_
  refine jv_get (T := TX0) (N := 10) (v := .ref (a 2)) hx hb hts hn0 hown hK hW 0 rfl rfl 1 (by decide) (List.mem_of_getElem? (i := 1) rfl) rfl dX0_findBestTuning_5 ?_
  refine lv_iload_n hx hb dX0_findBestTuning_8 rfl (lv_at hl 2 rfl) ?_
  refine jv_iald (g := (σ 0)) hx hb hK hW 2 rfl p rfl (by omega) (by decide) dX0_findBestTuning_9 ?_
  refine fin_i (k := 0) (n := 0) (W2 := (fun _ => (WC κ a σ br))) [0, 1, 2, 3, 4, 5, 6] [] [0, 1, 2, 3, 4, 5, 6] hW hA (va_runV (As := [.int (J (p : Int)), .int (J (σ 0 p))]) (rest := []) F ((m_X0_countClashesAt l κ a σ br p (σ 0 p) (by omega) (by omega) hI) _) (cwV 2 hts gX0_findBestTuning_X0_countClashesAt rfl rfl rfl (by decide +kernel) ⟨(Nat.le_of_ble_eq_true rfl), (Nat.le_of_ble_eq_true rfl)⟩) (pre_V hK hW [0, 1, 2, 3, 4, 5, 6] rfl (by decide) 0 0 rfl rfl) rfl rfl hl.1 rfl (lv_room (Nat.le_of_ble_eq_true rfl)) dX0_findBestTuning_10 ⟨(by first | exact Nat.le_of_ble_eq_true rfl | omega | (dsimp only [rm_X0_findBestTuning, rm_X0_countClashesAt]; omega)), (by first | exact Nat.le_of_ble_eq_true rfl | omega | (dsimp only [rm_X0_findBestTuning, rm_X0_countClashesAt]; omega))⟩) rfl rfl rfl (by decide) rfl (fun _ => rfl) (by first | exact Nat.le_of_ble_eq_true rfl | omega | (dsimp only [rm_X0_findBestTuning, rm_X0_countClashesAt]; omega)) (by first | exact Nat.le_of_ble_eq_true rfl | omega | (dsimp only [rm_X0_findBestTuning, rm_X0_countClashesAt]; omega)) (fun r_2 u H locs hp_1 hW => ?_)
  subst hp_1
  refine lv_istore_n (lv' := [(3, .int (J (ca σ p (σ 0 p) : Int))), (2, .int (J 0)), (0, .ref (a 0)), (1, .int (J (p : Int)))]) hx hb dX0_findBestTuning_13 rfl hl (by decide) rfl (fun ls hl => ?_)
  refine jv_bipush hx hb (-12) dX0_findBestTuning_14 (by decide +kernel) ?_
  refine lv_istore (lv' := [(4, .int (J (-12))), (3, .int (J (ca σ p (σ 0 p) : Int))), (2, .int (J 0)), (0, .ref (a 0)), (1, .int (J (p : Int)))]) hx hb dX0_findBestTuning_16 hl (by decide) rfl (fun ls hl => ?_)
  suffices hlp : ∀ (n i : Nat), i ≤ 25 → 25 < i + n → ∀ (b x y : Int), ∀ (H : Heap) (locs : List Loc) (ls : Array Slot), (b = (i : Int) - 12) → (-12 ≤ x ∧ x ≤ 12) → (0 ≤ y ∧ y ≤ 10) → (ftr σ p i = (x, y)) → St κ A s.heap H locs (WC κ a σ br) → lv_has ls 8 [(4, .int (J b)), (3, .int (J y)), (2, .int (J x)), (0, .ref (a 0)), (1, .int (J (p : Int)))] → W P l e rm_X0_findBestTuning s m args below meth c H locs 0 0 Q (F0 m 18 ls []) from
    hlp (25 + 1) 0 (Nat.zero_le _) (by omega) (-12) 0 (ca σ p (σ 0 p) : Int) _ _ _ (by rfl) (by omega) (by omega) (by rfl) hW hl
  intro n
  induction n with
  | zero => intro i h1 h2; exact absurd h2 (by omega)
  | succ n ih =>
    intro i hi hn b x y H locs ls q_b q_x q_y q hW hl
    refine lv_iload hx hb dX0_findBestTuning_18 (lv_at hl 0 rfl) ?_
    refine jv_bipush hx hb 12 dX0_findBestTuning_20 (by decide +kernel) ?_
    refine jv_icmp_gt hx hb 108 dX0_findBestTuning_22 (by decide) ⟨by omega, by omega⟩ ⟨by omega, by omega⟩ (fun h_3 => ?_) (fun h_3 => ?_)
    · skip
      refine lv_iload_n hx hb dX0_findBestTuning_108 rfl (lv_at hl 2 rfl) ?_
      exact hret () hW dX0_findBestTuning_109 (by first | exact Nat.le_of_ble_eq_true rfl | omega | (dsimp only [rm_X0_findBestTuning]; omega)) (by first | exact Nat.le_of_ble_eq_true rfl | omega | (dsimp only [rm_X0_findBestTuning]; omega)) (by rw [show x = ft σ p by unfold ft; rw [← show i = 25 by omega, q]])
    · skip
      refine lv_aload_n hx hb dX0_findBestTuning_25 rfl (lv_at hl 3 rfl) ?_
      refine jv_get (T := TX0) (N := 10) (v := .ref (a 2)) hx hb hts hn0 hown hK hW 0 rfl rfl 1 (by decide) (List.mem_of_getElem? (i := 1) rfl) rfl dX0_findBestTuning_26 ?_
      refine lv_iload_n hx hb dX0_findBestTuning_29 rfl (lv_at hl 4 rfl) ?_
      refine jv_iald (g := (σ 0)) hx hb hK hW 2 rfl p rfl (by omega) (by decide) dX0_findBestTuning_30 ?_
      refine lv_iload hx hb dX0_findBestTuning_31 (lv_at hl 0 rfl) ?_
      refine jv_iadd hx hb dX0_findBestTuning_33 ?_
      refine lv_istore (lv' := [(5, .int (J ((σ 0 p) + b))), (4, .int (J b)), (3, .int (J y)), (2, .int (J x)), (0, .ref (a 0)), (1, .int (J (p : Int)))]) hx hb dX0_findBestTuning_34 hl (by decide) rfl (fun ls hl => ?_)
      refine lv_iload hx hb dX0_findBestTuning_36 (lv_at hl 0 rfl) ?_
      refine jv_if_lt hx hb 102 dX0_findBestTuning_38 (by decide) ⟨by omega, by omega⟩ (fun h_4 => ?_) (fun h_4 => ?_)
      · skip
        refine jv_iinc (k := 1) (z := b) (lv' := [(4, .int (J (b + 1))), (5, .int (J ((σ 0 p) + b))), (3, .int (J y)), (2, .int (J x)), (0, .ref (a 0)), (1, .int (J (p : Int)))]) hx hb dX0_findBestTuning_102 hl rfl (by decide) rfl (fun ls hl => ?_)
        refine lv_goto (tgt := 18) hx hb dX0_findBestTuning_105 (by decide) ?_
        exact ih (i + 1) (by omega) (by omega) (b + 1) x y _ _ _ (by omega) (by omega) (by omega) (by exact ftr_n (b := b) q_b q (fun h => by omega)) hW (lv_sub hl [0, 2, 3, 4, 5] rfl)
      · skip
        refine lv_iload hx hb dX0_findBestTuning_41 (lv_at hl 0 rfl) ?_
        refine jv_bipush hx hb 35 dX0_findBestTuning_43 (by decide +kernel) ?_
        refine jv_icmp_le hx hb 51 dX0_findBestTuning_45 (by decide) ⟨by omega, by omega⟩ ⟨by omega, by omega⟩ (fun h_5 => ?_) (fun h_5 => ?_)
        · skip
          have hcab := ca_le σ p (σ 0 p + b)
          refine lv_aload_n hx hb dX0_findBestTuning_51 rfl (lv_at hl 4 rfl) ?_
          refine lv_iload_n hx hb dX0_findBestTuning_52 rfl (lv_at hl 5 rfl) ?_
          refine lv_iload hx hb dX0_findBestTuning_53 (lv_at hl 0 rfl) ?_
          refine fin_i (k := 0) (n := 0) (W2 := (fun _ => (WC κ a σ br))) [0, 1, 2, 3, 4, 5, 6] [] [0, 1, 2, 3, 4, 5, 6] hW hA (va_runV (As := [.int (J (p : Int)), .int (J ((σ 0 p) + b))]) (rest := []) F ((m_X0_countClashesAt l κ a σ br p ((σ 0 p) + b) (by omega) (by omega) hI) _) (cwV 2 hts gX0_findBestTuning_X0_countClashesAt rfl rfl rfl (by decide +kernel) ⟨(Nat.le_of_ble_eq_true rfl), (Nat.le_of_ble_eq_true rfl)⟩) (pre_V hK hW [0, 1, 2, 3, 4, 5, 6] rfl (by decide) 0 0 rfl rfl) rfl rfl hl.1 rfl (lv_room (Nat.le_of_ble_eq_true rfl)) dX0_findBestTuning_55 ⟨(by first | exact Nat.le_of_ble_eq_true rfl | omega | (dsimp only [rm_X0_findBestTuning, rm_X0_countClashesAt]; omega)), (by first | exact Nat.le_of_ble_eq_true rfl | omega | (dsimp only [rm_X0_findBestTuning, rm_X0_countClashesAt]; omega))⟩) rfl rfl rfl (by decide) rfl (fun _ => rfl) (by first | exact Nat.le_of_ble_eq_true rfl | omega | (dsimp only [rm_X0_findBestTuning, rm_X0_countClashesAt]; omega)) (by first | exact Nat.le_of_ble_eq_true rfl | omega | (dsimp only [rm_X0_findBestTuning, rm_X0_countClashesAt]; omega)) (fun r_7 u H locs hp_6 hW => ?_)
          subst hp_6
          refine lv_istore (lv' := [(6, .int (J (ca σ p ((σ 0 p) + b) : Int))), (5, .int (J ((σ 0 p) + b))), (4, .int (J b)), (3, .int (J y)), (2, .int (J x)), (0, .ref (a 0)), (1, .int (J (p : Int)))]) hx hb dX0_findBestTuning_58 hl (by decide) rfl (fun ls hl => ?_)
          have j77 : ∀ (H : Heap) (locs : List Loc) (ls : Array Slot), St κ A s.heap H locs (WC κ a σ br) → lv_has ls 8 [(6, .int (J (ca σ p ((σ 0 p) + b) : Int))), (5, .int (J ((σ 0 p) + b))), (4, .int (J b)), (3, .int (J y)), (2, .int (J x)), (0, .ref (a 0)), (1, .int (J (p : Int)))] → W P l e rm_X0_findBestTuning s m args below meth c H locs 0 0 Q (F0 m 77 ls [.int (J (bi (decide (iab b ≤ iab x))))]) := by
            intro H locs ls hW hl
            refine lv_istore (lv' := [(7, .int (J (bi (decide (iab b ≤ iab x))))), (6, .int (J (ca σ p ((σ 0 p) + b) : Int))), (5, .int (J ((σ 0 p) + b))), (4, .int (J b)), (3, .int (J y)), (2, .int (J x)), (0, .ref (a 0)), (1, .int (J (p : Int)))]) hx hb dX0_findBestTuning_77 hl (by decide) rfl (fun ls hl => ?_)
            refine lv_iload hx hb dX0_findBestTuning_79 (lv_at hl 1 rfl) ?_
            refine lv_iload_n hx hb dX0_findBestTuning_81 rfl (lv_at hl 4 rfl) ?_
            refine jv_icmp_lt hx hb 96 dX0_findBestTuning_82 (by decide) ⟨by omega, by omega⟩ ⟨by omega, by omega⟩ (fun h_8 => ?_) (fun h_8 => ?_)
            · skip
              refine lv_iload hx hb dX0_findBestTuning_96 (lv_at hl 1 rfl) ?_
              refine lv_istore_n (lv' := [(3, .int (J (ca σ p ((σ 0 p) + b) : Int))), (7, .int (J (bi (decide (iab b ≤ iab x))))), (6, .int (J (ca σ p ((σ 0 p) + b) : Int))), (5, .int (J ((σ 0 p) + b))), (4, .int (J b)), (2, .int (J x)), (0, .ref (a 0)), (1, .int (J (p : Int)))]) hx hb dX0_findBestTuning_98 rfl hl (by decide) rfl (fun ls hl => ?_)
              refine lv_iload hx hb dX0_findBestTuning_99 (lv_at hl 4 rfl) ?_
              refine lv_istore_n (lv' := [(2, .int (J b)), (3, .int (J (ca σ p ((σ 0 p) + b) : Int))), (7, .int (J (bi (decide (iab b ≤ iab x))))), (6, .int (J (ca σ p ((σ 0 p) + b) : Int))), (5, .int (J ((σ 0 p) + b))), (4, .int (J b)), (0, .ref (a 0)), (1, .int (J (p : Int)))]) hx hb dX0_findBestTuning_101 rfl hl (by decide) rfl (fun ls hl => ?_)
              refine jv_iinc (k := 5) (z := b) (lv' := [(4, .int (J (b + 1))), (2, .int (J b)), (3, .int (J (ca σ p ((σ 0 p) + b) : Int))), (7, .int (J (bi (decide (iab b ≤ iab x))))), (6, .int (J (ca σ p ((σ 0 p) + b) : Int))), (5, .int (J ((σ 0 p) + b))), (0, .ref (a 0)), (1, .int (J (p : Int)))]) hx hb dX0_findBestTuning_102 hl rfl (by decide) rfl (fun ls hl => ?_)
              refine lv_goto (tgt := 18) hx hb dX0_findBestTuning_105 (by decide) ?_
              exact ih (i + 1) (by omega) (by omega) (b + 1) b (ca σ p ((σ 0 p) + b) : Int) _ _ _ (by omega) (by omega) (by omega) (by exact ftr_y (b := b) q_b q (by omega) (Or.inl (by omega))) hW (lv_sub hl [0, 2, 1, 6, 7] rfl)
            · skip
              refine lv_iload hx hb dX0_findBestTuning_85 (lv_at hl 1 rfl) ?_
              refine lv_iload_n hx hb dX0_findBestTuning_87 rfl (lv_at hl 4 rfl) ?_
              refine jv_icmp_ne hx hb 102 dX0_findBestTuning_88 (by decide) ⟨by omega, by omega⟩ ⟨by omega, by omega⟩ (fun h_9 => ?_) (fun h_9 => ?_)
              · skip
                refine jv_iinc (k := 3) (z := b) (lv' := [(4, .int (J (b + 1))), (7, .int (J (bi (decide (iab b ≤ iab x))))), (6, .int (J (ca σ p ((σ 0 p) + b) : Int))), (5, .int (J ((σ 0 p) + b))), (3, .int (J y)), (2, .int (J x)), (0, .ref (a 0)), (1, .int (J (p : Int)))]) hx hb dX0_findBestTuning_102 hl rfl (by decide) rfl (fun ls hl => ?_)
                refine lv_goto (tgt := 18) hx hb dX0_findBestTuning_105 (by decide) ?_
                exact ih (i + 1) (by omega) (by omega) (b + 1) x y _ _ _ (by omega) (by omega) (by omega) (by exact ftr_n (b := b) q_b q (fun h => by omega)) hW (lv_sub hl [0, 4, 5, 6, 7] rfl)
              · skip
                refine lv_iload hx hb dX0_findBestTuning_91 (lv_at hl 0 rfl) ?_
                refine jv_ifb_eq (b := (decide (iab b ≤ iab x))) hx hb 102 dX0_findBestTuning_93 (by decide) (fun h_10 => ?_) (fun h_10 => ?_)
                · skip
                  refine jv_iinc (k := 3) (z := b) (lv' := [(4, .int (J (b + 1))), (7, .int (J (bi (decide (iab b ≤ iab x))))), (6, .int (J (ca σ p ((σ 0 p) + b) : Int))), (5, .int (J ((σ 0 p) + b))), (3, .int (J y)), (2, .int (J x)), (0, .ref (a 0)), (1, .int (J (p : Int)))]) hx hb dX0_findBestTuning_102 hl rfl (by decide) rfl (fun ls hl => ?_)
                  refine lv_goto (tgt := 18) hx hb dX0_findBestTuning_105 (by decide) ?_
                  exact ih (i + 1) (by omega) (by omega) (b + 1) x y _ _ _ (by omega) (by omega) (by omega) (by exact ftr_n (b := b) q_b q (fun h => by rcases h.2 with h | h <;> first | omega | exact absurd h.2 (of_decide_eq_false h_10))) hW (lv_sub hl [0, 4, 5, 6, 7] rfl)
                · skip
                  refine lv_iload hx hb dX0_findBestTuning_96 (lv_at hl 1 rfl) ?_
                  refine lv_istore_n (lv' := [(3, .int (J (ca σ p ((σ 0 p) + b) : Int))), (7, .int (J (bi (decide (iab b ≤ iab x))))), (6, .int (J (ca σ p ((σ 0 p) + b) : Int))), (5, .int (J ((σ 0 p) + b))), (4, .int (J b)), (2, .int (J x)), (0, .ref (a 0)), (1, .int (J (p : Int)))]) hx hb dX0_findBestTuning_98 rfl hl (by decide) rfl (fun ls hl => ?_)
                  refine lv_iload hx hb dX0_findBestTuning_99 (lv_at hl 4 rfl) ?_
                  refine lv_istore_n (lv' := [(2, .int (J b)), (3, .int (J (ca σ p ((σ 0 p) + b) : Int))), (7, .int (J (bi (decide (iab b ≤ iab x))))), (6, .int (J (ca σ p ((σ 0 p) + b) : Int))), (5, .int (J ((σ 0 p) + b))), (4, .int (J b)), (0, .ref (a 0)), (1, .int (J (p : Int)))]) hx hb dX0_findBestTuning_101 rfl hl (by decide) rfl (fun ls hl => ?_)
                  refine jv_iinc (k := 5) (z := b) (lv' := [(4, .int (J (b + 1))), (2, .int (J b)), (3, .int (J (ca σ p ((σ 0 p) + b) : Int))), (7, .int (J (bi (decide (iab b ≤ iab x))))), (6, .int (J (ca σ p ((σ 0 p) + b) : Int))), (5, .int (J ((σ 0 p) + b))), (0, .ref (a 0)), (1, .int (J (p : Int)))]) hx hb dX0_findBestTuning_102 hl rfl (by decide) rfl (fun ls hl => ?_)
                  refine lv_goto (tgt := 18) hx hb dX0_findBestTuning_105 (by decide) ?_
                  exact ih (i + 1) (by omega) (by omega) (b + 1) b (ca σ p ((σ 0 p) + b) : Int) _ _ _ (by omega) (by omega) (by omega) (by exact ftr_y (b := b) q_b q (by omega) (Or.inr ⟨by omega, of_decide_eq_true h_10⟩)) hW (lv_sub hl [0, 2, 1, 6, 7] rfl)
          refine lv_iload hx hb dX0_findBestTuning_60 (lv_at hl 2 rfl) ?_
          refine jv_abs hx hb hown hml hl hts (List.mem_of_getElem? (i := 2) rfl) (List.mem_of_getElem? (i := 3) rfl) (List.mem_of_getElem? (i := 4) rfl) (List.mem_of_getElem? (i := 5) rfl) (Nat.le_of_ble_eq_true rfl) (Nat.le_of_ble_eq_true rfl) (by first | exact Nat.le_of_ble_eq_true rfl | omega) (by first | exact Nat.le_of_ble_eq_true rfl | omega) ⟨by omega, by omega⟩ dX0_findBestTuning_62 ?_
          refine lv_iload_n hx hb dX0_findBestTuning_65 rfl (lv_at hl 4 rfl) ?_
          refine jv_abs hx hb hown hml hl hts (List.mem_of_getElem? (i := 2) rfl) (List.mem_of_getElem? (i := 3) rfl) (List.mem_of_getElem? (i := 4) rfl) (List.mem_of_getElem? (i := 5) rfl) (Nat.le_of_ble_eq_true rfl) (Nat.le_of_ble_eq_true rfl) (by first | exact Nat.le_of_ble_eq_true rfl | omega) (by first | exact Nat.le_of_ble_eq_true rfl | omega) ⟨by omega, by omega⟩ dX0_findBestTuning_66 ?_
          refine jv_icmp_gt hx hb 76 dX0_findBestTuning_69 (by decide) ⟨by omega, by omega⟩ ⟨by omega, by omega⟩ (fun h_11 => ?_) (fun h_11 => ?_)
          · skip
            refine jv_iconst hx hb dX0_findBestTuning_76 ?_
            refine jv_eq (y := bi (decide (iab b ≤ iab x))) (by rw [decide_eq_false (show ¬ iab b ≤ iab x by unfold iab; omega)]; rfl) ?_
            exact j77 _ _ _ hW hl
          · skip
            refine jv_iconst hx hb dX0_findBestTuning_72 ?_
            refine lv_goto (tgt := 77) hx hb dX0_findBestTuning_73 (by decide) ?_
            refine jv_eq (y := bi (decide (iab b ≤ iab x))) (by rw [decide_eq_true (show iab b ≤ iab x by unfold iab; omega)]; rfl) ?_
            exact j77 _ _ _ hW hl
        · skip
          refine lv_goto (tgt := 102) hx hb dX0_findBestTuning_48 (by decide) ?_
          refine jv_iinc (k := 1) (z := b) (lv' := [(4, .int (J (b + 1))), (5, .int (J ((σ 0 p) + b))), (3, .int (J y)), (2, .int (J x)), (0, .ref (a 0)), (1, .int (J (p : Int)))]) hx hb dX0_findBestTuning_102 hl rfl (by decide) rfl (fun ls hl => ?_)
          refine lv_goto (tgt := 18) hx hb dX0_findBestTuning_105 (by decide) ?_
          exact ih (i + 1) (by omega) (by omega) (b + 1) x y _ _ _ (by omega) (by omega) (by omega) (by exact ftr_n (b := b) q_b q (fun h => by omega)) hW (lv_sub hl [0, 2, 3, 4, 5] rfl)

abbrev rm_X0_wear : Room := { frames := 1, cells := 0, slots := 0, locals := 21 }
set_option maxHeartbeats 4000000 in
set_option maxRecDepth 100000 in
/-- wear -/
theorem m_X0_wear (l : Launch) (κ : Kp) (a : Nat → Nat) (σ : Sg) (br : Nat → Int) (p : Nat) (hp : p < 10) (hI : Inv σ) (hB : σ 5 0 ≤ 1000000000) : CGv l yX0_wear wsX0_wear rm_X0_wear κ [.ref (a 0), .int (J (p : Int))] (WC κ a σ br) (fun (_ : Unit) => True) (fun (_ : Unit) => WC κ a (wear σ p) br) := by
  refine entry_v (by decide) rfl (Nat.le_of_ble_eq_true rfl) ?_
  intro P e s m args below meth c ls A Q F hname hK hA hret hW hl
  obtain ⟨hx, hb, hml, hown, hts⟩ := id F
  have hn0 : ∀ w ∈ wsX00, w ∈ wsX0_wear := by decide +kernel
  have hbp := hI.at p hp
  have hbt := hI.2.1
  have h50 : σ 5 0 ≤ 1000000000 := hB
  refine lv_aload_n hx hb dX0_wear_0 rfl (lv_at hl 0 rfl) ?_
  refine jv_get (T := TX0) (N := 10) (v := .ref (a 3)) hx hb hts hn0 hown hK hW 0 rfl rfl 2 (by decide) (List.mem_of_getElem? (i := 1) rfl) rfl dX0_wear_1 ?_
  refine lv_iload_n hx hb dX0_wear_4 rfl (lv_at hl 1 rfl) ?_
  refine jv_iconst hx hb dX0_wear_5 ?_
  refine lv_aload_n hx hb dX0_wear_6 rfl (lv_at hl 0 rfl) ?_
  refine jv_get (T := TX0) (N := 10) (v := .ref (a 3)) hx hb hts hn0 hown hK hW 0 rfl rfl 2 (by decide) (List.mem_of_getElem? (i := 1) rfl) rfl dX0_wear_7 ?_
  refine lv_iload_n hx hb dX0_wear_10 rfl (lv_at hl 1 rfl) ?_
  refine jv_iald (g := (σ 1)) hx hb hK hW 3 rfl p rfl (by omega) (by decide) dX0_wear_11 ?_
  refine jv_iconst hx hb dX0_wear_12 ?_
  refine jv_isub hx hb dX0_wear_13 ?_
  refine lv_aload_n hx hb dX0_wear_14 rfl (lv_at hl 0 rfl) ?_
  refine jv_get (T := TX0) (N := 10) (v := .ref (a 4)) hx hb hts hn0 hown hK hW 0 rfl rfl 3 (by decide) (List.mem_of_getElem? (i := 2) rfl) rfl dX0_wear_15 ?_
  refine lv_iload_n hx hb dX0_wear_18 rfl (lv_at hl 1 rfl) ?_
  refine jv_iald (g := (σ 2)) hx hb hK hW 4 rfl p rfl (by omega) (by decide) dX0_wear_19 ?_
  refine jv_iconst hx hb dX0_wear_20 ?_
  refine jv_idiv hx hb dX0_wear_21 (by omega) ?_
  refine jv_isub hx hb dX0_wear_22 ?_
  refine jv_max hx hb hown hml hl hts (List.mem_of_getElem? (i := 3) rfl) (List.mem_of_getElem? (i := 4) rfl) (List.mem_of_getElem? (i := 5) rfl) (List.mem_of_getElem? (i := 6) rfl) (Nat.le_of_ble_eq_true rfl) (Nat.le_of_ble_eq_true rfl) (by first | exact Nat.le_of_ble_eq_true rfl | omega) (by first | exact Nat.le_of_ble_eq_true rfl | omega) ⟨by omega, by omega⟩ ⟨by omega, by omega⟩ dX0_wear_23 ?_
  refine jv_iast (g := (σ 1)) (ws' := (WC κ a (up σ 1 p (max 0 (((σ 1 p) - 1) - ((σ 2 p) / 3)))) br)) hx hb hK hW 3 rfl p rfl (by omega) (by decide) rfl dX0_wear_26 (fun H locs hW => ?_)
  refine lv_aload_n hx hb dX0_wear_27 rfl (lv_at hl 0 rfl) ?_
  refine jv_get (T := TX0) (N := 10) (v := .ref (a 2)) hx hb hts hn0 hown hK hW 0 rfl rfl 1 (by decide) (List.mem_of_getElem? (i := 7) rfl) rfl dX0_wear_28 ?_
  refine lv_iload_n hx hb dX0_wear_31 rfl (lv_at hl 1 rfl) ?_
  refine jv_iald (g := (σ 0)) hx hb hK hW 2 rfl p rfl (by omega) (by decide) dX0_wear_32 ?_
  refine jv_bipush hx hb 24 dX0_wear_33 (by decide +kernel) ?_
  refine jv_icmp_lt hx hb 66 dX0_wear_35 (by decide) ⟨by omega, by omega⟩ ⟨by omega, by omega⟩ (fun h_1 => ?_) (fun h_1 => ?_)
  · skip
    refine lv_aload_n hx hb dX0_wear_66 rfl (lv_at hl 0 rfl) ?_
    refine jv_get (T := TX0) (N := 10) (v := .ref (a 4)) hx hb hts hn0 hown hK hW 0 rfl rfl 3 (by decide) (List.mem_of_getElem? (i := 2) rfl) rfl dX0_wear_67 ?_
    refine lv_iload_n hx hb dX0_wear_70 rfl (lv_at hl 1 rfl) ?_
    refine jv_iald (g := (σ 2)) hx hb hK hW 4 rfl p rfl (by omega) (by decide) dX0_wear_71 ?_
    refine jv_iconst hx hb dX0_wear_72 ?_
    refine jv_icmp_lt hx hb 94 dX0_wear_73 (by decide) ⟨by omega, by omega⟩ ⟨by omega, by omega⟩ (fun h_2 => ?_) (fun h_2 => ?_)
    · skip
      exact hret () (by rw [wear_ff (by omega) (by omega)]; exact hW) dX0_wear_94 (by first | exact Nat.le_of_ble_eq_true rfl | omega | (dsimp only [rm_X0_wear]; omega)) (by first | exact Nat.le_of_ble_eq_true rfl | omega | (dsimp only [rm_X0_wear]; omega)) trivial
    · skip
      refine lv_aload_n hx hb dX0_wear_76 rfl (lv_at hl 0 rfl) ?_
      refine jv_get (T := TX0) (N := 10) (v := .ref (a 2)) hx hb hts hn0 hown hK hW 0 rfl rfl 1 (by decide) (List.mem_of_getElem? (i := 7) rfl) rfl dX0_wear_77 ?_
      refine lv_iload_n hx hb dX0_wear_80 rfl (lv_at hl 1 rfl) ?_
      refine jv_iconst hx hb dX0_wear_81 ?_
      refine lv_aload_n hx hb dX0_wear_82 rfl (lv_at hl 0 rfl) ?_
      refine jv_get (T := TX0) (N := 10) (v := .ref (a 2)) hx hb hts hn0 hown hK hW 0 rfl rfl 1 (by decide) (List.mem_of_getElem? (i := 7) rfl) rfl dX0_wear_83 ?_
      refine lv_iload_n hx hb dX0_wear_86 rfl (lv_at hl 1 rfl) ?_
      refine jv_iald (g := (σ 0)) hx hb hK hW 2 rfl p rfl (by omega) (by decide) dX0_wear_87 ?_
      refine jv_iconst hx hb dX0_wear_88 ?_
      refine jv_isub hx hb dX0_wear_89 ?_
      refine jv_max hx hb hown hml hl hts (List.mem_of_getElem? (i := 3) rfl) (List.mem_of_getElem? (i := 4) rfl) (List.mem_of_getElem? (i := 5) rfl) (List.mem_of_getElem? (i := 6) rfl) (Nat.le_of_ble_eq_true rfl) (Nat.le_of_ble_eq_true rfl) (by first | exact Nat.le_of_ble_eq_true rfl | omega) (by first | exact Nat.le_of_ble_eq_true rfl | omega) ⟨by omega, by omega⟩ ⟨by omega, by omega⟩ dX0_wear_90 ?_
      refine jv_iast (g := (σ 0)) (ws' := (WC κ a (up (up σ 1 p (max 0 (((σ 1 p) - 1) - ((σ 2 p) / 3)))) 0 p (max 0 ((σ 0 p) - 1))) br)) hx hb hK hW 2 rfl p rfl (by omega) (by decide) rfl dX0_wear_93 (fun H locs hW => ?_)
      exact hret () (by rw [wear_ft (by omega) (by omega)]; exact hW) dX0_wear_94 (by first | exact Nat.le_of_ble_eq_true rfl | omega | (dsimp only [rm_X0_wear]; omega)) (by first | exact Nat.le_of_ble_eq_true rfl | omega | (dsimp only [rm_X0_wear]; omega)) trivial
  · skip
    refine lv_aload_n hx hb dX0_wear_38 rfl (lv_at hl 0 rfl) ?_
    refine jv_get (T := TX0) (N := 10) (v := .int (J (σ 5 0))) hx hb hts hn0 hown hK hW 0 rfl rfl 7 (by decide) (List.mem_of_getElem? (i := 8) rfl) rfl dX0_wear_39 ?_
    refine jv_iconst hx hb dX0_wear_42 ?_
    refine jv_irem hx hb dX0_wear_43 (by omega) ?_
    refine jv_if_ne hx hb 66 dX0_wear_44 (by decide) ⟨by omega, by omega⟩ (fun h_3 => ?_) (fun h_3 => ?_)
    · skip
      refine lv_aload_n hx hb dX0_wear_66 rfl (lv_at hl 0 rfl) ?_
      refine jv_get (T := TX0) (N := 10) (v := .ref (a 4)) hx hb hts hn0 hown hK hW 0 rfl rfl 3 (by decide) (List.mem_of_getElem? (i := 2) rfl) rfl dX0_wear_67 ?_
      refine lv_iload_n hx hb dX0_wear_70 rfl (lv_at hl 1 rfl) ?_
      refine jv_iald (g := (σ 2)) hx hb hK hW 4 rfl p rfl (by omega) (by decide) dX0_wear_71 ?_
      refine jv_iconst hx hb dX0_wear_72 ?_
      refine jv_icmp_lt hx hb 94 dX0_wear_73 (by decide) ⟨by omega, by omega⟩ ⟨by omega, by omega⟩ (fun h_4 => ?_) (fun h_4 => ?_)
      · skip
        exact hret () (by rw [wear_ff (by omega) (by omega)]; exact hW) dX0_wear_94 (by first | exact Nat.le_of_ble_eq_true rfl | omega | (dsimp only [rm_X0_wear]; omega)) (by first | exact Nat.le_of_ble_eq_true rfl | omega | (dsimp only [rm_X0_wear]; omega)) trivial
      · skip
        refine lv_aload_n hx hb dX0_wear_76 rfl (lv_at hl 0 rfl) ?_
        refine jv_get (T := TX0) (N := 10) (v := .ref (a 2)) hx hb hts hn0 hown hK hW 0 rfl rfl 1 (by decide) (List.mem_of_getElem? (i := 7) rfl) rfl dX0_wear_77 ?_
        refine lv_iload_n hx hb dX0_wear_80 rfl (lv_at hl 1 rfl) ?_
        refine jv_iconst hx hb dX0_wear_81 ?_
        refine lv_aload_n hx hb dX0_wear_82 rfl (lv_at hl 0 rfl) ?_
        refine jv_get (T := TX0) (N := 10) (v := .ref (a 2)) hx hb hts hn0 hown hK hW 0 rfl rfl 1 (by decide) (List.mem_of_getElem? (i := 7) rfl) rfl dX0_wear_83 ?_
        refine lv_iload_n hx hb dX0_wear_86 rfl (lv_at hl 1 rfl) ?_
        refine jv_iald (g := (σ 0)) hx hb hK hW 2 rfl p rfl (by omega) (by decide) dX0_wear_87 ?_
        refine jv_iconst hx hb dX0_wear_88 ?_
        refine jv_isub hx hb dX0_wear_89 ?_
        refine jv_max hx hb hown hml hl hts (List.mem_of_getElem? (i := 3) rfl) (List.mem_of_getElem? (i := 4) rfl) (List.mem_of_getElem? (i := 5) rfl) (List.mem_of_getElem? (i := 6) rfl) (Nat.le_of_ble_eq_true rfl) (Nat.le_of_ble_eq_true rfl) (by first | exact Nat.le_of_ble_eq_true rfl | omega) (by first | exact Nat.le_of_ble_eq_true rfl | omega) ⟨by omega, by omega⟩ ⟨by omega, by omega⟩ dX0_wear_90 ?_
        refine jv_iast (g := (σ 0)) (ws' := (WC κ a (up (up σ 1 p (max 0 (((σ 1 p) - 1) - ((σ 2 p) / 3)))) 0 p (max 0 ((σ 0 p) - 1))) br)) hx hb hK hW 2 rfl p rfl (by omega) (by decide) rfl dX0_wear_93 (fun H locs hW => ?_)
        exact hret () (by rw [wear_ft (by omega) (by omega)]; exact hW) dX0_wear_94 (by first | exact Nat.le_of_ble_eq_true rfl | omega | (dsimp only [rm_X0_wear]; omega)) (by first | exact Nat.le_of_ble_eq_true rfl | omega | (dsimp only [rm_X0_wear]; omega)) trivial
    · skip
      refine lv_aload_n hx hb dX0_wear_47 rfl (lv_at hl 0 rfl) ?_
      refine jv_get (T := TX0) (N := 10) (v := .ref (a 4)) hx hb hts hn0 hown hK hW 0 rfl rfl 3 (by decide) (List.mem_of_getElem? (i := 2) rfl) rfl dX0_wear_48 ?_
      refine lv_iload_n hx hb dX0_wear_51 rfl (lv_at hl 1 rfl) ?_
      refine jv_bipush hx hb 9 dX0_wear_52 (by decide +kernel) ?_
      refine lv_aload_n hx hb dX0_wear_54 rfl (lv_at hl 0 rfl) ?_
      refine jv_get (T := TX0) (N := 10) (v := .ref (a 4)) hx hb hts hn0 hown hK hW 0 rfl rfl 3 (by decide) (List.mem_of_getElem? (i := 2) rfl) rfl dX0_wear_55 ?_
      refine lv_iload_n hx hb dX0_wear_58 rfl (lv_at hl 1 rfl) ?_
      refine jv_iald (g := (σ 2)) hx hb hK hW 4 rfl p rfl (by omega) (by decide) dX0_wear_59 ?_
      refine jv_iconst hx hb dX0_wear_60 ?_
      refine jv_iadd hx hb dX0_wear_61 ?_
      refine jv_min hx hb hown hml hl hts (List.mem_of_getElem? (i := 9) rfl) (List.mem_of_getElem? (i := 10) rfl) (List.mem_of_getElem? (i := 5) rfl) (List.mem_of_getElem? (i := 11) rfl) (Nat.le_of_ble_eq_true rfl) (Nat.le_of_ble_eq_true rfl) (by first | exact Nat.le_of_ble_eq_true rfl | omega) (by first | exact Nat.le_of_ble_eq_true rfl | omega) ⟨by omega, by omega⟩ ⟨by omega, by omega⟩ dX0_wear_62 ?_
      refine jv_iast (g := (σ 2)) (ws' := (WC κ a (up (up σ 1 p (max 0 (((σ 1 p) - 1) - ((σ 2 p) / 3)))) 2 p (min 9 ((σ 2 p) + 1))) br)) hx hb hK hW 4 rfl p rfl (by omega) (by decide) rfl dX0_wear_65 (fun H locs hW => ?_)
      refine lv_aload_n hx hb dX0_wear_66 rfl (lv_at hl 0 rfl) ?_
      refine jv_get (T := TX0) (N := 10) (v := .ref (a 4)) hx hb hts hn0 hown hK hW 0 rfl rfl 3 (by decide) (List.mem_of_getElem? (i := 2) rfl) rfl dX0_wear_67 ?_
      refine lv_iload_n hx hb dX0_wear_70 rfl (lv_at hl 1 rfl) ?_
      refine jv_iald (g := (upi (σ 2) p (min 9 ((σ 2 p) + 1)))) hx hb hK hW 4 rfl p rfl (by omega) (by decide) dX0_wear_71 ?_
      refine jv_eq (upi_s _ _ _) ?_
      refine jv_iconst hx hb dX0_wear_72 ?_
      refine jv_icmp_lt hx hb 94 dX0_wear_73 (by decide) ⟨by omega, by omega⟩ ⟨by omega, by omega⟩ (fun h_5 => ?_) (fun h_5 => ?_)
      · skip
        exact hret () (by rw [wear_tf (by omega) (by omega)]; exact hW) dX0_wear_94 (by first | exact Nat.le_of_ble_eq_true rfl | omega | (dsimp only [rm_X0_wear]; omega)) (by first | exact Nat.le_of_ble_eq_true rfl | omega | (dsimp only [rm_X0_wear]; omega)) trivial
      · skip
        refine lv_aload_n hx hb dX0_wear_76 rfl (lv_at hl 0 rfl) ?_
        refine jv_get (T := TX0) (N := 10) (v := .ref (a 2)) hx hb hts hn0 hown hK hW 0 rfl rfl 1 (by decide) (List.mem_of_getElem? (i := 7) rfl) rfl dX0_wear_77 ?_
        refine lv_iload_n hx hb dX0_wear_80 rfl (lv_at hl 1 rfl) ?_
        refine jv_iconst hx hb dX0_wear_81 ?_
        refine lv_aload_n hx hb dX0_wear_82 rfl (lv_at hl 0 rfl) ?_
        refine jv_get (T := TX0) (N := 10) (v := .ref (a 2)) hx hb hts hn0 hown hK hW 0 rfl rfl 1 (by decide) (List.mem_of_getElem? (i := 7) rfl) rfl dX0_wear_83 ?_
        refine lv_iload_n hx hb dX0_wear_86 rfl (lv_at hl 1 rfl) ?_
        refine jv_iald (g := (σ 0)) hx hb hK hW 2 rfl p rfl (by omega) (by decide) dX0_wear_87 ?_
        refine jv_iconst hx hb dX0_wear_88 ?_
        refine jv_isub hx hb dX0_wear_89 ?_
        refine jv_max hx hb hown hml hl hts (List.mem_of_getElem? (i := 3) rfl) (List.mem_of_getElem? (i := 4) rfl) (List.mem_of_getElem? (i := 5) rfl) (List.mem_of_getElem? (i := 6) rfl) (Nat.le_of_ble_eq_true rfl) (Nat.le_of_ble_eq_true rfl) (by first | exact Nat.le_of_ble_eq_true rfl | omega) (by first | exact Nat.le_of_ble_eq_true rfl | omega) ⟨by omega, by omega⟩ ⟨by omega, by omega⟩ dX0_wear_90 ?_
        refine jv_iast (g := (σ 0)) (ws' := (WC κ a (up (up (up σ 1 p (max 0 (((σ 1 p) - 1) - ((σ 2 p) / 3)))) 2 p (min 9 ((σ 2 p) + 1))) 0 p (max 0 ((σ 0 p) - 1))) br)) hx hb hK hW 2 rfl p rfl (by omega) (by decide) rfl dX0_wear_93 (fun H locs hW => ?_)
        exact hret () (by rw [wear_tt (by omega) (by omega)]; exact hW) dX0_wear_94 (by first | exact Nat.le_of_ble_eq_true rfl | omega | (dsimp only [rm_X0_wear]; omega)) (by first | exact Nat.le_of_ble_eq_true rfl | omega | (dsimp only [rm_X0_wear]; omega)) trivial

abbrev rm_X0_passBeat : Room := { frames := 5, cells := 0, slots := 0, locals := 108 }
set_option maxHeartbeats 4000000 in
set_option maxRecDepth 100000 in
/-- passBeat -/
theorem m_X0_passBeat (l : Launch) (κ : Kp) (a : Nat → Nat) (σ : Sg) (br : Nat → Int) (hI : Inv σ) (hB : σ 5 0 ≤ 1000000000) : CGv l yX0_passBeat wsX0_passBeat rm_X0_passBeat κ [.ref (a 0)] (WC κ a σ br) (fun (_ : Unit) => True) (fun (_ : Unit) => WC κ a (pb σ) br) := by
  refine entry_v (by decide) rfl (Nat.le_of_ble_eq_true rfl) ?_
  intro P e s m args below meth c ls A Q F hname hK hA hret hW hl
  obtain ⟨hx, hb, hml, hown, hts⟩ := id F
  have hn0 : ∀ w ∈ wsX00, w ∈ wsX0_passBeat := by decide +kernel
  have hN := hI.hN
  have hN10 := hI.n10
  have hbt := hI.2.1
  have hcd := hI.2.2.1
  have hca := hI.2.2.2.1
  have hcr := ccl_rng hN10
  refine lv_aload_n hx hb dX0_passBeat_0 rfl (lv_at hl 0 rfl) ?_
  refine jv_get (T := TX0) (N := 10) (v := .int (J (σ 5 2))) hx hb hts hn0 hown hK hW 0 rfl rfl 9 (by decide) (List.mem_of_getElem? (i := 1) rfl) rfl dX0_passBeat_1 ?_
  have j24 : ∀ (H : Heap) (locs : List Loc) (ls : Array Slot), St κ A s.heap H locs (WC κ a (up σ 5 1 (σ 5 1 + bi (cadb σ))) br) → lv_has ls 2 [(0, .ref (a 0))] → W P l e rm_X0_passBeat s m args below meth c H locs 0 0 Q (F0 m 24 ls []) := by
    intro H locs ls hW hl
    have hI1 : Inv (up σ 5 1 (σ 5 1 + bi (cadb σ))) := hI.u51 (by have := bi_rng (cadb σ); omega)
    refine lv_aload_n hx hb dX0_passBeat_24 rfl (lv_at hl 0 rfl) ?_
    refine lv_aload_n hx hb dX0_passBeat_25 rfl (lv_at hl 0 rfl) ?_
    refine fin_i (k := 0) (n := 0) (W2 := (fun _ => (WC κ a (up σ 5 1 (σ 5 1 + bi (cadb σ))) br))) [0, 1, 2, 3, 4, 5, 6] [] [0, 1, 2, 3, 4, 5, 6] hW hA (va_runV (As := []) (rest := [.ref (a 0)]) F ((m_X0_countClashes l κ a (up σ 5 1 (σ 5 1 + bi (cadb σ))) br  hI1) _) (cwV 0 hts gX0_passBeat_X0_countClashes rfl rfl rfl (by decide +kernel) ⟨(Nat.le_of_ble_eq_true rfl), (Nat.le_of_ble_eq_true rfl)⟩) (pre_V hK hW [0, 1, 2, 3, 4, 5, 6] rfl (by decide) 0 0 rfl rfl) rfl rfl hl.1 rfl (lv_room (Nat.le_of_ble_eq_true rfl)) dX0_passBeat_26 ⟨(by first | exact Nat.le_of_ble_eq_true rfl | omega | (dsimp only [rm_X0_passBeat, rm_X0_countClashes]; omega)), (by first | exact Nat.le_of_ble_eq_true rfl | omega | (dsimp only [rm_X0_passBeat, rm_X0_countClashes]; omega))⟩) rfl rfl rfl (by decide) rfl (fun _ => rfl) (by first | exact Nat.le_of_ble_eq_true rfl | omega | (dsimp only [rm_X0_passBeat, rm_X0_countClashes]; omega)) (by first | exact Nat.le_of_ble_eq_true rfl | omega | (dsimp only [rm_X0_passBeat, rm_X0_countClashes]; omega)) (fun r_2 u H locs hp_1 hW => ?_)
    subst hp_1
    refine jv_eq (y := ccl σ) (rfl) ?_
    have j37 : ∀ (H : Heap) (locs : List Loc) (ls : Array Slot), St κ A s.heap H locs (WC κ a (up σ 5 1 (σ 5 1 + bi (cadb σ))) br) → lv_has ls 2 [(0, .ref (a 0))] → W P l e rm_X0_passBeat s m args below meth c H locs 0 0 Q (F0 m 37 ls [.int (J (bi (decide (0 < ccl σ)))), .ref (a 0)]) := by
      intro H locs ls hW hl
      refine jv_put (T := TX0) (N := 10) (ws' := (WC κ a (up (up σ 5 1 (σ 5 1 + bi (cadb σ))) 5 2 (bi (decide (0 < ccl σ)))) br)) hx hb hts hn0 tyX0 tyX0_ok nmX0 hown hK hW 0 rfl rfl 9 (by decide) (List.mem_of_getElem? (i := 1) rfl) rfl (by first | exact zr_01 (Or.inl rfl) | exact zr_01 (Or.inr rfl) | exact zr_b _ | exact zr_01 (by omega)) (by first | rfl | exact zf_b _ | exact zf_01 (by omega)) (Nat.le_of_ble_eq_true rfl) rfl dX0_passBeat_37 (fun H locs hW => ?_)
      refine jv_iconst hx hb dX0_passBeat_40 ?_
      refine lv_istore_n (lv' := [(1, .int (J 0)), (0, .ref (a 0))]) hx hb dX0_passBeat_41 rfl hl (by decide) rfl (fun ls hl => ?_)
      suffices hlp : ∀ (n i : Nat), i ≤ (nn σ) → (nn σ) < i + n → ∀ (H : Heap) (locs : List Loc) (ls : Array Slot), St κ A s.heap H locs (WC κ a (lp (pb0 σ) i) br) → lv_has ls 2 [(1, .int (J (i : Int))), (0, .ref (a 0))] → W P l e rm_X0_passBeat s m args below meth c H locs 0 0 Q (F0 m 42 ls []) from
        hlp ((nn σ) + 1) 0 (Nat.zero_le _) (by omega)  _ _ _  hW hl
      intro n
      induction n with
      | zero => intro i h1 h2; exact absurd h2 (by omega)
      | succ n ih =>
        intro i hi hn  H locs ls  hW hl
        have hIi : Inv (lp (pb0 σ) i) := hI.hpb0.hlp (by omega)
        have h5 : (lp (pb0 σ) i) 5 0 = σ 5 0 := by rw [lp_5]; rfl
        have h53 : (lp (pb0 σ) i) 5 3 = σ 5 3 := by rw [lp_5]; rfl
        refine lv_iload_n hx hb dX0_passBeat_42 rfl (lv_at hl 0 rfl) ?_
        refine lv_aload_n hx hb dX0_passBeat_43 rfl (lv_at hl 1 rfl) ?_
        refine jv_get (T := TX0) (N := 10) (v := .int (J ((lp (pb0 σ) i) 5 3))) hx hb hts hn0 hown hK hW 0 rfl rfl 6 (by decide) (List.mem_of_getElem? (i := 3) rfl) rfl dX0_passBeat_44 ?_
        refine jv_icmp_ge hx hb 108 dX0_passBeat_47 (by decide) ⟨by omega, by omega⟩ ⟨by omega, by omega⟩ (fun h_3 => ?_) (fun h_3 => ?_)
        · skip
          refine lv_aload_n hx hb dX0_passBeat_108 rfl (lv_at hl 1 rfl) ?_
          refine lv_dup hx hb dX0_passBeat_109 rfl ?_
          refine jv_get (T := TX0) (N := 10) (v := .int (J ((lp (pb0 σ) i) 5 0))) hx hb hts hn0 hown hK hW 0 rfl rfl 7 (by decide) (List.mem_of_getElem? (i := 5) rfl) rfl dX0_passBeat_110 ?_
          refine jv_iconst hx hb dX0_passBeat_113 ?_
          refine jv_iadd hx hb dX0_passBeat_114 ?_
          refine jv_put (T := TX0) (N := 10) (ws' := (WC κ a (up (lp (pb0 σ) i) 5 0 (((lp (pb0 σ) i) 5 0) + 1)) br)) hx hb hts hn0 tyX0 tyX0_ok nmX0 hown hK hW 0 rfl rfl 7 (by decide) (List.mem_of_getElem? (i := 5) rfl) rfl rfl rfl (Nat.le_of_ble_eq_true rfl) rfl dX0_passBeat_115 (fun H locs hW => ?_)
          exact hret () (by rw [show i = nn σ by omega] at hW; rw [pb_eq]; exact hW) dX0_passBeat_118 (by first | exact Nat.le_of_ble_eq_true rfl | omega | (dsimp only [rm_X0_passBeat]; omega)) (by first | exact Nat.le_of_ble_eq_true rfl | omega | (dsimp only [rm_X0_passBeat]; omega)) trivial
        · skip
          have hbi := hIi.at i (by omega)
          refine lv_aload_n hx hb dX0_passBeat_50 rfl (lv_at hl 1 rfl) ?_
          refine lv_iload_n hx hb dX0_passBeat_51 rfl (lv_at hl 0 rfl) ?_
          refine fin_i (k := 0) (n := 0) (W2 := (fun _ => (WC κ a (lp (pb0 σ) i) br))) [0, 1, 2, 3, 4, 5, 6] [] [0, 1, 2, 3, 4, 5, 6] hW hA (va_runV (As := [.int (J (i : Int))]) (rest := []) F ((m_X0_isSounding l κ a (lp (pb0 σ) i) br i (by omega) hIi) _) (cwV 1 hts gX0_passBeat_X0_isSounding rfl rfl rfl (by decide +kernel) ⟨(Nat.le_of_ble_eq_true rfl), (Nat.le_of_ble_eq_true rfl)⟩) (pre_V hK hW [0, 1, 2, 3, 4, 5, 6] rfl (by decide) 0 0 rfl rfl) rfl rfl hl.1 rfl (lv_room (Nat.le_of_ble_eq_true rfl)) dX0_passBeat_52 ⟨(by first | exact Nat.le_of_ble_eq_true rfl | omega | (dsimp only [rm_X0_passBeat, rm_X0_isSounding]; omega)), (by first | exact Nat.le_of_ble_eq_true rfl | omega | (dsimp only [rm_X0_passBeat, rm_X0_isSounding]; omega))⟩) rfl rfl rfl (by decide) rfl (fun _ => rfl) (by first | exact Nat.le_of_ble_eq_true rfl | omega | (dsimp only [rm_X0_passBeat, rm_X0_isSounding]; omega)) (by first | exact Nat.le_of_ble_eq_true rfl | omega | (dsimp only [rm_X0_passBeat, rm_X0_isSounding]; omega)) (fun r_5 u H locs hp_4 hW => ?_)
          subst hp_4
          refine jv_ifb_eq (b := (sn (lp (pb0 σ) i) i)) hx hb 66 dX0_passBeat_55 (by decide) (fun h_6 => ?_) (fun h_6 => ?_)
          · skip
            refine lv_aload_n hx hb dX0_passBeat_66 rfl (lv_at hl 1 rfl) ?_
            refine jv_get (T := TX0) (N := 10) (v := .ref (a 5)) hx hb hts hn0 hown hK hW 0 rfl rfl 4 (by decide) (List.mem_of_getElem? (i := 4) rfl) rfl dX0_passBeat_67 ?_
            refine lv_iload_n hx hb dX0_passBeat_70 rfl (lv_at hl 0 rfl) ?_
            refine jv_zald (g := ((lp (pb0 σ) i) 3)) hx hb hK hW 5 rfl i rfl (by omega) (by decide) dX0_passBeat_71 ?_
            refine jv_if_eq hx hb 102 dX0_passBeat_72 (by decide) ⟨by omega, by omega⟩ (fun h_7 => ?_) (fun h_7 => ?_)
            · skip
              refine jv_iinc (k := 0) (z := (i : Int)) (lv' := [(1, .int (J ((i : Int) + 1))), (0, .ref (a 0))]) hx hb dX0_passBeat_102 hl rfl (by decide) rfl (fun ls hl => ?_)
              refine lv_goto (tgt := 42) hx hb dX0_passBeat_105 (by decide) ?_
              exact ih (i + 1) (by omega) (by omega)  _ _ _  (by rw [lp_no h_6 (fun h => by omega)]; exact hW) hl
            · skip
              refine lv_aload_n hx hb dX0_passBeat_75 rfl (lv_at hl 1 rfl) ?_
              refine jv_get (T := TX0) (N := 10) (v := .int (J ((lp (pb0 σ) i) 5 0))) hx hb hts hn0 hown hK hW 0 rfl rfl 7 (by decide) (List.mem_of_getElem? (i := 5) rfl) rfl dX0_passBeat_76 ?_
              refine jv_iconst hx hb dX0_passBeat_79 ?_
              refine jv_irem hx hb dX0_passBeat_80 (by omega) ?_
              refine jv_if_ne hx hb 102 dX0_passBeat_81 (by decide) ⟨by omega, by omega⟩ (fun h_8 => ?_) (fun h_8 => ?_)
              · skip
                refine jv_iinc (k := 0) (z := (i : Int)) (lv' := [(1, .int (J ((i : Int) + 1))), (0, .ref (a 0))]) hx hb dX0_passBeat_102 hl rfl (by decide) rfl (fun ls hl => ?_)
                refine lv_goto (tgt := 42) hx hb dX0_passBeat_105 (by decide) ?_
                exact ih (i + 1) (by omega) (by omega)  _ _ _  (by rw [lp_no h_6 (fun h => by omega)]; exact hW) hl
              · skip
                refine lv_aload_n hx hb dX0_passBeat_84 rfl (lv_at hl 1 rfl) ?_
                refine jv_get (T := TX0) (N := 10) (v := .ref (a 4)) hx hb hts hn0 hown hK hW 0 rfl rfl 3 (by decide) (List.mem_of_getElem? (i := 6) rfl) rfl dX0_passBeat_85 ?_
                refine lv_iload_n hx hb dX0_passBeat_88 rfl (lv_at hl 0 rfl) ?_
                refine jv_iconst hx hb dX0_passBeat_89 ?_
                refine lv_aload_n hx hb dX0_passBeat_90 rfl (lv_at hl 1 rfl) ?_
                refine jv_get (T := TX0) (N := 10) (v := .ref (a 4)) hx hb hts hn0 hown hK hW 0 rfl rfl 3 (by decide) (List.mem_of_getElem? (i := 6) rfl) rfl dX0_passBeat_91 ?_
                refine lv_iload_n hx hb dX0_passBeat_94 rfl (lv_at hl 0 rfl) ?_
                refine jv_iald (g := ((lp (pb0 σ) i) 2)) hx hb hK hW 4 rfl i rfl (by omega) (by decide) dX0_passBeat_95 ?_
                refine jv_iconst hx hb dX0_passBeat_96 ?_
                refine jv_isub hx hb dX0_passBeat_97 ?_
                refine jv_max hx hb hown hml hl hts (List.mem_of_getElem? (i := 7) rfl) (List.mem_of_getElem? (i := 8) rfl) (List.mem_of_getElem? (i := 9) rfl) (List.mem_of_getElem? (i := 10) rfl) (Nat.le_of_ble_eq_true rfl) (Nat.le_of_ble_eq_true rfl) (by first | exact Nat.le_of_ble_eq_true rfl | omega) (by first | exact Nat.le_of_ble_eq_true rfl | omega) ⟨by omega, by omega⟩ ⟨by omega, by omega⟩ dX0_passBeat_98 ?_
                refine jv_iast (g := ((lp (pb0 σ) i) 2)) (ws' := (WC κ a (up (lp (pb0 σ) i) 2 i (max 0 ((((lp (pb0 σ) i) 2) i) - 1))) br)) hx hb hK hW 4 rfl i rfl (by omega) (by decide) rfl dX0_passBeat_101 (fun H locs hW => ?_)
                refine jv_iinc (k := 0) (z := (i : Int)) (lv' := [(1, .int (J ((i : Int) + 1))), (0, .ref (a 0))]) hx hb dX0_passBeat_102 hl rfl (by decide) rfl (fun ls hl => ?_)
                refine lv_goto (tgt := 42) hx hb dX0_passBeat_105 (by decide) ?_
                exact ih (i + 1) (by omega) (by omega)  _ _ _  (by rw [lp_co h_6 (by omega) (by omega)]; exact hW) hl
          · skip
            refine lv_aload_n hx hb dX0_passBeat_58 rfl (lv_at hl 1 rfl) ?_
            refine lv_iload_n hx hb dX0_passBeat_59 rfl (lv_at hl 0 rfl) ?_
            refine fin_v (k := 0) (n := 0) (W2 := (fun _ => (WC κ a (wear (lp (pb0 σ) i) i) br))) [0, 1, 2, 3, 4, 5, 6] [] [0, 1, 2, 3, 4, 5, 6] hW hA (va_runV (As := [.int (J (i : Int))]) (rest := []) F ((m_X0_wear l κ a (lp (pb0 σ) i) br i (by omega) hIi (by rw [h5]; exact hB)) _) (cwV 1 hts gX0_passBeat_X0_wear rfl rfl rfl (by decide +kernel) ⟨(Nat.le_of_ble_eq_true rfl), (Nat.le_of_ble_eq_true rfl)⟩) (pre_V hK hW [0, 1, 2, 3, 4, 5, 6] rfl (by decide) 0 0 rfl rfl) rfl rfl hl.1 rfl (lv_room (Nat.le_of_ble_eq_true rfl)) dX0_passBeat_60 ⟨(by first | exact Nat.le_of_ble_eq_true rfl | omega | (dsimp only [rm_X0_passBeat, rm_X0_wear]; omega)), (by first | exact Nat.le_of_ble_eq_true rfl | omega | (dsimp only [rm_X0_passBeat, rm_X0_wear]; omega))⟩) rfl rfl rfl (by decide) rfl (fun _ => rfl) (by first | exact Nat.le_of_ble_eq_true rfl | omega | (dsimp only [rm_X0_passBeat, rm_X0_wear]; omega)) (by first | exact Nat.le_of_ble_eq_true rfl | omega | (dsimp only [rm_X0_passBeat, rm_X0_wear]; omega)) (fun u H locs hp_9 hW => ?_)
            refine lv_goto (tgt := 102) hx hb dX0_passBeat_63 (by decide) ?_
            refine jv_iinc (k := 0) (z := (i : Int)) (lv' := [(1, .int (J ((i : Int) + 1))), (0, .ref (a 0))]) hx hb dX0_passBeat_102 hl rfl (by decide) rfl (fun ls hl => ?_)
            refine lv_goto (tgt := 42) hx hb dX0_passBeat_105 (by decide) ?_
            exact ih (i + 1) (by omega) (by omega)  _ _ _  (by rw [lp_sn h_6]; exact hW) hl
    refine jv_if_le hx hb 36 dX0_passBeat_29 (by decide) ⟨by omega, by omega⟩ (fun h_10 => ?_) (fun h_10 => ?_)
    · skip
      refine jv_iconst hx hb dX0_passBeat_36 ?_
      refine jv_eq (y := bi (decide (0 < ccl σ))) (by rw [decide_eq_false (by omega)]; rfl) ?_
      exact j37 _ _ _ hW hl
    · skip
      refine jv_iconst hx hb dX0_passBeat_32 ?_
      refine lv_goto (tgt := 37) hx hb dX0_passBeat_33 (by decide) ?_
      refine jv_eq (y := bi (decide (0 < ccl σ))) (by rw [decide_eq_true (by omega)]; rfl) ?_
      exact j37 _ _ _ hW hl
  refine jv_if_eq hx hb 24 dX0_passBeat_4 (by decide) ⟨by omega, by omega⟩ (fun h_11 => ?_) (fun h_11 => ?_)
  · skip
    exact j24 _ _ _ (by rw [show cadb σ = false from by unfold cadb; rw [decide_eq_false (by omega)]; rfl, show up σ 5 1 (σ 5 1 + bi false) = σ from up_same (by show σ 5 1 + 0 = σ 5 1; omega)]; exact hW) hl
  · skip
    refine lv_aload_n hx hb dX0_passBeat_7 rfl (lv_at hl 0 rfl) ?_
    refine fin_i (k := 0) (n := 0) (W2 := (fun _ => (WC κ a σ br))) [0, 1, 2, 3, 4, 5, 6] [] [0, 1, 2, 3, 4, 5, 6] hW hA (va_runV (As := []) (rest := []) F ((m_X0_isChordClear l κ a σ br  hI) _) (cwV 0 hts gX0_passBeat_X0_isChordClear rfl rfl rfl (by decide +kernel) ⟨(Nat.le_of_ble_eq_true rfl), (Nat.le_of_ble_eq_true rfl)⟩) (pre_V hK hW [0, 1, 2, 3, 4, 5, 6] rfl (by decide) 0 0 rfl rfl) rfl rfl hl.1 rfl (lv_room (Nat.le_of_ble_eq_true rfl)) dX0_passBeat_8 ⟨(by first | exact Nat.le_of_ble_eq_true rfl | omega | (dsimp only [rm_X0_passBeat, rm_X0_isChordClear]; omega)), (by first | exact Nat.le_of_ble_eq_true rfl | omega | (dsimp only [rm_X0_passBeat, rm_X0_isChordClear]; omega))⟩) rfl rfl rfl (by decide) rfl (fun _ => rfl) (by first | exact Nat.le_of_ble_eq_true rfl | omega | (dsimp only [rm_X0_passBeat, rm_X0_isChordClear]; omega)) (by first | exact Nat.le_of_ble_eq_true rfl | omega | (dsimp only [rm_X0_passBeat, rm_X0_isChordClear]; omega)) (fun r_13 u H locs hp_12 hW => ?_)
    subst hp_12
    refine jv_ifb_eq (b := (ic σ)) hx hb 24 dX0_passBeat_11 (by decide) (fun h_14 => ?_) (fun h_14 => ?_)
    · skip
      exact j24 _ _ _ (by rw [show cadb σ = false from by unfold cadb; rw [h_14]; exact Bool.and_false _, show up σ 5 1 (σ 5 1 + bi false) = σ from up_same (by show σ 5 1 + 0 = σ 5 1; omega)]; exact hW) hl
    · skip
      refine lv_aload_n hx hb dX0_passBeat_14 rfl (lv_at hl 0 rfl) ?_
      refine lv_dup hx hb dX0_passBeat_15 rfl ?_
      refine jv_get (T := TX0) (N := 10) (v := .int (J (σ 5 1))) hx hb hts hn0 hown hK hW 0 rfl rfl 8 (by decide) (List.mem_of_getElem? (i := 2) rfl) rfl dX0_passBeat_16 ?_
      refine jv_iconst hx hb dX0_passBeat_19 ?_
      refine jv_iadd hx hb dX0_passBeat_20 ?_
      refine jv_put (T := TX0) (N := 10) (ws' := (WC κ a (up σ 5 1 ((σ 5 1) + 1)) br)) hx hb hts hn0 tyX0 tyX0_ok nmX0 hown hK hW 0 rfl rfl 8 (by decide) (List.mem_of_getElem? (i := 2) rfl) rfl rfl rfl (Nat.le_of_ble_eq_true rfl) rfl dX0_passBeat_21 (fun H locs hW => ?_)
      exact j24 _ _ _ (by rw [show cadb σ = true by unfold cadb; rw [h_14, decide_eq_true (by omega)]; rfl]; exact hW) hl

abbrev rm_X0_passBeats : Room := { frames := 6, cells := 0, slots := 0, locals := 129 }
set_option maxHeartbeats 4000000 in
set_option maxRecDepth 100000 in
/-- passBeats -/
theorem m_X0_passBeats (l : Launch) (κ : Kp) (a : Nat → Nat) (σ : Sg) (br : Nat → Int) (k : Nat) (hk : k ≤ 60) (hI : Inv σ) (hB : σ 5 0 ≤ 100000000) : CGv l yX0_passBeats wsX0_passBeats rm_X0_passBeats κ [.ref (a 0), .int (J (k : Int))] (WC κ a σ br) (fun (_ : Unit) => True) (fun (_ : Unit) => WC κ a (pbn σ k) br) := by
  refine entry_v (by decide) rfl (Nat.le_of_ble_eq_true rfl) ?_
  intro P e s m args below meth c ls A Q F hname hK hA hret hW hl
  obtain ⟨hx, hb, hml, hown, hts⟩ := id F
  refine jv_iconst hx hb dX0_passBeats_0 ?_
  refine lv_istore_n (lv' := [(2, .int (J 0)), (0, .ref (a 0)), (1, .int (J (k : Int)))]) hx hb dX0_passBeats_1 rfl hl (by decide) rfl (fun ls hl => ?_)
  suffices hlp : ∀ (n i : Nat), i ≤ k → k < i + n → ∀ (H : Heap) (locs : List Loc) (ls : Array Slot), St κ A s.heap H locs (WC κ a (pbn σ i) br) → lv_has ls 3 [(2, .int (J (i : Int))), (0, .ref (a 0)), (1, .int (J (k : Int)))] → W P l e rm_X0_passBeats s m args below meth c H locs 0 0 Q (F0 m 2 ls []) from
    hlp (k + 1) 0 (Nat.zero_le _) (by omega)  _ _ _  hW hl
  intro n
  induction n with
  | zero => intro i h1 h2; exact absurd h2 (by omega)
  | succ n ih =>
    intro i hi hn  H locs ls  hW hl
    have hIi := hI.hpbn i
    have h5 := pbn_50 σ i
    refine lv_iload_n hx hb dX0_passBeats_2 rfl (lv_at hl 0 rfl) ?_
    refine lv_iload_n hx hb dX0_passBeats_3 rfl (lv_at hl 2 rfl) ?_
    refine jv_icmp_ge hx hb 17 dX0_passBeats_4 (by decide) ⟨by omega, by omega⟩ ⟨by omega, by omega⟩ (fun h_1 => ?_) (fun h_1 => ?_)
    · skip
      exact hret () (by rw [show i = k by omega] at hW; exact hW) dX0_passBeats_17 (by first | exact Nat.le_of_ble_eq_true rfl | omega | (dsimp only [rm_X0_passBeats]; omega)) (by first | exact Nat.le_of_ble_eq_true rfl | omega | (dsimp only [rm_X0_passBeats]; omega)) trivial
    · skip
      refine lv_aload_n hx hb dX0_passBeats_7 rfl (lv_at hl 1 rfl) ?_
      refine fin_v (k := 0) (n := 0) (W2 := (fun _ => (WC κ a (pb (pbn σ i)) br))) [0, 1, 2, 3, 4, 5, 6] [] [0, 1, 2, 3, 4, 5, 6] hW hA (va_runV (As := []) (rest := []) F ((m_X0_passBeat l κ a (pbn σ i) br  hIi (by omega)) _) (cwV 0 hts gX0_passBeats_X0_passBeat rfl rfl rfl (by decide +kernel) ⟨(Nat.le_of_ble_eq_true rfl), (Nat.le_of_ble_eq_true rfl)⟩) (pre_V hK hW [0, 1, 2, 3, 4, 5, 6] rfl (by decide) 0 0 rfl rfl) rfl rfl hl.1 rfl (lv_room (Nat.le_of_ble_eq_true rfl)) dX0_passBeats_8 ⟨(by first | exact Nat.le_of_ble_eq_true rfl | omega | (dsimp only [rm_X0_passBeats, rm_X0_passBeat]; omega)), (by first | exact Nat.le_of_ble_eq_true rfl | omega | (dsimp only [rm_X0_passBeats, rm_X0_passBeat]; omega))⟩) rfl rfl rfl (by decide) rfl (fun _ => rfl) (by first | exact Nat.le_of_ble_eq_true rfl | omega | (dsimp only [rm_X0_passBeats, rm_X0_passBeat]; omega)) (by first | exact Nat.le_of_ble_eq_true rfl | omega | (dsimp only [rm_X0_passBeats, rm_X0_passBeat]; omega)) (fun u H locs hp_2 hW => ?_)
      refine jv_iinc (k := 0) (z := (i : Int)) (lv' := [(2, .int (J ((i : Int) + 1))), (0, .ref (a 0)), (1, .int (J (k : Int)))]) hx hb dX0_passBeats_11 hl rfl (by decide) rfl (fun ls hl => ?_)
      refine lv_goto (tgt := 2) hx hb dX0_passBeats_14 (by decide) ?_
      exact ih (i + 1) (by omega) (by omega)  _ _ _  hW hl

abbrev rm_X0_admit : Room := { frames := 0, cells := 0, slots := 0, locals := 0 }
set_option maxHeartbeats 4000000 in
set_option maxRecDepth 100000 in
/-- one more pot -/
theorem m_X0_admit (l : Launch) (κ : Kp) (a : Nat → Nat) (σ : Sg) (br : Nat → Int) (x y z : Int) (hn : σ 5 3 < 10) (hI : Inv σ) : CGi l yX0_admit wsX0_admit rm_X0_admit κ [.ref (a 0), .int (J x), .int (J y), .int (J z)] (WC κ a σ br) (fun r _ => r = J (σ 5 3)) (fun (_ : Unit) => WC κ a (up (up (up (up σ 4 (σ 5 3).toNat x) 0 (σ 5 3).toNat y) 1 (σ 5 3).toNat z) 5 3 (σ 5 3 + 1)) br) := by
  refine entry_i (by decide) rfl (Nat.le_of_ble_eq_true rfl) ?_
  intro P e s m args below meth c ls A Q F hname hK hA hret hW hl
  obtain ⟨hx, hb, hml, hown, hts⟩ := id F
  have hn0 : ∀ w ∈ wsX00, w ∈ wsX0_admit := by decide +kernel
  have hnn := hI.1
  refine lv_aload_n hx hb dX0_admit_0 rfl (lv_at hl 0 rfl) ?_
  refine jv_get (T := TX0) (N := 10) (v := .int (J (σ 5 3))) hx hb hts hn0 hown hK hW 0 rfl rfl 6 (by decide) (List.mem_of_getElem? (i := 1) rfl) rfl dX0_admit_1 ?_
  refine lv_istore (lv' := [(4, .int (J (σ 5 3))), (0, .ref (a 0)), (1, .int (J x)), (2, .int (J y)), (3, .int (J z))]) hx hb dX0_admit_4 hl (by decide) rfl (fun ls hl => ?_)
  refine lv_aload_n hx hb dX0_admit_6 rfl (lv_at hl 1 rfl) ?_
  refine jv_get (T := TX0) (N := 10) (v := .ref (a 1)) hx hb hts hn0 hown hK hW 0 rfl rfl 0 (by decide) (List.mem_of_getElem? (i := 2) rfl) rfl dX0_admit_7 ?_
  refine lv_iload hx hb dX0_admit_10 (lv_at hl 0 rfl) ?_
  refine lv_iload_n hx hb dX0_admit_12 rfl (lv_at hl 2 rfl) ?_
  refine jv_iast (g := (σ 4)) (ws' := (WC κ a (up σ 4 ((σ 5 3).toNat) x) br)) hx hb hK hW 1 rfl ((σ 5 3).toNat) (by omega) (by omega) (by decide) rfl dX0_admit_13 (fun H locs hW => ?_)
  refine lv_aload_n hx hb dX0_admit_14 rfl (lv_at hl 1 rfl) ?_
  refine jv_get (T := TX0) (N := 10) (v := .ref (a 2)) hx hb hts hn0 hown hK hW 0 rfl rfl 1 (by decide) (List.mem_of_getElem? (i := 3) rfl) rfl dX0_admit_15 ?_
  refine lv_iload hx hb dX0_admit_18 (lv_at hl 0 rfl) ?_
  refine lv_iload_n hx hb dX0_admit_20 rfl (lv_at hl 3 rfl) ?_
  refine jv_iast (g := (σ 0)) (ws' := (WC κ a (up (up σ 4 ((σ 5 3).toNat) x) 0 ((σ 5 3).toNat) y) br)) hx hb hK hW 2 rfl ((σ 5 3).toNat) (by omega) (by omega) (by decide) rfl dX0_admit_21 (fun H locs hW => ?_)
  refine lv_aload_n hx hb dX0_admit_22 rfl (lv_at hl 1 rfl) ?_
  refine jv_get (T := TX0) (N := 10) (v := .ref (a 3)) hx hb hts hn0 hown hK hW 0 rfl rfl 2 (by decide) (List.mem_of_getElem? (i := 4) rfl) rfl dX0_admit_23 ?_
  refine lv_iload hx hb dX0_admit_26 (lv_at hl 0 rfl) ?_
  refine lv_iload_n hx hb dX0_admit_28 rfl (lv_at hl 4 rfl) ?_
  refine jv_iast (g := (σ 1)) (ws' := (WC κ a (up (up (up σ 4 ((σ 5 3).toNat) x) 0 ((σ 5 3).toNat) y) 1 ((σ 5 3).toNat) z) br)) hx hb hK hW 3 rfl ((σ 5 3).toNat) (by omega) (by omega) (by decide) rfl dX0_admit_29 (fun H locs hW => ?_)
  refine lv_aload_n hx hb dX0_admit_30 rfl (lv_at hl 1 rfl) ?_
  refine lv_dup hx hb dX0_admit_31 rfl ?_
  refine jv_get (T := TX0) (N := 10) (v := .int (J (σ 5 3))) hx hb hts hn0 hown hK hW 0 rfl rfl 6 (by decide) (List.mem_of_getElem? (i := 1) rfl) rfl dX0_admit_32 ?_
  refine jv_iconst hx hb dX0_admit_35 ?_
  refine jv_iadd hx hb dX0_admit_36 ?_
  refine jv_put (T := TX0) (N := 10) (ws' := (WC κ a (up (up (up (up σ 4 ((σ 5 3).toNat) x) 0 ((σ 5 3).toNat) y) 1 ((σ 5 3).toNat) z) 5 3 ((σ 5 3) + 1)) br)) hx hb hts hn0 tyX0 tyX0_ok nmX0 hown hK hW 0 rfl rfl 6 (by decide) (List.mem_of_getElem? (i := 1) rfl) rfl rfl rfl (Nat.le_of_ble_eq_true rfl) rfl dX0_admit_37 (fun H locs hW => ?_)
  refine lv_iload hx hb dX0_admit_40 (lv_at hl 0 rfl) ?_
  exact hret () hW dX0_admit_42 (by first | exact Nat.le_of_ble_eq_true rfl | omega | (dsimp only [rm_X0_admit]; omega)) (by first | exact Nat.le_of_ble_eq_true rfl | omega | (dsimp only [rm_X0_admit]; omega)) rfl

/-- the rows of one state, the first i of each another's -/
def bl (σ τ : Sg) (i : Nat) : Sg := fun f => if f < 5 then (fun k => if k < i then σ f k else τ f k) else τ f
theorem bl_0 (σ τ : Sg) : bl σ τ 0 = τ := by
  funext f k
  unfold bl
  by_cases h : f < 5
  · rw [if_pos h]; exact if_neg (Nat.not_lt_zero k)
  · rw [if_neg h]
theorem bl_at {σ τ : Sg} {i f k : Nat} (hf : f < 5) (hk : k < i) : bl σ τ i f k = σ f k := by
  unfold bl
  rw [if_pos hf]
  exact if_pos hk
theorem bl_succ (σ τ : Sg) (i : Nat) : bl σ τ (i + 1) = up (up (up (up (up (bl σ τ i) 4 i (σ 4 i)) 0 i (σ 0 i)) 1 i (σ 1 i)) 2 i (σ 2 i)) 3 i (σ 3 i) := by
  have hr : ∀ f, f < 5 → bl σ τ (i + 1) f = upi (bl σ τ i f) i (σ f i) := fun f hf => by
    funext k
    unfold bl
    rw [if_pos hf, if_pos hf]
    show (if k < i + 1 then σ f k else τ f k) = if k = i then σ f i else (if k < i then σ f k else τ f k)
    rcases Nat.lt_trichotomy k i with h | h | h
    · rw [if_pos (by omega), if_neg (by omega), if_pos h]
    · subst h; rw [if_pos (by omega), if_pos rfl]
    · rw [if_neg (by omega), if_neg (by omega), if_neg (by omega)]
  funext f
  match f with
  | 0 => exact hr 0 (by decide)
  | 1 => exact hr 1 (by decide)
  | 2 => exact hr 2 (by decide)
  | 3 => exact hr 3 (by decide)
  | 4 => exact hr 4 (by decide)
  | f + 5 => 
    have h : ∀ j, bl σ τ j (f + 5) = τ (f + 5) := fun j => if_neg (by omega)
    have hn : ∀ g, g < 5 → f + 5 ≠ g := fun g hg => by omega
    rw [h, up_n _ _ _ (hn 3 (by decide)), up_n _ _ _ (hn 2 (by decide)), up_n _ _ _ (hn 1 (by decide)), up_n _ _ _ (hn 0 (by decide)), up_n _ _ _ (hn 4 (by decide)), h]
theorem bl_end {κ : Kp} {A : Nat → Prop} {H0 H : Heap} {locs : List Loc} {a a2 : Nat → Nat} {σ τ : Sg} {bt br : Nat → Int} (hW : St κ A H0 H locs (WC κ a (up (up (up (up (bl σ τ 10) 5 3 (σ 5 3)) 5 0 (σ 5 0)) 5 1 (σ 5 1)) 5 2 (σ 5 2)) bt ++ WC κ a2 σ br)) : St κ A H0 H locs (WC κ a σ bt ++ WC κ a2 σ br) := by
  have hJ : ∀ f, f < 5 → ∀ j, j < 10 → J (bl σ τ 10 f j) = J (σ f j) := fun f hf j hj => by rw [bl_at hf hj]
  have h1 := St.arr hW 1 (a := a 1) (cA := kI κ) (n := 10) (f := fun k => J (bl σ τ 10 4 k)) (g := fun k => J (σ 4 k)) rfl (hJ 4 (by decide)) rfl
  have h2 := St.arr h1 2 (a := a 2) (cA := kI κ) (n := 10) (f := fun k => J (bl σ τ 10 0 k)) (g := fun k => J (σ 0 k)) rfl (hJ 0 (by decide)) rfl
  have h3 := St.arr h2 3 (a := a 3) (cA := kI κ) (n := 10) (f := fun k => J (bl σ τ 10 1 k)) (g := fun k => J (σ 1 k)) rfl (hJ 1 (by decide)) rfl
  have h4 := St.arr h3 4 (a := a 4) (cA := kI κ) (n := 10) (f := fun k => J (bl σ τ 10 2 k)) (g := fun k => J (σ 2 k)) rfl (hJ 2 (by decide)) rfl
  exact St.arr h4 5 (a := a 5) (cA := kZ κ) (n := 10) (f := fun k => J (bl σ τ 10 3 k)) (g := fun k => J (σ 3 k)) rfl (hJ 3 (by decide)) rfl

abbrev rm_X0_becomeLike : Room := { frames := 0, cells := 0, slots := 0, locals := 0 }
set_option maxHeartbeats 4000000 in
set_option maxRecDepth 100000 in
/-- becomeLike -/
theorem m_X0_becomeLike (l : Launch) (κ : Kp) (a a2 : Nat → Nat) (τ σ : Sg) (bt br : Nat → Int) (hI : Inv σ) : CGv l yX0_becomeLike wsX0_becomeLike rm_X0_becomeLike κ [.ref (a 0), .ref (a2 0)] (WC κ a τ bt ++ (WC κ a2 σ br)) (fun (_ : Unit) => True) (fun (_ : Unit) => WC κ a σ bt ++ WC κ a2 σ br) := by
  refine entry_v (by decide) rfl (Nat.le_of_ble_eq_true rfl) ?_
  intro P e s m args below meth c ls A Q F hname hK hA hret hW hl
  obtain ⟨hx, hb, hml, hown, hts⟩ := id F
  have hn0 : ∀ w ∈ wsX00, w ∈ wsX0_becomeLike := by decide +kernel
  have hca := hI.2.2.2.1
  refine jv_iconst hx hb dX0_becomeLike_0 ?_
  refine lv_istore_n (lv' := [(2, .int (J 0)), (0, .ref (a 0)), (1, .ref (a2 0))]) hx hb dX0_becomeLike_1 rfl hl (by decide) rfl (fun ls hl => ?_)
  suffices hlp : ∀ (n i : Nat), i ≤ 10 → 10 < i + n → ∀ (H : Heap) (locs : List Loc) (ls : Array Slot), St κ A s.heap H locs (WC κ a (bl σ τ i) bt ++ (WC κ a2 σ br)) → lv_has ls 3 [(2, .int (J (i : Int))), (0, .ref (a 0)), (1, .ref (a2 0))] → W P l e rm_X0_becomeLike s m args below meth c H locs 0 0 Q (F0 m 2 ls []) from
    hlp (10 + 1) 0 (Nat.zero_le _) (by omega)  _ _ _  (by rw [bl_0]; exact hW) hl
  intro n
  induction n with
  | zero => intro i h1 h2; exact absurd h2 (by omega)
  | succ n ih =>
    intro i hi hn  H locs ls  hW hl
    refine lv_iload_n hx hb dX0_becomeLike_2 rfl (lv_at hl 0 rfl) ?_
    refine jv_bipush hx hb 10 dX0_becomeLike_3 (by decide +kernel) ?_
    refine jv_icmp_ge hx hb 74 dX0_becomeLike_5 (by decide) ⟨by omega, by omega⟩ ⟨by omega, by omega⟩ (fun h_1 => ?_) (fun h_1 => ?_)
    · skip
      have hi10 : i = 10 := by omega
      refine lv_aload_n hx hb dX0_becomeLike_74 rfl (lv_at hl 1 rfl) ?_
      refine lv_aload_n hx hb dX0_becomeLike_75 rfl (lv_at hl 2 rfl) ?_
      refine jv_get (T := TX0) (N := 10) (v := .int (J (σ 5 3))) hx hb hts hn0 hown hK hW 7 rfl rfl 6 (by decide) (List.mem_of_getElem? (i := 6) rfl) rfl dX0_becomeLike_76 ?_
      refine jv_put (T := TX0) (N := 10) (ws' := (WC κ a (up (bl σ τ i) 5 3 (σ 5 3)) bt ++ (WC κ a2 σ br))) hx hb hts hn0 tyX0 tyX0_ok nmX0 hown hK hW 0 rfl rfl 6 (by decide) (List.mem_of_getElem? (i := 6) rfl) rfl rfl rfl (Nat.le_of_ble_eq_true rfl) rfl dX0_becomeLike_79 (fun H locs hW => ?_)
      refine lv_aload_n hx hb dX0_becomeLike_82 rfl (lv_at hl 1 rfl) ?_
      refine lv_aload_n hx hb dX0_becomeLike_83 rfl (lv_at hl 2 rfl) ?_
      refine jv_get (T := TX0) (N := 10) (v := .int (J (σ 5 0))) hx hb hts hn0 hown hK hW 7 rfl rfl 7 (by decide) (List.mem_of_getElem? (i := 7) rfl) rfl dX0_becomeLike_84 ?_
      refine jv_put (T := TX0) (N := 10) (ws' := (WC κ a (up (up (bl σ τ i) 5 3 (σ 5 3)) 5 0 (σ 5 0)) bt ++ (WC κ a2 σ br))) hx hb hts hn0 tyX0 tyX0_ok nmX0 hown hK hW 0 rfl rfl 7 (by decide) (List.mem_of_getElem? (i := 7) rfl) rfl rfl rfl (Nat.le_of_ble_eq_true rfl) rfl dX0_becomeLike_87 (fun H locs hW => ?_)
      refine lv_aload_n hx hb dX0_becomeLike_90 rfl (lv_at hl 1 rfl) ?_
      refine lv_aload_n hx hb dX0_becomeLike_91 rfl (lv_at hl 2 rfl) ?_
      refine jv_get (T := TX0) (N := 10) (v := .int (J (σ 5 1))) hx hb hts hn0 hown hK hW 7 rfl rfl 8 (by decide) (List.mem_of_getElem? (i := 8) rfl) rfl dX0_becomeLike_92 ?_
      refine jv_put (T := TX0) (N := 10) (ws' := (WC κ a (up (up (up (bl σ τ i) 5 3 (σ 5 3)) 5 0 (σ 5 0)) 5 1 (σ 5 1)) bt ++ (WC κ a2 σ br))) hx hb hts hn0 tyX0 tyX0_ok nmX0 hown hK hW 0 rfl rfl 8 (by decide) (List.mem_of_getElem? (i := 8) rfl) rfl rfl rfl (Nat.le_of_ble_eq_true rfl) rfl dX0_becomeLike_95 (fun H locs hW => ?_)
      refine lv_aload_n hx hb dX0_becomeLike_98 rfl (lv_at hl 1 rfl) ?_
      refine lv_aload_n hx hb dX0_becomeLike_99 rfl (lv_at hl 2 rfl) ?_
      refine jv_get (T := TX0) (N := 10) (v := .int (J (σ 5 2))) hx hb hts hn0 hown hK hW 7 rfl rfl 9 (by decide) (List.mem_of_getElem? (i := 9) rfl) rfl dX0_becomeLike_100 ?_
      refine jv_put (T := TX0) (N := 10) (ws' := (WC κ a (up (up (up (up (bl σ τ i) 5 3 (σ 5 3)) 5 0 (σ 5 0)) 5 1 (σ 5 1)) 5 2 (σ 5 2)) bt ++ (WC κ a2 σ br))) hx hb hts hn0 tyX0 tyX0_ok nmX0 hown hK hW 0 rfl rfl 9 (by decide) (List.mem_of_getElem? (i := 9) rfl) rfl (by first | exact zr_01 (Or.inl rfl) | exact zr_01 (Or.inr rfl) | exact zr_b _ | exact zr_01 (by omega)) (by first | rfl | exact zf_b _ | exact zf_01 (by omega)) (Nat.le_of_ble_eq_true rfl) rfl dX0_becomeLike_103 (fun H locs hW => ?_)
      exact hret () (by rw [hi10] at hW; exact bl_end hW) dX0_becomeLike_106 (by first | exact Nat.le_of_ble_eq_true rfl | omega | (dsimp only [rm_X0_becomeLike]; omega)) (by first | exact Nat.le_of_ble_eq_true rfl | omega | (dsimp only [rm_X0_becomeLike]; omega)) trivial
    · skip
      have hbi := hI.at i (by omega)
      refine lv_aload_n hx hb dX0_becomeLike_8 rfl (lv_at hl 1 rfl) ?_
      refine jv_get (T := TX0) (N := 10) (v := .ref (a 1)) hx hb hts hn0 hown hK hW 0 rfl rfl 0 (by decide) (List.mem_of_getElem? (i := 1) rfl) rfl dX0_becomeLike_9 ?_
      refine lv_iload_n hx hb dX0_becomeLike_12 rfl (lv_at hl 0 rfl) ?_
      refine lv_aload_n hx hb dX0_becomeLike_13 rfl (lv_at hl 2 rfl) ?_
      refine jv_get (T := TX0) (N := 10) (v := .ref (a2 1)) hx hb hts hn0 hown hK hW 7 rfl rfl 0 (by decide) (List.mem_of_getElem? (i := 1) rfl) rfl dX0_becomeLike_14 ?_
      refine lv_iload_n hx hb dX0_becomeLike_17 rfl (lv_at hl 0 rfl) ?_
      refine jv_iald (g := (σ 4)) hx hb hK hW 8 rfl i rfl (by omega) (by decide) dX0_becomeLike_18 ?_
      refine jv_iast (g := ((bl σ τ i) 4)) (ws' := (WC κ a (up (bl σ τ i) 4 i (σ 4 i)) bt ++ (WC κ a2 σ br))) hx hb hK hW 1 rfl i rfl (by omega) (by decide) rfl dX0_becomeLike_19 (fun H locs hW => ?_)
      refine lv_aload_n hx hb dX0_becomeLike_20 rfl (lv_at hl 1 rfl) ?_
      refine jv_get (T := TX0) (N := 10) (v := .ref (a 2)) hx hb hts hn0 hown hK hW 0 rfl rfl 1 (by decide) (List.mem_of_getElem? (i := 2) rfl) rfl dX0_becomeLike_21 ?_
      refine lv_iload_n hx hb dX0_becomeLike_24 rfl (lv_at hl 0 rfl) ?_
      refine lv_aload_n hx hb dX0_becomeLike_25 rfl (lv_at hl 2 rfl) ?_
      refine jv_get (T := TX0) (N := 10) (v := .ref (a2 2)) hx hb hts hn0 hown hK hW 7 rfl rfl 1 (by decide) (List.mem_of_getElem? (i := 2) rfl) rfl dX0_becomeLike_26 ?_
      refine lv_iload_n hx hb dX0_becomeLike_29 rfl (lv_at hl 0 rfl) ?_
      refine jv_iald (g := (σ 0)) hx hb hK hW 9 rfl i rfl (by omega) (by decide) dX0_becomeLike_30 ?_
      refine jv_iast (g := ((bl σ τ i) 0)) (ws' := (WC κ a (up (up (bl σ τ i) 4 i (σ 4 i)) 0 i (σ 0 i)) bt ++ (WC κ a2 σ br))) hx hb hK hW 2 rfl i rfl (by omega) (by decide) rfl dX0_becomeLike_31 (fun H locs hW => ?_)
      refine lv_aload_n hx hb dX0_becomeLike_32 rfl (lv_at hl 1 rfl) ?_
      refine jv_get (T := TX0) (N := 10) (v := .ref (a 3)) hx hb hts hn0 hown hK hW 0 rfl rfl 2 (by decide) (List.mem_of_getElem? (i := 3) rfl) rfl dX0_becomeLike_33 ?_
      refine lv_iload_n hx hb dX0_becomeLike_36 rfl (lv_at hl 0 rfl) ?_
      refine lv_aload_n hx hb dX0_becomeLike_37 rfl (lv_at hl 2 rfl) ?_
      refine jv_get (T := TX0) (N := 10) (v := .ref (a2 3)) hx hb hts hn0 hown hK hW 7 rfl rfl 2 (by decide) (List.mem_of_getElem? (i := 3) rfl) rfl dX0_becomeLike_38 ?_
      refine lv_iload_n hx hb dX0_becomeLike_41 rfl (lv_at hl 0 rfl) ?_
      refine jv_iald (g := (σ 1)) hx hb hK hW 10 rfl i rfl (by omega) (by decide) dX0_becomeLike_42 ?_
      refine jv_iast (g := ((bl σ τ i) 1)) (ws' := (WC κ a (up (up (up (bl σ τ i) 4 i (σ 4 i)) 0 i (σ 0 i)) 1 i (σ 1 i)) bt ++ (WC κ a2 σ br))) hx hb hK hW 3 rfl i rfl (by omega) (by decide) rfl dX0_becomeLike_43 (fun H locs hW => ?_)
      refine lv_aload_n hx hb dX0_becomeLike_44 rfl (lv_at hl 1 rfl) ?_
      refine jv_get (T := TX0) (N := 10) (v := .ref (a 4)) hx hb hts hn0 hown hK hW 0 rfl rfl 3 (by decide) (List.mem_of_getElem? (i := 4) rfl) rfl dX0_becomeLike_45 ?_
      refine lv_iload_n hx hb dX0_becomeLike_48 rfl (lv_at hl 0 rfl) ?_
      refine lv_aload_n hx hb dX0_becomeLike_49 rfl (lv_at hl 2 rfl) ?_
      refine jv_get (T := TX0) (N := 10) (v := .ref (a2 4)) hx hb hts hn0 hown hK hW 7 rfl rfl 3 (by decide) (List.mem_of_getElem? (i := 4) rfl) rfl dX0_becomeLike_50 ?_
      refine lv_iload_n hx hb dX0_becomeLike_53 rfl (lv_at hl 0 rfl) ?_
      refine jv_iald (g := (σ 2)) hx hb hK hW 11 rfl i rfl (by omega) (by decide) dX0_becomeLike_54 ?_
      refine jv_iast (g := ((bl σ τ i) 2)) (ws' := (WC κ a (up (up (up (up (bl σ τ i) 4 i (σ 4 i)) 0 i (σ 0 i)) 1 i (σ 1 i)) 2 i (σ 2 i)) bt ++ (WC κ a2 σ br))) hx hb hK hW 4 rfl i rfl (by omega) (by decide) rfl dX0_becomeLike_55 (fun H locs hW => ?_)
      refine lv_aload_n hx hb dX0_becomeLike_56 rfl (lv_at hl 1 rfl) ?_
      refine jv_get (T := TX0) (N := 10) (v := .ref (a 5)) hx hb hts hn0 hown hK hW 0 rfl rfl 4 (by decide) (List.mem_of_getElem? (i := 5) rfl) rfl dX0_becomeLike_57 ?_
      refine lv_iload_n hx hb dX0_becomeLike_60 rfl (lv_at hl 0 rfl) ?_
      refine lv_aload_n hx hb dX0_becomeLike_61 rfl (lv_at hl 2 rfl) ?_
      refine jv_get (T := TX0) (N := 10) (v := .ref (a2 5)) hx hb hts hn0 hown hK hW 7 rfl rfl 4 (by decide) (List.mem_of_getElem? (i := 5) rfl) rfl dX0_becomeLike_62 ?_
      refine lv_iload_n hx hb dX0_becomeLike_65 rfl (lv_at hl 0 rfl) ?_
      refine jv_zald (g := (σ 3)) hx hb hK hW 12 rfl i rfl (by omega) (by decide) dX0_becomeLike_66 ?_
      refine jv_zast (g := ((bl σ τ i) 3)) (ws' := (WC κ a (up (up (up (up (up (bl σ τ i) 4 i (σ 4 i)) 0 i (σ 0 i)) 1 i (σ 1 i)) 2 i (σ 2 i)) 3 i (σ 3 i)) bt ++ (WC κ a2 σ br))) hx hb hK hW 5 rfl i rfl (by omega) (by decide) (by first | exact Or.inl rfl | exact Or.inr rfl | omega) rfl dX0_becomeLike_67 (fun H locs hW => ?_)
      refine jv_iinc (k := 0) (z := (i : Int)) (lv' := [(2, .int (J ((i : Int) + 1))), (0, .ref (a 0)), (1, .ref (a2 0))]) hx hb dX0_becomeLike_68 hl rfl (by decide) rfl (fun ls hl => ?_)
      refine lv_goto (tgt := 2) hx hb dX0_becomeLike_71 (by decide) ?_
      exact ih (i + 1) (by omega) (by omega)  _ _ _  (by rw [bl_succ]; exact hW) hl

abbrev rm_X0_findBarred : Room := { frames := 2, cells := 0, slots := 0, locals := 42 }
set_option maxHeartbeats 4000000 in
set_option maxRecDepth 100000 in
/-- findBarred -/
theorem m_X0_findBarred (l : Launch) (κ : Kp) (a : Nat → Nat) (σ : Sg) (br : Nat → Int) (p : Nat) (hp : p < 10) (hI : Inv σ) : CGi l yX0_findBarred wsX0_findBarred rm_X0_findBarred κ [.ref (a 0), .int (J (p : Int))] (WC κ a σ br) (fun r _ => r = J (bar σ p : Int)) (fun (_ : Unit) => (WC κ a σ br)) := by
  refine entry_i (by decide) rfl (Nat.le_of_ble_eq_true rfl) ?_
  intro P e s m args below meth c ls A Q F hname hK hA hret hW hl
  obtain ⟨hx, hb, hml, hown, hts⟩ := id F
  have hn0 : ∀ w ∈ wsX00, w ∈ wsX0_findBarred := by decide +kernel
  have hN := hI.hN
  have hN10 := hI.n10
  have hbp := hI.at p hp
  refine lv_aload_n hx hb dX0_findBarred_0 rfl (lv_at hl 0 rfl) ?_
  refine lv_iload_n hx hb dX0_findBarred_1 rfl (lv_at hl 1 rfl) ?_
  refine fin_i (k := 0) (n := 0) (W2 := (fun _ => (WC κ a σ br))) [0, 1, 2, 3, 4, 5, 6] [] [0, 1, 2, 3, 4, 5, 6] hW hA (va_runV (As := [.int (J (p : Int))]) (rest := []) F ((m_X0_isSounding l κ a σ br p (by omega) hI) _) (cwV 1 hts gX0_findBarred_X0_isSounding rfl rfl rfl (by decide +kernel) ⟨(Nat.le_of_ble_eq_true rfl), (Nat.le_of_ble_eq_true rfl)⟩) (pre_V hK hW [0, 1, 2, 3, 4, 5, 6] rfl (by decide) 0 0 rfl rfl) rfl rfl hl.1 rfl (lv_room (Nat.le_of_ble_eq_true rfl)) dX0_findBarred_2 ⟨(by first | exact Nat.le_of_ble_eq_true rfl | omega | (dsimp only [rm_X0_findBarred, rm_X0_isSounding]; omega)), (by first | exact Nat.le_of_ble_eq_true rfl | omega | (dsimp only [rm_X0_findBarred, rm_X0_isSounding]; omega))⟩) rfl rfl rfl (by decide) rfl (fun _ => rfl) (by first | exact Nat.le_of_ble_eq_true rfl | omega | (dsimp only [rm_X0_findBarred, rm_X0_isSounding]; omega)) (by first | exact Nat.le_of_ble_eq_true rfl | omega | (dsimp only [rm_X0_findBarred, rm_X0_isSounding]; omega)) (fun r_2 u H locs hp_1 hW => ?_)
  subst hp_1
  refine jv_ifb_ne (b := (sn σ p)) hx hb 12 dX0_findBarred_5 (by decide) (fun h_3 => ?_) (fun h_3 => ?_)
  · skip
    refine jv_iconst hx hb dX0_findBarred_12 ?_
    refine lv_istore_n (lv' := [(2, .int (J 0)), (0, .ref (a 0)), (1, .int (J (p : Int)))]) hx hb dX0_findBarred_13 rfl hl (by decide) rfl (fun ls hl => ?_)
    refine jv_iconst hx hb dX0_findBarred_14 ?_
    refine lv_istore_n (lv' := [(3, .int (J 0)), (2, .int (J 0)), (0, .ref (a 0)), (1, .int (J (p : Int)))]) hx hb dX0_findBarred_15 rfl hl (by decide) rfl (fun ls hl => ?_)
    suffices hlp : ∀ (n i : Nat), i ≤ (nn σ) → (nn σ) < i + n → ∀ (f : Int), ∀ (H : Heap) (locs : List Loc) (ls : Array Slot), (f = (bm (fun o => !ac (σ 0 p) (σ 0 o)) i : Int)) → St κ A s.heap H locs (WC κ a σ br) → lv_has ls 4 [(3, .int (J (i : Int))), (2, .int (J f)), (0, .ref (a 0)), (1, .int (J (p : Int)))] → W P l e rm_X0_findBarred s m args below meth c H locs 0 0 Q (F0 m 16 ls []) from
      hlp ((nn σ) + 1) 0 (Nat.zero_le _) (by omega) 0 _ _ _ rfl hW hl
    intro n
    induction n with
    | zero => intro i h1 h2; exact absurd h2 (by omega)
    | succ n ih =>
      intro i hi hn f H locs ls q_f hW hl
      refine lv_iload_n hx hb dX0_findBarred_16 rfl (lv_at hl 0 rfl) ?_
      refine lv_aload_n hx hb dX0_findBarred_17 rfl (lv_at hl 2 rfl) ?_
      refine jv_get (T := TX0) (N := 10) (v := .int (J (σ 5 3))) hx hb hts hn0 hown hK hW 0 rfl rfl 6 (by decide) (List.mem_of_getElem? (i := 1) rfl) rfl dX0_findBarred_18 ?_
      subst q_f
      refine jv_icmp_ge hx hb 54 dX0_findBarred_21 (by decide) ⟨by omega, by omega⟩ ⟨by omega, by omega⟩ (fun h_4 => ?_) (fun h_4 => ?_)
      · skip
        refine lv_iload_n hx hb dX0_findBarred_54 rfl (lv_at hl 1 rfl) ?_
        exact hret () hW dX0_findBarred_55 (by first | exact Nat.le_of_ble_eq_true rfl | omega | (dsimp only [rm_X0_findBarred]; omega)) (by first | exact Nat.le_of_ble_eq_true rfl | omega | (dsimp only [rm_X0_findBarred]; omega)) (by unfold bar; rw [if_pos h_3, show i = nn σ by omega])
      · skip
        have hbi := hI.at i (by omega)
        refine lv_aload_n hx hb dX0_findBarred_24 rfl (lv_at hl 2 rfl) ?_
        refine jv_get (T := TX0) (N := 10) (v := .ref (a 2)) hx hb hts hn0 hown hK hW 0 rfl rfl 1 (by decide) (List.mem_of_getElem? (i := 2) rfl) rfl dX0_findBarred_25 ?_
        refine lv_iload_n hx hb dX0_findBarred_28 rfl (lv_at hl 3 rfl) ?_
        refine jv_iald (g := (σ 0)) hx hb hK hW 2 rfl p rfl (by omega) (by decide) dX0_findBarred_29 ?_
        refine lv_aload_n hx hb dX0_findBarred_30 rfl (lv_at hl 2 rfl) ?_
        refine jv_get (T := TX0) (N := 10) (v := .ref (a 2)) hx hb hts hn0 hown hK hW 0 rfl rfl 1 (by decide) (List.mem_of_getElem? (i := 2) rfl) rfl dX0_findBarred_31 ?_
        refine lv_iload_n hx hb dX0_findBarred_34 rfl (lv_at hl 0 rfl) ?_
        refine jv_iald (g := (σ 0)) hx hb hK hW 2 rfl i rfl (by omega) (by decide) dX0_findBarred_35 ?_
        refine fin_i (k := 0) (n := 0) (W2 := (fun _ => (WC κ a σ br))) [] [0, 1, 2, 3, 4, 5, 6] [0, 1, 2, 3, 4, 5, 6] hW hA (va_runSN (As := [.int (J (σ 0 p)), .int (J (σ 0 i))]) (rest := []) F ((m_X1_isAccord l κ (σ 0 p) (σ 0 i) (by omega)) _) ⟨va_cnB 2 hts gX0_findBarred_X1_isAccord_n73 rfl rfl rfl (hK.2.1) (hts _ (List.mem_of_getElem? (i := 11) rfl)) (by decide +kernel) ⟨(Nat.le_of_ble_eq_true rfl), (Nat.le_of_ble_eq_true rfl)⟩, hts _ (List.mem_of_getElem? (i := 10) rfl), trivial⟩ (pre_S hK hW [] rfl (by decide)) rfl rfl hl.1 rfl (lv_room (Nat.le_of_ble_eq_true rfl)) dX0_findBarred_36 ⟨(by first | exact Nat.le_of_ble_eq_true rfl | omega | (dsimp only [rm_X0_findBarred, rm_X1_isAccord]; omega)), (by first | exact Nat.le_of_ble_eq_true rfl | omega | (dsimp only [rm_X0_findBarred, rm_X1_isAccord]; omega))⟩) rfl rfl rfl (by decide) rfl (fun _ => rfl) (by first | exact Nat.le_of_ble_eq_true rfl | omega | (dsimp only [rm_X0_findBarred, rm_X1_isAccord]; omega)) (by first | exact Nat.le_of_ble_eq_true rfl | omega | (dsimp only [rm_X0_findBarred, rm_X1_isAccord]; omega)) (fun r_6 u H locs hp_5 hW => ?_)
        subst hp_5
        refine jv_ifb_ne (b := (ac (σ 0 p) (σ 0 i))) hx hb 48 dX0_findBarred_39 (by decide) (fun h_7 => ?_) (fun h_7 => ?_)
        · skip
          refine jv_iinc (k := 0) (z := (i : Int)) (lv' := [(3, .int (J ((i : Int) + 1))), (2, .int (J (bm (fun o => !ac (σ 0 p) (σ 0 o)) i : Int))), (0, .ref (a 0)), (1, .int (J (p : Int)))]) hx hb dX0_findBarred_48 hl rfl (by decide) rfl (fun ls hl => ?_)
          refine lv_goto (tgt := 16) hx hb dX0_findBarred_51 (by decide) ?_
          exact ih (i + 1) (by omega) (by omega) (bm (fun o => !ac (σ 0 p) (σ 0 o)) i : Int) _ _ _ (by rw [bm_no _ i (by rw [h_7]; rfl)]) hW hl
        · skip
          refine lv_iload_n hx hb dX0_findBarred_42 rfl (lv_at hl 1 rfl) ?_
          refine jv_iconst hx hb dX0_findBarred_43 ?_
          refine lv_iload_n hx hb dX0_findBarred_44 rfl (lv_at hl 0 rfl) ?_
          refine jv_ishl1 hx hb i dX0_findBarred_45 (by omega) ?_
          refine jv_ior hx hb (bm (fun o => !ac (σ 0 p) (σ 0 o)) i) (2 ^ i : Nat) dX0_findBarred_46 ?_
          refine lv_istore_n (lv' := [(2, .int (J (((bm (fun o => !ac (σ 0 p) (σ 0 o)) i) ||| (2 ^ i : Nat) : Nat) : Int))), (3, .int (J (i : Int))), (0, .ref (a 0)), (1, .int (J (p : Int)))]) hx hb dX0_findBarred_47 rfl hl (by decide) rfl (fun ls hl => ?_)
          refine jv_iinc (k := 1) (z := (i : Int)) (lv' := [(3, .int (J ((i : Int) + 1))), (2, .int (J (((bm (fun o => !ac (σ 0 p) (σ 0 o)) i) ||| (2 ^ i : Nat) : Nat) : Int))), (0, .ref (a 0)), (1, .int (J (p : Int)))]) hx hb dX0_findBarred_48 hl rfl (by decide) rfl (fun ls hl => ?_)
          refine lv_goto (tgt := 16) hx hb dX0_findBarred_51 (by decide) ?_
          exact ih (i + 1) (by omega) (by omega) (((bm (fun o => !ac (σ 0 p) (σ 0 o)) i) ||| (2 ^ i : Nat) : Nat) : Int) _ _ _ (by rw [← bm_or _ i (by rw [h_7]; rfl)]) hW hl
  · skip
    refine jv_iconst hx hb dX0_findBarred_8 ?_
    refine lv_iload_n hx hb dX0_findBarred_9 rfl (lv_at hl 1 rfl) ?_
    refine jv_ishl1 hx hb p dX0_findBarred_10 (by omega) ?_
    exact hret () hW dX0_findBarred_11 (by first | exact Nat.le_of_ble_eq_true rfl | omega | (dsimp only [rm_X0_findBarred]; omega)) (by first | exact Nat.le_of_ble_eq_true rfl | omega | (dsimp only [rm_X0_findBarred]; omega)) (by unfold bar; rw [if_neg (by rw [h_3]; decide)])

abbrev rm_X0_isGroupInAccord : Room := { frames := 0, cells := 0, slots := 0, locals := 0 }
set_option maxHeartbeats 4000000 in
set_option maxRecDepth 100000 in
/-- isGroupInAccord -/
theorem m_X0_isGroupInAccord (l : Launch) (κ : Kp) (a : Nat → Nat) (σ : Sg) (br : Nat → Int) (g : Nat) (hg : g < 1024) (hbr : ∀ k, k < nn σ → br k = (bar σ k : Int)) (hI : Inv σ) : CGi l yX0_isGroupInAccord wsX0_isGroupInAccord rm_X0_isGroupInAccord κ [.ref (a 0), .int (J (g : Int))] (WC κ a σ br) (fun r _ => r = J (bi (gok σ g))) (fun (_ : Unit) => (WC κ a σ br)) := by
  refine entry_z (by decide) rfl (Nat.le_of_ble_eq_true rfl) ?_
  intro P e s m args below meth c ls A Q F hname hK hA hret hW hl
  obtain ⟨hx, hb, hml, hown, hts⟩ := id F
  have hn0 : ∀ w ∈ wsX00, w ∈ wsX0_isGroupInAccord := by decide +kernel
  have hN := hI.hN
  have hN10 := hI.n10
  refine jv_iconst hx hb dX0_isGroupInAccord_0 ?_
  refine lv_istore_n (lv' := [(2, .int (J 0)), (0, .ref (a 0)), (1, .int (J (g : Int)))]) hx hb dX0_isGroupInAccord_1 rfl hl (by decide) rfl (fun ls hl => ?_)
  suffices hlp : ∀ (n i : Nat), i ≤ (nn σ) → (nn σ) < i + n → ∀ (H : Heap) (locs : List Loc) (ls : Array Slot), (∀ k, k < i → g.testBit k = true → g &&& bar σ k = 0) → St κ A s.heap H locs (WC κ a σ br) → lv_has ls 3 [(2, .int (J (i : Int))), (0, .ref (a 0)), (1, .int (J (g : Int)))] → W P l e rm_X0_isGroupInAccord s m args below meth c H locs 0 0 Q (F0 m 2 ls []) from
    hlp ((nn σ) + 1) 0 (Nat.zero_le _) (by omega)  _ _ _ (fun k hk => absurd hk (Nat.not_lt_zero k)) hW hl
  intro n
  induction n with
  | zero => intro i h1 h2; exact absurd h2 (by omega)
  | succ n ih =>
    intro i hi hn  H locs ls qg hW hl
    refine lv_iload_n hx hb dX0_isGroupInAccord_2 rfl (lv_at hl 0 rfl) ?_
    refine lv_aload_n hx hb dX0_isGroupInAccord_3 rfl (lv_at hl 1 rfl) ?_
    refine jv_get (T := TX0) (N := 10) (v := .int (J (σ 5 3))) hx hb hts hn0 hown hK hW 0 rfl rfl 6 (by decide) (List.mem_of_getElem? (i := 1) rfl) rfl dX0_isGroupInAccord_4 ?_
    refine jv_icmp_ge hx hb 38 dX0_isGroupInAccord_7 (by decide) ⟨by omega, by omega⟩ ⟨by omega, by omega⟩ (fun h_1 => ?_) (fun h_1 => ?_)
    · skip
      refine jv_iconst hx hb dX0_isGroupInAccord_38 ?_
      exact hret () hW dX0_isGroupInAccord_39 (by first | exact Nat.le_of_ble_eq_true rfl | omega | (dsimp only [rm_X0_isGroupInAccord]; omega)) (by first | exact Nat.le_of_ble_eq_true rfl | omega | (dsimp only [rm_X0_isGroupInAccord]; omega)) (by first | exact zr_01 (Or.inl rfl) | exact zr_01 (Or.inr rfl) | exact zr_b _ | exact zr_01 (by omega)) (J_t (decide_eq_true (fun k hk => qg k (by omega))))
    · skip
      refine lv_iload_n hx hb dX0_isGroupInAccord_10 rfl (lv_at hl 2 rfl) ?_
      refine lv_iload_n hx hb dX0_isGroupInAccord_11 rfl (lv_at hl 0 rfl) ?_
      refine jv_ishr hx hb g i dX0_isGroupInAccord_12 (by omega) (by omega) ?_
      refine jv_iconst hx hb dX0_isGroupInAccord_13 ?_
      refine jv_iand hx hb (g / 2 ^ i : Nat) 1 dX0_isGroupInAccord_14 ?_
      refine jv_eq (y := bi (g.testBit i)) (by rw [bit_mod]; cases g.testBit i <;> rfl) ?_
      have hbit := bi_rng (g.testBit i)
      refine jv_iconst hx hb dX0_isGroupInAccord_15 ?_
      refine jv_icmp_ne hx hb 32 dX0_isGroupInAccord_16 (by decide) ⟨by omega, by omega⟩ ⟨by omega, by omega⟩ (fun h_2 => ?_) (fun h_2 => ?_)
      · skip
        refine jv_iinc (k := 0) (z := (i : Int)) (lv' := [(2, .int (J ((i : Int) + 1))), (0, .ref (a 0)), (1, .int (J (g : Int)))]) hx hb dX0_isGroupInAccord_32 hl rfl (by decide) rfl (fun ls hl => ?_)
        refine lv_goto (tgt := 2) hx hb dX0_isGroupInAccord_35 (by decide) ?_
        exact ih (i + 1) (by omega) (by omega)  _ _ _ (fun k hk hb => (Nat.lt_or_ge k i).elim (fun h => qg k h hb) (fun h => absurd (bi_eq1.mpr (show g.testBit i = true by rw [← show k = i by omega]; exact hb)) (by omega))) hW hl
      · skip
        refine lv_iload_n hx hb dX0_isGroupInAccord_19 rfl (lv_at hl 2 rfl) ?_
        refine lv_aload_n hx hb dX0_isGroupInAccord_20 rfl (lv_at hl 1 rfl) ?_
        refine jv_get (T := TX0) (N := 10) (v := .ref (a 6)) hx hb hts hn0 hown hK hW 0 rfl rfl 5 (by decide) (List.mem_of_getElem? (i := 2) rfl) rfl dX0_isGroupInAccord_21 ?_
        refine lv_iload_n hx hb dX0_isGroupInAccord_24 rfl (lv_at hl 0 rfl) ?_
        refine jv_iald (g := br) hx hb hK hW 6 rfl i rfl (by omega) (by decide) dX0_isGroupInAccord_25 ?_
        refine jv_eq (y := (bar σ i : Int)) (hbr i (by omega)) ?_
        have hbl := bar_lt hN10 (show i < 10 by omega)
        have hal : g &&& bar σ i ≤ bar σ i := Nat.and_le_right
        refine jv_iand hx hb g (bar σ i) dX0_isGroupInAccord_26 ?_
        refine jv_if_eq hx hb 32 dX0_isGroupInAccord_27 (by decide) ⟨by omega, by omega⟩ (fun h_3 => ?_) (fun h_3 => ?_)
        · skip
          refine jv_iinc (k := 0) (z := (i : Int)) (lv' := [(2, .int (J ((i : Int) + 1))), (0, .ref (a 0)), (1, .int (J (g : Int)))]) hx hb dX0_isGroupInAccord_32 hl rfl (by decide) rfl (fun ls hl => ?_)
          refine lv_goto (tgt := 2) hx hb dX0_isGroupInAccord_35 (by decide) ?_
          exact ih (i + 1) (by omega) (by omega)  _ _ _ (fun k hk hb => (Nat.lt_or_ge k i).elim (fun h => qg k h hb) (fun h => by rw [show k = i by omega]; omega)) hW hl
        · skip
          refine jv_iconst hx hb dX0_isGroupInAccord_30 ?_
          exact hret () hW dX0_isGroupInAccord_31 (by first | exact Nat.le_of_ble_eq_true rfl | omega | (dsimp only [rm_X0_isGroupInAccord]; omega)) (by first | exact Nat.le_of_ble_eq_true rfl | omega | (dsimp only [rm_X0_isGroupInAccord]; omega)) (by first | exact zr_01 (Or.inl rfl) | exact zr_01 (Or.inr rfl) | exact zr_b _ | exact zr_01 (by omega)) (J_f (decide_eq_false (fun h => by have h1 := h i (by omega) (bi_eq1.mp (by omega)); omega)))

abbrev rm_X0_meanOfPitches : Room := { frames := 2, cells := 0, slots := 0, locals := 43 }
set_option maxHeartbeats 4000000 in
set_option maxRecDepth 100000 in
/-- meanOfPitches -/
theorem m_X0_meanOfPitches (l : Launch) (κ : Kp) (a : Nat → Nat) (σ : Sg) (br : Nat → Int) (hI : Inv σ) : CGd l yX0_meanOfPitches wsX0_meanOfPitches rm_X0_meanOfPitches κ [.ref (a 0)] (WC κ a σ br) (fun r _ => r = mp σ) (fun (_ : Unit) => (WC κ a σ br)) := by
  refine entry_d (by decide) rfl (Nat.le_of_ble_eq_true rfl) ?_
  intro P e s m args below meth c ls A Q F hname hK hA hret hW hl
  obtain ⟨hx, hb, hml, hown, hts⟩ := id F
  have hn0 : ∀ w ∈ wsX00, w ∈ wsX0_meanOfPitches := by decide +kernel
  have hN := hI.hN
  have hN10 := hI.n10
  have hns := ns_le σ
  refine lv_aload_n hx hb dX0_meanOfPitches_0 rfl (lv_at hl 0 rfl) ?_
  refine fin_i (k := 0) (n := 0) (W2 := (fun _ => (WC κ a σ br))) [0, 1, 2, 3, 4, 5, 6] [] [0, 1, 2, 3, 4, 5, 6] hW hA (va_runV (As := []) (rest := []) F ((m_X0_countSounding l κ a σ br  hI) _) (cwV 0 hts gX0_meanOfPitches_X0_countSounding rfl rfl rfl (by decide +kernel) ⟨(Nat.le_of_ble_eq_true rfl), (Nat.le_of_ble_eq_true rfl)⟩) (pre_V hK hW [0, 1, 2, 3, 4, 5, 6] rfl (by decide) 0 0 rfl rfl) rfl rfl hl.1 rfl (lv_room (Nat.le_of_ble_eq_true rfl)) dX0_meanOfPitches_1 ⟨(by first | exact Nat.le_of_ble_eq_true rfl | omega | (dsimp only [rm_X0_meanOfPitches, rm_X0_countSounding]; omega)), (by first | exact Nat.le_of_ble_eq_true rfl | omega | (dsimp only [rm_X0_meanOfPitches, rm_X0_countSounding]; omega))⟩) rfl rfl rfl (by decide) rfl (fun _ => rfl) (by first | exact Nat.le_of_ble_eq_true rfl | omega | (dsimp only [rm_X0_meanOfPitches, rm_X0_countSounding]; omega)) (by first | exact Nat.le_of_ble_eq_true rfl | omega | (dsimp only [rm_X0_meanOfPitches, rm_X0_countSounding]; omega)) (fun r_2 u H locs hp_1 hW => ?_)
  subst hp_1
  refine lv_istore_n (lv' := [(1, .int (J (ns σ : Int))), (0, .ref (a 0))]) hx hb dX0_meanOfPitches_4 rfl hl (by decide) rfl (fun ls hl => ?_)
  refine lv_iload_n hx hb dX0_meanOfPitches_5 rfl (lv_at hl 0 rfl) ?_
  refine jv_if_ne hx hb 11 dX0_meanOfPitches_6 (by decide) ⟨by omega, by omega⟩ (fun h_3 => ?_) (fun h_3 => ?_)
  · skip
    refine jv_iconst hx hb dX0_meanOfPitches_11 ?_
    refine lv_istore_n (lv' := [(2, .int (J 0)), (1, .int (J (ns σ : Int))), (0, .ref (a 0))]) hx hb dX0_meanOfPitches_12 rfl hl (by decide) rfl (fun ls hl => ?_)
    refine jv_iconst hx hb dX0_meanOfPitches_13 ?_
    refine lv_istore_n (lv' := [(3, .int (J 0)), (2, .int (J 0)), (1, .int (J (ns σ : Int))), (0, .ref (a 0))]) hx hb dX0_meanOfPitches_14 rfl hl (by decide) rfl (fun ls hl => ?_)
    suffices hlp : ∀ (n i : Nat), i ≤ (nn σ) → (nn σ) < i + n → ∀ (f : Int), ∀ (H : Heap) (locs : List Loc) (ls : Array Slot), (f = psum σ i) → St κ A s.heap H locs (WC κ a σ br) → lv_has ls 4 [(3, .int (J (i : Int))), (2, .int (J f)), (1, .int (J (ns σ : Int))), (0, .ref (a 0))] → W P l e rm_X0_meanOfPitches s m args below meth c H locs 0 0 Q (F0 m 15 ls []) from
      hlp ((nn σ) + 1) 0 (Nat.zero_le _) (by omega) 0 _ _ _ rfl hW hl
    intro n
    induction n with
    | zero => intro i h1 h2; exact absurd h2 (by omega)
    | succ n ih =>
      intro i hi hn f H locs ls q_f hW hl
      refine lv_iload_n hx hb dX0_meanOfPitches_15 rfl (lv_at hl 0 rfl) ?_
      refine lv_aload_n hx hb dX0_meanOfPitches_16 rfl (lv_at hl 3 rfl) ?_
      refine jv_get (T := TX0) (N := 10) (v := .int (J (σ 5 3))) hx hb hts hn0 hown hK hW 0 rfl rfl 6 (by decide) (List.mem_of_getElem? (i := 1) rfl) rfl dX0_meanOfPitches_17 ?_
      refine jv_icmp_ge hx hb 46 dX0_meanOfPitches_20 (by decide) ⟨by omega, by omega⟩ ⟨by omega, by omega⟩ (fun h_4 => ?_) (fun h_4 => ?_)
      · skip
        have hin : i = nn σ := by omega
        subst hin
        have hpr := psum_rng hI (nn σ) hN10
        refine lv_iload_n hx hb dX0_meanOfPitches_46 rfl (lv_at hl 1 rfl) ?_
        refine lv_i2d hx hb dX0_meanOfPitches_47 ?_
        refine lv_iload_n hx hb dX0_meanOfPitches_48 rfl (lv_at hl 2 rfl) ?_
        refine lv_i2d hx hb dX0_meanOfPitches_49 ?_
        refine lv_ddiv hx hb dX0_meanOfPitches_50 (by have h := dd_ok f.toNat (by omega) (ns σ - 1) (by omega); rw [← J_nat, ← J_nat, show ((f.toNat : Nat) : Int) = f by omega, show ((ns σ - 1 + 1 : Nat) : Int) = (ns σ : Int) by omega] at h; exact h) ?_
        exact hret () hW dX0_meanOfPitches_51 (by first | exact Nat.le_of_ble_eq_true rfl | omega | (dsimp only [rm_X0_meanOfPitches]; omega)) (by first | exact Nat.le_of_ble_eq_true rfl | omega | (dsimp only [rm_X0_meanOfPitches]; omega)) (by unfold mp; rw [if_neg (by omega), q_f])
      · skip
        have hbi := hI.at i (by omega)
        have hpr := psum_rng hI i (by omega)
        refine lv_aload_n hx hb dX0_meanOfPitches_23 rfl (lv_at hl 3 rfl) ?_
        refine lv_iload_n hx hb dX0_meanOfPitches_24 rfl (lv_at hl 0 rfl) ?_
        refine fin_i (k := 0) (n := 0) (W2 := (fun _ => (WC κ a σ br))) [0, 1, 2, 3, 4, 5, 6] [] [0, 1, 2, 3, 4, 5, 6] hW hA (va_runV (As := [.int (J (i : Int))]) (rest := []) F ((m_X0_isSounding l κ a σ br i (by omega) hI) _) (cwV 1 hts gX0_meanOfPitches_X0_isSounding rfl rfl rfl (by decide +kernel) ⟨(Nat.le_of_ble_eq_true rfl), (Nat.le_of_ble_eq_true rfl)⟩) (pre_V hK hW [0, 1, 2, 3, 4, 5, 6] rfl (by decide) 0 0 rfl rfl) rfl rfl hl.1 rfl (lv_room (Nat.le_of_ble_eq_true rfl)) dX0_meanOfPitches_25 ⟨(by first | exact Nat.le_of_ble_eq_true rfl | omega | (dsimp only [rm_X0_meanOfPitches, rm_X0_isSounding]; omega)), (by first | exact Nat.le_of_ble_eq_true rfl | omega | (dsimp only [rm_X0_meanOfPitches, rm_X0_isSounding]; omega))⟩) rfl rfl rfl (by decide) rfl (fun _ => rfl) (by first | exact Nat.le_of_ble_eq_true rfl | omega | (dsimp only [rm_X0_meanOfPitches, rm_X0_isSounding]; omega)) (by first | exact Nat.le_of_ble_eq_true rfl | omega | (dsimp only [rm_X0_meanOfPitches, rm_X0_isSounding]; omega)) (fun r_6 u H locs hp_5 hW => ?_)
        subst hp_5
        refine jv_ifb_eq (b := (sn σ i)) hx hb 40 dX0_meanOfPitches_28 (by decide) (fun h_7 => ?_) (fun h_7 => ?_)
        · skip
          refine jv_iinc (k := 0) (z := (i : Int)) (lv' := [(3, .int (J ((i : Int) + 1))), (2, .int (J f)), (1, .int (J (ns σ : Int))), (0, .ref (a 0))]) hx hb dX0_meanOfPitches_40 hl rfl (by decide) rfl (fun ls hl => ?_)
          refine lv_goto (tgt := 15) hx hb dX0_meanOfPitches_43 (by decide) ?_
          exact ih (i + 1) (by omega) (by omega) f _ _ _ (by rw [q_f]; simp [psum, h_7]) hW hl
        · skip
          refine lv_iload_n hx hb dX0_meanOfPitches_31 rfl (lv_at hl 1 rfl) ?_
          refine lv_aload_n hx hb dX0_meanOfPitches_32 rfl (lv_at hl 3 rfl) ?_
          refine jv_get (T := TX0) (N := 10) (v := .ref (a 2)) hx hb hts hn0 hown hK hW 0 rfl rfl 1 (by decide) (List.mem_of_getElem? (i := 2) rfl) rfl dX0_meanOfPitches_33 ?_
          refine lv_iload_n hx hb dX0_meanOfPitches_36 rfl (lv_at hl 0 rfl) ?_
          refine jv_iald (g := (σ 0)) hx hb hK hW 2 rfl i rfl (by omega) (by decide) dX0_meanOfPitches_37 ?_
          refine jv_iadd hx hb dX0_meanOfPitches_38 ?_
          refine lv_istore_n (lv' := [(2, .int (J (f + (σ 0 i)))), (3, .int (J (i : Int))), (1, .int (J (ns σ : Int))), (0, .ref (a 0))]) hx hb dX0_meanOfPitches_39 rfl hl (by decide) rfl (fun ls hl => ?_)
          refine jv_iinc (k := 1) (z := (i : Int)) (lv' := [(3, .int (J ((i : Int) + 1))), (2, .int (J (f + (σ 0 i)))), (1, .int (J (ns σ : Int))), (0, .ref (a 0))]) hx hb dX0_meanOfPitches_40 hl rfl (by decide) rfl (fun ls hl => ?_)
          refine lv_goto (tgt := 15) hx hb dX0_meanOfPitches_43 (by decide) ?_
          exact ih (i + 1) (by omega) (by omega) (f + (σ 0 i)) _ _ _ (by rw [q_f]; simp [psum, h_7]) hW hl
  · skip
    refine lv_dconst0 hx hb dX0_meanOfPitches_9 ?_
    exact hret () hW dX0_meanOfPitches_10 (by first | exact Nat.le_of_ble_eq_true rfl | omega | (dsimp only [rm_X0_meanOfPitches]; omega)) (by first | exact Nat.le_of_ble_eq_true rfl | omega | (dsimp only [rm_X0_meanOfPitches]; omega)) (by unfold mp; rw [if_pos (by omega)])

abbrev rm_X0_sizeOfGreatestAccord : Room := { frames := 3, cells := 0, slots := 0, locals := 65 }
set_option maxHeartbeats 4000000 in
set_option maxRecDepth 100000 in
/-- sizeOfGreatestAccord -/
theorem m_X0_sizeOfGreatestAccord (l : Launch) (κ : Kp) (a : Nat → Nat) (σ : Sg) (br : Nat → Int) (hI : Inv σ) : CGi l yX0_sizeOfGreatestAccord wsX0_sizeOfGreatestAccord rm_X0_sizeOfGreatestAccord κ [.ref (a 0)] (WC κ a σ br) (fun r (u : Nat → Int) => r = J (ga σ : Int)) (fun (u : Nat → Int) => WC κ a σ u) := by
  refine entry_i (by decide) rfl (Nat.le_of_ble_eq_true rfl) ?_
  intro P e s m args below meth c ls A Q F hname hK hA hret hW hl
  obtain ⟨hx, hb, hml, hown, hts⟩ := id F
  have hn0 : ∀ w ∈ wsX00, w ∈ wsX0_sizeOfGreatestAccord := by decide +kernel
  have hN := hI.hN
  have hN10 := hI.n10
  refine jv_iconst hx hb dX0_sizeOfGreatestAccord_0 ?_
  refine lv_istore_n (lv' := [(1, .int (J 0)), (0, .ref (a 0))]) hx hb dX0_sizeOfGreatestAccord_1 rfl hl (by decide) rfl (fun ls hl => ?_)
  suffices hlp : ∀ (n i : Nat), i ≤ (nn σ) → (nn σ) < i + n → ∀ (H : Heap) (locs : List Loc) (ls : Array Slot), St κ A s.heap H locs (WC κ a σ (fun k => if k < i then (bar σ k : Int) else br k)) → lv_has ls 4 [(1, .int (J (i : Int))), (0, .ref (a 0))] → W P l e rm_X0_sizeOfGreatestAccord s m args below meth c H locs 0 0 Q (F0 m 2 ls []) from
    hlp ((nn σ) + 1) 0 (Nat.zero_le _) (by omega)  _ _ _  (by simpa using hW) hl
  intro n
  induction n with
  | zero => intro i h1 h2; exact absurd h2 (by omega)
  | succ n ih =>
    intro i hi hn  H locs ls  hW hl
    refine lv_iload_n hx hb dX0_sizeOfGreatestAccord_2 rfl (lv_at hl 0 rfl) ?_
    refine lv_aload_n hx hb dX0_sizeOfGreatestAccord_3 rfl (lv_at hl 1 rfl) ?_
    refine jv_get (T := TX0) (N := 10) (v := .int (J (σ 5 3))) hx hb hts hn0 hown hK hW 0 rfl rfl 6 (by decide) (List.mem_of_getElem? (i := 1) rfl) rfl dX0_sizeOfGreatestAccord_4 ?_
    refine jv_icmp_ge hx hb 27 dX0_sizeOfGreatestAccord_7 (by decide) ⟨by omega, by omega⟩ ⟨by omega, by omega⟩ (fun h_1 => ?_) (fun h_1 => ?_)
    · skip
      have hin : i = nn σ := by omega
      subst hin
      clear ih
      have hbr : ∀ k, k < nn σ → (fun k => if k < nn σ then (bar σ k : Int) else br k) k = (bar σ k : Int) := fun k hk => if_pos hk
      have hp2 : 2 ^ nn σ ≤ 1024 := Nat.pow_le_pow_right (n := 2) (by decide) hN10
      have hp1 : 1 ≤ 2 ^ nn σ := Nat.one_le_two_pow
      have hW : St κ A s.heap H locs (WC κ a σ (fun k => if k < nn σ then (bar σ k : Int) else br k)) := hW
      refine jv_iconst hx hb dX0_sizeOfGreatestAccord_27 ?_
      refine lv_istore_n (lv' := [(1, .int (J 0)), (0, .ref (a 0))]) hx hb dX0_sizeOfGreatestAccord_28 rfl hl (by decide) rfl (fun ls hl => ?_)
      refine jv_iconst hx hb dX0_sizeOfGreatestAccord_29 ?_
      refine lv_istore_n (lv' := [(2, .int (J 1)), (1, .int (J 0)), (0, .ref (a 0))]) hx hb dX0_sizeOfGreatestAccord_30 rfl hl (by decide) rfl (fun ls hl => ?_)
      suffices hlq : ∀ (n j : Nat), j ≤ (2 ^ nn σ - 1) → (2 ^ nn σ - 1) < j + n → ∀ (g x : Int), ∀ (H : Heap) (locs : List Loc) (ls : Array Slot), (g = ((j + 1 : Nat) : Int)) → (x = (gar σ (j + 1) : Int)) → St κ A s.heap H locs (WC κ a σ (fun k => if k < nn σ then (bar σ k : Int) else br k)) → lv_has ls 4 [(2, .int (J g)), (1, .int (J x)), (0, .ref (a 0))] → W P l e rm_X0_sizeOfGreatestAccord s m args below meth c H locs 0 0 Q (F0 m 31 ls []) from
        hlq ((2 ^ nn σ - 1) + 1) 0 (Nat.zero_le _) (by omega) 1 0 _ _ _ (by rfl) (by rw [gar_n (fun h => by rw [pcn_0] at h; omega)]; rfl) hW hl
      intro n
      induction n with
      | zero => intro j h1 h2; exact absurd h2 (by omega)
      | succ n ih_hlq =>
        intro j hi hn g x H locs ls q_g q_x hW hl
        refine lv_iload_n hx hb dX0_sizeOfGreatestAccord_31 rfl (lv_at hl 0 rfl) ?_
        refine jv_iconst hx hb dX0_sizeOfGreatestAccord_32 ?_
        refine lv_aload_n hx hb dX0_sizeOfGreatestAccord_33 rfl (lv_at hl 2 rfl) ?_
        refine jv_get (T := TX0) (N := 10) (v := .int (J (σ 5 3))) hx hb hts hn0 hown hK hW 0 rfl rfl 6 (by decide) (List.mem_of_getElem? (i := 1) rfl) rfl dX0_sizeOfGreatestAccord_34 ?_
        refine jv_eq (y := (nn σ : Int)) hN ?_
        refine jv_ishl1 hx hb (nn σ) dX0_sizeOfGreatestAccord_37 (by omega) ?_
        subst q_g
        refine jv_icmp_ge hx hb 67 dX0_sizeOfGreatestAccord_38 (by decide) ⟨by omega, by omega⟩ ⟨by omega, by omega⟩ (fun h_2 => ?_) (fun h_2 => ?_)
        · skip
          refine lv_iload_n hx hb dX0_sizeOfGreatestAccord_67 rfl (lv_at hl 1 rfl) ?_
          exact hret _ hW dX0_sizeOfGreatestAccord_68 (by first | exact Nat.le_of_ble_eq_true rfl | omega | (dsimp only [rm_X0_sizeOfGreatestAccord]; omega)) (by first | exact Nat.le_of_ble_eq_true rfl | omega | (dsimp only [rm_X0_sizeOfGreatestAccord]; omega)) (by rw [q_x, show j + 1 = 2 ^ nn σ by omega]; rfl)
        · skip
          have hpc := pcn_le (j + 1)
          have hgl := gar_le σ (j + 1)
          refine lv_iload_n hx hb dX0_sizeOfGreatestAccord_41 rfl (lv_at hl 0 rfl) ?_
          refine fin_i (k := 0) (n := 0) (W2 := (fun _ => (WC κ a σ (fun k => if k < nn σ then (bar σ k : Int) else br k)))) [] [0, 1, 2, 3, 4, 5, 6] [0, 1, 2, 3, 4, 5, 6] hW hA (va_runS (As := [.int (J ((j + 1 : Nat) : Int))]) (rest := []) F ((m_J6_bitCount_0f7a4 l κ (j + 1) (by omega)) _) (va_cwS 1 hts gX0_sizeOfGreatestAccord_J6_bitCount_0f7a4 rfl rfl rfl (by decide +kernel) ⟨(Nat.le_of_ble_eq_true rfl), (Nat.le_of_ble_eq_true rfl)⟩) (pre_S hK hW [] rfl (by decide)) rfl rfl hl.1 rfl (lv_room (Nat.le_of_ble_eq_true rfl)) dX0_sizeOfGreatestAccord_42 ⟨(by first | exact Nat.le_of_ble_eq_true rfl | omega | (dsimp only [rm_X0_sizeOfGreatestAccord, rm_J6_bitCount_0f7a4]; omega)), (by first | exact Nat.le_of_ble_eq_true rfl | omega | (dsimp only [rm_X0_sizeOfGreatestAccord, rm_J6_bitCount_0f7a4]; omega))⟩) rfl rfl rfl (by decide) rfl (fun _ => rfl) (by first | exact Nat.le_of_ble_eq_true rfl | omega | (dsimp only [rm_X0_sizeOfGreatestAccord, rm_J6_bitCount_0f7a4]; omega)) (by first | exact Nat.le_of_ble_eq_true rfl | omega | (dsimp only [rm_X0_sizeOfGreatestAccord, rm_J6_bitCount_0f7a4]; omega)) (fun r_4 u H locs hp_3 hW => ?_)
          subst hp_3
          refine lv_istore_n (lv' := [(3, .int (J (pcn (j + 1) : Int))), (2, .int (J ((j + 1 : Nat) : Int))), (1, .int (J x)), (0, .ref (a 0))]) hx hb dX0_sizeOfGreatestAccord_45 rfl hl (by decide) rfl (fun ls hl => ?_)
          refine lv_iload_n hx hb dX0_sizeOfGreatestAccord_46 rfl (lv_at hl 0 rfl) ?_
          refine lv_iload_n hx hb dX0_sizeOfGreatestAccord_47 rfl (lv_at hl 2 rfl) ?_
          refine jv_icmp_le hx hb 61 dX0_sizeOfGreatestAccord_48 (by decide) ⟨by omega, by omega⟩ ⟨by omega, by omega⟩ (fun h_5 => ?_) (fun h_5 => ?_)
          · skip
            refine jv_iinc (k := 1) (z := ((j + 1 : Nat) : Int)) (lv' := [(2, .int (J (((j + 1 : Nat) : Int) + 1))), (3, .int (J (pcn (j + 1) : Int))), (1, .int (J x)), (0, .ref (a 0))]) hx hb dX0_sizeOfGreatestAccord_61 hl rfl (by decide) rfl (fun ls hl => ?_)
            refine lv_goto (tgt := 31) hx hb dX0_sizeOfGreatestAccord_64 (by decide) ?_
            exact ih_hlq (j + 1) (by omega) (by omega) (((j + 1 : Nat) : Int) + 1) x _ _ _ (by omega) (by rw [gar_n (fun h => by omega)]; exact q_x) hW (lv_sub hl [0, 2, 3] rfl)
          · skip
            refine lv_aload_n hx hb dX0_sizeOfGreatestAccord_51 rfl (lv_at hl 3 rfl) ?_
            refine lv_iload_n hx hb dX0_sizeOfGreatestAccord_52 rfl (lv_at hl 1 rfl) ?_
            refine fin_i (k := 0) (n := 0) (W2 := (fun _ => (WC κ a σ (fun k => if k < nn σ then (bar σ k : Int) else br k)))) [0, 1, 2, 3, 4, 5, 6] [] [0, 1, 2, 3, 4, 5, 6] hW hA (va_runV (As := [.int (J ((j + 1 : Nat) : Int))]) (rest := []) F ((m_X0_isGroupInAccord l κ a σ (fun k => if k < nn σ then (bar σ k : Int) else br k) (j + 1) (by omega) hbr hI) _) (cwV 1 hts gX0_sizeOfGreatestAccord_X0_isGroupInAccord rfl rfl rfl (by decide +kernel) ⟨(Nat.le_of_ble_eq_true rfl), (Nat.le_of_ble_eq_true rfl)⟩) (pre_V hK hW [0, 1, 2, 3, 4, 5, 6] rfl (by decide) 0 0 rfl rfl) rfl rfl hl.1 rfl (lv_room (Nat.le_of_ble_eq_true rfl)) dX0_sizeOfGreatestAccord_53 ⟨(by first | exact Nat.le_of_ble_eq_true rfl | omega | (dsimp only [rm_X0_sizeOfGreatestAccord, rm_X0_isGroupInAccord]; omega)), (by first | exact Nat.le_of_ble_eq_true rfl | omega | (dsimp only [rm_X0_sizeOfGreatestAccord, rm_X0_isGroupInAccord]; omega))⟩) rfl rfl rfl (by decide) rfl (fun _ => rfl) (by first | exact Nat.le_of_ble_eq_true rfl | omega | (dsimp only [rm_X0_sizeOfGreatestAccord, rm_X0_isGroupInAccord]; omega)) (by first | exact Nat.le_of_ble_eq_true rfl | omega | (dsimp only [rm_X0_sizeOfGreatestAccord, rm_X0_isGroupInAccord]; omega)) (fun r_7 u H locs hp_6 hW => ?_)
            subst hp_6
            refine jv_ifb_eq (b := (gok σ (j + 1))) hx hb 61 dX0_sizeOfGreatestAccord_56 (by decide) (fun h_8 => ?_) (fun h_8 => ?_)
            · skip
              refine jv_iinc (k := 1) (z := ((j + 1 : Nat) : Int)) (lv' := [(2, .int (J (((j + 1 : Nat) : Int) + 1))), (3, .int (J (pcn (j + 1) : Int))), (1, .int (J x)), (0, .ref (a 0))]) hx hb dX0_sizeOfGreatestAccord_61 hl rfl (by decide) rfl (fun ls hl => ?_)
              refine lv_goto (tgt := 31) hx hb dX0_sizeOfGreatestAccord_64 (by decide) ?_
              exact ih_hlq (j + 1) (by omega) (by omega) (((j + 1 : Nat) : Int) + 1) x _ _ _ (by omega) (by rw [gar_n (fun h => by rw [h_8] at h; exact absurd h.2 (by decide))]; exact q_x) hW (lv_sub hl [0, 2, 3] rfl)
            · skip
              refine lv_iload_n hx hb dX0_sizeOfGreatestAccord_59 rfl (lv_at hl 0 rfl) ?_
              refine lv_istore_n (lv' := [(1, .int (J (pcn (j + 1) : Int))), (3, .int (J (pcn (j + 1) : Int))), (2, .int (J ((j + 1 : Nat) : Int))), (0, .ref (a 0))]) hx hb dX0_sizeOfGreatestAccord_60 rfl hl (by decide) rfl (fun ls hl => ?_)
              refine jv_iinc (k := 2) (z := ((j + 1 : Nat) : Int)) (lv' := [(2, .int (J (((j + 1 : Nat) : Int) + 1))), (1, .int (J (pcn (j + 1) : Int))), (3, .int (J (pcn (j + 1) : Int))), (0, .ref (a 0))]) hx hb dX0_sizeOfGreatestAccord_61 hl rfl (by decide) rfl (fun ls hl => ?_)
              refine lv_goto (tgt := 31) hx hb dX0_sizeOfGreatestAccord_64 (by decide) ?_
              exact ih_hlq (j + 1) (by omega) (by omega) (((j + 1 : Nat) : Int) + 1) (pcn (j + 1) : Int) _ _ _ (by omega) (by rw [gar_y (by omega) h_8]) hW (lv_sub hl [0, 1, 3] rfl)
    · skip
      refine lv_aload_n hx hb dX0_sizeOfGreatestAccord_10 rfl (lv_at hl 1 rfl) ?_
      refine jv_get (T := TX0) (N := 10) (v := .ref (a 6)) hx hb hts hn0 hown hK hW 0 rfl rfl 5 (by decide) (List.mem_of_getElem? (i := 2) rfl) rfl dX0_sizeOfGreatestAccord_11 ?_
      refine lv_iload_n hx hb dX0_sizeOfGreatestAccord_14 rfl (lv_at hl 0 rfl) ?_
      refine lv_aload_n hx hb dX0_sizeOfGreatestAccord_15 rfl (lv_at hl 1 rfl) ?_
      refine lv_iload_n hx hb dX0_sizeOfGreatestAccord_16 rfl (lv_at hl 0 rfl) ?_
      refine fin_i (k := 0) (n := 0) (W2 := (fun _ => (WC κ a σ (fun k => if k < i then (bar σ k : Int) else br k)))) [0, 1, 2, 3, 4, 5, 6] [] [0, 1, 2, 3, 4, 5, 6] hW hA (va_runV (As := [.int (J (i : Int))]) (rest := [.int (J (i : Int)), .ref (a 6)]) F ((m_X0_findBarred l κ a σ (fun k => if k < i then (bar σ k : Int) else br k) i (by omega) hI) _) (cwV 1 hts gX0_sizeOfGreatestAccord_X0_findBarred rfl rfl rfl (by decide +kernel) ⟨(Nat.le_of_ble_eq_true rfl), (Nat.le_of_ble_eq_true rfl)⟩) (pre_V hK hW [0, 1, 2, 3, 4, 5, 6] rfl (by decide) 0 0 rfl rfl) rfl rfl hl.1 rfl (lv_room (Nat.le_of_ble_eq_true rfl)) dX0_sizeOfGreatestAccord_17 ⟨(by first | exact Nat.le_of_ble_eq_true rfl | omega | (dsimp only [rm_X0_sizeOfGreatestAccord, rm_X0_findBarred]; omega)), (by first | exact Nat.le_of_ble_eq_true rfl | omega | (dsimp only [rm_X0_sizeOfGreatestAccord, rm_X0_findBarred]; omega))⟩) rfl rfl rfl (by decide) rfl (fun _ => rfl) (by first | exact Nat.le_of_ble_eq_true rfl | omega | (dsimp only [rm_X0_sizeOfGreatestAccord, rm_X0_findBarred]; omega)) (by first | exact Nat.le_of_ble_eq_true rfl | omega | (dsimp only [rm_X0_sizeOfGreatestAccord, rm_X0_findBarred]; omega)) (fun r_10 u H locs hp_9 hW => ?_)
      subst hp_9
      refine jv_iast (g := (fun k => if k < i then (bar σ k : Int) else br k)) (ws' := (WC κ a σ (upi (fun k => if k < i then (bar σ k : Int) else br k) i (bar σ i : Int)))) hx hb hK hW 6 rfl i rfl (by omega) (by decide) rfl dX0_sizeOfGreatestAccord_20 (fun H locs hW => ?_)
      refine jv_iinc (k := 0) (z := (i : Int)) (lv' := [(1, .int (J ((i : Int) + 1))), (0, .ref (a 0))]) hx hb dX0_sizeOfGreatestAccord_21 hl rfl (by decide) rfl (fun ls hl => ?_)
      refine lv_goto (tgt := 2) hx hb dX0_sizeOfGreatestAccord_24 (by decide) ?_
      exact ih (i + 1) (by omega) (by omega)  _ _ _  (by rw [show (fun k => if k < i + 1 then (bar σ k : Int) else br k) = upi (fun k => if k < i then (bar σ k : Int) else br k) i (bar σ i : Int) from bar_upi σ br i]; exact hW) hl
