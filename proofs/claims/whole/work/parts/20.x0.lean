abbrev rm_X0_isSounding : Room := { frames := 0, cells := 0, slots := 0, locals := 0 }
set_option maxHeartbeats 4000000 in
set_option maxRecDepth 100000 in
/-- isSounding -/
theorem m_X0_isSounding (l : Launch) (κ : Kp) (a : Nat → Nat) (σ : Sg) (br : Nat → Int) (p : Nat) (hp : p < 10) (hI : Inv σ) : CGi l yX0_isSounding wsX0_isSounding rm_X0_isSounding κ [.ref (a 0), .int (J (p : Int))] (WC κ a σ br) (fun r _ => r = J (bi (sn σ p))) (fun (_ : Unit) => (WC κ a σ br)) := by
  refine entry_z (by decide) rfl (Nat.le_of_ble_eq_true rfl) ?_
  intro P e s m args below meth c ls A Q F hname hK hA hret hW hl
  obtain ⟨hx, hb, hml, hown, hts⟩ := id F
  have hn0 : ∀ w ∈ wsX00, w ∈ wsX0_isSounding := by decide +kernel
  have hbp := hI.at p hp
  refine lv_aload_n hx hb dX0_isSounding_0 rfl (lv_at hl 0 rfl) ?_
  refine jv_get (T := TX0) (N := 10) (v := .ref (a 3)) hx hb hts hn0 hown hK hW 0 rfl rfl 2 (by decide) (List.mem_of_getElem? (i := 1) rfl) rfl dX0_isSounding_1 ?_
  refine lv_iload_n hx hb dX0_isSounding_4 rfl (lv_at hl 1 rfl) ?_
  refine jv_iald (g := (σ 1)) hx hb hK hW 3 rfl p rfl (by omega) (by decide) dX0_isSounding_5 ?_
  refine jv_if_le hx hb 22 dX0_isSounding_6 (by decide) ⟨by omega, by omega⟩ (fun h_1 => ?_) (fun h_1 => ?_)
  · skip
    refine jv_iconst hx hb dX0_isSounding_22 ?_
    exact hret () hW dX0_isSounding_23 (by first | exact Nat.le_of_ble_eq_true rfl | omega) (by first | exact Nat.le_of_ble_eq_true rfl | omega) (by first | exact zr_01 (Or.inl rfl) | exact zr_01 (Or.inr rfl) | exact zr_b _) (J_f (decide_eq_false (by omega)))
  · skip
    refine lv_aload_n hx hb dX0_isSounding_9 rfl (lv_at hl 0 rfl) ?_
    refine jv_get (T := TX0) (N := 10) (v := .ref (a 5)) hx hb hts hn0 hown hK hW 0 rfl rfl 4 (by decide) (List.mem_of_getElem? (i := 2) rfl) rfl dX0_isSounding_10 ?_
    refine lv_iload_n hx hb dX0_isSounding_13 rfl (lv_at hl 1 rfl) ?_
    refine jv_zald (g := (σ 3)) hx hb hK hW 5 rfl p rfl (by omega) (by decide) dX0_isSounding_14 ?_
    refine jv_if_ne hx hb 22 dX0_isSounding_15 (by decide) ⟨by omega, by omega⟩ (fun h_2 => ?_) (fun h_2 => ?_)
    · skip
      refine jv_iconst hx hb dX0_isSounding_22 ?_
      exact hret () hW dX0_isSounding_23 (by first | exact Nat.le_of_ble_eq_true rfl | omega) (by first | exact Nat.le_of_ble_eq_true rfl | omega) (by first | exact zr_01 (Or.inl rfl) | exact zr_01 (Or.inr rfl) | exact zr_b _) (J_f (decide_eq_false (by omega)))
    · skip
      refine jv_iconst hx hb dX0_isSounding_18 ?_
      refine lv_goto (tgt := 23) hx hb dX0_isSounding_19 (by decide) ?_
      exact hret () hW dX0_isSounding_23 (by first | exact Nat.le_of_ble_eq_true rfl | omega) (by first | exact Nat.le_of_ble_eq_true rfl | omega) (by first | exact zr_01 (Or.inl rfl) | exact zr_01 (Or.inr rfl) | exact zr_b _) (J_t (decide_eq_true (by omega)))

abbrev rm_X0_countSounding : Room := { frames := 1, cells := 0, slots := 0, locals := 21 }
set_option maxHeartbeats 4000000 in
set_option maxRecDepth 100000 in
/-- countSounding -/
theorem m_X0_countSounding (l : Launch) (κ : Kp) (a : Nat → Nat) (σ : Sg) (br : Nat → Int) (hI : Inv σ) : CGi l yX0_countSounding wsX0_countSounding rm_X0_countSounding κ [.ref (a 0)] (WC κ a σ br) (fun r _ => r = J (ns σ : Int)) (fun (_ : Unit) => (WC κ a σ br)) := by
  refine entry_i (by decide) rfl (Nat.le_of_ble_eq_true rfl) ?_
  intro P e s m args below meth c ls A Q F hname hK hA hret hW hl
  obtain ⟨hx, hb, hml, hown, hts⟩ := id F
  have hn0 : ∀ w ∈ wsX00, w ∈ wsX0_countSounding := by decide +kernel
  have hN := hI.hN
  have hN10 := hI.n10
  refine jv_iconst hx hb dX0_countSounding_0 ?_
  refine lv_istore_n (lv' := [(1, .int (J 0)), (0, .ref (a 0))]) hx hb dX0_countSounding_1 rfl hl (by decide) rfl (fun ls hl => ?_)
  refine jv_iconst hx hb dX0_countSounding_2 ?_
  refine lv_istore_n (lv' := [(2, .int (J 0)), (1, .int (J 0)), (0, .ref (a 0))]) hx hb dX0_countSounding_3 rfl hl (by decide) rfl (fun ls hl => ?_)
  suffices hlp : ∀ (n i : Nat), i ≤ (nn σ) → (nn σ) < i + n → ∀ (f : Int), ∀ (H : Heap) (locs : List Loc) (ls : Array Slot), (f = (fb_ct (sn σ) i : Int)) → St κ A s.heap H locs (WC κ a σ br) → lv_has ls 3 [(2, .int (J (i : Int))), (1, .int (J f)), (0, .ref (a 0))] → W P l e rm_X0_countSounding s m args below meth c H locs 0 0 Q (F0 m 4 ls []) from
    hlp ((nn σ) + 1) 0 (Nat.zero_le _) (by omega) 0 _ _ _ (by simp [fb_ct, fb_sm]) hW hl
  intro n
  induction n with
  | zero => intro i h1 h2; exact absurd h2 (by omega)
  | succ n ih =>
    intro i hi hn f H locs ls q_f hW hl
    refine lv_iload_n hx hb dX0_countSounding_4 rfl (lv_at hl 0 rfl) ?_
    refine lv_aload_n hx hb dX0_countSounding_5 rfl (lv_at hl 2 rfl) ?_
    refine jv_get (T := TX0) (N := 10) (v := .int (J (σ 5 3))) hx hb hts hn0 hown hK hW 0 rfl rfl 6 (by decide) (List.mem_of_getElem? (i := 1) rfl) rfl dX0_countSounding_6 ?_
    refine jv_icmp_ge hx hb 29 dX0_countSounding_9 (by decide) ⟨by omega, by omega⟩ ⟨by omega, by omega⟩ (fun h_1 => ?_) (fun h_1 => ?_)
    · skip
      refine lv_iload_n hx hb dX0_countSounding_29 rfl (lv_at hl 1 rfl) ?_
      exact hret () hW dX0_countSounding_30 (by first | exact Nat.le_of_ble_eq_true rfl | omega) (by first | exact Nat.le_of_ble_eq_true rfl | omega) (by rw [q_f, show i = nn σ by omega]; rfl)
    · skip
      refine lv_aload_n hx hb dX0_countSounding_12 rfl (lv_at hl 2 rfl) ?_
      refine lv_iload_n hx hb dX0_countSounding_13 rfl (lv_at hl 0 rfl) ?_
      refine fin_i (k := 0) (n := 0) (W2 := (fun _ => (WC κ a σ br))) [0, 1, 2, 3, 4, 5, 6] [] [0, 1, 2, 3, 4, 5, 6] hW hA (va_runV (As := [.int (J (i : Int))]) (rest := []) F ((m_X0_isSounding l κ a σ br i (by omega) hI) _) (cwV 1 hts gX0_countSounding_X0_isSounding rfl rfl rfl (by decide +kernel) ⟨(Nat.le_of_ble_eq_true rfl), (Nat.le_of_ble_eq_true rfl)⟩) (pre_V hK hW [0, 1, 2, 3, 4, 5, 6] rfl (by decide) 0 0 rfl rfl) rfl rfl hl.1 rfl (lv_room (by decide)) dX0_countSounding_14 ⟨(by first | exact Nat.le_of_ble_eq_true rfl | omega), (by first | exact Nat.le_of_ble_eq_true rfl | omega)⟩) rfl rfl rfl (by decide) rfl (fun _ => rfl) (by first | exact Nat.le_of_ble_eq_true rfl | omega) (by first | exact Nat.le_of_ble_eq_true rfl | omega) (fun r_3 u H locs hp_2 hW => ?_)
      subst hp_2
      refine jv_ifb_eq (b := (sn σ i)) hx hb 23 dX0_countSounding_17 (by decide) (fun h_4 => ?_) (fun h_4 => ?_)
      · skip
        refine jv_iinc (k := 0) (z := (i : Int)) (lv' := [(2, .int (J ((i : Int) + 1))), (1, .int (J f)), (0, .ref (a 0))]) hx hb dX0_countSounding_23 hl rfl (by decide) rfl (fun ls hl => ?_)
        refine lv_goto (tgt := 4) hx hb dX0_countSounding_26 (by decide) ?_
        exact ih (i + 1) (by omega) (by omega) f _ _ _ (by simp [fb_ct_succ, q_f, h_4]) hW hl
      · skip
        refine jv_iinc (k := 1) (z := f) (lv' := [(1, .int (J (f + 1))), (2, .int (J (i : Int))), (0, .ref (a 0))]) hx hb dX0_countSounding_20 hl rfl (by decide) rfl (fun ls hl => ?_)
        refine jv_iinc (k := 1) (z := (i : Int)) (lv' := [(2, .int (J ((i : Int) + 1))), (1, .int (J (f + 1))), (0, .ref (a 0))]) hx hb dX0_countSounding_23 hl rfl (by decide) rfl (fun ls hl => ?_)
        refine lv_goto (tgt := 4) hx hb dX0_countSounding_26 (by decide) ?_
        exact ih (i + 1) (by omega) (by omega) (f + 1) _ _ _ (by simp [fb_ct_succ, q_f, h_4]) hW hl
