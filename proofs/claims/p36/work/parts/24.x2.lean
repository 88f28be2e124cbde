abbrev rm_X2_sounds : Room := { frames := 0, cells := 0, slots := 0, locals := 0 }
set_option maxHeartbeats 4000000 in
set_option maxRecDepth 100000 in
/-- does a pot sound, by hand -/
theorem m_X2_sounds (l : Launch) (κ : Kp) (q pp : Nat) (L : List Nat) (σ : Sg) (w0 w1 w2 : Int) (hLn : L.length = nn σ) (hI : Inv σ) (p : Nat) (hp : p < nn σ) : CGi l yX2_sounds wsX2_sounds rm_X2_sounds κ [.ref q, .int (J (p : Int))] ((WS κ q pp L w0 w1 w2) ++ RP κ L σ) (fun r _ => r = J (bi (sn σ p))) (fun (_ : Unit) => ((WS κ q pp L w0 w1 w2) ++ RP κ L σ)) := by
  refine entry_z (by decide) rfl (Nat.le_of_ble_eq_true rfl) ?_
  intro P e s m args below meth c ls A Q F hname hK hA hret hW hl
  obtain ⟨hx, hb, hml, hown, hts⟩ := id F
  have hn2 : ∀ w ∈ wsX20, w ∈ wsX2_sounds := by decide +kernel
  have hN := hI.hN
  have hN10 := hI.n10
  have hbp := hI.at p (by omega)
  refine lv_aload_n hx hb dX2_sounds_0 rfl (lv_at hl 0 rfl) ?_
  refine jv_get (T := TX2) (N := 4) (v := .ref pp) hx hb hts hn2 hown hK hW 0 rfl rfl 3 (by decide) (List.mem_of_getElem? (i := 1) rfl) rfl dX2_sounds_1 ?_
  refine lv_iload_n hx hb dX2_sounds_4 rfl (lv_at hl 1 rfl) ?_
  refine jv_qld hx hb (hK.2.2.2.1) hW 1 rfl p (la L p) rfl (by omega) (by omega) (la_get (by omega)) dX2_sounds_5 ?_
  refine jv_iconst hx hb dX2_sounds_6 ?_
  refine jv_rld hx hb hK hW (i := p) (by omega) 2 rfl (by decide) dX2_sounds_7 ?_
  refine jv_eq (y := (σ 1 p)) rfl ?_
  refine jv_if_le hx hb 26 dX2_sounds_8 (by decide) ⟨by omega, by omega⟩ (fun h_1 => ?_) (fun h_1 => ?_)
  · skip
    refine jv_iconst hx hb dX2_sounds_26 ?_
    exact hret () hW dX2_sounds_27 (by first | exact Nat.le_of_ble_eq_true rfl | omega | (dsimp only [rm_X2_sounds]; omega)) (by first | exact Nat.le_of_ble_eq_true rfl | omega | (dsimp only [rm_X2_sounds]; omega)) (by first | exact zr_01 (Or.inl rfl) | exact zr_01 (Or.inr rfl) | exact zr_b _ | exact zr_01 (by omega)) (J_f (decide_eq_false (by omega)))
  · skip
    refine lv_aload_n hx hb dX2_sounds_11 rfl (lv_at hl 0 rfl) ?_
    refine jv_get (T := TX2) (N := 4) (v := .ref pp) hx hb hts hn2 hown hK hW 0 rfl rfl 3 (by decide) (List.mem_of_getElem? (i := 1) rfl) rfl dX2_sounds_12 ?_
    refine lv_iload_n hx hb dX2_sounds_15 rfl (lv_at hl 1 rfl) ?_
    refine jv_qld hx hb (hK.2.2.2.1) hW 1 rfl p (la L p) rfl (by omega) (by omega) (la_get (by omega)) dX2_sounds_16 ?_
    refine jv_iconst hx hb dX2_sounds_17 ?_
    refine jv_rld hx hb hK hW (i := p) (by omega) 4 rfl (by decide) dX2_sounds_18 ?_
    refine jv_eq (y := (σ 3 p)) rfl ?_
    refine jv_if_ne hx hb 26 dX2_sounds_19 (by decide) ⟨by omega, by omega⟩ (fun h_2 => ?_) (fun h_2 => ?_)
    · skip
      refine jv_iconst hx hb dX2_sounds_26 ?_
      exact hret () hW dX2_sounds_27 (by first | exact Nat.le_of_ble_eq_true rfl | omega | (dsimp only [rm_X2_sounds]; omega)) (by first | exact Nat.le_of_ble_eq_true rfl | omega | (dsimp only [rm_X2_sounds]; omega)) (by first | exact zr_01 (Or.inl rfl) | exact zr_01 (Or.inr rfl) | exact zr_b _ | exact zr_01 (by omega)) (J_f (decide_eq_false (by omega)))
    · skip
      refine jv_iconst hx hb dX2_sounds_22 ?_
      refine lv_goto (tgt := 27) hx hb dX2_sounds_23 (by decide) ?_
      exact hret () hW dX2_sounds_27 (by first | exact Nat.le_of_ble_eq_true rfl | omega | (dsimp only [rm_X2_sounds]; omega)) (by first | exact Nat.le_of_ble_eq_true rfl | omega | (dsimp only [rm_X2_sounds]; omega)) (by first | exact zr_01 (Or.inl rfl) | exact zr_01 (Or.inr rfl) | exact zr_b _ | exact zr_01 (by omega)) (J_t (decide_eq_true (by omega)))

abbrev rm_X2_isAccord : Room := { frames := 0, cells := 0, slots := 0, locals := 0 }
set_option maxHeartbeats 4000000 in
set_option maxRecDepth 100000 in
/-- are two pitches in accord, by hand -/
theorem m_X2_isAccord (l : Launch) (κ : Kp) (x y : Int) (hxy : -100 ≤ x ∧ x ≤ 100 ∧ -100 ≤ y ∧ y ≤ 100) : CGi l yX2_isAccord wsX2_isAccord rm_X2_isAccord κ [.int (J x), .int (J y)] ([] : va_W) (fun r _ => r = J (bi (ac x y))) (fun (_ : Unit) => ([] : va_W)) := by
  refine entry_z (by decide) rfl (Nat.le_of_ble_eq_true rfl) ?_
  intro P e s m args below meth c ls A Q F hname hK hA hret hW hl
  obtain ⟨hx, hb, hml, hown, hts⟩ := id F
  have j14 : ∀ (H : Heap) (locs : List Loc) (ls : Array Slot), St κ A s.heap H locs ([] : va_W) → lv_has ls 3 [(0, .int (J x)), (1, .int (J y))] → W P l e rm_X2_isAccord s m args below meth c H locs 0 0 Q (F0 m 14 ls [.int (J (if 0 ≤ x - y then x - y else 0 - (x - y)))]) := by
    intro H locs ls hW hl
    refine jv_bipush hx hb 12 dX2_isAccord_14 (by decide +kernel) ?_
    refine jv_irem hx hb dX2_isAccord_16 (by omega) ?_
    obtain ⟨t, ht⟩ : ∃ t : Int, t = stp x y := ⟨_, rfl⟩
    have ht0 : 0 ≤ t ∧ t < 12 := by rw [ht]; unfold stp; omega
    refine jv_eq (y := t) (by rw [ht]; rfl) ?_
    have hac : ∀ b : Bool, decide (t = 0 ∨ t = 3 ∨ t = 4 ∨ t = 5 ∨ t = 7 ∨ t = 8 ∨ t = 9) = b → ac x y = b := fun b h => by rw [← h, ht]; rfl
    clear ht
    refine lv_istore_n (lv' := [(2, .int (J t)), (0, .int (J x)), (1, .int (J y))]) hx hb dX2_isAccord_17 rfl hl (by decide) rfl (fun ls hl => ?_)
    refine lv_iload_n hx hb dX2_isAccord_18 rfl (lv_at hl 0 rfl) ?_
    refine jv_if_eq hx hb 45 dX2_isAccord_19 (by decide) ⟨by omega, by omega⟩ (fun h_1 => ?_) (fun h_1 => ?_)
    · skip
      refine jv_iconst hx hb dX2_isAccord_45 ?_
      refine lv_goto (tgt := 50) hx hb dX2_isAccord_46 (by decide) ?_
      exact hret () hW dX2_isAccord_50 (by first | exact Nat.le_of_ble_eq_true rfl | omega | (dsimp only [rm_X2_isAccord]; omega)) (by first | exact Nat.le_of_ble_eq_true rfl | omega | (dsimp only [rm_X2_isAccord]; omega)) (by first | exact zr_01 (Or.inl rfl) | exact zr_01 (Or.inr rfl) | exact zr_b _ | exact zr_01 (by omega)) (J_t (hac true (decide_eq_true (by omega))))
    · skip
      refine lv_iload_n hx hb dX2_isAccord_22 rfl (lv_at hl 0 rfl) ?_
      refine jv_iconst hx hb dX2_isAccord_23 ?_
      refine jv_icmp_le hx hb 33 dX2_isAccord_24 (by decide) ⟨by omega, by omega⟩ ⟨by omega, by omega⟩ (fun h_2 => ?_) (fun h_2 => ?_)
      · skip
        refine lv_iload_n hx hb dX2_isAccord_33 rfl (lv_at hl 0 rfl) ?_
        refine jv_bipush hx hb 6 dX2_isAccord_34 (by decide +kernel) ?_
        refine jv_icmp_le hx hb 49 dX2_isAccord_36 (by decide) ⟨by omega, by omega⟩ ⟨by omega, by omega⟩ (fun h_3 => ?_) (fun h_3 => ?_)
        · skip
          refine jv_iconst hx hb dX2_isAccord_49 ?_
          exact hret () hW dX2_isAccord_50 (by first | exact Nat.le_of_ble_eq_true rfl | omega | (dsimp only [rm_X2_isAccord]; omega)) (by first | exact Nat.le_of_ble_eq_true rfl | omega | (dsimp only [rm_X2_isAccord]; omega)) (by first | exact zr_01 (Or.inl rfl) | exact zr_01 (Or.inr rfl) | exact zr_b _ | exact zr_01 (by omega)) (J_f (hac false (decide_eq_false (by omega))))
        · skip
          refine lv_iload_n hx hb dX2_isAccord_39 rfl (lv_at hl 0 rfl) ?_
          refine jv_bipush hx hb 10 dX2_isAccord_40 (by decide +kernel) ?_
          refine jv_icmp_ge hx hb 49 dX2_isAccord_42 (by decide) ⟨by omega, by omega⟩ ⟨by omega, by omega⟩ (fun h_4 => ?_) (fun h_4 => ?_)
          · skip
            refine jv_iconst hx hb dX2_isAccord_49 ?_
            exact hret () hW dX2_isAccord_50 (by first | exact Nat.le_of_ble_eq_true rfl | omega | (dsimp only [rm_X2_isAccord]; omega)) (by first | exact Nat.le_of_ble_eq_true rfl | omega | (dsimp only [rm_X2_isAccord]; omega)) (by first | exact zr_01 (Or.inl rfl) | exact zr_01 (Or.inr rfl) | exact zr_b _ | exact zr_01 (by omega)) (J_f (hac false (decide_eq_false (by omega))))
          · skip
            refine jv_iconst hx hb dX2_isAccord_45 ?_
            refine lv_goto (tgt := 50) hx hb dX2_isAccord_46 (by decide) ?_
            exact hret () hW dX2_isAccord_50 (by first | exact Nat.le_of_ble_eq_true rfl | omega | (dsimp only [rm_X2_isAccord]; omega)) (by first | exact Nat.le_of_ble_eq_true rfl | omega | (dsimp only [rm_X2_isAccord]; omega)) (by first | exact zr_01 (Or.inl rfl) | exact zr_01 (Or.inr rfl) | exact zr_b _ | exact zr_01 (by omega)) (J_t (hac true (decide_eq_true (by omega))))
      · skip
        refine lv_iload_n hx hb dX2_isAccord_27 rfl (lv_at hl 0 rfl) ?_
        refine jv_bipush hx hb 6 dX2_isAccord_28 (by decide +kernel) ?_
        refine jv_icmp_lt hx hb 45 dX2_isAccord_30 (by decide) ⟨by omega, by omega⟩ ⟨by omega, by omega⟩ (fun h_5 => ?_) (fun h_5 => ?_)
        · skip
          refine jv_iconst hx hb dX2_isAccord_45 ?_
          refine lv_goto (tgt := 50) hx hb dX2_isAccord_46 (by decide) ?_
          exact hret () hW dX2_isAccord_50 (by first | exact Nat.le_of_ble_eq_true rfl | omega | (dsimp only [rm_X2_isAccord]; omega)) (by first | exact Nat.le_of_ble_eq_true rfl | omega | (dsimp only [rm_X2_isAccord]; omega)) (by first | exact zr_01 (Or.inl rfl) | exact zr_01 (Or.inr rfl) | exact zr_b _ | exact zr_01 (by omega)) (J_t (hac true (decide_eq_true (by omega))))
        · skip
          refine lv_iload_n hx hb dX2_isAccord_33 rfl (lv_at hl 0 rfl) ?_
          refine jv_bipush hx hb 6 dX2_isAccord_34 (by decide +kernel) ?_
          refine jv_icmp_le hx hb 49 dX2_isAccord_36 (by decide) ⟨by omega, by omega⟩ ⟨by omega, by omega⟩ (fun h_6 => ?_) (fun h_6 => ?_)
          · skip
            refine jv_iconst hx hb dX2_isAccord_49 ?_
            exact hret () hW dX2_isAccord_50 (by first | exact Nat.le_of_ble_eq_true rfl | omega | (dsimp only [rm_X2_isAccord]; omega)) (by first | exact Nat.le_of_ble_eq_true rfl | omega | (dsimp only [rm_X2_isAccord]; omega)) (by first | exact zr_01 (Or.inl rfl) | exact zr_01 (Or.inr rfl) | exact zr_b _ | exact zr_01 (by omega)) (J_f (hac false (decide_eq_false (by omega))))
          · skip
            refine lv_iload_n hx hb dX2_isAccord_39 rfl (lv_at hl 0 rfl) ?_
            refine jv_bipush hx hb 10 dX2_isAccord_40 (by decide +kernel) ?_
            refine jv_icmp_ge hx hb 49 dX2_isAccord_42 (by decide) ⟨by omega, by omega⟩ ⟨by omega, by omega⟩ (fun h_7 => ?_) (fun h_7 => ?_)
            · skip
              refine jv_iconst hx hb dX2_isAccord_49 ?_
              exact hret () hW dX2_isAccord_50 (by first | exact Nat.le_of_ble_eq_true rfl | omega | (dsimp only [rm_X2_isAccord]; omega)) (by first | exact Nat.le_of_ble_eq_true rfl | omega | (dsimp only [rm_X2_isAccord]; omega)) (by first | exact zr_01 (Or.inl rfl) | exact zr_01 (Or.inr rfl) | exact zr_b _ | exact zr_01 (by omega)) (J_f (hac false (decide_eq_false (by omega))))
            · skip
              refine jv_iconst hx hb dX2_isAccord_45 ?_
              refine lv_goto (tgt := 50) hx hb dX2_isAccord_46 (by decide) ?_
              exact hret () hW dX2_isAccord_50 (by first | exact Nat.le_of_ble_eq_true rfl | omega | (dsimp only [rm_X2_isAccord]; omega)) (by first | exact Nat.le_of_ble_eq_true rfl | omega | (dsimp only [rm_X2_isAccord]; omega)) (by first | exact zr_01 (Or.inl rfl) | exact zr_01 (Or.inr rfl) | exact zr_b _ | exact zr_01 (by omega)) (J_t (hac true (decide_eq_true (by omega))))
  refine lv_iload_n hx hb dX2_isAccord_0 rfl (lv_at hl 0 rfl) ?_
  refine lv_iload_n hx hb dX2_isAccord_1 rfl (lv_at hl 1 rfl) ?_
  refine jv_icmp_ge hx hb 11 dX2_isAccord_2 (by decide) ⟨by omega, by omega⟩ ⟨by omega, by omega⟩ (fun h_8 => ?_) (fun h_8 => ?_)
  · skip
    refine lv_iload_n hx hb dX2_isAccord_11 rfl (lv_at hl 0 rfl) ?_
    refine lv_iload_n hx hb dX2_isAccord_12 rfl (lv_at hl 1 rfl) ?_
    refine jv_isub hx hb dX2_isAccord_13 ?_
    refine jv_eq (y := (if 0 ≤ x - y then x - y else 0 - (x - y))) (by split <;> omega) ?_
    exact j14 _ _ _ hW hl
  · skip
    refine lv_iload_n hx hb dX2_isAccord_5 rfl (lv_at hl 1 rfl) ?_
    refine lv_iload_n hx hb dX2_isAccord_6 rfl (lv_at hl 0 rfl) ?_
    refine jv_isub hx hb dX2_isAccord_7 ?_
    refine lv_goto (tgt := 14) hx hb dX2_isAccord_8 (by decide) ?_
    refine jv_eq (y := (if 0 ≤ x - y then x - y else 0 - (x - y))) (by split <;> omega) ?_
    exact j14 _ _ _ hW hl

abbrev rm_X2_isAccordOf : Room := { frames := 1, cells := 0, slots := 0, locals := 22 }
set_option maxHeartbeats 4000000 in
set_option maxRecDepth 100000 in
/-- are two pots in accord, by hand -/
theorem m_X2_isAccordOf (l : Launch) (κ : Kp) (q pp : Nat) (L : List Nat) (σ : Sg) (w0 w1 w2 : Int) (hLn : L.length = nn σ) (hI : Inv σ) (p o : Nat) (hp : p < nn σ ∧ o < nn σ) : CGi l yX2_isAccordOf wsX2_isAccordOf rm_X2_isAccordOf κ [.ref q, .int (J (p : Int)), .int (J (o : Int))] ((WS κ q pp L w0 w1 w2) ++ RP κ L σ) (fun r _ => r = J (bi (ac (σ 0 p) (σ 0 o)))) (fun (_ : Unit) => ((WS κ q pp L w0 w1 w2) ++ RP κ L σ)) := by
  refine entry_z (by decide) rfl (Nat.le_of_ble_eq_true rfl) ?_
  intro P e s m args below meth c ls A Q F hname hK hA hret hW hl
  obtain ⟨hx, hb, hml, hown, hts⟩ := id F
  have hn2 : ∀ w ∈ wsX20, w ∈ wsX2_isAccordOf := by decide +kernel
  have hN := hI.hN
  have hN10 := hI.n10
  have hbp := hI.at p (by omega)
  have hbo := hI.at o (by omega)
  refine lv_aload_n hx hb dX2_isAccordOf_0 rfl (lv_at hl 0 rfl) ?_
  refine jv_get (T := TX2) (N := 4) (v := .ref pp) hx hb hts hn2 hown hK hW 0 rfl rfl 3 (by decide) (List.mem_of_getElem? (i := 1) rfl) rfl dX2_isAccordOf_1 ?_
  refine lv_iload_n hx hb dX2_isAccordOf_4 rfl (lv_at hl 1 rfl) ?_
  refine jv_qld hx hb (hK.2.2.2.1) hW 1 rfl p (la L p) rfl (by omega) (by omega) (la_get (by omega)) dX2_isAccordOf_5 ?_
  refine jv_iconst hx hb dX2_isAccordOf_6 ?_
  refine jv_rld hx hb hK hW (i := p) (by omega) 1 rfl (by decide) dX2_isAccordOf_7 ?_
  refine jv_eq (y := (σ 0 p)) rfl ?_
  refine lv_aload_n hx hb dX2_isAccordOf_8 rfl (lv_at hl 0 rfl) ?_
  refine jv_get (T := TX2) (N := 4) (v := .ref pp) hx hb hts hn2 hown hK hW 0 rfl rfl 3 (by decide) (List.mem_of_getElem? (i := 1) rfl) rfl dX2_isAccordOf_9 ?_
  refine lv_iload_n hx hb dX2_isAccordOf_12 rfl (lv_at hl 2 rfl) ?_
  refine jv_qld hx hb (hK.2.2.2.1) hW 1 rfl o (la L o) rfl (by omega) (by omega) (la_get (by omega)) dX2_isAccordOf_13 ?_
  refine jv_iconst hx hb dX2_isAccordOf_14 ?_
  refine jv_rld hx hb hK hW (i := o) (by omega) 1 rfl (by decide) dX2_isAccordOf_15 ?_
  refine jv_eq (y := (σ 0 o)) rfl ?_
  refine fina_i (k := 0) (n := 0) (W2 := (fun _ => ((WS κ q pp L w0 w1 w2) ++ RP κ L σ))) hW (va_free hW.2.1 hW.2.2 hA [] rfl) (va_runS (As := [.int (J (σ 0 p)), .int (J (σ 0 o))]) (rest := []) F ((m_X2_isAccord l κ (σ 0 p) (σ 0 o) (by omega)) _) (va_cwS 2 hts gX2_isAccordOf_X2_isAccord rfl rfl rfl (by decide +kernel) ⟨(Nat.le_of_ble_eq_true rfl), (Nat.le_of_ble_eq_true rfl)⟩) (pre_S hK hW [] rfl (by decide)) rfl rfl hl.1 rfl (lv_room (Nat.le_of_ble_eq_true rfl)) dX2_isAccordOf_16 ⟨(by first | exact Nat.le_of_ble_eq_true rfl | omega | (dsimp only [rm_X2_isAccordOf, rm_X2_isAccord]; omega)), (by first | exact Nat.le_of_ble_eq_true rfl | omega | (dsimp only [rm_X2_isAccordOf, rm_X2_isAccord]; omega))⟩) (fun u H1 locs1 g1 g2 g3 g4 => St.joinQ hW hA [] [0, 1] [0, 1] rfl rfl rfl (by decide) rfl rfl g1 g2 g3 g4) (by first | exact Nat.le_of_ble_eq_true rfl | omega | (dsimp only [rm_X2_isAccordOf, rm_X2_isAccord]; omega)) (by first | exact Nat.le_of_ble_eq_true rfl | omega | (dsimp only [rm_X2_isAccordOf, rm_X2_isAccord]; omega)) (fun r_2 u H locs hp_1 hW => ?_)
  subst hp_1
  exact hret () hW dX2_isAccordOf_19 (by first | exact Nat.le_of_ble_eq_true rfl | omega | (dsimp only [rm_X2_isAccordOf]; omega)) (by first | exact Nat.le_of_ble_eq_true rfl | omega | (dsimp only [rm_X2_isAccordOf]; omega)) (by first | exact zr_01 (Or.inl rfl) | exact zr_01 (Or.inr rfl) | exact zr_b _ | exact zr_01 (by omega)) rfl

abbrev rm_X2_clashesOf : Room := { frames := 2, cells := 0, slots := 0, locals := 44 }
set_option maxHeartbeats 4000000 in
set_option maxRecDepth 100000 in
/-- with how many a pot clashes, by hand -/
theorem m_X2_clashesOf (l : Launch) (κ : Kp) (q pp : Nat) (L : List Nat) (σ : Sg) (w0 w1 w2 : Int) (hLn : L.length = nn σ) (hI : Inv σ) (p : Nat) (hp : p < nn σ) : CGi l yX2_clashesOf wsX2_clashesOf rm_X2_clashesOf κ [.ref q, .int (J (p : Int))] ((WS κ q pp L w0 w1 w2) ++ RP κ L σ) (fun r _ => r = J (cof σ p)) (fun (_ : Unit) => ((WS κ q pp L w0 w1 w2) ++ RP κ L σ)) := by
  refine entry_i (by decide) rfl (Nat.le_of_ble_eq_true rfl) ?_
  intro P e s m args below meth c ls A Q F hname hK hA hret hW hl
  obtain ⟨hx, hb, hml, hown, hts⟩ := id F
  have hn2 : ∀ w ∈ wsX20, w ∈ wsX2_clashesOf := by decide +kernel
  have hN := hI.hN
  have hN10 := hI.n10
  refine jv_iconst hx hb dX2_clashesOf_0 ?_
  refine lv_istore_n (lv' := [(2, .int (J 0)), (0, .ref q), (1, .int (J (p : Int)))]) hx hb dX2_clashesOf_1 rfl hl (by decide) rfl (fun ls hl => ?_)
  refine jv_iconst hx hb dX2_clashesOf_2 ?_
  refine lv_istore_n (lv' := [(3, .int (J 0)), (2, .int (J 0)), (0, .ref q), (1, .int (J (p : Int)))]) hx hb dX2_clashesOf_3 rfl hl (by decide) rfl (fun ls hl => ?_)
  suffices hlp : ∀ (n i : Nat), i ≤ (nn σ) → (nn σ) < i + n → ∀ (f : Int), ∀ (H : Heap) (locs : List Loc) (ls : Array Slot), (f = (fb_ct (kl σ p) i : Int)) → St κ A s.heap H locs ((WS κ q pp L w0 w1 w2) ++ RP κ L σ) → lv_has ls 4 [(3, .int (J (i : Int))), (2, .int (J f)), (0, .ref q), (1, .int (J (p : Int)))] → W P l e rm_X2_clashesOf s m args below meth c H locs 0 0 Q (F0 m 4 ls []) from
    hlp ((nn σ) + 1) 0 (Nat.zero_le _) (by omega) 0 _ _ _ (by simp [fb_ct, fb_sm]) hW hl
  intro n
  induction n with
  | zero => intro i h1 h2; exact absurd h2 (by omega)
  | succ n ih =>
    intro i hi hn f H locs ls q_f hW hl
    refine lv_iload_n hx hb dX2_clashesOf_4 rfl (lv_at hl 0 rfl) ?_
    refine lv_aload_n hx hb dX2_clashesOf_5 rfl (lv_at hl 2 rfl) ?_
    refine jv_get (T := TX2) (N := 4) (v := .ref pp) hx hb hts hn2 hown hK hW 0 rfl rfl 3 (by decide) (List.mem_of_getElem? (i := 1) rfl) rfl dX2_clashesOf_6 ?_
    refine jv_qlen hx hb hK (hK.2.2.2.1) hW 1 rfl dX2_clashesOf_9 ?_
    refine jv_eq (y := (nn σ : Int)) (by rw [hLn]) ?_
    refine jv_icmp_ge hx hb 52 dX2_clashesOf_10 (by decide) ⟨by omega, by omega⟩ ⟨by omega, by omega⟩ (fun h_1 => ?_) (fun h_1 => ?_)
    · skip
      refine lv_iload_n hx hb dX2_clashesOf_52 rfl (lv_at hl 1 rfl) ?_
      exact hret () hW dX2_clashesOf_53 (by first | exact Nat.le_of_ble_eq_true rfl | omega | (dsimp only [rm_X2_clashesOf]; omega)) (by first | exact Nat.le_of_ble_eq_true rfl | omega | (dsimp only [rm_X2_clashesOf]; omega)) (by rw [q_f, show i = nn σ by omega, cof_kl])
    · skip
      refine lv_iload_n hx hb dX2_clashesOf_13 rfl (lv_at hl 1 rfl) ?_
      refine lv_aload_n hx hb dX2_clashesOf_14 rfl (lv_at hl 2 rfl) ?_
      refine lv_iload_n hx hb dX2_clashesOf_15 rfl (lv_at hl 3 rfl) ?_
      refine fina_i (k := 0) (n := 0) (W2 := (fun _ => ((WS κ q pp L w0 w1 w2) ++ RP κ L σ))) hW (va_freeP hW.2.1 hW.2.2 hA [0, 1] rfl) (va_runV (As := [.int (J (p : Int))]) (rest := [.int (J f)]) F ((m_X2_sounds l κ q pp L σ w0 w1 w2 hLn hI p (by omega)) _) (cwV 1 hts gX2_clashesOf_X2_sounds rfl rfl rfl (by decide +kernel) ⟨(Nat.le_of_ble_eq_true rfl), (Nat.le_of_ble_eq_true rfl)⟩) (pre_VP hK hW [0, 1] rfl (by decide) 2 0 rfl rfl) rfl rfl hl.1 rfl (lv_room (Nat.le_of_ble_eq_true rfl)) dX2_clashesOf_16 ⟨(by first | exact Nat.le_of_ble_eq_true rfl | omega | (dsimp only [rm_X2_clashesOf, rm_X2_sounds]; omega)), (by first | exact Nat.le_of_ble_eq_true rfl | omega | (dsimp only [rm_X2_clashesOf, rm_X2_sounds]; omega))⟩) (fun u H1 locs1 g1 g2 g3 g4 => St.joinP hW hA [0, 1] [] [0, 1] rfl rfl rfl (by decide) rfl rfl g1 g2 g3 g4) (by first | exact Nat.le_of_ble_eq_true rfl | omega | (dsimp only [rm_X2_clashesOf, rm_X2_sounds]; omega)) (by first | exact Nat.le_of_ble_eq_true rfl | omega | (dsimp only [rm_X2_clashesOf, rm_X2_sounds]; omega)) (fun r_3 u H locs hp_2 hW => ?_)
      subst hp_2
      refine jv_ifb_eq (b := (sn σ p)) hx hb 43 dX2_clashesOf_19 (by decide) (fun h_4 => ?_) (fun h_4 => ?_)
      · skip
        refine jv_iconst hx hb dX2_clashesOf_43 ?_
        refine jv_iadd hx hb dX2_clashesOf_44 ?_
        refine lv_istore_n (lv' := [(2, .int (J (f + 0))), (3, .int (J (i : Int))), (0, .ref q), (1, .int (J (p : Int)))]) hx hb dX2_clashesOf_45 rfl hl (by decide) rfl (fun ls hl => ?_)
        refine jv_iinc (k := 1) (z := (i : Int)) (lv' := [(3, .int (J ((i : Int) + 1))), (2, .int (J (f + 0))), (0, .ref q), (1, .int (J (p : Int)))]) hx hb dX2_clashesOf_46 hl rfl (by decide) rfl (fun ls hl => ?_)
        refine lv_goto (tgt := 4) hx hb dX2_clashesOf_49 (by decide) ?_
        exact ih (i + 1) (by omega) (by omega) (f + 0) _ _ _ (by simp [fb_ct_succ, q_f, kl, h_4]) hW hl
      · skip
        refine lv_aload_n hx hb dX2_clashesOf_22 rfl (lv_at hl 2 rfl) ?_
        refine lv_iload_n hx hb dX2_clashesOf_23 rfl (lv_at hl 0 rfl) ?_
        refine fina_i (k := 0) (n := 0) (W2 := (fun _ => ((WS κ q pp L w0 w1 w2) ++ RP κ L σ))) hW (va_freeP hW.2.1 hW.2.2 hA [0, 1] rfl) (va_runV (As := [.int (J (i : Int))]) (rest := [.int (J f)]) F ((m_X2_sounds l κ q pp L σ w0 w1 w2 hLn hI i (by omega)) _) (cwV 1 hts gX2_clashesOf_X2_sounds rfl rfl rfl (by decide +kernel) ⟨(Nat.le_of_ble_eq_true rfl), (Nat.le_of_ble_eq_true rfl)⟩) (pre_VP hK hW [0, 1] rfl (by decide) 2 0 rfl rfl) rfl rfl hl.1 rfl (lv_room (Nat.le_of_ble_eq_true rfl)) dX2_clashesOf_24 ⟨(by first | exact Nat.le_of_ble_eq_true rfl | omega | (dsimp only [rm_X2_clashesOf, rm_X2_sounds]; omega)), (by first | exact Nat.le_of_ble_eq_true rfl | omega | (dsimp only [rm_X2_clashesOf, rm_X2_sounds]; omega))⟩) (fun u H1 locs1 g1 g2 g3 g4 => St.joinP hW hA [0, 1] [] [0, 1] rfl rfl rfl (by decide) rfl rfl g1 g2 g3 g4) (by first | exact Nat.le_of_ble_eq_true rfl | omega | (dsimp only [rm_X2_clashesOf, rm_X2_sounds]; omega)) (by first | exact Nat.le_of_ble_eq_true rfl | omega | (dsimp only [rm_X2_clashesOf, rm_X2_sounds]; omega)) (fun r_6 u H locs hp_5 hW => ?_)
        subst hp_5
        refine jv_ifb_eq (b := (sn σ i)) hx hb 43 dX2_clashesOf_27 (by decide) (fun h_7 => ?_) (fun h_7 => ?_)
        · skip
          refine jv_iconst hx hb dX2_clashesOf_43 ?_
          refine jv_iadd hx hb dX2_clashesOf_44 ?_
          refine lv_istore_n (lv' := [(2, .int (J (f + 0))), (3, .int (J (i : Int))), (0, .ref q), (1, .int (J (p : Int)))]) hx hb dX2_clashesOf_45 rfl hl (by decide) rfl (fun ls hl => ?_)
          refine jv_iinc (k := 1) (z := (i : Int)) (lv' := [(3, .int (J ((i : Int) + 1))), (2, .int (J (f + 0))), (0, .ref q), (1, .int (J (p : Int)))]) hx hb dX2_clashesOf_46 hl rfl (by decide) rfl (fun ls hl => ?_)
          refine lv_goto (tgt := 4) hx hb dX2_clashesOf_49 (by decide) ?_
          exact ih (i + 1) (by omega) (by omega) (f + 0) _ _ _ (by simp [fb_ct_succ, q_f, kl, h_4, h_7]) hW hl
        · skip
          refine lv_aload_n hx hb dX2_clashesOf_30 rfl (lv_at hl 2 rfl) ?_
          refine lv_iload_n hx hb dX2_clashesOf_31 rfl (lv_at hl 3 rfl) ?_
          refine lv_iload_n hx hb dX2_clashesOf_32 rfl (lv_at hl 0 rfl) ?_
          refine fina_i (k := 0) (n := 0) (W2 := (fun _ => ((WS κ q pp L w0 w1 w2) ++ RP κ L σ))) hW (va_freeP hW.2.1 hW.2.2 hA [0, 1] rfl) (va_runV (As := [.int (J (p : Int)), .int (J (i : Int))]) (rest := [.int (J f)]) F ((m_X2_isAccordOf l κ q pp L σ w0 w1 w2 hLn hI p i ⟨by omega, by omega⟩) _) (cwV 2 hts gX2_clashesOf_X2_isAccordOf rfl rfl rfl (by decide +kernel) ⟨(Nat.le_of_ble_eq_true rfl), (Nat.le_of_ble_eq_true rfl)⟩) (pre_VP hK hW [0, 1] rfl (by decide) 2 0 rfl rfl) rfl rfl hl.1 rfl (lv_room (Nat.le_of_ble_eq_true rfl)) dX2_clashesOf_33 ⟨(by first | exact Nat.le_of_ble_eq_true rfl | omega | (dsimp only [rm_X2_clashesOf, rm_X2_isAccordOf]; omega)), (by first | exact Nat.le_of_ble_eq_true rfl | omega | (dsimp only [rm_X2_clashesOf, rm_X2_isAccordOf]; omega))⟩) (fun u H1 locs1 g1 g2 g3 g4 => St.joinP hW hA [0, 1] [] [0, 1] rfl rfl rfl (by decide) rfl rfl g1 g2 g3 g4) (by first | exact Nat.le_of_ble_eq_true rfl | omega | (dsimp only [rm_X2_clashesOf, rm_X2_isAccordOf]; omega)) (by first | exact Nat.le_of_ble_eq_true rfl | omega | (dsimp only [rm_X2_clashesOf, rm_X2_isAccordOf]; omega)) (fun r_9 u H locs hp_8 hW => ?_)
          subst hp_8
          refine jv_ifb_ne (b := (ac (σ 0 p) (σ 0 i))) hx hb 43 dX2_clashesOf_36 (by decide) (fun h_10 => ?_) (fun h_10 => ?_)
          · skip
            refine jv_iconst hx hb dX2_clashesOf_43 ?_
            refine jv_iadd hx hb dX2_clashesOf_44 ?_
            refine lv_istore_n (lv' := [(2, .int (J (f + 0))), (3, .int (J (i : Int))), (0, .ref q), (1, .int (J (p : Int)))]) hx hb dX2_clashesOf_45 rfl hl (by decide) rfl (fun ls hl => ?_)
            refine jv_iinc (k := 1) (z := (i : Int)) (lv' := [(3, .int (J ((i : Int) + 1))), (2, .int (J (f + 0))), (0, .ref q), (1, .int (J (p : Int)))]) hx hb dX2_clashesOf_46 hl rfl (by decide) rfl (fun ls hl => ?_)
            refine lv_goto (tgt := 4) hx hb dX2_clashesOf_49 (by decide) ?_
            exact ih (i + 1) (by omega) (by omega) (f + 0) _ _ _ (by simp [fb_ct_succ, q_f, kl, h_4, h_7, h_10]) hW hl
          · skip
            refine jv_iconst hx hb dX2_clashesOf_39 ?_
            refine lv_goto (tgt := 44) hx hb dX2_clashesOf_40 (by decide) ?_
            refine jv_iadd hx hb dX2_clashesOf_44 ?_
            refine lv_istore_n (lv' := [(2, .int (J (f + 1))), (3, .int (J (i : Int))), (0, .ref q), (1, .int (J (p : Int)))]) hx hb dX2_clashesOf_45 rfl hl (by decide) rfl (fun ls hl => ?_)
            refine jv_iinc (k := 1) (z := (i : Int)) (lv' := [(3, .int (J ((i : Int) + 1))), (2, .int (J (f + 1))), (0, .ref q), (1, .int (J (p : Int)))]) hx hb dX2_clashesOf_46 hl rfl (by decide) rfl (fun ls hl => ?_)
            refine lv_goto (tgt := 4) hx hb dX2_clashesOf_49 (by decide) ?_
            exact ih (i + 1) (by omega) (by omega) (f + 1) _ _ _ (by simp [fb_ct_succ, q_f, kl, h_4, h_7, h_10]) hW hl

abbrev rm_X2_clashes : Room := { frames := 2, cells := 0, slots := 0, locals := 44 }
set_option maxHeartbeats 4000000 in
set_option maxRecDepth 100000 in
/-- how many pairs clash, by hand -/
theorem m_X2_clashes (l : Launch) (κ : Kp) (q pp : Nat) (L : List Nat) (σ : Sg) (w0 w1 w2 : Int) (hLn : L.length = nn σ) (hI : Inv σ) : CGi l yX2_clashes wsX2_clashes rm_X2_clashes κ [.ref q] ((WS κ q pp L w0 w1 w2) ++ RP κ L σ) (fun r _ => r = J (ccl σ)) (fun (_ : Unit) => ((WS κ q pp L w0 w1 w2) ++ RP κ L σ)) := by
  refine entry_i (by decide) rfl (Nat.le_of_ble_eq_true rfl) ?_
  intro P e s m args below meth c ls A Q F hname hK hA hret hW hl
  obtain ⟨hx, hb, hml, hown, hts⟩ := id F
  have hn2 : ∀ w ∈ wsX20, w ∈ wsX2_clashes := by decide +kernel
  have hN := hI.hN
  have hN10 := hI.n10
  refine jv_iconst hx hb dX2_clashes_0 ?_
  refine lv_istore_n (lv' := [(1, .int (J 0)), (0, .ref q)]) hx hb dX2_clashes_1 rfl hl (by decide) rfl (fun ls hl => ?_)
  refine jv_iconst hx hb dX2_clashes_2 ?_
  refine lv_istore_n (lv' := [(2, .int (J 0)), (1, .int (J 0)), (0, .ref q)]) hx hb dX2_clashes_3 rfl hl (by decide) rfl (fun ls hl => ?_)
  suffices hlp : ∀ (n i : Nat), i ≤ (nn σ) → (nn σ) < i + n → ∀ (f : Int), ∀ (H : Heap) (locs : List Loc) (ls : Array Slot), (f = (prs σ i : Int)) → St κ A s.heap H locs ((WS κ q pp L w0 w1 w2) ++ RP κ L σ) → lv_has ls 4 [(2, .int (J (i : Int))), (1, .int (J f)), (0, .ref q)] → W P l e rm_X2_clashes s m args below meth c H locs 0 0 Q (F0 m 4 ls []) from
    hlp ((nn σ) + 1) 0 (Nat.zero_le _) (by omega) 0 _ _ _ rfl hW hl
  intro n
  induction n with
  | zero => intro i h1 h2; exact absurd h2 (by omega)
  | succ n ih =>
    intro i hi hn f H locs ls q_f hW hl
    refine lv_iload_n hx hb dX2_clashes_4 rfl (lv_at hl 0 rfl) ?_
    refine lv_aload_n hx hb dX2_clashes_5 rfl (lv_at hl 2 rfl) ?_
    refine jv_get (T := TX2) (N := 4) (v := .ref pp) hx hb hts hn2 hown hK hW 0 rfl rfl 3 (by decide) (List.mem_of_getElem? (i := 1) rfl) rfl dX2_clashes_6 ?_
    refine jv_qlen hx hb hK (hK.2.2.2.1) hW 1 rfl dX2_clashes_9 ?_
    refine jv_eq (y := (nn σ : Int)) (by rw [hLn]) ?_
    refine jv_icmp_ge hx hb 65 dX2_clashes_10 (by decide) ⟨by omega, by omega⟩ ⟨by omega, by omega⟩ (fun h_1 => ?_) (fun h_1 => ?_)
    · skip
      refine lv_iload_n hx hb dX2_clashes_65 rfl (lv_at hl 1 rfl) ?_
      exact hret () hW dX2_clashes_66 (by first | exact Nat.le_of_ble_eq_true rfl | omega | (dsimp only [rm_X2_clashes]; omega)) (by first | exact Nat.le_of_ble_eq_true rfl | omega | (dsimp only [rm_X2_clashes]; omega)) (by rw [q_f, show i = nn σ by omega, ccl_prs])
    · skip
      refine jv_iconst hx hb dX2_clashes_13 ?_
      refine lv_istore_n (lv' := [(3, .int (J 0)), (2, .int (J (i : Int))), (1, .int (J f)), (0, .ref q)]) hx hb dX2_clashes_14 rfl hl (by decide) rfl (fun ls hl => ?_)
      suffices hlq : ∀ (n j : Nat), j ≤ i → i < j + n → ∀ (g : Int), ∀ (H : Heap) (locs : List Loc) (ls : Array Slot), (g = (prs σ i : Int) + (fb_ct (kl σ i) j : Int)) → St κ A s.heap H locs ((WS κ q pp L w0 w1 w2) ++ RP κ L σ) → lv_has ls 4 [(3, .int (J (j : Int))), (2, .int (J (i : Int))), (1, .int (J g)), (0, .ref q)] → W P l e rm_X2_clashes s m args below meth c H locs 0 0 Q (F0 m 15 ls []) from
        hlq (i + 1) 0 (Nat.zero_le _) (by omega) f _ _ _ (by rw [q_f]; show _ = (prs σ i : Int) + 0; omega) hW hl
      intro n
      induction n with
      | zero => intro j h1 h2; exact absurd h2 (by omega)
      | succ n ih_hlq =>
        intro j hi hn g H locs ls q_g hW hl
        refine lv_iload_n hx hb dX2_clashes_15 rfl (lv_at hl 0 rfl) ?_
        refine lv_iload_n hx hb dX2_clashes_16 rfl (lv_at hl 1 rfl) ?_
        refine jv_icmp_ge hx hb 59 dX2_clashes_17 (by decide) ⟨by omega, by omega⟩ ⟨by omega, by omega⟩ (fun h_2 => ?_) (fun h_2 => ?_)
        · skip
          refine jv_iinc (k := 1) (z := (i : Int)) (lv' := [(2, .int (J ((i : Int) + 1))), (3, .int (J (j : Int))), (1, .int (J g)), (0, .ref q)]) hx hb dX2_clashes_59 hl rfl (by decide) rfl (fun ls hl => ?_)
          refine lv_goto (tgt := 4) hx hb dX2_clashes_62 (by decide) ?_
          exact ih (i + 1) (by omega) (by omega) g _ _ _ (by rw [q_g, show j = i by omega]; rfl) hW (lv_sub hl [0, 2, 3] rfl)
        · skip
          refine lv_iload_n hx hb dX2_clashes_20 rfl (lv_at hl 2 rfl) ?_
          refine lv_aload_n hx hb dX2_clashes_21 rfl (lv_at hl 3 rfl) ?_
          refine lv_iload_n hx hb dX2_clashes_22 rfl (lv_at hl 1 rfl) ?_
          refine fina_i (k := 0) (n := 0) (W2 := (fun _ => ((WS κ q pp L w0 w1 w2) ++ RP κ L σ))) hW (va_freeP hW.2.1 hW.2.2 hA [0, 1] rfl) (va_runV (As := [.int (J (i : Int))]) (rest := [.int (J g)]) F ((m_X2_sounds l κ q pp L σ w0 w1 w2 hLn hI i (by omega)) _) (cwV 1 hts gX2_clashes_X2_sounds rfl rfl rfl (by decide +kernel) ⟨(Nat.le_of_ble_eq_true rfl), (Nat.le_of_ble_eq_true rfl)⟩) (pre_VP hK hW [0, 1] rfl (by decide) 2 0 rfl rfl) rfl rfl hl.1 rfl (lv_room (Nat.le_of_ble_eq_true rfl)) dX2_clashes_23 ⟨(by first | exact Nat.le_of_ble_eq_true rfl | omega | (dsimp only [rm_X2_clashes, rm_X2_sounds]; omega)), (by first | exact Nat.le_of_ble_eq_true rfl | omega | (dsimp only [rm_X2_clashes, rm_X2_sounds]; omega))⟩) (fun u H1 locs1 g1 g2 g3 g4 => St.joinP hW hA [0, 1] [] [0, 1] rfl rfl rfl (by decide) rfl rfl g1 g2 g3 g4) (by first | exact Nat.le_of_ble_eq_true rfl | omega | (dsimp only [rm_X2_clashes, rm_X2_sounds]; omega)) (by first | exact Nat.le_of_ble_eq_true rfl | omega | (dsimp only [rm_X2_clashes, rm_X2_sounds]; omega)) (fun r_4 u H locs hp_3 hW => ?_)
          subst hp_3
          refine jv_ifb_eq (b := (sn σ i)) hx hb 50 dX2_clashes_26 (by decide) (fun h_5 => ?_) (fun h_5 => ?_)
          · skip
            refine jv_iconst hx hb dX2_clashes_50 ?_
            refine jv_iadd hx hb dX2_clashes_51 ?_
            refine lv_istore_n (lv' := [(1, .int (J (g + 0))), (3, .int (J (j : Int))), (2, .int (J (i : Int))), (0, .ref q)]) hx hb dX2_clashes_52 rfl hl (by decide) rfl (fun ls hl => ?_)
            refine jv_iinc (k := 1) (z := (j : Int)) (lv' := [(3, .int (J ((j : Int) + 1))), (1, .int (J (g + 0))), (2, .int (J (i : Int))), (0, .ref q)]) hx hb dX2_clashes_53 hl rfl (by decide) rfl (fun ls hl => ?_)
            refine lv_goto (tgt := 15) hx hb dX2_clashes_56 (by decide) ?_
            exact ih_hlq (j + 1) (by omega) (by omega) (g + 0) _ _ _ (by rw [fb_ct_succ, q_g]; simp [kl, h_5]; try omega) hW (lv_sub hl [0, 2, 1, 3] rfl)
          · skip
            refine lv_aload_n hx hb dX2_clashes_29 rfl (lv_at hl 3 rfl) ?_
            refine lv_iload_n hx hb dX2_clashes_30 rfl (lv_at hl 0 rfl) ?_
            refine fina_i (k := 0) (n := 0) (W2 := (fun _ => ((WS κ q pp L w0 w1 w2) ++ RP κ L σ))) hW (va_freeP hW.2.1 hW.2.2 hA [0, 1] rfl) (va_runV (As := [.int (J (j : Int))]) (rest := [.int (J g)]) F ((m_X2_sounds l κ q pp L σ w0 w1 w2 hLn hI j (by omega)) _) (cwV 1 hts gX2_clashes_X2_sounds rfl rfl rfl (by decide +kernel) ⟨(Nat.le_of_ble_eq_true rfl), (Nat.le_of_ble_eq_true rfl)⟩) (pre_VP hK hW [0, 1] rfl (by decide) 2 0 rfl rfl) rfl rfl hl.1 rfl (lv_room (Nat.le_of_ble_eq_true rfl)) dX2_clashes_31 ⟨(by first | exact Nat.le_of_ble_eq_true rfl | omega | (dsimp only [rm_X2_clashes, rm_X2_sounds]; omega)), (by first | exact Nat.le_of_ble_eq_true rfl | omega | (dsimp only [rm_X2_clashes, rm_X2_sounds]; omega))⟩) (fun u H1 locs1 g1 g2 g3 g4 => St.joinP hW hA [0, 1] [] [0, 1] rfl rfl rfl (by decide) rfl rfl g1 g2 g3 g4) (by first | exact Nat.le_of_ble_eq_true rfl | omega | (dsimp only [rm_X2_clashes, rm_X2_sounds]; omega)) (by first | exact Nat.le_of_ble_eq_true rfl | omega | (dsimp only [rm_X2_clashes, rm_X2_sounds]; omega)) (fun r_7 u H locs hp_6 hW => ?_)
            subst hp_6
            refine jv_ifb_eq (b := (sn σ j)) hx hb 50 dX2_clashes_34 (by decide) (fun h_8 => ?_) (fun h_8 => ?_)
            · skip
              refine jv_iconst hx hb dX2_clashes_50 ?_
              refine jv_iadd hx hb dX2_clashes_51 ?_
              refine lv_istore_n (lv' := [(1, .int (J (g + 0))), (3, .int (J (j : Int))), (2, .int (J (i : Int))), (0, .ref q)]) hx hb dX2_clashes_52 rfl hl (by decide) rfl (fun ls hl => ?_)
              refine jv_iinc (k := 1) (z := (j : Int)) (lv' := [(3, .int (J ((j : Int) + 1))), (1, .int (J (g + 0))), (2, .int (J (i : Int))), (0, .ref q)]) hx hb dX2_clashes_53 hl rfl (by decide) rfl (fun ls hl => ?_)
              refine lv_goto (tgt := 15) hx hb dX2_clashes_56 (by decide) ?_
              exact ih_hlq (j + 1) (by omega) (by omega) (g + 0) _ _ _ (by rw [fb_ct_succ, q_g]; simp [kl, h_5, h_8]; try omega) hW (lv_sub hl [0, 2, 1, 3] rfl)
            · skip
              refine lv_aload_n hx hb dX2_clashes_37 rfl (lv_at hl 3 rfl) ?_
              refine lv_iload_n hx hb dX2_clashes_38 rfl (lv_at hl 1 rfl) ?_
              refine lv_iload_n hx hb dX2_clashes_39 rfl (lv_at hl 0 rfl) ?_
              refine fina_i (k := 0) (n := 0) (W2 := (fun _ => ((WS κ q pp L w0 w1 w2) ++ RP κ L σ))) hW (va_freeP hW.2.1 hW.2.2 hA [0, 1] rfl) (va_runV (As := [.int (J (i : Int)), .int (J (j : Int))]) (rest := [.int (J g)]) F ((m_X2_isAccordOf l κ q pp L σ w0 w1 w2 hLn hI i j ⟨by omega, by omega⟩) _) (cwV 2 hts gX2_clashes_X2_isAccordOf rfl rfl rfl (by decide +kernel) ⟨(Nat.le_of_ble_eq_true rfl), (Nat.le_of_ble_eq_true rfl)⟩) (pre_VP hK hW [0, 1] rfl (by decide) 2 0 rfl rfl) rfl rfl hl.1 rfl (lv_room (Nat.le_of_ble_eq_true rfl)) dX2_clashes_40 ⟨(by first | exact Nat.le_of_ble_eq_true rfl | omega | (dsimp only [rm_X2_clashes, rm_X2_isAccordOf]; omega)), (by first | exact Nat.le_of_ble_eq_true rfl | omega | (dsimp only [rm_X2_clashes, rm_X2_isAccordOf]; omega))⟩) (fun u H1 locs1 g1 g2 g3 g4 => St.joinP hW hA [0, 1] [] [0, 1] rfl rfl rfl (by decide) rfl rfl g1 g2 g3 g4) (by first | exact Nat.le_of_ble_eq_true rfl | omega | (dsimp only [rm_X2_clashes, rm_X2_isAccordOf]; omega)) (by first | exact Nat.le_of_ble_eq_true rfl | omega | (dsimp only [rm_X2_clashes, rm_X2_isAccordOf]; omega)) (fun r_10 u H locs hp_9 hW => ?_)
              subst hp_9
              refine jv_ifb_ne (b := (ac (σ 0 i) (σ 0 j))) hx hb 50 dX2_clashes_43 (by decide) (fun h_11 => ?_) (fun h_11 => ?_)
              · skip
                refine jv_iconst hx hb dX2_clashes_50 ?_
                refine jv_iadd hx hb dX2_clashes_51 ?_
                refine lv_istore_n (lv' := [(1, .int (J (g + 0))), (3, .int (J (j : Int))), (2, .int (J (i : Int))), (0, .ref q)]) hx hb dX2_clashes_52 rfl hl (by decide) rfl (fun ls hl => ?_)
                refine jv_iinc (k := 1) (z := (j : Int)) (lv' := [(3, .int (J ((j : Int) + 1))), (1, .int (J (g + 0))), (2, .int (J (i : Int))), (0, .ref q)]) hx hb dX2_clashes_53 hl rfl (by decide) rfl (fun ls hl => ?_)
                refine lv_goto (tgt := 15) hx hb dX2_clashes_56 (by decide) ?_
                exact ih_hlq (j + 1) (by omega) (by omega) (g + 0) _ _ _ (by rw [fb_ct_succ, q_g]; simp [kl, h_5, h_8, h_11]; try omega) hW (lv_sub hl [0, 2, 1, 3] rfl)
              · skip
                refine jv_iconst hx hb dX2_clashes_46 ?_
                refine lv_goto (tgt := 51) hx hb dX2_clashes_47 (by decide) ?_
                refine jv_iadd hx hb dX2_clashes_51 ?_
                refine lv_istore_n (lv' := [(1, .int (J (g + 1))), (3, .int (J (j : Int))), (2, .int (J (i : Int))), (0, .ref q)]) hx hb dX2_clashes_52 rfl hl (by decide) rfl (fun ls hl => ?_)
                refine jv_iinc (k := 1) (z := (j : Int)) (lv' := [(3, .int (J ((j : Int) + 1))), (1, .int (J (g + 1))), (2, .int (J (i : Int))), (0, .ref q)]) hx hb dX2_clashes_53 hl rfl (by decide) rfl (fun ls hl => ?_)
                refine lv_goto (tgt := 15) hx hb dX2_clashes_56 (by decide) ?_
                exact ih_hlq (j + 1) (by omega) (by omega) (g + 1) _ _ _ (by rw [fb_ct_succ, q_g]; simp [kl, h_5, h_8, h_11]; try omega) hW (lv_sub hl [0, 2, 1, 3] rfl)

abbrev rm_X2_harmony : Room := { frames := 2, cells := 0, slots := 0, locals := 44 }
set_option maxHeartbeats 4000000 in
set_option maxRecDepth 100000 in
/-- the harmony, by hand -/
theorem m_X2_harmony (l : Launch) (κ : Kp) (q pp : Nat) (L : List Nat) (σ : Sg) (w0 w1 w2 : Int) (hLn : L.length = nn σ) (hI : Inv σ) : CGi l yX2_harmony wsX2_harmony rm_X2_harmony κ [.ref q] ((WS κ q pp L w0 w1 w2) ++ RP κ L σ) (fun r _ => r = J (hm σ)) (fun (_ : Unit) => ((WS κ q pp L w0 w1 w2) ++ RP κ L σ)) := by
  refine entry_i (by decide) rfl (Nat.le_of_ble_eq_true rfl) ?_
  intro P e s m args below meth c ls A Q F hname hK hA hret hW hl
  obtain ⟨hx, hb, hml, hown, hts⟩ := id F
  have hn2 : ∀ w ∈ wsX20, w ∈ wsX2_harmony := by decide +kernel
  have hN := hI.hN
  have hN10 := hI.n10
  refine jv_iconst hx hb dX2_harmony_0 ?_
  refine lv_istore_n (lv' := [(1, .int (J 0)), (0, .ref q)]) hx hb dX2_harmony_1 rfl hl (by decide) rfl (fun ls hl => ?_)
  refine jv_iconst hx hb dX2_harmony_2 ?_
  refine lv_istore_n (lv' := [(2, .int (J 0)), (1, .int (J 0)), (0, .ref q)]) hx hb dX2_harmony_3 rfl hl (by decide) rfl (fun ls hl => ?_)
  suffices hlp : ∀ (n i : Nat), i ≤ (nn σ) → (nn σ) < i + n → ∀ (f : Int), ∀ (H : Heap) (locs : List Loc) (ls : Array Slot), (f = hmr σ i) → St κ A s.heap H locs ((WS κ q pp L w0 w1 w2) ++ RP κ L σ) → lv_has ls 4 [(2, .int (J (i : Int))), (1, .int (J f)), (0, .ref q)] → W P l e rm_X2_harmony s m args below meth c H locs 0 0 Q (F0 m 4 ls []) from
    hlp ((nn σ) + 1) 0 (Nat.zero_le _) (by omega) 0 _ _ _ rfl hW hl
  intro n
  induction n with
  | zero => intro i h1 h2; exact absurd h2 (by omega)
  | succ n ih =>
    intro i hi hn f H locs ls q_f hW hl
    refine lv_iload_n hx hb dX2_harmony_4 rfl (lv_at hl 0 rfl) ?_
    refine lv_aload_n hx hb dX2_harmony_5 rfl (lv_at hl 2 rfl) ?_
    refine jv_get (T := TX2) (N := 4) (v := .ref pp) hx hb hts hn2 hown hK hW 0 rfl rfl 3 (by decide) (List.mem_of_getElem? (i := 1) rfl) rfl dX2_harmony_6 ?_
    refine jv_qlen hx hb hK (hK.2.2.2.1) hW 1 rfl dX2_harmony_9 ?_
    refine jv_eq (y := (nn σ : Int)) (by rw [hLn]) ?_
    refine jv_icmp_ge hx hb 65 dX2_harmony_10 (by decide) ⟨by omega, by omega⟩ ⟨by omega, by omega⟩ (fun h_1 => ?_) (fun h_1 => ?_)
    · skip
      refine lv_iload_n hx hb dX2_harmony_65 rfl (lv_at hl 1 rfl) ?_
      exact hret () hW dX2_harmony_66 (by first | exact Nat.le_of_ble_eq_true rfl | omega | (dsimp only [rm_X2_harmony]; omega)) (by first | exact Nat.le_of_ble_eq_true rfl | omega | (dsimp only [rm_X2_harmony]; omega)) (by rw [q_f, show i = nn σ by omega, hm_hmr])
    · skip
      refine jv_iconst hx hb dX2_harmony_13 ?_
      refine lv_istore_n (lv' := [(3, .int (J 0)), (2, .int (J (i : Int))), (1, .int (J f)), (0, .ref q)]) hx hb dX2_harmony_14 rfl hl (by decide) rfl (fun ls hl => ?_)
      suffices hlq : ∀ (n j : Nat), j ≤ i → i < j + n → ∀ (g : Int), ∀ (H : Heap) (locs : List Loc) (ls : Array Slot), (g = hmr σ i + fb_si (hmp σ i) j) → St κ A s.heap H locs ((WS κ q pp L w0 w1 w2) ++ RP κ L σ) → lv_has ls 4 [(3, .int (J (j : Int))), (2, .int (J (i : Int))), (1, .int (J g)), (0, .ref q)] → W P l e rm_X2_harmony s m args below meth c H locs 0 0 Q (F0 m 15 ls []) from
        hlq (i + 1) 0 (Nat.zero_le _) (by omega) f _ _ _ (by rw [q_f]; show _ = hmr σ i + 0; omega) hW hl
      intro n
      induction n with
      | zero => intro j h1 h2; exact absurd h2 (by omega)
      | succ n ih_hlq =>
        intro j hi hn g H locs ls q_g hW hl
        refine lv_iload_n hx hb dX2_harmony_15 rfl (lv_at hl 0 rfl) ?_
        refine lv_iload_n hx hb dX2_harmony_16 rfl (lv_at hl 1 rfl) ?_
        refine jv_icmp_ge hx hb 59 dX2_harmony_17 (by decide) ⟨by omega, by omega⟩ ⟨by omega, by omega⟩ (fun h_2 => ?_) (fun h_2 => ?_)
        · skip
          refine jv_iinc (k := 1) (z := (i : Int)) (lv' := [(2, .int (J ((i : Int) + 1))), (3, .int (J (j : Int))), (1, .int (J g)), (0, .ref q)]) hx hb dX2_harmony_59 hl rfl (by decide) rfl (fun ls hl => ?_)
          refine lv_goto (tgt := 4) hx hb dX2_harmony_62 (by decide) ?_
          exact ih (i + 1) (by omega) (by omega) g _ _ _ (by rw [q_g, show j = i by omega]; rfl) hW (lv_sub hl [0, 2, 3] rfl)
        · skip
          refine lv_aload_n hx hb dX2_harmony_20 rfl (lv_at hl 3 rfl) ?_
          refine lv_iload_n hx hb dX2_harmony_21 rfl (lv_at hl 1 rfl) ?_
          refine fina_i (k := 0) (n := 0) (W2 := (fun _ => ((WS κ q pp L w0 w1 w2) ++ RP κ L σ))) hW (va_freeP hW.2.1 hW.2.2 hA [0, 1] rfl) (va_runV (As := [.int (J (i : Int))]) (rest := []) F ((m_X2_sounds l κ q pp L σ w0 w1 w2 hLn hI i (by omega)) _) (cwV 1 hts gX2_harmony_X2_sounds rfl rfl rfl (by decide +kernel) ⟨(Nat.le_of_ble_eq_true rfl), (Nat.le_of_ble_eq_true rfl)⟩) (pre_VP hK hW [0, 1] rfl (by decide) 2 0 rfl rfl) rfl rfl hl.1 rfl (lv_room (Nat.le_of_ble_eq_true rfl)) dX2_harmony_22 ⟨(by first | exact Nat.le_of_ble_eq_true rfl | omega | (dsimp only [rm_X2_harmony, rm_X2_sounds]; omega)), (by first | exact Nat.le_of_ble_eq_true rfl | omega | (dsimp only [rm_X2_harmony, rm_X2_sounds]; omega))⟩) (fun u H1 locs1 g1 g2 g3 g4 => St.joinP hW hA [0, 1] [] [0, 1] rfl rfl rfl (by decide) rfl rfl g1 g2 g3 g4) (by first | exact Nat.le_of_ble_eq_true rfl | omega | (dsimp only [rm_X2_harmony, rm_X2_sounds]; omega)) (by first | exact Nat.le_of_ble_eq_true rfl | omega | (dsimp only [rm_X2_harmony, rm_X2_sounds]; omega)) (fun r_4 u H locs hp_3 hW => ?_)
          subst hp_3
          refine jv_ifb_eq (b := (sn σ i)) hx hb 53 dX2_harmony_25 (by decide) (fun h_5 => ?_) (fun h_5 => ?_)
          · skip
            refine jv_iinc (k := 0) (z := (j : Int)) (lv' := [(3, .int (J ((j : Int) + 1))), (2, .int (J (i : Int))), (1, .int (J g)), (0, .ref q)]) hx hb dX2_harmony_53 hl rfl (by decide) rfl (fun ls hl => ?_)
            refine lv_goto (tgt := 15) hx hb dX2_harmony_56 (by decide) ?_
            exact ih_hlq (j + 1) (by omega) (by omega) g _ _ _ (by rw [fb_si_succ, q_g]; simp [hmp, h_5]; try omega) hW hl
          · skip
            refine lv_aload_n hx hb dX2_harmony_28 rfl (lv_at hl 3 rfl) ?_
            refine lv_iload_n hx hb dX2_harmony_29 rfl (lv_at hl 0 rfl) ?_
            refine fina_i (k := 0) (n := 0) (W2 := (fun _ => ((WS κ q pp L w0 w1 w2) ++ RP κ L σ))) hW (va_freeP hW.2.1 hW.2.2 hA [0, 1] rfl) (va_runV (As := [.int (J (j : Int))]) (rest := []) F ((m_X2_sounds l κ q pp L σ w0 w1 w2 hLn hI j (by omega)) _) (cwV 1 hts gX2_harmony_X2_sounds rfl rfl rfl (by decide +kernel) ⟨(Nat.le_of_ble_eq_true rfl), (Nat.le_of_ble_eq_true rfl)⟩) (pre_VP hK hW [0, 1] rfl (by decide) 2 0 rfl rfl) rfl rfl hl.1 rfl (lv_room (Nat.le_of_ble_eq_true rfl)) dX2_harmony_30 ⟨(by first | exact Nat.le_of_ble_eq_true rfl | omega | (dsimp only [rm_X2_harmony, rm_X2_sounds]; omega)), (by first | exact Nat.le_of_ble_eq_true rfl | omega | (dsimp only [rm_X2_harmony, rm_X2_sounds]; omega))⟩) (fun u H1 locs1 g1 g2 g3 g4 => St.joinP hW hA [0, 1] [] [0, 1] rfl rfl rfl (by decide) rfl rfl g1 g2 g3 g4) (by first | exact Nat.le_of_ble_eq_true rfl | omega | (dsimp only [rm_X2_harmony, rm_X2_sounds]; omega)) (by first | exact Nat.le_of_ble_eq_true rfl | omega | (dsimp only [rm_X2_harmony, rm_X2_sounds]; omega)) (fun r_7 u H locs hp_6 hW => ?_)
            subst hp_6
            refine jv_ifb_eq (b := (sn σ j)) hx hb 53 dX2_harmony_33 (by decide) (fun h_8 => ?_) (fun h_8 => ?_)
            · skip
              refine jv_iinc (k := 0) (z := (j : Int)) (lv' := [(3, .int (J ((j : Int) + 1))), (2, .int (J (i : Int))), (1, .int (J g)), (0, .ref q)]) hx hb dX2_harmony_53 hl rfl (by decide) rfl (fun ls hl => ?_)
              refine lv_goto (tgt := 15) hx hb dX2_harmony_56 (by decide) ?_
              exact ih_hlq (j + 1) (by omega) (by omega) g _ _ _ (by rw [fb_si_succ, q_g]; simp [hmp, h_5, h_8]; try omega) hW hl
            · skip
              refine lv_iload_n hx hb dX2_harmony_36 rfl (lv_at hl 2 rfl) ?_
              refine lv_aload_n hx hb dX2_harmony_37 rfl (lv_at hl 3 rfl) ?_
              refine lv_iload_n hx hb dX2_harmony_38 rfl (lv_at hl 1 rfl) ?_
              refine lv_iload_n hx hb dX2_harmony_39 rfl (lv_at hl 0 rfl) ?_
              refine fina_i (k := 0) (n := 0) (W2 := (fun _ => ((WS κ q pp L w0 w1 w2) ++ RP κ L σ))) hW (va_freeP hW.2.1 hW.2.2 hA [0, 1] rfl) (va_runV (As := [.int (J (i : Int)), .int (J (j : Int))]) (rest := [.int (J g)]) F ((m_X2_isAccordOf l κ q pp L σ w0 w1 w2 hLn hI i j ⟨by omega, by omega⟩) _) (cwV 2 hts gX2_harmony_X2_isAccordOf rfl rfl rfl (by decide +kernel) ⟨(Nat.le_of_ble_eq_true rfl), (Nat.le_of_ble_eq_true rfl)⟩) (pre_VP hK hW [0, 1] rfl (by decide) 2 0 rfl rfl) rfl rfl hl.1 rfl (lv_room (Nat.le_of_ble_eq_true rfl)) dX2_harmony_40 ⟨(by first | exact Nat.le_of_ble_eq_true rfl | omega | (dsimp only [rm_X2_harmony, rm_X2_isAccordOf]; omega)), (by first | exact Nat.le_of_ble_eq_true rfl | omega | (dsimp only [rm_X2_harmony, rm_X2_isAccordOf]; omega))⟩) (fun u H1 locs1 g1 g2 g3 g4 => St.joinP hW hA [0, 1] [] [0, 1] rfl rfl rfl (by decide) rfl rfl g1 g2 g3 g4) (by first | exact Nat.le_of_ble_eq_true rfl | omega | (dsimp only [rm_X2_harmony, rm_X2_isAccordOf]; omega)) (by first | exact Nat.le_of_ble_eq_true rfl | omega | (dsimp only [rm_X2_harmony, rm_X2_isAccordOf]; omega)) (fun r_10 u H locs hp_9 hW => ?_)
              subst hp_9
              refine jv_ifb_eq (b := (ac (σ 0 i) (σ 0 j))) hx hb 50 dX2_harmony_43 (by decide) (fun h_11 => ?_) (fun h_11 => ?_)
              · skip
                refine jv_iconst hx hb dX2_harmony_50 ?_
                refine jv_iadd hx hb dX2_harmony_51 ?_
                refine lv_istore_n (lv' := [(1, .int (J (g + (-1)))), (3, .int (J (j : Int))), (2, .int (J (i : Int))), (0, .ref q)]) hx hb dX2_harmony_52 rfl hl (by decide) rfl (fun ls hl => ?_)
                refine jv_iinc (k := 1) (z := (j : Int)) (lv' := [(3, .int (J ((j : Int) + 1))), (1, .int (J (g + (-1)))), (2, .int (J (i : Int))), (0, .ref q)]) hx hb dX2_harmony_53 hl rfl (by decide) rfl (fun ls hl => ?_)
                refine lv_goto (tgt := 15) hx hb dX2_harmony_56 (by decide) ?_
                exact ih_hlq (j + 1) (by omega) (by omega) (g + (-1)) _ _ _ (by rw [fb_si_succ, q_g]; simp [hmp, h_5, h_8, h_11]; try omega) hW (lv_sub hl [0, 2, 1, 3] rfl)
              · skip
                refine jv_iconst hx hb dX2_harmony_46 ?_
                refine lv_goto (tgt := 51) hx hb dX2_harmony_47 (by decide) ?_
                refine jv_iadd hx hb dX2_harmony_51 ?_
                refine lv_istore_n (lv' := [(1, .int (J (g + 1))), (3, .int (J (j : Int))), (2, .int (J (i : Int))), (0, .ref q)]) hx hb dX2_harmony_52 rfl hl (by decide) rfl (fun ls hl => ?_)
                refine jv_iinc (k := 1) (z := (j : Int)) (lv' := [(3, .int (J ((j : Int) + 1))), (1, .int (J (g + 1))), (2, .int (J (i : Int))), (0, .ref q)]) hx hb dX2_harmony_53 hl rfl (by decide) rfl (fun ls hl => ?_)
                refine lv_goto (tgt := 15) hx hb dX2_harmony_56 (by decide) ?_
                exact ih_hlq (j + 1) (by omega) (by omega) (g + 1) _ _ _ (by rw [fb_si_succ, q_g]; simp [hmp, h_5, h_8, h_11]; try omega) hW (lv_sub hl [0, 2, 1, 3] rfl)

abbrev rm_X2_sounding : Room := { frames := 1, cells := 0, slots := 0, locals := 21 }
set_option maxHeartbeats 4000000 in
set_option maxRecDepth 100000 in
/-- how many sound, by hand -/
theorem m_X2_sounding (l : Launch) (κ : Kp) (q pp : Nat) (L : List Nat) (σ : Sg) (w0 w1 w2 : Int) (hLn : L.length = nn σ) (hI : Inv σ) : CGi l yX2_sounding wsX2_sounding rm_X2_sounding κ [.ref q] ((WS κ q pp L w0 w1 w2) ++ RP κ L σ) (fun r _ => r = J (ns σ : Int)) (fun (_ : Unit) => ((WS κ q pp L w0 w1 w2) ++ RP κ L σ)) := by
  refine entry_i (by decide) rfl (Nat.le_of_ble_eq_true rfl) ?_
  intro P e s m args below meth c ls A Q F hname hK hA hret hW hl
  obtain ⟨hx, hb, hml, hown, hts⟩ := id F
  have hn2 : ∀ w ∈ wsX20, w ∈ wsX2_sounding := by decide +kernel
  have hN := hI.hN
  have hN10 := hI.n10
  refine jv_iconst hx hb dX2_sounding_0 ?_
  refine lv_istore_n (lv' := [(1, .int (J 0)), (0, .ref q)]) hx hb dX2_sounding_1 rfl hl (by decide) rfl (fun ls hl => ?_)
  refine jv_iconst hx hb dX2_sounding_2 ?_
  refine lv_istore_n (lv' := [(2, .int (J 0)), (1, .int (J 0)), (0, .ref q)]) hx hb dX2_sounding_3 rfl hl (by decide) rfl (fun ls hl => ?_)
  suffices hlp : ∀ (n i : Nat), i ≤ (nn σ) → (nn σ) < i + n → ∀ (f : Int), ∀ (H : Heap) (locs : List Loc) (ls : Array Slot), (f = (fb_ct (sn σ) i : Int)) → St κ A s.heap H locs ((WS κ q pp L w0 w1 w2) ++ RP κ L σ) → lv_has ls 3 [(2, .int (J (i : Int))), (1, .int (J f)), (0, .ref q)] → W P l e rm_X2_sounding s m args below meth c H locs 0 0 Q (F0 m 4 ls []) from
    hlp ((nn σ) + 1) 0 (Nat.zero_le _) (by omega) 0 _ _ _ (by simp [fb_ct, fb_sm]) hW hl
  intro n
  induction n with
  | zero => intro i h1 h2; exact absurd h2 (by omega)
  | succ n ih =>
    intro i hi hn f H locs ls q_f hW hl
    refine lv_iload_n hx hb dX2_sounding_4 rfl (lv_at hl 0 rfl) ?_
    refine lv_aload_n hx hb dX2_sounding_5 rfl (lv_at hl 2 rfl) ?_
    refine jv_get (T := TX2) (N := 4) (v := .ref pp) hx hb hts hn2 hown hK hW 0 rfl rfl 3 (by decide) (List.mem_of_getElem? (i := 1) rfl) rfl dX2_sounding_6 ?_
    refine jv_qlen hx hb hK (hK.2.2.2.1) hW 1 rfl dX2_sounding_9 ?_
    refine jv_eq (y := (nn σ : Int)) (by rw [hLn]) ?_
    refine jv_icmp_ge hx hb 35 dX2_sounding_10 (by decide) ⟨by omega, by omega⟩ ⟨by omega, by omega⟩ (fun h_1 => ?_) (fun h_1 => ?_)
    · skip
      refine lv_iload_n hx hb dX2_sounding_35 rfl (lv_at hl 1 rfl) ?_
      exact hret () hW dX2_sounding_36 (by first | exact Nat.le_of_ble_eq_true rfl | omega | (dsimp only [rm_X2_sounding]; omega)) (by first | exact Nat.le_of_ble_eq_true rfl | omega | (dsimp only [rm_X2_sounding]; omega)) (by rw [q_f, show i = nn σ by omega]; rfl)
    · skip
      refine lv_iload_n hx hb dX2_sounding_13 rfl (lv_at hl 1 rfl) ?_
      refine lv_aload_n hx hb dX2_sounding_14 rfl (lv_at hl 2 rfl) ?_
      refine lv_iload_n hx hb dX2_sounding_15 rfl (lv_at hl 0 rfl) ?_
      refine fina_i (k := 0) (n := 0) (W2 := (fun _ => ((WS κ q pp L w0 w1 w2) ++ RP κ L σ))) hW (va_freeP hW.2.1 hW.2.2 hA [0, 1] rfl) (va_runV (As := [.int (J (i : Int))]) (rest := [.int (J f)]) F ((m_X2_sounds l κ q pp L σ w0 w1 w2 hLn hI i (by omega)) _) (cwV 1 hts gX2_sounding_X2_sounds rfl rfl rfl (by decide +kernel) ⟨(Nat.le_of_ble_eq_true rfl), (Nat.le_of_ble_eq_true rfl)⟩) (pre_VP hK hW [0, 1] rfl (by decide) 2 0 rfl rfl) rfl rfl hl.1 rfl (lv_room (Nat.le_of_ble_eq_true rfl)) dX2_sounding_16 ⟨(by first | exact Nat.le_of_ble_eq_true rfl | omega | (dsimp only [rm_X2_sounding, rm_X2_sounds]; omega)), (by first | exact Nat.le_of_ble_eq_true rfl | omega | (dsimp only [rm_X2_sounding, rm_X2_sounds]; omega))⟩) (fun u H1 locs1 g1 g2 g3 g4 => St.joinP hW hA [0, 1] [] [0, 1] rfl rfl rfl (by decide) rfl rfl g1 g2 g3 g4) (by first | exact Nat.le_of_ble_eq_true rfl | omega | (dsimp only [rm_X2_sounding, rm_X2_sounds]; omega)) (by first | exact Nat.le_of_ble_eq_true rfl | omega | (dsimp only [rm_X2_sounding, rm_X2_sounds]; omega)) (fun r_3 u H locs hp_2 hW => ?_)
      subst hp_2
      refine jv_ifb_eq (b := (sn σ i)) hx hb 26 dX2_sounding_19 (by decide) (fun h_4 => ?_) (fun h_4 => ?_)
      · skip
        refine jv_iconst hx hb dX2_sounding_26 ?_
        refine jv_iadd hx hb dX2_sounding_27 ?_
        refine lv_istore_n (lv' := [(1, .int (J (f + 0))), (2, .int (J (i : Int))), (0, .ref q)]) hx hb dX2_sounding_28 rfl hl (by decide) rfl (fun ls hl => ?_)
        refine jv_iinc (k := 1) (z := (i : Int)) (lv' := [(2, .int (J ((i : Int) + 1))), (1, .int (J (f + 0))), (0, .ref q)]) hx hb dX2_sounding_29 hl rfl (by decide) rfl (fun ls hl => ?_)
        refine lv_goto (tgt := 4) hx hb dX2_sounding_32 (by decide) ?_
        exact ih (i + 1) (by omega) (by omega) (f + 0) _ _ _ (by simp [fb_ct_succ, q_f, h_4]) hW hl
      · skip
        refine jv_iconst hx hb dX2_sounding_22 ?_
        refine lv_goto (tgt := 27) hx hb dX2_sounding_23 (by decide) ?_
        refine jv_iadd hx hb dX2_sounding_27 ?_
        refine lv_istore_n (lv' := [(1, .int (J (f + 1))), (2, .int (J (i : Int))), (0, .ref q)]) hx hb dX2_sounding_28 rfl hl (by decide) rfl (fun ls hl => ?_)
        refine jv_iinc (k := 1) (z := (i : Int)) (lv' := [(2, .int (J ((i : Int) + 1))), (1, .int (J (f + 1))), (0, .ref q)]) hx hb dX2_sounding_29 hl rfl (by decide) rfl (fun ls hl => ?_)
        refine lv_goto (tgt := 4) hx hb dX2_sounding_32 (by decide) ?_
        exact ih (i + 1) (by omega) (by omega) (f + 1) _ _ _ (by simp [fb_ct_succ, q_f, h_4]) hW hl

abbrev rm_X2_isClear : Room := { frames := 3, cells := 0, slots := 0, locals := 67 }
set_option maxHeartbeats 4000000 in
set_option maxRecDepth 100000 in
/-- is the chord clear, by hand -/
theorem m_X2_isClear (l : Launch) (κ : Kp) (q pp : Nat) (L : List Nat) (σ : Sg) (w0 w1 w2 : Int) (hLn : L.length = nn σ) (hI : Inv σ) : CGi l yX2_isClear wsX2_isClear rm_X2_isClear κ [.ref q] ((WS κ q pp L w0 w1 w2) ++ RP κ L σ) (fun r _ => r = J (bi (ic σ))) (fun (_ : Unit) => ((WS κ q pp L w0 w1 w2) ++ RP κ L σ)) := by
  refine entry_z (by decide) rfl (Nat.le_of_ble_eq_true rfl) ?_
  intro P e s m args below meth c ls A Q F hname hK hA hret hW hl
  obtain ⟨hx, hb, hml, hown, hts⟩ := id F
  have hN := hI.hN
  have hN10 := hI.n10
  have hns := ns_le σ
  have hcr := ccl_rng hN10
  refine lv_aload_n hx hb dX2_isClear_0 rfl (lv_at hl 0 rfl) ?_
  refine fina_i (k := 0) (n := 0) (W2 := (fun _ => ((WS κ q pp L w0 w1 w2) ++ RP κ L σ))) hW (va_freeP hW.2.1 hW.2.2 hA [0, 1] rfl) (va_runV (As := []) (rest := []) F ((m_X2_sounding l κ q pp L σ w0 w1 w2 hLn hI) _) (cwV 0 hts gX2_isClear_X2_sounding rfl rfl rfl (by decide +kernel) ⟨(Nat.le_of_ble_eq_true rfl), (Nat.le_of_ble_eq_true rfl)⟩) (pre_VP hK hW [0, 1] rfl (by decide) 2 0 rfl rfl) rfl rfl hl.1 rfl (lv_room (Nat.le_of_ble_eq_true rfl)) dX2_isClear_1 ⟨(by first | exact Nat.le_of_ble_eq_true rfl | omega | (dsimp only [rm_X2_isClear, rm_X2_sounding]; omega)), (by first | exact Nat.le_of_ble_eq_true rfl | omega | (dsimp only [rm_X2_isClear, rm_X2_sounding]; omega))⟩) (fun u H1 locs1 g1 g2 g3 g4 => St.joinP hW hA [0, 1] [] [0, 1] rfl rfl rfl (by decide) rfl rfl g1 g2 g3 g4) (by first | exact Nat.le_of_ble_eq_true rfl | omega | (dsimp only [rm_X2_isClear, rm_X2_sounding]; omega)) (by first | exact Nat.le_of_ble_eq_true rfl | omega | (dsimp only [rm_X2_isClear, rm_X2_sounding]; omega)) (fun r_2 u H locs hp_1 hW => ?_)
  subst hp_1
  refine jv_iconst hx hb dX2_isClear_4 ?_
  refine jv_icmp_lt hx hb 19 dX2_isClear_5 (by decide) ⟨by omega, by omega⟩ ⟨by omega, by omega⟩ (fun h_3 => ?_) (fun h_3 => ?_)
  · skip
    refine jv_iconst hx hb dX2_isClear_19 ?_
    exact hret () hW dX2_isClear_20 (by first | exact Nat.le_of_ble_eq_true rfl | omega | (dsimp only [rm_X2_isClear]; omega)) (by first | exact Nat.le_of_ble_eq_true rfl | omega | (dsimp only [rm_X2_isClear]; omega)) (by first | exact zr_01 (Or.inl rfl) | exact zr_01 (Or.inr rfl) | exact zr_b _ | exact zr_01 (by omega)) (J_f (decide_eq_false (by omega)))
  · skip
    refine lv_aload_n hx hb dX2_isClear_8 rfl (lv_at hl 0 rfl) ?_
    refine fina_i (k := 0) (n := 0) (W2 := (fun _ => ((WS κ q pp L w0 w1 w2) ++ RP κ L σ))) hW (va_freeP hW.2.1 hW.2.2 hA [0, 1] rfl) (va_runV (As := []) (rest := []) F ((m_X2_clashes l κ q pp L σ w0 w1 w2 hLn hI) _) (cwV 0 hts gX2_isClear_X2_clashes rfl rfl rfl (by decide +kernel) ⟨(Nat.le_of_ble_eq_true rfl), (Nat.le_of_ble_eq_true rfl)⟩) (pre_VP hK hW [0, 1] rfl (by decide) 2 0 rfl rfl) rfl rfl hl.1 rfl (lv_room (Nat.le_of_ble_eq_true rfl)) dX2_isClear_9 ⟨(by first | exact Nat.le_of_ble_eq_true rfl | omega | (dsimp only [rm_X2_isClear, rm_X2_clashes]; omega)), (by first | exact Nat.le_of_ble_eq_true rfl | omega | (dsimp only [rm_X2_isClear, rm_X2_clashes]; omega))⟩) (fun u H1 locs1 g1 g2 g3 g4 => St.joinP hW hA [0, 1] [] [0, 1] rfl rfl rfl (by decide) rfl rfl g1 g2 g3 g4) (by first | exact Nat.le_of_ble_eq_true rfl | omega | (dsimp only [rm_X2_isClear, rm_X2_clashes]; omega)) (by first | exact Nat.le_of_ble_eq_true rfl | omega | (dsimp only [rm_X2_isClear, rm_X2_clashes]; omega)) (fun r_5 u H locs hp_4 hW => ?_)
    subst hp_4
    refine jv_if_ne hx hb 19 dX2_isClear_12 (by decide) ⟨by omega, by omega⟩ (fun h_6 => ?_) (fun h_6 => ?_)
    · skip
      refine jv_iconst hx hb dX2_isClear_19 ?_
      exact hret () hW dX2_isClear_20 (by first | exact Nat.le_of_ble_eq_true rfl | omega | (dsimp only [rm_X2_isClear]; omega)) (by first | exact Nat.le_of_ble_eq_true rfl | omega | (dsimp only [rm_X2_isClear]; omega)) (by first | exact zr_01 (Or.inl rfl) | exact zr_01 (Or.inr rfl) | exact zr_b _ | exact zr_01 (by omega)) (J_f (decide_eq_false (by omega)))
    · skip
      refine jv_iconst hx hb dX2_isClear_15 ?_
      refine lv_goto (tgt := 20) hx hb dX2_isClear_16 (by decide) ?_
      exact hret () hW dX2_isClear_20 (by first | exact Nat.le_of_ble_eq_true rfl | omega | (dsimp only [rm_X2_isClear]; omega)) (by first | exact Nat.le_of_ble_eq_true rfl | omega | (dsimp only [rm_X2_isClear]; omega)) (by first | exact zr_01 (Or.inl rfl) | exact zr_01 (Or.inr rfl) | exact zr_b _ | exact zr_01 (by omega)) (J_t (decide_eq_true (by omega)))

abbrev rm_X2_sing : Room := { frames := 4, cells := 0, slots := 0, locals := 87 }
set_option maxHeartbeats 4000000 in
set_option maxRecDepth 100000 in
/-- a beat, by hand -/
theorem m_X2_sing (l : Launch) (κ : Kp) (q pp : Nat) (L : List Nat) (σ : Sg) (hLn : L.length = nn σ) (hI : Inv σ) (hB : σ 5 0 ≤ 1000000000) : CGi l yX2_sing wsX2_sing rm_X2_sing κ [.ref q] ((WS κ q pp L (σ 5 0) (σ 5 1) (σ 5 2)) ++ RP κ L σ) (fun r _ => r = J (bi (cadb σ))) (fun (_ : Unit) => WS κ q pp L (pb σ 5 0) (pb σ 5 1) (pb σ 5 2) ++ RP κ L (pb σ)) := by
  refine entry_i (by decide) rfl (Nat.le_of_ble_eq_true rfl) ?_
  intro P e s m args below meth c ls A Q F hname hK hA hret hW hl
  obtain ⟨hx, hb, hml, hown, hts⟩ := id F
  have hn2 : ∀ w ∈ wsX20, w ∈ wsX2_sing := by decide +kernel
  have hN := hI.hN
  have hN10 := hI.n10
  have hbt := hI.2.1
  have hcd := hI.2.2.1
  have hca := hI.2.2.2.1
  have hcr := ccl_rng hN10
  refine lv_aload_n hx hb dX2_sing_0 rfl (lv_at hl 0 rfl) ?_
  refine fina_i (k := 0) (n := 0) (W2 := (fun _ => ((WS κ q pp L (σ 5 0) (σ 5 1) (σ 5 2)) ++ RP κ L σ))) hW (va_freeP hW.2.1 hW.2.2 hA [0, 1] rfl) (va_runV (As := []) (rest := []) F ((m_X2_clashes l κ q pp L σ (σ 5 0) (σ 5 1) (σ 5 2) hLn hI) _) (cwV 0 hts gX2_sing_X2_clashes rfl rfl rfl (by decide +kernel) ⟨(Nat.le_of_ble_eq_true rfl), (Nat.le_of_ble_eq_true rfl)⟩) (pre_VP hK hW [0, 1] rfl (by decide) 2 0 rfl rfl) rfl rfl hl.1 rfl (lv_room (Nat.le_of_ble_eq_true rfl)) dX2_sing_1 ⟨(by first | exact Nat.le_of_ble_eq_true rfl | omega | (dsimp only [rm_X2_sing, rm_X2_clashes]; omega)), (by first | exact Nat.le_of_ble_eq_true rfl | omega | (dsimp only [rm_X2_sing, rm_X2_clashes]; omega))⟩) (fun u H1 locs1 g1 g2 g3 g4 => St.joinP hW hA [0, 1] [] [0, 1] rfl rfl rfl (by decide) rfl rfl g1 g2 g3 g4) (by first | exact Nat.le_of_ble_eq_true rfl | omega | (dsimp only [rm_X2_sing, rm_X2_clashes]; omega)) (by first | exact Nat.le_of_ble_eq_true rfl | omega | (dsimp only [rm_X2_sing, rm_X2_clashes]; omega)) (fun r_2 u H locs hp_1 hW => ?_)
  subst hp_1
  have j12 : ∀ (H : Heap) (locs : List Loc) (ls : Array Slot), St κ A s.heap H locs ((WS κ q pp L (σ 5 0) (σ 5 1) (σ 5 2)) ++ RP κ L σ) → lv_has ls 6 [(0, .ref q)] → W P l e rm_X2_sing s m args below meth c H locs 0 0 Q (F0 m 12 ls [.int (J (bi (decide (0 < ccl σ))))]) := by
    intro H locs ls hW hl
    refine lv_istore_n (lv' := [(1, .int (J (bi (decide (0 < ccl σ))))), (0, .ref q)]) hx hb dX2_sing_12 rfl hl (by decide) rfl (fun ls hl => ?_)
    refine lv_aload_n hx hb dX2_sing_13 rfl (lv_at hl 1 rfl) ?_
    refine fina_i (k := 0) (n := 0) (W2 := (fun _ => ((WS κ q pp L (σ 5 0) (σ 5 1) (σ 5 2)) ++ RP κ L σ))) hW (va_freeP hW.2.1 hW.2.2 hA [0, 1] rfl) (va_runV (As := []) (rest := []) F ((m_X2_isClear l κ q pp L σ (σ 5 0) (σ 5 1) (σ 5 2) hLn hI) _) (cwV 0 hts gX2_sing_X2_isClear rfl rfl rfl (by decide +kernel) ⟨(Nat.le_of_ble_eq_true rfl), (Nat.le_of_ble_eq_true rfl)⟩) (pre_VP hK hW [0, 1] rfl (by decide) 2 0 rfl rfl) rfl rfl hl.1 rfl (lv_room (Nat.le_of_ble_eq_true rfl)) dX2_sing_14 ⟨(by first | exact Nat.le_of_ble_eq_true rfl | omega | (dsimp only [rm_X2_sing, rm_X2_isClear]; omega)), (by first | exact Nat.le_of_ble_eq_true rfl | omega | (dsimp only [rm_X2_sing, rm_X2_isClear]; omega))⟩) (fun u H1 locs1 g1 g2 g3 g4 => St.joinP hW hA [0, 1] [] [0, 1] rfl rfl rfl (by decide) rfl rfl g1 g2 g3 g4) (by first | exact Nat.le_of_ble_eq_true rfl | omega | (dsimp only [rm_X2_sing, rm_X2_isClear]; omega)) (by first | exact Nat.le_of_ble_eq_true rfl | omega | (dsimp only [rm_X2_sing, rm_X2_isClear]; omega)) (fun r_4 u H locs hp_3 hW => ?_)
    subst hp_3
    have j32 : ∀ (H : Heap) (locs : List Loc) (ls : Array Slot), St κ A s.heap H locs ((WS κ q pp L (σ 5 0) (σ 5 1) (σ 5 2)) ++ RP κ L σ) → lv_has ls 6 [(1, .int (J (bi (decide (0 < ccl σ))))), (0, .ref q)] → W P l e rm_X2_sing s m args below meth c H locs 0 0 Q (F0 m 32 ls [.int (J (bi (cadb σ)))]) := by
      intro H locs ls hW hl
      refine lv_istore_n (lv' := [(2, .int (J (bi (cadb σ)))), (1, .int (J (bi (decide (0 < ccl σ))))), (0, .ref q)]) hx hb dX2_sing_32 rfl hl (by decide) rfl (fun ls hl => ?_)
      refine jv_iconst hx hb dX2_sing_33 ?_
      refine lv_istore_n (lv' := [(3, .int (J 0)), (2, .int (J (bi (cadb σ)))), (1, .int (J (bi (decide (0 < ccl σ))))), (0, .ref q)]) hx hb dX2_sing_34 rfl hl (by decide) rfl (fun ls hl => ?_)
      suffices hlp : ∀ (n i : Nat), i ≤ (nn σ) → (nn σ) < i + n → ∀ (H : Heap) (locs : List Loc) (ls : Array Slot), St κ A s.heap H locs ((WS κ q pp L (σ 5 0) (σ 5 1) (σ 5 2)) ++ RP κ L (lp (pb0 σ) i)) → lv_has ls 6 [(3, .int (J (i : Int))), (2, .int (J (bi (cadb σ)))), (1, .int (J (bi (decide (0 < ccl σ))))), (0, .ref q)] → W P l e rm_X2_sing s m args below meth c H locs 0 0 Q (F0 m 35 ls []) from
        hlp ((nn σ) + 1) 0 (Nat.zero_le _) (by omega)  _ _ _  (by exact hW.rows (fun k _ => by show rwv (pb0 σ) k = rwv σ k; unfold pb0; rw [rwv_5, rwv_5])) hl
      intro n
      induction n with
      | zero => intro i h1 h2; exact absurd h2 (by omega)
      | succ n ih =>
        intro i hi hn  H locs ls  hW hl
        have hIi : Inv (lp (pb0 σ) i) := hI.hpb0.hlp (by omega)
        have h5 : (lp (pb0 σ) i) 5 0 = σ 5 0 := by rw [lp_5]; rfl
        have hLi : L.length = nn (lp (pb0 σ) i) := by rw [hLn]; unfold nn; rw [lp_5]; rfl
        have hnl : nn (lp (pb0 σ) i) = nn σ := by rw [← hLi, hLn]
        refine lv_iload_n hx hb dX2_sing_35 rfl (lv_at hl 0 rfl) ?_
        refine lv_aload_n hx hb dX2_sing_36 rfl (lv_at hl 3 rfl) ?_
        refine jv_get (T := TX2) (N := 4) (v := .ref pp) hx hb hts hn2 hown hK hW 0 rfl rfl 3 (by decide) (List.mem_of_getElem? (i := 2) rfl) rfl dX2_sing_37 ?_
        refine jv_qlen hx hb hK (hK.2.2.2.1) hW 1 rfl dX2_sing_40 ?_
        refine jv_eq (y := (nn σ : Int)) (by rw [hLn]) ?_
        refine jv_icmp_ge hx hb 193 dX2_sing_41 (by decide) ⟨by omega, by omega⟩ ⟨by omega, by omega⟩ (fun h_5 => ?_) (fun h_5 => ?_)
        · skip
          refine lv_aload_n hx hb dX2_sing_193 rfl (lv_at hl 3 rfl) ?_
          refine lv_dup hx hb dX2_sing_194 rfl ?_
          refine jv_get (T := TX2) (N := 4) (v := .int (J (σ 5 1))) hx hb hts hn2 hown hK hW 0 rfl rfl 1 (by decide) (List.mem_of_getElem? (i := 4) rfl) rfl dX2_sing_195 ?_
          refine lv_iload_n hx hb dX2_sing_198 rfl (lv_at hl 1 rfl) ?_
          refine jv_iadd hx hb dX2_sing_199 ?_
          refine jv_put (T := TX2) (N := 4) (ws' := ((WS κ q pp L (σ 5 0) ((σ 5 1) + (bi (cadb σ))) (σ 5 2)) ++ RP κ L (lp (pb0 σ) i))) hx hb hts hn2 tyX2 tyX2_ok nmX2 hown hK hW 0 rfl rfl 1 (by decide) (List.mem_of_getElem? (i := 4) rfl) rfl rfl rfl (Nat.le_of_ble_eq_true rfl) rfl dX2_sing_200 (fun H locs hW => ?_)
          refine lv_aload_n hx hb dX2_sing_203 rfl (lv_at hl 3 rfl) ?_
          refine lv_iload_n hx hb dX2_sing_204 rfl (lv_at hl 2 rfl) ?_
          refine jv_put (T := TX2) (N := 4) (ws' := ((WS κ q pp L (σ 5 0) ((σ 5 1) + (bi (cadb σ))) (bi (decide (0 < ccl σ)))) ++ RP κ L (lp (pb0 σ) i))) hx hb hts hn2 tyX2 tyX2_ok nmX2 hown hK hW 0 rfl rfl 2 (by decide) (List.mem_of_getElem? (i := 1) rfl) rfl (by first | exact zr_01 (Or.inl rfl) | exact zr_01 (Or.inr rfl) | exact zr_b _ | exact zr_01 (by omega)) (by first | rfl | exact zf_b _ | exact zf_01 (by omega)) (Nat.le_of_ble_eq_true rfl) rfl dX2_sing_205 (fun H locs hW => ?_)
          refine lv_aload_n hx hb dX2_sing_208 rfl (lv_at hl 3 rfl) ?_
          refine lv_dup hx hb dX2_sing_209 rfl ?_
          refine jv_get (T := TX2) (N := 4) (v := .int (J (σ 5 0))) hx hb hts hn2 hown hK hW 0 rfl rfl 0 (by decide) (List.mem_of_getElem? (i := 3) rfl) rfl dX2_sing_210 ?_
          refine jv_iconst hx hb dX2_sing_213 ?_
          refine jv_iadd hx hb dX2_sing_214 ?_
          refine jv_put (T := TX2) (N := 4) (ws' := ((WS κ q pp L ((σ 5 0) + 1) ((σ 5 1) + (bi (cadb σ))) (bi (decide (0 < ccl σ)))) ++ RP κ L (lp (pb0 σ) i))) hx hb hts hn2 tyX2 tyX2_ok nmX2 hown hK hW 0 rfl rfl 0 (by decide) (List.mem_of_getElem? (i := 3) rfl) rfl rfl rfl (Nat.le_of_ble_eq_true rfl) rfl dX2_sing_215 (fun H locs hW => ?_)
          refine lv_iload_n hx hb dX2_sing_218 rfl (lv_at hl 1 rfl) ?_
          exact hret () (by rw [show i = nn σ by omega] at hW; rw [pb_51, pb_52]; exact hW.rows (fun k _ => by show rwv (pb σ) k = rwv (lp (pb0 σ) (nn σ)) k; unfold pb; rw [rwv_5])) dX2_sing_219 (by first | exact Nat.le_of_ble_eq_true rfl | omega | (dsimp only [rm_X2_sing]; omega)) (by first | exact Nat.le_of_ble_eq_true rfl | omega | (dsimp only [rm_X2_sing]; omega)) rfl
        · skip
          have hbi := hIi.at i (by omega)
          refine lv_aload_n hx hb dX2_sing_44 rfl (lv_at hl 3 rfl) ?_
          refine jv_get (T := TX2) (N := 4) (v := .ref pp) hx hb hts hn2 hown hK hW 0 rfl rfl 3 (by decide) (List.mem_of_getElem? (i := 2) rfl) rfl dX2_sing_45 ?_
          refine lv_iload_n hx hb dX2_sing_48 rfl (lv_at hl 0 rfl) ?_
          refine jv_qld hx hb (hK.2.2.2.1) hW 1 rfl i (la L i) rfl (by omega) (by omega) (la_get (by omega)) dX2_sing_49 ?_
          refine lv_astore (lv' := [(4, .ref (la L i)), (3, .int (J (i : Int))), (2, .int (J (bi (cadb σ)))), (1, .int (J (bi (decide (0 < ccl σ))))), (0, .ref q)]) hx hb dX2_sing_50 hl (by decide) rfl (fun ls hl => ?_)
          refine lv_aload_n hx hb dX2_sing_52 rfl (lv_at hl 4 rfl) ?_
          refine lv_iload_n hx hb dX2_sing_53 rfl (lv_at hl 1 rfl) ?_
          refine fina_i (k := 0) (n := 0) (W2 := (fun _ => ((WS κ q pp L (σ 5 0) (σ 5 1) (σ 5 2)) ++ RP κ L (lp (pb0 σ) i)))) hW (va_freeP hW.2.1 hW.2.2 hA [0, 1] rfl) (va_runV (As := [.int (J (i : Int))]) (rest := []) F ((m_X2_sounds l κ q pp L (lp (pb0 σ) i) (σ 5 0) (σ 5 1) (σ 5 2) hLi hIi i (by omega)) _) (cwV 1 hts gX2_sing_X2_sounds rfl rfl rfl (by decide +kernel) ⟨(Nat.le_of_ble_eq_true rfl), (Nat.le_of_ble_eq_true rfl)⟩) (pre_VP hK hW [0, 1] rfl (by decide) 2 0 rfl rfl) rfl rfl hl.1 rfl (lv_room (Nat.le_of_ble_eq_true rfl)) dX2_sing_54 ⟨(by first | exact Nat.le_of_ble_eq_true rfl | omega | (dsimp only [rm_X2_sing, rm_X2_sounds]; omega)), (by first | exact Nat.le_of_ble_eq_true rfl | omega | (dsimp only [rm_X2_sing, rm_X2_sounds]; omega))⟩) (fun u H1 locs1 g1 g2 g3 g4 => St.joinP hW hA [0, 1] [] [0, 1] rfl rfl rfl (by decide) rfl rfl g1 g2 g3 g4) (by first | exact Nat.le_of_ble_eq_true rfl | omega | (dsimp only [rm_X2_sing, rm_X2_sounds]; omega)) (by first | exact Nat.le_of_ble_eq_true rfl | omega | (dsimp only [rm_X2_sing, rm_X2_sounds]; omega)) (fun r_7 u H locs hp_6 hW => ?_)
          subst hp_6
          refine jv_ifb_eq (b := (sn (lp (pb0 σ) i) i)) hx hb 155 dX2_sing_57 (by decide) (fun h_8 => ?_) (fun h_8 => ?_)
          · skip
            have hS : sn (lp (pb0 σ) i) i = false := h_8
            refine lv_aload hx hb dX2_sing_155 (lv_at hl 0 rfl) ?_
            refine jv_iconst hx hb dX2_sing_157 ?_
            refine jv_rld hx hb hK hW (i := i) (by omega) 4 rfl (by decide) dX2_sing_158 ?_
            refine jv_eq (y := ((lp (pb0 σ) i) 3 i)) rfl ?_
            refine jv_iconst hx hb dX2_sing_159 ?_
            refine jv_icmp_ne hx hb 187 dX2_sing_160 (by decide) ⟨by omega, by omega⟩ ⟨by omega, by omega⟩ (fun h_9 => ?_) (fun h_9 => ?_)
            · skip
              refine jv_iinc (k := 1) (z := (i : Int)) (lv' := [(3, .int (J ((i : Int) + 1))), (4, .ref (la L i)), (2, .int (J (bi (cadb σ)))), (1, .int (J (bi (decide (0 < ccl σ))))), (0, .ref q)]) hx hb dX2_sing_187 hl rfl (by decide) rfl (fun ls hl => ?_)
              refine lv_goto (tgt := 35) hx hb dX2_sing_190 (by decide) ?_
              exact ih (i + 1) (by omega) (by omega)  _ _ _  (by rw [lp_no hS (fun h => by omega)]; exact hW) (lv_sub hl [0, 2, 3, 4] rfl)
            · skip
              refine lv_aload_n hx hb dX2_sing_163 rfl (lv_at hl 4 rfl) ?_
              refine jv_get (T := TX2) (N := 4) (v := .int (J (σ 5 0))) hx hb hts hn2 hown hK hW 0 rfl rfl 0 (by decide) (List.mem_of_getElem? (i := 3) rfl) rfl dX2_sing_164 ?_
              refine jv_iconst hx hb dX2_sing_167 ?_
              refine jv_irem hx hb dX2_sing_168 (by omega) ?_
              refine jv_if_ne hx hb 187 dX2_sing_169 (by decide) ⟨by omega, by omega⟩ (fun h_10 => ?_) (fun h_10 => ?_)
              · skip
                refine jv_iinc (k := 1) (z := (i : Int)) (lv' := [(3, .int (J ((i : Int) + 1))), (4, .ref (la L i)), (2, .int (J (bi (cadb σ)))), (1, .int (J (bi (decide (0 < ccl σ))))), (0, .ref q)]) hx hb dX2_sing_187 hl rfl (by decide) rfl (fun ls hl => ?_)
                refine lv_goto (tgt := 35) hx hb dX2_sing_190 (by decide) ?_
                exact ih (i + 1) (by omega) (by omega)  _ _ _  (by rw [lp_no hS (fun h => by omega)]; exact hW) (lv_sub hl [0, 2, 3, 4] rfl)
              · skip
                refine lv_aload hx hb dX2_sing_172 (lv_at hl 0 rfl) ?_
                refine jv_iconst hx hb dX2_sing_174 ?_
                refine jv_rld hx hb hK hW (i := i) (by omega) 3 rfl (by decide) dX2_sing_175 ?_
                refine jv_eq (y := ((lp (pb0 σ) i) 2 i)) rfl ?_
                refine jv_if_le hx hb 187 dX2_sing_176 (by decide) ⟨by omega, by omega⟩ (fun h_11 => ?_) (fun h_11 => ?_)
                · skip
                  refine jv_iinc (k := 1) (z := (i : Int)) (lv' := [(3, .int (J ((i : Int) + 1))), (4, .ref (la L i)), (2, .int (J (bi (cadb σ)))), (1, .int (J (bi (decide (0 < ccl σ))))), (0, .ref q)]) hx hb dX2_sing_187 hl rfl (by decide) rfl (fun ls hl => ?_)
                  refine lv_goto (tgt := 35) hx hb dX2_sing_190 (by decide) ?_
                  exact ih (i + 1) (by omega) (by omega)  _ _ _  (by rw [lp_co hS (by omega) (by omega), up_same (show max 0 ((lp (pb0 σ) i) 2 i - 1) = (lp (pb0 σ) i) 2 i by omega)]; exact hW) (lv_sub hl [0, 2, 3, 4] rfl)
                · skip
                  refine lv_aload hx hb dX2_sing_179 (lv_at hl 0 rfl) ?_
                  refine jv_iconst hx hb dX2_sing_181 ?_
                  refine lv_dup2_11 hx hb dX2_sing_182 rfl rfl ?_
                  refine jv_rld hx hb hK hW (i := i) (by omega) 3 rfl (by decide) dX2_sing_183 ?_
                  refine jv_eq (y := ((lp (pb0 σ) i) 2 i)) rfl ?_
                  refine jv_iconst hx hb dX2_sing_184 ?_
                  refine jv_isub hx hb dX2_sing_185 ?_
                  refine jv_rst hx hb hK hW (i := i) (by omega) 3 rfl (by decide) dX2_sing_186 (fun H locs hW => ?_)
                  have hW : St κ A s.heap H locs ((WS κ q pp L (σ 5 0) (σ 5 1) (σ 5 2)) ++ RP κ L (up (lp (pb0 σ) i) 2 i (((lp (pb0 σ) i) 2 i) - 1))) := hW
                  refine jv_iinc (k := 1) (z := (i : Int)) (lv' := [(3, .int (J ((i : Int) + 1))), (4, .ref (la L i)), (2, .int (J (bi (cadb σ)))), (1, .int (J (bi (decide (0 < ccl σ))))), (0, .ref q)]) hx hb dX2_sing_187 hl rfl (by decide) rfl (fun ls hl => ?_)
                  refine lv_goto (tgt := 35) hx hb dX2_sing_190 (by decide) ?_
                  exact ih (i + 1) (by omega) (by omega)  _ _ _  (by rw [lp_co hS (by omega) (by omega), show max 0 ((lp (pb0 σ) i) 2 i - 1) = (lp (pb0 σ) i) 2 i - 1 by omega]; exact hW) (lv_sub hl [0, 2, 3, 4] rfl)
          · skip
            have hS : sn (lp (pb0 σ) i) i = true := h_8
            refine jv_iconst hx hb dX2_sing_60 ?_
            refine lv_aload hx hb dX2_sing_61 (lv_at hl 0 rfl) ?_
            refine jv_iconst hx hb dX2_sing_63 ?_
            refine jv_rld hx hb hK hW (i := i) (by omega) 3 rfl (by decide) dX2_sing_64 ?_
            refine jv_eq (y := ((lp (pb0 σ) i) 2 i)) rfl ?_
            refine jv_iconst hx hb dX2_sing_65 ?_
            refine jv_idiv hx hb dX2_sing_66 (by omega) ?_
            refine jv_iadd hx hb dX2_sing_67 ?_
            refine lv_istore (lv' := [(5, .int (J (1 + (((lp (pb0 σ) i) 2 i) / 3)))), (4, .ref (la L i)), (3, .int (J (i : Int))), (2, .int (J (bi (cadb σ)))), (1, .int (J (bi (decide (0 < ccl σ))))), (0, .ref q)]) hx hb dX2_sing_68 hl (by decide) rfl (fun ls hl => ?_)
            refine lv_aload hx hb dX2_sing_70 (lv_at hl 1 rfl) ?_
            refine jv_iconst hx hb dX2_sing_72 ?_
            refine lv_iload hx hb dX2_sing_73 (lv_at hl 0 rfl) ?_
            refine lv_aload hx hb dX2_sing_75 (lv_at hl 1 rfl) ?_
            refine jv_iconst hx hb dX2_sing_77 ?_
            refine jv_rld hx hb hK hW (i := i) (by omega) 2 rfl (by decide) dX2_sing_78 ?_
            refine jv_eq (y := ((lp (pb0 σ) i) 1 i)) rfl ?_
            have j93 : ∀ (H : Heap) (locs : List Loc) (ls : Array Slot), St κ A s.heap H locs ((WS κ q pp L (σ 5 0) (σ 5 1) (σ 5 2)) ++ RP κ L (lp (pb0 σ) i)) → lv_has ls 6 [(5, .int (J (1 + (((lp (pb0 σ) i) 2 i) / 3)))), (4, .ref (la L i)), (3, .int (J (i : Int))), (2, .int (J (bi (cadb σ)))), (1, .int (J (bi (decide (0 < ccl σ))))), (0, .ref q)] → W P l e rm_X2_sing s m args below meth c H locs 0 0 Q (F0 m 93 ls [.int (J (wte (lp (pb0 σ) i) i)), .int (J 2), .ref (la L i)]) := by
              intro H locs ls hW hl
              refine jv_rst hx hb hK hW (i := i) (by omega) 2 rfl (by decide) dX2_sing_93 (fun H locs hW => ?_)
              have hW : St κ A s.heap H locs ((WS κ q pp L (σ 5 0) (σ 5 1) (σ 5 2)) ++ RP κ L (up (lp (pb0 σ) i) 1 i (wte (lp (pb0 σ) i) i))) := hW
              have j129 : ∀ (H : Heap) (locs : List Loc) (ls : Array Slot), St κ A s.heap H locs ((WS κ q pp L (σ 5 0) (σ 5 1) (σ 5 2)) ++ RP κ L (up (up (lp (pb0 σ) i) 1 i (wte (lp (pb0 σ) i) i)) 2 i (wcr (lp (pb0 σ) i) i))) → lv_has ls 6 [(5, .int (J (1 + (((lp (pb0 σ) i) 2 i) / 3)))), (4, .ref (la L i)), (3, .int (J (i : Int))), (2, .int (J (bi (cadb σ)))), (1, .int (J (bi (decide (0 < ccl σ))))), (0, .ref q)] → W P l e rm_X2_sing s m args below meth c H locs 0 0 Q (F0 m 129 ls []) := by
                intro H locs ls hW hl
                have hwc : 0 ≤ wcr (lp (pb0 σ) i) i ∧ wcr (lp (pb0 σ) i) i ≤ 9 := by unfold wcr; split <;> omega
                refine lv_aload hx hb dX2_sing_129 (lv_at hl 1 rfl) ?_
                refine jv_iconst hx hb dX2_sing_131 ?_
                refine jv_rld hx hb hK hW (i := i) (by omega) 3 rfl (by decide) dX2_sing_132 ?_
                refine jv_eq (y := (wcr (lp (pb0 σ) i) i)) (show (upi ((lp (pb0 σ) i) 2) i (wcr (lp (pb0 σ) i) i)) i = wcr (lp (pb0 σ) i) i from upi_s _ _ _) ?_
                refine jv_iconst hx hb dX2_sing_133 ?_
                refine jv_icmp_le hx hb 152 dX2_sing_134 (by decide) ⟨by omega, by omega⟩ ⟨by omega, by omega⟩ (fun h_12 => ?_) (fun h_12 => ?_)
                · skip
                  refine lv_goto (tgt := 187) hx hb dX2_sing_152 (by decide) ?_
                  refine jv_iinc (k := 2) (z := (i : Int)) (lv' := [(3, .int (J ((i : Int) + 1))), (5, .int (J (1 + (((lp (pb0 σ) i) 2 i) / 3)))), (4, .ref (la L i)), (2, .int (J (bi (cadb σ)))), (1, .int (J (bi (decide (0 < ccl σ))))), (0, .ref q)]) hx hb dX2_sing_187 hl rfl (by decide) rfl (fun ls hl => ?_)
                  refine lv_goto (tgt := 35) hx hb dX2_sing_190 (by decide) ?_
                  exact ih (i + 1) (by omega) (by omega)  _ _ _  (by rw [lp_sn hS]; unfold wear; rw [up_same (σ := (up (up (lp (pb0 σ) i) 1 i (wte (lp (pb0 σ) i) i)) 2 i (wcr (lp (pb0 σ) i) i))) (f := 0) (i := i) (show wpi (lp (pb0 σ) i) i = (lp (pb0 σ) i) 0 i from by unfold wpi; split <;> omega)]; exact hW) (lv_sub hl [0, 3, 4, 5] rfl)
                · skip
                  refine lv_aload hx hb dX2_sing_137 (lv_at hl 1 rfl) ?_
                  refine jv_iconst hx hb dX2_sing_139 ?_
                  refine jv_rld hx hb hK hW (i := i) (by omega) 1 rfl (by decide) dX2_sing_140 ?_
                  refine jv_eq (y := ((lp (pb0 σ) i) 0 i)) rfl ?_
                  refine jv_if_le hx hb 152 dX2_sing_141 (by decide) ⟨by omega, by omega⟩ (fun h_13 => ?_) (fun h_13 => ?_)
                  · skip
                    refine lv_goto (tgt := 187) hx hb dX2_sing_152 (by decide) ?_
                    refine jv_iinc (k := 2) (z := (i : Int)) (lv' := [(3, .int (J ((i : Int) + 1))), (5, .int (J (1 + (((lp (pb0 σ) i) 2 i) / 3)))), (4, .ref (la L i)), (2, .int (J (bi (cadb σ)))), (1, .int (J (bi (decide (0 < ccl σ))))), (0, .ref q)]) hx hb dX2_sing_187 hl rfl (by decide) rfl (fun ls hl => ?_)
                    refine lv_goto (tgt := 35) hx hb dX2_sing_190 (by decide) ?_
                    exact ih (i + 1) (by omega) (by omega)  _ _ _  (by rw [lp_sn hS]; unfold wear; rw [up_same (σ := (up (up (lp (pb0 σ) i) 1 i (wte (lp (pb0 σ) i) i)) 2 i (wcr (lp (pb0 σ) i) i))) (f := 0) (i := i) (show wpi (lp (pb0 σ) i) i = (lp (pb0 σ) i) 0 i from by unfold wpi; split <;> omega)]; exact hW) (lv_sub hl [0, 3, 4, 5] rfl)
                  · skip
                    refine lv_aload hx hb dX2_sing_144 (lv_at hl 1 rfl) ?_
                    refine jv_iconst hx hb dX2_sing_146 ?_
                    refine lv_dup2_11 hx hb dX2_sing_147 rfl rfl ?_
                    refine jv_rld hx hb hK hW (i := i) (by omega) 1 rfl (by decide) dX2_sing_148 ?_
                    refine jv_eq (y := ((lp (pb0 σ) i) 0 i)) rfl ?_
                    refine jv_iconst hx hb dX2_sing_149 ?_
                    refine jv_isub hx hb dX2_sing_150 ?_
                    refine jv_rst hx hb hK hW (i := i) (by omega) 1 rfl (by decide) dX2_sing_151 (fun H locs hW => ?_)
                    have hW : St κ A s.heap H locs ((WS κ q pp L (σ 5 0) (σ 5 1) (σ 5 2)) ++ RP κ L (up (up (up (lp (pb0 σ) i) 1 i (wte (lp (pb0 σ) i) i)) 2 i (wcr (lp (pb0 σ) i) i)) 0 i (((lp (pb0 σ) i) 0 i) - 1))) := hW
                    refine lv_goto (tgt := 187) hx hb dX2_sing_152 (by decide) ?_
                    refine jv_iinc (k := 2) (z := (i : Int)) (lv' := [(3, .int (J ((i : Int) + 1))), (5, .int (J (1 + (((lp (pb0 σ) i) 2 i) / 3)))), (4, .ref (la L i)), (2, .int (J (bi (cadb σ)))), (1, .int (J (bi (decide (0 < ccl σ))))), (0, .ref q)]) hx hb dX2_sing_187 hl rfl (by decide) rfl (fun ls hl => ?_)
                    refine lv_goto (tgt := 35) hx hb dX2_sing_190 (by decide) ?_
                    exact ih (i + 1) (by omega) (by omega)  _ _ _  (by rw [lp_sn hS]; unfold wear; rw [show wpi (lp (pb0 σ) i) i = (lp (pb0 σ) i) 0 i - 1 from by unfold wpi; split <;> omega]; exact hW) (lv_sub hl [0, 3, 4, 5] rfl)
              refine lv_aload hx hb dX2_sing_94 (lv_at hl 1 rfl) ?_
              refine jv_iconst hx hb dX2_sing_96 ?_
              refine jv_rld hx hb hK hW (i := i) (by omega) 1 rfl (by decide) dX2_sing_97 ?_
              refine jv_eq (y := ((lp (pb0 σ) i) 0 i)) rfl ?_
              refine jv_bipush hx hb 23 dX2_sing_98 (by decide +kernel) ?_
              refine jv_icmp_le hx hb 129 dX2_sing_100 (by decide) ⟨by omega, by omega⟩ ⟨by omega, by omega⟩ (fun h_14 => ?_) (fun h_14 => ?_)
              · skip
                exact j129 _ _ _ (by rw [up_same (σ := (up (lp (pb0 σ) i) 1 i (wte (lp (pb0 σ) i) i))) (f := 2) (i := i) (show wcr (lp (pb0 σ) i) i = (lp (pb0 σ) i) 2 i from by unfold wcr; rw [h5]; split <;> omega)]; exact hW) hl
              · skip
                refine lv_aload_n hx hb dX2_sing_103 rfl (lv_at hl 5 rfl) ?_
                refine jv_get (T := TX2) (N := 4) (v := .int (J (σ 5 0))) hx hb hts hn2 hown hK hW 0 rfl rfl 0 (by decide) (List.mem_of_getElem? (i := 3) rfl) rfl dX2_sing_104 ?_
                refine jv_iconst hx hb dX2_sing_107 ?_
                refine jv_irem hx hb dX2_sing_108 (by omega) ?_
                refine jv_if_ne hx hb 129 dX2_sing_109 (by decide) ⟨by omega, by omega⟩ (fun h_15 => ?_) (fun h_15 => ?_)
                · skip
                  exact j129 _ _ _ (by rw [up_same (σ := (up (lp (pb0 σ) i) 1 i (wte (lp (pb0 σ) i) i))) (f := 2) (i := i) (show wcr (lp (pb0 σ) i) i = (lp (pb0 σ) i) 2 i from by unfold wcr; rw [h5]; split <;> omega)]; exact hW) hl
                · skip
                  refine lv_aload hx hb dX2_sing_112 (lv_at hl 1 rfl) ?_
                  refine jv_iconst hx hb dX2_sing_114 ?_
                  refine jv_rld hx hb hK hW (i := i) (by omega) 3 rfl (by decide) dX2_sing_115 ?_
                  refine jv_eq (y := ((lp (pb0 σ) i) 2 i)) rfl ?_
                  refine jv_bipush hx hb 9 dX2_sing_116 (by decide +kernel) ?_
                  refine jv_icmp_ge hx hb 129 dX2_sing_118 (by decide) ⟨by omega, by omega⟩ ⟨by omega, by omega⟩ (fun h_16 => ?_) (fun h_16 => ?_)
                  · skip
                    exact j129 _ _ _ (by rw [up_same (σ := (up (lp (pb0 σ) i) 1 i (wte (lp (pb0 σ) i) i))) (f := 2) (i := i) (show wcr (lp (pb0 σ) i) i = (lp (pb0 σ) i) 2 i from by unfold wcr; rw [h5]; split <;> omega)]; exact hW) hl
                  · skip
                    refine lv_aload hx hb dX2_sing_121 (lv_at hl 1 rfl) ?_
                    refine jv_iconst hx hb dX2_sing_123 ?_
                    refine lv_dup2_11 hx hb dX2_sing_124 rfl rfl ?_
                    refine jv_rld hx hb hK hW (i := i) (by omega) 3 rfl (by decide) dX2_sing_125 ?_
                    refine jv_eq (y := ((lp (pb0 σ) i) 2 i)) rfl ?_
                    refine jv_iconst hx hb dX2_sing_126 ?_
                    refine jv_iadd hx hb dX2_sing_127 ?_
                    refine jv_rst hx hb hK hW (i := i) (by omega) 3 rfl (by decide) dX2_sing_128 (fun H locs hW => ?_)
                    have hW : St κ A s.heap H locs ((WS κ q pp L (σ 5 0) (σ 5 1) (σ 5 2)) ++ RP κ L (up (up (lp (pb0 σ) i) 1 i (wte (lp (pb0 σ) i) i)) 2 i (((lp (pb0 σ) i) 2 i) + 1))) := hW
                    exact j129 _ _ _ (by rw [show wcr (lp (pb0 σ) i) i = (lp (pb0 σ) i) 2 i + 1 from by unfold wcr; rw [h5]; split <;> omega]; exact hW) hl
            refine jv_icmp_le hx hb 86 dX2_sing_79 (by decide) ⟨by omega, by omega⟩ ⟨by omega, by omega⟩ (fun h_17 => ?_) (fun h_17 => ?_)
            · skip
              refine lv_aload hx hb dX2_sing_86 (lv_at hl 1 rfl) ?_
              refine jv_iconst hx hb dX2_sing_88 ?_
              refine jv_rld hx hb hK hW (i := i) (by omega) 2 rfl (by decide) dX2_sing_89 ?_
              refine jv_eq (y := ((lp (pb0 σ) i) 1 i)) rfl ?_
              refine lv_iload hx hb dX2_sing_90 (lv_at hl 0 rfl) ?_
              refine jv_isub hx hb dX2_sing_92 ?_
              refine jv_eq (y := wte (lp (pb0 σ) i) i) (by unfold wte; omega) ?_
              exact j93 _ _ _ hW hl
            · skip
              refine jv_iconst hx hb dX2_sing_82 ?_
              refine lv_goto (tgt := 93) hx hb dX2_sing_83 (by decide) ?_
              refine jv_eq (y := wte (lp (pb0 σ) i) i) (by unfold wte; omega) ?_
              exact j93 _ _ _ hW hl
    refine jv_ifb_eq (b := (ic σ)) hx hb 31 dX2_sing_17 (by decide) (fun h_18 => ?_) (fun h_18 => ?_)
    · skip
      refine jv_iconst hx hb dX2_sing_31 ?_
      refine jv_eq (y := bi (cadb σ)) (by rw [show cadb σ = false by unfold cadb; rw [h_18]; exact Bool.and_false _]; rfl) ?_
      exact j32 _ _ _ hW hl
    · skip
      refine lv_aload_n hx hb dX2_sing_20 rfl (lv_at hl 1 rfl) ?_
      refine jv_get (T := TX2) (N := 4) (v := .int (J (σ 5 2))) hx hb hts hn2 hown hK hW 0 rfl rfl 2 (by decide) (List.mem_of_getElem? (i := 1) rfl) rfl dX2_sing_21 ?_
      refine jv_if_eq hx hb 31 dX2_sing_24 (by decide) ⟨by omega, by omega⟩ (fun h_19 => ?_) (fun h_19 => ?_)
      · skip
        refine jv_iconst hx hb dX2_sing_31 ?_
        refine jv_eq (y := bi (cadb σ)) (by rw [show cadb σ = false by unfold cadb; rw [decide_eq_false (show ¬ σ 5 2 = 1 by omega)]; rfl]; rfl) ?_
        exact j32 _ _ _ hW hl
      · skip
        refine jv_iconst hx hb dX2_sing_27 ?_
        refine lv_goto (tgt := 32) hx hb dX2_sing_28 (by decide) ?_
        refine jv_eq (y := bi (cadb σ)) (by rw [show cadb σ = true by unfold cadb; rw [h_18, decide_eq_true (show σ 5 2 = 1 by omega)]; rfl]; rfl) ?_
        exact j32 _ _ _ hW hl
  refine jv_if_le hx hb 11 dX2_sing_4 (by decide) ⟨by omega, by omega⟩ (fun h_20 => ?_) (fun h_20 => ?_)
  · skip
    refine jv_iconst hx hb dX2_sing_11 ?_
    refine jv_eq (y := bi (decide (0 < ccl σ))) (by rw [decide_eq_false (by omega)]; rfl) ?_
    exact j12 _ _ _ hW hl
  · skip
    refine jv_iconst hx hb dX2_sing_7 ?_
    refine lv_goto (tgt := 12) hx hb dX2_sing_8 (by decide) ?_
    refine jv_eq (y := bi (decide (0 < ccl σ))) (by rw [decide_eq_true (by omega)]; rfl) ?_
    exact j12 _ _ _ hW hl

abbrev rm_X2_sing_ : Room := { frames := 5, cells := 0, slots := 0, locals := 112 }
set_option maxHeartbeats 4000000 in
set_option maxRecDepth 100000 in
/-- some beats, by hand -/
theorem m_X2_sing_ (l : Launch) (κ : Kp) (q pp : Nat) (L : List Nat) (σ : Sg) (hLn : L.length = nn σ) (hI : Inv σ) (k : Nat) (hk : k ≤ 60) (hB : σ 5 0 ≤ 100000000) : CGi l yX2_sing_ wsX2_sing_ rm_X2_sing_ κ [.ref q, .int (J (k : Int))] ((WS κ q pp L (σ 5 0) (σ 5 1) (σ 5 2)) ++ RP κ L σ) (fun r _ => r = J (pbn σ k 5 1 - σ 5 1)) (fun (_ : Unit) => WS κ q pp L (pbn σ k 5 0) (pbn σ k 5 1) (pbn σ k 5 2) ++ RP κ L (pbn σ k)) := by
  refine entry_i (by decide) rfl (Nat.le_of_ble_eq_true rfl) ?_
  intro P e s m args below meth c ls A Q F hname hK hA hret hW hl
  obtain ⟨hx, hb, hml, hown, hts⟩ := id F
  have hN := hI.hN
  have hN10 := hI.n10
  refine jv_iconst hx hb dX2_sing__0 ?_
  refine lv_istore_n (lv' := [(2, .int (J 0)), (0, .ref q), (1, .int (J (k : Int)))]) hx hb dX2_sing__1 rfl hl (by decide) rfl (fun ls hl => ?_)
  refine jv_iconst hx hb dX2_sing__2 ?_
  refine lv_istore_n (lv' := [(3, .int (J 0)), (2, .int (J 0)), (0, .ref q), (1, .int (J (k : Int)))]) hx hb dX2_sing__3 rfl hl (by decide) rfl (fun ls hl => ?_)
  suffices hlp : ∀ (n i : Nat), i ≤ k → k < i + n → ∀ (f : Int), ∀ (H : Heap) (locs : List Loc) (ls : Array Slot), (f = pbn σ i 5 1 - σ 5 1) → St κ A s.heap H locs ((WS κ q pp L (pbn σ i 5 0) (pbn σ i 5 1) (pbn σ i 5 2)) ++ RP κ L (pbn σ i)) → lv_has ls 4 [(3, .int (J (i : Int))), (2, .int (J f)), (0, .ref q), (1, .int (J (k : Int)))] → W P l e rm_X2_sing_ s m args below meth c H locs 0 0 Q (F0 m 4 ls []) from
    hlp (k + 1) 0 (Nat.zero_le _) (by omega) 0 _ _ _ (by show (0 : Int) = σ 5 1 - σ 5 1; omega) hW hl
  intro n
  induction n with
  | zero => intro i h1 h2; exact absurd h2 (by omega)
  | succ n ih =>
    intro i hi hn f H locs ls q_f hW hl
    have hIi := hI.hpbn i
    have h5 := pbn_50 σ i
    have hLi : L.length = nn (pbn σ i) := by rw [hLn, pbn_nn]
    refine lv_iload_n hx hb dX2_sing__4 rfl (lv_at hl 0 rfl) ?_
    refine lv_iload_n hx hb dX2_sing__5 rfl (lv_at hl 3 rfl) ?_
    refine jv_icmp_ge hx hb 22 dX2_sing__6 (by decide) ⟨by omega, by omega⟩ ⟨by omega, by omega⟩ (fun h_1 => ?_) (fun h_1 => ?_)
    · skip
      refine lv_iload_n hx hb dX2_sing__22 rfl (lv_at hl 1 rfl) ?_
      exact hret () (by rw [show i = k by omega] at hW; exact hW) dX2_sing__23 (by first | exact Nat.le_of_ble_eq_true rfl | omega | (dsimp only [rm_X2_sing_]; omega)) (by first | exact Nat.le_of_ble_eq_true rfl | omega | (dsimp only [rm_X2_sing_]; omega)) (by rw [q_f, show i = k by omega])
    · skip
      refine lv_iload_n hx hb dX2_sing__9 rfl (lv_at hl 1 rfl) ?_
      refine lv_aload_n hx hb dX2_sing__10 rfl (lv_at hl 2 rfl) ?_
      refine fina_i (k := 0) (n := 0) (W2 := (fun _ => ((WS κ q pp L (pb (pbn σ i) 5 0) (pb (pbn σ i) 5 1) (pb (pbn σ i) 5 2)) ++ RP κ L (pb (pbn σ i))))) hW (va_freeP hW.2.1 hW.2.2 hA [0, 1] rfl) (va_runV (As := []) (rest := [.int (J f)]) F ((m_X2_sing l κ q pp L (pbn σ i)  hLi hIi (by omega)) _) (cwV 0 hts gX2_sing__X2_sing rfl rfl rfl (by decide +kernel) ⟨(Nat.le_of_ble_eq_true rfl), (Nat.le_of_ble_eq_true rfl)⟩) (pre_VP hK hW [0, 1] rfl (by decide) 2 0 rfl rfl) rfl rfl hl.1 rfl (lv_room (Nat.le_of_ble_eq_true rfl)) dX2_sing__11 ⟨(by first | exact Nat.le_of_ble_eq_true rfl | omega | (dsimp only [rm_X2_sing_, rm_X2_sing]; omega)), (by first | exact Nat.le_of_ble_eq_true rfl | omega | (dsimp only [rm_X2_sing_, rm_X2_sing]; omega))⟩) (fun u H1 locs1 g1 g2 g3 g4 => St.joinP hW hA [0, 1] [] [0, 1] rfl rfl rfl (by decide) rfl rfl g1 g2 g3 g4) (by first | exact Nat.le_of_ble_eq_true rfl | omega | (dsimp only [rm_X2_sing_, rm_X2_sing]; omega)) (by first | exact Nat.le_of_ble_eq_true rfl | omega | (dsimp only [rm_X2_sing_, rm_X2_sing]; omega)) (fun r_3 u H locs hp_2 hW => ?_)
      subst hp_2
      refine jv_iadd hx hb dX2_sing__14 ?_
      refine lv_istore_n (lv' := [(2, .int (J (f + (bi (cadb (pbn σ i)))))), (3, .int (J (i : Int))), (0, .ref q), (1, .int (J (k : Int)))]) hx hb dX2_sing__15 rfl hl (by decide) rfl (fun ls hl => ?_)
      refine jv_iinc (k := 1) (z := (i : Int)) (lv' := [(3, .int (J ((i : Int) + 1))), (2, .int (J (f + (bi (cadb (pbn σ i)))))), (0, .ref q), (1, .int (J (k : Int)))]) hx hb dX2_sing__16 hl rfl (by decide) rfl (fun ls hl => ?_)
      refine lv_goto (tgt := 4) hx hb dX2_sing__19 (by decide) ?_
      exact ih (i + 1) (by omega) (by omega) (f + (bi (cadb (pbn σ i)))) _ _ _ (by rw [pbn_cad, q_f]; omega) hW hl
