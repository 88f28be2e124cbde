abbrev rm_X2_partOf : Room := { frames := 2, cells := 0, slots := 0, locals := 43 }
set_option maxHeartbeats 4000000 in
set_option maxRecDepth 100000 in
/-- partOf -/
theorem m_X2_partOf (l : Launch) (κ : Kp) (a : Nat → Nat) (σ : Sg) (th : Int) (kp : Nat → Int) (z : Int) (hz : InR z) (hI : Inv σ) : CGi l yX2_partOf wsX2_partOf rm_X2_partOf κ [.ref (a 0), .int (J z)] (WM κ a σ th kp) (fun r (u : Int) => ((0 ≤ z ∧ z < σ 5 3) ∧ u = 0 ∧ r = J (σ 4 z.toNat)) ∨ (¬ (0 ≤ z ∧ z < σ 5 3) ∧ u = 1 ∧ r = J 0)) (fun (u : Int) => WM κ a σ u kp) := by
  refine entry_i (by decide) rfl (Nat.le_of_ble_eq_true rfl) ?_
  intro P e s m args below meth c ls A Q F hname hK hA hret hW hl
  obtain ⟨hx, hb, hml, hown, hts⟩ := id F
  have hn2 : ∀ w ∈ wsX20, w ∈ wsX2_partOf := by decide +kernel
  have hN := hI.hN
  have hN10 := hI.n10
  have hnn := hI.1
  have hcm := cmn_lt σ
  refine lv_aload_n hx hb dX2_partOf_0 rfl (lv_at hl 0 rfl) ?_
  refine jv_iconst hx hb dX2_partOf_1 ?_
  refine jv_put (T := TX2) (N := 6) (ws' := (WM κ a σ 0 kp)) hx hb hts hn2 tyX2 tyX2_ok nmX2 hown hK hW 0 rfl rfl 0 (by decide) (List.mem_of_getElem? (i := 1) rfl) rfl rfl rfl (Nat.le_of_ble_eq_true rfl) rfl dX2_partOf_2 (fun H locs hW => ?_)
  refine lv_aload_n hx hb dX2_partOf_5 rfl (lv_at hl 0 rfl) ?_
  refine lv_iload_n hx hb dX2_partOf_6 rfl (lv_at hl 1 rfl) ?_
  refine fin_i (k := 0) (n := 0) (W2 := (fun _ => (WM κ a σ 0 kp))) [0, 1, 2, 3] [] [0, 1, 2, 3] hW hA (va_runV (As := [.int (J z)]) (rest := []) F ((m_X2_isPot l κ a σ 0 kp z ⟨by omega, by omega⟩ hI) _) (cwV 1 hts gX2_partOf_X2_isPot rfl rfl rfl (by decide +kernel) ⟨(Nat.le_of_ble_eq_true rfl), (Nat.le_of_ble_eq_true rfl)⟩) (pre_V hK hW [0, 1, 2, 3] rfl (by decide) 2 0 rfl rfl) rfl rfl hl.1 rfl (lv_room (Nat.le_of_ble_eq_true rfl)) dX2_partOf_7 ⟨(by first | exact Nat.le_of_ble_eq_true rfl | omega | (dsimp only [rm_X2_partOf, rm_X2_isPot]; omega)), (by first | exact Nat.le_of_ble_eq_true rfl | omega | (dsimp only [rm_X2_partOf, rm_X2_isPot]; omega))⟩) rfl rfl rfl (by decide) rfl (fun _ => rfl) (by first | exact Nat.le_of_ble_eq_true rfl | omega | (dsimp only [rm_X2_partOf, rm_X2_isPot]; omega)) (by first | exact Nat.le_of_ble_eq_true rfl | omega | (dsimp only [rm_X2_partOf, rm_X2_isPot]; omega)) (fun r_2 u H locs hp_1 hW => ?_)
  subst hp_1
  refine jv_ifb_eq (b := (decide (0 ≤ z ∧ z ≤ σ 5 3 - 1))) hx hb 22 dX2_partOf_10 (by decide) (fun h_3 => ?_) (fun h_3 => ?_)
  · skip
    have eh_3 := of_decide_eq_false h_3
    refine lv_aload_n hx hb dX2_partOf_22 rfl (lv_at hl 0 rfl) ?_
    refine jv_iconst hx hb dX2_partOf_23 ?_
    refine fin_i (k := 0) (n := 0) (W2 := (fun _ => (WM κ a σ 1 kp))) [0, 1, 2, 3] [] [0, 1, 2, 3] hW hA (va_runV (As := [.int (J 1)]) (rest := []) F ((m_X2_no l κ a σ 0 kp 1 hI) _) (cwV 1 hts gX2_partOf_X2_no rfl rfl rfl (by decide +kernel) ⟨(Nat.le_of_ble_eq_true rfl), (Nat.le_of_ble_eq_true rfl)⟩) (pre_V hK hW [0, 1, 2, 3] rfl (by decide) 2 0 rfl rfl) rfl rfl hl.1 rfl (lv_room (Nat.le_of_ble_eq_true rfl)) dX2_partOf_24 ⟨(by first | exact Nat.le_of_ble_eq_true rfl | omega | (dsimp only [rm_X2_partOf, rm_X2_no]; omega)), (by first | exact Nat.le_of_ble_eq_true rfl | omega | (dsimp only [rm_X2_partOf, rm_X2_no]; omega))⟩) rfl rfl rfl (by decide) rfl (fun _ => rfl) (by first | exact Nat.le_of_ble_eq_true rfl | omega | (dsimp only [rm_X2_partOf, rm_X2_no]; omega)) (by first | exact Nat.le_of_ble_eq_true rfl | omega | (dsimp only [rm_X2_partOf, rm_X2_no]; omega)) (fun r_5 u H locs hp_4 hW => ?_)
    subst hp_4
    exact hret 1 hW dX2_partOf_27 (by first | exact Nat.le_of_ble_eq_true rfl | omega | (dsimp only [rm_X2_partOf]; omega)) (by first | exact Nat.le_of_ble_eq_true rfl | omega | (dsimp only [rm_X2_partOf]; omega)) (Or.inr ⟨by omega, rfl, rfl⟩)
  · skip
    have eh_3 := of_decide_eq_true h_3
    obtain ⟨p, rfl⟩ : ∃ p : Nat, z = (p : Int) := ⟨z.toNat, by omega⟩
    have hbp := hI.at p (by omega)
    refine lv_aload_n hx hb dX2_partOf_13 rfl (lv_at hl 0 rfl) ?_
    refine jv_get (T := TX2) (N := 6) (v := .ref (a 1)) hx hb hts hn2 hown hK hW 0 rfl rfl 3 (by decide) (List.mem_of_getElem? (i := 2) rfl) rfl dX2_partOf_14 ?_
    refine lv_iload_n hx hb dX2_partOf_17 rfl (lv_at hl 1 rfl) ?_
    refine jv_iald (g := (σ 4)) hx hb hK hW 1 rfl p rfl (by omega) (by decide) dX2_partOf_18 ?_
    refine lv_goto (tgt := 27) hx hb dX2_partOf_19 (by decide) ?_
    exact hret 0 hW dX2_partOf_27 (by first | exact Nat.le_of_ble_eq_true rfl | omega | (dsimp only [rm_X2_partOf]; omega)) (by first | exact Nat.le_of_ble_eq_true rfl | omega | (dsimp only [rm_X2_partOf]; omega)) (Or.inl ⟨by omega, rfl, rfl⟩)

abbrev rm_X2_of3 : Room := { frames := 2, cells := 0, slots := 0, locals := 43 }
set_option maxHeartbeats 4000000 in
set_option maxRecDepth 100000 in
/-- of -/
theorem m_X2_of3 (l : Launch) (κ : Kp) (a : Nat → Nat) (σ : Sg) (th : Int) (kp : Nat → Int) (z : Int) (hz : InR z) (hI : Inv σ) : CGi l yX2_of wsX2_of rm_X2_of3 κ [.ref (a 0), .int (J z), .int (J 3)] (WM κ a σ th kp) (fun r (u : Int) => ((0 ≤ z ∧ z < σ 5 3) ∧ u = 0 ∧ r = J (σ 0 z.toNat)) ∨ (¬ (0 ≤ z ∧ z < σ 5 3) ∧ u = 1 ∧ r = J 0)) (fun (u : Int) => WM κ a σ u kp) := by
  refine entry_i (by decide) rfl (Nat.le_of_ble_eq_true rfl) ?_
  intro P e s m args below meth c ls A Q F hname hK hA hret hW hl
  obtain ⟨hx, hb, hml, hown, hts⟩ := id F
  have hn2 : ∀ w ∈ wsX20, w ∈ wsX2_of := by decide +kernel
  have hN := hI.hN
  have hN10 := hI.n10
  have hnn := hI.1
  have hcm := cmn_lt σ
  refine lv_aload_n hx hb dX2_of_0 rfl (lv_at hl 0 rfl) ?_
  refine jv_iconst hx hb dX2_of_1 ?_
  refine jv_put (T := TX2) (N := 6) (ws' := (WM κ a σ 0 kp)) hx hb hts hn2 tyX2 tyX2_ok nmX2 hown hK hW 0 rfl rfl 0 (by decide) (List.mem_of_getElem? (i := 1) rfl) rfl rfl rfl (Nat.le_of_ble_eq_true rfl) rfl dX2_of_2 (fun H locs hW => ?_)
  refine lv_aload_n hx hb dX2_of_5 rfl (lv_at hl 0 rfl) ?_
  refine lv_iload_n hx hb dX2_of_6 rfl (lv_at hl 1 rfl) ?_
  refine fin_i (k := 0) (n := 0) (W2 := (fun _ => (WM κ a σ 0 kp))) [0, 1, 2, 3] [] [0, 1, 2, 3] hW hA (va_runV (As := [.int (J z)]) (rest := []) F ((m_X2_isPot l κ a σ 0 kp z ⟨by omega, by omega⟩ hI) _) (cwV 1 hts gX2_of_X2_isPot rfl rfl rfl (by decide +kernel) ⟨(Nat.le_of_ble_eq_true rfl), (Nat.le_of_ble_eq_true rfl)⟩) (pre_V hK hW [0, 1, 2, 3] rfl (by decide) 2 0 rfl rfl) rfl rfl hl.1 rfl (lv_room (Nat.le_of_ble_eq_true rfl)) dX2_of_7 ⟨(by first | exact Nat.le_of_ble_eq_true rfl | omega | (dsimp only [rm_X2_of3, rm_X2_isPot]; omega)), (by first | exact Nat.le_of_ble_eq_true rfl | omega | (dsimp only [rm_X2_of3, rm_X2_isPot]; omega))⟩) rfl rfl rfl (by decide) rfl (fun _ => rfl) (by first | exact Nat.le_of_ble_eq_true rfl | omega | (dsimp only [rm_X2_of3, rm_X2_isPot]; omega)) (by first | exact Nat.le_of_ble_eq_true rfl | omega | (dsimp only [rm_X2_of3, rm_X2_isPot]; omega)) (fun r_2 u H locs hp_1 hW => ?_)
  subst hp_1
  refine jv_ifb_eq (b := (decide (0 ≤ z ∧ z ≤ σ 5 3 - 1))) hx hb 24 dX2_of_10 (by decide) (fun h_3 => ?_) (fun h_3 => ?_)
  · skip
    have eh_3 := of_decide_eq_false h_3
    refine lv_aload_n hx hb dX2_of_24 rfl (lv_at hl 0 rfl) ?_
    refine jv_iconst hx hb dX2_of_25 ?_
    refine fin_i (k := 0) (n := 0) (W2 := (fun _ => (WM κ a σ 1 kp))) [0, 1, 2, 3] [] [0, 1, 2, 3] hW hA (va_runV (As := [.int (J 1)]) (rest := []) F ((m_X2_no l κ a σ 0 kp 1 hI) _) (cwV 1 hts gX2_of_X2_no rfl rfl rfl (by decide +kernel) ⟨(Nat.le_of_ble_eq_true rfl), (Nat.le_of_ble_eq_true rfl)⟩) (pre_V hK hW [0, 1, 2, 3] rfl (by decide) 2 0 rfl rfl) rfl rfl hl.1 rfl (lv_room (Nat.le_of_ble_eq_true rfl)) dX2_of_26 ⟨(by first | exact Nat.le_of_ble_eq_true rfl | omega | (dsimp only [rm_X2_of3, rm_X2_no]; omega)), (by first | exact Nat.le_of_ble_eq_true rfl | omega | (dsimp only [rm_X2_of3, rm_X2_no]; omega))⟩) rfl rfl rfl (by decide) rfl (fun _ => rfl) (by first | exact Nat.le_of_ble_eq_true rfl | omega | (dsimp only [rm_X2_of3, rm_X2_no]; omega)) (by first | exact Nat.le_of_ble_eq_true rfl | omega | (dsimp only [rm_X2_of3, rm_X2_no]; omega)) (fun r_5 u H locs hp_4 hW => ?_)
    subst hp_4
    exact hret 1 hW dX2_of_29 (by first | exact Nat.le_of_ble_eq_true rfl | omega | (dsimp only [rm_X2_of3]; omega)) (by first | exact Nat.le_of_ble_eq_true rfl | omega | (dsimp only [rm_X2_of3]; omega)) (Or.inr ⟨by omega, rfl, rfl⟩)
  · skip
    have eh_3 := of_decide_eq_true h_3
    obtain ⟨p, rfl⟩ : ∃ p : Nat, z = (p : Int) := ⟨z.toNat, by omega⟩
    have hbp := hI.at p (by omega)
    refine lv_aload_n hx hb dX2_of_13 rfl (lv_at hl 0 rfl) ?_
    refine jv_get (T := TX2) (N := 6) (v := .ref (a 2)) hx hb hts hn2 hown hK hW 0 rfl rfl 4 (by decide) (List.mem_of_getElem? (i := 2) rfl) rfl dX2_of_14 ?_
    refine lv_iload_n hx hb dX2_of_17 rfl (lv_at hl 2 rfl) ?_
    refine lv_iload_n hx hb dX2_of_18 rfl (lv_at hl 1 rfl) ?_
    refine jv_iadd hx hb dX2_of_19 ?_
    refine jv_iald (g := (nowf σ)) hx hb hK hW 2 rfl (3 + p) (by omega) (by omega) (by decide) dX2_of_20 ?_
    refine jv_eq (y := (σ 0 p)) (nowf_r0 _ (by omega)) ?_
    refine lv_goto (tgt := 29) hx hb dX2_of_21 (by decide) ?_
    exact hret 0 hW dX2_of_29 (by first | exact Nat.le_of_ble_eq_true rfl | omega | (dsimp only [rm_X2_of3]; omega)) (by first | exact Nat.le_of_ble_eq_true rfl | omega | (dsimp only [rm_X2_of3]; omega)) (Or.inl ⟨by omega, rfl, rfl⟩)

abbrev rm_X2_of13 : Room := { frames := 2, cells := 0, slots := 0, locals := 43 }
set_option maxHeartbeats 4000000 in
set_option maxRecDepth 100000 in
/-- of -/
theorem m_X2_of13 (l : Launch) (κ : Kp) (a : Nat → Nat) (σ : Sg) (th : Int) (kp : Nat → Int) (z : Int) (hz : InR z) (hI : Inv σ) : CGi l yX2_of wsX2_of rm_X2_of13 κ [.ref (a 0), .int (J z), .int (J 13)] (WM κ a σ th kp) (fun r (u : Int) => ((0 ≤ z ∧ z < σ 5 3) ∧ u = 0 ∧ r = J (σ 1 z.toNat)) ∨ (¬ (0 ≤ z ∧ z < σ 5 3) ∧ u = 1 ∧ r = J 0)) (fun (u : Int) => WM κ a σ u kp) := by
  refine entry_i (by decide) rfl (Nat.le_of_ble_eq_true rfl) ?_
  intro P e s m args below meth c ls A Q F hname hK hA hret hW hl
  obtain ⟨hx, hb, hml, hown, hts⟩ := id F
  have hn2 : ∀ w ∈ wsX20, w ∈ wsX2_of := by decide +kernel
  have hN := hI.hN
  have hN10 := hI.n10
  have hnn := hI.1
  have hcm := cmn_lt σ
  refine lv_aload_n hx hb dX2_of_0 rfl (lv_at hl 0 rfl) ?_
  refine jv_iconst hx hb dX2_of_1 ?_
  refine jv_put (T := TX2) (N := 6) (ws' := (WM κ a σ 0 kp)) hx hb hts hn2 tyX2 tyX2_ok nmX2 hown hK hW 0 rfl rfl 0 (by decide) (List.mem_of_getElem? (i := 1) rfl) rfl rfl rfl (Nat.le_of_ble_eq_true rfl) rfl dX2_of_2 (fun H locs hW => ?_)
  refine lv_aload_n hx hb dX2_of_5 rfl (lv_at hl 0 rfl) ?_
  refine lv_iload_n hx hb dX2_of_6 rfl (lv_at hl 1 rfl) ?_
  refine fin_i (k := 0) (n := 0) (W2 := (fun _ => (WM κ a σ 0 kp))) [0, 1, 2, 3] [] [0, 1, 2, 3] hW hA (va_runV (As := [.int (J z)]) (rest := []) F ((m_X2_isPot l κ a σ 0 kp z ⟨by omega, by omega⟩ hI) _) (cwV 1 hts gX2_of_X2_isPot rfl rfl rfl (by decide +kernel) ⟨(Nat.le_of_ble_eq_true rfl), (Nat.le_of_ble_eq_true rfl)⟩) (pre_V hK hW [0, 1, 2, 3] rfl (by decide) 2 0 rfl rfl) rfl rfl hl.1 rfl (lv_room (Nat.le_of_ble_eq_true rfl)) dX2_of_7 ⟨(by first | exact Nat.le_of_ble_eq_true rfl | omega | (dsimp only [rm_X2_of13, rm_X2_isPot]; omega)), (by first | exact Nat.le_of_ble_eq_true rfl | omega | (dsimp only [rm_X2_of13, rm_X2_isPot]; omega))⟩) rfl rfl rfl (by decide) rfl (fun _ => rfl) (by first | exact Nat.le_of_ble_eq_true rfl | omega | (dsimp only [rm_X2_of13, rm_X2_isPot]; omega)) (by first | exact Nat.le_of_ble_eq_true rfl | omega | (dsimp only [rm_X2_of13, rm_X2_isPot]; omega)) (fun r_2 u H locs hp_1 hW => ?_)
  subst hp_1
  refine jv_ifb_eq (b := (decide (0 ≤ z ∧ z ≤ σ 5 3 - 1))) hx hb 24 dX2_of_10 (by decide) (fun h_3 => ?_) (fun h_3 => ?_)
  · skip
    have eh_3 := of_decide_eq_false h_3
    refine lv_aload_n hx hb dX2_of_24 rfl (lv_at hl 0 rfl) ?_
    refine jv_iconst hx hb dX2_of_25 ?_
    refine fin_i (k := 0) (n := 0) (W2 := (fun _ => (WM κ a σ 1 kp))) [0, 1, 2, 3] [] [0, 1, 2, 3] hW hA (va_runV (As := [.int (J 1)]) (rest := []) F ((m_X2_no l κ a σ 0 kp 1 hI) _) (cwV 1 hts gX2_of_X2_no rfl rfl rfl (by decide +kernel) ⟨(Nat.le_of_ble_eq_true rfl), (Nat.le_of_ble_eq_true rfl)⟩) (pre_V hK hW [0, 1, 2, 3] rfl (by decide) 2 0 rfl rfl) rfl rfl hl.1 rfl (lv_room (Nat.le_of_ble_eq_true rfl)) dX2_of_26 ⟨(by first | exact Nat.le_of_ble_eq_true rfl | omega | (dsimp only [rm_X2_of13, rm_X2_no]; omega)), (by first | exact Nat.le_of_ble_eq_true rfl | omega | (dsimp only [rm_X2_of13, rm_X2_no]; omega))⟩) rfl rfl rfl (by decide) rfl (fun _ => rfl) (by first | exact Nat.le_of_ble_eq_true rfl | omega | (dsimp only [rm_X2_of13, rm_X2_no]; omega)) (by first | exact Nat.le_of_ble_eq_true rfl | omega | (dsimp only [rm_X2_of13, rm_X2_no]; omega)) (fun r_5 u H locs hp_4 hW => ?_)
    subst hp_4
    exact hret 1 hW dX2_of_29 (by first | exact Nat.le_of_ble_eq_true rfl | omega | (dsimp only [rm_X2_of13]; omega)) (by first | exact Nat.le_of_ble_eq_true rfl | omega | (dsimp only [rm_X2_of13]; omega)) (Or.inr ⟨by omega, rfl, rfl⟩)
  · skip
    have eh_3 := of_decide_eq_true h_3
    obtain ⟨p, rfl⟩ : ∃ p : Nat, z = (p : Int) := ⟨z.toNat, by omega⟩
    have hbp := hI.at p (by omega)
    refine lv_aload_n hx hb dX2_of_13 rfl (lv_at hl 0 rfl) ?_
    refine jv_get (T := TX2) (N := 6) (v := .ref (a 2)) hx hb hts hn2 hown hK hW 0 rfl rfl 4 (by decide) (List.mem_of_getElem? (i := 2) rfl) rfl dX2_of_14 ?_
    refine lv_iload_n hx hb dX2_of_17 rfl (lv_at hl 2 rfl) ?_
    refine lv_iload_n hx hb dX2_of_18 rfl (lv_at hl 1 rfl) ?_
    refine jv_iadd hx hb dX2_of_19 ?_
    refine jv_iald (g := (nowf σ)) hx hb hK hW 2 rfl (13 + p) (by omega) (by omega) (by decide) dX2_of_20 ?_
    refine jv_eq (y := (σ 1 p)) (nowf_r1 _ (by omega)) ?_
    refine lv_goto (tgt := 29) hx hb dX2_of_21 (by decide) ?_
    exact hret 0 hW dX2_of_29 (by first | exact Nat.le_of_ble_eq_true rfl | omega | (dsimp only [rm_X2_of13]; omega)) (by first | exact Nat.le_of_ble_eq_true rfl | omega | (dsimp only [rm_X2_of13]; omega)) (Or.inl ⟨by omega, rfl, rfl⟩)

abbrev rm_X2_of23 : Room := { frames := 2, cells := 0, slots := 0, locals := 43 }
set_option maxHeartbeats 4000000 in
set_option maxRecDepth 100000 in
/-- of -/
theorem m_X2_of23 (l : Launch) (κ : Kp) (a : Nat → Nat) (σ : Sg) (th : Int) (kp : Nat → Int) (z : Int) (hz : InR z) (hI : Inv σ) : CGi l yX2_of wsX2_of rm_X2_of23 κ [.ref (a 0), .int (J z), .int (J 23)] (WM κ a σ th kp) (fun r (u : Int) => ((0 ≤ z ∧ z < σ 5 3) ∧ u = 0 ∧ r = J (σ 2 z.toNat)) ∨ (¬ (0 ≤ z ∧ z < σ 5 3) ∧ u = 1 ∧ r = J 0)) (fun (u : Int) => WM κ a σ u kp) := by
  refine entry_i (by decide) rfl (Nat.le_of_ble_eq_true rfl) ?_
  intro P e s m args below meth c ls A Q F hname hK hA hret hW hl
  obtain ⟨hx, hb, hml, hown, hts⟩ := id F
  have hn2 : ∀ w ∈ wsX20, w ∈ wsX2_of := by decide +kernel
  have hN := hI.hN
  have hN10 := hI.n10
  have hnn := hI.1
  have hcm := cmn_lt σ
  refine lv_aload_n hx hb dX2_of_0 rfl (lv_at hl 0 rfl) ?_
  refine jv_iconst hx hb dX2_of_1 ?_
  refine jv_put (T := TX2) (N := 6) (ws' := (WM κ a σ 0 kp)) hx hb hts hn2 tyX2 tyX2_ok nmX2 hown hK hW 0 rfl rfl 0 (by decide) (List.mem_of_getElem? (i := 1) rfl) rfl rfl rfl (Nat.le_of_ble_eq_true rfl) rfl dX2_of_2 (fun H locs hW => ?_)
  refine lv_aload_n hx hb dX2_of_5 rfl (lv_at hl 0 rfl) ?_
  refine lv_iload_n hx hb dX2_of_6 rfl (lv_at hl 1 rfl) ?_
  refine fin_i (k := 0) (n := 0) (W2 := (fun _ => (WM κ a σ 0 kp))) [0, 1, 2, 3] [] [0, 1, 2, 3] hW hA (va_runV (As := [.int (J z)]) (rest := []) F ((m_X2_isPot l κ a σ 0 kp z ⟨by omega, by omega⟩ hI) _) (cwV 1 hts gX2_of_X2_isPot rfl rfl rfl (by decide +kernel) ⟨(Nat.le_of_ble_eq_true rfl), (Nat.le_of_ble_eq_true rfl)⟩) (pre_V hK hW [0, 1, 2, 3] rfl (by decide) 2 0 rfl rfl) rfl rfl hl.1 rfl (lv_room (Nat.le_of_ble_eq_true rfl)) dX2_of_7 ⟨(by first | exact Nat.le_of_ble_eq_true rfl | omega | (dsimp only [rm_X2_of23, rm_X2_isPot]; omega)), (by first | exact Nat.le_of_ble_eq_true rfl | omega | (dsimp only [rm_X2_of23, rm_X2_isPot]; omega))⟩) rfl rfl rfl (by decide) rfl (fun _ => rfl) (by first | exact Nat.le_of_ble_eq_true rfl | omega | (dsimp only [rm_X2_of23, rm_X2_isPot]; omega)) (by first | exact Nat.le_of_ble_eq_true rfl | omega | (dsimp only [rm_X2_of23, rm_X2_isPot]; omega)) (fun r_2 u H locs hp_1 hW => ?_)
  subst hp_1
  refine jv_ifb_eq (b := (decide (0 ≤ z ∧ z ≤ σ 5 3 - 1))) hx hb 24 dX2_of_10 (by decide) (fun h_3 => ?_) (fun h_3 => ?_)
  · skip
    have eh_3 := of_decide_eq_false h_3
    refine lv_aload_n hx hb dX2_of_24 rfl (lv_at hl 0 rfl) ?_
    refine jv_iconst hx hb dX2_of_25 ?_
    refine fin_i (k := 0) (n := 0) (W2 := (fun _ => (WM κ a σ 1 kp))) [0, 1, 2, 3] [] [0, 1, 2, 3] hW hA (va_runV (As := [.int (J 1)]) (rest := []) F ((m_X2_no l κ a σ 0 kp 1 hI) _) (cwV 1 hts gX2_of_X2_no rfl rfl rfl (by decide +kernel) ⟨(Nat.le_of_ble_eq_true rfl), (Nat.le_of_ble_eq_true rfl)⟩) (pre_V hK hW [0, 1, 2, 3] rfl (by decide) 2 0 rfl rfl) rfl rfl hl.1 rfl (lv_room (Nat.le_of_ble_eq_true rfl)) dX2_of_26 ⟨(by first | exact Nat.le_of_ble_eq_true rfl | omega | (dsimp only [rm_X2_of23, rm_X2_no]; omega)), (by first | exact Nat.le_of_ble_eq_true rfl | omega | (dsimp only [rm_X2_of23, rm_X2_no]; omega))⟩) rfl rfl rfl (by decide) rfl (fun _ => rfl) (by first | exact Nat.le_of_ble_eq_true rfl | omega | (dsimp only [rm_X2_of23, rm_X2_no]; omega)) (by first | exact Nat.le_of_ble_eq_true rfl | omega | (dsimp only [rm_X2_of23, rm_X2_no]; omega)) (fun r_5 u H locs hp_4 hW => ?_)
    subst hp_4
    exact hret 1 hW dX2_of_29 (by first | exact Nat.le_of_ble_eq_true rfl | omega | (dsimp only [rm_X2_of23]; omega)) (by first | exact Nat.le_of_ble_eq_true rfl | omega | (dsimp only [rm_X2_of23]; omega)) (Or.inr ⟨by omega, rfl, rfl⟩)
  · skip
    have eh_3 := of_decide_eq_true h_3
    obtain ⟨p, rfl⟩ : ∃ p : Nat, z = (p : Int) := ⟨z.toNat, by omega⟩
    have hbp := hI.at p (by omega)
    refine lv_aload_n hx hb dX2_of_13 rfl (lv_at hl 0 rfl) ?_
    refine jv_get (T := TX2) (N := 6) (v := .ref (a 2)) hx hb hts hn2 hown hK hW 0 rfl rfl 4 (by decide) (List.mem_of_getElem? (i := 2) rfl) rfl dX2_of_14 ?_
    refine lv_iload_n hx hb dX2_of_17 rfl (lv_at hl 2 rfl) ?_
    refine lv_iload_n hx hb dX2_of_18 rfl (lv_at hl 1 rfl) ?_
    refine jv_iadd hx hb dX2_of_19 ?_
    refine jv_iald (g := (nowf σ)) hx hb hK hW 2 rfl (23 + p) (by omega) (by omega) (by decide) dX2_of_20 ?_
    refine jv_eq (y := (σ 2 p)) (nowf_r2 _ (by omega)) ?_
    refine lv_goto (tgt := 29) hx hb dX2_of_21 (by decide) ?_
    exact hret 0 hW dX2_of_29 (by first | exact Nat.le_of_ble_eq_true rfl | omega | (dsimp only [rm_X2_of23]; omega)) (by first | exact Nat.le_of_ble_eq_true rfl | omega | (dsimp only [rm_X2_of23]; omega)) (Or.inl ⟨by omega, rfl, rfl⟩)

abbrev rm_X2_pitchOf : Room := { frames := 3, cells := 0, slots := 0, locals := 65 }
set_option maxHeartbeats 4000000 in
set_option maxRecDepth 100000 in
/-- pitchOf -/
theorem m_X2_pitchOf (l : Launch) (κ : Kp) (a : Nat → Nat) (σ : Sg) (th : Int) (kp : Nat → Int) (z : Int) (hz : InR z) (hI : Inv σ) : CGi l yX2_pitchOf wsX2_pitchOf rm_X2_pitchOf κ [.ref (a 0), .int (J z)] (WM κ a σ th kp) (fun r (u : Int) => ((0 ≤ z ∧ z < σ 5 3) ∧ u = 0 ∧ r = J (σ 0 z.toNat)) ∨ (¬ (0 ≤ z ∧ z < σ 5 3) ∧ u = 1 ∧ r = J 0)) (fun (u : Int) => WM κ a σ u kp) := by
  refine entry_i (by decide) rfl (Nat.le_of_ble_eq_true rfl) ?_
  intro P e s m args below meth c ls A Q F hname hK hA hret hW hl
  obtain ⟨hx, hb, hml, hown, hts⟩ := id F
  have hN := hI.hN
  have hN10 := hI.n10
  have hnn := hI.1
  have hcm := cmn_lt σ
  refine lv_aload_n hx hb dX2_pitchOf_0 rfl (lv_at hl 0 rfl) ?_
  refine lv_iload_n hx hb dX2_pitchOf_1 rfl (lv_at hl 1 rfl) ?_
  refine jv_iconst hx hb dX2_pitchOf_2 ?_
  refine fin_i (k := 0) (n := 0) (W2 := (fun u1 => (WM κ a σ u1 kp))) [0, 1, 2, 3] [] [0, 1, 2, 3] hW hA (va_runV (As := [.int (J z), .int (J 3)]) (rest := []) F ((m_X2_of3 l κ a σ th kp z ⟨by omega, by omega⟩ hI) _) (cwV 2 hts gX2_pitchOf_X2_of rfl rfl rfl (by decide +kernel) ⟨(Nat.le_of_ble_eq_true rfl), (Nat.le_of_ble_eq_true rfl)⟩) (pre_V hK hW [0, 1, 2, 3] rfl (by decide) 2 0 rfl rfl) rfl rfl hl.1 rfl (lv_room (Nat.le_of_ble_eq_true rfl)) dX2_pitchOf_3 ⟨(by first | exact Nat.le_of_ble_eq_true rfl | omega | (dsimp only [rm_X2_pitchOf, rm_X2_of3]; omega)), (by first | exact Nat.le_of_ble_eq_true rfl | omega | (dsimp only [rm_X2_pitchOf, rm_X2_of3]; omega))⟩) rfl rfl rfl (by decide) rfl (fun _ => rfl) (by first | exact Nat.le_of_ble_eq_true rfl | omega | (dsimp only [rm_X2_pitchOf, rm_X2_of3]; omega)) (by first | exact Nat.le_of_ble_eq_true rfl | omega | (dsimp only [rm_X2_pitchOf, rm_X2_of3]; omega)) (fun r_2 u1 H locs hp_1 hW => ?_)
  exact hret u1 hW dX2_pitchOf_6 (by first | exact Nat.le_of_ble_eq_true rfl | omega | (dsimp only [rm_X2_pitchOf]; omega)) (by first | exact Nat.le_of_ble_eq_true rfl | omega | (dsimp only [rm_X2_pitchOf]; omega)) hp_1

abbrev rm_X2_teaOf : Room := { frames := 3, cells := 0, slots := 0, locals := 65 }
set_option maxHeartbeats 4000000 in
set_option maxRecDepth 100000 in
/-- teaOf -/
theorem m_X2_teaOf (l : Launch) (κ : Kp) (a : Nat → Nat) (σ : Sg) (th : Int) (kp : Nat → Int) (z : Int) (hz : InR z) (hI : Inv σ) : CGi l yX2_teaOf wsX2_teaOf rm_X2_teaOf κ [.ref (a 0), .int (J z)] (WM κ a σ th kp) (fun r (u : Int) => ((0 ≤ z ∧ z < σ 5 3) ∧ u = 0 ∧ r = J (σ 1 z.toNat)) ∨ (¬ (0 ≤ z ∧ z < σ 5 3) ∧ u = 1 ∧ r = J 0)) (fun (u : Int) => WM κ a σ u kp) := by
  refine entry_i (by decide) rfl (Nat.le_of_ble_eq_true rfl) ?_
  intro P e s m args below meth c ls A Q F hname hK hA hret hW hl
  obtain ⟨hx, hb, hml, hown, hts⟩ := id F
  have hN := hI.hN
  have hN10 := hI.n10
  have hnn := hI.1
  have hcm := cmn_lt σ
  refine lv_aload_n hx hb dX2_teaOf_0 rfl (lv_at hl 0 rfl) ?_
  refine lv_iload_n hx hb dX2_teaOf_1 rfl (lv_at hl 1 rfl) ?_
  refine jv_bipush hx hb 13 dX2_teaOf_2 (by decide +kernel) ?_
  refine fin_i (k := 0) (n := 0) (W2 := (fun u1 => (WM κ a σ u1 kp))) [0, 1, 2, 3] [] [0, 1, 2, 3] hW hA (va_runV (As := [.int (J z), .int (J 13)]) (rest := []) F ((m_X2_of13 l κ a σ th kp z ⟨by omega, by omega⟩ hI) _) (cwV 2 hts gX2_teaOf_X2_of rfl rfl rfl (by decide +kernel) ⟨(Nat.le_of_ble_eq_true rfl), (Nat.le_of_ble_eq_true rfl)⟩) (pre_V hK hW [0, 1, 2, 3] rfl (by decide) 2 0 rfl rfl) rfl rfl hl.1 rfl (lv_room (Nat.le_of_ble_eq_true rfl)) dX2_teaOf_4 ⟨(by first | exact Nat.le_of_ble_eq_true rfl | omega | (dsimp only [rm_X2_teaOf, rm_X2_of13]; omega)), (by first | exact Nat.le_of_ble_eq_true rfl | omega | (dsimp only [rm_X2_teaOf, rm_X2_of13]; omega))⟩) rfl rfl rfl (by decide) rfl (fun _ => rfl) (by first | exact Nat.le_of_ble_eq_true rfl | omega | (dsimp only [rm_X2_teaOf, rm_X2_of13]; omega)) (by first | exact Nat.le_of_ble_eq_true rfl | omega | (dsimp only [rm_X2_teaOf, rm_X2_of13]; omega)) (fun r_2 u1 H locs hp_1 hW => ?_)
  exact hret u1 hW dX2_teaOf_7 (by first | exact Nat.le_of_ble_eq_true rfl | omega | (dsimp only [rm_X2_teaOf]; omega)) (by first | exact Nat.le_of_ble_eq_true rfl | omega | (dsimp only [rm_X2_teaOf]; omega)) hp_1

abbrev rm_X2_crackOf : Room := { frames := 3, cells := 0, slots := 0, locals := 65 }
set_option maxHeartbeats 4000000 in
set_option maxRecDepth 100000 in
/-- crackOf -/
theorem m_X2_crackOf (l : Launch) (κ : Kp) (a : Nat → Nat) (σ : Sg) (th : Int) (kp : Nat → Int) (z : Int) (hz : InR z) (hI : Inv σ) : CGi l yX2_crackOf wsX2_crackOf rm_X2_crackOf κ [.ref (a 0), .int (J z)] (WM κ a σ th kp) (fun r (u : Int) => ((0 ≤ z ∧ z < σ 5 3) ∧ u = 0 ∧ r = J (σ 2 z.toNat)) ∨ (¬ (0 ≤ z ∧ z < σ 5 3) ∧ u = 1 ∧ r = J 0)) (fun (u : Int) => WM κ a σ u kp) := by
  refine entry_i (by decide) rfl (Nat.le_of_ble_eq_true rfl) ?_
  intro P e s m args below meth c ls A Q F hname hK hA hret hW hl
  obtain ⟨hx, hb, hml, hown, hts⟩ := id F
  have hN := hI.hN
  have hN10 := hI.n10
  have hnn := hI.1
  have hcm := cmn_lt σ
  refine lv_aload_n hx hb dX2_crackOf_0 rfl (lv_at hl 0 rfl) ?_
  refine lv_iload_n hx hb dX2_crackOf_1 rfl (lv_at hl 1 rfl) ?_
  refine jv_bipush hx hb 23 dX2_crackOf_2 (by decide +kernel) ?_
  refine fin_i (k := 0) (n := 0) (W2 := (fun u1 => (WM κ a σ u1 kp))) [0, 1, 2, 3] [] [0, 1, 2, 3] hW hA (va_runV (As := [.int (J z), .int (J 23)]) (rest := []) F ((m_X2_of23 l κ a σ th kp z ⟨by omega, by omega⟩ hI) _) (cwV 2 hts gX2_crackOf_X2_of rfl rfl rfl (by decide +kernel) ⟨(Nat.le_of_ble_eq_true rfl), (Nat.le_of_ble_eq_true rfl)⟩) (pre_V hK hW [0, 1, 2, 3] rfl (by decide) 2 0 rfl rfl) rfl rfl hl.1 rfl (lv_room (Nat.le_of_ble_eq_true rfl)) dX2_crackOf_4 ⟨(by first | exact Nat.le_of_ble_eq_true rfl | omega | (dsimp only [rm_X2_crackOf, rm_X2_of23]; omega)), (by first | exact Nat.le_of_ble_eq_true rfl | omega | (dsimp only [rm_X2_crackOf, rm_X2_of23]; omega))⟩) rfl rfl rfl (by decide) rfl (fun _ => rfl) (by first | exact Nat.le_of_ble_eq_true rfl | omega | (dsimp only [rm_X2_crackOf, rm_X2_of23]; omega)) (by first | exact Nat.le_of_ble_eq_true rfl | omega | (dsimp only [rm_X2_crackOf, rm_X2_of23]; omega)) (fun r_2 u1 H locs hp_1 hW => ?_)
  exact hret u1 hW dX2_crackOf_7 (by first | exact Nat.le_of_ble_eq_true rfl | omega | (dsimp only [rm_X2_crackOf]; omega)) (by first | exact Nat.le_of_ble_eq_true rfl | omega | (dsimp only [rm_X2_crackOf]; omega)) hp_1

abbrev rm_X2_sounds : Room := { frames := 2, cells := 0, slots := 0, locals := 43 }
set_option maxHeartbeats 4000000 in
set_option maxRecDepth 100000 in
/-- sounds -/
theorem m_X2_sounds (l : Launch) (κ : Kp) (a : Nat → Nat) (σ : Sg) (th : Int) (kp : Nat → Int) (z : Int) (hz : InR z) (hI : Inv σ) : CGi l yX2_sounds wsX2_sounds rm_X2_sounds κ [.ref (a 0), .int (J z)] (WM κ a σ th kp) (fun r (u : Int) => ((0 ≤ z ∧ z < σ 5 3) ∧ u = 0 ∧ r = J (bi (sn σ z.toNat))) ∨ (¬ (0 ≤ z ∧ z < σ 5 3) ∧ u = 1 ∧ r = J 0)) (fun (u : Int) => WM κ a σ u kp) := by
  refine entry_z (by decide) rfl (Nat.le_of_ble_eq_true rfl) ?_
  intro P e s m args below meth c ls A Q F hname hK hA hret hW hl
  obtain ⟨hx, hb, hml, hown, hts⟩ := id F
  have hn2 : ∀ w ∈ wsX20, w ∈ wsX2_sounds := by decide +kernel
  have hN := hI.hN
  have hN10 := hI.n10
  have hnn := hI.1
  have hcm := cmn_lt σ
  refine lv_aload_n hx hb dX2_sounds_0 rfl (lv_at hl 0 rfl) ?_
  refine jv_iconst hx hb dX2_sounds_1 ?_
  refine jv_put (T := TX2) (N := 6) (ws' := (WM κ a σ 0 kp)) hx hb hts hn2 tyX2 tyX2_ok nmX2 hown hK hW 0 rfl rfl 0 (by decide) (List.mem_of_getElem? (i := 1) rfl) rfl rfl rfl (Nat.le_of_ble_eq_true rfl) rfl dX2_sounds_2 (fun H locs hW => ?_)
  refine lv_aload_n hx hb dX2_sounds_5 rfl (lv_at hl 0 rfl) ?_
  refine lv_iload_n hx hb dX2_sounds_6 rfl (lv_at hl 1 rfl) ?_
  refine fin_i (k := 0) (n := 0) (W2 := (fun _ => (WM κ a σ 0 kp))) [0, 1, 2, 3] [] [0, 1, 2, 3] hW hA (va_runV (As := [.int (J z)]) (rest := []) F ((m_X2_isPot l κ a σ 0 kp z ⟨by omega, by omega⟩ hI) _) (cwV 1 hts gX2_sounds_X2_isPot rfl rfl rfl (by decide +kernel) ⟨(Nat.le_of_ble_eq_true rfl), (Nat.le_of_ble_eq_true rfl)⟩) (pre_V hK hW [0, 1, 2, 3] rfl (by decide) 2 0 rfl rfl) rfl rfl hl.1 rfl (lv_room (Nat.le_of_ble_eq_true rfl)) dX2_sounds_7 ⟨(by first | exact Nat.le_of_ble_eq_true rfl | omega | (dsimp only [rm_X2_sounds, rm_X2_isPot]; omega)), (by first | exact Nat.le_of_ble_eq_true rfl | omega | (dsimp only [rm_X2_sounds, rm_X2_isPot]; omega))⟩) rfl rfl rfl (by decide) rfl (fun _ => rfl) (by first | exact Nat.le_of_ble_eq_true rfl | omega | (dsimp only [rm_X2_sounds, rm_X2_isPot]; omega)) (by first | exact Nat.le_of_ble_eq_true rfl | omega | (dsimp only [rm_X2_sounds, rm_X2_isPot]; omega)) (fun r_2 u H locs hp_1 hW => ?_)
  subst hp_1
  refine jv_ifb_eq (b := (decide (0 ≤ z ∧ z ≤ σ 5 3 - 1))) hx hb 21 dX2_sounds_10 (by decide) (fun h_3 => ?_) (fun h_3 => ?_)
  · skip
    have eh_3 := of_decide_eq_false h_3
    refine lv_aload_n hx hb dX2_sounds_21 rfl (lv_at hl 0 rfl) ?_
    refine jv_iconst hx hb dX2_sounds_22 ?_
    refine fin_i (k := 0) (n := 0) (W2 := (fun _ => (WM κ a σ 1 kp))) [0, 1, 2, 3] [] [0, 1, 2, 3] hW hA (va_runV (As := [.int (J 1)]) (rest := []) F ((m_X2_isNot l κ a σ 0 kp 1 hI) _) (cwV 1 hts gX2_sounds_X2_isNot rfl rfl rfl (by decide +kernel) ⟨(Nat.le_of_ble_eq_true rfl), (Nat.le_of_ble_eq_true rfl)⟩) (pre_V hK hW [0, 1, 2, 3] rfl (by decide) 2 0 rfl rfl) rfl rfl hl.1 rfl (lv_room (Nat.le_of_ble_eq_true rfl)) dX2_sounds_23 ⟨(by first | exact Nat.le_of_ble_eq_true rfl | omega | (dsimp only [rm_X2_sounds, rm_X2_isNot]; omega)), (by first | exact Nat.le_of_ble_eq_true rfl | omega | (dsimp only [rm_X2_sounds, rm_X2_isNot]; omega))⟩) rfl rfl rfl (by decide) rfl (fun _ => rfl) (by first | exact Nat.le_of_ble_eq_true rfl | omega | (dsimp only [rm_X2_sounds, rm_X2_isNot]; omega)) (by first | exact Nat.le_of_ble_eq_true rfl | omega | (dsimp only [rm_X2_sounds, rm_X2_isNot]; omega)) (fun r_5 u H locs hp_4 hW => ?_)
    subst hp_4
    exact hret 1 hW dX2_sounds_26 (by first | exact Nat.le_of_ble_eq_true rfl | omega | (dsimp only [rm_X2_sounds]; omega)) (by first | exact Nat.le_of_ble_eq_true rfl | omega | (dsimp only [rm_X2_sounds]; omega)) (by first | exact zr_01 (Or.inl rfl) | exact zr_01 (Or.inr rfl) | exact zr_b _ | exact zr_01 (by omega)) (Or.inr ⟨by omega, rfl, rfl⟩)
  · skip
    have eh_3 := of_decide_eq_true h_3
    obtain ⟨p, rfl⟩ : ∃ p : Nat, z = (p : Int) := ⟨z.toNat, by omega⟩
    have hbp := hI.at p (by omega)
    refine lv_aload_n hx hb dX2_sounds_13 rfl (lv_at hl 0 rfl) ?_
    refine lv_iload_n hx hb dX2_sounds_14 rfl (lv_at hl 1 rfl) ?_
    refine fin_i (k := 0) (n := 0) (W2 := (fun _ => (WM κ a σ 0 kp))) [0, 1, 2, 3] [] [0, 1, 2, 3] hW hA (va_runV (As := [.int (J (p : Int))]) (rest := []) F ((m_X2_heard l κ a σ 0 kp p (by omega) hI) _) (cwV 1 hts gX2_sounds_X2_heard rfl rfl rfl (by decide +kernel) ⟨(Nat.le_of_ble_eq_true rfl), (Nat.le_of_ble_eq_true rfl)⟩) (pre_V hK hW [0, 1, 2, 3] rfl (by decide) 2 0 rfl rfl) rfl rfl hl.1 rfl (lv_room (Nat.le_of_ble_eq_true rfl)) dX2_sounds_15 ⟨(by first | exact Nat.le_of_ble_eq_true rfl | omega | (dsimp only [rm_X2_sounds, rm_X2_heard]; omega)), (by first | exact Nat.le_of_ble_eq_true rfl | omega | (dsimp only [rm_X2_sounds, rm_X2_heard]; omega))⟩) rfl rfl rfl (by decide) rfl (fun _ => rfl) (by first | exact Nat.le_of_ble_eq_true rfl | omega | (dsimp only [rm_X2_sounds, rm_X2_heard]; omega)) (by first | exact Nat.le_of_ble_eq_true rfl | omega | (dsimp only [rm_X2_sounds, rm_X2_heard]; omega)) (fun r_7 u H locs hp_6 hW => ?_)
    subst hp_6
    refine lv_goto (tgt := 26) hx hb dX2_sounds_18 (by decide) ?_
    exact hret 0 hW dX2_sounds_26 (by first | exact Nat.le_of_ble_eq_true rfl | omega | (dsimp only [rm_X2_sounds]; omega)) (by first | exact Nat.le_of_ble_eq_true rfl | omega | (dsimp only [rm_X2_sounds]; omega)) (by first | exact zr_01 (Or.inl rfl) | exact zr_01 (Or.inr rfl) | exact zr_b _ | exact zr_01 (by omega)) (Or.inl ⟨by omega, rfl, rfl⟩)

abbrev rm_X2_clashesOf : Room := { frames := 5, cells := 0, slots := 0, locals := 110 }
set_option maxHeartbeats 4000000 in
set_option maxRecDepth 100000 in
/-- clashesOf -/
theorem m_X2_clashesOf (l : Launch) (κ : Kp) (a : Nat → Nat) (σ : Sg) (th : Int) (kp : Nat → Int) (z : Int) (hz : InR z) (hI : Inv σ) : CGi l yX2_clashesOf wsX2_clashesOf rm_X2_clashesOf κ [.ref (a 0), .int (J z)] (WM κ a σ th kp) (fun r (u : Int) => ((0 ≤ z ∧ z < σ 5 3) ∧ u = 0 ∧ r = J (cof σ z.toNat)) ∨ (¬ (0 ≤ z ∧ z < σ 5 3) ∧ u = 1 ∧ r = J 0)) (fun (u : Int) => WM κ a σ u kp) := by
  refine entry_i (by decide) rfl (Nat.le_of_ble_eq_true rfl) ?_
  intro P e s m args below meth c ls A Q F hname hK hA hret hW hl
  obtain ⟨hx, hb, hml, hown, hts⟩ := id F
  have hn2 : ∀ w ∈ wsX20, w ∈ wsX2_clashesOf := by decide +kernel
  have hN := hI.hN
  have hN10 := hI.n10
  have hnn := hI.1
  have hcm := cmn_lt σ
  refine lv_aload_n hx hb dX2_clashesOf_0 rfl (lv_at hl 0 rfl) ?_
  refine jv_iconst hx hb dX2_clashesOf_1 ?_
  refine jv_put (T := TX2) (N := 6) (ws' := (WM κ a σ 0 kp)) hx hb hts hn2 tyX2 tyX2_ok nmX2 hown hK hW 0 rfl rfl 0 (by decide) (List.mem_of_getElem? (i := 1) rfl) rfl rfl rfl (Nat.le_of_ble_eq_true rfl) rfl dX2_clashesOf_2 (fun H locs hW => ?_)
  refine lv_aload_n hx hb dX2_clashesOf_5 rfl (lv_at hl 0 rfl) ?_
  refine lv_iload_n hx hb dX2_clashesOf_6 rfl (lv_at hl 1 rfl) ?_
  refine fin_i (k := 0) (n := 0) (W2 := (fun _ => (WM κ a σ 0 kp))) [0, 1, 2, 3] [] [0, 1, 2, 3] hW hA (va_runV (As := [.int (J z)]) (rest := []) F ((m_X2_isPot l κ a σ 0 kp z ⟨by omega, by omega⟩ hI) _) (cwV 1 hts gX2_clashesOf_X2_isPot rfl rfl rfl (by decide +kernel) ⟨(Nat.le_of_ble_eq_true rfl), (Nat.le_of_ble_eq_true rfl)⟩) (pre_V hK hW [0, 1, 2, 3] rfl (by decide) 2 0 rfl rfl) rfl rfl hl.1 rfl (lv_room (Nat.le_of_ble_eq_true rfl)) dX2_clashesOf_7 ⟨(by first | exact Nat.le_of_ble_eq_true rfl | omega | (dsimp only [rm_X2_clashesOf, rm_X2_isPot]; omega)), (by first | exact Nat.le_of_ble_eq_true rfl | omega | (dsimp only [rm_X2_clashesOf, rm_X2_isPot]; omega))⟩) rfl rfl rfl (by decide) rfl (fun _ => rfl) (by first | exact Nat.le_of_ble_eq_true rfl | omega | (dsimp only [rm_X2_clashesOf, rm_X2_isPot]; omega)) (by first | exact Nat.le_of_ble_eq_true rfl | omega | (dsimp only [rm_X2_clashesOf, rm_X2_isPot]; omega)) (fun r_2 u H locs hp_1 hW => ?_)
  subst hp_1
  refine jv_ifb_eq (b := (decide (0 ≤ z ∧ z ≤ σ 5 3 - 1))) hx hb 21 dX2_clashesOf_10 (by decide) (fun h_3 => ?_) (fun h_3 => ?_)
  · skip
    have eh_3 := of_decide_eq_false h_3
    refine lv_aload_n hx hb dX2_clashesOf_21 rfl (lv_at hl 0 rfl) ?_
    refine jv_iconst hx hb dX2_clashesOf_22 ?_
    refine fin_i (k := 0) (n := 0) (W2 := (fun _ => (WM κ a σ 1 kp))) [0, 1, 2, 3] [] [0, 1, 2, 3] hW hA (va_runV (As := [.int (J 1)]) (rest := []) F ((m_X2_no l κ a σ 0 kp 1 hI) _) (cwV 1 hts gX2_clashesOf_X2_no rfl rfl rfl (by decide +kernel) ⟨(Nat.le_of_ble_eq_true rfl), (Nat.le_of_ble_eq_true rfl)⟩) (pre_V hK hW [0, 1, 2, 3] rfl (by decide) 2 0 rfl rfl) rfl rfl hl.1 rfl (lv_room (Nat.le_of_ble_eq_true rfl)) dX2_clashesOf_23 ⟨(by first | exact Nat.le_of_ble_eq_true rfl | omega | (dsimp only [rm_X2_clashesOf, rm_X2_no]; omega)), (by first | exact Nat.le_of_ble_eq_true rfl | omega | (dsimp only [rm_X2_clashesOf, rm_X2_no]; omega))⟩) rfl rfl rfl (by decide) rfl (fun _ => rfl) (by first | exact Nat.le_of_ble_eq_true rfl | omega | (dsimp only [rm_X2_clashesOf, rm_X2_no]; omega)) (by first | exact Nat.le_of_ble_eq_true rfl | omega | (dsimp only [rm_X2_clashesOf, rm_X2_no]; omega)) (fun r_5 u H locs hp_4 hW => ?_)
    subst hp_4
    exact hret 1 hW dX2_clashesOf_26 (by first | exact Nat.le_of_ble_eq_true rfl | omega | (dsimp only [rm_X2_clashesOf]; omega)) (by first | exact Nat.le_of_ble_eq_true rfl | omega | (dsimp only [rm_X2_clashesOf]; omega)) (Or.inr ⟨by omega, rfl, rfl⟩)
  · skip
    have eh_3 := of_decide_eq_true h_3
    obtain ⟨p, rfl⟩ : ∃ p : Nat, z = (p : Int) := ⟨z.toNat, by omega⟩
    have hbp := hI.at p (by omega)
    refine lv_aload_n hx hb dX2_clashesOf_13 rfl (lv_at hl 0 rfl) ?_
    refine lv_iload_n hx hb dX2_clashesOf_14 rfl (lv_at hl 1 rfl) ?_
    refine fin_i (k := 0) (n := 0) (W2 := (fun _ => (WM κ a σ 0 kp))) [0, 1, 2, 3] [] [0, 1, 2, 3] hW hA (va_runV (As := [.int (J (p : Int))]) (rest := []) F ((m_X2_clashing l κ a σ 0 kp p (by omega) hI) _) (cwV 1 hts gX2_clashesOf_X2_clashing rfl rfl rfl (by decide +kernel) ⟨(Nat.le_of_ble_eq_true rfl), (Nat.le_of_ble_eq_true rfl)⟩) (pre_V hK hW [0, 1, 2, 3] rfl (by decide) 2 0 rfl rfl) rfl rfl hl.1 rfl (lv_room (Nat.le_of_ble_eq_true rfl)) dX2_clashesOf_15 ⟨(by first | exact Nat.le_of_ble_eq_true rfl | omega | (dsimp only [rm_X2_clashesOf, rm_X2_clashing]; omega)), (by first | exact Nat.le_of_ble_eq_true rfl | omega | (dsimp only [rm_X2_clashesOf, rm_X2_clashing]; omega))⟩) rfl rfl rfl (by decide) rfl (fun _ => rfl) (by first | exact Nat.le_of_ble_eq_true rfl | omega | (dsimp only [rm_X2_clashesOf, rm_X2_clashing]; omega)) (by first | exact Nat.le_of_ble_eq_true rfl | omega | (dsimp only [rm_X2_clashesOf, rm_X2_clashing]; omega)) (fun r_7 u H locs hp_6 hW => ?_)
    subst hp_6
    refine lv_goto (tgt := 26) hx hb dX2_clashesOf_18 (by decide) ?_
    exact hret 0 hW dX2_clashesOf_26 (by first | exact Nat.le_of_ble_eq_true rfl | omega | (dsimp only [rm_X2_clashesOf]; omega)) (by first | exact Nat.le_of_ble_eq_true rfl | omega | (dsimp only [rm_X2_clashesOf]; omega)) (Or.inl ⟨by omega, rfl, rfl⟩)

abbrev rm_X2_interval : Room := { frames := 2, cells := 0, slots := 0, locals := 43 }
set_option maxHeartbeats 4000000 in
set_option maxRecDepth 100000 in
/-- interval -/
theorem m_X2_interval (l : Launch) (κ : Kp) (a : Nat → Nat) (σ : Sg) (th : Int) (kp : Nat → Int) (z1 z2 : Int) (hz : InR z1 ∧ InR z2) (hI : Inv σ) : CGi l yX2_interval wsX2_interval rm_X2_interval κ [.ref (a 0), .int (J z1), .int (J z2)] (WM κ a σ th kp) (fun r (u : Int) => (((0 ≤ z1 ∧ z1 < σ 5 3) ∧ (0 ≤ z2 ∧ z2 < σ 5 3)) ∧ u = 0 ∧ r = J (iab (σ 0 z1.toNat - σ 0 z2.toNat))) ∨ (¬ ((0 ≤ z1 ∧ z1 < σ 5 3) ∧ (0 ≤ z2 ∧ z2 < σ 5 3)) ∧ u = 1 ∧ r = J 0)) (fun (u : Int) => WM κ a σ u kp) := by
  refine entry_i (by decide) rfl (Nat.le_of_ble_eq_true rfl) ?_
  intro P e s m args below meth c ls A Q F hname hK hA hret hW hl
  obtain ⟨hx, hb, hml, hown, hts⟩ := id F
  have hn2 : ∀ w ∈ wsX20, w ∈ wsX2_interval := by decide +kernel
  have hN := hI.hN
  have hN10 := hI.n10
  have hnn := hI.1
  have hcm := cmn_lt σ
  refine lv_aload_n hx hb dX2_interval_0 rfl (lv_at hl 0 rfl) ?_
  refine jv_iconst hx hb dX2_interval_1 ?_
  refine jv_put (T := TX2) (N := 6) (ws' := (WM κ a σ 0 kp)) hx hb hts hn2 tyX2 tyX2_ok nmX2 hown hK hW 0 rfl rfl 0 (by decide) (List.mem_of_getElem? (i := 1) rfl) rfl rfl rfl (Nat.le_of_ble_eq_true rfl) rfl dX2_interval_2 (fun H locs hW => ?_)
  refine lv_aload_n hx hb dX2_interval_5 rfl (lv_at hl 0 rfl) ?_
  refine lv_iload_n hx hb dX2_interval_6 rfl (lv_at hl 1 rfl) ?_
  refine fin_i (k := 0) (n := 0) (W2 := (fun _ => (WM κ a σ 0 kp))) [0, 1, 2, 3] [] [0, 1, 2, 3] hW hA (va_runV (As := [.int (J z1)]) (rest := []) F ((m_X2_isPot l κ a σ 0 kp z1 ⟨by omega, by omega⟩ hI) _) (cwV 1 hts gX2_interval_X2_isPot rfl rfl rfl (by decide +kernel) ⟨(Nat.le_of_ble_eq_true rfl), (Nat.le_of_ble_eq_true rfl)⟩) (pre_V hK hW [0, 1, 2, 3] rfl (by decide) 2 0 rfl rfl) rfl rfl hl.1 rfl (lv_room (Nat.le_of_ble_eq_true rfl)) dX2_interval_7 ⟨(by first | exact Nat.le_of_ble_eq_true rfl | omega | (dsimp only [rm_X2_interval, rm_X2_isPot]; omega)), (by first | exact Nat.le_of_ble_eq_true rfl | omega | (dsimp only [rm_X2_interval, rm_X2_isPot]; omega))⟩) rfl rfl rfl (by decide) rfl (fun _ => rfl) (by first | exact Nat.le_of_ble_eq_true rfl | omega | (dsimp only [rm_X2_interval, rm_X2_isPot]; omega)) (by first | exact Nat.le_of_ble_eq_true rfl | omega | (dsimp only [rm_X2_interval, rm_X2_isPot]; omega)) (fun r_2 u H locs hp_1 hW => ?_)
  subst hp_1
  refine jv_ifb_eq (b := (decide (0 ≤ z1 ∧ z1 ≤ σ 5 3 - 1))) hx hb 30 dX2_interval_10 (by decide) (fun h_3 => ?_) (fun h_3 => ?_)
  · skip
    have eh_3 := of_decide_eq_false h_3
    refine lv_aload_n hx hb dX2_interval_30 rfl (lv_at hl 0 rfl) ?_
    refine jv_iconst hx hb dX2_interval_31 ?_
    refine fin_i (k := 0) (n := 0) (W2 := (fun _ => (WM κ a σ 1 kp))) [0, 1, 2, 3] [] [0, 1, 2, 3] hW hA (va_runV (As := [.int (J 1)]) (rest := []) F ((m_X2_no l κ a σ 0 kp 1 hI) _) (cwV 1 hts gX2_interval_X2_no rfl rfl rfl (by decide +kernel) ⟨(Nat.le_of_ble_eq_true rfl), (Nat.le_of_ble_eq_true rfl)⟩) (pre_V hK hW [0, 1, 2, 3] rfl (by decide) 2 0 rfl rfl) rfl rfl hl.1 rfl (lv_room (Nat.le_of_ble_eq_true rfl)) dX2_interval_32 ⟨(by first | exact Nat.le_of_ble_eq_true rfl | omega | (dsimp only [rm_X2_interval, rm_X2_no]; omega)), (by first | exact Nat.le_of_ble_eq_true rfl | omega | (dsimp only [rm_X2_interval, rm_X2_no]; omega))⟩) rfl rfl rfl (by decide) rfl (fun _ => rfl) (by first | exact Nat.le_of_ble_eq_true rfl | omega | (dsimp only [rm_X2_interval, rm_X2_no]; omega)) (by first | exact Nat.le_of_ble_eq_true rfl | omega | (dsimp only [rm_X2_interval, rm_X2_no]; omega)) (fun r_5 u H locs hp_4 hW => ?_)
    subst hp_4
    exact hret 1 hW dX2_interval_35 (by first | exact Nat.le_of_ble_eq_true rfl | omega | (dsimp only [rm_X2_interval]; omega)) (by first | exact Nat.le_of_ble_eq_true rfl | omega | (dsimp only [rm_X2_interval]; omega)) (Or.inr ⟨by omega, rfl, rfl⟩)
  · skip
    have eh_3 := of_decide_eq_true h_3
    obtain ⟨p1, rfl⟩ : ∃ p : Nat, z1 = (p : Int) := ⟨z1.toNat, by omega⟩
    have hbp1 := hI.at p1 (by omega)
    refine lv_aload_n hx hb dX2_interval_13 rfl (lv_at hl 0 rfl) ?_
    refine lv_iload_n hx hb dX2_interval_14 rfl (lv_at hl 2 rfl) ?_
    refine fin_i (k := 0) (n := 0) (W2 := (fun _ => (WM κ a σ 0 kp))) [0, 1, 2, 3] [] [0, 1, 2, 3] hW hA (va_runV (As := [.int (J z2)]) (rest := []) F ((m_X2_isPot l κ a σ 0 kp z2 ⟨by omega, by omega⟩ hI) _) (cwV 1 hts gX2_interval_X2_isPot rfl rfl rfl (by decide +kernel) ⟨(Nat.le_of_ble_eq_true rfl), (Nat.le_of_ble_eq_true rfl)⟩) (pre_V hK hW [0, 1, 2, 3] rfl (by decide) 2 0 rfl rfl) rfl rfl hl.1 rfl (lv_room (Nat.le_of_ble_eq_true rfl)) dX2_interval_15 ⟨(by first | exact Nat.le_of_ble_eq_true rfl | omega | (dsimp only [rm_X2_interval, rm_X2_isPot]; omega)), (by first | exact Nat.le_of_ble_eq_true rfl | omega | (dsimp only [rm_X2_interval, rm_X2_isPot]; omega))⟩) rfl rfl rfl (by decide) rfl (fun _ => rfl) (by first | exact Nat.le_of_ble_eq_true rfl | omega | (dsimp only [rm_X2_interval, rm_X2_isPot]; omega)) (by first | exact Nat.le_of_ble_eq_true rfl | omega | (dsimp only [rm_X2_interval, rm_X2_isPot]; omega)) (fun r_7 u H locs hp_6 hW => ?_)
    subst hp_6
    refine jv_ifb_eq (b := (decide (0 ≤ z2 ∧ z2 ≤ σ 5 3 - 1))) hx hb 30 dX2_interval_18 (by decide) (fun h_8 => ?_) (fun h_8 => ?_)
    · skip
      have eh_8 := of_decide_eq_false h_8
      refine lv_aload_n hx hb dX2_interval_30 rfl (lv_at hl 0 rfl) ?_
      refine jv_iconst hx hb dX2_interval_31 ?_
      refine fin_i (k := 0) (n := 0) (W2 := (fun _ => (WM κ a σ 1 kp))) [0, 1, 2, 3] [] [0, 1, 2, 3] hW hA (va_runV (As := [.int (J 1)]) (rest := []) F ((m_X2_no l κ a σ 0 kp 1 hI) _) (cwV 1 hts gX2_interval_X2_no rfl rfl rfl (by decide +kernel) ⟨(Nat.le_of_ble_eq_true rfl), (Nat.le_of_ble_eq_true rfl)⟩) (pre_V hK hW [0, 1, 2, 3] rfl (by decide) 2 0 rfl rfl) rfl rfl hl.1 rfl (lv_room (Nat.le_of_ble_eq_true rfl)) dX2_interval_32 ⟨(by first | exact Nat.le_of_ble_eq_true rfl | omega | (dsimp only [rm_X2_interval, rm_X2_no]; omega)), (by first | exact Nat.le_of_ble_eq_true rfl | omega | (dsimp only [rm_X2_interval, rm_X2_no]; omega))⟩) rfl rfl rfl (by decide) rfl (fun _ => rfl) (by first | exact Nat.le_of_ble_eq_true rfl | omega | (dsimp only [rm_X2_interval, rm_X2_no]; omega)) (by first | exact Nat.le_of_ble_eq_true rfl | omega | (dsimp only [rm_X2_interval, rm_X2_no]; omega)) (fun r_10 u H locs hp_9 hW => ?_)
      subst hp_9
      exact hret 1 hW dX2_interval_35 (by first | exact Nat.le_of_ble_eq_true rfl | omega | (dsimp only [rm_X2_interval]; omega)) (by first | exact Nat.le_of_ble_eq_true rfl | omega | (dsimp only [rm_X2_interval]; omega)) (Or.inr ⟨by omega, rfl, rfl⟩)
    · skip
      have eh_8 := of_decide_eq_true h_8
      obtain ⟨p2, rfl⟩ : ∃ p : Nat, z2 = (p : Int) := ⟨z2.toNat, by omega⟩
      have hbp2 := hI.at p2 (by omega)
      refine lv_aload_n hx hb dX2_interval_21 rfl (lv_at hl 0 rfl) ?_
      refine lv_iload_n hx hb dX2_interval_22 rfl (lv_at hl 1 rfl) ?_
      refine lv_iload_n hx hb dX2_interval_23 rfl (lv_at hl 2 rfl) ?_
      refine fin_i (k := 0) (n := 0) (W2 := (fun _ => (WM κ a σ 0 kp))) [0, 1, 2, 3] [] [0, 1, 2, 3] hW hA (va_runV (As := [.int (J (p1 : Int)), .int (J (p2 : Int))]) (rest := []) F ((m_X2_apart l κ a σ 0 kp p1 p2 ⟨by omega, by omega⟩ hI) _) (cwV 2 hts gX2_interval_X2_apart rfl rfl rfl (by decide +kernel) ⟨(Nat.le_of_ble_eq_true rfl), (Nat.le_of_ble_eq_true rfl)⟩) (pre_V hK hW [0, 1, 2, 3] rfl (by decide) 2 0 rfl rfl) rfl rfl hl.1 rfl (lv_room (Nat.le_of_ble_eq_true rfl)) dX2_interval_24 ⟨(by first | exact Nat.le_of_ble_eq_true rfl | omega | (dsimp only [rm_X2_interval, rm_X2_apart]; omega)), (by first | exact Nat.le_of_ble_eq_true rfl | omega | (dsimp only [rm_X2_interval, rm_X2_apart]; omega))⟩) rfl rfl rfl (by decide) rfl (fun _ => rfl) (by first | exact Nat.le_of_ble_eq_true rfl | omega | (dsimp only [rm_X2_interval, rm_X2_apart]; omega)) (by first | exact Nat.le_of_ble_eq_true rfl | omega | (dsimp only [rm_X2_interval, rm_X2_apart]; omega)) (fun r_12 u H locs hp_11 hW => ?_)
      subst hp_11
      refine lv_goto (tgt := 35) hx hb dX2_interval_27 (by decide) ?_
      exact hret 0 hW dX2_interval_35 (by first | exact Nat.le_of_ble_eq_true rfl | omega | (dsimp only [rm_X2_interval]; omega)) (by first | exact Nat.le_of_ble_eq_true rfl | omega | (dsimp only [rm_X2_interval]; omega)) (Or.inl ⟨by omega, rfl, rfl⟩)

abbrev rm_X2_areInAccord : Room := { frames := 3, cells := 0, slots := 0, locals := 65 }
set_option maxHeartbeats 4000000 in
set_option maxRecDepth 100000 in
/-- areInAccord -/
theorem m_X2_areInAccord (l : Launch) (κ : Kp) (a : Nat → Nat) (σ : Sg) (th : Int) (kp : Nat → Int) (z1 z2 : Int) (hz : InR z1 ∧ InR z2) (hI : Inv σ) : CGi l yX2_areInAccord wsX2_areInAccord rm_X2_areInAccord κ [.ref (a 0), .int (J z1), .int (J z2)] (WM κ a σ th kp) (fun r (u : Int) => (((0 ≤ z1 ∧ z1 < σ 5 3) ∧ (0 ≤ z2 ∧ z2 < σ 5 3)) ∧ u = 0 ∧ r = J (bi (ac (σ 0 z1.toNat) (σ 0 z2.toNat)))) ∨ (¬ ((0 ≤ z1 ∧ z1 < σ 5 3) ∧ (0 ≤ z2 ∧ z2 < σ 5 3)) ∧ u = 1 ∧ r = J 0)) (fun (u : Int) => WM κ a σ u kp) := by
  refine entry_z (by decide) rfl (Nat.le_of_ble_eq_true rfl) ?_
  intro P e s m args below meth c ls A Q F hname hK hA hret hW hl
  obtain ⟨hx, hb, hml, hown, hts⟩ := id F
  have hn2 : ∀ w ∈ wsX20, w ∈ wsX2_areInAccord := by decide +kernel
  have hN := hI.hN
  have hN10 := hI.n10
  have hnn := hI.1
  have hcm := cmn_lt σ
  refine lv_aload_n hx hb dX2_areInAccord_0 rfl (lv_at hl 0 rfl) ?_
  refine jv_iconst hx hb dX2_areInAccord_1 ?_
  refine jv_put (T := TX2) (N := 6) (ws' := (WM κ a σ 0 kp)) hx hb hts hn2 tyX2 tyX2_ok nmX2 hown hK hW 0 rfl rfl 0 (by decide) (List.mem_of_getElem? (i := 1) rfl) rfl rfl rfl (Nat.le_of_ble_eq_true rfl) rfl dX2_areInAccord_2 (fun H locs hW => ?_)
  refine lv_aload_n hx hb dX2_areInAccord_5 rfl (lv_at hl 0 rfl) ?_
  refine lv_iload_n hx hb dX2_areInAccord_6 rfl (lv_at hl 1 rfl) ?_
  refine fin_i (k := 0) (n := 0) (W2 := (fun _ => (WM κ a σ 0 kp))) [0, 1, 2, 3] [] [0, 1, 2, 3] hW hA (va_runV (As := [.int (J z1)]) (rest := []) F ((m_X2_isPot l κ a σ 0 kp z1 ⟨by omega, by omega⟩ hI) _) (cwV 1 hts gX2_areInAccord_X2_isPot rfl rfl rfl (by decide +kernel) ⟨(Nat.le_of_ble_eq_true rfl), (Nat.le_of_ble_eq_true rfl)⟩) (pre_V hK hW [0, 1, 2, 3] rfl (by decide) 2 0 rfl rfl) rfl rfl hl.1 rfl (lv_room (Nat.le_of_ble_eq_true rfl)) dX2_areInAccord_7 ⟨(by first | exact Nat.le_of_ble_eq_true rfl | omega | (dsimp only [rm_X2_areInAccord, rm_X2_isPot]; omega)), (by first | exact Nat.le_of_ble_eq_true rfl | omega | (dsimp only [rm_X2_areInAccord, rm_X2_isPot]; omega))⟩) rfl rfl rfl (by decide) rfl (fun _ => rfl) (by first | exact Nat.le_of_ble_eq_true rfl | omega | (dsimp only [rm_X2_areInAccord, rm_X2_isPot]; omega)) (by first | exact Nat.le_of_ble_eq_true rfl | omega | (dsimp only [rm_X2_areInAccord, rm_X2_isPot]; omega)) (fun r_2 u H locs hp_1 hW => ?_)
  subst hp_1
  refine jv_ifb_eq (b := (decide (0 ≤ z1 ∧ z1 ≤ σ 5 3 - 1))) hx hb 30 dX2_areInAccord_10 (by decide) (fun h_3 => ?_) (fun h_3 => ?_)
  · skip
    have eh_3 := of_decide_eq_false h_3
    refine lv_aload_n hx hb dX2_areInAccord_30 rfl (lv_at hl 0 rfl) ?_
    refine jv_iconst hx hb dX2_areInAccord_31 ?_
    refine fin_i (k := 0) (n := 0) (W2 := (fun _ => (WM κ a σ 1 kp))) [0, 1, 2, 3] [] [0, 1, 2, 3] hW hA (va_runV (As := [.int (J 1)]) (rest := []) F ((m_X2_isNot l κ a σ 0 kp 1 hI) _) (cwV 1 hts gX2_areInAccord_X2_isNot rfl rfl rfl (by decide +kernel) ⟨(Nat.le_of_ble_eq_true rfl), (Nat.le_of_ble_eq_true rfl)⟩) (pre_V hK hW [0, 1, 2, 3] rfl (by decide) 2 0 rfl rfl) rfl rfl hl.1 rfl (lv_room (Nat.le_of_ble_eq_true rfl)) dX2_areInAccord_32 ⟨(by first | exact Nat.le_of_ble_eq_true rfl | omega | (dsimp only [rm_X2_areInAccord, rm_X2_isNot]; omega)), (by first | exact Nat.le_of_ble_eq_true rfl | omega | (dsimp only [rm_X2_areInAccord, rm_X2_isNot]; omega))⟩) rfl rfl rfl (by decide) rfl (fun _ => rfl) (by first | exact Nat.le_of_ble_eq_true rfl | omega | (dsimp only [rm_X2_areInAccord, rm_X2_isNot]; omega)) (by first | exact Nat.le_of_ble_eq_true rfl | omega | (dsimp only [rm_X2_areInAccord, rm_X2_isNot]; omega)) (fun r_5 u H locs hp_4 hW => ?_)
    subst hp_4
    exact hret 1 hW dX2_areInAccord_35 (by first | exact Nat.le_of_ble_eq_true rfl | omega | (dsimp only [rm_X2_areInAccord]; omega)) (by first | exact Nat.le_of_ble_eq_true rfl | omega | (dsimp only [rm_X2_areInAccord]; omega)) (by first | exact zr_01 (Or.inl rfl) | exact zr_01 (Or.inr rfl) | exact zr_b _ | exact zr_01 (by omega)) (Or.inr ⟨by omega, rfl, rfl⟩)
  · skip
    have eh_3 := of_decide_eq_true h_3
    obtain ⟨p1, rfl⟩ : ∃ p : Nat, z1 = (p : Int) := ⟨z1.toNat, by omega⟩
    have hbp1 := hI.at p1 (by omega)
    refine lv_aload_n hx hb dX2_areInAccord_13 rfl (lv_at hl 0 rfl) ?_
    refine lv_iload_n hx hb dX2_areInAccord_14 rfl (lv_at hl 2 rfl) ?_
    refine fin_i (k := 0) (n := 0) (W2 := (fun _ => (WM κ a σ 0 kp))) [0, 1, 2, 3] [] [0, 1, 2, 3] hW hA (va_runV (As := [.int (J z2)]) (rest := []) F ((m_X2_isPot l κ a σ 0 kp z2 ⟨by omega, by omega⟩ hI) _) (cwV 1 hts gX2_areInAccord_X2_isPot rfl rfl rfl (by decide +kernel) ⟨(Nat.le_of_ble_eq_true rfl), (Nat.le_of_ble_eq_true rfl)⟩) (pre_V hK hW [0, 1, 2, 3] rfl (by decide) 2 0 rfl rfl) rfl rfl hl.1 rfl (lv_room (Nat.le_of_ble_eq_true rfl)) dX2_areInAccord_15 ⟨(by first | exact Nat.le_of_ble_eq_true rfl | omega | (dsimp only [rm_X2_areInAccord, rm_X2_isPot]; omega)), (by first | exact Nat.le_of_ble_eq_true rfl | omega | (dsimp only [rm_X2_areInAccord, rm_X2_isPot]; omega))⟩) rfl rfl rfl (by decide) rfl (fun _ => rfl) (by first | exact Nat.le_of_ble_eq_true rfl | omega | (dsimp only [rm_X2_areInAccord, rm_X2_isPot]; omega)) (by first | exact Nat.le_of_ble_eq_true rfl | omega | (dsimp only [rm_X2_areInAccord, rm_X2_isPot]; omega)) (fun r_7 u H locs hp_6 hW => ?_)
    subst hp_6
    refine jv_ifb_eq (b := (decide (0 ≤ z2 ∧ z2 ≤ σ 5 3 - 1))) hx hb 30 dX2_areInAccord_18 (by decide) (fun h_8 => ?_) (fun h_8 => ?_)
    · skip
      have eh_8 := of_decide_eq_false h_8
      refine lv_aload_n hx hb dX2_areInAccord_30 rfl (lv_at hl 0 rfl) ?_
      refine jv_iconst hx hb dX2_areInAccord_31 ?_
      refine fin_i (k := 0) (n := 0) (W2 := (fun _ => (WM κ a σ 1 kp))) [0, 1, 2, 3] [] [0, 1, 2, 3] hW hA (va_runV (As := [.int (J 1)]) (rest := []) F ((m_X2_isNot l κ a σ 0 kp 1 hI) _) (cwV 1 hts gX2_areInAccord_X2_isNot rfl rfl rfl (by decide +kernel) ⟨(Nat.le_of_ble_eq_true rfl), (Nat.le_of_ble_eq_true rfl)⟩) (pre_V hK hW [0, 1, 2, 3] rfl (by decide) 2 0 rfl rfl) rfl rfl hl.1 rfl (lv_room (Nat.le_of_ble_eq_true rfl)) dX2_areInAccord_32 ⟨(by first | exact Nat.le_of_ble_eq_true rfl | omega | (dsimp only [rm_X2_areInAccord, rm_X2_isNot]; omega)), (by first | exact Nat.le_of_ble_eq_true rfl | omega | (dsimp only [rm_X2_areInAccord, rm_X2_isNot]; omega))⟩) rfl rfl rfl (by decide) rfl (fun _ => rfl) (by first | exact Nat.le_of_ble_eq_true rfl | omega | (dsimp only [rm_X2_areInAccord, rm_X2_isNot]; omega)) (by first | exact Nat.le_of_ble_eq_true rfl | omega | (dsimp only [rm_X2_areInAccord, rm_X2_isNot]; omega)) (fun r_10 u H locs hp_9 hW => ?_)
      subst hp_9
      exact hret 1 hW dX2_areInAccord_35 (by first | exact Nat.le_of_ble_eq_true rfl | omega | (dsimp only [rm_X2_areInAccord]; omega)) (by first | exact Nat.le_of_ble_eq_true rfl | omega | (dsimp only [rm_X2_areInAccord]; omega)) (by first | exact zr_01 (Or.inl rfl) | exact zr_01 (Or.inr rfl) | exact zr_b _ | exact zr_01 (by omega)) (Or.inr ⟨by omega, rfl, rfl⟩)
    · skip
      have eh_8 := of_decide_eq_true h_8
      obtain ⟨p2, rfl⟩ : ∃ p : Nat, z2 = (p : Int) := ⟨z2.toNat, by omega⟩
      have hbp2 := hI.at p2 (by omega)
      refine lv_aload_n hx hb dX2_areInAccord_21 rfl (lv_at hl 0 rfl) ?_
      refine lv_iload_n hx hb dX2_areInAccord_22 rfl (lv_at hl 1 rfl) ?_
      refine lv_iload_n hx hb dX2_areInAccord_23 rfl (lv_at hl 2 rfl) ?_
      refine fin_i (k := 0) (n := 0) (W2 := (fun _ => (WM κ a σ 0 kp))) [0, 1, 2, 3] [] [0, 1, 2, 3] hW hA (va_runV (As := [.int (J (p1 : Int)), .int (J (p2 : Int))]) (rest := []) F ((m_X2_accord l κ a σ 0 kp p1 p2 ⟨by omega, by omega⟩ hI) _) (cwV 2 hts gX2_areInAccord_X2_accord rfl rfl rfl (by decide +kernel) ⟨(Nat.le_of_ble_eq_true rfl), (Nat.le_of_ble_eq_true rfl)⟩) (pre_V hK hW [0, 1, 2, 3] rfl (by decide) 2 0 rfl rfl) rfl rfl hl.1 rfl (lv_room (Nat.le_of_ble_eq_true rfl)) dX2_areInAccord_24 ⟨(by first | exact Nat.le_of_ble_eq_true rfl | omega | (dsimp only [rm_X2_areInAccord, rm_X2_accord]; omega)), (by first | exact Nat.le_of_ble_eq_true rfl | omega | (dsimp only [rm_X2_areInAccord, rm_X2_accord]; omega))⟩) rfl rfl rfl (by decide) rfl (fun _ => rfl) (by first | exact Nat.le_of_ble_eq_true rfl | omega | (dsimp only [rm_X2_areInAccord, rm_X2_accord]; omega)) (by first | exact Nat.le_of_ble_eq_true rfl | omega | (dsimp only [rm_X2_areInAccord, rm_X2_accord]; omega)) (fun r_12 u H locs hp_11 hW => ?_)
      subst hp_11
      refine lv_goto (tgt := 35) hx hb dX2_areInAccord_27 (by decide) ?_
      exact hret 0 hW dX2_areInAccord_35 (by first | exact Nat.le_of_ble_eq_true rfl | omega | (dsimp only [rm_X2_areInAccord]; omega)) (by first | exact Nat.le_of_ble_eq_true rfl | omega | (dsimp only [rm_X2_areInAccord]; omega)) (by first | exact zr_01 (Or.inl rfl) | exact zr_01 (Or.inr rfl) | exact zr_b _ | exact zr_01 (by omega)) (Or.inl ⟨by omega, rfl, rfl⟩)

abbrev rm_X2_soundingOf : Room := { frames := 1, cells := 0, slots := 0, locals := 22 }
set_option maxHeartbeats 4000000 in
set_option maxRecDepth 100000 in
/-- soundingOf -/
theorem m_X2_soundingOf (l : Launch) (κ : Kp) (a : Nat → Nat) (σ : Sg) (th : Int) (kp : Nat → Int) (z : Int) (hz : InR z) (hI : Inv σ) : CGi l yX2_soundingOf wsX2_soundingOf rm_X2_soundingOf κ [.ref (a 0), .int (J z)] (WM κ a σ th kp) (fun r (u : Int) => ((0 ≤ z ∧ z ≤ 3) ∧ u = 0 ∧ r = J (fb_ct (snp σ z) (nn σ) : Int)) ∨ (¬ (0 ≤ z ∧ z ≤ 3) ∧ u = 1 ∧ r = J 0)) (fun (u : Int) => WM κ a σ u kp) := by
  refine entry_i (by decide) rfl (Nat.le_of_ble_eq_true rfl) ?_
  intro P e s m args below meth c ls A Q F hname hK hA hret hW hl
  obtain ⟨hx, hb, hml, hown, hts⟩ := id F
  have hn2 : ∀ w ∈ wsX20, w ∈ wsX2_soundingOf := by decide +kernel
  have hN := hI.hN
  have hN10 := hI.n10
  have hnn := hI.1
  have hcm := cmn_lt σ
  refine lv_aload_n hx hb dX2_soundingOf_0 rfl (lv_at hl 0 rfl) ?_
  refine jv_iconst hx hb dX2_soundingOf_1 ?_
  refine jv_put (T := TX2) (N := 6) (ws' := (WM κ a σ 0 kp)) hx hb hts hn2 tyX2 tyX2_ok nmX2 hown hK hW 0 rfl rfl 0 (by decide) (List.mem_of_getElem? (i := 1) rfl) rfl rfl rfl (Nat.le_of_ble_eq_true rfl) rfl dX2_soundingOf_2 (fun H locs hW => ?_)
  refine lv_iload_n hx hb dX2_soundingOf_5 rfl (lv_at hl 1 rfl) ?_
  refine jv_iconst hx hb dX2_soundingOf_6 ?_
  refine jv_iconst hx hb dX2_soundingOf_7 ?_
  refine fin_i (k := 0) (n := 0) (W2 := (fun _ => (WM κ a σ 0 kp))) [] [0, 1, 2, 3] [0, 1, 2, 3] hW hA (va_runS (As := [.int (J z), .int (J 0), .int (J 3)]) (rest := []) F ((m_X2_isIn l κ z 0 3 (by omega)) _) (va_cwS 3 hts gX2_soundingOf_X2_isIn rfl rfl rfl (by decide +kernel) ⟨(Nat.le_of_ble_eq_true rfl), (Nat.le_of_ble_eq_true rfl)⟩) (pre_S hK hW [] rfl (by decide)) rfl rfl hl.1 rfl (lv_room (Nat.le_of_ble_eq_true rfl)) dX2_soundingOf_8 ⟨(by first | exact Nat.le_of_ble_eq_true rfl | omega | (dsimp only [rm_X2_soundingOf, rm_X2_isIn]; omega)), (by first | exact Nat.le_of_ble_eq_true rfl | omega | (dsimp only [rm_X2_soundingOf, rm_X2_isIn]; omega))⟩) rfl rfl rfl (by decide) rfl (fun _ => rfl) (by first | exact Nat.le_of_ble_eq_true rfl | omega | (dsimp only [rm_X2_soundingOf, rm_X2_isIn]; omega)) (by first | exact Nat.le_of_ble_eq_true rfl | omega | (dsimp only [rm_X2_soundingOf, rm_X2_isIn]; omega)) (fun r_2 u H locs hp_1 hW => ?_)
  subst hp_1
  refine jv_ifb_ne (b := (decide (0 ≤ z ∧ z ≤ 3))) hx hb 20 dX2_soundingOf_11 (by decide) (fun h_3 => ?_) (fun h_3 => ?_)
  · skip
    have eh_3 := of_decide_eq_true h_3
    refine jv_iconst hx hb dX2_soundingOf_20 ?_
    refine lv_istore_n (lv' := [(2, .int (J 0)), (0, .ref (a 0)), (1, .int (J z))]) hx hb dX2_soundingOf_21 rfl hl (by decide) rfl (fun ls hl => ?_)
    refine jv_iconst hx hb dX2_soundingOf_22 ?_
    refine lv_istore_n (lv' := [(3, .int (J 0)), (2, .int (J 0)), (0, .ref (a 0)), (1, .int (J z))]) hx hb dX2_soundingOf_23 rfl hl (by decide) rfl (fun ls hl => ?_)
    suffices hlp : ∀ (n i : Nat), i ≤ (nn σ) → (nn σ) < i + n → ∀ (f : Int), ∀ (H : Heap) (locs : List Loc) (ls : Array Slot), (f = (fb_ct (snp σ z) i : Int)) → St κ A s.heap H locs (WM κ a σ 0 kp) → lv_has ls 4 [(3, .int (J (i : Int))), (2, .int (J f)), (0, .ref (a 0)), (1, .int (J z))] → W P l e rm_X2_soundingOf s m args below meth c H locs 0 0 Q (F0 m 24 ls []) from
      hlp ((nn σ) + 1) 0 (Nat.zero_le _) (by omega) 0 _ _ _ (by simp [fb_ct, fb_sm]) hW hl
    intro n
    induction n with
    | zero => intro i h1 h2; exact absurd h2 (by omega)
    | succ n ih =>
      intro i hi hn f H locs ls q_f hW hl
      refine lv_iload_n hx hb dX2_soundingOf_24 rfl (lv_at hl 0 rfl) ?_
      refine lv_aload_n hx hb dX2_soundingOf_25 rfl (lv_at hl 2 rfl) ?_
      refine jv_get (T := TX2) (N := 6) (v := .int (J (σ 5 3))) hx hb hts hn2 hown hK hW 0 rfl rfl 1 (by decide) (List.mem_of_getElem? (i := 2) rfl) rfl dX2_soundingOf_26 ?_
      refine jv_icmp_ge hx hb 64 dX2_soundingOf_29 (by decide) ⟨by omega, by omega⟩ ⟨by omega, by omega⟩ (fun h_4 => ?_) (fun h_4 => ?_)
      · skip
        refine lv_iload_n hx hb dX2_soundingOf_64 rfl (lv_at hl 1 rfl) ?_
        exact hret 0 hW dX2_soundingOf_65 (by first | exact Nat.le_of_ble_eq_true rfl | omega | (dsimp only [rm_X2_soundingOf]; omega)) (by first | exact Nat.le_of_ble_eq_true rfl | omega | (dsimp only [rm_X2_soundingOf]; omega)) (Or.inl ⟨by omega, rfl, by rw [q_f, show i = nn σ by omega]⟩)
      · skip
        refine lv_iload_n hx hb dX2_soundingOf_32 rfl (lv_at hl 1 rfl) ?_
        refine lv_aload_n hx hb dX2_soundingOf_33 rfl (lv_at hl 2 rfl) ?_
        refine lv_iload_n hx hb dX2_soundingOf_34 rfl (lv_at hl 0 rfl) ?_
        refine fin_i (k := 0) (n := 0) (W2 := (fun _ => (WM κ a σ 0 kp))) [0, 1, 2, 3] [] [0, 1, 2, 3] hW hA (va_runV (As := [.int (J (i : Int))]) (rest := [.int (J f)]) F ((m_X2_heard l κ a σ 0 kp i (by omega) hI) _) (cwV 1 hts gX2_soundingOf_X2_heard rfl rfl rfl (by decide +kernel) ⟨(Nat.le_of_ble_eq_true rfl), (Nat.le_of_ble_eq_true rfl)⟩) (pre_V hK hW [0, 1, 2, 3] rfl (by decide) 2 0 rfl rfl) rfl rfl hl.1 rfl (lv_room (Nat.le_of_ble_eq_true rfl)) dX2_soundingOf_35 ⟨(by first | exact Nat.le_of_ble_eq_true rfl | omega | (dsimp only [rm_X2_soundingOf, rm_X2_heard]; omega)), (by first | exact Nat.le_of_ble_eq_true rfl | omega | (dsimp only [rm_X2_soundingOf, rm_X2_heard]; omega))⟩) rfl rfl rfl (by decide) rfl (fun _ => rfl) (by first | exact Nat.le_of_ble_eq_true rfl | omega | (dsimp only [rm_X2_soundingOf, rm_X2_heard]; omega)) (by first | exact Nat.le_of_ble_eq_true rfl | omega | (dsimp only [rm_X2_soundingOf, rm_X2_heard]; omega)) (fun r_6 u H locs hp_5 hW => ?_)
        subst hp_5
        refine jv_ifb_eq (b := (sn σ i)) hx hb 55 dX2_soundingOf_38 (by decide) (fun h_7 => ?_) (fun h_7 => ?_)
        · skip
          refine jv_iconst hx hb dX2_soundingOf_55 ?_
          refine jv_iadd hx hb dX2_soundingOf_56 ?_
          refine lv_istore_n (lv' := [(2, .int (J (f + 0))), (3, .int (J (i : Int))), (0, .ref (a 0)), (1, .int (J z))]) hx hb dX2_soundingOf_57 rfl hl (by decide) rfl (fun ls hl => ?_)
          refine jv_iinc (k := 1) (z := (i : Int)) (lv' := [(3, .int (J ((i : Int) + 1))), (2, .int (J (f + 0))), (0, .ref (a 0)), (1, .int (J z))]) hx hb dX2_soundingOf_58 hl rfl (by decide) rfl (fun ls hl => ?_)
          refine lv_goto (tgt := 24) hx hb dX2_soundingOf_61 (by decide) ?_
          exact ih (i + 1) (by omega) (by omega) (f + 0) _ _ _ (by simp [fb_ct_succ, q_f, snp, h_7]) hW hl
        · skip
          have hbi := hI.at i (by omega)
          refine lv_aload_n hx hb dX2_soundingOf_41 rfl (lv_at hl 2 rfl) ?_
          refine jv_get (T := TX2) (N := 6) (v := .ref (a 1)) hx hb hts hn2 hown hK hW 0 rfl rfl 3 (by decide) (List.mem_of_getElem? (i := 3) rfl) rfl dX2_soundingOf_42 ?_
          refine lv_iload_n hx hb dX2_soundingOf_45 rfl (lv_at hl 0 rfl) ?_
          refine jv_iald (g := (σ 4)) hx hb hK hW 1 rfl i rfl (by omega) (by decide) dX2_soundingOf_46 ?_
          refine lv_iload_n hx hb dX2_soundingOf_47 rfl (lv_at hl 3 rfl) ?_
          refine jv_icmp_ne hx hb 55 dX2_soundingOf_48 (by decide) ⟨by omega, by omega⟩ ⟨by omega, by omega⟩ (fun h_8 => ?_) (fun h_8 => ?_)
          · skip
            refine jv_iconst hx hb dX2_soundingOf_55 ?_
            refine jv_iadd hx hb dX2_soundingOf_56 ?_
            refine lv_istore_n (lv' := [(2, .int (J (f + 0))), (3, .int (J (i : Int))), (0, .ref (a 0)), (1, .int (J z))]) hx hb dX2_soundingOf_57 rfl hl (by decide) rfl (fun ls hl => ?_)
            refine jv_iinc (k := 1) (z := (i : Int)) (lv' := [(3, .int (J ((i : Int) + 1))), (2, .int (J (f + 0))), (0, .ref (a 0)), (1, .int (J z))]) hx hb dX2_soundingOf_58 hl rfl (by decide) rfl (fun ls hl => ?_)
            refine lv_goto (tgt := 24) hx hb dX2_soundingOf_61 (by decide) ?_
            exact ih (i + 1) (by omega) (by omega) (f + 0) _ _ _ (by simp [fb_ct_succ, q_f, snp, h_7, h_8]) hW hl
          · skip
            refine jv_iconst hx hb dX2_soundingOf_51 ?_
            refine lv_goto (tgt := 56) hx hb dX2_soundingOf_52 (by decide) ?_
            refine jv_iadd hx hb dX2_soundingOf_56 ?_
            refine lv_istore_n (lv' := [(2, .int (J (f + 1))), (3, .int (J (i : Int))), (0, .ref (a 0)), (1, .int (J z))]) hx hb dX2_soundingOf_57 rfl hl (by decide) rfl (fun ls hl => ?_)
            refine jv_iinc (k := 1) (z := (i : Int)) (lv' := [(3, .int (J ((i : Int) + 1))), (2, .int (J (f + 1))), (0, .ref (a 0)), (1, .int (J z))]) hx hb dX2_soundingOf_58 hl rfl (by decide) rfl (fun ls hl => ?_)
            refine lv_goto (tgt := 24) hx hb dX2_soundingOf_61 (by decide) ?_
            exact ih (i + 1) (by omega) (by omega) (f + 1) _ _ _ (by simp [fb_ct_succ, q_f, snp, h_7, h_8]) hW hl
  · skip
    have eh_3 := of_decide_eq_false h_3
    refine lv_aload_n hx hb dX2_soundingOf_14 rfl (lv_at hl 0 rfl) ?_
    refine jv_iconst hx hb dX2_soundingOf_15 ?_
    refine fin_i (k := 0) (n := 0) (W2 := (fun _ => (WM κ a σ 1 kp))) [0, 1, 2, 3] [] [0, 1, 2, 3] hW hA (va_runV (As := [.int (J 1)]) (rest := []) F ((m_X2_no l κ a σ 0 kp 1 hI) _) (cwV 1 hts gX2_soundingOf_X2_no rfl rfl rfl (by decide +kernel) ⟨(Nat.le_of_ble_eq_true rfl), (Nat.le_of_ble_eq_true rfl)⟩) (pre_V hK hW [0, 1, 2, 3] rfl (by decide) 2 0 rfl rfl) rfl rfl hl.1 rfl (lv_room (Nat.le_of_ble_eq_true rfl)) dX2_soundingOf_16 ⟨(by first | exact Nat.le_of_ble_eq_true rfl | omega | (dsimp only [rm_X2_soundingOf, rm_X2_no]; omega)), (by first | exact Nat.le_of_ble_eq_true rfl | omega | (dsimp only [rm_X2_soundingOf, rm_X2_no]; omega))⟩) rfl rfl rfl (by decide) rfl (fun _ => rfl) (by first | exact Nat.le_of_ble_eq_true rfl | omega | (dsimp only [rm_X2_soundingOf, rm_X2_no]; omega)) (by first | exact Nat.le_of_ble_eq_true rfl | omega | (dsimp only [rm_X2_soundingOf, rm_X2_no]; omega)) (fun r_10 u H locs hp_9 hW => ?_)
    subst hp_9
    exact hret 1 hW dX2_soundingOf_19 (by first | exact Nat.le_of_ble_eq_true rfl | omega | (dsimp only [rm_X2_soundingOf]; omega)) (by first | exact Nat.le_of_ble_eq_true rfl | omega | (dsimp only [rm_X2_soundingOf]; omega)) (Or.inr ⟨by omega, rfl, rfl⟩)

abbrev rm_X2_pots : Room := { frames := 1, cells := 0, slots := 0, locals := 21 }
set_option maxHeartbeats 4000000 in
set_option maxRecDepth 100000 in
/-- pots -/
theorem m_X2_pots (l : Launch) (κ : Kp) (a : Nat → Nat) (σ : Sg) (th : Int) (kp : Nat → Int) (hI : Inv σ) : CGi l yX2_pots wsX2_pots rm_X2_pots κ [.ref (a 0)] (WM κ a σ th kp) (fun r (_ : Unit) => r = J (σ 5 3)) (fun (_ : Unit) => WM κ a σ 0 kp) := by
  refine entry_i (by decide) rfl (Nat.le_of_ble_eq_true rfl) ?_
  intro P e s m args below meth c ls A Q F hname hK hA hret hW hl
  obtain ⟨hx, hb, hml, hown, hts⟩ := id F
  have hn2 : ∀ w ∈ wsX20, w ∈ wsX2_pots := by decide +kernel
  have hN := hI.hN
  have hN10 := hI.n10
  have hnn := hI.1
  have hcm := cmn_lt σ
  refine lv_aload_n hx hb dX2_pots_0 rfl (lv_at hl 0 rfl) ?_
  refine lv_aload_n hx hb dX2_pots_1 rfl (lv_at hl 0 rfl) ?_
  refine jv_get (T := TX2) (N := 6) (v := .int (J (σ 5 3))) hx hb hts hn2 hown hK hW 0 rfl rfl 1 (by decide) (List.mem_of_getElem? (i := 1) rfl) rfl dX2_pots_2 ?_
  refine fin_i (k := 0) (n := 0) (W2 := (fun _ => (WM κ a σ 0 kp))) [0, 1, 2, 3] [] [0, 1, 2, 3] hW hA (va_runV (As := [.int (J (σ 5 3))]) (rest := []) F ((m_X2_ok l κ a σ th kp (σ 5 3) hI) _) (cwV 1 hts gX2_pots_X2_ok rfl rfl rfl (by decide +kernel) ⟨(Nat.le_of_ble_eq_true rfl), (Nat.le_of_ble_eq_true rfl)⟩) (pre_V hK hW [0, 1, 2, 3] rfl (by decide) 2 0 rfl rfl) rfl rfl hl.1 rfl (lv_room (Nat.le_of_ble_eq_true rfl)) dX2_pots_5 ⟨(by first | exact Nat.le_of_ble_eq_true rfl | omega | (dsimp only [rm_X2_pots, rm_X2_ok]; omega)), (by first | exact Nat.le_of_ble_eq_true rfl | omega | (dsimp only [rm_X2_pots, rm_X2_ok]; omega))⟩) rfl rfl rfl (by decide) rfl (fun _ => rfl) (by first | exact Nat.le_of_ble_eq_true rfl | omega | (dsimp only [rm_X2_pots, rm_X2_ok]; omega)) (by first | exact Nat.le_of_ble_eq_true rfl | omega | (dsimp only [rm_X2_pots, rm_X2_ok]; omega)) (fun r_2 u H locs hp_1 hW => ?_)
  subst hp_1
  exact hret () hW dX2_pots_8 (by first | exact Nat.le_of_ble_eq_true rfl | omega | (dsimp only [rm_X2_pots]; omega)) (by first | exact Nat.le_of_ble_eq_true rfl | omega | (dsimp only [rm_X2_pots]; omega)) rfl

abbrev rm_X2_beats_ : Room := { frames := 1, cells := 0, slots := 0, locals := 21 }
set_option maxHeartbeats 4000000 in
set_option maxRecDepth 100000 in
/-- beats -/
theorem m_X2_beats_ (l : Launch) (κ : Kp) (a : Nat → Nat) (σ : Sg) (th : Int) (kp : Nat → Int) (hI : Inv σ) : CGi l yX2_beats_ wsX2_beats_ rm_X2_beats_ κ [.ref (a 0)] (WM κ a σ th kp) (fun r (_ : Unit) => r = J (σ 5 0)) (fun (_ : Unit) => WM κ a σ 0 kp) := by
  refine entry_i (by decide) rfl (Nat.le_of_ble_eq_true rfl) ?_
  intro P e s m args below meth c ls A Q F hname hK hA hret hW hl
  obtain ⟨hx, hb, hml, hown, hts⟩ := id F
  have hn2 : ∀ w ∈ wsX20, w ∈ wsX2_beats_ := by decide +kernel
  have hN := hI.hN
  have hN10 := hI.n10
  have hnn := hI.1
  have hcm := cmn_lt σ
  refine lv_aload_n hx hb dX2_beats__0 rfl (lv_at hl 0 rfl) ?_
  refine lv_aload_n hx hb dX2_beats__1 rfl (lv_at hl 0 rfl) ?_
  refine jv_get (T := TX2) (N := 6) (v := .ref (a 2)) hx hb hts hn2 hown hK hW 0 rfl rfl 4 (by decide) (List.mem_of_getElem? (i := 1) rfl) rfl dX2_beats__2 ?_
  refine jv_iconst hx hb dX2_beats__5 ?_
  refine jv_iald (g := (nowf σ)) hx hb hK hW 2 rfl 0 rfl (by omega) (by decide) dX2_beats__6 ?_
  refine jv_eq (y := (σ 5 0)) (nowf_s0 _) ?_
  refine fin_i (k := 0) (n := 0) (W2 := (fun _ => (WM κ a σ 0 kp))) [0, 1, 2, 3] [] [0, 1, 2, 3] hW hA (va_runV (As := [.int (J (σ 5 0))]) (rest := []) F ((m_X2_ok l κ a σ th kp (σ 5 0) hI) _) (cwV 1 hts gX2_beats__X2_ok rfl rfl rfl (by decide +kernel) ⟨(Nat.le_of_ble_eq_true rfl), (Nat.le_of_ble_eq_true rfl)⟩) (pre_V hK hW [0, 1, 2, 3] rfl (by decide) 2 0 rfl rfl) rfl rfl hl.1 rfl (lv_room (Nat.le_of_ble_eq_true rfl)) dX2_beats__7 ⟨(by first | exact Nat.le_of_ble_eq_true rfl | omega | (dsimp only [rm_X2_beats_, rm_X2_ok]; omega)), (by first | exact Nat.le_of_ble_eq_true rfl | omega | (dsimp only [rm_X2_beats_, rm_X2_ok]; omega))⟩) rfl rfl rfl (by decide) rfl (fun _ => rfl) (by first | exact Nat.le_of_ble_eq_true rfl | omega | (dsimp only [rm_X2_beats_, rm_X2_ok]; omega)) (by first | exact Nat.le_of_ble_eq_true rfl | omega | (dsimp only [rm_X2_beats_, rm_X2_ok]; omega)) (fun r_2 u H locs hp_1 hW => ?_)
  subst hp_1
  exact hret () hW dX2_beats__10 (by first | exact Nat.le_of_ble_eq_true rfl | omega | (dsimp only [rm_X2_beats_]; omega)) (by first | exact Nat.le_of_ble_eq_true rfl | omega | (dsimp only [rm_X2_beats_]; omega)) rfl

abbrev rm_X2_cadences : Room := { frames := 1, cells := 0, slots := 0, locals := 21 }
set_option maxHeartbeats 4000000 in
set_option maxRecDepth 100000 in
/-- cadences -/
theorem m_X2_cadences (l : Launch) (κ : Kp) (a : Nat → Nat) (σ : Sg) (th : Int) (kp : Nat → Int) (hI : Inv σ) : CGi l yX2_cadences wsX2_cadences rm_X2_cadences κ [.ref (a 0)] (WM κ a σ th kp) (fun r (_ : Unit) => r = J (σ 5 1)) (fun (_ : Unit) => WM κ a σ 0 kp) := by
  refine entry_i (by decide) rfl (Nat.le_of_ble_eq_true rfl) ?_
  intro P e s m args below meth c ls A Q F hname hK hA hret hW hl
  obtain ⟨hx, hb, hml, hown, hts⟩ := id F
  have hn2 : ∀ w ∈ wsX20, w ∈ wsX2_cadences := by decide +kernel
  have hN := hI.hN
  have hN10 := hI.n10
  have hnn := hI.1
  have hcm := cmn_lt σ
  refine lv_aload_n hx hb dX2_cadences_0 rfl (lv_at hl 0 rfl) ?_
  refine lv_aload_n hx hb dX2_cadences_1 rfl (lv_at hl 0 rfl) ?_
  refine jv_get (T := TX2) (N := 6) (v := .ref (a 2)) hx hb hts hn2 hown hK hW 0 rfl rfl 4 (by decide) (List.mem_of_getElem? (i := 1) rfl) rfl dX2_cadences_2 ?_
  refine jv_iconst hx hb dX2_cadences_5 ?_
  refine jv_iald (g := (nowf σ)) hx hb hK hW 2 rfl 1 rfl (by omega) (by decide) dX2_cadences_6 ?_
  refine jv_eq (y := (σ 5 1)) (nowf_s1 _) ?_
  refine fin_i (k := 0) (n := 0) (W2 := (fun _ => (WM κ a σ 0 kp))) [0, 1, 2, 3] [] [0, 1, 2, 3] hW hA (va_runV (As := [.int (J (σ 5 1))]) (rest := []) F ((m_X2_ok l κ a σ th kp (σ 5 1) hI) _) (cwV 1 hts gX2_cadences_X2_ok rfl rfl rfl (by decide +kernel) ⟨(Nat.le_of_ble_eq_true rfl), (Nat.le_of_ble_eq_true rfl)⟩) (pre_V hK hW [0, 1, 2, 3] rfl (by decide) 2 0 rfl rfl) rfl rfl hl.1 rfl (lv_room (Nat.le_of_ble_eq_true rfl)) dX2_cadences_7 ⟨(by first | exact Nat.le_of_ble_eq_true rfl | omega | (dsimp only [rm_X2_cadences, rm_X2_ok]; omega)), (by first | exact Nat.le_of_ble_eq_true rfl | omega | (dsimp only [rm_X2_cadences, rm_X2_ok]; omega))⟩) rfl rfl rfl (by decide) rfl (fun _ => rfl) (by first | exact Nat.le_of_ble_eq_true rfl | omega | (dsimp only [rm_X2_cadences, rm_X2_ok]; omega)) (by first | exact Nat.le_of_ble_eq_true rfl | omega | (dsimp only [rm_X2_cadences, rm_X2_ok]; omega)) (fun r_2 u H locs hp_1 hW => ?_)
  subst hp_1
  exact hret () hW dX2_cadences_10 (by first | exact Nat.le_of_ble_eq_true rfl | omega | (dsimp only [rm_X2_cadences]; omega)) (by first | exact Nat.le_of_ble_eq_true rfl | omega | (dsimp only [rm_X2_cadences]; omega)) rfl

abbrev rm_X2_sounding : Room := { frames := 2, cells := 0, slots := 0, locals := 43 }
set_option maxHeartbeats 4000000 in
set_option maxRecDepth 100000 in
/-- sounding -/
theorem m_X2_sounding (l : Launch) (κ : Kp) (a : Nat → Nat) (σ : Sg) (th : Int) (kp : Nat → Int) (hI : Inv σ) : CGi l yX2_sounding wsX2_sounding rm_X2_sounding κ [.ref (a 0)] (WM κ a σ th kp) (fun r (_ : Unit) => r = J (ns σ : Int)) (fun (_ : Unit) => WM κ a σ 0 kp) := by
  refine entry_i (by decide) rfl (Nat.le_of_ble_eq_true rfl) ?_
  intro P e s m args below meth c ls A Q F hname hK hA hret hW hl
  obtain ⟨hx, hb, hml, hown, hts⟩ := id F
  have hN := hI.hN
  have hN10 := hI.n10
  have hnn := hI.1
  have hcm := cmn_lt σ
  have hst := stn_lt hN10
  refine lv_aload_n hx hb dX2_sounding_0 rfl (lv_at hl 0 rfl) ?_
  refine lv_aload_n hx hb dX2_sounding_1 rfl (lv_at hl 0 rfl) ?_
  refine fin_i (k := 0) (n := 0) (W2 := (fun _ => (WM κ a σ th kp))) [0, 1, 2, 3] [] [0, 1, 2, 3] hW hA (va_runV (As := []) (rest := [.ref (a 0)]) F ((m_X2_set l κ a σ th kp  hI) _) (cwV 0 hts gX2_sounding_X2_set rfl rfl rfl (by decide +kernel) ⟨(Nat.le_of_ble_eq_true rfl), (Nat.le_of_ble_eq_true rfl)⟩) (pre_V hK hW [0, 1, 2, 3] rfl (by decide) 2 0 rfl rfl) rfl rfl hl.1 rfl (lv_room (Nat.le_of_ble_eq_true rfl)) dX2_sounding_2 ⟨(by first | exact Nat.le_of_ble_eq_true rfl | omega | (dsimp only [rm_X2_sounding, rm_X2_set]; omega)), (by first | exact Nat.le_of_ble_eq_true rfl | omega | (dsimp only [rm_X2_sounding, rm_X2_set]; omega))⟩) rfl rfl rfl (by decide) rfl (fun _ => rfl) (by first | exact Nat.le_of_ble_eq_true rfl | omega | (dsimp only [rm_X2_sounding, rm_X2_set]; omega)) (by first | exact Nat.le_of_ble_eq_true rfl | omega | (dsimp only [rm_X2_sounding, rm_X2_set]; omega)) (fun r_2 u H locs hp_1 hW => ?_)
  subst hp_1
  refine fin_i (k := 0) (n := 0) (W2 := (fun _ => (WM κ a σ th kp))) [] [0, 1, 2, 3] [0, 1, 2, 3] hW hA (va_runS (As := [.int (J (stn σ : Int))]) (rest := [.ref (a 0)]) F ((m_J6_bitCount_0f7a4 l κ (stn σ) (by omega)) _) (va_cwS 1 hts gX2_sounding_J6_bitCount_0f7a4 rfl rfl rfl (by decide +kernel) ⟨(Nat.le_of_ble_eq_true rfl), (Nat.le_of_ble_eq_true rfl)⟩) (pre_S hK hW [] rfl (by decide)) rfl rfl hl.1 rfl (lv_room (Nat.le_of_ble_eq_true rfl)) dX2_sounding_5 ⟨(by first | exact Nat.le_of_ble_eq_true rfl | omega | (dsimp only [rm_X2_sounding, rm_J6_bitCount_0f7a4]; omega)), (by first | exact Nat.le_of_ble_eq_true rfl | omega | (dsimp only [rm_X2_sounding, rm_J6_bitCount_0f7a4]; omega))⟩) rfl rfl rfl (by decide) rfl (fun _ => rfl) (by first | exact Nat.le_of_ble_eq_true rfl | omega | (dsimp only [rm_X2_sounding, rm_J6_bitCount_0f7a4]; omega)) (by first | exact Nat.le_of_ble_eq_true rfl | omega | (dsimp only [rm_X2_sounding, rm_J6_bitCount_0f7a4]; omega)) (fun r_4 u H locs hp_3 hW => ?_)
  subst hp_3
  refine fin_i (k := 0) (n := 0) (W2 := (fun _ => (WM κ a σ 0 kp))) [0, 1, 2, 3] [] [0, 1, 2, 3] hW hA (va_runV (As := [.int (J (pcn (stn σ) : Int))]) (rest := []) F ((m_X2_ok l κ a σ th kp (pcn (stn σ) : Int) hI) _) (cwV 1 hts gX2_sounding_X2_ok rfl rfl rfl (by decide +kernel) ⟨(Nat.le_of_ble_eq_true rfl), (Nat.le_of_ble_eq_true rfl)⟩) (pre_V hK hW [0, 1, 2, 3] rfl (by decide) 2 0 rfl rfl) rfl rfl hl.1 rfl (lv_room (Nat.le_of_ble_eq_true rfl)) dX2_sounding_8 ⟨(by first | exact Nat.le_of_ble_eq_true rfl | omega | (dsimp only [rm_X2_sounding, rm_X2_ok]; omega)), (by first | exact Nat.le_of_ble_eq_true rfl | omega | (dsimp only [rm_X2_sounding, rm_X2_ok]; omega))⟩) rfl rfl rfl (by decide) rfl (fun _ => rfl) (by first | exact Nat.le_of_ble_eq_true rfl | omega | (dsimp only [rm_X2_sounding, rm_X2_ok]; omega)) (by first | exact Nat.le_of_ble_eq_true rfl | omega | (dsimp only [rm_X2_sounding, rm_X2_ok]; omega)) (fun r_6 u H locs hp_5 hW => ?_)
  subst hp_5
  exact hret () hW dX2_sounding_11 (by first | exact Nat.le_of_ble_eq_true rfl | omega | (dsimp only [rm_X2_sounding]; omega)) (by first | exact Nat.le_of_ble_eq_true rfl | omega | (dsimp only [rm_X2_sounding]; omega)) (by rw [pcn_set hN10])

abbrev rm_X2_harmony : Room := { frames := 6, cells := 0, slots := 0, locals := 134 }
set_option maxHeartbeats 4000000 in
set_option maxRecDepth 100000 in
/-- harmony -/
theorem m_X2_harmony (l : Launch) (κ : Kp) (a : Nat → Nat) (σ : Sg) (th : Int) (kp : Nat → Int) (hI : Inv σ) : CGi l yX2_harmony wsX2_harmony rm_X2_harmony κ [.ref (a 0)] (WM κ a σ th kp) (fun r (_ : Unit) => r = J (hm σ)) (fun (_ : Unit) => WM κ a σ 0 kp) := by
  refine entry_i (by decide) rfl (Nat.le_of_ble_eq_true rfl) ?_
  intro P e s m args below meth c ls A Q F hname hK hA hret hW hl
  obtain ⟨hx, hb, hml, hown, hts⟩ := id F
  have hN := hI.hN
  have hN10 := hI.n10
  have hnn := hI.1
  have hcm := cmn_lt σ
  have hst := stn_lt hN10
  refine lv_aload_n hx hb dX2_harmony_0 rfl (lv_at hl 0 rfl) ?_
  refine lv_aload_n hx hb dX2_harmony_1 rfl (lv_at hl 0 rfl) ?_
  refine lv_aload_n hx hb dX2_harmony_2 rfl (lv_at hl 0 rfl) ?_
  refine fin_i (k := 0) (n := 0) (W2 := (fun _ => (WM κ a σ th kp))) [0, 1, 2, 3] [] [0, 1, 2, 3] hW hA (va_runV (As := []) (rest := [.ref (a 0), .ref (a 0)]) F ((m_X2_set l κ a σ th kp  hI) _) (cwV 0 hts gX2_harmony_X2_set rfl rfl rfl (by decide +kernel) ⟨(Nat.le_of_ble_eq_true rfl), (Nat.le_of_ble_eq_true rfl)⟩) (pre_V hK hW [0, 1, 2, 3] rfl (by decide) 2 0 rfl rfl) rfl rfl hl.1 rfl (lv_room (Nat.le_of_ble_eq_true rfl)) dX2_harmony_3 ⟨(by first | exact Nat.le_of_ble_eq_true rfl | omega | (dsimp only [rm_X2_harmony, rm_X2_set]; omega)), (by first | exact Nat.le_of_ble_eq_true rfl | omega | (dsimp only [rm_X2_harmony, rm_X2_set]; omega))⟩) rfl rfl rfl (by decide) rfl (fun _ => rfl) (by first | exact Nat.le_of_ble_eq_true rfl | omega | (dsimp only [rm_X2_harmony, rm_X2_set]; omega)) (by first | exact Nat.le_of_ble_eq_true rfl | omega | (dsimp only [rm_X2_harmony, rm_X2_set]; omega)) (fun r_2 u H locs hp_1 hW => ?_)
  subst hp_1
  refine fin_i (k := 0) (n := 0) (W2 := (fun _ => (WM κ a σ th kp))) [0, 1, 2, 3] [] [0, 1, 2, 3] hW hA (va_runV (As := [.int (J (stn σ : Int))]) (rest := [.ref (a 0)]) F ((m_X2_harmonyOf l κ a σ th kp (stn σ) (by omega) hI) _) (cwV 1 hts gX2_harmony_X2_harmonyOf rfl rfl rfl (by decide +kernel) ⟨(Nat.le_of_ble_eq_true rfl), (Nat.le_of_ble_eq_true rfl)⟩) (pre_V hK hW [0, 1, 2, 3] rfl (by decide) 2 0 rfl rfl) rfl rfl hl.1 rfl (lv_room (Nat.le_of_ble_eq_true rfl)) dX2_harmony_6 ⟨(by first | exact Nat.le_of_ble_eq_true rfl | omega | (dsimp only [rm_X2_harmony, rm_X2_harmonyOf]; omega)), (by first | exact Nat.le_of_ble_eq_true rfl | omega | (dsimp only [rm_X2_harmony, rm_X2_harmonyOf]; omega))⟩) rfl rfl rfl (by decide) rfl (fun _ => rfl) (by first | exact Nat.le_of_ble_eq_true rfl | omega | (dsimp only [rm_X2_harmony, rm_X2_harmonyOf]; omega)) (by first | exact Nat.le_of_ble_eq_true rfl | omega | (dsimp only [rm_X2_harmony, rm_X2_harmonyOf]; omega)) (fun r_4 u H locs hp_3 hW => ?_)
  subst hp_3
  refine fin_i (k := 0) (n := 0) (W2 := (fun _ => (WM κ a σ 0 kp))) [0, 1, 2, 3] [] [0, 1, 2, 3] hW hA (va_runV (As := [.int (J (hmo σ (stn σ)))]) (rest := []) F ((m_X2_ok l κ a σ th kp (hmo σ (stn σ)) hI) _) (cwV 1 hts gX2_harmony_X2_ok rfl rfl rfl (by decide +kernel) ⟨(Nat.le_of_ble_eq_true rfl), (Nat.le_of_ble_eq_true rfl)⟩) (pre_V hK hW [0, 1, 2, 3] rfl (by decide) 2 0 rfl rfl) rfl rfl hl.1 rfl (lv_room (Nat.le_of_ble_eq_true rfl)) dX2_harmony_9 ⟨(by first | exact Nat.le_of_ble_eq_true rfl | omega | (dsimp only [rm_X2_harmony, rm_X2_ok]; omega)), (by first | exact Nat.le_of_ble_eq_true rfl | omega | (dsimp only [rm_X2_harmony, rm_X2_ok]; omega))⟩) rfl rfl rfl (by decide) rfl (fun _ => rfl) (by first | exact Nat.le_of_ble_eq_true rfl | omega | (dsimp only [rm_X2_harmony, rm_X2_ok]; omega)) (by first | exact Nat.le_of_ble_eq_true rfl | omega | (dsimp only [rm_X2_harmony, rm_X2_ok]; omega)) (fun r_6 u H locs hp_5 hW => ?_)
  subst hp_5
  exact hret () hW dX2_harmony_12 (by first | exact Nat.le_of_ble_eq_true rfl | omega | (dsimp only [rm_X2_harmony]; omega)) (by first | exact Nat.le_of_ble_eq_true rfl | omega | (dsimp only [rm_X2_harmony]; omega)) (by rw [hmo_set hN10])

abbrev rm_X2_clashes : Room := { frames := 5, cells := 0, slots := 0, locals := 112 }
set_option maxHeartbeats 4000000 in
set_option maxRecDepth 100000 in
/-- clashes -/
theorem m_X2_clashes (l : Launch) (κ : Kp) (a : Nat → Nat) (σ : Sg) (th : Int) (kp : Nat → Int) (hI : Inv σ) : CGi l yX2_clashes wsX2_clashes rm_X2_clashes κ [.ref (a 0)] (WM κ a σ th kp) (fun r (_ : Unit) => r = J (ccl σ)) (fun (_ : Unit) => WM κ a σ 0 kp) := by
  refine entry_i (by decide) rfl (Nat.le_of_ble_eq_true rfl) ?_
  intro P e s m args below meth c ls A Q F hname hK hA hret hW hl
  obtain ⟨hx, hb, hml, hown, hts⟩ := id F
  have hN := hI.hN
  have hN10 := hI.n10
  have hnn := hI.1
  have hcm := cmn_lt σ
  have hst := stn_lt hN10
  refine lv_aload_n hx hb dX2_clashes_0 rfl (lv_at hl 0 rfl) ?_
  refine lv_aload_n hx hb dX2_clashes_1 rfl (lv_at hl 0 rfl) ?_
  refine lv_aload_n hx hb dX2_clashes_2 rfl (lv_at hl 0 rfl) ?_
  refine fin_i (k := 0) (n := 0) (W2 := (fun _ => (WM κ a σ th kp))) [0, 1, 2, 3] [] [0, 1, 2, 3] hW hA (va_runV (As := []) (rest := [.ref (a 0), .ref (a 0)]) F ((m_X2_set l κ a σ th kp  hI) _) (cwV 0 hts gX2_clashes_X2_set rfl rfl rfl (by decide +kernel) ⟨(Nat.le_of_ble_eq_true rfl), (Nat.le_of_ble_eq_true rfl)⟩) (pre_V hK hW [0, 1, 2, 3] rfl (by decide) 2 0 rfl rfl) rfl rfl hl.1 rfl (lv_room (Nat.le_of_ble_eq_true rfl)) dX2_clashes_3 ⟨(by first | exact Nat.le_of_ble_eq_true rfl | omega | (dsimp only [rm_X2_clashes, rm_X2_set]; omega)), (by first | exact Nat.le_of_ble_eq_true rfl | omega | (dsimp only [rm_X2_clashes, rm_X2_set]; omega))⟩) rfl rfl rfl (by decide) rfl (fun _ => rfl) (by first | exact Nat.le_of_ble_eq_true rfl | omega | (dsimp only [rm_X2_clashes, rm_X2_set]; omega)) (by first | exact Nat.le_of_ble_eq_true rfl | omega | (dsimp only [rm_X2_clashes, rm_X2_set]; omega)) (fun r_2 u H locs hp_1 hW => ?_)
  subst hp_1
  refine fin_i (k := 0) (n := 0) (W2 := (fun _ => (WM κ a σ th kp))) [0, 1, 2, 3] [] [0, 1, 2, 3] hW hA (va_runV (As := [.int (J (stn σ : Int))]) (rest := [.ref (a 0)]) F ((m_X2_allClashes l κ a σ th kp (stn σ) (by omega) hI) _) (cwV 1 hts gX2_clashes_X2_allClashes rfl rfl rfl (by decide +kernel) ⟨(Nat.le_of_ble_eq_true rfl), (Nat.le_of_ble_eq_true rfl)⟩) (pre_V hK hW [0, 1, 2, 3] rfl (by decide) 2 0 rfl rfl) rfl rfl hl.1 rfl (lv_room (Nat.le_of_ble_eq_true rfl)) dX2_clashes_6 ⟨(by first | exact Nat.le_of_ble_eq_true rfl | omega | (dsimp only [rm_X2_clashes, rm_X2_allClashes]; omega)), (by first | exact Nat.le_of_ble_eq_true rfl | omega | (dsimp only [rm_X2_clashes, rm_X2_allClashes]; omega))⟩) rfl rfl rfl (by decide) rfl (fun _ => rfl) (by first | exact Nat.le_of_ble_eq_true rfl | omega | (dsimp only [rm_X2_clashes, rm_X2_allClashes]; omega)) (by first | exact Nat.le_of_ble_eq_true rfl | omega | (dsimp only [rm_X2_clashes, rm_X2_allClashes]; omega)) (fun r_4 u H locs hp_3 hW => ?_)
  subst hp_3
  refine fin_i (k := 0) (n := 0) (W2 := (fun _ => (WM κ a σ 0 kp))) [0, 1, 2, 3] [] [0, 1, 2, 3] hW hA (va_runV (As := [.int (J (acl σ (stn σ)))]) (rest := []) F ((m_X2_ok l κ a σ th kp (acl σ (stn σ)) hI) _) (cwV 1 hts gX2_clashes_X2_ok rfl rfl rfl (by decide +kernel) ⟨(Nat.le_of_ble_eq_true rfl), (Nat.le_of_ble_eq_true rfl)⟩) (pre_V hK hW [0, 1, 2, 3] rfl (by decide) 2 0 rfl rfl) rfl rfl hl.1 rfl (lv_room (Nat.le_of_ble_eq_true rfl)) dX2_clashes_9 ⟨(by first | exact Nat.le_of_ble_eq_true rfl | omega | (dsimp only [rm_X2_clashes, rm_X2_ok]; omega)), (by first | exact Nat.le_of_ble_eq_true rfl | omega | (dsimp only [rm_X2_clashes, rm_X2_ok]; omega))⟩) rfl rfl rfl (by decide) rfl (fun _ => rfl) (by first | exact Nat.le_of_ble_eq_true rfl | omega | (dsimp only [rm_X2_clashes, rm_X2_ok]; omega)) (by first | exact Nat.le_of_ble_eq_true rfl | omega | (dsimp only [rm_X2_clashes, rm_X2_ok]; omega)) (fun r_6 u H locs hp_5 hW => ?_)
  subst hp_5
  exact hret () hW dX2_clashes_12 (by first | exact Nat.le_of_ble_eq_true rfl | omega | (dsimp only [rm_X2_clashes]; omega)) (by first | exact Nat.le_of_ble_eq_true rfl | omega | (dsimp only [rm_X2_clashes]; omega)) (by rw [acl_set])

abbrev rm_X2_lowest : Room := { frames := 2, cells := 0, slots := 0, locals := 43 }
set_option maxHeartbeats 4000000 in
set_option maxRecDepth 100000 in
/-- lowest -/
theorem m_X2_lowest (l : Launch) (κ : Kp) (a : Nat → Nat) (σ : Sg) (th : Int) (kp : Nat → Int) (hI : Inv σ) : CGi l yX2_lowest wsX2_lowest rm_X2_lowest κ [.ref (a 0)] (WM κ a σ th kp) (fun r (_ : Unit) => r = J (fl σ)) (fun (_ : Unit) => WM κ a σ 0 kp) := by
  refine entry_i (by decide) rfl (Nat.le_of_ble_eq_true rfl) ?_
  intro P e s m args below meth c ls A Q F hname hK hA hret hW hl
  obtain ⟨hx, hb, hml, hown, hts⟩ := id F
  have hN := hI.hN
  have hN10 := hI.n10
  have hnn := hI.1
  have hcm := cmn_lt σ
  refine lv_aload_n hx hb dX2_lowest_0 rfl (lv_at hl 0 rfl) ?_
  refine lv_aload_n hx hb dX2_lowest_1 rfl (lv_at hl 0 rfl) ?_
  refine fin_i (k := 0) (n := 0) (W2 := (fun _ => (WM κ a σ th kp))) [0, 1, 2, 3] [] [0, 1, 2, 3] hW hA (va_runV (As := []) (rest := [.ref (a 0)]) F ((m_X2_low l κ a σ th kp  hI) _) (cwV 0 hts gX2_lowest_X2_low rfl rfl rfl (by decide +kernel) ⟨(Nat.le_of_ble_eq_true rfl), (Nat.le_of_ble_eq_true rfl)⟩) (pre_V hK hW [0, 1, 2, 3] rfl (by decide) 2 0 rfl rfl) rfl rfl hl.1 rfl (lv_room (Nat.le_of_ble_eq_true rfl)) dX2_lowest_2 ⟨(by first | exact Nat.le_of_ble_eq_true rfl | omega | (dsimp only [rm_X2_lowest, rm_X2_low]; omega)), (by first | exact Nat.le_of_ble_eq_true rfl | omega | (dsimp only [rm_X2_lowest, rm_X2_low]; omega))⟩) rfl rfl rfl (by decide) rfl (fun _ => rfl) (by first | exact Nat.le_of_ble_eq_true rfl | omega | (dsimp only [rm_X2_lowest, rm_X2_low]; omega)) (by first | exact Nat.le_of_ble_eq_true rfl | omega | (dsimp only [rm_X2_lowest, rm_X2_low]; omega)) (fun r_2 u H locs hp_1 hW => ?_)
  subst hp_1
  refine fin_i (k := 0) (n := 0) (W2 := (fun _ => (WM κ a σ 0 kp))) [0, 1, 2, 3] [] [0, 1, 2, 3] hW hA (va_runV (As := [.int (J (fl σ))]) (rest := []) F ((m_X2_ok l κ a σ th kp (fl σ) hI) _) (cwV 1 hts gX2_lowest_X2_ok rfl rfl rfl (by decide +kernel) ⟨(Nat.le_of_ble_eq_true rfl), (Nat.le_of_ble_eq_true rfl)⟩) (pre_V hK hW [0, 1, 2, 3] rfl (by decide) 2 0 rfl rfl) rfl rfl hl.1 rfl (lv_room (Nat.le_of_ble_eq_true rfl)) dX2_lowest_5 ⟨(by first | exact Nat.le_of_ble_eq_true rfl | omega | (dsimp only [rm_X2_lowest, rm_X2_ok]; omega)), (by first | exact Nat.le_of_ble_eq_true rfl | omega | (dsimp only [rm_X2_lowest, rm_X2_ok]; omega))⟩) rfl rfl rfl (by decide) rfl (fun _ => rfl) (by first | exact Nat.le_of_ble_eq_true rfl | omega | (dsimp only [rm_X2_lowest, rm_X2_ok]; omega)) (by first | exact Nat.le_of_ble_eq_true rfl | omega | (dsimp only [rm_X2_lowest, rm_X2_ok]; omega)) (fun r_4 u H locs hp_3 hW => ?_)
  subst hp_3
  exact hret () hW dX2_lowest_8 (by first | exact Nat.le_of_ble_eq_true rfl | omega | (dsimp only [rm_X2_lowest]; omega)) (by first | exact Nat.le_of_ble_eq_true rfl | omega | (dsimp only [rm_X2_lowest]; omega)) rfl

abbrev rm_X2_isClear : Room := { frames := 6, cells := 0, slots := 0, locals := 132 }
set_option maxHeartbeats 4000000 in
set_option maxRecDepth 100000 in
/-- isClear -/
theorem m_X2_isClear (l : Launch) (κ : Kp) (a : Nat → Nat) (σ : Sg) (th : Int) (kp : Nat → Int) (hI : Inv σ) : CGi l yX2_isClear wsX2_isClear rm_X2_isClear κ [.ref (a 0)] (WM κ a σ th kp) (fun r (_ : Unit) => r = J (bi (ic σ))) (fun (_ : Unit) => WM κ a σ 0 kp) := by
  refine entry_z (by decide) rfl (Nat.le_of_ble_eq_true rfl) ?_
  intro P e s m args below meth c ls A Q F hname hK hA hret hW hl
  obtain ⟨hx, hb, hml, hown, hts⟩ := id F
  have hn2 : ∀ w ∈ wsX20, w ∈ wsX2_isClear := by decide +kernel
  have hN := hI.hN
  have hN10 := hI.n10
  have hnn := hI.1
  have hcm := cmn_lt σ
  refine lv_aload_n hx hb dX2_isClear_0 rfl (lv_at hl 0 rfl) ?_
  refine jv_iconst hx hb dX2_isClear_1 ?_
  refine jv_put (T := TX2) (N := 6) (ws' := (WM κ a σ 0 kp)) hx hb hts hn2 tyX2 tyX2_ok nmX2 hown hK hW 0 rfl rfl 0 (by decide) (List.mem_of_getElem? (i := 1) rfl) rfl rfl rfl (Nat.le_of_ble_eq_true rfl) rfl dX2_isClear_2 (fun H locs hW => ?_)
  refine lv_aload_n hx hb dX2_isClear_5 rfl (lv_at hl 0 rfl) ?_
  refine fin_i (k := 0) (n := 0) (W2 := (fun _ => (WM κ a σ 0 kp))) [0, 1, 2, 3] [] [0, 1, 2, 3] hW hA (va_runV (As := []) (rest := []) F ((m_X2_clear l κ a σ 0 kp  hI) _) (cwV 0 hts gX2_isClear_X2_clear rfl rfl rfl (by decide +kernel) ⟨(Nat.le_of_ble_eq_true rfl), (Nat.le_of_ble_eq_true rfl)⟩) (pre_V hK hW [0, 1, 2, 3] rfl (by decide) 2 0 rfl rfl) rfl rfl hl.1 rfl (lv_room (Nat.le_of_ble_eq_true rfl)) dX2_isClear_6 ⟨(by first | exact Nat.le_of_ble_eq_true rfl | omega | (dsimp only [rm_X2_isClear, rm_X2_clear]; omega)), (by first | exact Nat.le_of_ble_eq_true rfl | omega | (dsimp only [rm_X2_isClear, rm_X2_clear]; omega))⟩) rfl rfl rfl (by decide) rfl (fun _ => rfl) (by first | exact Nat.le_of_ble_eq_true rfl | omega | (dsimp only [rm_X2_isClear, rm_X2_clear]; omega)) (by first | exact Nat.le_of_ble_eq_true rfl | omega | (dsimp only [rm_X2_isClear, rm_X2_clear]; omega)) (fun r_2 u H locs hp_1 hW => ?_)
  subst hp_1
  exact hret () hW dX2_isClear_9 (by first | exact Nat.le_of_ble_eq_true rfl | omega | (dsimp only [rm_X2_isClear]; omega)) (by first | exact Nat.le_of_ble_eq_true rfl | omega | (dsimp only [rm_X2_isClear]; omega)) (by first | exact zr_01 (Or.inl rfl) | exact zr_01 (Or.inr rfl) | exact zr_b _ | exact zr_01 (by omega)) rfl

abbrev rm_X2_addPot : Room := { frames := 1, cells := 0, slots := 0, locals := 22 }
set_option maxHeartbeats 4000000 in
set_option maxRecDepth 100000 in
/-- addPot -/
theorem m_X2_addPot (l : Launch) (κ : Kp) (a : Nat → Nat) (σ : Sg) (th : Int) (kp : Nat → Int) (z1 z2 z3 : Int) (hz : InR z1 ∧ InR z2 ∧ InR z3) (hI : Inv σ) : CGi l yX2_addPot wsX2_addPot rm_X2_addPot κ [.ref (a 0), .int (J z1), .int (J z2), .int (J z3)] (WM κ a σ th kp) (fun r (u : Sg × Int) => ((((0 ≤ z1 ∧ z1 ≤ 3) ∧ (0 ≤ z2 ∧ z2 ≤ 35) ∧ (0 ≤ z3 ∧ z3 ≤ 20)) ∧ σ 5 3 < 10) ∧ u = ((up (up (up (up σ 4 (σ 5 3).toNat z1) 0 (σ 5 3).toNat z2) 1 (σ 5 3).toNat z3) 5 3 (σ 5 3 + 1)), 0) ∧ r = J (σ 5 3)) ∨ (¬ ((0 ≤ z1 ∧ z1 ≤ 3) ∧ (0 ≤ z2 ∧ z2 ≤ 35) ∧ (0 ≤ z3 ∧ z3 ≤ 20)) ∧ u = (σ, 1) ∧ r = J 0) ∨ ((((0 ≤ z1 ∧ z1 ≤ 3) ∧ (0 ≤ z2 ∧ z2 ≤ 35) ∧ (0 ≤ z3 ∧ z3 ≤ 20)) ∧ ¬ σ 5 3 < 10) ∧ u = (σ, 2) ∧ r = J 0)) (fun (u : Sg × Int) => WM κ a u.1 u.2 kp) := by
  refine entry_i (by decide) rfl (Nat.le_of_ble_eq_true rfl) ?_
  intro P e s m args below meth c ls A Q F hname hK hA hret hW hl
  obtain ⟨hx, hb, hml, hown, hts⟩ := id F
  have hn2 : ∀ w ∈ wsX20, w ∈ wsX2_addPot := by decide +kernel
  have hN := hI.hN
  have hN10 := hI.n10
  have hnn := hI.1
  have hcm := cmn_lt σ
  refine lv_aload_n hx hb dX2_addPot_0 rfl (lv_at hl 0 rfl) ?_
  refine jv_iconst hx hb dX2_addPot_1 ?_
  refine jv_put (T := TX2) (N := 6) (ws' := (WM κ a σ 0 kp)) hx hb hts hn2 tyX2 tyX2_ok nmX2 hown hK hW 0 rfl rfl 0 (by decide) (List.mem_of_getElem? (i := 1) rfl) rfl rfl rfl (Nat.le_of_ble_eq_true rfl) rfl dX2_addPot_2 (fun H locs hW => ?_)
  refine lv_iload_n hx hb dX2_addPot_5 rfl (lv_at hl 1 rfl) ?_
  refine jv_iconst hx hb dX2_addPot_6 ?_
  refine jv_iconst hx hb dX2_addPot_7 ?_
  refine fin_i (k := 0) (n := 0) (W2 := (fun _ => (WM κ a σ 0 kp))) [] [0, 1, 2, 3] [0, 1, 2, 3] hW hA (va_runS (As := [.int (J z1), .int (J 0), .int (J 3)]) (rest := []) F ((m_X2_isIn l κ z1 0 3 (by omega)) _) (va_cwS 3 hts gX2_addPot_X2_isIn rfl rfl rfl (by decide +kernel) ⟨(Nat.le_of_ble_eq_true rfl), (Nat.le_of_ble_eq_true rfl)⟩) (pre_S hK hW [] rfl (by decide)) rfl rfl hl.1 rfl (lv_room (Nat.le_of_ble_eq_true rfl)) dX2_addPot_8 ⟨(by first | exact Nat.le_of_ble_eq_true rfl | omega | (dsimp only [rm_X2_addPot, rm_X2_isIn]; omega)), (by first | exact Nat.le_of_ble_eq_true rfl | omega | (dsimp only [rm_X2_addPot, rm_X2_isIn]; omega))⟩) rfl rfl rfl (by decide) rfl (fun _ => rfl) (by first | exact Nat.le_of_ble_eq_true rfl | omega | (dsimp only [rm_X2_addPot, rm_X2_isIn]; omega)) (by first | exact Nat.le_of_ble_eq_true rfl | omega | (dsimp only [rm_X2_addPot, rm_X2_isIn]; omega)) (fun r_2 u H locs hp_1 hW => ?_)
  subst hp_1
  refine jv_ifb_eq (b := (decide (0 ≤ z1 ∧ z1 ≤ 3))) hx hb 34 dX2_addPot_11 (by decide) (fun h_3 => ?_) (fun h_3 => ?_)
  · skip
    have eh_3 := of_decide_eq_false h_3
    refine lv_aload_n hx hb dX2_addPot_34 rfl (lv_at hl 0 rfl) ?_
    refine jv_iconst hx hb dX2_addPot_35 ?_
    refine fin_i (k := 0) (n := 0) (W2 := (fun _ => (WM κ a σ 1 kp))) [0, 1, 2, 3] [] [0, 1, 2, 3] hW hA (va_runV (As := [.int (J 1)]) (rest := []) F ((m_X2_no l κ a σ 0 kp 1 hI) _) (cwV 1 hts gX2_addPot_X2_no rfl rfl rfl (by decide +kernel) ⟨(Nat.le_of_ble_eq_true rfl), (Nat.le_of_ble_eq_true rfl)⟩) (pre_V hK hW [0, 1, 2, 3] rfl (by decide) 2 0 rfl rfl) rfl rfl hl.1 rfl (lv_room (Nat.le_of_ble_eq_true rfl)) dX2_addPot_36 ⟨(by first | exact Nat.le_of_ble_eq_true rfl | omega | (dsimp only [rm_X2_addPot, rm_X2_no]; omega)), (by first | exact Nat.le_of_ble_eq_true rfl | omega | (dsimp only [rm_X2_addPot, rm_X2_no]; omega))⟩) rfl rfl rfl (by decide) rfl (fun _ => rfl) (by first | exact Nat.le_of_ble_eq_true rfl | omega | (dsimp only [rm_X2_addPot, rm_X2_no]; omega)) (by first | exact Nat.le_of_ble_eq_true rfl | omega | (dsimp only [rm_X2_addPot, rm_X2_no]; omega)) (fun r_5 u H locs hp_4 hW => ?_)
    subst hp_4
    exact hret (σ, 1) hW dX2_addPot_39 (by first | exact Nat.le_of_ble_eq_true rfl | omega | (dsimp only [rm_X2_addPot]; omega)) (by first | exact Nat.le_of_ble_eq_true rfl | omega | (dsimp only [rm_X2_addPot]; omega)) (Or.inr (Or.inl ⟨by omega, rfl, rfl⟩))
  · skip
    have eh_3 := of_decide_eq_true h_3
    refine lv_iload_n hx hb dX2_addPot_14 rfl (lv_at hl 2 rfl) ?_
    refine jv_iconst hx hb dX2_addPot_15 ?_
    refine jv_bipush hx hb 35 dX2_addPot_16 (by decide +kernel) ?_
    refine fin_i (k := 0) (n := 0) (W2 := (fun _ => (WM κ a σ 0 kp))) [] [0, 1, 2, 3] [0, 1, 2, 3] hW hA (va_runS (As := [.int (J z2), .int (J 0), .int (J 35)]) (rest := []) F ((m_X2_isIn l κ z2 0 35 (by omega)) _) (va_cwS 3 hts gX2_addPot_X2_isIn rfl rfl rfl (by decide +kernel) ⟨(Nat.le_of_ble_eq_true rfl), (Nat.le_of_ble_eq_true rfl)⟩) (pre_S hK hW [] rfl (by decide)) rfl rfl hl.1 rfl (lv_room (Nat.le_of_ble_eq_true rfl)) dX2_addPot_18 ⟨(by first | exact Nat.le_of_ble_eq_true rfl | omega | (dsimp only [rm_X2_addPot, rm_X2_isIn]; omega)), (by first | exact Nat.le_of_ble_eq_true rfl | omega | (dsimp only [rm_X2_addPot, rm_X2_isIn]; omega))⟩) rfl rfl rfl (by decide) rfl (fun _ => rfl) (by first | exact Nat.le_of_ble_eq_true rfl | omega | (dsimp only [rm_X2_addPot, rm_X2_isIn]; omega)) (by first | exact Nat.le_of_ble_eq_true rfl | omega | (dsimp only [rm_X2_addPot, rm_X2_isIn]; omega)) (fun r_7 u H locs hp_6 hW => ?_)
    subst hp_6
    refine jv_ifb_eq (b := (decide (0 ≤ z2 ∧ z2 ≤ 35))) hx hb 34 dX2_addPot_21 (by decide) (fun h_8 => ?_) (fun h_8 => ?_)
    · skip
      have eh_8 := of_decide_eq_false h_8
      refine lv_aload_n hx hb dX2_addPot_34 rfl (lv_at hl 0 rfl) ?_
      refine jv_iconst hx hb dX2_addPot_35 ?_
      refine fin_i (k := 0) (n := 0) (W2 := (fun _ => (WM κ a σ 1 kp))) [0, 1, 2, 3] [] [0, 1, 2, 3] hW hA (va_runV (As := [.int (J 1)]) (rest := []) F ((m_X2_no l κ a σ 0 kp 1 hI) _) (cwV 1 hts gX2_addPot_X2_no rfl rfl rfl (by decide +kernel) ⟨(Nat.le_of_ble_eq_true rfl), (Nat.le_of_ble_eq_true rfl)⟩) (pre_V hK hW [0, 1, 2, 3] rfl (by decide) 2 0 rfl rfl) rfl rfl hl.1 rfl (lv_room (Nat.le_of_ble_eq_true rfl)) dX2_addPot_36 ⟨(by first | exact Nat.le_of_ble_eq_true rfl | omega | (dsimp only [rm_X2_addPot, rm_X2_no]; omega)), (by first | exact Nat.le_of_ble_eq_true rfl | omega | (dsimp only [rm_X2_addPot, rm_X2_no]; omega))⟩) rfl rfl rfl (by decide) rfl (fun _ => rfl) (by first | exact Nat.le_of_ble_eq_true rfl | omega | (dsimp only [rm_X2_addPot, rm_X2_no]; omega)) (by first | exact Nat.le_of_ble_eq_true rfl | omega | (dsimp only [rm_X2_addPot, rm_X2_no]; omega)) (fun r_10 u H locs hp_9 hW => ?_)
      subst hp_9
      exact hret (σ, 1) hW dX2_addPot_39 (by first | exact Nat.le_of_ble_eq_true rfl | omega | (dsimp only [rm_X2_addPot]; omega)) (by first | exact Nat.le_of_ble_eq_true rfl | omega | (dsimp only [rm_X2_addPot]; omega)) (Or.inr (Or.inl ⟨by omega, rfl, rfl⟩))
    · skip
      have eh_8 := of_decide_eq_true h_8
      refine lv_iload_n hx hb dX2_addPot_24 rfl (lv_at hl 3 rfl) ?_
      refine jv_iconst hx hb dX2_addPot_25 ?_
      refine jv_bipush hx hb 20 dX2_addPot_26 (by decide +kernel) ?_
      refine fin_i (k := 0) (n := 0) (W2 := (fun _ => (WM κ a σ 0 kp))) [] [0, 1, 2, 3] [0, 1, 2, 3] hW hA (va_runS (As := [.int (J z3), .int (J 0), .int (J 20)]) (rest := []) F ((m_X2_isIn l κ z3 0 20 (by omega)) _) (va_cwS 3 hts gX2_addPot_X2_isIn rfl rfl rfl (by decide +kernel) ⟨(Nat.le_of_ble_eq_true rfl), (Nat.le_of_ble_eq_true rfl)⟩) (pre_S hK hW [] rfl (by decide)) rfl rfl hl.1 rfl (lv_room (Nat.le_of_ble_eq_true rfl)) dX2_addPot_28 ⟨(by first | exact Nat.le_of_ble_eq_true rfl | omega | (dsimp only [rm_X2_addPot, rm_X2_isIn]; omega)), (by first | exact Nat.le_of_ble_eq_true rfl | omega | (dsimp only [rm_X2_addPot, rm_X2_isIn]; omega))⟩) rfl rfl rfl (by decide) rfl (fun _ => rfl) (by first | exact Nat.le_of_ble_eq_true rfl | omega | (dsimp only [rm_X2_addPot, rm_X2_isIn]; omega)) (by first | exact Nat.le_of_ble_eq_true rfl | omega | (dsimp only [rm_X2_addPot, rm_X2_isIn]; omega)) (fun r_12 u H locs hp_11 hW => ?_)
      subst hp_11
      refine jv_ifb_ne (b := (decide (0 ≤ z3 ∧ z3 ≤ 20))) hx hb 40 dX2_addPot_31 (by decide) (fun h_13 => ?_) (fun h_13 => ?_)
      · skip
        have eh_13 := of_decide_eq_true h_13
        refine lv_aload_n hx hb dX2_addPot_40 rfl (lv_at hl 0 rfl) ?_
        refine jv_get (T := TX2) (N := 6) (v := .int (J (σ 5 3))) hx hb hts hn2 hown hK hW 0 rfl rfl 1 (by decide) (List.mem_of_getElem? (i := 2) rfl) rfl dX2_addPot_41 ?_
        refine jv_bipush hx hb 10 dX2_addPot_44 (by decide +kernel) ?_
        refine jv_icmp_ne hx hb 55 dX2_addPot_46 (by decide) ⟨by omega, by omega⟩ ⟨by omega, by omega⟩ (fun h_14 => ?_) (fun h_14 => ?_)
        · skip
          refine lv_aload_n hx hb dX2_addPot_55 rfl (lv_at hl 0 rfl) ?_
          refine jv_get (T := TX2) (N := 6) (v := .ref (a 1)) hx hb hts hn2 hown hK hW 0 rfl rfl 3 (by decide) (List.mem_of_getElem? (i := 3) rfl) rfl dX2_addPot_56 ?_
          refine lv_aload_n hx hb dX2_addPot_59 rfl (lv_at hl 0 rfl) ?_
          refine jv_get (T := TX2) (N := 6) (v := .int (J (σ 5 3))) hx hb hts hn2 hown hK hW 0 rfl rfl 1 (by decide) (List.mem_of_getElem? (i := 2) rfl) rfl dX2_addPot_60 ?_
          refine jv_eq (y := ((σ 5 3).toNat : Int)) (by omega) ?_
          refine lv_iload_n hx hb dX2_addPot_63 rfl (lv_at hl 1 rfl) ?_
          refine jv_iast (g := (σ 4)) (ws' := (WM κ a (up σ 4 ((σ 5 3).toNat) z1) 0 kp)) hx hb hK hW 1 rfl ((σ 5 3).toNat) rfl (by omega) (by decide) rfl dX2_addPot_64 (fun H locs hW => ?_)
          refine lv_aload_n hx hb dX2_addPot_65 rfl (lv_at hl 0 rfl) ?_
          refine jv_get (T := TX2) (N := 6) (v := .ref (a 2)) hx hb hts hn2 hown hK hW 0 rfl rfl 4 (by decide) (List.mem_of_getElem? (i := 4) rfl) rfl dX2_addPot_66 ?_
          refine jv_iconst hx hb dX2_addPot_69 ?_
          refine lv_aload_n hx hb dX2_addPot_70 rfl (lv_at hl 0 rfl) ?_
          refine jv_get (T := TX2) (N := 6) (v := .int (J (σ 5 3))) hx hb hts hn2 hown hK hW 0 rfl rfl 1 (by decide) (List.mem_of_getElem? (i := 2) rfl) rfl dX2_addPot_71 ?_
          refine jv_eq (y := ((σ 5 3).toNat : Int)) (by omega) ?_
          refine jv_iadd hx hb dX2_addPot_74 ?_
          refine lv_iload_n hx hb dX2_addPot_75 rfl (lv_at hl 2 rfl) ?_
          refine jv_iast (g := (nowf (up σ 4 ((σ 5 3).toNat) z1))) (ws' := (WM κ a (up (up σ 4 ((σ 5 3).toNat) z1) 0 ((σ 5 3).toNat) z2) 0 kp)) hx hb hK hW 2 rfl (3 + (σ 5 3).toNat) (by omega) (by omega) (by decide) (by rw [nowf_p0 _ _ (show (σ 5 3).toNat < 10 by omega)]; rfl) dX2_addPot_76 (fun H locs hW => ?_)
          refine lv_aload_n hx hb dX2_addPot_77 rfl (lv_at hl 0 rfl) ?_
          refine jv_get (T := TX2) (N := 6) (v := .ref (a 2)) hx hb hts hn2 hown hK hW 0 rfl rfl 4 (by decide) (List.mem_of_getElem? (i := 4) rfl) rfl dX2_addPot_78 ?_
          refine jv_bipush hx hb 13 dX2_addPot_81 (by decide +kernel) ?_
          refine lv_aload_n hx hb dX2_addPot_83 rfl (lv_at hl 0 rfl) ?_
          refine jv_get (T := TX2) (N := 6) (v := .int (J (σ 5 3))) hx hb hts hn2 hown hK hW 0 rfl rfl 1 (by decide) (List.mem_of_getElem? (i := 2) rfl) rfl dX2_addPot_84 ?_
          refine jv_eq (y := ((σ 5 3).toNat : Int)) (by omega) ?_
          refine jv_iadd hx hb dX2_addPot_87 ?_
          refine lv_iload_n hx hb dX2_addPot_88 rfl (lv_at hl 3 rfl) ?_
          refine jv_iast (g := (nowf (up (up σ 4 ((σ 5 3).toNat) z1) 0 ((σ 5 3).toNat) z2))) (ws' := (WM κ a (up (up (up σ 4 ((σ 5 3).toNat) z1) 0 ((σ 5 3).toNat) z2) 1 ((σ 5 3).toNat) z3) 0 kp)) hx hb hK hW 2 rfl (13 + (σ 5 3).toNat) (by omega) (by omega) (by decide) (by rw [nowf_p1 _ _ (show (σ 5 3).toNat < 10 by omega)]; rfl) dX2_addPot_89 (fun H locs hW => ?_)
          refine lv_aload_n hx hb dX2_addPot_90 rfl (lv_at hl 0 rfl) ?_
          refine lv_dup hx hb dX2_addPot_91 rfl ?_
          refine jv_get (T := TX2) (N := 6) (v := .int (J (σ 5 3))) hx hb hts hn2 hown hK hW 0 rfl rfl 1 (by decide) (List.mem_of_getElem? (i := 2) rfl) rfl dX2_addPot_92 ?_
          refine jv_iconst hx hb dX2_addPot_95 ?_
          refine jv_iadd hx hb dX2_addPot_96 ?_
          refine jv_put (T := TX2) (N := 6) (ws' := (WM κ a (up (up (up (up σ 4 ((σ 5 3).toNat) z1) 0 ((σ 5 3).toNat) z2) 1 ((σ 5 3).toNat) z3) 5 3 ((σ 5 3) + 1)) 0 kp)) hx hb hts hn2 tyX2 tyX2_ok nmX2 hown hK hW 0 rfl rfl 1 (by decide) (List.mem_of_getElem? (i := 2) rfl) rfl rfl rfl (Nat.le_of_ble_eq_true rfl) rfl dX2_addPot_97 (fun H locs hW => ?_)
          refine lv_aload_n hx hb dX2_addPot_100 rfl (lv_at hl 0 rfl) ?_
          refine jv_get (T := TX2) (N := 6) (v := .int (J ((σ 5 3) + 1))) hx hb hts hn2 hown hK hW 0 rfl rfl 1 (by decide) (List.mem_of_getElem? (i := 2) rfl) rfl dX2_addPot_101 ?_
          refine jv_iconst hx hb dX2_addPot_104 ?_
          refine jv_isub hx hb dX2_addPot_105 ?_
          exact hret ((up (up (up (up σ 4 ((σ 5 3).toNat) z1) 0 ((σ 5 3).toNat) z2) 1 ((σ 5 3).toNat) z3) 5 3 ((σ 5 3) + 1)), 0) hW dX2_addPot_106 (by first | exact Nat.le_of_ble_eq_true rfl | omega | (dsimp only [rm_X2_addPot]; omega)) (by first | exact Nat.le_of_ble_eq_true rfl | omega | (dsimp only [rm_X2_addPot]; omega)) (Or.inl ⟨by omega, rfl, congrArg J (by omega)⟩)
        · skip
          refine lv_aload_n hx hb dX2_addPot_49 rfl (lv_at hl 0 rfl) ?_
          refine jv_iconst hx hb dX2_addPot_50 ?_
          refine fin_i (k := 0) (n := 0) (W2 := (fun _ => (WM κ a σ 2 kp))) [0, 1, 2, 3] [] [0, 1, 2, 3] hW hA (va_runV (As := [.int (J 2)]) (rest := []) F ((m_X2_no l κ a σ 0 kp 2 hI) _) (cwV 1 hts gX2_addPot_X2_no rfl rfl rfl (by decide +kernel) ⟨(Nat.le_of_ble_eq_true rfl), (Nat.le_of_ble_eq_true rfl)⟩) (pre_V hK hW [0, 1, 2, 3] rfl (by decide) 2 0 rfl rfl) rfl rfl hl.1 rfl (lv_room (Nat.le_of_ble_eq_true rfl)) dX2_addPot_51 ⟨(by first | exact Nat.le_of_ble_eq_true rfl | omega | (dsimp only [rm_X2_addPot, rm_X2_no]; omega)), (by first | exact Nat.le_of_ble_eq_true rfl | omega | (dsimp only [rm_X2_addPot, rm_X2_no]; omega))⟩) rfl rfl rfl (by decide) rfl (fun _ => rfl) (by first | exact Nat.le_of_ble_eq_true rfl | omega | (dsimp only [rm_X2_addPot, rm_X2_no]; omega)) (by first | exact Nat.le_of_ble_eq_true rfl | omega | (dsimp only [rm_X2_addPot, rm_X2_no]; omega)) (fun r_16 u H locs hp_15 hW => ?_)
          subst hp_15
          exact hret (σ, 2) hW dX2_addPot_54 (by first | exact Nat.le_of_ble_eq_true rfl | omega | (dsimp only [rm_X2_addPot]; omega)) (by first | exact Nat.le_of_ble_eq_true rfl | omega | (dsimp only [rm_X2_addPot]; omega)) (Or.inr (Or.inr ⟨by omega, rfl, rfl⟩))
      · skip
        have eh_13 := of_decide_eq_false h_13
        refine lv_aload_n hx hb dX2_addPot_34 rfl (lv_at hl 0 rfl) ?_
        refine jv_iconst hx hb dX2_addPot_35 ?_
        refine fin_i (k := 0) (n := 0) (W2 := (fun _ => (WM κ a σ 1 kp))) [0, 1, 2, 3] [] [0, 1, 2, 3] hW hA (va_runV (As := [.int (J 1)]) (rest := []) F ((m_X2_no l κ a σ 0 kp 1 hI) _) (cwV 1 hts gX2_addPot_X2_no rfl rfl rfl (by decide +kernel) ⟨(Nat.le_of_ble_eq_true rfl), (Nat.le_of_ble_eq_true rfl)⟩) (pre_V hK hW [0, 1, 2, 3] rfl (by decide) 2 0 rfl rfl) rfl rfl hl.1 rfl (lv_room (Nat.le_of_ble_eq_true rfl)) dX2_addPot_36 ⟨(by first | exact Nat.le_of_ble_eq_true rfl | omega | (dsimp only [rm_X2_addPot, rm_X2_no]; omega)), (by first | exact Nat.le_of_ble_eq_true rfl | omega | (dsimp only [rm_X2_addPot, rm_X2_no]; omega))⟩) rfl rfl rfl (by decide) rfl (fun _ => rfl) (by first | exact Nat.le_of_ble_eq_true rfl | omega | (dsimp only [rm_X2_addPot, rm_X2_no]; omega)) (by first | exact Nat.le_of_ble_eq_true rfl | omega | (dsimp only [rm_X2_addPot, rm_X2_no]; omega)) (fun r_18 u H locs hp_17 hW => ?_)
        subst hp_17
        exact hret (σ, 1) hW dX2_addPot_39 (by first | exact Nat.le_of_ble_eq_true rfl | omega | (dsimp only [rm_X2_addPot]; omega)) (by first | exact Nat.le_of_ble_eq_true rfl | omega | (dsimp only [rm_X2_addPot]; omega)) (Or.inr (Or.inl ⟨by omega, rfl, rfl⟩))

abbrev rm_X2_tune : Room := { frames := 2, cells := 0, slots := 0, locals := 43 }
set_option maxHeartbeats 4000000 in
set_option maxRecDepth 100000 in
/-- tune -/
theorem m_X2_tune (l : Launch) (κ : Kp) (a : Nat → Nat) (σ : Sg) (th : Int) (kp : Nat → Int) (z b : Int) (hz : InR z ∧ InR b) (hI : Inv σ) : CGi l yX2_tune wsX2_tune rm_X2_tune κ [.ref (a 0), .int (J z), .int (J b)] (WM κ a σ th kp) (fun r (u : Sg × Int) => (((0 ≤ z ∧ z < σ 5 3) ∧ ((-12 ≤ b ∧ b ≤ 12) ∧ (0 ≤ σ 0 z.toNat + b ∧ σ 0 z.toNat + b ≤ 35))) ∧ u = (up σ 0 z.toNat (σ 0 z.toNat + b), 0) ∧ r = J (σ 0 z.toNat + b)) ∨ (¬ (0 ≤ z ∧ z < σ 5 3) ∧ u = (σ, 1) ∧ r = J 0) ∨ (((0 ≤ z ∧ z < σ 5 3) ∧ ¬ ((-12 ≤ b ∧ b ≤ 12) ∧ (0 ≤ σ 0 z.toNat + b ∧ σ 0 z.toNat + b ≤ 35))) ∧ u = (σ, 2) ∧ r = J 0)) (fun (u : Sg × Int) => WM κ a u.1 u.2 kp) := by
  refine entry_i (by decide) rfl (Nat.le_of_ble_eq_true rfl) ?_
  intro P e s m args below meth c ls A Q F hname hK hA hret hW hl
  obtain ⟨hx, hb, hml, hown, hts⟩ := id F
  have hn2 : ∀ w ∈ wsX20, w ∈ wsX2_tune := by decide +kernel
  have hN := hI.hN
  have hN10 := hI.n10
  have hnn := hI.1
  have hcm := cmn_lt σ
  refine lv_aload_n hx hb dX2_tune_0 rfl (lv_at hl 0 rfl) ?_
  refine jv_iconst hx hb dX2_tune_1 ?_
  refine jv_put (T := TX2) (N := 6) (ws' := (WM κ a σ 0 kp)) hx hb hts hn2 tyX2 tyX2_ok nmX2 hown hK hW 0 rfl rfl 0 (by decide) (List.mem_of_getElem? (i := 1) rfl) rfl rfl rfl (Nat.le_of_ble_eq_true rfl) rfl dX2_tune_2 (fun H locs hW => ?_)
  refine lv_aload_n hx hb dX2_tune_5 rfl (lv_at hl 0 rfl) ?_
  refine lv_iload_n hx hb dX2_tune_6 rfl (lv_at hl 1 rfl) ?_
  refine fin_i (k := 0) (n := 0) (W2 := (fun _ => (WM κ a σ 0 kp))) [0, 1, 2, 3] [] [0, 1, 2, 3] hW hA (va_runV (As := [.int (J z)]) (rest := []) F ((m_X2_isPot l κ a σ 0 kp z ⟨by omega, by omega⟩ hI) _) (cwV 1 hts gX2_tune_X2_isPot rfl rfl rfl (by decide +kernel) ⟨(Nat.le_of_ble_eq_true rfl), (Nat.le_of_ble_eq_true rfl)⟩) (pre_V hK hW [0, 1, 2, 3] rfl (by decide) 2 0 rfl rfl) rfl rfl hl.1 rfl (lv_room (Nat.le_of_ble_eq_true rfl)) dX2_tune_7 ⟨(by first | exact Nat.le_of_ble_eq_true rfl | omega | (dsimp only [rm_X2_tune, rm_X2_isPot]; omega)), (by first | exact Nat.le_of_ble_eq_true rfl | omega | (dsimp only [rm_X2_tune, rm_X2_isPot]; omega))⟩) rfl rfl rfl (by decide) rfl (fun _ => rfl) (by first | exact Nat.le_of_ble_eq_true rfl | omega | (dsimp only [rm_X2_tune, rm_X2_isPot]; omega)) (by first | exact Nat.le_of_ble_eq_true rfl | omega | (dsimp only [rm_X2_tune, rm_X2_isPot]; omega)) (fun r_2 u H locs hp_1 hW => ?_)
  subst hp_1
  refine jv_ifb_ne (b := (decide (0 ≤ z ∧ z ≤ σ 5 3 - 1))) hx hb 19 dX2_tune_10 (by decide) (fun h_3 => ?_) (fun h_3 => ?_)
  · skip
    have eh_3 := of_decide_eq_true h_3
    obtain ⟨p, rfl⟩ : ∃ p : Nat, z = (p : Int) := ⟨z.toNat, by omega⟩
    have hbp := hI.at p (by omega)
    refine lv_iload_n hx hb dX2_tune_19 rfl (lv_at hl 2 rfl) ?_
    refine jv_bipush hx hb (-12) dX2_tune_20 (by decide +kernel) ?_
    refine jv_bipush hx hb 12 dX2_tune_22 (by decide +kernel) ?_
    refine fin_i (k := 0) (n := 0) (W2 := (fun _ => (WM κ a σ 0 kp))) [] [0, 1, 2, 3] [0, 1, 2, 3] hW hA (va_runS (As := [.int (J b), .int (J (-12)), .int (J 12)]) (rest := []) F ((m_X2_isIn l κ b (-12) 12 (by omega)) _) (va_cwS 3 hts gX2_tune_X2_isIn rfl rfl rfl (by decide +kernel) ⟨(Nat.le_of_ble_eq_true rfl), (Nat.le_of_ble_eq_true rfl)⟩) (pre_S hK hW [] rfl (by decide)) rfl rfl hl.1 rfl (lv_room (Nat.le_of_ble_eq_true rfl)) dX2_tune_24 ⟨(by first | exact Nat.le_of_ble_eq_true rfl | omega | (dsimp only [rm_X2_tune, rm_X2_isIn]; omega)), (by first | exact Nat.le_of_ble_eq_true rfl | omega | (dsimp only [rm_X2_tune, rm_X2_isIn]; omega))⟩) rfl rfl rfl (by decide) rfl (fun _ => rfl) (by first | exact Nat.le_of_ble_eq_true rfl | omega | (dsimp only [rm_X2_tune, rm_X2_isIn]; omega)) (by first | exact Nat.le_of_ble_eq_true rfl | omega | (dsimp only [rm_X2_tune, rm_X2_isIn]; omega)) (fun r_5 u H locs hp_4 hW => ?_)
    subst hp_4
    refine jv_ifb_eq (b := (decide ((-12) ≤ b ∧ b ≤ 12))) hx hb 49 dX2_tune_27 (by decide) (fun h_6 => ?_) (fun h_6 => ?_)
    · skip
      have eh_6 := of_decide_eq_false h_6
      refine lv_aload_n hx hb dX2_tune_49 rfl (lv_at hl 0 rfl) ?_
      refine jv_iconst hx hb dX2_tune_50 ?_
      refine fin_i (k := 0) (n := 0) (W2 := (fun _ => (WM κ a σ 2 kp))) [0, 1, 2, 3] [] [0, 1, 2, 3] hW hA (va_runV (As := [.int (J 2)]) (rest := []) F ((m_X2_no l κ a σ 0 kp 2 hI) _) (cwV 1 hts gX2_tune_X2_no rfl rfl rfl (by decide +kernel) ⟨(Nat.le_of_ble_eq_true rfl), (Nat.le_of_ble_eq_true rfl)⟩) (pre_V hK hW [0, 1, 2, 3] rfl (by decide) 2 0 rfl rfl) rfl rfl hl.1 rfl (lv_room (Nat.le_of_ble_eq_true rfl)) dX2_tune_51 ⟨(by first | exact Nat.le_of_ble_eq_true rfl | omega | (dsimp only [rm_X2_tune, rm_X2_no]; omega)), (by first | exact Nat.le_of_ble_eq_true rfl | omega | (dsimp only [rm_X2_tune, rm_X2_no]; omega))⟩) rfl rfl rfl (by decide) rfl (fun _ => rfl) (by first | exact Nat.le_of_ble_eq_true rfl | omega | (dsimp only [rm_X2_tune, rm_X2_no]; omega)) (by first | exact Nat.le_of_ble_eq_true rfl | omega | (dsimp only [rm_X2_tune, rm_X2_no]; omega)) (fun r_8 u H locs hp_7 hW => ?_)
      subst hp_7
      exact hret (σ, 2) hW dX2_tune_54 (by first | exact Nat.le_of_ble_eq_true rfl | omega | (dsimp only [rm_X2_tune]; omega)) (by first | exact Nat.le_of_ble_eq_true rfl | omega | (dsimp only [rm_X2_tune]; omega)) (Or.inr (Or.inr ⟨⟨by omega, by show ¬ ((-12 ≤ b ∧ b ≤ 12) ∧ (0 ≤ σ 0 p + b ∧ σ 0 p + b ≤ 35)); omega⟩, rfl, rfl⟩))
    · skip
      have eh_6 := of_decide_eq_true h_6
      refine lv_aload_n hx hb dX2_tune_30 rfl (lv_at hl 0 rfl) ?_
      refine jv_get (T := TX2) (N := 6) (v := .ref (a 2)) hx hb hts hn2 hown hK hW 0 rfl rfl 4 (by decide) (List.mem_of_getElem? (i := 2) rfl) rfl dX2_tune_31 ?_
      refine jv_iconst hx hb dX2_tune_34 ?_
      refine lv_iload_n hx hb dX2_tune_35 rfl (lv_at hl 1 rfl) ?_
      refine jv_iadd hx hb dX2_tune_36 ?_
      refine jv_iald (g := (nowf σ)) hx hb hK hW 2 rfl (3 + p) (by omega) (by omega) (by decide) dX2_tune_37 ?_
      refine jv_eq (y := (σ 0 p)) (nowf_r0 _ (by omega)) ?_
      refine lv_iload_n hx hb dX2_tune_38 rfl (lv_at hl 2 rfl) ?_
      refine jv_iadd hx hb dX2_tune_39 ?_
      refine jv_iconst hx hb dX2_tune_40 ?_
      refine jv_bipush hx hb 35 dX2_tune_41 (by decide +kernel) ?_
      refine fin_i (k := 0) (n := 0) (W2 := (fun _ => (WM κ a σ 0 kp))) [] [0, 1, 2, 3] [0, 1, 2, 3] hW hA (va_runS (As := [.int (J ((σ 0 p) + b)), .int (J 0), .int (J 35)]) (rest := []) F ((m_X2_isIn l κ ((σ 0 p) + b) 0 35 (by omega)) _) (va_cwS 3 hts gX2_tune_X2_isIn rfl rfl rfl (by decide +kernel) ⟨(Nat.le_of_ble_eq_true rfl), (Nat.le_of_ble_eq_true rfl)⟩) (pre_S hK hW [] rfl (by decide)) rfl rfl hl.1 rfl (lv_room (Nat.le_of_ble_eq_true rfl)) dX2_tune_43 ⟨(by first | exact Nat.le_of_ble_eq_true rfl | omega | (dsimp only [rm_X2_tune, rm_X2_isIn]; omega)), (by first | exact Nat.le_of_ble_eq_true rfl | omega | (dsimp only [rm_X2_tune, rm_X2_isIn]; omega))⟩) rfl rfl rfl (by decide) rfl (fun _ => rfl) (by first | exact Nat.le_of_ble_eq_true rfl | omega | (dsimp only [rm_X2_tune, rm_X2_isIn]; omega)) (by first | exact Nat.le_of_ble_eq_true rfl | omega | (dsimp only [rm_X2_tune, rm_X2_isIn]; omega)) (fun r_10 u H locs hp_9 hW => ?_)
      subst hp_9
      refine jv_ifb_ne (b := (decide (0 ≤ ((σ 0 p) + b) ∧ ((σ 0 p) + b) ≤ 35))) hx hb 55 dX2_tune_46 (by decide) (fun h_11 => ?_) (fun h_11 => ?_)
      · skip
        have eh_11 := of_decide_eq_true h_11
        refine lv_aload_n hx hb dX2_tune_55 rfl (lv_at hl 0 rfl) ?_
        refine jv_get (T := TX2) (N := 6) (v := .ref (a 2)) hx hb hts hn2 hown hK hW 0 rfl rfl 4 (by decide) (List.mem_of_getElem? (i := 2) rfl) rfl dX2_tune_56 ?_
        refine jv_iconst hx hb dX2_tune_59 ?_
        refine lv_iload_n hx hb dX2_tune_60 rfl (lv_at hl 1 rfl) ?_
        refine jv_iadd hx hb dX2_tune_61 ?_
        refine lv_dup2_11 hx hb dX2_tune_62 rfl rfl ?_
        refine jv_iald (g := (nowf σ)) hx hb hK hW 2 rfl (3 + p) (by omega) (by omega) (by decide) dX2_tune_63 ?_
        refine jv_eq (y := (σ 0 p)) (nowf_r0 _ (by omega)) ?_
        refine lv_iload_n hx hb dX2_tune_64 rfl (lv_at hl 2 rfl) ?_
        refine jv_iadd hx hb dX2_tune_65 ?_
        refine jv_iast (g := (nowf σ)) (ws' := (WM κ a (up σ 0 p ((σ 0 p) + b)) 0 kp)) hx hb hK hW 2 rfl (3 + p) (by omega) (by omega) (by decide) (by rw [nowf_p0 _ _ (show p < 10 by omega)]; rfl) dX2_tune_66 (fun H locs hW => ?_)
        refine lv_aload_n hx hb dX2_tune_67 rfl (lv_at hl 0 rfl) ?_
        refine jv_get (T := TX2) (N := 6) (v := .ref (a 2)) hx hb hts hn2 hown hK hW 0 rfl rfl 4 (by decide) (List.mem_of_getElem? (i := 2) rfl) rfl dX2_tune_68 ?_
        refine jv_iconst hx hb dX2_tune_71 ?_
        refine lv_iload_n hx hb dX2_tune_72 rfl (lv_at hl 1 rfl) ?_
        refine jv_iadd hx hb dX2_tune_73 ?_
        refine jv_iald (g := (nowf (up σ 0 p ((σ 0 p) + b)))) hx hb hK hW 2 rfl (3 + p) (by omega) (by omega) (by decide) dX2_tune_74 ?_
        refine jv_eq (y := ((σ 0 p) + b)) ((nowf_r0 _ (by omega)).trans (upi_s _ _ _)) ?_
        exact hret ((up σ 0 p ((σ 0 p) + b)), 0) hW dX2_tune_75 (by first | exact Nat.le_of_ble_eq_true rfl | omega | (dsimp only [rm_X2_tune]; omega)) (by first | exact Nat.le_of_ble_eq_true rfl | omega | (dsimp only [rm_X2_tune]; omega)) (Or.inl ⟨⟨by omega, (by show (-12 ≤ b ∧ b ≤ 12) ∧ (0 ≤ σ 0 p + b ∧ σ 0 p + b ≤ 35); omega)⟩, rfl, rfl⟩)
      · skip
        have eh_11 := of_decide_eq_false h_11
        refine lv_aload_n hx hb dX2_tune_49 rfl (lv_at hl 0 rfl) ?_
        refine jv_iconst hx hb dX2_tune_50 ?_
        refine fin_i (k := 0) (n := 0) (W2 := (fun _ => (WM κ a σ 2 kp))) [0, 1, 2, 3] [] [0, 1, 2, 3] hW hA (va_runV (As := [.int (J 2)]) (rest := []) F ((m_X2_no l κ a σ 0 kp 2 hI) _) (cwV 1 hts gX2_tune_X2_no rfl rfl rfl (by decide +kernel) ⟨(Nat.le_of_ble_eq_true rfl), (Nat.le_of_ble_eq_true rfl)⟩) (pre_V hK hW [0, 1, 2, 3] rfl (by decide) 2 0 rfl rfl) rfl rfl hl.1 rfl (lv_room (Nat.le_of_ble_eq_true rfl)) dX2_tune_51 ⟨(by first | exact Nat.le_of_ble_eq_true rfl | omega | (dsimp only [rm_X2_tune, rm_X2_no]; omega)), (by first | exact Nat.le_of_ble_eq_true rfl | omega | (dsimp only [rm_X2_tune, rm_X2_no]; omega))⟩) rfl rfl rfl (by decide) rfl (fun _ => rfl) (by first | exact Nat.le_of_ble_eq_true rfl | omega | (dsimp only [rm_X2_tune, rm_X2_no]; omega)) (by first | exact Nat.le_of_ble_eq_true rfl | omega | (dsimp only [rm_X2_tune, rm_X2_no]; omega)) (fun r_13 u H locs hp_12 hW => ?_)
        subst hp_12
        exact hret (σ, 2) hW dX2_tune_54 (by first | exact Nat.le_of_ble_eq_true rfl | omega | (dsimp only [rm_X2_tune]; omega)) (by first | exact Nat.le_of_ble_eq_true rfl | omega | (dsimp only [rm_X2_tune]; omega)) (Or.inr (Or.inr ⟨⟨by omega, by show ¬ ((-12 ≤ b ∧ b ≤ 12) ∧ (0 ≤ σ 0 p + b ∧ σ 0 p + b ≤ 35)); omega⟩, rfl, rfl⟩))
  · skip
    have eh_3 := of_decide_eq_false h_3
    refine lv_aload_n hx hb dX2_tune_13 rfl (lv_at hl 0 rfl) ?_
    refine jv_iconst hx hb dX2_tune_14 ?_
    refine fin_i (k := 0) (n := 0) (W2 := (fun _ => (WM κ a σ 1 kp))) [0, 1, 2, 3] [] [0, 1, 2, 3] hW hA (va_runV (As := [.int (J 1)]) (rest := []) F ((m_X2_no l κ a σ 0 kp 1 hI) _) (cwV 1 hts gX2_tune_X2_no rfl rfl rfl (by decide +kernel) ⟨(Nat.le_of_ble_eq_true rfl), (Nat.le_of_ble_eq_true rfl)⟩) (pre_V hK hW [0, 1, 2, 3] rfl (by decide) 2 0 rfl rfl) rfl rfl hl.1 rfl (lv_room (Nat.le_of_ble_eq_true rfl)) dX2_tune_15 ⟨(by first | exact Nat.le_of_ble_eq_true rfl | omega | (dsimp only [rm_X2_tune, rm_X2_no]; omega)), (by first | exact Nat.le_of_ble_eq_true rfl | omega | (dsimp only [rm_X2_tune, rm_X2_no]; omega))⟩) rfl rfl rfl (by decide) rfl (fun _ => rfl) (by first | exact Nat.le_of_ble_eq_true rfl | omega | (dsimp only [rm_X2_tune, rm_X2_no]; omega)) (by first | exact Nat.le_of_ble_eq_true rfl | omega | (dsimp only [rm_X2_tune, rm_X2_no]; omega)) (fun r_15 u H locs hp_14 hW => ?_)
    subst hp_14
    exact hret (σ, 1) hW dX2_tune_18 (by first | exact Nat.le_of_ble_eq_true rfl | omega | (dsimp only [rm_X2_tune]; omega)) (by first | exact Nat.le_of_ble_eq_true rfl | omega | (dsimp only [rm_X2_tune]; omega)) (Or.inr (Or.inl ⟨by omega, rfl, rfl⟩))

abbrev rm_X2_turnCosy : Room := { frames := 2, cells := 0, slots := 0, locals := 43 }
set_option maxHeartbeats 4000000 in
set_option maxRecDepth 100000 in
/-- turnCosy -/
theorem m_X2_turnCosy (l : Launch) (κ : Kp) (a : Nat → Nat) (σ : Sg) (th : Int) (kp : Nat → Int) (z : Int) (hz : InR z) (hI : Inv σ) : CGi l yX2_turnCosy wsX2_turnCosy rm_X2_turnCosy κ [.ref (a 0), .int (J z)] (WM κ a σ th kp) (fun r (u : Sg × Int) => ((0 ≤ z ∧ z < σ 5 3) ∧ u = (up σ 3 z.toNat (1 - σ 3 z.toNat), 0) ∧ r = J (1 - σ 3 z.toNat)) ∨ (¬ (0 ≤ z ∧ z < σ 5 3) ∧ u = (σ, 1) ∧ r = J 0)) (fun (u : Sg × Int) => WM κ a u.1 u.2 kp) := by
  refine entry_z (by decide) rfl (Nat.le_of_ble_eq_true rfl) ?_
  intro P e s m args below meth c ls A Q F hname hK hA hret hW hl
  obtain ⟨hx, hb, hml, hown, hts⟩ := id F
  have hn2 : ∀ w ∈ wsX20, w ∈ wsX2_turnCosy := by decide +kernel
  have hN := hI.hN
  have hN10 := hI.n10
  have hnn := hI.1
  have hcm := cmn_lt σ
  refine lv_aload_n hx hb dX2_turnCosy_0 rfl (lv_at hl 0 rfl) ?_
  refine jv_iconst hx hb dX2_turnCosy_1 ?_
  refine jv_put (T := TX2) (N := 6) (ws' := (WM κ a σ 0 kp)) hx hb hts hn2 tyX2 tyX2_ok nmX2 hown hK hW 0 rfl rfl 0 (by decide) (List.mem_of_getElem? (i := 1) rfl) rfl rfl rfl (Nat.le_of_ble_eq_true rfl) rfl dX2_turnCosy_2 (fun H locs hW => ?_)
  refine lv_aload_n hx hb dX2_turnCosy_5 rfl (lv_at hl 0 rfl) ?_
  refine lv_iload_n hx hb dX2_turnCosy_6 rfl (lv_at hl 1 rfl) ?_
  refine fin_i (k := 0) (n := 0) (W2 := (fun _ => (WM κ a σ 0 kp))) [0, 1, 2, 3] [] [0, 1, 2, 3] hW hA (va_runV (As := [.int (J z)]) (rest := []) F ((m_X2_isPot l κ a σ 0 kp z ⟨by omega, by omega⟩ hI) _) (cwV 1 hts gX2_turnCosy_X2_isPot rfl rfl rfl (by decide +kernel) ⟨(Nat.le_of_ble_eq_true rfl), (Nat.le_of_ble_eq_true rfl)⟩) (pre_V hK hW [0, 1, 2, 3] rfl (by decide) 2 0 rfl rfl) rfl rfl hl.1 rfl (lv_room (Nat.le_of_ble_eq_true rfl)) dX2_turnCosy_7 ⟨(by first | exact Nat.le_of_ble_eq_true rfl | omega | (dsimp only [rm_X2_turnCosy, rm_X2_isPot]; omega)), (by first | exact Nat.le_of_ble_eq_true rfl | omega | (dsimp only [rm_X2_turnCosy, rm_X2_isPot]; omega))⟩) rfl rfl rfl (by decide) rfl (fun _ => rfl) (by first | exact Nat.le_of_ble_eq_true rfl | omega | (dsimp only [rm_X2_turnCosy, rm_X2_isPot]; omega)) (by first | exact Nat.le_of_ble_eq_true rfl | omega | (dsimp only [rm_X2_turnCosy, rm_X2_isPot]; omega)) (fun r_2 u H locs hp_1 hW => ?_)
  subst hp_1
  refine jv_ifb_ne (b := (decide (0 ≤ z ∧ z ≤ σ 5 3 - 1))) hx hb 19 dX2_turnCosy_10 (by decide) (fun h_3 => ?_) (fun h_3 => ?_)
  · skip
    have eh_3 := of_decide_eq_true h_3
    obtain ⟨p, rfl⟩ : ∃ p : Nat, z = (p : Int) := ⟨z.toNat, by omega⟩
    have hbp := hI.at p (by omega)
    refine lv_aload_n hx hb dX2_turnCosy_19 rfl (lv_at hl 0 rfl) ?_
    refine lv_dup hx hb dX2_turnCosy_20 rfl ?_
    refine jv_get (T := TX2) (N := 6) (v := .int (J (cmn σ : Int))) hx hb hts hn2 hown hK hW 0 rfl rfl 2 (by decide) (List.mem_of_getElem? (i := 2) rfl) rfl dX2_turnCosy_21 ?_
    refine jv_iconst hx hb dX2_turnCosy_24 ?_
    refine lv_iload_n hx hb dX2_turnCosy_25 rfl (lv_at hl 1 rfl) ?_
    refine jv_ishl1 hx hb p dX2_turnCosy_26 (by omega) ?_
    refine jv_ixor hx hb (cmn σ) (2 ^ p : Nat) dX2_turnCosy_27 ?_
    refine jv_put (T := TX2) (N := 6) (ws' := (WM κ a (up σ 3 p (1 - σ 3 p)) 0 kp)) hx hb hts hn2 tyX2 tyX2_ok nmX2 hown hK hW 0 rfl rfl 2 (by decide) (List.mem_of_getElem? (i := 2) rfl) rfl rfl rfl (Nat.le_of_ble_eq_true rfl) (by rw [cmn_flip _ (by omega) (by omega)]; rfl) dX2_turnCosy_28 (fun H locs hW => ?_)
    have hcm2 := cmn_lt (up σ 3 p (1 - σ 3 p))
    refine lv_aload_n hx hb dX2_turnCosy_31 rfl (lv_at hl 0 rfl) ?_
    refine jv_get (T := TX2) (N := 6) (v := .int (J (cmn (up σ 3 p (1 - σ 3 p)) : Int))) hx hb hts hn2 hown hK hW 0 rfl rfl 2 (by decide) (List.mem_of_getElem? (i := 2) rfl) rfl dX2_turnCosy_32 ?_
    refine lv_iload_n hx hb dX2_turnCosy_35 rfl (lv_at hl 1 rfl) ?_
    refine jv_ishr hx hb (cmn (up σ 3 p (1 - σ 3 p))) p dX2_turnCosy_36 (by omega) (by omega) ?_
    refine jv_iconst hx hb dX2_turnCosy_37 ?_
    refine jv_iand hx hb ((cmn (up σ 3 p (1 - σ 3 p))) / 2 ^ p : Nat) 1 dX2_turnCosy_38 ?_
    refine jv_eq (y := bi ((cmn (up σ 3 p (1 - σ 3 p))).testBit p)) (by rw [bit_mod]; cases (cmn (up σ 3 p (1 - σ 3 p))).testBit p <;> rfl) ?_
    refine jv_iconst hx hb dX2_turnCosy_39 ?_
    refine jv_icmpb_ne (b := ((cmn (up σ 3 p (1 - σ 3 p))).testBit p)) hx hb 47 dX2_turnCosy_40 (by decide) (fun h_4 => ?_) (fun h_4 => ?_)
    · skip
      refine jv_iconst hx hb dX2_turnCosy_47 ?_
      exact hret ((up σ 3 p (1 - σ 3 p)), 0) hW dX2_turnCosy_48 (by first | exact Nat.le_of_ble_eq_true rfl | omega | (dsimp only [rm_X2_turnCosy]; omega)) (by first | exact Nat.le_of_ble_eq_true rfl | omega | (dsimp only [rm_X2_turnCosy]; omega)) (by first | exact zr_01 (Or.inl rfl) | exact zr_01 (Or.inr rfl) | exact zr_b _ | exact zr_01 (by omega)) (Or.inl ⟨by omega, rfl, congrArg J (by show _ = 1 - σ 3 p; have hcb := cmn_bit (up σ 3 p (1 - σ 3 p)) p (by omega); rw [up_s, upi_s] at hcb; have e9 := of_decide_eq_false (hcb.symm.trans h_4); omega)⟩)
    · skip
      refine jv_iconst hx hb dX2_turnCosy_43 ?_
      refine lv_goto (tgt := 48) hx hb dX2_turnCosy_44 (by decide) ?_
      exact hret ((up σ 3 p (1 - σ 3 p)), 0) hW dX2_turnCosy_48 (by first | exact Nat.le_of_ble_eq_true rfl | omega | (dsimp only [rm_X2_turnCosy]; omega)) (by first | exact Nat.le_of_ble_eq_true rfl | omega | (dsimp only [rm_X2_turnCosy]; omega)) (by first | exact zr_01 (Or.inl rfl) | exact zr_01 (Or.inr rfl) | exact zr_b _ | exact zr_01 (by omega)) (Or.inl ⟨by omega, rfl, congrArg J (by show _ = 1 - σ 3 p; have hcb := cmn_bit (up σ 3 p (1 - σ 3 p)) p (by omega); rw [up_s, upi_s] at hcb; have e9 := of_decide_eq_true (hcb.symm.trans h_4); omega)⟩)
  · skip
    have eh_3 := of_decide_eq_false h_3
    refine lv_aload_n hx hb dX2_turnCosy_13 rfl (lv_at hl 0 rfl) ?_
    refine jv_iconst hx hb dX2_turnCosy_14 ?_
    refine fin_i (k := 0) (n := 0) (W2 := (fun _ => (WM κ a σ 1 kp))) [0, 1, 2, 3] [] [0, 1, 2, 3] hW hA (va_runV (As := [.int (J 1)]) (rest := []) F ((m_X2_isNot l κ a σ 0 kp 1 hI) _) (cwV 1 hts gX2_turnCosy_X2_isNot rfl rfl rfl (by decide +kernel) ⟨(Nat.le_of_ble_eq_true rfl), (Nat.le_of_ble_eq_true rfl)⟩) (pre_V hK hW [0, 1, 2, 3] rfl (by decide) 2 0 rfl rfl) rfl rfl hl.1 rfl (lv_room (Nat.le_of_ble_eq_true rfl)) dX2_turnCosy_15 ⟨(by first | exact Nat.le_of_ble_eq_true rfl | omega | (dsimp only [rm_X2_turnCosy, rm_X2_isNot]; omega)), (by first | exact Nat.le_of_ble_eq_true rfl | omega | (dsimp only [rm_X2_turnCosy, rm_X2_isNot]; omega))⟩) rfl rfl rfl (by decide) rfl (fun _ => rfl) (by first | exact Nat.le_of_ble_eq_true rfl | omega | (dsimp only [rm_X2_turnCosy, rm_X2_isNot]; omega)) (by first | exact Nat.le_of_ble_eq_true rfl | omega | (dsimp only [rm_X2_turnCosy, rm_X2_isNot]; omega)) (fun r_6 u H locs hp_5 hW => ?_)
    subst hp_5
    exact hret (σ, 1) hW dX2_turnCosy_18 (by first | exact Nat.le_of_ble_eq_true rfl | omega | (dsimp only [rm_X2_turnCosy]; omega)) (by first | exact Nat.le_of_ble_eq_true rfl | omega | (dsimp only [rm_X2_turnCosy]; omega)) (by first | exact zr_01 (Or.inl rfl) | exact zr_01 (Or.inr rfl) | exact zr_b _ | exact zr_01 (by omega)) (Or.inr ⟨by omega, rfl, rfl⟩)

abbrev rm_X2_pour : Room := { frames := 2, cells := 0, slots := 0, locals := 43 }
set_option maxHeartbeats 4000000 in
set_option maxRecDepth 100000 in
/-- pour -/
theorem m_X2_pour (l : Launch) (κ : Kp) (a : Nat → Nat) (σ : Sg) (th : Int) (kp : Nat → Int) (z1 z2 t : Int) (hz : InR z1 ∧ InR z2 ∧ InR t) (hI : Inv σ) : CGi l yX2_pour wsX2_pour rm_X2_pour κ [.ref (a 0), .int (J z1), .int (J z2), .int (J t)] (WM κ a σ th kp) (fun r (u : Sg × Int) => ((((0 ≤ z1 ∧ z1 < σ 5 3) ∧ (0 ≤ z2 ∧ z2 < σ 5 3)) ∧ (z1 ≠ z2 ∧ (1 ≤ t ∧ t ≤ 20))) ∧ u = (up (up σ 1 z1.toNat (σ 1 z1.toNat - (ptea σ z1.toNat z2.toNat t))) 1 z2.toNat (σ 1 z2.toNat + (ptea σ z1.toNat z2.toNat t)), 0) ∧ r = J (ptea σ z1.toNat z2.toNat t)) ∨ (¬ ((0 ≤ z1 ∧ z1 < σ 5 3) ∧ (0 ≤ z2 ∧ z2 < σ 5 3)) ∧ u = (σ, 1) ∧ r = J 0) ∨ ((((0 ≤ z1 ∧ z1 < σ 5 3) ∧ (0 ≤ z2 ∧ z2 < σ 5 3)) ∧ ¬ (z1 ≠ z2 ∧ (1 ≤ t ∧ t ≤ 20))) ∧ u = (σ, 2) ∧ r = J 0)) (fun (u : Sg × Int) => WM κ a u.1 u.2 kp) := by
  refine entry_i (by decide) rfl (Nat.le_of_ble_eq_true rfl) ?_
  intro P e s m args below meth c ls A Q F hname hK hA hret hW hl
  obtain ⟨hx, hb, hml, hown, hts⟩ := id F
  have hn2 : ∀ w ∈ wsX20, w ∈ wsX2_pour := by decide +kernel
  have hN := hI.hN
  have hN10 := hI.n10
  have hnn := hI.1
  have hcm := cmn_lt σ
  refine lv_aload_n hx hb dX2_pour_0 rfl (lv_at hl 0 rfl) ?_
  refine jv_iconst hx hb dX2_pour_1 ?_
  refine jv_put (T := TX2) (N := 6) (ws' := (WM κ a σ 0 kp)) hx hb hts hn2 tyX2 tyX2_ok nmX2 hown hK hW 0 rfl rfl 0 (by decide) (List.mem_of_getElem? (i := 1) rfl) rfl rfl rfl (Nat.le_of_ble_eq_true rfl) rfl dX2_pour_2 (fun H locs hW => ?_)
  refine lv_aload_n hx hb dX2_pour_5 rfl (lv_at hl 0 rfl) ?_
  refine lv_iload_n hx hb dX2_pour_6 rfl (lv_at hl 1 rfl) ?_
  refine fin_i (k := 0) (n := 0) (W2 := (fun _ => (WM κ a σ 0 kp))) [0, 1, 2, 3] [] [0, 1, 2, 3] hW hA (va_runV (As := [.int (J z1)]) (rest := []) F ((m_X2_isPot l κ a σ 0 kp z1 ⟨by omega, by omega⟩ hI) _) (cwV 1 hts gX2_pour_X2_isPot rfl rfl rfl (by decide +kernel) ⟨(Nat.le_of_ble_eq_true rfl), (Nat.le_of_ble_eq_true rfl)⟩) (pre_V hK hW [0, 1, 2, 3] rfl (by decide) 2 0 rfl rfl) rfl rfl hl.1 rfl (lv_room (Nat.le_of_ble_eq_true rfl)) dX2_pour_7 ⟨(by first | exact Nat.le_of_ble_eq_true rfl | omega | (dsimp only [rm_X2_pour, rm_X2_isPot]; omega)), (by first | exact Nat.le_of_ble_eq_true rfl | omega | (dsimp only [rm_X2_pour, rm_X2_isPot]; omega))⟩) rfl rfl rfl (by decide) rfl (fun _ => rfl) (by first | exact Nat.le_of_ble_eq_true rfl | omega | (dsimp only [rm_X2_pour, rm_X2_isPot]; omega)) (by first | exact Nat.le_of_ble_eq_true rfl | omega | (dsimp only [rm_X2_pour, rm_X2_isPot]; omega)) (fun r_2 u H locs hp_1 hW => ?_)
  subst hp_1
  refine jv_ifb_eq (b := (decide (0 ≤ z1 ∧ z1 ≤ σ 5 3 - 1))) hx hb 21 dX2_pour_10 (by decide) (fun h_3 => ?_) (fun h_3 => ?_)
  · skip
    have eh_3 := of_decide_eq_false h_3
    refine lv_aload_n hx hb dX2_pour_21 rfl (lv_at hl 0 rfl) ?_
    refine jv_iconst hx hb dX2_pour_22 ?_
    refine fin_i (k := 0) (n := 0) (W2 := (fun _ => (WM κ a σ 1 kp))) [0, 1, 2, 3] [] [0, 1, 2, 3] hW hA (va_runV (As := [.int (J 1)]) (rest := []) F ((m_X2_no l κ a σ 0 kp 1 hI) _) (cwV 1 hts gX2_pour_X2_no rfl rfl rfl (by decide +kernel) ⟨(Nat.le_of_ble_eq_true rfl), (Nat.le_of_ble_eq_true rfl)⟩) (pre_V hK hW [0, 1, 2, 3] rfl (by decide) 2 0 rfl rfl) rfl rfl hl.1 rfl (lv_room (Nat.le_of_ble_eq_true rfl)) dX2_pour_23 ⟨(by first | exact Nat.le_of_ble_eq_true rfl | omega | (dsimp only [rm_X2_pour, rm_X2_no]; omega)), (by first | exact Nat.le_of_ble_eq_true rfl | omega | (dsimp only [rm_X2_pour, rm_X2_no]; omega))⟩) rfl rfl rfl (by decide) rfl (fun _ => rfl) (by first | exact Nat.le_of_ble_eq_true rfl | omega | (dsimp only [rm_X2_pour, rm_X2_no]; omega)) (by first | exact Nat.le_of_ble_eq_true rfl | omega | (dsimp only [rm_X2_pour, rm_X2_no]; omega)) (fun r_5 u H locs hp_4 hW => ?_)
    subst hp_4
    exact hret (σ, 1) hW dX2_pour_26 (by first | exact Nat.le_of_ble_eq_true rfl | omega | (dsimp only [rm_X2_pour]; omega)) (by first | exact Nat.le_of_ble_eq_true rfl | omega | (dsimp only [rm_X2_pour]; omega)) (Or.inr (Or.inl ⟨by omega, rfl, rfl⟩))
  · skip
    have eh_3 := of_decide_eq_true h_3
    obtain ⟨p1, rfl⟩ : ∃ p : Nat, z1 = (p : Int) := ⟨z1.toNat, by omega⟩
    have hbp1 := hI.at p1 (by omega)
    refine lv_aload_n hx hb dX2_pour_13 rfl (lv_at hl 0 rfl) ?_
    refine lv_iload_n hx hb dX2_pour_14 rfl (lv_at hl 2 rfl) ?_
    refine fin_i (k := 0) (n := 0) (W2 := (fun _ => (WM κ a σ 0 kp))) [0, 1, 2, 3] [] [0, 1, 2, 3] hW hA (va_runV (As := [.int (J z2)]) (rest := []) F ((m_X2_isPot l κ a σ 0 kp z2 ⟨by omega, by omega⟩ hI) _) (cwV 1 hts gX2_pour_X2_isPot rfl rfl rfl (by decide +kernel) ⟨(Nat.le_of_ble_eq_true rfl), (Nat.le_of_ble_eq_true rfl)⟩) (pre_V hK hW [0, 1, 2, 3] rfl (by decide) 2 0 rfl rfl) rfl rfl hl.1 rfl (lv_room (Nat.le_of_ble_eq_true rfl)) dX2_pour_15 ⟨(by first | exact Nat.le_of_ble_eq_true rfl | omega | (dsimp only [rm_X2_pour, rm_X2_isPot]; omega)), (by first | exact Nat.le_of_ble_eq_true rfl | omega | (dsimp only [rm_X2_pour, rm_X2_isPot]; omega))⟩) rfl rfl rfl (by decide) rfl (fun _ => rfl) (by first | exact Nat.le_of_ble_eq_true rfl | omega | (dsimp only [rm_X2_pour, rm_X2_isPot]; omega)) (by first | exact Nat.le_of_ble_eq_true rfl | omega | (dsimp only [rm_X2_pour, rm_X2_isPot]; omega)) (fun r_7 u H locs hp_6 hW => ?_)
    subst hp_6
    refine jv_ifb_ne (b := (decide (0 ≤ z2 ∧ z2 ≤ σ 5 3 - 1))) hx hb 27 dX2_pour_18 (by decide) (fun h_8 => ?_) (fun h_8 => ?_)
    · skip
      have eh_8 := of_decide_eq_true h_8
      obtain ⟨p2, rfl⟩ : ∃ p : Nat, z2 = (p : Int) := ⟨z2.toNat, by omega⟩
      have hbp2 := hI.at p2 (by omega)
      refine lv_iload_n hx hb dX2_pour_27 rfl (lv_at hl 1 rfl) ?_
      refine lv_iload_n hx hb dX2_pour_28 rfl (lv_at hl 2 rfl) ?_
      refine jv_icmp_eq hx hb 42 dX2_pour_29 (by decide) ⟨by omega, by omega⟩ ⟨by omega, by omega⟩ (fun h_9 => ?_) (fun h_9 => ?_)
      · skip
        refine lv_aload_n hx hb dX2_pour_42 rfl (lv_at hl 0 rfl) ?_
        refine jv_iconst hx hb dX2_pour_43 ?_
        refine fin_i (k := 0) (n := 0) (W2 := (fun _ => (WM κ a σ 2 kp))) [0, 1, 2, 3] [] [0, 1, 2, 3] hW hA (va_runV (As := [.int (J 2)]) (rest := []) F ((m_X2_no l κ a σ 0 kp 2 hI) _) (cwV 1 hts gX2_pour_X2_no rfl rfl rfl (by decide +kernel) ⟨(Nat.le_of_ble_eq_true rfl), (Nat.le_of_ble_eq_true rfl)⟩) (pre_V hK hW [0, 1, 2, 3] rfl (by decide) 2 0 rfl rfl) rfl rfl hl.1 rfl (lv_room (Nat.le_of_ble_eq_true rfl)) dX2_pour_44 ⟨(by first | exact Nat.le_of_ble_eq_true rfl | omega | (dsimp only [rm_X2_pour, rm_X2_no]; omega)), (by first | exact Nat.le_of_ble_eq_true rfl | omega | (dsimp only [rm_X2_pour, rm_X2_no]; omega))⟩) rfl rfl rfl (by decide) rfl (fun _ => rfl) (by first | exact Nat.le_of_ble_eq_true rfl | omega | (dsimp only [rm_X2_pour, rm_X2_no]; omega)) (by first | exact Nat.le_of_ble_eq_true rfl | omega | (dsimp only [rm_X2_pour, rm_X2_no]; omega)) (fun r_11 u H locs hp_10 hW => ?_)
        subst hp_10
        exact hret (σ, 2) hW dX2_pour_47 (by first | exact Nat.le_of_ble_eq_true rfl | omega | (dsimp only [rm_X2_pour]; omega)) (by first | exact Nat.le_of_ble_eq_true rfl | omega | (dsimp only [rm_X2_pour]; omega)) (Or.inr (Or.inr ⟨by omega, rfl, rfl⟩))
      · skip
        refine lv_iload_n hx hb dX2_pour_32 rfl (lv_at hl 3 rfl) ?_
        refine jv_iconst hx hb dX2_pour_33 ?_
        refine jv_bipush hx hb 20 dX2_pour_34 (by decide +kernel) ?_
        refine fin_i (k := 0) (n := 0) (W2 := (fun _ => (WM κ a σ 0 kp))) [] [0, 1, 2, 3] [0, 1, 2, 3] hW hA (va_runS (As := [.int (J t), .int (J 1), .int (J 20)]) (rest := []) F ((m_X2_isIn l κ t 1 20 (by omega)) _) (va_cwS 3 hts gX2_pour_X2_isIn rfl rfl rfl (by decide +kernel) ⟨(Nat.le_of_ble_eq_true rfl), (Nat.le_of_ble_eq_true rfl)⟩) (pre_S hK hW [] rfl (by decide)) rfl rfl hl.1 rfl (lv_room (Nat.le_of_ble_eq_true rfl)) dX2_pour_36 ⟨(by first | exact Nat.le_of_ble_eq_true rfl | omega | (dsimp only [rm_X2_pour, rm_X2_isIn]; omega)), (by first | exact Nat.le_of_ble_eq_true rfl | omega | (dsimp only [rm_X2_pour, rm_X2_isIn]; omega))⟩) rfl rfl rfl (by decide) rfl (fun _ => rfl) (by first | exact Nat.le_of_ble_eq_true rfl | omega | (dsimp only [rm_X2_pour, rm_X2_isIn]; omega)) (by first | exact Nat.le_of_ble_eq_true rfl | omega | (dsimp only [rm_X2_pour, rm_X2_isIn]; omega)) (fun r_13 u H locs hp_12 hW => ?_)
        subst hp_12
        refine jv_ifb_ne (b := (decide (1 ≤ t ∧ t ≤ 20))) hx hb 48 dX2_pour_39 (by decide) (fun h_14 => ?_) (fun h_14 => ?_)
        · skip
          have eh_14 := of_decide_eq_true h_14
          refine lv_iload_n hx hb dX2_pour_48 rfl (lv_at hl 3 rfl) ?_
          refine lv_aload_n hx hb dX2_pour_49 rfl (lv_at hl 0 rfl) ?_
          refine jv_get (T := TX2) (N := 6) (v := .ref (a 2)) hx hb hts hn2 hown hK hW 0 rfl rfl 4 (by decide) (List.mem_of_getElem? (i := 2) rfl) rfl dX2_pour_50 ?_
          refine jv_bipush hx hb 13 dX2_pour_53 (by decide +kernel) ?_
          refine lv_iload_n hx hb dX2_pour_55 rfl (lv_at hl 1 rfl) ?_
          refine jv_iadd hx hb dX2_pour_56 ?_
          refine jv_iald (g := (nowf σ)) hx hb hK hW 2 rfl (13 + p1) (by omega) (by omega) (by decide) dX2_pour_57 ?_
          refine jv_eq (y := (σ 1 p1)) (nowf_r1 _ (by omega)) ?_
          refine jv_bipush hx hb 20 dX2_pour_58 (by decide +kernel) ?_
          refine lv_aload_n hx hb dX2_pour_60 rfl (lv_at hl 0 rfl) ?_
          refine jv_get (T := TX2) (N := 6) (v := .ref (a 2)) hx hb hts hn2 hown hK hW 0 rfl rfl 4 (by decide) (List.mem_of_getElem? (i := 2) rfl) rfl dX2_pour_61 ?_
          refine jv_bipush hx hb 13 dX2_pour_64 (by decide +kernel) ?_
          refine lv_iload_n hx hb dX2_pour_66 rfl (lv_at hl 2 rfl) ?_
          refine jv_iadd hx hb dX2_pour_67 ?_
          refine jv_iald (g := (nowf σ)) hx hb hK hW 2 rfl (13 + p2) (by omega) (by omega) (by decide) dX2_pour_68 ?_
          refine jv_eq (y := (σ 1 p2)) (nowf_r1 _ (by omega)) ?_
          refine jv_isub hx hb dX2_pour_69 ?_
          refine jv_min hx hb hown hml hl hts (List.mem_of_getElem? (i := 3) rfl) (List.mem_of_getElem? (i := 4) rfl) (List.mem_of_getElem? (i := 5) rfl) (List.mem_of_getElem? (i := 6) rfl) (Nat.le_of_ble_eq_true rfl) (Nat.le_of_ble_eq_true rfl) (by first | exact Nat.le_of_ble_eq_true rfl | omega) (by first | exact Nat.le_of_ble_eq_true rfl | omega) ⟨by omega, by omega⟩ ⟨by omega, by omega⟩ dX2_pour_70 ?_
          refine jv_min hx hb hown hml hl hts (List.mem_of_getElem? (i := 3) rfl) (List.mem_of_getElem? (i := 4) rfl) (List.mem_of_getElem? (i := 5) rfl) (List.mem_of_getElem? (i := 6) rfl) (Nat.le_of_ble_eq_true rfl) (Nat.le_of_ble_eq_true rfl) (by first | exact Nat.le_of_ble_eq_true rfl | omega) (by first | exact Nat.le_of_ble_eq_true rfl | omega) ⟨by omega, by omega⟩ ⟨by omega, by omega⟩ dX2_pour_73 ?_
          refine lv_istore (lv' := [(4, .int (J (min t (min (σ 1 p1) (20 - (σ 1 p2)))))), (0, .ref (a 0)), (1, .int (J (p1 : Int))), (2, .int (J (p2 : Int))), (3, .int (J t))]) hx hb dX2_pour_76 hl (by decide) rfl (fun ls hl => ?_)
          refine lv_aload_n hx hb dX2_pour_78 rfl (lv_at hl 1 rfl) ?_
          refine jv_get (T := TX2) (N := 6) (v := .ref (a 2)) hx hb hts hn2 hown hK hW 0 rfl rfl 4 (by decide) (List.mem_of_getElem? (i := 2) rfl) rfl dX2_pour_79 ?_
          refine jv_bipush hx hb 13 dX2_pour_82 (by decide +kernel) ?_
          refine lv_iload_n hx hb dX2_pour_84 rfl (lv_at hl 2 rfl) ?_
          refine jv_iadd hx hb dX2_pour_85 ?_
          refine lv_dup2_11 hx hb dX2_pour_86 rfl rfl ?_
          refine jv_iald (g := (nowf σ)) hx hb hK hW 2 rfl (13 + p1) (by omega) (by omega) (by decide) dX2_pour_87 ?_
          refine jv_eq (y := (σ 1 p1)) (nowf_r1 _ (by omega)) ?_
          refine lv_iload hx hb dX2_pour_88 (lv_at hl 0 rfl) ?_
          refine jv_isub hx hb dX2_pour_90 ?_
          refine jv_iast (g := (nowf σ)) (ws' := (WM κ a (up σ 1 p1 ((σ 1 p1) - (min t (min (σ 1 p1) (20 - (σ 1 p2)))))) 0 kp)) hx hb hK hW 2 rfl (13 + p1) (by omega) (by omega) (by decide) (by rw [nowf_p1 _ _ (show p1 < 10 by omega)]; rfl) dX2_pour_91 (fun H locs hW => ?_)
          refine lv_aload_n hx hb dX2_pour_92 rfl (lv_at hl 1 rfl) ?_
          refine jv_get (T := TX2) (N := 6) (v := .ref (a 2)) hx hb hts hn2 hown hK hW 0 rfl rfl 4 (by decide) (List.mem_of_getElem? (i := 2) rfl) rfl dX2_pour_93 ?_
          refine jv_bipush hx hb 13 dX2_pour_96 (by decide +kernel) ?_
          refine lv_iload_n hx hb dX2_pour_98 rfl (lv_at hl 3 rfl) ?_
          refine jv_iadd hx hb dX2_pour_99 ?_
          refine lv_dup2_11 hx hb dX2_pour_100 rfl rfl ?_
          refine jv_iald (g := (nowf (up σ 1 p1 ((σ 1 p1) - (min t (min (σ 1 p1) (20 - (σ 1 p2)))))))) hx hb hK hW 2 rfl (13 + p2) (by omega) (by omega) (by decide) dX2_pour_101 ?_
          refine jv_eq (y := (σ 1 p2)) ((nowf_r1 _ (by omega)).trans (upi_n _ _ (by omega))) ?_
          refine lv_iload hx hb dX2_pour_102 (lv_at hl 0 rfl) ?_
          refine jv_iadd hx hb dX2_pour_104 ?_
          refine jv_iast (g := (nowf (up σ 1 p1 ((σ 1 p1) - (min t (min (σ 1 p1) (20 - (σ 1 p2)))))))) (ws' := (WM κ a (up (up σ 1 p1 ((σ 1 p1) - (min t (min (σ 1 p1) (20 - (σ 1 p2)))))) 1 p2 ((σ 1 p2) + (min t (min (σ 1 p1) (20 - (σ 1 p2)))))) 0 kp)) hx hb hK hW 2 rfl (13 + p2) (by omega) (by omega) (by decide) (by rw [nowf_p1 _ _ (show p2 < 10 by omega)]; rfl) dX2_pour_105 (fun H locs hW => ?_)
          refine lv_iload hx hb dX2_pour_106 (lv_at hl 0 rfl) ?_
          exact hret ((up (up σ 1 p1 ((σ 1 p1) - (min t (min (σ 1 p1) (20 - (σ 1 p2)))))) 1 p2 ((σ 1 p2) + (min t (min (σ 1 p1) (20 - (σ 1 p2)))))), 0) hW dX2_pour_108 (by first | exact Nat.le_of_ble_eq_true rfl | omega | (dsimp only [rm_X2_pour]; omega)) (by first | exact Nat.le_of_ble_eq_true rfl | omega | (dsimp only [rm_X2_pour]; omega)) (Or.inl ⟨by omega, rfl, rfl⟩)
        · skip
          have eh_14 := of_decide_eq_false h_14
          refine lv_aload_n hx hb dX2_pour_42 rfl (lv_at hl 0 rfl) ?_
          refine jv_iconst hx hb dX2_pour_43 ?_
          refine fin_i (k := 0) (n := 0) (W2 := (fun _ => (WM κ a σ 2 kp))) [0, 1, 2, 3] [] [0, 1, 2, 3] hW hA (va_runV (As := [.int (J 2)]) (rest := []) F ((m_X2_no l κ a σ 0 kp 2 hI) _) (cwV 1 hts gX2_pour_X2_no rfl rfl rfl (by decide +kernel) ⟨(Nat.le_of_ble_eq_true rfl), (Nat.le_of_ble_eq_true rfl)⟩) (pre_V hK hW [0, 1, 2, 3] rfl (by decide) 2 0 rfl rfl) rfl rfl hl.1 rfl (lv_room (Nat.le_of_ble_eq_true rfl)) dX2_pour_44 ⟨(by first | exact Nat.le_of_ble_eq_true rfl | omega | (dsimp only [rm_X2_pour, rm_X2_no]; omega)), (by first | exact Nat.le_of_ble_eq_true rfl | omega | (dsimp only [rm_X2_pour, rm_X2_no]; omega))⟩) rfl rfl rfl (by decide) rfl (fun _ => rfl) (by first | exact Nat.le_of_ble_eq_true rfl | omega | (dsimp only [rm_X2_pour, rm_X2_no]; omega)) (by first | exact Nat.le_of_ble_eq_true rfl | omega | (dsimp only [rm_X2_pour, rm_X2_no]; omega)) (fun r_16 u H locs hp_15 hW => ?_)
          subst hp_15
          exact hret (σ, 2) hW dX2_pour_47 (by first | exact Nat.le_of_ble_eq_true rfl | omega | (dsimp only [rm_X2_pour]; omega)) (by first | exact Nat.le_of_ble_eq_true rfl | omega | (dsimp only [rm_X2_pour]; omega)) (Or.inr (Or.inr ⟨by omega, rfl, rfl⟩))
    · skip
      have eh_8 := of_decide_eq_false h_8
      refine lv_aload_n hx hb dX2_pour_21 rfl (lv_at hl 0 rfl) ?_
      refine jv_iconst hx hb dX2_pour_22 ?_
      refine fin_i (k := 0) (n := 0) (W2 := (fun _ => (WM κ a σ 1 kp))) [0, 1, 2, 3] [] [0, 1, 2, 3] hW hA (va_runV (As := [.int (J 1)]) (rest := []) F ((m_X2_no l κ a σ 0 kp 1 hI) _) (cwV 1 hts gX2_pour_X2_no rfl rfl rfl (by decide +kernel) ⟨(Nat.le_of_ble_eq_true rfl), (Nat.le_of_ble_eq_true rfl)⟩) (pre_V hK hW [0, 1, 2, 3] rfl (by decide) 2 0 rfl rfl) rfl rfl hl.1 rfl (lv_room (Nat.le_of_ble_eq_true rfl)) dX2_pour_23 ⟨(by first | exact Nat.le_of_ble_eq_true rfl | omega | (dsimp only [rm_X2_pour, rm_X2_no]; omega)), (by first | exact Nat.le_of_ble_eq_true rfl | omega | (dsimp only [rm_X2_pour, rm_X2_no]; omega))⟩) rfl rfl rfl (by decide) rfl (fun _ => rfl) (by first | exact Nat.le_of_ble_eq_true rfl | omega | (dsimp only [rm_X2_pour, rm_X2_no]; omega)) (by first | exact Nat.le_of_ble_eq_true rfl | omega | (dsimp only [rm_X2_pour, rm_X2_no]; omega)) (fun r_18 u H locs hp_17 hW => ?_)
      subst hp_17
      exact hret (σ, 1) hW dX2_pour_26 (by first | exact Nat.le_of_ble_eq_true rfl | omega | (dsimp only [rm_X2_pour]; omega)) (by first | exact Nat.le_of_ble_eq_true rfl | omega | (dsimp only [rm_X2_pour]; omega)) (Or.inr (Or.inl ⟨by omega, rfl, rfl⟩))

abbrev rm_X2_fill : Room := { frames := 2, cells := 0, slots := 0, locals := 43 }
set_option maxHeartbeats 4000000 in
set_option maxRecDepth 100000 in
/-- fill -/
theorem m_X2_fill (l : Launch) (κ : Kp) (a : Nat → Nat) (σ : Sg) (th : Int) (kp : Nat → Int) (z : Int) (hz : InR z) (hI : Inv σ) : CGi l yX2_fill wsX2_fill rm_X2_fill κ [.ref (a 0), .int (J z)] (WM κ a σ th kp) (fun r (u : Sg × Int) => ((0 ≤ z ∧ z < σ 5 3) ∧ u = (up σ 1 z.toNat 20, 0) ∧ r = J (20 - σ 1 z.toNat)) ∨ (¬ (0 ≤ z ∧ z < σ 5 3) ∧ u = (σ, 1) ∧ r = J 0)) (fun (u : Sg × Int) => WM κ a u.1 u.2 kp) := by
  refine entry_i (by decide) rfl (Nat.le_of_ble_eq_true rfl) ?_
  intro P e s m args below meth c ls A Q F hname hK hA hret hW hl
  obtain ⟨hx, hb, hml, hown, hts⟩ := id F
  have hn2 : ∀ w ∈ wsX20, w ∈ wsX2_fill := by decide +kernel
  have hN := hI.hN
  have hN10 := hI.n10
  have hnn := hI.1
  have hcm := cmn_lt σ
  refine lv_aload_n hx hb dX2_fill_0 rfl (lv_at hl 0 rfl) ?_
  refine jv_iconst hx hb dX2_fill_1 ?_
  refine jv_put (T := TX2) (N := 6) (ws' := (WM κ a σ 0 kp)) hx hb hts hn2 tyX2 tyX2_ok nmX2 hown hK hW 0 rfl rfl 0 (by decide) (List.mem_of_getElem? (i := 1) rfl) rfl rfl rfl (Nat.le_of_ble_eq_true rfl) rfl dX2_fill_2 (fun H locs hW => ?_)
  refine lv_aload_n hx hb dX2_fill_5 rfl (lv_at hl 0 rfl) ?_
  refine lv_iload_n hx hb dX2_fill_6 rfl (lv_at hl 1 rfl) ?_
  refine fin_i (k := 0) (n := 0) (W2 := (fun _ => (WM κ a σ 0 kp))) [0, 1, 2, 3] [] [0, 1, 2, 3] hW hA (va_runV (As := [.int (J z)]) (rest := []) F ((m_X2_isPot l κ a σ 0 kp z ⟨by omega, by omega⟩ hI) _) (cwV 1 hts gX2_fill_X2_isPot rfl rfl rfl (by decide +kernel) ⟨(Nat.le_of_ble_eq_true rfl), (Nat.le_of_ble_eq_true rfl)⟩) (pre_V hK hW [0, 1, 2, 3] rfl (by decide) 2 0 rfl rfl) rfl rfl hl.1 rfl (lv_room (Nat.le_of_ble_eq_true rfl)) dX2_fill_7 ⟨(by first | exact Nat.le_of_ble_eq_true rfl | omega | (dsimp only [rm_X2_fill, rm_X2_isPot]; omega)), (by first | exact Nat.le_of_ble_eq_true rfl | omega | (dsimp only [rm_X2_fill, rm_X2_isPot]; omega))⟩) rfl rfl rfl (by decide) rfl (fun _ => rfl) (by first | exact Nat.le_of_ble_eq_true rfl | omega | (dsimp only [rm_X2_fill, rm_X2_isPot]; omega)) (by first | exact Nat.le_of_ble_eq_true rfl | omega | (dsimp only [rm_X2_fill, rm_X2_isPot]; omega)) (fun r_2 u H locs hp_1 hW => ?_)
  subst hp_1
  refine jv_ifb_ne (b := (decide (0 ≤ z ∧ z ≤ σ 5 3 - 1))) hx hb 19 dX2_fill_10 (by decide) (fun h_3 => ?_) (fun h_3 => ?_)
  · skip
    have eh_3 := of_decide_eq_true h_3
    obtain ⟨p, rfl⟩ : ∃ p : Nat, z = (p : Int) := ⟨z.toNat, by omega⟩
    have hbp := hI.at p (by omega)
    refine jv_bipush hx hb 20 dX2_fill_19 (by decide +kernel) ?_
    refine lv_aload_n hx hb dX2_fill_21 rfl (lv_at hl 0 rfl) ?_
    refine jv_get (T := TX2) (N := 6) (v := .ref (a 2)) hx hb hts hn2 hown hK hW 0 rfl rfl 4 (by decide) (List.mem_of_getElem? (i := 2) rfl) rfl dX2_fill_22 ?_
    refine jv_bipush hx hb 13 dX2_fill_25 (by decide +kernel) ?_
    refine lv_iload_n hx hb dX2_fill_27 rfl (lv_at hl 1 rfl) ?_
    refine jv_iadd hx hb dX2_fill_28 ?_
    refine jv_iald (g := (nowf σ)) hx hb hK hW 2 rfl (13 + p) (by omega) (by omega) (by decide) dX2_fill_29 ?_
    refine jv_eq (y := (σ 1 p)) (nowf_r1 _ (by omega)) ?_
    refine jv_isub hx hb dX2_fill_30 ?_
    refine lv_istore_n (lv' := [(2, .int (J (20 - (σ 1 p)))), (0, .ref (a 0)), (1, .int (J (p : Int)))]) hx hb dX2_fill_31 rfl hl (by decide) rfl (fun ls hl => ?_)
    refine lv_aload_n hx hb dX2_fill_32 rfl (lv_at hl 1 rfl) ?_
    refine jv_get (T := TX2) (N := 6) (v := .ref (a 2)) hx hb hts hn2 hown hK hW 0 rfl rfl 4 (by decide) (List.mem_of_getElem? (i := 2) rfl) rfl dX2_fill_33 ?_
    refine jv_bipush hx hb 13 dX2_fill_36 (by decide +kernel) ?_
    refine lv_iload_n hx hb dX2_fill_38 rfl (lv_at hl 2 rfl) ?_
    refine jv_iadd hx hb dX2_fill_39 ?_
    refine jv_bipush hx hb 20 dX2_fill_40 (by decide +kernel) ?_
    refine jv_iast (g := (nowf σ)) (ws' := (WM κ a (up σ 1 p 20) 0 kp)) hx hb hK hW 2 rfl (13 + p) (by omega) (by omega) (by decide) (by rw [nowf_p1 _ _ (show p < 10 by omega)]; rfl) dX2_fill_42 (fun H locs hW => ?_)
    refine lv_iload_n hx hb dX2_fill_43 rfl (lv_at hl 0 rfl) ?_
    exact hret ((up σ 1 p 20), 0) hW dX2_fill_44 (by first | exact Nat.le_of_ble_eq_true rfl | omega | (dsimp only [rm_X2_fill]; omega)) (by first | exact Nat.le_of_ble_eq_true rfl | omega | (dsimp only [rm_X2_fill]; omega)) (Or.inl ⟨by omega, rfl, rfl⟩)
  · skip
    have eh_3 := of_decide_eq_false h_3
    refine lv_aload_n hx hb dX2_fill_13 rfl (lv_at hl 0 rfl) ?_
    refine jv_iconst hx hb dX2_fill_14 ?_
    refine fin_i (k := 0) (n := 0) (W2 := (fun _ => (WM κ a σ 1 kp))) [0, 1, 2, 3] [] [0, 1, 2, 3] hW hA (va_runV (As := [.int (J 1)]) (rest := []) F ((m_X2_no l κ a σ 0 kp 1 hI) _) (cwV 1 hts gX2_fill_X2_no rfl rfl rfl (by decide +kernel) ⟨(Nat.le_of_ble_eq_true rfl), (Nat.le_of_ble_eq_true rfl)⟩) (pre_V hK hW [0, 1, 2, 3] rfl (by decide) 2 0 rfl rfl) rfl rfl hl.1 rfl (lv_room (Nat.le_of_ble_eq_true rfl)) dX2_fill_15 ⟨(by first | exact Nat.le_of_ble_eq_true rfl | omega | (dsimp only [rm_X2_fill, rm_X2_no]; omega)), (by first | exact Nat.le_of_ble_eq_true rfl | omega | (dsimp only [rm_X2_fill, rm_X2_no]; omega))⟩) rfl rfl rfl (by decide) rfl (fun _ => rfl) (by first | exact Nat.le_of_ble_eq_true rfl | omega | (dsimp only [rm_X2_fill, rm_X2_no]; omega)) (by first | exact Nat.le_of_ble_eq_true rfl | omega | (dsimp only [rm_X2_fill, rm_X2_no]; omega)) (fun r_5 u H locs hp_4 hW => ?_)
    subst hp_4
    exact hret (σ, 1) hW dX2_fill_18 (by first | exact Nat.le_of_ble_eq_true rfl | omega | (dsimp only [rm_X2_fill]; omega)) (by first | exact Nat.le_of_ble_eq_true rfl | omega | (dsimp only [rm_X2_fill]; omega)) (Or.inr ⟨by omega, rfl, rfl⟩)

abbrev rm_X2_mend : Room := { frames := 2, cells := 0, slots := 0, locals := 43 }
set_option maxHeartbeats 4000000 in
set_option maxRecDepth 100000 in
/-- mend -/
theorem m_X2_mend (l : Launch) (κ : Kp) (a : Nat → Nat) (σ : Sg) (th : Int) (kp : Nat → Int) (z : Int) (hz : InR z) (hI : Inv σ) : CGi l yX2_mend wsX2_mend rm_X2_mend κ [.ref (a 0), .int (J z)] (WM κ a σ th kp) (fun r (u : Sg × Int) => ((0 ≤ z ∧ z < σ 5 3) ∧ u = (up (up σ 2 z.toNat 0) 1 z.toNat 0, 0) ∧ r = J (σ 2 z.toNat)) ∨ (¬ (0 ≤ z ∧ z < σ 5 3) ∧ u = (σ, 1) ∧ r = J 0)) (fun (u : Sg × Int) => WM κ a u.1 u.2 kp) := by
  refine entry_i (by decide) rfl (Nat.le_of_ble_eq_true rfl) ?_
  intro P e s m args below meth c ls A Q F hname hK hA hret hW hl
  obtain ⟨hx, hb, hml, hown, hts⟩ := id F
  have hn2 : ∀ w ∈ wsX20, w ∈ wsX2_mend := by decide +kernel
  have hN := hI.hN
  have hN10 := hI.n10
  have hnn := hI.1
  have hcm := cmn_lt σ
  refine lv_aload_n hx hb dX2_mend_0 rfl (lv_at hl 0 rfl) ?_
  refine jv_iconst hx hb dX2_mend_1 ?_
  refine jv_put (T := TX2) (N := 6) (ws' := (WM κ a σ 0 kp)) hx hb hts hn2 tyX2 tyX2_ok nmX2 hown hK hW 0 rfl rfl 0 (by decide) (List.mem_of_getElem? (i := 1) rfl) rfl rfl rfl (Nat.le_of_ble_eq_true rfl) rfl dX2_mend_2 (fun H locs hW => ?_)
  refine lv_aload_n hx hb dX2_mend_5 rfl (lv_at hl 0 rfl) ?_
  refine lv_iload_n hx hb dX2_mend_6 rfl (lv_at hl 1 rfl) ?_
  refine fin_i (k := 0) (n := 0) (W2 := (fun _ => (WM κ a σ 0 kp))) [0, 1, 2, 3] [] [0, 1, 2, 3] hW hA (va_runV (As := [.int (J z)]) (rest := []) F ((m_X2_isPot l κ a σ 0 kp z ⟨by omega, by omega⟩ hI) _) (cwV 1 hts gX2_mend_X2_isPot rfl rfl rfl (by decide +kernel) ⟨(Nat.le_of_ble_eq_true rfl), (Nat.le_of_ble_eq_true rfl)⟩) (pre_V hK hW [0, 1, 2, 3] rfl (by decide) 2 0 rfl rfl) rfl rfl hl.1 rfl (lv_room (Nat.le_of_ble_eq_true rfl)) dX2_mend_7 ⟨(by first | exact Nat.le_of_ble_eq_true rfl | omega | (dsimp only [rm_X2_mend, rm_X2_isPot]; omega)), (by first | exact Nat.le_of_ble_eq_true rfl | omega | (dsimp only [rm_X2_mend, rm_X2_isPot]; omega))⟩) rfl rfl rfl (by decide) rfl (fun _ => rfl) (by first | exact Nat.le_of_ble_eq_true rfl | omega | (dsimp only [rm_X2_mend, rm_X2_isPot]; omega)) (by first | exact Nat.le_of_ble_eq_true rfl | omega | (dsimp only [rm_X2_mend, rm_X2_isPot]; omega)) (fun r_2 u H locs hp_1 hW => ?_)
  subst hp_1
  refine jv_ifb_ne (b := (decide (0 ≤ z ∧ z ≤ σ 5 3 - 1))) hx hb 19 dX2_mend_10 (by decide) (fun h_3 => ?_) (fun h_3 => ?_)
  · skip
    have eh_3 := of_decide_eq_true h_3
    obtain ⟨p, rfl⟩ : ∃ p : Nat, z = (p : Int) := ⟨z.toNat, by omega⟩
    have hbp := hI.at p (by omega)
    refine lv_aload_n hx hb dX2_mend_19 rfl (lv_at hl 0 rfl) ?_
    refine jv_get (T := TX2) (N := 6) (v := .ref (a 2)) hx hb hts hn2 hown hK hW 0 rfl rfl 4 (by decide) (List.mem_of_getElem? (i := 2) rfl) rfl dX2_mend_20 ?_
    refine jv_bipush hx hb 23 dX2_mend_23 (by decide +kernel) ?_
    refine lv_iload_n hx hb dX2_mend_25 rfl (lv_at hl 1 rfl) ?_
    refine jv_iadd hx hb dX2_mend_26 ?_
    refine jv_iald (g := (nowf σ)) hx hb hK hW 2 rfl (23 + p) (by omega) (by omega) (by decide) dX2_mend_27 ?_
    refine jv_eq (y := (σ 2 p)) (nowf_r2 _ (by omega)) ?_
    refine lv_istore_n (lv' := [(2, .int (J (σ 2 p))), (0, .ref (a 0)), (1, .int (J (p : Int)))]) hx hb dX2_mend_28 rfl hl (by decide) rfl (fun ls hl => ?_)
    refine lv_aload_n hx hb dX2_mend_29 rfl (lv_at hl 1 rfl) ?_
    refine jv_get (T := TX2) (N := 6) (v := .ref (a 2)) hx hb hts hn2 hown hK hW 0 rfl rfl 4 (by decide) (List.mem_of_getElem? (i := 2) rfl) rfl dX2_mend_30 ?_
    refine jv_bipush hx hb 23 dX2_mend_33 (by decide +kernel) ?_
    refine lv_iload_n hx hb dX2_mend_35 rfl (lv_at hl 2 rfl) ?_
    refine jv_iadd hx hb dX2_mend_36 ?_
    refine jv_iconst hx hb dX2_mend_37 ?_
    refine jv_iast (g := (nowf σ)) (ws' := (WM κ a (up σ 2 p 0) 0 kp)) hx hb hK hW 2 rfl (23 + p) (by omega) (by omega) (by decide) (by rw [nowf_p2 _ _ (show p < 10 by omega)]; rfl) dX2_mend_38 (fun H locs hW => ?_)
    refine lv_aload_n hx hb dX2_mend_39 rfl (lv_at hl 1 rfl) ?_
    refine jv_get (T := TX2) (N := 6) (v := .ref (a 2)) hx hb hts hn2 hown hK hW 0 rfl rfl 4 (by decide) (List.mem_of_getElem? (i := 2) rfl) rfl dX2_mend_40 ?_
    refine jv_bipush hx hb 13 dX2_mend_43 (by decide +kernel) ?_
    refine lv_iload_n hx hb dX2_mend_45 rfl (lv_at hl 2 rfl) ?_
    refine jv_iadd hx hb dX2_mend_46 ?_
    refine jv_iconst hx hb dX2_mend_47 ?_
    refine jv_iast (g := (nowf (up σ 2 p 0))) (ws' := (WM κ a (up (up σ 2 p 0) 1 p 0) 0 kp)) hx hb hK hW 2 rfl (13 + p) (by omega) (by omega) (by decide) (by rw [nowf_p1 _ _ (show p < 10 by omega)]; rfl) dX2_mend_48 (fun H locs hW => ?_)
    refine lv_iload_n hx hb dX2_mend_49 rfl (lv_at hl 0 rfl) ?_
    exact hret ((up (up σ 2 p 0) 1 p 0), 0) hW dX2_mend_50 (by first | exact Nat.le_of_ble_eq_true rfl | omega | (dsimp only [rm_X2_mend]; omega)) (by first | exact Nat.le_of_ble_eq_true rfl | omega | (dsimp only [rm_X2_mend]; omega)) (Or.inl ⟨by omega, rfl, rfl⟩)
  · skip
    have eh_3 := of_decide_eq_false h_3
    refine lv_aload_n hx hb dX2_mend_13 rfl (lv_at hl 0 rfl) ?_
    refine jv_iconst hx hb dX2_mend_14 ?_
    refine fin_i (k := 0) (n := 0) (W2 := (fun _ => (WM κ a σ 1 kp))) [0, 1, 2, 3] [] [0, 1, 2, 3] hW hA (va_runV (As := [.int (J 1)]) (rest := []) F ((m_X2_no l κ a σ 0 kp 1 hI) _) (cwV 1 hts gX2_mend_X2_no rfl rfl rfl (by decide +kernel) ⟨(Nat.le_of_ble_eq_true rfl), (Nat.le_of_ble_eq_true rfl)⟩) (pre_V hK hW [0, 1, 2, 3] rfl (by decide) 2 0 rfl rfl) rfl rfl hl.1 rfl (lv_room (Nat.le_of_ble_eq_true rfl)) dX2_mend_15 ⟨(by first | exact Nat.le_of_ble_eq_true rfl | omega | (dsimp only [rm_X2_mend, rm_X2_no]; omega)), (by first | exact Nat.le_of_ble_eq_true rfl | omega | (dsimp only [rm_X2_mend, rm_X2_no]; omega))⟩) rfl rfl rfl (by decide) rfl (fun _ => rfl) (by first | exact Nat.le_of_ble_eq_true rfl | omega | (dsimp only [rm_X2_mend, rm_X2_no]; omega)) (by first | exact Nat.le_of_ble_eq_true rfl | omega | (dsimp only [rm_X2_mend, rm_X2_no]; omega)) (fun r_5 u H locs hp_4 hW => ?_)
    subst hp_4
    exact hret (σ, 1) hW dX2_mend_18 (by first | exact Nat.le_of_ble_eq_true rfl | omega | (dsimp only [rm_X2_mend]; omega)) (by first | exact Nat.le_of_ble_eq_true rfl | omega | (dsimp only [rm_X2_mend]; omega)) (Or.inr ⟨by omega, rfl, rfl⟩)

abbrev rm_X2_sing : Room := { frames := 8, cells := 0, slots := 0, locals := 182 }
set_option maxHeartbeats 4000000 in
set_option maxRecDepth 100000 in
/-- sing -/
theorem m_X2_sing (l : Launch) (κ : Kp) (a : Nat → Nat) (σ : Sg) (th : Int) (kp : Nat → Int) (k : Int) (hk : InR k) (hB : σ 5 0 ≤ 100000000) (hI : Inv σ) : CGi l yX2_sing wsX2_sing rm_X2_sing κ [.ref (a 0), .int (J k)] (WM κ a σ th kp) (fun r (u : Sg × Int) => ((1 ≤ k ∧ k ≤ 60) ∧ u = (pbn σ k.toNat, 0) ∧ r = J (pbn σ k.toNat 5 1 - σ 5 1)) ∨ (¬ (1 ≤ k ∧ k ≤ 60) ∧ u = (σ, 1) ∧ r = J 0)) (fun (u : Sg × Int) => WM κ a u.1 u.2 kp) := by
  refine entry_i (by decide) rfl (Nat.le_of_ble_eq_true rfl) ?_
  intro P e s m args below meth c ls A Q F hname hK hA hret hW hl
  obtain ⟨hx, hb, hml, hown, hts⟩ := id F
  have hn2 : ∀ w ∈ wsX20, w ∈ wsX2_sing := by decide +kernel
  have hN := hI.hN
  have hN10 := hI.n10
  have hnn := hI.1
  have hcm := cmn_lt σ
  refine lv_aload_n hx hb dX2_sing_0 rfl (lv_at hl 0 rfl) ?_
  refine jv_iconst hx hb dX2_sing_1 ?_
  refine jv_put (T := TX2) (N := 6) (ws' := (WM κ a σ 0 kp)) hx hb hts hn2 tyX2 tyX2_ok nmX2 hown hK hW 0 rfl rfl 0 (by decide) (List.mem_of_getElem? (i := 1) rfl) rfl rfl rfl (Nat.le_of_ble_eq_true rfl) rfl dX2_sing_2 (fun H locs hW => ?_)
  refine lv_iload_n hx hb dX2_sing_5 rfl (lv_at hl 1 rfl) ?_
  refine jv_iconst hx hb dX2_sing_6 ?_
  refine jv_bipush hx hb 60 dX2_sing_7 (by decide +kernel) ?_
  refine fin_i (k := 0) (n := 0) (W2 := (fun _ => (WM κ a σ 0 kp))) [] [0, 1, 2, 3] [0, 1, 2, 3] hW hA (va_runS (As := [.int (J k), .int (J 1), .int (J 60)]) (rest := []) F ((m_X2_isIn l κ k 1 60 (by omega)) _) (va_cwS 3 hts gX2_sing_X2_isIn rfl rfl rfl (by decide +kernel) ⟨(Nat.le_of_ble_eq_true rfl), (Nat.le_of_ble_eq_true rfl)⟩) (pre_S hK hW [] rfl (by decide)) rfl rfl hl.1 rfl (lv_room (Nat.le_of_ble_eq_true rfl)) dX2_sing_9 ⟨(by first | exact Nat.le_of_ble_eq_true rfl | omega | (dsimp only [rm_X2_sing, rm_X2_isIn]; omega)), (by first | exact Nat.le_of_ble_eq_true rfl | omega | (dsimp only [rm_X2_sing, rm_X2_isIn]; omega))⟩) rfl rfl rfl (by decide) rfl (fun _ => rfl) (by first | exact Nat.le_of_ble_eq_true rfl | omega | (dsimp only [rm_X2_sing, rm_X2_isIn]; omega)) (by first | exact Nat.le_of_ble_eq_true rfl | omega | (dsimp only [rm_X2_sing, rm_X2_isIn]; omega)) (fun r_2 u H locs hp_1 hW => ?_)
  subst hp_1
  refine jv_ifb_eq (b := (decide (1 ≤ k ∧ k ≤ 60))) hx hb 23 dX2_sing_12 (by decide) (fun h_3 => ?_) (fun h_3 => ?_)
  · skip
    have eh_3 := of_decide_eq_false h_3
    refine lv_aload_n hx hb dX2_sing_23 rfl (lv_at hl 0 rfl) ?_
    refine jv_iconst hx hb dX2_sing_24 ?_
    refine fin_i (k := 0) (n := 0) (W2 := (fun _ => (WM κ a σ 1 kp))) [0, 1, 2, 3] [] [0, 1, 2, 3] hW hA (va_runV (As := [.int (J 1)]) (rest := []) F ((m_X2_no l κ a σ 0 kp 1 hI) _) (cwV 1 hts gX2_sing_X2_no rfl rfl rfl (by decide +kernel) ⟨(Nat.le_of_ble_eq_true rfl), (Nat.le_of_ble_eq_true rfl)⟩) (pre_V hK hW [0, 1, 2, 3] rfl (by decide) 2 0 rfl rfl) rfl rfl hl.1 rfl (lv_room (Nat.le_of_ble_eq_true rfl)) dX2_sing_25 ⟨(by first | exact Nat.le_of_ble_eq_true rfl | omega | (dsimp only [rm_X2_sing, rm_X2_no]; omega)), (by first | exact Nat.le_of_ble_eq_true rfl | omega | (dsimp only [rm_X2_sing, rm_X2_no]; omega))⟩) rfl rfl rfl (by decide) rfl (fun _ => rfl) (by first | exact Nat.le_of_ble_eq_true rfl | omega | (dsimp only [rm_X2_sing, rm_X2_no]; omega)) (by first | exact Nat.le_of_ble_eq_true rfl | omega | (dsimp only [rm_X2_sing, rm_X2_no]; omega)) (fun r_5 u H locs hp_4 hW => ?_)
    subst hp_4
    exact hret (σ, 1) hW dX2_sing_28 (by first | exact Nat.le_of_ble_eq_true rfl | omega | (dsimp only [rm_X2_sing]; omega)) (by first | exact Nat.le_of_ble_eq_true rfl | omega | (dsimp only [rm_X2_sing]; omega)) (Or.inr ⟨by omega, rfl, rfl⟩)
  · skip
    have eh_3 := of_decide_eq_true h_3
    obtain ⟨n, rfl⟩ : ∃ p : Nat, k = (p : Int) := ⟨k.toNat, by omega⟩
    refine lv_aload_n hx hb dX2_sing_15 rfl (lv_at hl 0 rfl) ?_
    refine lv_iload_n hx hb dX2_sing_16 rfl (lv_at hl 1 rfl) ?_
    refine fin_i (k := 0) (n := 0) (W2 := (fun _ => (WM κ a (pbn σ n) 0 kp))) [0, 1, 2, 3] [] [0, 1, 2, 3] hW hA (va_runV (As := [.int (J (n : Int))]) (rest := []) F ((m_X2_beats l κ a σ 0 kp n (by omega) hI (by omega)) _) (cwV 1 hts gX2_sing_X2_beats rfl rfl rfl (by decide +kernel) ⟨(Nat.le_of_ble_eq_true rfl), (Nat.le_of_ble_eq_true rfl)⟩) (pre_V hK hW [0, 1, 2, 3] rfl (by decide) 2 0 rfl rfl) rfl rfl hl.1 rfl (lv_room (Nat.le_of_ble_eq_true rfl)) dX2_sing_17 ⟨(by first | exact Nat.le_of_ble_eq_true rfl | omega | (dsimp only [rm_X2_sing, rm_X2_beats]; omega)), (by first | exact Nat.le_of_ble_eq_true rfl | omega | (dsimp only [rm_X2_sing, rm_X2_beats]; omega))⟩) rfl rfl rfl (by decide) rfl (fun _ => rfl) (by first | exact Nat.le_of_ble_eq_true rfl | omega | (dsimp only [rm_X2_sing, rm_X2_beats]; omega)) (by first | exact Nat.le_of_ble_eq_true rfl | omega | (dsimp only [rm_X2_sing, rm_X2_beats]; omega)) (fun r_7 u H locs hp_6 hW => ?_)
    subst hp_6
    refine lv_goto (tgt := 28) hx hb dX2_sing_20 (by decide) ?_
    exact hret ((pbn σ n), 0) hW dX2_sing_28 (by first | exact Nat.le_of_ble_eq_true rfl | omega | (dsimp only [rm_X2_sing]; omega)) (by first | exact Nat.le_of_ble_eq_true rfl | omega | (dsimp only [rm_X2_sing]; omega)) (Or.inl ⟨by omega, rfl, rfl⟩)
