abbrev rm_X1_requirePot : Room := { frames := 0, cells := 0, slots := 0, locals := 0 }
set_option maxHeartbeats 4000000 in
set_option maxRecDepth 100000 in
/-- requirePot, of one that is -/
theorem m_X1_requirePot (l : Launch) (κ : Kp) (x : Nat) (a a2 : Nat → Nat) (σ : Sg) (br : Nat → Int) (p : Nat) (hp : (p : Int) < σ 5 3) (hI : Inv σ) : CGv l yX1_requirePot wsX1_requirePot rm_X1_requirePot κ [.ref x, .int (J (p : Int))] (WX κ x a a2 ++ (WC κ a σ br)) (fun (_ : Unit) => True) (fun (_ : Unit) => (WX κ x a a2 ++ (WC κ a σ br))) := by
  refine entry_v (by decide) rfl (Nat.le_of_ble_eq_true rfl) ?_
  intro P e s m args below meth c ls A Q F hname hK hA hret hW hl
  obtain ⟨hx, hb, hml, hown, hts⟩ := id F
  have hn0 : ∀ w ∈ wsX00, w ∈ wsX1_requirePot := by decide +kernel
  have hn1 : ∀ w ∈ wsX10, w ∈ wsX1_requirePot := by decide +kernel
  have hN := hI.hN
  have hN10 := hI.n10
  have hnn := hI.1
  refine lv_iload_n hx hb dX1_requirePot_0 rfl (lv_at hl 1 rfl) ?_
  refine jv_if_lt hx hb 15 dX1_requirePot_1 (by decide) ⟨by omega, by omega⟩ (fun h_1 => by exfalso; omega) (fun h_1 => ?_)
  refine lv_iload_n hx hb dX1_requirePot_4 rfl (lv_at hl 1 rfl) ?_
  refine lv_aload_n hx hb dX1_requirePot_5 rfl (lv_at hl 0 rfl) ?_
  refine jv_get (T := TX1) (N := 2) (v := .ref (a 0)) hx hb hts hn1 hown hK hW 0 rfl rfl 0 (by decide) (List.mem_of_getElem? (i := 3) rfl) rfl dX1_requirePot_6 ?_
  refine jv_get (T := TX0) (N := 10) (v := .int (J (σ 5 3))) hx hb hts hn0 hown hK hW 1 rfl rfl 6 (by decide) (List.mem_of_getElem? (i := 4) rfl) rfl dX1_requirePot_9 ?_
  refine jv_icmp_lt hx hb 25 dX1_requirePot_12 (by decide) ⟨by omega, by omega⟩ ⟨by omega, by omega⟩ (fun h_2 => ?_) (fun h_2 => by exfalso; omega)
  exact hret () hW dX1_requirePot_25 (by first | exact Nat.le_of_ble_eq_true rfl | omega | (dsimp only [rm_X1_requirePot]; omega)) (by first | exact Nat.le_of_ble_eq_true rfl | omega | (dsimp only [rm_X1_requirePot]; omega)) trivial

abbrev rm_X1_requireWithin : Room := { frames := 0, cells := 0, slots := 0, locals := 0 }
set_option maxHeartbeats 4000000 in
set_option maxRecDepth 100000 in
/-- requireWithin, of one that is -/
theorem m_X1_requireWithin (l : Launch) (κ : Kp) (z lo hi : Int) (hz : InR z ∧ InR lo ∧ InR hi) (hw : lo ≤ z ∧ z ≤ hi) : CGv l yX1_requireWithin wsX1_requireWithin rm_X1_requireWithin κ [.int (J z), .int (J lo), .int (J hi)] ([] : va_W) (fun (_ : Unit) => True) (fun (_ : Unit) => ([] : va_W)) := by
  refine entry_v (by decide) rfl (Nat.le_of_ble_eq_true rfl) ?_
  intro P e s m args below meth c ls A Q F hname hK hA hret hW hl
  obtain ⟨hx, hb, hml, hown, hts⟩ := id F
  refine lv_iload_n hx hb dX1_requireWithin_0 rfl (lv_at hl 0 rfl) ?_
  refine lv_iload_n hx hb dX1_requireWithin_1 rfl (lv_at hl 1 rfl) ?_
  refine jv_icmp_lt hx hb 10 dX1_requireWithin_2 (by decide) ⟨by omega, by omega⟩ ⟨by omega, by omega⟩ (fun h_1 => by exfalso; omega) (fun h_1 => ?_)
  refine lv_iload_n hx hb dX1_requireWithin_5 rfl (lv_at hl 0 rfl) ?_
  refine lv_iload_n hx hb dX1_requireWithin_6 rfl (lv_at hl 2 rfl) ?_
  refine jv_icmp_le hx hb 20 dX1_requireWithin_7 (by decide) ⟨by omega, by omega⟩ ⟨by omega, by omega⟩ (fun h_2 => ?_) (fun h_2 => by exfalso; omega)
  exact hret () hW dX1_requireWithin_20 (by first | exact Nat.le_of_ble_eq_true rfl | omega | (dsimp only [rm_X1_requireWithin]; omega)) (by first | exact Nat.le_of_ble_eq_true rfl | omega | (dsimp only [rm_X1_requireWithin]; omega)) trivial

abbrev rm_X1_partOf : Room := { frames := 1, cells := 0, slots := 0, locals := 21 }
set_option maxHeartbeats 4000000 in
set_option maxRecDepth 100000 in
/-- partOf -/
theorem m_X1_partOf (l : Launch) (κ : Kp) (x : Nat) (a a2 : Nat → Nat) (σ : Sg) (br : Nat → Int) (p : Nat) (hp : (p : Int) < σ 5 3) (hI : Inv σ) : CGi l yX1_partOf wsX1_partOf rm_X1_partOf κ [.ref x, .int (J (p : Int))] (WX κ x a a2 ++ (WC κ a σ br)) (fun r (_ : Unit) => r = J (σ 4 p)) (fun (_ : Unit) => (WX κ x a a2 ++ (WC κ a σ br))) := by
  refine entry_i (by decide) rfl (Nat.le_of_ble_eq_true rfl) ?_
  intro P e s m args below meth c ls A Q F hname hK hA hret hW hl
  obtain ⟨hx, hb, hml, hown, hts⟩ := id F
  have hn0 : ∀ w ∈ wsX00, w ∈ wsX1_partOf := by decide +kernel
  have hn1 : ∀ w ∈ wsX10, w ∈ wsX1_partOf := by decide +kernel
  have hN := hI.hN
  have hN10 := hI.n10
  have hnn := hI.1
  have hbp := hI.at p (by omega)
  refine lv_aload_n hx hb dX1_partOf_0 rfl (lv_at hl 0 rfl) ?_
  refine lv_iload_n hx hb dX1_partOf_1 rfl (lv_at hl 1 rfl) ?_
  refine fin_v (k := 0) (n := 0) (W2 := (fun _ => (WX κ x a a2 ++ (WC κ a σ br)))) [0, 1, 2, 3, 4, 5, 6, 7] [] [0, 1, 2, 3, 4, 5, 6, 7] hW hA (va_runV (As := [.int (J (p : Int))]) (rest := []) F ((m_X1_requirePot l κ x a a2 σ br p (by omega) hI) _) (cwV 1 hts gX1_partOf_X1_requirePot rfl rfl rfl (by decide +kernel) ⟨(Nat.le_of_ble_eq_true rfl), (Nat.le_of_ble_eq_true rfl)⟩) (pre_V hK hW [0, 1, 2, 3, 4, 5, 6, 7] rfl (by decide) 1 0 rfl rfl) rfl rfl hl.1 rfl (lv_room (Nat.le_of_ble_eq_true rfl)) dX1_partOf_2 ⟨(by first | exact Nat.le_of_ble_eq_true rfl | omega | (dsimp only [rm_X1_partOf, rm_X1_requirePot]; omega)), (by first | exact Nat.le_of_ble_eq_true rfl | omega | (dsimp only [rm_X1_partOf, rm_X1_requirePot]; omega))⟩) rfl rfl rfl (by decide) rfl (fun _ => rfl) (by first | exact Nat.le_of_ble_eq_true rfl | omega | (dsimp only [rm_X1_partOf, rm_X1_requirePot]; omega)) (by first | exact Nat.le_of_ble_eq_true rfl | omega | (dsimp only [rm_X1_partOf, rm_X1_requirePot]; omega)) (fun u H locs hp_1 hW => ?_)
  refine lv_aload_n hx hb dX1_partOf_5 rfl (lv_at hl 0 rfl) ?_
  refine jv_get (T := TX1) (N := 2) (v := .ref (a 0)) hx hb hts hn1 hown hK hW 0 rfl rfl 0 (by decide) (List.mem_of_getElem? (i := 1) rfl) rfl dX1_partOf_6 ?_
  refine jv_get (T := TX0) (N := 10) (v := .ref (a 1)) hx hb hts hn0 hown hK hW 1 rfl rfl 0 (by decide) (List.mem_of_getElem? (i := 2) rfl) rfl dX1_partOf_9 ?_
  refine lv_iload_n hx hb dX1_partOf_12 rfl (lv_at hl 1 rfl) ?_
  refine jv_iald (g := (σ 4)) hx hb hK hW 2 rfl p rfl (by omega) (by decide) dX1_partOf_13 ?_
  exact hret () hW dX1_partOf_14 (by first | exact Nat.le_of_ble_eq_true rfl | omega | (dsimp only [rm_X1_partOf]; omega)) (by first | exact Nat.le_of_ble_eq_true rfl | omega | (dsimp only [rm_X1_partOf]; omega)) rfl

abbrev rm_X1_pitchOf : Room := { frames := 1, cells := 0, slots := 0, locals := 21 }
set_option maxHeartbeats 4000000 in
set_option maxRecDepth 100000 in
/-- pitchOf -/
theorem m_X1_pitchOf (l : Launch) (κ : Kp) (x : Nat) (a a2 : Nat → Nat) (σ : Sg) (br : Nat → Int) (p : Nat) (hp : (p : Int) < σ 5 3) (hI : Inv σ) : CGi l yX1_pitchOf wsX1_pitchOf rm_X1_pitchOf κ [.ref x, .int (J (p : Int))] (WX κ x a a2 ++ (WC κ a σ br)) (fun r (_ : Unit) => r = J (σ 0 p)) (fun (_ : Unit) => (WX κ x a a2 ++ (WC κ a σ br))) := by
  refine entry_i (by decide) rfl (Nat.le_of_ble_eq_true rfl) ?_
  intro P e s m args below meth c ls A Q F hname hK hA hret hW hl
  obtain ⟨hx, hb, hml, hown, hts⟩ := id F
  have hn0 : ∀ w ∈ wsX00, w ∈ wsX1_pitchOf := by decide +kernel
  have hn1 : ∀ w ∈ wsX10, w ∈ wsX1_pitchOf := by decide +kernel
  have hN := hI.hN
  have hN10 := hI.n10
  have hnn := hI.1
  have hbp := hI.at p (by omega)
  refine lv_aload_n hx hb dX1_pitchOf_0 rfl (lv_at hl 0 rfl) ?_
  refine lv_iload_n hx hb dX1_pitchOf_1 rfl (lv_at hl 1 rfl) ?_
  refine fin_v (k := 0) (n := 0) (W2 := (fun _ => (WX κ x a a2 ++ (WC κ a σ br)))) [0, 1, 2, 3, 4, 5, 6, 7] [] [0, 1, 2, 3, 4, 5, 6, 7] hW hA (va_runV (As := [.int (J (p : Int))]) (rest := []) F ((m_X1_requirePot l κ x a a2 σ br p (by omega) hI) _) (cwV 1 hts gX1_pitchOf_X1_requirePot rfl rfl rfl (by decide +kernel) ⟨(Nat.le_of_ble_eq_true rfl), (Nat.le_of_ble_eq_true rfl)⟩) (pre_V hK hW [0, 1, 2, 3, 4, 5, 6, 7] rfl (by decide) 1 0 rfl rfl) rfl rfl hl.1 rfl (lv_room (Nat.le_of_ble_eq_true rfl)) dX1_pitchOf_2 ⟨(by first | exact Nat.le_of_ble_eq_true rfl | omega | (dsimp only [rm_X1_pitchOf, rm_X1_requirePot]; omega)), (by first | exact Nat.le_of_ble_eq_true rfl | omega | (dsimp only [rm_X1_pitchOf, rm_X1_requirePot]; omega))⟩) rfl rfl rfl (by decide) rfl (fun _ => rfl) (by first | exact Nat.le_of_ble_eq_true rfl | omega | (dsimp only [rm_X1_pitchOf, rm_X1_requirePot]; omega)) (by first | exact Nat.le_of_ble_eq_true rfl | omega | (dsimp only [rm_X1_pitchOf, rm_X1_requirePot]; omega)) (fun u H locs hp_1 hW => ?_)
  refine lv_aload_n hx hb dX1_pitchOf_5 rfl (lv_at hl 0 rfl) ?_
  refine jv_get (T := TX1) (N := 2) (v := .ref (a 0)) hx hb hts hn1 hown hK hW 0 rfl rfl 0 (by decide) (List.mem_of_getElem? (i := 1) rfl) rfl dX1_pitchOf_6 ?_
  refine jv_get (T := TX0) (N := 10) (v := .ref (a 2)) hx hb hts hn0 hown hK hW 1 rfl rfl 1 (by decide) (List.mem_of_getElem? (i := 2) rfl) rfl dX1_pitchOf_9 ?_
  refine lv_iload_n hx hb dX1_pitchOf_12 rfl (lv_at hl 1 rfl) ?_
  refine jv_iald (g := (σ 0)) hx hb hK hW 3 rfl p rfl (by omega) (by decide) dX1_pitchOf_13 ?_
  exact hret () hW dX1_pitchOf_14 (by first | exact Nat.le_of_ble_eq_true rfl | omega | (dsimp only [rm_X1_pitchOf]; omega)) (by first | exact Nat.le_of_ble_eq_true rfl | omega | (dsimp only [rm_X1_pitchOf]; omega)) rfl

abbrev rm_X1_teaOf : Room := { frames := 1, cells := 0, slots := 0, locals := 21 }
set_option maxHeartbeats 4000000 in
set_option maxRecDepth 100000 in
/-- teaOf -/
theorem m_X1_teaOf (l : Launch) (κ : Kp) (x : Nat) (a a2 : Nat → Nat) (σ : Sg) (br : Nat → Int) (p : Nat) (hp : (p : Int) < σ 5 3) (hI : Inv σ) : CGi l yX1_teaOf wsX1_teaOf rm_X1_teaOf κ [.ref x, .int (J (p : Int))] (WX κ x a a2 ++ (WC κ a σ br)) (fun r (_ : Unit) => r = J (σ 1 p)) (fun (_ : Unit) => (WX κ x a a2 ++ (WC κ a σ br))) := by
  refine entry_i (by decide) rfl (Nat.le_of_ble_eq_true rfl) ?_
  intro P e s m args below meth c ls A Q F hname hK hA hret hW hl
  obtain ⟨hx, hb, hml, hown, hts⟩ := id F
  have hn0 : ∀ w ∈ wsX00, w ∈ wsX1_teaOf := by decide +kernel
  have hn1 : ∀ w ∈ wsX10, w ∈ wsX1_teaOf := by decide +kernel
  have hN := hI.hN
  have hN10 := hI.n10
  have hnn := hI.1
  have hbp := hI.at p (by omega)
  refine lv_aload_n hx hb dX1_teaOf_0 rfl (lv_at hl 0 rfl) ?_
  refine lv_iload_n hx hb dX1_teaOf_1 rfl (lv_at hl 1 rfl) ?_
  refine fin_v (k := 0) (n := 0) (W2 := (fun _ => (WX κ x a a2 ++ (WC κ a σ br)))) [0, 1, 2, 3, 4, 5, 6, 7] [] [0, 1, 2, 3, 4, 5, 6, 7] hW hA (va_runV (As := [.int (J (p : Int))]) (rest := []) F ((m_X1_requirePot l κ x a a2 σ br p (by omega) hI) _) (cwV 1 hts gX1_teaOf_X1_requirePot rfl rfl rfl (by decide +kernel) ⟨(Nat.le_of_ble_eq_true rfl), (Nat.le_of_ble_eq_true rfl)⟩) (pre_V hK hW [0, 1, 2, 3, 4, 5, 6, 7] rfl (by decide) 1 0 rfl rfl) rfl rfl hl.1 rfl (lv_room (Nat.le_of_ble_eq_true rfl)) dX1_teaOf_2 ⟨(by first | exact Nat.le_of_ble_eq_true rfl | omega | (dsimp only [rm_X1_teaOf, rm_X1_requirePot]; omega)), (by first | exact Nat.le_of_ble_eq_true rfl | omega | (dsimp only [rm_X1_teaOf, rm_X1_requirePot]; omega))⟩) rfl rfl rfl (by decide) rfl (fun _ => rfl) (by first | exact Nat.le_of_ble_eq_true rfl | omega | (dsimp only [rm_X1_teaOf, rm_X1_requirePot]; omega)) (by first | exact Nat.le_of_ble_eq_true rfl | omega | (dsimp only [rm_X1_teaOf, rm_X1_requirePot]; omega)) (fun u H locs hp_1 hW => ?_)
  refine lv_aload_n hx hb dX1_teaOf_5 rfl (lv_at hl 0 rfl) ?_
  refine jv_get (T := TX1) (N := 2) (v := .ref (a 0)) hx hb hts hn1 hown hK hW 0 rfl rfl 0 (by decide) (List.mem_of_getElem? (i := 1) rfl) rfl dX1_teaOf_6 ?_
  refine jv_get (T := TX0) (N := 10) (v := .ref (a 3)) hx hb hts hn0 hown hK hW 1 rfl rfl 2 (by decide) (List.mem_of_getElem? (i := 2) rfl) rfl dX1_teaOf_9 ?_
  refine lv_iload_n hx hb dX1_teaOf_12 rfl (lv_at hl 1 rfl) ?_
  refine jv_iald (g := (σ 1)) hx hb hK hW 4 rfl p rfl (by omega) (by decide) dX1_teaOf_13 ?_
  exact hret () hW dX1_teaOf_14 (by first | exact Nat.le_of_ble_eq_true rfl | omega | (dsimp only [rm_X1_teaOf]; omega)) (by first | exact Nat.le_of_ble_eq_true rfl | omega | (dsimp only [rm_X1_teaOf]; omega)) rfl

abbrev rm_X1_crackOf : Room := { frames := 1, cells := 0, slots := 0, locals := 21 }
set_option maxHeartbeats 4000000 in
set_option maxRecDepth 100000 in
/-- crackOf -/
theorem m_X1_crackOf (l : Launch) (κ : Kp) (x : Nat) (a a2 : Nat → Nat) (σ : Sg) (br : Nat → Int) (p : Nat) (hp : (p : Int) < σ 5 3) (hI : Inv σ) : CGi l yX1_crackOf wsX1_crackOf rm_X1_crackOf κ [.ref x, .int (J (p : Int))] (WX κ x a a2 ++ (WC κ a σ br)) (fun r (_ : Unit) => r = J (σ 2 p)) (fun (_ : Unit) => (WX κ x a a2 ++ (WC κ a σ br))) := by
  refine entry_i (by decide) rfl (Nat.le_of_ble_eq_true rfl) ?_
  intro P e s m args below meth c ls A Q F hname hK hA hret hW hl
  obtain ⟨hx, hb, hml, hown, hts⟩ := id F
  have hn0 : ∀ w ∈ wsX00, w ∈ wsX1_crackOf := by decide +kernel
  have hn1 : ∀ w ∈ wsX10, w ∈ wsX1_crackOf := by decide +kernel
  have hN := hI.hN
  have hN10 := hI.n10
  have hnn := hI.1
  have hbp := hI.at p (by omega)
  refine lv_aload_n hx hb dX1_crackOf_0 rfl (lv_at hl 0 rfl) ?_
  refine lv_iload_n hx hb dX1_crackOf_1 rfl (lv_at hl 1 rfl) ?_
  refine fin_v (k := 0) (n := 0) (W2 := (fun _ => (WX κ x a a2 ++ (WC κ a σ br)))) [0, 1, 2, 3, 4, 5, 6, 7] [] [0, 1, 2, 3, 4, 5, 6, 7] hW hA (va_runV (As := [.int (J (p : Int))]) (rest := []) F ((m_X1_requirePot l κ x a a2 σ br p (by omega) hI) _) (cwV 1 hts gX1_crackOf_X1_requirePot rfl rfl rfl (by decide +kernel) ⟨(Nat.le_of_ble_eq_true rfl), (Nat.le_of_ble_eq_true rfl)⟩) (pre_V hK hW [0, 1, 2, 3, 4, 5, 6, 7] rfl (by decide) 1 0 rfl rfl) rfl rfl hl.1 rfl (lv_room (Nat.le_of_ble_eq_true rfl)) dX1_crackOf_2 ⟨(by first | exact Nat.le_of_ble_eq_true rfl | omega | (dsimp only [rm_X1_crackOf, rm_X1_requirePot]; omega)), (by first | exact Nat.le_of_ble_eq_true rfl | omega | (dsimp only [rm_X1_crackOf, rm_X1_requirePot]; omega))⟩) rfl rfl rfl (by decide) rfl (fun _ => rfl) (by first | exact Nat.le_of_ble_eq_true rfl | omega | (dsimp only [rm_X1_crackOf, rm_X1_requirePot]; omega)) (by first | exact Nat.le_of_ble_eq_true rfl | omega | (dsimp only [rm_X1_crackOf, rm_X1_requirePot]; omega)) (fun u H locs hp_1 hW => ?_)
  refine lv_aload_n hx hb dX1_crackOf_5 rfl (lv_at hl 0 rfl) ?_
  refine jv_get (T := TX1) (N := 2) (v := .ref (a 0)) hx hb hts hn1 hown hK hW 0 rfl rfl 0 (by decide) (List.mem_of_getElem? (i := 1) rfl) rfl dX1_crackOf_6 ?_
  refine jv_get (T := TX0) (N := 10) (v := .ref (a 4)) hx hb hts hn0 hown hK hW 1 rfl rfl 3 (by decide) (List.mem_of_getElem? (i := 2) rfl) rfl dX1_crackOf_9 ?_
  refine lv_iload_n hx hb dX1_crackOf_12 rfl (lv_at hl 1 rfl) ?_
  refine jv_iald (g := (σ 2)) hx hb hK hW 5 rfl p rfl (by omega) (by decide) dX1_crackOf_13 ?_
  exact hret () hW dX1_crackOf_14 (by first | exact Nat.le_of_ble_eq_true rfl | omega | (dsimp only [rm_X1_crackOf]; omega)) (by first | exact Nat.le_of_ble_eq_true rfl | omega | (dsimp only [rm_X1_crackOf]; omega)) rfl

abbrev rm_X1_sounds : Room := { frames := 1, cells := 0, slots := 0, locals := 21 }
set_option maxHeartbeats 4000000 in
set_option maxRecDepth 100000 in
/-- sounds -/
theorem m_X1_sounds (l : Launch) (κ : Kp) (x : Nat) (a a2 : Nat → Nat) (σ : Sg) (br : Nat → Int) (p : Nat) (hp : (p : Int) < σ 5 3) (hI : Inv σ) : CGi l yX1_sounds wsX1_sounds rm_X1_sounds κ [.ref x, .int (J (p : Int))] (WX κ x a a2 ++ (WC κ a σ br)) (fun r (_ : Unit) => r = J (bi (sn σ p))) (fun (_ : Unit) => (WX κ x a a2 ++ (WC κ a σ br))) := by
  refine entry_z (by decide) rfl (Nat.le_of_ble_eq_true rfl) ?_
  intro P e s m args below meth c ls A Q F hname hK hA hret hW hl
  obtain ⟨hx, hb, hml, hown, hts⟩ := id F
  have hn1 : ∀ w ∈ wsX10, w ∈ wsX1_sounds := by decide +kernel
  have hN := hI.hN
  have hN10 := hI.n10
  have hnn := hI.1
  have hbp := hI.at p (by omega)
  refine lv_aload_n hx hb dX1_sounds_0 rfl (lv_at hl 0 rfl) ?_
  refine lv_iload_n hx hb dX1_sounds_1 rfl (lv_at hl 1 rfl) ?_
  refine fin_v (k := 0) (n := 0) (W2 := (fun _ => (WX κ x a a2 ++ (WC κ a σ br)))) [0, 1, 2, 3, 4, 5, 6, 7] [] [0, 1, 2, 3, 4, 5, 6, 7] hW hA (va_runV (As := [.int (J (p : Int))]) (rest := []) F ((m_X1_requirePot l κ x a a2 σ br p (by omega) hI) _) (cwV 1 hts gX1_sounds_X1_requirePot rfl rfl rfl (by decide +kernel) ⟨(Nat.le_of_ble_eq_true rfl), (Nat.le_of_ble_eq_true rfl)⟩) (pre_V hK hW [0, 1, 2, 3, 4, 5, 6, 7] rfl (by decide) 1 0 rfl rfl) rfl rfl hl.1 rfl (lv_room (Nat.le_of_ble_eq_true rfl)) dX1_sounds_2 ⟨(by first | exact Nat.le_of_ble_eq_true rfl | omega | (dsimp only [rm_X1_sounds, rm_X1_requirePot]; omega)), (by first | exact Nat.le_of_ble_eq_true rfl | omega | (dsimp only [rm_X1_sounds, rm_X1_requirePot]; omega))⟩) rfl rfl rfl (by decide) rfl (fun _ => rfl) (by first | exact Nat.le_of_ble_eq_true rfl | omega | (dsimp only [rm_X1_sounds, rm_X1_requirePot]; omega)) (by first | exact Nat.le_of_ble_eq_true rfl | omega | (dsimp only [rm_X1_sounds, rm_X1_requirePot]; omega)) (fun u H locs hp_1 hW => ?_)
  refine lv_aload_n hx hb dX1_sounds_5 rfl (lv_at hl 0 rfl) ?_
  refine jv_get (T := TX1) (N := 2) (v := .ref (a 0)) hx hb hts hn1 hown hK hW 0 rfl rfl 0 (by decide) (List.mem_of_getElem? (i := 1) rfl) rfl dX1_sounds_6 ?_
  refine lv_iload_n hx hb dX1_sounds_9 rfl (lv_at hl 1 rfl) ?_
  refine fin_i (k := 0) (n := 0) (W2 := (fun _ => (WX κ x a a2 ++ (WC κ a σ br)))) [1, 2, 3, 4, 5, 6, 7] [0] [0, 1, 2, 3, 4, 5, 6, 7] hW hA (va_runV (As := [.int (J (p : Int))]) (rest := []) F ((m_X0_isSounding l κ a σ br p (by omega) hI) _) (cwV 1 hts gX1_sounds_X0_isSounding rfl rfl rfl (by decide +kernel) ⟨(Nat.le_of_ble_eq_true rfl), (Nat.le_of_ble_eq_true rfl)⟩) (pre_V hK hW [1, 2, 3, 4, 5, 6, 7] rfl (by decide) 0 1 rfl rfl) rfl rfl hl.1 rfl (lv_room (Nat.le_of_ble_eq_true rfl)) dX1_sounds_10 ⟨(by first | exact Nat.le_of_ble_eq_true rfl | omega | (dsimp only [rm_X1_sounds, rm_X0_isSounding]; omega)), (by first | exact Nat.le_of_ble_eq_true rfl | omega | (dsimp only [rm_X1_sounds, rm_X0_isSounding]; omega))⟩) rfl rfl rfl (by decide) rfl (fun _ => rfl) (by first | exact Nat.le_of_ble_eq_true rfl | omega | (dsimp only [rm_X1_sounds, rm_X0_isSounding]; omega)) (by first | exact Nat.le_of_ble_eq_true rfl | omega | (dsimp only [rm_X1_sounds, rm_X0_isSounding]; omega)) (fun r_3 u H locs hp_2 hW => ?_)
  subst hp_2
  exact hret () hW dX1_sounds_13 (by first | exact Nat.le_of_ble_eq_true rfl | omega | (dsimp only [rm_X1_sounds]; omega)) (by first | exact Nat.le_of_ble_eq_true rfl | omega | (dsimp only [rm_X1_sounds]; omega)) (by first | exact zr_01 (Or.inl rfl) | exact zr_01 (Or.inr rfl) | exact zr_b _ | exact zr_01 (by omega)) rfl

abbrev rm_X1_soundingOf : Room := { frames := 2, cells := 0, slots := 0, locals := 44 }
set_option maxHeartbeats 4000000 in
set_option maxRecDepth 100000 in
/-- soundingOf -/
theorem m_X1_soundingOf (l : Launch) (κ : Kp) (x : Nat) (a a2 : Nat → Nat) (σ : Sg) (br : Nat → Int) (z : Nat) (hz : z ≤ 3) (hI : Inv σ) : CGi l yX1_soundingOf wsX1_soundingOf rm_X1_soundingOf κ [.ref x, .int (J (z : Int))] (WX κ x a a2 ++ (WC κ a σ br)) (fun r (_ : Unit) => r = J (fb_ct (snp σ (z : Int)) (nn σ) : Int)) (fun (_ : Unit) => (WX κ x a a2 ++ (WC κ a σ br))) := by
  refine entry_i (by decide) rfl (Nat.le_of_ble_eq_true rfl) ?_
  intro P e s m args below meth c ls A Q F hname hK hA hret hW hl
  obtain ⟨hx, hb, hml, hown, hts⟩ := id F
  have hn1 : ∀ w ∈ wsX10, w ∈ wsX1_soundingOf := by decide +kernel
  have hN := hI.hN
  have hN10 := hI.n10
  have hnn := hI.1
  refine lv_iload_n hx hb dX1_soundingOf_0 rfl (lv_at hl 1 rfl) ?_
  refine jv_if_lt hx hb 9 dX1_soundingOf_1 (by decide) ⟨by omega, by omega⟩ (fun h_1 => by exfalso; omega) (fun h_1 => ?_)
  refine lv_iload_n hx hb dX1_soundingOf_4 rfl (lv_at hl 1 rfl) ?_
  refine jv_iconst hx hb dX1_soundingOf_5 ?_
  refine jv_icmp_lt hx hb 19 dX1_soundingOf_6 (by decide) ⟨by omega, by omega⟩ ⟨by omega, by omega⟩ (fun h_2 => ?_) (fun h_2 => by exfalso; omega)
  refine lv_aload_n hx hb dX1_soundingOf_19 rfl (lv_at hl 0 rfl) ?_
  refine jv_get (T := TX1) (N := 2) (v := .ref (a 0)) hx hb hts hn1 hown hK hW 0 rfl rfl 0 (by decide) (List.mem_of_getElem? (i := 3) rfl) rfl dX1_soundingOf_20 ?_
  refine lv_iload_n hx hb dX1_soundingOf_23 rfl (lv_at hl 1 rfl) ?_
  refine fin_i (k := 0) (n := 0) (W2 := (fun _ => (WX κ x a a2 ++ (WC κ a σ br)))) [1, 2, 3, 4, 5, 6, 7] [0] [0, 1, 2, 3, 4, 5, 6, 7] hW hA (va_runV (As := [.int (J (z : Int))]) (rest := []) F ((m_X0_countSoundingIn l κ a σ br (z : Int) (by omega) hI) _) (cwV 1 hts gX1_soundingOf_X0_countSoundingIn rfl rfl rfl (by decide +kernel) ⟨(Nat.le_of_ble_eq_true rfl), (Nat.le_of_ble_eq_true rfl)⟩) (pre_V hK hW [1, 2, 3, 4, 5, 6, 7] rfl (by decide) 0 1 rfl rfl) rfl rfl hl.1 rfl (lv_room (Nat.le_of_ble_eq_true rfl)) dX1_soundingOf_24 ⟨(by first | exact Nat.le_of_ble_eq_true rfl | omega | (dsimp only [rm_X1_soundingOf, rm_X0_countSoundingIn]; omega)), (by first | exact Nat.le_of_ble_eq_true rfl | omega | (dsimp only [rm_X1_soundingOf, rm_X0_countSoundingIn]; omega))⟩) rfl rfl rfl (by decide) rfl (fun _ => rfl) (by first | exact Nat.le_of_ble_eq_true rfl | omega | (dsimp only [rm_X1_soundingOf, rm_X0_countSoundingIn]; omega)) (by first | exact Nat.le_of_ble_eq_true rfl | omega | (dsimp only [rm_X1_soundingOf, rm_X0_countSoundingIn]; omega)) (fun r_4 u H locs hp_3 hW => ?_)
  subst hp_3
  exact hret () hW dX1_soundingOf_27 (by first | exact Nat.le_of_ble_eq_true rfl | omega | (dsimp only [rm_X1_soundingOf]; omega)) (by first | exact Nat.le_of_ble_eq_true rfl | omega | (dsimp only [rm_X1_soundingOf]; omega)) rfl

abbrev rm_X1_pots : Room := { frames := 0, cells := 0, slots := 0, locals := 0 }
set_option maxHeartbeats 4000000 in
set_option maxRecDepth 100000 in
/-- pots -/
theorem m_X1_pots (l : Launch) (κ : Kp) (x : Nat) (a a2 : Nat → Nat) (σ : Sg) (br : Nat → Int) (hI : Inv σ) : CGi l yX1_pots wsX1_pots rm_X1_pots κ [.ref x] (WX κ x a a2 ++ (WC κ a σ br)) (fun r (_ : Unit) => r = J (σ 5 3)) (fun (_ : Unit) => (WX κ x a a2 ++ (WC κ a σ br))) := by
  refine entry_i (by decide) rfl (Nat.le_of_ble_eq_true rfl) ?_
  intro P e s m args below meth c ls A Q F hname hK hA hret hW hl
  obtain ⟨hx, hb, hml, hown, hts⟩ := id F
  have hn0 : ∀ w ∈ wsX00, w ∈ wsX1_pots := by decide +kernel
  have hn1 : ∀ w ∈ wsX10, w ∈ wsX1_pots := by decide +kernel
  have hN := hI.hN
  have hN10 := hI.n10
  have hnn := hI.1
  refine lv_aload_n hx hb dX1_pots_0 rfl (lv_at hl 0 rfl) ?_
  refine jv_get (T := TX1) (N := 2) (v := .ref (a 0)) hx hb hts hn1 hown hK hW 0 rfl rfl 0 (by decide) (List.mem_of_getElem? (i := 1) rfl) rfl dX1_pots_1 ?_
  refine jv_get (T := TX0) (N := 10) (v := .int (J (σ 5 3))) hx hb hts hn0 hown hK hW 1 rfl rfl 6 (by decide) (List.mem_of_getElem? (i := 2) rfl) rfl dX1_pots_4 ?_
  exact hret () hW dX1_pots_7 (by first | exact Nat.le_of_ble_eq_true rfl | omega | (dsimp only [rm_X1_pots]; omega)) (by first | exact Nat.le_of_ble_eq_true rfl | omega | (dsimp only [rm_X1_pots]; omega)) rfl

abbrev rm_X1_beats : Room := { frames := 0, cells := 0, slots := 0, locals := 0 }
set_option maxHeartbeats 4000000 in
set_option maxRecDepth 100000 in
/-- beats -/
theorem m_X1_beats (l : Launch) (κ : Kp) (x : Nat) (a a2 : Nat → Nat) (σ : Sg) (br : Nat → Int) (hI : Inv σ) : CGi l yX1_beats wsX1_beats rm_X1_beats κ [.ref x] (WX κ x a a2 ++ (WC κ a σ br)) (fun r (_ : Unit) => r = J (σ 5 0)) (fun (_ : Unit) => (WX κ x a a2 ++ (WC κ a σ br))) := by
  refine entry_i (by decide) rfl (Nat.le_of_ble_eq_true rfl) ?_
  intro P e s m args below meth c ls A Q F hname hK hA hret hW hl
  obtain ⟨hx, hb, hml, hown, hts⟩ := id F
  have hn0 : ∀ w ∈ wsX00, w ∈ wsX1_beats := by decide +kernel
  have hn1 : ∀ w ∈ wsX10, w ∈ wsX1_beats := by decide +kernel
  have hN := hI.hN
  have hN10 := hI.n10
  have hnn := hI.1
  refine lv_aload_n hx hb dX1_beats_0 rfl (lv_at hl 0 rfl) ?_
  refine jv_get (T := TX1) (N := 2) (v := .ref (a 0)) hx hb hts hn1 hown hK hW 0 rfl rfl 0 (by decide) (List.mem_of_getElem? (i := 1) rfl) rfl dX1_beats_1 ?_
  refine jv_get (T := TX0) (N := 10) (v := .int (J (σ 5 0))) hx hb hts hn0 hown hK hW 1 rfl rfl 7 (by decide) (List.mem_of_getElem? (i := 2) rfl) rfl dX1_beats_4 ?_
  exact hret () hW dX1_beats_7 (by first | exact Nat.le_of_ble_eq_true rfl | omega | (dsimp only [rm_X1_beats]; omega)) (by first | exact Nat.le_of_ble_eq_true rfl | omega | (dsimp only [rm_X1_beats]; omega)) rfl

abbrev rm_X1_cadences : Room := { frames := 0, cells := 0, slots := 0, locals := 0 }
set_option maxHeartbeats 4000000 in
set_option maxRecDepth 100000 in
/-- cadences -/
theorem m_X1_cadences (l : Launch) (κ : Kp) (x : Nat) (a a2 : Nat → Nat) (σ : Sg) (br : Nat → Int) (hI : Inv σ) : CGi l yX1_cadences wsX1_cadences rm_X1_cadences κ [.ref x] (WX κ x a a2 ++ (WC κ a σ br)) (fun r (_ : Unit) => r = J (σ 5 1)) (fun (_ : Unit) => (WX κ x a a2 ++ (WC κ a σ br))) := by
  refine entry_i (by decide) rfl (Nat.le_of_ble_eq_true rfl) ?_
  intro P e s m args below meth c ls A Q F hname hK hA hret hW hl
  obtain ⟨hx, hb, hml, hown, hts⟩ := id F
  have hn0 : ∀ w ∈ wsX00, w ∈ wsX1_cadences := by decide +kernel
  have hn1 : ∀ w ∈ wsX10, w ∈ wsX1_cadences := by decide +kernel
  have hN := hI.hN
  have hN10 := hI.n10
  have hnn := hI.1
  refine lv_aload_n hx hb dX1_cadences_0 rfl (lv_at hl 0 rfl) ?_
  refine jv_get (T := TX1) (N := 2) (v := .ref (a 0)) hx hb hts hn1 hown hK hW 0 rfl rfl 0 (by decide) (List.mem_of_getElem? (i := 1) rfl) rfl dX1_cadences_1 ?_
  refine jv_get (T := TX0) (N := 10) (v := .int (J (σ 5 1))) hx hb hts hn0 hown hK hW 1 rfl rfl 8 (by decide) (List.mem_of_getElem? (i := 2) rfl) rfl dX1_cadences_4 ?_
  exact hret () hW dX1_cadences_7 (by first | exact Nat.le_of_ble_eq_true rfl | omega | (dsimp only [rm_X1_cadences]; omega)) (by first | exact Nat.le_of_ble_eq_true rfl | omega | (dsimp only [rm_X1_cadences]; omega)) rfl

abbrev rm_X1_sounding : Room := { frames := 2, cells := 0, slots := 0, locals := 43 }
set_option maxHeartbeats 4000000 in
set_option maxRecDepth 100000 in
/-- sounding -/
theorem m_X1_sounding (l : Launch) (κ : Kp) (x : Nat) (a a2 : Nat → Nat) (σ : Sg) (br : Nat → Int) (hI : Inv σ) : CGi l yX1_sounding wsX1_sounding rm_X1_sounding κ [.ref x] (WX κ x a a2 ++ (WC κ a σ br)) (fun r (_ : Unit) => r = J (ns σ : Int)) (fun (_ : Unit) => (WX κ x a a2 ++ (WC κ a σ br))) := by
  refine entry_i (by decide) rfl (Nat.le_of_ble_eq_true rfl) ?_
  intro P e s m args below meth c ls A Q F hname hK hA hret hW hl
  obtain ⟨hx, hb, hml, hown, hts⟩ := id F
  have hn1 : ∀ w ∈ wsX10, w ∈ wsX1_sounding := by decide +kernel
  have hN := hI.hN
  have hN10 := hI.n10
  have hnn := hI.1
  refine lv_aload_n hx hb dX1_sounding_0 rfl (lv_at hl 0 rfl) ?_
  refine jv_get (T := TX1) (N := 2) (v := .ref (a 0)) hx hb hts hn1 hown hK hW 0 rfl rfl 0 (by decide) (List.mem_of_getElem? (i := 1) rfl) rfl dX1_sounding_1 ?_
  refine fin_i (k := 0) (n := 0) (W2 := (fun _ => (WX κ x a a2 ++ (WC κ a σ br)))) [1, 2, 3, 4, 5, 6, 7] [0] [0, 1, 2, 3, 4, 5, 6, 7] hW hA (va_runV (As := []) (rest := []) F ((m_X0_countSounding l κ a σ br  hI) _) (cwV 0 hts gX1_sounding_X0_countSounding rfl rfl rfl (by decide +kernel) ⟨(Nat.le_of_ble_eq_true rfl), (Nat.le_of_ble_eq_true rfl)⟩) (pre_V hK hW [1, 2, 3, 4, 5, 6, 7] rfl (by decide) 0 1 rfl rfl) rfl rfl hl.1 rfl (lv_room (Nat.le_of_ble_eq_true rfl)) dX1_sounding_4 ⟨(by first | exact Nat.le_of_ble_eq_true rfl | omega | (dsimp only [rm_X1_sounding, rm_X0_countSounding]; omega)), (by first | exact Nat.le_of_ble_eq_true rfl | omega | (dsimp only [rm_X1_sounding, rm_X0_countSounding]; omega))⟩) rfl rfl rfl (by decide) rfl (fun _ => rfl) (by first | exact Nat.le_of_ble_eq_true rfl | omega | (dsimp only [rm_X1_sounding, rm_X0_countSounding]; omega)) (by first | exact Nat.le_of_ble_eq_true rfl | omega | (dsimp only [rm_X1_sounding, rm_X0_countSounding]; omega)) (fun r_2 u H locs hp_1 hW => ?_)
  subst hp_1
  exact hret () hW dX1_sounding_7 (by first | exact Nat.le_of_ble_eq_true rfl | omega | (dsimp only [rm_X1_sounding]; omega)) (by first | exact Nat.le_of_ble_eq_true rfl | omega | (dsimp only [rm_X1_sounding]; omega)) rfl

abbrev rm_X1_harmony : Room := { frames := 5, cells := 0, slots := 0, locals := 110 }
set_option maxHeartbeats 4000000 in
set_option maxRecDepth 100000 in
/-- harmony -/
theorem m_X1_harmony (l : Launch) (κ : Kp) (x : Nat) (a a2 : Nat → Nat) (σ : Sg) (br : Nat → Int) (hI : Inv σ) : CGi l yX1_harmony wsX1_harmony rm_X1_harmony κ [.ref x] (WX κ x a a2 ++ (WC κ a σ br)) (fun r (_ : Unit) => r = J (hm σ)) (fun (_ : Unit) => (WX κ x a a2 ++ (WC κ a σ br))) := by
  refine entry_i (by decide) rfl (Nat.le_of_ble_eq_true rfl) ?_
  intro P e s m args below meth c ls A Q F hname hK hA hret hW hl
  obtain ⟨hx, hb, hml, hown, hts⟩ := id F
  have hn1 : ∀ w ∈ wsX10, w ∈ wsX1_harmony := by decide +kernel
  have hN := hI.hN
  have hN10 := hI.n10
  have hnn := hI.1
  refine lv_aload_n hx hb dX1_harmony_0 rfl (lv_at hl 0 rfl) ?_
  refine jv_get (T := TX1) (N := 2) (v := .ref (a 0)) hx hb hts hn1 hown hK hW 0 rfl rfl 0 (by decide) (List.mem_of_getElem? (i := 1) rfl) rfl dX1_harmony_1 ?_
  refine fin_i (k := 0) (n := 0) (W2 := (fun _ => (WX κ x a a2 ++ (WC κ a σ br)))) [1, 2, 3, 4, 5, 6, 7] [0] [0, 1, 2, 3, 4, 5, 6, 7] hW hA (va_runV (As := []) (rest := []) F ((m_X0_harmonyNow l κ a σ br  hI) _) (cwV 0 hts gX1_harmony_X0_harmonyNow rfl rfl rfl (by decide +kernel) ⟨(Nat.le_of_ble_eq_true rfl), (Nat.le_of_ble_eq_true rfl)⟩) (pre_V hK hW [1, 2, 3, 4, 5, 6, 7] rfl (by decide) 0 1 rfl rfl) rfl rfl hl.1 rfl (lv_room (Nat.le_of_ble_eq_true rfl)) dX1_harmony_4 ⟨(by first | exact Nat.le_of_ble_eq_true rfl | omega | (dsimp only [rm_X1_harmony, rm_X0_harmonyNow]; omega)), (by first | exact Nat.le_of_ble_eq_true rfl | omega | (dsimp only [rm_X1_harmony, rm_X0_harmonyNow]; omega))⟩) rfl rfl rfl (by decide) rfl (fun _ => rfl) (by first | exact Nat.le_of_ble_eq_true rfl | omega | (dsimp only [rm_X1_harmony, rm_X0_harmonyNow]; omega)) (by first | exact Nat.le_of_ble_eq_true rfl | omega | (dsimp only [rm_X1_harmony, rm_X0_harmonyNow]; omega)) (fun r_2 u H locs hp_1 hW => ?_)
  subst hp_1
  exact hret () hW dX1_harmony_7 (by first | exact Nat.le_of_ble_eq_true rfl | omega | (dsimp only [rm_X1_harmony]; omega)) (by first | exact Nat.le_of_ble_eq_true rfl | omega | (dsimp only [rm_X1_harmony]; omega)) rfl

abbrev rm_X1_clashes : Room := { frames := 4, cells := 0, slots := 0, locals := 88 }
set_option maxHeartbeats 4000000 in
set_option maxRecDepth 100000 in
/-- clashes -/
theorem m_X1_clashes (l : Launch) (κ : Kp) (x : Nat) (a a2 : Nat → Nat) (σ : Sg) (br : Nat → Int) (hI : Inv σ) : CGi l yX1_clashes wsX1_clashes rm_X1_clashes κ [.ref x] (WX κ x a a2 ++ (WC κ a σ br)) (fun r (_ : Unit) => r = J (ccl σ)) (fun (_ : Unit) => (WX κ x a a2 ++ (WC κ a σ br))) := by
  refine entry_i (by decide) rfl (Nat.le_of_ble_eq_true rfl) ?_
  intro P e s m args below meth c ls A Q F hname hK hA hret hW hl
  obtain ⟨hx, hb, hml, hown, hts⟩ := id F
  have hn1 : ∀ w ∈ wsX10, w ∈ wsX1_clashes := by decide +kernel
  have hN := hI.hN
  have hN10 := hI.n10
  have hnn := hI.1
  refine lv_aload_n hx hb dX1_clashes_0 rfl (lv_at hl 0 rfl) ?_
  refine jv_get (T := TX1) (N := 2) (v := .ref (a 0)) hx hb hts hn1 hown hK hW 0 rfl rfl 0 (by decide) (List.mem_of_getElem? (i := 1) rfl) rfl dX1_clashes_1 ?_
  refine fin_i (k := 0) (n := 0) (W2 := (fun _ => (WX κ x a a2 ++ (WC κ a σ br)))) [1, 2, 3, 4, 5, 6, 7] [0] [0, 1, 2, 3, 4, 5, 6, 7] hW hA (va_runV (As := []) (rest := []) F ((m_X0_countClashes l κ a σ br  hI) _) (cwV 0 hts gX1_clashes_X0_countClashes rfl rfl rfl (by decide +kernel) ⟨(Nat.le_of_ble_eq_true rfl), (Nat.le_of_ble_eq_true rfl)⟩) (pre_V hK hW [1, 2, 3, 4, 5, 6, 7] rfl (by decide) 0 1 rfl rfl) rfl rfl hl.1 rfl (lv_room (Nat.le_of_ble_eq_true rfl)) dX1_clashes_4 ⟨(by first | exact Nat.le_of_ble_eq_true rfl | omega | (dsimp only [rm_X1_clashes, rm_X0_countClashes]; omega)), (by first | exact Nat.le_of_ble_eq_true rfl | omega | (dsimp only [rm_X1_clashes, rm_X0_countClashes]; omega))⟩) rfl rfl rfl (by decide) rfl (fun _ => rfl) (by first | exact Nat.le_of_ble_eq_true rfl | omega | (dsimp only [rm_X1_clashes, rm_X0_countClashes]; omega)) (by first | exact Nat.le_of_ble_eq_true rfl | omega | (dsimp only [rm_X1_clashes, rm_X0_countClashes]; omega)) (fun r_2 u H locs hp_1 hW => ?_)
  subst hp_1
  exact hret () hW dX1_clashes_7 (by first | exact Nat.le_of_ble_eq_true rfl | omega | (dsimp only [rm_X1_clashes]; omega)) (by first | exact Nat.le_of_ble_eq_true rfl | omega | (dsimp only [rm_X1_clashes]; omega)) rfl

abbrev rm_X1_lowest : Room := { frames := 2, cells := 0, slots := 0, locals := 44 }
set_option maxHeartbeats 4000000 in
set_option maxRecDepth 100000 in
/-- lowest -/
theorem m_X1_lowest (l : Launch) (κ : Kp) (x : Nat) (a a2 : Nat → Nat) (σ : Sg) (br : Nat → Int) (hI : Inv σ) : CGi l yX1_lowest wsX1_lowest rm_X1_lowest κ [.ref x] (WX κ x a a2 ++ (WC κ a σ br)) (fun r (_ : Unit) => r = J (fl σ)) (fun (_ : Unit) => (WX κ x a a2 ++ (WC κ a σ br))) := by
  refine entry_i (by decide) rfl (Nat.le_of_ble_eq_true rfl) ?_
  intro P e s m args below meth c ls A Q F hname hK hA hret hW hl
  obtain ⟨hx, hb, hml, hown, hts⟩ := id F
  have hn1 : ∀ w ∈ wsX10, w ∈ wsX1_lowest := by decide +kernel
  have hN := hI.hN
  have hN10 := hI.n10
  have hnn := hI.1
  refine lv_aload_n hx hb dX1_lowest_0 rfl (lv_at hl 0 rfl) ?_
  refine jv_get (T := TX1) (N := 2) (v := .ref (a 0)) hx hb hts hn1 hown hK hW 0 rfl rfl 0 (by decide) (List.mem_of_getElem? (i := 1) rfl) rfl dX1_lowest_1 ?_
  refine fin_i (k := 0) (n := 0) (W2 := (fun _ => (WX κ x a a2 ++ (WC κ a σ br)))) [1, 2, 3, 4, 5, 6, 7] [0] [0, 1, 2, 3, 4, 5, 6, 7] hW hA (va_runV (As := []) (rest := []) F ((m_X0_findLowest l κ a σ br  hI) _) (cwV 0 hts gX1_lowest_X0_findLowest rfl rfl rfl (by decide +kernel) ⟨(Nat.le_of_ble_eq_true rfl), (Nat.le_of_ble_eq_true rfl)⟩) (pre_V hK hW [1, 2, 3, 4, 5, 6, 7] rfl (by decide) 0 1 rfl rfl) rfl rfl hl.1 rfl (lv_room (Nat.le_of_ble_eq_true rfl)) dX1_lowest_4 ⟨(by first | exact Nat.le_of_ble_eq_true rfl | omega | (dsimp only [rm_X1_lowest, rm_X0_findLowest]; omega)), (by first | exact Nat.le_of_ble_eq_true rfl | omega | (dsimp only [rm_X1_lowest, rm_X0_findLowest]; omega))⟩) rfl rfl rfl (by decide) rfl (fun _ => rfl) (by first | exact Nat.le_of_ble_eq_true rfl | omega | (dsimp only [rm_X1_lowest, rm_X0_findLowest]; omega)) (by first | exact Nat.le_of_ble_eq_true rfl | omega | (dsimp only [rm_X1_lowest, rm_X0_findLowest]; omega)) (fun r_2 u H locs hp_1 hW => ?_)
  subst hp_1
  exact hret () hW dX1_lowest_7 (by first | exact Nat.le_of_ble_eq_true rfl | omega | (dsimp only [rm_X1_lowest]; omega)) (by first | exact Nat.le_of_ble_eq_true rfl | omega | (dsimp only [rm_X1_lowest]; omega)) rfl

abbrev rm_X1_isClear : Room := { frames := 5, cells := 0, slots := 0, locals := 108 }
set_option maxHeartbeats 4000000 in
set_option maxRecDepth 100000 in
/-- isClear -/
theorem m_X1_isClear (l : Launch) (κ : Kp) (x : Nat) (a a2 : Nat → Nat) (σ : Sg) (br : Nat → Int) (hI : Inv σ) : CGi l yX1_isClear wsX1_isClear rm_X1_isClear κ [.ref x] (WX κ x a a2 ++ (WC κ a σ br)) (fun r (_ : Unit) => r = J (bi (ic σ))) (fun (_ : Unit) => (WX κ x a a2 ++ (WC κ a σ br))) := by
  refine entry_z (by decide) rfl (Nat.le_of_ble_eq_true rfl) ?_
  intro P e s m args below meth c ls A Q F hname hK hA hret hW hl
  obtain ⟨hx, hb, hml, hown, hts⟩ := id F
  have hn1 : ∀ w ∈ wsX10, w ∈ wsX1_isClear := by decide +kernel
  have hN := hI.hN
  have hN10 := hI.n10
  have hnn := hI.1
  refine lv_aload_n hx hb dX1_isClear_0 rfl (lv_at hl 0 rfl) ?_
  refine jv_get (T := TX1) (N := 2) (v := .ref (a 0)) hx hb hts hn1 hown hK hW 0 rfl rfl 0 (by decide) (List.mem_of_getElem? (i := 1) rfl) rfl dX1_isClear_1 ?_
  refine fin_i (k := 0) (n := 0) (W2 := (fun _ => (WX κ x a a2 ++ (WC κ a σ br)))) [1, 2, 3, 4, 5, 6, 7] [0] [0, 1, 2, 3, 4, 5, 6, 7] hW hA (va_runV (As := []) (rest := []) F ((m_X0_isChordClear l κ a σ br  hI) _) (cwV 0 hts gX1_isClear_X0_isChordClear rfl rfl rfl (by decide +kernel) ⟨(Nat.le_of_ble_eq_true rfl), (Nat.le_of_ble_eq_true rfl)⟩) (pre_V hK hW [1, 2, 3, 4, 5, 6, 7] rfl (by decide) 0 1 rfl rfl) rfl rfl hl.1 rfl (lv_room (Nat.le_of_ble_eq_true rfl)) dX1_isClear_4 ⟨(by first | exact Nat.le_of_ble_eq_true rfl | omega | (dsimp only [rm_X1_isClear, rm_X0_isChordClear]; omega)), (by first | exact Nat.le_of_ble_eq_true rfl | omega | (dsimp only [rm_X1_isClear, rm_X0_isChordClear]; omega))⟩) rfl rfl rfl (by decide) rfl (fun _ => rfl) (by first | exact Nat.le_of_ble_eq_true rfl | omega | (dsimp only [rm_X1_isClear, rm_X0_isChordClear]; omega)) (by first | exact Nat.le_of_ble_eq_true rfl | omega | (dsimp only [rm_X1_isClear, rm_X0_isChordClear]; omega)) (fun r_2 u H locs hp_1 hW => ?_)
  subst hp_1
  exact hret () hW dX1_isClear_7 (by first | exact Nat.le_of_ble_eq_true rfl | omega | (dsimp only [rm_X1_isClear]; omega)) (by first | exact Nat.le_of_ble_eq_true rfl | omega | (dsimp only [rm_X1_isClear]; omega)) (by first | exact zr_01 (Or.inl rfl) | exact zr_01 (Or.inr rfl) | exact zr_b _ | exact zr_01 (by omega)) rfl

abbrev rm_X1_bestToMute : Room := { frames := 4, cells := 0, slots := 0, locals := 90 }
set_option maxHeartbeats 4000000 in
set_option maxRecDepth 100000 in
/-- bestToMute -/
theorem m_X1_bestToMute (l : Launch) (κ : Kp) (x : Nat) (a a2 : Nat → Nat) (σ : Sg) (br : Nat → Int) (hI : Inv σ) : CGi l yX1_bestToMute wsX1_bestToMute rm_X1_bestToMute κ [.ref x] (WX κ x a a2 ++ (WC κ a σ br)) (fun r (_ : Unit) => r = J (fm σ)) (fun (_ : Unit) => (WX κ x a a2 ++ (WC κ a σ br))) := by
  refine entry_i (by decide) rfl (Nat.le_of_ble_eq_true rfl) ?_
  intro P e s m args below meth c ls A Q F hname hK hA hret hW hl
  obtain ⟨hx, hb, hml, hown, hts⟩ := id F
  have hn1 : ∀ w ∈ wsX10, w ∈ wsX1_bestToMute := by decide +kernel
  have hN := hI.hN
  have hN10 := hI.n10
  have hnn := hI.1
  refine lv_aload_n hx hb dX1_bestToMute_0 rfl (lv_at hl 0 rfl) ?_
  refine jv_get (T := TX1) (N := 2) (v := .ref (a 0)) hx hb hts hn1 hown hK hW 0 rfl rfl 0 (by decide) (List.mem_of_getElem? (i := 1) rfl) rfl dX1_bestToMute_1 ?_
  refine fin_i (k := 0) (n := 0) (W2 := (fun _ => (WX κ x a a2 ++ (WC κ a σ br)))) [1, 2, 3, 4, 5, 6, 7] [0] [0, 1, 2, 3, 4, 5, 6, 7] hW hA (va_runV (As := []) (rest := []) F ((m_X0_findMostClashing l κ a σ br  hI) _) (cwV 0 hts gX1_bestToMute_X0_findMostClashing rfl rfl rfl (by decide +kernel) ⟨(Nat.le_of_ble_eq_true rfl), (Nat.le_of_ble_eq_true rfl)⟩) (pre_V hK hW [1, 2, 3, 4, 5, 6, 7] rfl (by decide) 0 1 rfl rfl) rfl rfl hl.1 rfl (lv_room (Nat.le_of_ble_eq_true rfl)) dX1_bestToMute_4 ⟨(by first | exact Nat.le_of_ble_eq_true rfl | omega | (dsimp only [rm_X1_bestToMute, rm_X0_findMostClashing]; omega)), (by first | exact Nat.le_of_ble_eq_true rfl | omega | (dsimp only [rm_X1_bestToMute, rm_X0_findMostClashing]; omega))⟩) rfl rfl rfl (by decide) rfl (fun _ => rfl) (by first | exact Nat.le_of_ble_eq_true rfl | omega | (dsimp only [rm_X1_bestToMute, rm_X0_findMostClashing]; omega)) (by first | exact Nat.le_of_ble_eq_true rfl | omega | (dsimp only [rm_X1_bestToMute, rm_X0_findMostClashing]; omega)) (fun r_2 u H locs hp_1 hW => ?_)
  subst hp_1
  exact hret () hW dX1_bestToMute_7 (by first | exact Nat.le_of_ble_eq_true rfl | omega | (dsimp only [rm_X1_bestToMute]; omega)) (by first | exact Nat.le_of_ble_eq_true rfl | omega | (dsimp only [rm_X1_bestToMute]; omega)) rfl

abbrev rm_X1_meanPitch : Room := { frames := 3, cells := 0, slots := 0, locals := 66 }
set_option maxHeartbeats 4000000 in
set_option maxRecDepth 100000 in
/-- meanPitch -/
theorem m_X1_meanPitch (l : Launch) (κ : Kp) (x : Nat) (a a2 : Nat → Nat) (σ : Sg) (br : Nat → Int) (hI : Inv σ) : CGd l yX1_meanPitch wsX1_meanPitch rm_X1_meanPitch κ [.ref x] (WX κ x a a2 ++ (WC κ a σ br)) (fun r (_ : Unit) => r = mp σ) (fun (_ : Unit) => (WX κ x a a2 ++ (WC κ a σ br))) := by
  refine entry_d (by decide) rfl (Nat.le_of_ble_eq_true rfl) ?_
  intro P e s m args below meth c ls A Q F hname hK hA hret hW hl
  obtain ⟨hx, hb, hml, hown, hts⟩ := id F
  have hn1 : ∀ w ∈ wsX10, w ∈ wsX1_meanPitch := by decide +kernel
  have hN := hI.hN
  have hN10 := hI.n10
  have hnn := hI.1
  refine lv_aload_n hx hb dX1_meanPitch_0 rfl (lv_at hl 0 rfl) ?_
  refine jv_get (T := TX1) (N := 2) (v := .ref (a 0)) hx hb hts hn1 hown hK hW 0 rfl rfl 0 (by decide) (List.mem_of_getElem? (i := 1) rfl) rfl dX1_meanPitch_1 ?_
  refine fin_d (k := 0) (n := 0) (W2 := (fun _ => (WX κ x a a2 ++ (WC κ a σ br)))) [1, 2, 3, 4, 5, 6, 7] [0] [0, 1, 2, 3, 4, 5, 6, 7] hW hA (va_runV (As := []) (rest := []) F ((m_X0_meanOfPitches l κ a σ br  hI) _) (cwV 0 hts gX1_meanPitch_X0_meanOfPitches rfl rfl rfl (by decide +kernel) ⟨(Nat.le_of_ble_eq_true rfl), (Nat.le_of_ble_eq_true rfl)⟩) (pre_V hK hW [1, 2, 3, 4, 5, 6, 7] rfl (by decide) 0 1 rfl rfl) rfl rfl hl.1 rfl (lv_room (Nat.le_of_ble_eq_true rfl)) dX1_meanPitch_4 ⟨(by first | exact Nat.le_of_ble_eq_true rfl | omega | (dsimp only [rm_X1_meanPitch, rm_X0_meanOfPitches]; omega)), (by first | exact Nat.le_of_ble_eq_true rfl | omega | (dsimp only [rm_X1_meanPitch, rm_X0_meanOfPitches]; omega))⟩) rfl rfl rfl (by decide) rfl (fun _ => rfl) (by first | exact Nat.le_of_ble_eq_true rfl | omega | (dsimp only [rm_X1_meanPitch, rm_X0_meanOfPitches]; omega)) (by first | exact Nat.le_of_ble_eq_true rfl | omega | (dsimp only [rm_X1_meanPitch, rm_X0_meanOfPitches]; omega)) (fun r_2 u H locs hp_1 hW => ?_)
  subst hp_1
  exact hret () hW dX1_meanPitch_7 (by first | exact Nat.le_of_ble_eq_true rfl | omega | (dsimp only [rm_X1_meanPitch]; omega)) (by first | exact Nat.le_of_ble_eq_true rfl | omega | (dsimp only [rm_X1_meanPitch]; omega)) rfl

abbrev rm_X1_harshest : Room := { frames := 4, cells := 0, slots := 0, locals := 90 }
set_option maxHeartbeats 4000000 in
set_option maxRecDepth 100000 in
/-- harshest -/
theorem m_X1_harshest (l : Launch) (κ : Kp) (x : Nat) (a a2 : Nat → Nat) (σ : Sg) (br : Nat → Int) (hI : Inv σ) : CGi l yX1_harshest wsX1_harshest rm_X1_harshest κ [.ref x] (WX κ x a a2 ++ (WC κ a σ br)) (fun r (_ : Unit) => r = J (hst σ)) (fun (_ : Unit) => (WX κ x a a2 ++ (WC κ a σ br))) := by
  refine entry_i (by decide) rfl (Nat.le_of_ble_eq_true rfl) ?_
  intro P e s m args below meth c ls A Q F hname hK hA hret hW hl
  obtain ⟨hx, hb, hml, hown, hts⟩ := id F
  have hn1 : ∀ w ∈ wsX10, w ∈ wsX1_harshest := by decide +kernel
  have hN := hI.hN
  have hN10 := hI.n10
  have hnn := hI.1
  have hcr := ccl_rng hN10
  refine lv_aload_n hx hb dX1_harshest_0 rfl (lv_at hl 0 rfl) ?_
  refine jv_get (T := TX1) (N := 2) (v := .ref (a 0)) hx hb hts hn1 hown hK hW 0 rfl rfl 0 (by decide) (List.mem_of_getElem? (i := 1) rfl) rfl dX1_harshest_1 ?_
  refine fin_i (k := 0) (n := 0) (W2 := (fun _ => (WX κ x a a2 ++ (WC κ a σ br)))) [1, 2, 3, 4, 5, 6, 7] [0] [0, 1, 2, 3, 4, 5, 6, 7] hW hA (va_runV (As := []) (rest := []) F ((m_X0_countClashes l κ a σ br  hI) _) (cwV 0 hts gX1_harshest_X0_countClashes rfl rfl rfl (by decide +kernel) ⟨(Nat.le_of_ble_eq_true rfl), (Nat.le_of_ble_eq_true rfl)⟩) (pre_V hK hW [1, 2, 3, 4, 5, 6, 7] rfl (by decide) 0 1 rfl rfl) rfl rfl hl.1 rfl (lv_room (Nat.le_of_ble_eq_true rfl)) dX1_harshest_4 ⟨(by first | exact Nat.le_of_ble_eq_true rfl | omega | (dsimp only [rm_X1_harshest, rm_X0_countClashes]; omega)), (by first | exact Nat.le_of_ble_eq_true rfl | omega | (dsimp only [rm_X1_harshest, rm_X0_countClashes]; omega))⟩) rfl rfl rfl (by decide) rfl (fun _ => rfl) (by first | exact Nat.le_of_ble_eq_true rfl | omega | (dsimp only [rm_X1_harshest, rm_X0_countClashes]; omega)) (by first | exact Nat.le_of_ble_eq_true rfl | omega | (dsimp only [rm_X1_harshest, rm_X0_countClashes]; omega)) (fun r_2 u H locs hp_1 hW => ?_)
  subst hp_1
  refine jv_if_le hx hb 20 dX1_harshest_7 (by decide) ⟨by omega, by omega⟩ (fun h_3 => ?_) (fun h_3 => ?_)
  · skip
    refine jv_iconst hx hb dX1_harshest_20 ?_
    exact hret () hW dX1_harshest_21 (by first | exact Nat.le_of_ble_eq_true rfl | omega | (dsimp only [rm_X1_harshest]; omega)) (by first | exact Nat.le_of_ble_eq_true rfl | omega | (dsimp only [rm_X1_harshest]; omega)) (by unfold hst; rw [if_neg (by omega)])
  · skip
    refine lv_aload_n hx hb dX1_harshest_10 rfl (lv_at hl 0 rfl) ?_
    refine jv_get (T := TX1) (N := 2) (v := .ref (a 0)) hx hb hts hn1 hown hK hW 0 rfl rfl 0 (by decide) (List.mem_of_getElem? (i := 1) rfl) rfl dX1_harshest_11 ?_
    refine fin_i (k := 0) (n := 0) (W2 := (fun _ => (WX κ x a a2 ++ (WC κ a σ br)))) [1, 2, 3, 4, 5, 6, 7] [0] [0, 1, 2, 3, 4, 5, 6, 7] hW hA (va_runV (As := []) (rest := []) F ((m_X0_findMostClashing l κ a σ br  hI) _) (cwV 0 hts gX1_harshest_X0_findMostClashing rfl rfl rfl (by decide +kernel) ⟨(Nat.le_of_ble_eq_true rfl), (Nat.le_of_ble_eq_true rfl)⟩) (pre_V hK hW [1, 2, 3, 4, 5, 6, 7] rfl (by decide) 0 1 rfl rfl) rfl rfl hl.1 rfl (lv_room (Nat.le_of_ble_eq_true rfl)) dX1_harshest_14 ⟨(by first | exact Nat.le_of_ble_eq_true rfl | omega | (dsimp only [rm_X1_harshest, rm_X0_findMostClashing]; omega)), (by first | exact Nat.le_of_ble_eq_true rfl | omega | (dsimp only [rm_X1_harshest, rm_X0_findMostClashing]; omega))⟩) rfl rfl rfl (by decide) rfl (fun _ => rfl) (by first | exact Nat.le_of_ble_eq_true rfl | omega | (dsimp only [rm_X1_harshest, rm_X0_findMostClashing]; omega)) (by first | exact Nat.le_of_ble_eq_true rfl | omega | (dsimp only [rm_X1_harshest, rm_X0_findMostClashing]; omega)) (fun r_5 u H locs hp_4 hW => ?_)
    subst hp_4
    refine lv_goto (tgt := 21) hx hb dX1_harshest_17 (by decide) ?_
    exact hret () hW dX1_harshest_21 (by first | exact Nat.le_of_ble_eq_true rfl | omega | (dsimp only [rm_X1_harshest]; omega)) (by first | exact Nat.le_of_ble_eq_true rfl | omega | (dsimp only [rm_X1_harshest]; omega)) (by unfold hst; rw [if_pos (by omega)])

abbrev rm_X1_clashesOf : Room := { frames := 3, cells := 0, slots := 0, locals := 66 }
set_option maxHeartbeats 4000000 in
set_option maxRecDepth 100000 in
/-- clashesOf -/
theorem m_X1_clashesOf (l : Launch) (κ : Kp) (x : Nat) (a a2 : Nat → Nat) (σ : Sg) (br : Nat → Int) (p : Nat) (hp : (p : Int) < σ 5 3) (hI : Inv σ) : CGi l yX1_clashesOf wsX1_clashesOf rm_X1_clashesOf κ [.ref x, .int (J (p : Int))] (WX κ x a a2 ++ (WC κ a σ br)) (fun r (_ : Unit) => r = J (cof σ p)) (fun (_ : Unit) => (WX κ x a a2 ++ (WC κ a σ br))) := by
  refine entry_i (by decide) rfl (Nat.le_of_ble_eq_true rfl) ?_
  intro P e s m args below meth c ls A Q F hname hK hA hret hW hl
  obtain ⟨hx, hb, hml, hown, hts⟩ := id F
  have hn0 : ∀ w ∈ wsX00, w ∈ wsX1_clashesOf := by decide +kernel
  have hn1 : ∀ w ∈ wsX10, w ∈ wsX1_clashesOf := by decide +kernel
  have hN := hI.hN
  have hN10 := hI.n10
  have hnn := hI.1
  have hbp := hI.at p (by omega)
  refine lv_aload_n hx hb dX1_clashesOf_0 rfl (lv_at hl 0 rfl) ?_
  refine lv_iload_n hx hb dX1_clashesOf_1 rfl (lv_at hl 1 rfl) ?_
  refine fin_v (k := 0) (n := 0) (W2 := (fun _ => (WX κ x a a2 ++ (WC κ a σ br)))) [0, 1, 2, 3, 4, 5, 6, 7] [] [0, 1, 2, 3, 4, 5, 6, 7] hW hA (va_runV (As := [.int (J (p : Int))]) (rest := []) F ((m_X1_requirePot l κ x a a2 σ br p (by omega) hI) _) (cwV 1 hts gX1_clashesOf_X1_requirePot rfl rfl rfl (by decide +kernel) ⟨(Nat.le_of_ble_eq_true rfl), (Nat.le_of_ble_eq_true rfl)⟩) (pre_V hK hW [0, 1, 2, 3, 4, 5, 6, 7] rfl (by decide) 1 0 rfl rfl) rfl rfl hl.1 rfl (lv_room (Nat.le_of_ble_eq_true rfl)) dX1_clashesOf_2 ⟨(by first | exact Nat.le_of_ble_eq_true rfl | omega | (dsimp only [rm_X1_clashesOf, rm_X1_requirePot]; omega)), (by first | exact Nat.le_of_ble_eq_true rfl | omega | (dsimp only [rm_X1_clashesOf, rm_X1_requirePot]; omega))⟩) rfl rfl rfl (by decide) rfl (fun _ => rfl) (by first | exact Nat.le_of_ble_eq_true rfl | omega | (dsimp only [rm_X1_clashesOf, rm_X1_requirePot]; omega)) (by first | exact Nat.le_of_ble_eq_true rfl | omega | (dsimp only [rm_X1_clashesOf, rm_X1_requirePot]; omega)) (fun u H locs hp_1 hW => ?_)
  refine lv_aload_n hx hb dX1_clashesOf_5 rfl (lv_at hl 0 rfl) ?_
  refine jv_get (T := TX1) (N := 2) (v := .ref (a 0)) hx hb hts hn1 hown hK hW 0 rfl rfl 0 (by decide) (List.mem_of_getElem? (i := 1) rfl) rfl dX1_clashesOf_6 ?_
  refine lv_iload_n hx hb dX1_clashesOf_9 rfl (lv_at hl 1 rfl) ?_
  refine fin_i (k := 0) (n := 0) (W2 := (fun _ => (WX κ x a a2 ++ (WC κ a σ br)))) [1, 2, 3, 4, 5, 6, 7] [0] [0, 1, 2, 3, 4, 5, 6, 7] hW hA (va_runV (As := [.int (J (p : Int))]) (rest := []) F ((m_X0_isSounding l κ a σ br p (by omega) hI) _) (cwV 1 hts gX1_clashesOf_X0_isSounding rfl rfl rfl (by decide +kernel) ⟨(Nat.le_of_ble_eq_true rfl), (Nat.le_of_ble_eq_true rfl)⟩) (pre_V hK hW [1, 2, 3, 4, 5, 6, 7] rfl (by decide) 0 1 rfl rfl) rfl rfl hl.1 rfl (lv_room (Nat.le_of_ble_eq_true rfl)) dX1_clashesOf_10 ⟨(by first | exact Nat.le_of_ble_eq_true rfl | omega | (dsimp only [rm_X1_clashesOf, rm_X0_isSounding]; omega)), (by first | exact Nat.le_of_ble_eq_true rfl | omega | (dsimp only [rm_X1_clashesOf, rm_X0_isSounding]; omega))⟩) rfl rfl rfl (by decide) rfl (fun _ => rfl) (by first | exact Nat.le_of_ble_eq_true rfl | omega | (dsimp only [rm_X1_clashesOf, rm_X0_isSounding]; omega)) (by first | exact Nat.le_of_ble_eq_true rfl | omega | (dsimp only [rm_X1_clashesOf, rm_X0_isSounding]; omega)) (fun r_3 u H locs hp_2 hW => ?_)
  subst hp_2
  refine jv_ifb_eq (b := (sn σ p)) hx hb 36 dX1_clashesOf_13 (by decide) (fun h_4 => ?_) (fun h_4 => ?_)
  · skip
    refine jv_iconst hx hb dX1_clashesOf_36 ?_
    exact hret () hW dX1_clashesOf_37 (by first | exact Nat.le_of_ble_eq_true rfl | omega | (dsimp only [rm_X1_clashesOf]; omega)) (by first | exact Nat.le_of_ble_eq_true rfl | omega | (dsimp only [rm_X1_clashesOf]; omega)) (by show _ = J (cof σ p); unfold cof; rw [if_neg (by rw [h_4]; decide)])
  · skip
    refine lv_aload_n hx hb dX1_clashesOf_16 rfl (lv_at hl 0 rfl) ?_
    refine jv_get (T := TX1) (N := 2) (v := .ref (a 0)) hx hb hts hn1 hown hK hW 0 rfl rfl 0 (by decide) (List.mem_of_getElem? (i := 1) rfl) rfl dX1_clashesOf_17 ?_
    refine lv_iload_n hx hb dX1_clashesOf_20 rfl (lv_at hl 1 rfl) ?_
    refine lv_aload_n hx hb dX1_clashesOf_21 rfl (lv_at hl 0 rfl) ?_
    refine jv_get (T := TX1) (N := 2) (v := .ref (a 0)) hx hb hts hn1 hown hK hW 0 rfl rfl 0 (by decide) (List.mem_of_getElem? (i := 1) rfl) rfl dX1_clashesOf_22 ?_
    refine jv_get (T := TX0) (N := 10) (v := .ref (a 2)) hx hb hts hn0 hown hK hW 1 rfl rfl 1 (by decide) (List.mem_of_getElem? (i := 2) rfl) rfl dX1_clashesOf_25 ?_
    refine lv_iload_n hx hb dX1_clashesOf_28 rfl (lv_at hl 1 rfl) ?_
    refine jv_iald (g := (σ 0)) hx hb hK hW 3 rfl p rfl (by omega) (by decide) dX1_clashesOf_29 ?_
    refine fin_i (k := 0) (n := 0) (W2 := (fun _ => (WX κ x a a2 ++ (WC κ a σ br)))) [1, 2, 3, 4, 5, 6, 7] [0] [0, 1, 2, 3, 4, 5, 6, 7] hW hA (va_runV (As := [.int (J (p : Int)), .int (J (σ 0 p))]) (rest := []) F ((m_X0_countClashesAt l κ a σ br p (σ 0 p) (by omega) (by omega) hI) _) (cwV 2 hts gX1_clashesOf_X0_countClashesAt rfl rfl rfl (by decide +kernel) ⟨(Nat.le_of_ble_eq_true rfl), (Nat.le_of_ble_eq_true rfl)⟩) (pre_V hK hW [1, 2, 3, 4, 5, 6, 7] rfl (by decide) 0 1 rfl rfl) rfl rfl hl.1 rfl (lv_room (Nat.le_of_ble_eq_true rfl)) dX1_clashesOf_30 ⟨(by first | exact Nat.le_of_ble_eq_true rfl | omega | (dsimp only [rm_X1_clashesOf, rm_X0_countClashesAt]; omega)), (by first | exact Nat.le_of_ble_eq_true rfl | omega | (dsimp only [rm_X1_clashesOf, rm_X0_countClashesAt]; omega))⟩) rfl rfl rfl (by decide) rfl (fun _ => rfl) (by first | exact Nat.le_of_ble_eq_true rfl | omega | (dsimp only [rm_X1_clashesOf, rm_X0_countClashesAt]; omega)) (by first | exact Nat.le_of_ble_eq_true rfl | omega | (dsimp only [rm_X1_clashesOf, rm_X0_countClashesAt]; omega)) (fun r_6 u H locs hp_5 hW => ?_)
    subst hp_5
    refine lv_goto (tgt := 37) hx hb dX1_clashesOf_33 (by decide) ?_
    exact hret () hW dX1_clashesOf_37 (by first | exact Nat.le_of_ble_eq_true rfl | omega | (dsimp only [rm_X1_clashesOf]; omega)) (by first | exact Nat.le_of_ble_eq_true rfl | omega | (dsimp only [rm_X1_clashesOf]; omega)) (by show _ = J (cof σ p); unfold cof; rw [if_pos h_4])

abbrev rm_X1_bestTuning : Room := { frames := 4, cells := 0, slots := 0, locals := 93 }
set_option maxHeartbeats 4000000 in
set_option maxRecDepth 100000 in
/-- bestTuning -/
theorem m_X1_bestTuning (l : Launch) (κ : Kp) (x : Nat) (a a2 : Nat → Nat) (σ : Sg) (br : Nat → Int) (p : Nat) (hp : (p : Int) < σ 5 3) (hI : Inv σ) : CGi l yX1_bestTuning wsX1_bestTuning rm_X1_bestTuning κ [.ref x, .int (J (p : Int))] (WX κ x a a2 ++ (WC κ a σ br)) (fun r (_ : Unit) => r = J (btu σ p)) (fun (_ : Unit) => (WX κ x a a2 ++ (WC κ a σ br))) := by
  refine entry_i (by decide) rfl (Nat.le_of_ble_eq_true rfl) ?_
  intro P e s m args below meth c ls A Q F hname hK hA hret hW hl
  obtain ⟨hx, hb, hml, hown, hts⟩ := id F
  have hn1 : ∀ w ∈ wsX10, w ∈ wsX1_bestTuning := by decide +kernel
  have hN := hI.hN
  have hN10 := hI.n10
  have hnn := hI.1
  have hbp := hI.at p (by omega)
  refine lv_aload_n hx hb dX1_bestTuning_0 rfl (lv_at hl 0 rfl) ?_
  refine lv_iload_n hx hb dX1_bestTuning_1 rfl (lv_at hl 1 rfl) ?_
  refine fin_v (k := 0) (n := 0) (W2 := (fun _ => (WX κ x a a2 ++ (WC κ a σ br)))) [0, 1, 2, 3, 4, 5, 6, 7] [] [0, 1, 2, 3, 4, 5, 6, 7] hW hA (va_runV (As := [.int (J (p : Int))]) (rest := []) F ((m_X1_requirePot l κ x a a2 σ br p (by omega) hI) _) (cwV 1 hts gX1_bestTuning_X1_requirePot rfl rfl rfl (by decide +kernel) ⟨(Nat.le_of_ble_eq_true rfl), (Nat.le_of_ble_eq_true rfl)⟩) (pre_V hK hW [0, 1, 2, 3, 4, 5, 6, 7] rfl (by decide) 1 0 rfl rfl) rfl rfl hl.1 rfl (lv_room (Nat.le_of_ble_eq_true rfl)) dX1_bestTuning_2 ⟨(by first | exact Nat.le_of_ble_eq_true rfl | omega | (dsimp only [rm_X1_bestTuning, rm_X1_requirePot]; omega)), (by first | exact Nat.le_of_ble_eq_true rfl | omega | (dsimp only [rm_X1_bestTuning, rm_X1_requirePot]; omega))⟩) rfl rfl rfl (by decide) rfl (fun _ => rfl) (by first | exact Nat.le_of_ble_eq_true rfl | omega | (dsimp only [rm_X1_bestTuning, rm_X1_requirePot]; omega)) (by first | exact Nat.le_of_ble_eq_true rfl | omega | (dsimp only [rm_X1_bestTuning, rm_X1_requirePot]; omega)) (fun u H locs hp_1 hW => ?_)
  refine lv_aload_n hx hb dX1_bestTuning_5 rfl (lv_at hl 0 rfl) ?_
  refine jv_get (T := TX1) (N := 2) (v := .ref (a 0)) hx hb hts hn1 hown hK hW 0 rfl rfl 0 (by decide) (List.mem_of_getElem? (i := 1) rfl) rfl dX1_bestTuning_6 ?_
  refine lv_iload_n hx hb dX1_bestTuning_9 rfl (lv_at hl 1 rfl) ?_
  refine fin_i (k := 0) (n := 0) (W2 := (fun _ => (WX κ x a a2 ++ (WC κ a σ br)))) [1, 2, 3, 4, 5, 6, 7] [0] [0, 1, 2, 3, 4, 5, 6, 7] hW hA (va_runV (As := [.int (J (p : Int))]) (rest := []) F ((m_X0_isSounding l κ a σ br p (by omega) hI) _) (cwV 1 hts gX1_bestTuning_X0_isSounding rfl rfl rfl (by decide +kernel) ⟨(Nat.le_of_ble_eq_true rfl), (Nat.le_of_ble_eq_true rfl)⟩) (pre_V hK hW [1, 2, 3, 4, 5, 6, 7] rfl (by decide) 0 1 rfl rfl) rfl rfl hl.1 rfl (lv_room (Nat.le_of_ble_eq_true rfl)) dX1_bestTuning_10 ⟨(by first | exact Nat.le_of_ble_eq_true rfl | omega | (dsimp only [rm_X1_bestTuning, rm_X0_isSounding]; omega)), (by first | exact Nat.le_of_ble_eq_true rfl | omega | (dsimp only [rm_X1_bestTuning, rm_X0_isSounding]; omega))⟩) rfl rfl rfl (by decide) rfl (fun _ => rfl) (by first | exact Nat.le_of_ble_eq_true rfl | omega | (dsimp only [rm_X1_bestTuning, rm_X0_isSounding]; omega)) (by first | exact Nat.le_of_ble_eq_true rfl | omega | (dsimp only [rm_X1_bestTuning, rm_X0_isSounding]; omega)) (fun r_3 u H locs hp_2 hW => ?_)
  subst hp_2
  refine jv_ifb_eq (b := (sn σ p)) hx hb 27 dX1_bestTuning_13 (by decide) (fun h_4 => ?_) (fun h_4 => ?_)
  · skip
    refine jv_iconst hx hb dX1_bestTuning_27 ?_
    exact hret () hW dX1_bestTuning_28 (by first | exact Nat.le_of_ble_eq_true rfl | omega | (dsimp only [rm_X1_bestTuning]; omega)) (by first | exact Nat.le_of_ble_eq_true rfl | omega | (dsimp only [rm_X1_bestTuning]; omega)) (by show _ = J (btu σ p); unfold btu; rw [if_neg (by rw [h_4]; decide)])
  · skip
    refine lv_aload_n hx hb dX1_bestTuning_16 rfl (lv_at hl 0 rfl) ?_
    refine jv_get (T := TX1) (N := 2) (v := .ref (a 0)) hx hb hts hn1 hown hK hW 0 rfl rfl 0 (by decide) (List.mem_of_getElem? (i := 1) rfl) rfl dX1_bestTuning_17 ?_
    refine lv_iload_n hx hb dX1_bestTuning_20 rfl (lv_at hl 1 rfl) ?_
    refine fin_i (k := 0) (n := 0) (W2 := (fun _ => (WX κ x a a2 ++ (WC κ a σ br)))) [1, 2, 3, 4, 5, 6, 7] [0] [0, 1, 2, 3, 4, 5, 6, 7] hW hA (va_runV (As := [.int (J (p : Int))]) (rest := []) F ((m_X0_findBestTuning l κ a σ br p (by omega) hI) _) (cwV 1 hts gX1_bestTuning_X0_findBestTuning rfl rfl rfl (by decide +kernel) ⟨(Nat.le_of_ble_eq_true rfl), (Nat.le_of_ble_eq_true rfl)⟩) (pre_V hK hW [1, 2, 3, 4, 5, 6, 7] rfl (by decide) 0 1 rfl rfl) rfl rfl hl.1 rfl (lv_room (Nat.le_of_ble_eq_true rfl)) dX1_bestTuning_21 ⟨(by first | exact Nat.le_of_ble_eq_true rfl | omega | (dsimp only [rm_X1_bestTuning, rm_X0_findBestTuning]; omega)), (by first | exact Nat.le_of_ble_eq_true rfl | omega | (dsimp only [rm_X1_bestTuning, rm_X0_findBestTuning]; omega))⟩) rfl rfl rfl (by decide) rfl (fun _ => rfl) (by first | exact Nat.le_of_ble_eq_true rfl | omega | (dsimp only [rm_X1_bestTuning, rm_X0_findBestTuning]; omega)) (by first | exact Nat.le_of_ble_eq_true rfl | omega | (dsimp only [rm_X1_bestTuning, rm_X0_findBestTuning]; omega)) (fun r_6 u H locs hp_5 hW => ?_)
    subst hp_5
    refine lv_goto (tgt := 28) hx hb dX1_bestTuning_24 (by decide) ?_
    exact hret () hW dX1_bestTuning_28 (by first | exact Nat.le_of_ble_eq_true rfl | omega | (dsimp only [rm_X1_bestTuning]; omega)) (by first | exact Nat.le_of_ble_eq_true rfl | omega | (dsimp only [rm_X1_bestTuning]; omega)) (by show _ = J (btu σ p); unfold btu; rw [if_pos h_4])

abbrev rm_X1_interval : Room := { frames := 1, cells := 0, slots := 0, locals := 21 }
set_option maxHeartbeats 4000000 in
set_option maxRecDepth 100000 in
/-- interval -/
theorem m_X1_interval (l : Launch) (κ : Kp) (x : Nat) (a a2 : Nat → Nat) (σ : Sg) (br : Nat → Int) (p q : Nat) (hp : (p : Int) < σ 5 3) (hq : (q : Int) < σ 5 3) (hI : Inv σ) : CGi l yX1_interval wsX1_interval rm_X1_interval κ [.ref x, .int (J (p : Int)), .int (J (q : Int))] (WX κ x a a2 ++ (WC κ a σ br)) (fun r (_ : Unit) => r = J (iab (σ 0 p - σ 0 q))) (fun (_ : Unit) => (WX κ x a a2 ++ (WC κ a σ br))) := by
  refine entry_i (by decide) rfl (Nat.le_of_ble_eq_true rfl) ?_
  intro P e s m args below meth c ls A Q F hname hK hA hret hW hl
  obtain ⟨hx, hb, hml, hown, hts⟩ := id F
  have hn0 : ∀ w ∈ wsX00, w ∈ wsX1_interval := by decide +kernel
  have hn1 : ∀ w ∈ wsX10, w ∈ wsX1_interval := by decide +kernel
  have hN := hI.hN
  have hN10 := hI.n10
  have hnn := hI.1
  have hbp := hI.at p (by omega)
  have hbq := hI.at q (by omega)
  refine lv_aload_n hx hb dX1_interval_0 rfl (lv_at hl 0 rfl) ?_
  refine lv_iload_n hx hb dX1_interval_1 rfl (lv_at hl 1 rfl) ?_
  refine fin_v (k := 0) (n := 0) (W2 := (fun _ => (WX κ x a a2 ++ (WC κ a σ br)))) [0, 1, 2, 3, 4, 5, 6, 7] [] [0, 1, 2, 3, 4, 5, 6, 7] hW hA (va_runV (As := [.int (J (p : Int))]) (rest := []) F ((m_X1_requirePot l κ x a a2 σ br p (by omega) hI) _) (cwV 1 hts gX1_interval_X1_requirePot rfl rfl rfl (by decide +kernel) ⟨(Nat.le_of_ble_eq_true rfl), (Nat.le_of_ble_eq_true rfl)⟩) (pre_V hK hW [0, 1, 2, 3, 4, 5, 6, 7] rfl (by decide) 1 0 rfl rfl) rfl rfl hl.1 rfl (lv_room (Nat.le_of_ble_eq_true rfl)) dX1_interval_2 ⟨(by first | exact Nat.le_of_ble_eq_true rfl | omega | (dsimp only [rm_X1_interval, rm_X1_requirePot]; omega)), (by first | exact Nat.le_of_ble_eq_true rfl | omega | (dsimp only [rm_X1_interval, rm_X1_requirePot]; omega))⟩) rfl rfl rfl (by decide) rfl (fun _ => rfl) (by first | exact Nat.le_of_ble_eq_true rfl | omega | (dsimp only [rm_X1_interval, rm_X1_requirePot]; omega)) (by first | exact Nat.le_of_ble_eq_true rfl | omega | (dsimp only [rm_X1_interval, rm_X1_requirePot]; omega)) (fun u H locs hp_1 hW => ?_)
  refine lv_aload_n hx hb dX1_interval_5 rfl (lv_at hl 0 rfl) ?_
  refine lv_iload_n hx hb dX1_interval_6 rfl (lv_at hl 2 rfl) ?_
  refine fin_v (k := 0) (n := 0) (W2 := (fun _ => (WX κ x a a2 ++ (WC κ a σ br)))) [0, 1, 2, 3, 4, 5, 6, 7] [] [0, 1, 2, 3, 4, 5, 6, 7] hW hA (va_runV (As := [.int (J (q : Int))]) (rest := []) F ((m_X1_requirePot l κ x a a2 σ br q (by omega) hI) _) (cwV 1 hts gX1_interval_X1_requirePot rfl rfl rfl (by decide +kernel) ⟨(Nat.le_of_ble_eq_true rfl), (Nat.le_of_ble_eq_true rfl)⟩) (pre_V hK hW [0, 1, 2, 3, 4, 5, 6, 7] rfl (by decide) 1 0 rfl rfl) rfl rfl hl.1 rfl (lv_room (Nat.le_of_ble_eq_true rfl)) dX1_interval_7 ⟨(by first | exact Nat.le_of_ble_eq_true rfl | omega | (dsimp only [rm_X1_interval, rm_X1_requirePot]; omega)), (by first | exact Nat.le_of_ble_eq_true rfl | omega | (dsimp only [rm_X1_interval, rm_X1_requirePot]; omega))⟩) rfl rfl rfl (by decide) rfl (fun _ => rfl) (by first | exact Nat.le_of_ble_eq_true rfl | omega | (dsimp only [rm_X1_interval, rm_X1_requirePot]; omega)) (by first | exact Nat.le_of_ble_eq_true rfl | omega | (dsimp only [rm_X1_interval, rm_X1_requirePot]; omega)) (fun u H locs hp_2 hW => ?_)
  refine lv_aload_n hx hb dX1_interval_10 rfl (lv_at hl 0 rfl) ?_
  refine jv_get (T := TX1) (N := 2) (v := .ref (a 0)) hx hb hts hn1 hown hK hW 0 rfl rfl 0 (by decide) (List.mem_of_getElem? (i := 1) rfl) rfl dX1_interval_11 ?_
  refine jv_get (T := TX0) (N := 10) (v := .ref (a 2)) hx hb hts hn0 hown hK hW 1 rfl rfl 1 (by decide) (List.mem_of_getElem? (i := 2) rfl) rfl dX1_interval_14 ?_
  refine lv_iload_n hx hb dX1_interval_17 rfl (lv_at hl 1 rfl) ?_
  refine jv_iald (g := (σ 0)) hx hb hK hW 3 rfl p rfl (by omega) (by decide) dX1_interval_18 ?_
  refine lv_aload_n hx hb dX1_interval_19 rfl (lv_at hl 0 rfl) ?_
  refine jv_get (T := TX1) (N := 2) (v := .ref (a 0)) hx hb hts hn1 hown hK hW 0 rfl rfl 0 (by decide) (List.mem_of_getElem? (i := 1) rfl) rfl dX1_interval_20 ?_
  refine jv_get (T := TX0) (N := 10) (v := .ref (a 2)) hx hb hts hn0 hown hK hW 1 rfl rfl 1 (by decide) (List.mem_of_getElem? (i := 2) rfl) rfl dX1_interval_23 ?_
  refine lv_iload_n hx hb dX1_interval_26 rfl (lv_at hl 2 rfl) ?_
  refine jv_iald (g := (σ 0)) hx hb hK hW 3 rfl q rfl (by omega) (by decide) dX1_interval_27 ?_
  refine jv_isub hx hb dX1_interval_28 ?_
  refine jv_abs hx hb hown hml hl hts (List.mem_of_getElem? (i := 3) rfl) (List.mem_of_getElem? (i := 4) rfl) (List.mem_of_getElem? (i := 5) rfl) (List.mem_of_getElem? (i := 6) rfl) (Nat.le_of_ble_eq_true rfl) (Nat.le_of_ble_eq_true rfl) (by first | exact Nat.le_of_ble_eq_true rfl | omega) (by first | exact Nat.le_of_ble_eq_true rfl | omega) ⟨by omega, by omega⟩ dX1_interval_29 ?_
  exact hret () hW dX1_interval_32 (by first | exact Nat.le_of_ble_eq_true rfl | omega | (dsimp only [rm_X1_interval]; omega)) (by first | exact Nat.le_of_ble_eq_true rfl | omega | (dsimp only [rm_X1_interval]; omega)) rfl

abbrev rm_X1_areInAccord : Room := { frames := 2, cells := 0, slots := 0, locals := 42 }
set_option maxHeartbeats 4000000 in
set_option maxRecDepth 100000 in
/-- areInAccord -/
theorem m_X1_areInAccord (l : Launch) (κ : Kp) (x : Nat) (a a2 : Nat → Nat) (σ : Sg) (br : Nat → Int) (p q : Nat) (hp : (p : Int) < σ 5 3) (hq : (q : Int) < σ 5 3) (hI : Inv σ) : CGi l yX1_areInAccord wsX1_areInAccord rm_X1_areInAccord κ [.ref x, .int (J (p : Int)), .int (J (q : Int))] (WX κ x a a2 ++ (WC κ a σ br)) (fun r (_ : Unit) => r = J (bi (ac (σ 0 p) (σ 0 q)))) (fun (_ : Unit) => (WX κ x a a2 ++ (WC κ a σ br))) := by
  refine entry_z (by decide) rfl (Nat.le_of_ble_eq_true rfl) ?_
  intro P e s m args below meth c ls A Q F hname hK hA hret hW hl
  obtain ⟨hx, hb, hml, hown, hts⟩ := id F
  have hn0 : ∀ w ∈ wsX00, w ∈ wsX1_areInAccord := by decide +kernel
  have hn1 : ∀ w ∈ wsX10, w ∈ wsX1_areInAccord := by decide +kernel
  have hN := hI.hN
  have hN10 := hI.n10
  have hnn := hI.1
  have hbp := hI.at p (by omega)
  have hbq := hI.at q (by omega)
  refine lv_aload_n hx hb dX1_areInAccord_0 rfl (lv_at hl 0 rfl) ?_
  refine lv_iload_n hx hb dX1_areInAccord_1 rfl (lv_at hl 1 rfl) ?_
  refine fin_v (k := 0) (n := 0) (W2 := (fun _ => (WX κ x a a2 ++ (WC κ a σ br)))) [0, 1, 2, 3, 4, 5, 6, 7] [] [0, 1, 2, 3, 4, 5, 6, 7] hW hA (va_runV (As := [.int (J (p : Int))]) (rest := []) F ((m_X1_requirePot l κ x a a2 σ br p (by omega) hI) _) (cwV 1 hts gX1_areInAccord_X1_requirePot rfl rfl rfl (by decide +kernel) ⟨(Nat.le_of_ble_eq_true rfl), (Nat.le_of_ble_eq_true rfl)⟩) (pre_V hK hW [0, 1, 2, 3, 4, 5, 6, 7] rfl (by decide) 1 0 rfl rfl) rfl rfl hl.1 rfl (lv_room (Nat.le_of_ble_eq_true rfl)) dX1_areInAccord_2 ⟨(by first | exact Nat.le_of_ble_eq_true rfl | omega | (dsimp only [rm_X1_areInAccord, rm_X1_requirePot]; omega)), (by first | exact Nat.le_of_ble_eq_true rfl | omega | (dsimp only [rm_X1_areInAccord, rm_X1_requirePot]; omega))⟩) rfl rfl rfl (by decide) rfl (fun _ => rfl) (by first | exact Nat.le_of_ble_eq_true rfl | omega | (dsimp only [rm_X1_areInAccord, rm_X1_requirePot]; omega)) (by first | exact Nat.le_of_ble_eq_true rfl | omega | (dsimp only [rm_X1_areInAccord, rm_X1_requirePot]; omega)) (fun u H locs hp_1 hW => ?_)
  refine lv_aload_n hx hb dX1_areInAccord_5 rfl (lv_at hl 0 rfl) ?_
  refine lv_iload_n hx hb dX1_areInAccord_6 rfl (lv_at hl 2 rfl) ?_
  refine fin_v (k := 0) (n := 0) (W2 := (fun _ => (WX κ x a a2 ++ (WC κ a σ br)))) [0, 1, 2, 3, 4, 5, 6, 7] [] [0, 1, 2, 3, 4, 5, 6, 7] hW hA (va_runV (As := [.int (J (q : Int))]) (rest := []) F ((m_X1_requirePot l κ x a a2 σ br q (by omega) hI) _) (cwV 1 hts gX1_areInAccord_X1_requirePot rfl rfl rfl (by decide +kernel) ⟨(Nat.le_of_ble_eq_true rfl), (Nat.le_of_ble_eq_true rfl)⟩) (pre_V hK hW [0, 1, 2, 3, 4, 5, 6, 7] rfl (by decide) 1 0 rfl rfl) rfl rfl hl.1 rfl (lv_room (Nat.le_of_ble_eq_true rfl)) dX1_areInAccord_7 ⟨(by first | exact Nat.le_of_ble_eq_true rfl | omega | (dsimp only [rm_X1_areInAccord, rm_X1_requirePot]; omega)), (by first | exact Nat.le_of_ble_eq_true rfl | omega | (dsimp only [rm_X1_areInAccord, rm_X1_requirePot]; omega))⟩) rfl rfl rfl (by decide) rfl (fun _ => rfl) (by first | exact Nat.le_of_ble_eq_true rfl | omega | (dsimp only [rm_X1_areInAccord, rm_X1_requirePot]; omega)) (by first | exact Nat.le_of_ble_eq_true rfl | omega | (dsimp only [rm_X1_areInAccord, rm_X1_requirePot]; omega)) (fun u H locs hp_2 hW => ?_)
  refine lv_aload_n hx hb dX1_areInAccord_10 rfl (lv_at hl 0 rfl) ?_
  refine jv_get (T := TX1) (N := 2) (v := .ref (a 0)) hx hb hts hn1 hown hK hW 0 rfl rfl 0 (by decide) (List.mem_of_getElem? (i := 1) rfl) rfl dX1_areInAccord_11 ?_
  refine jv_get (T := TX0) (N := 10) (v := .ref (a 2)) hx hb hts hn0 hown hK hW 1 rfl rfl 1 (by decide) (List.mem_of_getElem? (i := 2) rfl) rfl dX1_areInAccord_14 ?_
  refine lv_iload_n hx hb dX1_areInAccord_17 rfl (lv_at hl 1 rfl) ?_
  refine jv_iald (g := (σ 0)) hx hb hK hW 3 rfl p rfl (by omega) (by decide) dX1_areInAccord_18 ?_
  refine lv_aload_n hx hb dX1_areInAccord_19 rfl (lv_at hl 0 rfl) ?_
  refine jv_get (T := TX1) (N := 2) (v := .ref (a 0)) hx hb hts hn1 hown hK hW 0 rfl rfl 0 (by decide) (List.mem_of_getElem? (i := 1) rfl) rfl dX1_areInAccord_20 ?_
  refine jv_get (T := TX0) (N := 10) (v := .ref (a 2)) hx hb hts hn0 hown hK hW 1 rfl rfl 1 (by decide) (List.mem_of_getElem? (i := 2) rfl) rfl dX1_areInAccord_23 ?_
  refine lv_iload_n hx hb dX1_areInAccord_26 rfl (lv_at hl 2 rfl) ?_
  refine jv_iald (g := (σ 0)) hx hb hK hW 3 rfl q rfl (by omega) (by decide) dX1_areInAccord_27 ?_
  refine fin_i (k := 0) (n := 0) (W2 := (fun _ => (WX κ x a a2 ++ (WC κ a σ br)))) [] [0, 1, 2, 3, 4, 5, 6, 7] [0, 1, 2, 3, 4, 5, 6, 7] hW hA (va_runS (As := [.int (J (σ 0 p)), .int (J (σ 0 q))]) (rest := []) F ((m_X1_isAccord l κ (σ 0 p) (σ 0 q) (by omega)) _) (va_cwS 2 hts gX1_areInAccord_X1_isAccord rfl rfl rfl (by decide +kernel) ⟨(Nat.le_of_ble_eq_true rfl), (Nat.le_of_ble_eq_true rfl)⟩) (pre_S hK hW [] rfl (by decide)) rfl rfl hl.1 rfl (lv_room (Nat.le_of_ble_eq_true rfl)) dX1_areInAccord_28 ⟨(by first | exact Nat.le_of_ble_eq_true rfl | omega | (dsimp only [rm_X1_areInAccord, rm_X1_isAccord]; omega)), (by first | exact Nat.le_of_ble_eq_true rfl | omega | (dsimp only [rm_X1_areInAccord, rm_X1_isAccord]; omega))⟩) rfl rfl rfl (by decide) rfl (fun _ => rfl) (by first | exact Nat.le_of_ble_eq_true rfl | omega | (dsimp only [rm_X1_areInAccord, rm_X1_isAccord]; omega)) (by first | exact Nat.le_of_ble_eq_true rfl | omega | (dsimp only [rm_X1_areInAccord, rm_X1_isAccord]; omega)) (fun r_4 u H locs hp_3 hW => ?_)
  subst hp_3
  exact hret () hW dX1_areInAccord_31 (by first | exact Nat.le_of_ble_eq_true rfl | omega | (dsimp only [rm_X1_areInAccord]; omega)) (by first | exact Nat.le_of_ble_eq_true rfl | omega | (dsimp only [rm_X1_areInAccord]; omega)) (by first | exact zr_01 (Or.inl rfl) | exact zr_01 (Or.inr rfl) | exact zr_b _ | exact zr_01 (by omega)) rfl

abbrev rm_X1_addPot : Room := { frames := 1, cells := 0, slots := 0, locals := 24 }
set_option maxHeartbeats 4000000 in
set_option maxRecDepth 100000 in
/-- addPot -/
theorem m_X1_addPot (l : Launch) (κ : Kp) (x : Nat) (a a2 : Nat → Nat) (σ : Sg) (br : Nat → Int) (z1 z2 z3 : Int) (hz : (0 ≤ z1 ∧ z1 ≤ 3) ∧ (0 ≤ z2 ∧ z2 ≤ 35) ∧ (0 ≤ z3 ∧ z3 ≤ 20)) (hn : σ 5 3 < 10) (hI : Inv σ) : CGi l yX1_addPot wsX1_addPot rm_X1_addPot κ [.ref x, .int (J z1), .int (J z2), .int (J z3)] (WX κ x a a2 ++ (WC κ a σ br)) (fun r (_ : Unit) => r = J (σ 5 3)) (fun (_ : Unit) => WX κ x a a2 ++ WC κ a (up (up (up (up σ 4 (σ 5 3).toNat z1) 0 (σ 5 3).toNat z2) 1 (σ 5 3).toNat z3) 5 3 (σ 5 3 + 1)) br) := by
  refine entry_i (by decide) rfl (Nat.le_of_ble_eq_true rfl) ?_
  intro P e s m args below meth c ls A Q F hname hK hA hret hW hl
  obtain ⟨hx, hb, hml, hown, hts⟩ := id F
  have hn0 : ∀ w ∈ wsX00, w ∈ wsX1_addPot := by decide +kernel
  have hn1 : ∀ w ∈ wsX10, w ∈ wsX1_addPot := by decide +kernel
  have hN := hI.hN
  have hN10 := hI.n10
  have hnn := hI.1
  refine lv_iload_n hx hb dX1_addPot_0 rfl (lv_at hl 1 rfl) ?_
  refine jv_iconst hx hb dX1_addPot_1 ?_
  refine jv_iconst hx hb dX1_addPot_2 ?_
  refine fin_v (k := 0) (n := 0) (W2 := (fun _ => (WX κ x a a2 ++ (WC κ a σ br)))) [] [0, 1, 2, 3, 4, 5, 6, 7] [0, 1, 2, 3, 4, 5, 6, 7] hW hA (va_runS (As := [.int (J z1), .int (J 0), .int (J 3)]) (rest := []) F ((m_X1_requireWithin l κ z1 0 3 (by omega) (by omega)) _) (va_cwS 3 hts gX1_addPot_X1_requireWithin rfl rfl rfl (by decide +kernel) ⟨(Nat.le_of_ble_eq_true rfl), (Nat.le_of_ble_eq_true rfl)⟩) (pre_S hK hW [] rfl (by decide)) rfl rfl hl.1 rfl (lv_room (Nat.le_of_ble_eq_true rfl)) dX1_addPot_3 ⟨(by first | exact Nat.le_of_ble_eq_true rfl | omega | (dsimp only [rm_X1_addPot, rm_X1_requireWithin]; omega)), (by first | exact Nat.le_of_ble_eq_true rfl | omega | (dsimp only [rm_X1_addPot, rm_X1_requireWithin]; omega))⟩) rfl rfl rfl (by decide) rfl (fun _ => rfl) (by first | exact Nat.le_of_ble_eq_true rfl | omega | (dsimp only [rm_X1_addPot, rm_X1_requireWithin]; omega)) (by first | exact Nat.le_of_ble_eq_true rfl | omega | (dsimp only [rm_X1_addPot, rm_X1_requireWithin]; omega)) (fun u H locs hp_1 hW => ?_)
  refine lv_iload_n hx hb dX1_addPot_6 rfl (lv_at hl 2 rfl) ?_
  refine jv_iconst hx hb dX1_addPot_7 ?_
  refine jv_bipush hx hb 35 dX1_addPot_8 (by decide +kernel) ?_
  refine fin_v (k := 0) (n := 0) (W2 := (fun _ => (WX κ x a a2 ++ (WC κ a σ br)))) [] [0, 1, 2, 3, 4, 5, 6, 7] [0, 1, 2, 3, 4, 5, 6, 7] hW hA (va_runS (As := [.int (J z2), .int (J 0), .int (J 35)]) (rest := []) F ((m_X1_requireWithin l κ z2 0 35 (by omega) (by omega)) _) (va_cwS 3 hts gX1_addPot_X1_requireWithin rfl rfl rfl (by decide +kernel) ⟨(Nat.le_of_ble_eq_true rfl), (Nat.le_of_ble_eq_true rfl)⟩) (pre_S hK hW [] rfl (by decide)) rfl rfl hl.1 rfl (lv_room (Nat.le_of_ble_eq_true rfl)) dX1_addPot_10 ⟨(by first | exact Nat.le_of_ble_eq_true rfl | omega | (dsimp only [rm_X1_addPot, rm_X1_requireWithin]; omega)), (by first | exact Nat.le_of_ble_eq_true rfl | omega | (dsimp only [rm_X1_addPot, rm_X1_requireWithin]; omega))⟩) rfl rfl rfl (by decide) rfl (fun _ => rfl) (by first | exact Nat.le_of_ble_eq_true rfl | omega | (dsimp only [rm_X1_addPot, rm_X1_requireWithin]; omega)) (by first | exact Nat.le_of_ble_eq_true rfl | omega | (dsimp only [rm_X1_addPot, rm_X1_requireWithin]; omega)) (fun u H locs hp_2 hW => ?_)
  refine lv_iload_n hx hb dX1_addPot_13 rfl (lv_at hl 3 rfl) ?_
  refine jv_iconst hx hb dX1_addPot_14 ?_
  refine jv_bipush hx hb 20 dX1_addPot_15 (by decide +kernel) ?_
  refine fin_v (k := 0) (n := 0) (W2 := (fun _ => (WX κ x a a2 ++ (WC κ a σ br)))) [] [0, 1, 2, 3, 4, 5, 6, 7] [0, 1, 2, 3, 4, 5, 6, 7] hW hA (va_runS (As := [.int (J z3), .int (J 0), .int (J 20)]) (rest := []) F ((m_X1_requireWithin l κ z3 0 20 (by omega) (by omega)) _) (va_cwS 3 hts gX1_addPot_X1_requireWithin rfl rfl rfl (by decide +kernel) ⟨(Nat.le_of_ble_eq_true rfl), (Nat.le_of_ble_eq_true rfl)⟩) (pre_S hK hW [] rfl (by decide)) rfl rfl hl.1 rfl (lv_room (Nat.le_of_ble_eq_true rfl)) dX1_addPot_17 ⟨(by first | exact Nat.le_of_ble_eq_true rfl | omega | (dsimp only [rm_X1_addPot, rm_X1_requireWithin]; omega)), (by first | exact Nat.le_of_ble_eq_true rfl | omega | (dsimp only [rm_X1_addPot, rm_X1_requireWithin]; omega))⟩) rfl rfl rfl (by decide) rfl (fun _ => rfl) (by first | exact Nat.le_of_ble_eq_true rfl | omega | (dsimp only [rm_X1_addPot, rm_X1_requireWithin]; omega)) (by first | exact Nat.le_of_ble_eq_true rfl | omega | (dsimp only [rm_X1_addPot, rm_X1_requireWithin]; omega)) (fun u H locs hp_3 hW => ?_)
  refine lv_aload_n hx hb dX1_addPot_20 rfl (lv_at hl 0 rfl) ?_
  refine jv_get (T := TX1) (N := 2) (v := .ref (a 0)) hx hb hts hn1 hown hK hW 0 rfl rfl 0 (by decide) (List.mem_of_getElem? (i := 3) rfl) rfl dX1_addPot_21 ?_
  refine jv_get (T := TX0) (N := 10) (v := .int (J (σ 5 3))) hx hb hts hn0 hown hK hW 1 rfl rfl 6 (by decide) (List.mem_of_getElem? (i := 4) rfl) rfl dX1_addPot_24 ?_
  refine jv_bipush hx hb 10 dX1_addPot_27 (by decide +kernel) ?_
  refine jv_icmp_lt hx hb 42 dX1_addPot_29 (by decide) ⟨by omega, by omega⟩ ⟨by omega, by omega⟩ (fun h_4 => ?_) (fun h_4 => by exfalso; omega)
  refine lv_aload_n hx hb dX1_addPot_42 rfl (lv_at hl 0 rfl) ?_
  refine jv_get (T := TX1) (N := 2) (v := .ref (a 0)) hx hb hts hn1 hown hK hW 0 rfl rfl 0 (by decide) (List.mem_of_getElem? (i := 3) rfl) rfl dX1_addPot_43 ?_
  refine lv_iload_n hx hb dX1_addPot_46 rfl (lv_at hl 1 rfl) ?_
  refine lv_iload_n hx hb dX1_addPot_47 rfl (lv_at hl 2 rfl) ?_
  refine lv_iload_n hx hb dX1_addPot_48 rfl (lv_at hl 3 rfl) ?_
  refine fin_i (k := 0) (n := 0) (W2 := (fun _ => (WX κ x a a2 ++ (WC κ a (up (up (up (up σ 4 (σ 5 3).toNat z1) 0 (σ 5 3).toNat z2) 1 (σ 5 3).toNat z3) 5 3 (σ 5 3 + 1)) br)))) [1, 2, 3, 4, 5, 6, 7] [0] [0, 1, 2, 3, 4, 5, 6, 7] hW hA (va_runV (As := [.int (J z1), .int (J z2), .int (J z3)]) (rest := []) F ((m_X0_admit l κ a σ br z1 z2 z3 (by omega) hI) _) (cwV 3 hts gX1_addPot_X0_admit rfl rfl rfl (by decide +kernel) ⟨(Nat.le_of_ble_eq_true rfl), (Nat.le_of_ble_eq_true rfl)⟩) (pre_V hK hW [1, 2, 3, 4, 5, 6, 7] rfl (by decide) 0 1 rfl rfl) rfl rfl hl.1 rfl (lv_room (Nat.le_of_ble_eq_true rfl)) dX1_addPot_49 ⟨(by first | exact Nat.le_of_ble_eq_true rfl | omega | (dsimp only [rm_X1_addPot, rm_X0_admit]; omega)), (by first | exact Nat.le_of_ble_eq_true rfl | omega | (dsimp only [rm_X1_addPot, rm_X0_admit]; omega))⟩) rfl rfl rfl (by decide) rfl (fun _ => rfl) (by first | exact Nat.le_of_ble_eq_true rfl | omega | (dsimp only [rm_X1_addPot, rm_X0_admit]; omega)) (by first | exact Nat.le_of_ble_eq_true rfl | omega | (dsimp only [rm_X1_addPot, rm_X0_admit]; omega)) (fun r_6 u H locs hp_5 hW => ?_)
  subst hp_5
  exact hret () hW dX1_addPot_52 (by first | exact Nat.le_of_ble_eq_true rfl | omega | (dsimp only [rm_X1_addPot]; omega)) (by first | exact Nat.le_of_ble_eq_true rfl | omega | (dsimp only [rm_X1_addPot]; omega)) rfl

abbrev rm_X1_tune : Room := { frames := 1, cells := 0, slots := 0, locals := 22 }
set_option maxHeartbeats 4000000 in
set_option maxRecDepth 100000 in
/-- tune -/
theorem m_X1_tune (l : Launch) (κ : Kp) (x : Nat) (a a2 : Nat → Nat) (σ : Sg) (br : Nat → Int) (p : Nat) (b : Int) (hp : (p : Int) < σ 5 3) (hb2 : -12 ≤ b ∧ b ≤ 12) (hv : 0 ≤ σ 0 p + b ∧ σ 0 p + b ≤ 35) (hI : Inv σ) : CGi l yX1_tune wsX1_tune rm_X1_tune κ [.ref x, .int (J (p : Int)), .int (J b)] (WX κ x a a2 ++ (WC κ a σ br)) (fun r (_ : Unit) => r = J (σ 0 p + b)) (fun (_ : Unit) => WX κ x a a2 ++ WC κ a (up σ 0 p (σ 0 p + b)) br) := by
  refine entry_i (by decide) rfl (Nat.le_of_ble_eq_true rfl) ?_
  intro P e s m args below meth c ls A Q F hname hK hA hret hW hl
  obtain ⟨hx, hb, hml, hown, hts⟩ := id F
  have hn0 : ∀ w ∈ wsX00, w ∈ wsX1_tune := by decide +kernel
  have hn1 : ∀ w ∈ wsX10, w ∈ wsX1_tune := by decide +kernel
  have hN := hI.hN
  have hN10 := hI.n10
  have hnn := hI.1
  have hbp := hI.at p (by omega)
  refine lv_aload_n hx hb dX1_tune_0 rfl (lv_at hl 0 rfl) ?_
  refine lv_iload_n hx hb dX1_tune_1 rfl (lv_at hl 1 rfl) ?_
  refine fin_v (k := 0) (n := 0) (W2 := (fun _ => (WX κ x a a2 ++ (WC κ a σ br)))) [0, 1, 2, 3, 4, 5, 6, 7] [] [0, 1, 2, 3, 4, 5, 6, 7] hW hA (va_runV (As := [.int (J (p : Int))]) (rest := []) F ((m_X1_requirePot l κ x a a2 σ br p (by omega) hI) _) (cwV 1 hts gX1_tune_X1_requirePot rfl rfl rfl (by decide +kernel) ⟨(Nat.le_of_ble_eq_true rfl), (Nat.le_of_ble_eq_true rfl)⟩) (pre_V hK hW [0, 1, 2, 3, 4, 5, 6, 7] rfl (by decide) 1 0 rfl rfl) rfl rfl hl.1 rfl (lv_room (Nat.le_of_ble_eq_true rfl)) dX1_tune_2 ⟨(by first | exact Nat.le_of_ble_eq_true rfl | omega | (dsimp only [rm_X1_tune, rm_X1_requirePot]; omega)), (by first | exact Nat.le_of_ble_eq_true rfl | omega | (dsimp only [rm_X1_tune, rm_X1_requirePot]; omega))⟩) rfl rfl rfl (by decide) rfl (fun _ => rfl) (by first | exact Nat.le_of_ble_eq_true rfl | omega | (dsimp only [rm_X1_tune, rm_X1_requirePot]; omega)) (by first | exact Nat.le_of_ble_eq_true rfl | omega | (dsimp only [rm_X1_tune, rm_X1_requirePot]; omega)) (fun u H locs hp_1 hW => ?_)
  refine lv_iload_n hx hb dX1_tune_5 rfl (lv_at hl 2 rfl) ?_
  refine jv_bipush hx hb (-12) dX1_tune_6 (by decide +kernel) ?_
  refine jv_bipush hx hb 12 dX1_tune_8 (by decide +kernel) ?_
  refine fin_v (k := 0) (n := 0) (W2 := (fun _ => (WX κ x a a2 ++ (WC κ a σ br)))) [] [0, 1, 2, 3, 4, 5, 6, 7] [0, 1, 2, 3, 4, 5, 6, 7] hW hA (va_runS (As := [.int (J b), .int (J (-12)), .int (J 12)]) (rest := []) F ((m_X1_requireWithin l κ b (-12) 12 (by omega) (by omega)) _) (va_cwS 3 hts gX1_tune_X1_requireWithin rfl rfl rfl (by decide +kernel) ⟨(Nat.le_of_ble_eq_true rfl), (Nat.le_of_ble_eq_true rfl)⟩) (pre_S hK hW [] rfl (by decide)) rfl rfl hl.1 rfl (lv_room (Nat.le_of_ble_eq_true rfl)) dX1_tune_10 ⟨(by first | exact Nat.le_of_ble_eq_true rfl | omega | (dsimp only [rm_X1_tune, rm_X1_requireWithin]; omega)), (by first | exact Nat.le_of_ble_eq_true rfl | omega | (dsimp only [rm_X1_tune, rm_X1_requireWithin]; omega))⟩) rfl rfl rfl (by decide) rfl (fun _ => rfl) (by first | exact Nat.le_of_ble_eq_true rfl | omega | (dsimp only [rm_X1_tune, rm_X1_requireWithin]; omega)) (by first | exact Nat.le_of_ble_eq_true rfl | omega | (dsimp only [rm_X1_tune, rm_X1_requireWithin]; omega)) (fun u H locs hp_2 hW => ?_)
  refine lv_aload_n hx hb dX1_tune_13 rfl (lv_at hl 0 rfl) ?_
  refine jv_get (T := TX1) (N := 2) (v := .ref (a 0)) hx hb hts hn1 hown hK hW 0 rfl rfl 0 (by decide) (List.mem_of_getElem? (i := 1) rfl) rfl dX1_tune_14 ?_
  refine jv_get (T := TX0) (N := 10) (v := .ref (a 2)) hx hb hts hn0 hown hK hW 1 rfl rfl 1 (by decide) (List.mem_of_getElem? (i := 2) rfl) rfl dX1_tune_17 ?_
  refine lv_iload_n hx hb dX1_tune_20 rfl (lv_at hl 1 rfl) ?_
  refine jv_iald (g := (σ 0)) hx hb hK hW 3 rfl p rfl (by omega) (by decide) dX1_tune_21 ?_
  refine lv_iload_n hx hb dX1_tune_22 rfl (lv_at hl 2 rfl) ?_
  refine jv_iadd hx hb dX1_tune_23 ?_
  refine lv_istore_n (lv' := [(3, .int (J ((σ 0 p) + b))), (0, .ref x), (1, .int (J (p : Int))), (2, .int (J b))]) hx hb dX1_tune_24 rfl hl (by decide) rfl (fun ls hl => ?_)
  refine lv_iload_n hx hb dX1_tune_25 rfl (lv_at hl 0 rfl) ?_
  refine jv_iconst hx hb dX1_tune_26 ?_
  refine jv_bipush hx hb 35 dX1_tune_27 (by decide +kernel) ?_
  refine fin_v (k := 0) (n := 0) (W2 := (fun _ => (WX κ x a a2 ++ (WC κ a σ br)))) [] [0, 1, 2, 3, 4, 5, 6, 7] [0, 1, 2, 3, 4, 5, 6, 7] hW hA (va_runS (As := [.int (J ((σ 0 p) + b)), .int (J 0), .int (J 35)]) (rest := []) F ((m_X1_requireWithin l κ ((σ 0 p) + b) 0 35 (by omega) (by omega)) _) (va_cwS 3 hts gX1_tune_X1_requireWithin rfl rfl rfl (by decide +kernel) ⟨(Nat.le_of_ble_eq_true rfl), (Nat.le_of_ble_eq_true rfl)⟩) (pre_S hK hW [] rfl (by decide)) rfl rfl hl.1 rfl (lv_room (Nat.le_of_ble_eq_true rfl)) dX1_tune_29 ⟨(by first | exact Nat.le_of_ble_eq_true rfl | omega | (dsimp only [rm_X1_tune, rm_X1_requireWithin]; omega)), (by first | exact Nat.le_of_ble_eq_true rfl | omega | (dsimp only [rm_X1_tune, rm_X1_requireWithin]; omega))⟩) rfl rfl rfl (by decide) rfl (fun _ => rfl) (by first | exact Nat.le_of_ble_eq_true rfl | omega | (dsimp only [rm_X1_tune, rm_X1_requireWithin]; omega)) (by first | exact Nat.le_of_ble_eq_true rfl | omega | (dsimp only [rm_X1_tune, rm_X1_requireWithin]; omega)) (fun u H locs hp_3 hW => ?_)
  refine lv_aload_n hx hb dX1_tune_32 rfl (lv_at hl 1 rfl) ?_
  refine jv_get (T := TX1) (N := 2) (v := .ref (a 0)) hx hb hts hn1 hown hK hW 0 rfl rfl 0 (by decide) (List.mem_of_getElem? (i := 1) rfl) rfl dX1_tune_33 ?_
  refine jv_get (T := TX0) (N := 10) (v := .ref (a 2)) hx hb hts hn0 hown hK hW 1 rfl rfl 1 (by decide) (List.mem_of_getElem? (i := 2) rfl) rfl dX1_tune_36 ?_
  refine lv_iload_n hx hb dX1_tune_39 rfl (lv_at hl 2 rfl) ?_
  refine lv_iload_n hx hb dX1_tune_40 rfl (lv_at hl 0 rfl) ?_
  refine jv_iast (g := (σ 0)) (ws' := (WX κ x a a2 ++ (WC κ a (up σ 0 p ((σ 0 p) + b)) br))) hx hb hK hW 3 rfl p rfl (by omega) (by decide) rfl dX1_tune_41 (fun H locs hW => ?_)
  refine lv_iload_n hx hb dX1_tune_42 rfl (lv_at hl 0 rfl) ?_
  exact hret () hW dX1_tune_43 (by first | exact Nat.le_of_ble_eq_true rfl | omega | (dsimp only [rm_X1_tune]; omega)) (by first | exact Nat.le_of_ble_eq_true rfl | omega | (dsimp only [rm_X1_tune]; omega)) rfl

abbrev rm_X1_turnCosy : Room := { frames := 1, cells := 0, slots := 0, locals := 21 }
set_option maxHeartbeats 4000000 in
set_option maxRecDepth 100000 in
/-- turnCosy -/
theorem m_X1_turnCosy (l : Launch) (κ : Kp) (x : Nat) (a a2 : Nat → Nat) (σ : Sg) (br : Nat → Int) (p : Nat) (hp : (p : Int) < σ 5 3) (hI : Inv σ) : CGi l yX1_turnCosy wsX1_turnCosy rm_X1_turnCosy κ [.ref x, .int (J (p : Int))] (WX κ x a a2 ++ (WC κ a σ br)) (fun r (_ : Unit) => r = J (1 - σ 3 p)) (fun (_ : Unit) => WX κ x a a2 ++ WC κ a (up σ 3 p (1 - σ 3 p)) br) := by
  refine entry_z (by decide) rfl (Nat.le_of_ble_eq_true rfl) ?_
  intro P e s m args below meth c ls A Q F hname hK hA hret hW hl
  obtain ⟨hx, hb, hml, hown, hts⟩ := id F
  have hn0 : ∀ w ∈ wsX00, w ∈ wsX1_turnCosy := by decide +kernel
  have hn1 : ∀ w ∈ wsX10, w ∈ wsX1_turnCosy := by decide +kernel
  have hN := hI.hN
  have hN10 := hI.n10
  have hnn := hI.1
  have hbp := hI.at p (by omega)
  refine lv_aload_n hx hb dX1_turnCosy_0 rfl (lv_at hl 0 rfl) ?_
  refine lv_iload_n hx hb dX1_turnCosy_1 rfl (lv_at hl 1 rfl) ?_
  refine fin_v (k := 0) (n := 0) (W2 := (fun _ => (WX κ x a a2 ++ (WC κ a σ br)))) [0, 1, 2, 3, 4, 5, 6, 7] [] [0, 1, 2, 3, 4, 5, 6, 7] hW hA (va_runV (As := [.int (J (p : Int))]) (rest := []) F ((m_X1_requirePot l κ x a a2 σ br p (by omega) hI) _) (cwV 1 hts gX1_turnCosy_X1_requirePot rfl rfl rfl (by decide +kernel) ⟨(Nat.le_of_ble_eq_true rfl), (Nat.le_of_ble_eq_true rfl)⟩) (pre_V hK hW [0, 1, 2, 3, 4, 5, 6, 7] rfl (by decide) 1 0 rfl rfl) rfl rfl hl.1 rfl (lv_room (Nat.le_of_ble_eq_true rfl)) dX1_turnCosy_2 ⟨(by first | exact Nat.le_of_ble_eq_true rfl | omega | (dsimp only [rm_X1_turnCosy, rm_X1_requirePot]; omega)), (by first | exact Nat.le_of_ble_eq_true rfl | omega | (dsimp only [rm_X1_turnCosy, rm_X1_requirePot]; omega))⟩) rfl rfl rfl (by decide) rfl (fun _ => rfl) (by first | exact Nat.le_of_ble_eq_true rfl | omega | (dsimp only [rm_X1_turnCosy, rm_X1_requirePot]; omega)) (by first | exact Nat.le_of_ble_eq_true rfl | omega | (dsimp only [rm_X1_turnCosy, rm_X1_requirePot]; omega)) (fun u H locs hp_1 hW => ?_)
  refine lv_aload_n hx hb dX1_turnCosy_5 rfl (lv_at hl 0 rfl) ?_
  refine jv_get (T := TX1) (N := 2) (v := .ref (a 0)) hx hb hts hn1 hown hK hW 0 rfl rfl 0 (by decide) (List.mem_of_getElem? (i := 1) rfl) rfl dX1_turnCosy_6 ?_
  refine jv_get (T := TX0) (N := 10) (v := .ref (a 5)) hx hb hts hn0 hown hK hW 1 rfl rfl 4 (by decide) (List.mem_of_getElem? (i := 2) rfl) rfl dX1_turnCosy_9 ?_
  refine lv_iload_n hx hb dX1_turnCosy_12 rfl (lv_at hl 1 rfl) ?_
  refine lv_aload_n hx hb dX1_turnCosy_13 rfl (lv_at hl 0 rfl) ?_
  refine jv_get (T := TX1) (N := 2) (v := .ref (a 0)) hx hb hts hn1 hown hK hW 0 rfl rfl 0 (by decide) (List.mem_of_getElem? (i := 1) rfl) rfl dX1_turnCosy_14 ?_
  refine jv_get (T := TX0) (N := 10) (v := .ref (a 5)) hx hb hts hn0 hown hK hW 1 rfl rfl 4 (by decide) (List.mem_of_getElem? (i := 2) rfl) rfl dX1_turnCosy_17 ?_
  refine lv_iload_n hx hb dX1_turnCosy_20 rfl (lv_at hl 1 rfl) ?_
  refine jv_zald (g := (σ 3)) hx hb hK hW 6 rfl p rfl (by omega) (by decide) dX1_turnCosy_21 ?_
  have j30 : ∀ (H : Heap) (locs : List Loc) (ls : Array Slot), St κ A s.heap H locs (WX κ x a a2 ++ (WC κ a σ br)) → lv_has ls 2 [(0, .ref x), (1, .int (J (p : Int)))] → W P l e rm_X1_turnCosy s m args below meth c H locs 0 0 Q (F0 m 30 ls [.int (J (1 - σ 3 p)), .int (J (p : Int)), .ref (a 5)]) := by
    intro H locs ls hW hl
    refine jv_zast (g := (σ 3)) (ws' := (WX κ x a a2 ++ (WC κ a (up σ 3 p (1 - σ 3 p)) br))) hx hb hK hW 6 rfl p rfl (by omega) (by decide) (by first | exact Or.inl rfl | exact Or.inr rfl | omega) rfl dX1_turnCosy_30 (fun H locs hW => ?_)
    refine lv_aload_n hx hb dX1_turnCosy_31 rfl (lv_at hl 0 rfl) ?_
    refine jv_get (T := TX1) (N := 2) (v := .ref (a 0)) hx hb hts hn1 hown hK hW 0 rfl rfl 0 (by decide) (List.mem_of_getElem? (i := 1) rfl) rfl dX1_turnCosy_32 ?_
    refine jv_get (T := TX0) (N := 10) (v := .ref (a 5)) hx hb hts hn0 hown hK hW 1 rfl rfl 4 (by decide) (List.mem_of_getElem? (i := 2) rfl) rfl dX1_turnCosy_35 ?_
    refine lv_iload_n hx hb dX1_turnCosy_38 rfl (lv_at hl 1 rfl) ?_
    refine jv_zald (g := (upi (σ 3) p (1 - σ 3 p))) hx hb hK hW 6 rfl p rfl (by omega) (by decide) dX1_turnCosy_39 ?_
    refine jv_eq (upi_s _ _ _) ?_
    exact hret () hW dX1_turnCosy_40 (by first | exact Nat.le_of_ble_eq_true rfl | omega | (dsimp only [rm_X1_turnCosy]; omega)) (by first | exact Nat.le_of_ble_eq_true rfl | omega | (dsimp only [rm_X1_turnCosy]; omega)) (by first | exact zr_01 (Or.inl rfl) | exact zr_01 (Or.inr rfl) | exact zr_b _ | exact zr_01 (by omega)) rfl
  refine jv_if_ne hx hb 29 dX1_turnCosy_22 (by decide) ⟨by omega, by omega⟩ (fun h_2 => ?_) (fun h_2 => ?_)
  · skip
    refine jv_iconst hx hb dX1_turnCosy_29 ?_
    refine jv_eq (y := 1 - σ 3 p) (by omega) ?_
    exact j30 _ _ _ hW hl
  · skip
    refine jv_iconst hx hb dX1_turnCosy_25 ?_
    refine lv_goto (tgt := 30) hx hb dX1_turnCosy_26 (by decide) ?_
    refine jv_eq (y := 1 - σ 3 p) (by omega) ?_
    exact j30 _ _ _ hW hl

abbrev rm_X1_pour : Room := { frames := 1, cells := 0, slots := 0, locals := 22 }
set_option maxHeartbeats 4000000 in
set_option maxRecDepth 100000 in
/-- pour -/
theorem m_X1_pour (l : Launch) (κ : Kp) (x : Nat) (a a2 : Nat → Nat) (σ : Sg) (br : Nat → Int) (p q : Nat) (t : Int) (hp : (p : Int) < σ 5 3) (hq : (q : Int) < σ 5 3) (hpq : p ≠ q) (ht : 1 ≤ t ∧ t ≤ 20) (hI : Inv σ) : CGi l yX1_pour wsX1_pour rm_X1_pour κ [.ref x, .int (J (p : Int)), .int (J (q : Int)), .int (J t)] (WX κ x a a2 ++ (WC κ a σ br)) (fun r (_ : Unit) => r = J (ptea σ p q t)) (fun (_ : Unit) => WX κ x a a2 ++ WC κ a (up (up σ 1 p (σ 1 p - (ptea σ p q t))) 1 q (σ 1 q + (ptea σ p q t))) br) := by
  refine entry_i (by decide) rfl (Nat.le_of_ble_eq_true rfl) ?_
  intro P e s m args below meth c ls A Q F hname hK hA hret hW hl
  obtain ⟨hx, hb, hml, hown, hts⟩ := id F
  have hn0 : ∀ w ∈ wsX00, w ∈ wsX1_pour := by decide +kernel
  have hn1 : ∀ w ∈ wsX10, w ∈ wsX1_pour := by decide +kernel
  have hN := hI.hN
  have hN10 := hI.n10
  have hnn := hI.1
  have hbp := hI.at p (by omega)
  have hbq := hI.at q (by omega)
  refine lv_aload_n hx hb dX1_pour_0 rfl (lv_at hl 0 rfl) ?_
  refine lv_iload_n hx hb dX1_pour_1 rfl (lv_at hl 1 rfl) ?_
  refine fin_v (k := 0) (n := 0) (W2 := (fun _ => (WX κ x a a2 ++ (WC κ a σ br)))) [0, 1, 2, 3, 4, 5, 6, 7] [] [0, 1, 2, 3, 4, 5, 6, 7] hW hA (va_runV (As := [.int (J (p : Int))]) (rest := []) F ((m_X1_requirePot l κ x a a2 σ br p (by omega) hI) _) (cwV 1 hts gX1_pour_X1_requirePot rfl rfl rfl (by decide +kernel) ⟨(Nat.le_of_ble_eq_true rfl), (Nat.le_of_ble_eq_true rfl)⟩) (pre_V hK hW [0, 1, 2, 3, 4, 5, 6, 7] rfl (by decide) 1 0 rfl rfl) rfl rfl hl.1 rfl (lv_room (Nat.le_of_ble_eq_true rfl)) dX1_pour_2 ⟨(by first | exact Nat.le_of_ble_eq_true rfl | omega | (dsimp only [rm_X1_pour, rm_X1_requirePot]; omega)), (by first | exact Nat.le_of_ble_eq_true rfl | omega | (dsimp only [rm_X1_pour, rm_X1_requirePot]; omega))⟩) rfl rfl rfl (by decide) rfl (fun _ => rfl) (by first | exact Nat.le_of_ble_eq_true rfl | omega | (dsimp only [rm_X1_pour, rm_X1_requirePot]; omega)) (by first | exact Nat.le_of_ble_eq_true rfl | omega | (dsimp only [rm_X1_pour, rm_X1_requirePot]; omega)) (fun u H locs hp_1 hW => ?_)
  refine lv_aload_n hx hb dX1_pour_5 rfl (lv_at hl 0 rfl) ?_
  refine lv_iload_n hx hb dX1_pour_6 rfl (lv_at hl 2 rfl) ?_
  refine fin_v (k := 0) (n := 0) (W2 := (fun _ => (WX κ x a a2 ++ (WC κ a σ br)))) [0, 1, 2, 3, 4, 5, 6, 7] [] [0, 1, 2, 3, 4, 5, 6, 7] hW hA (va_runV (As := [.int (J (q : Int))]) (rest := []) F ((m_X1_requirePot l κ x a a2 σ br q (by omega) hI) _) (cwV 1 hts gX1_pour_X1_requirePot rfl rfl rfl (by decide +kernel) ⟨(Nat.le_of_ble_eq_true rfl), (Nat.le_of_ble_eq_true rfl)⟩) (pre_V hK hW [0, 1, 2, 3, 4, 5, 6, 7] rfl (by decide) 1 0 rfl rfl) rfl rfl hl.1 rfl (lv_room (Nat.le_of_ble_eq_true rfl)) dX1_pour_7 ⟨(by first | exact Nat.le_of_ble_eq_true rfl | omega | (dsimp only [rm_X1_pour, rm_X1_requirePot]; omega)), (by first | exact Nat.le_of_ble_eq_true rfl | omega | (dsimp only [rm_X1_pour, rm_X1_requirePot]; omega))⟩) rfl rfl rfl (by decide) rfl (fun _ => rfl) (by first | exact Nat.le_of_ble_eq_true rfl | omega | (dsimp only [rm_X1_pour, rm_X1_requirePot]; omega)) (by first | exact Nat.le_of_ble_eq_true rfl | omega | (dsimp only [rm_X1_pour, rm_X1_requirePot]; omega)) (fun u H locs hp_2 hW => ?_)
  refine lv_iload_n hx hb dX1_pour_10 rfl (lv_at hl 1 rfl) ?_
  refine lv_iload_n hx hb dX1_pour_11 rfl (lv_at hl 2 rfl) ?_
  refine jv_icmp_ne hx hb 25 dX1_pour_12 (by decide) ⟨by omega, by omega⟩ ⟨by omega, by omega⟩ (fun h_3 => ?_) (fun h_3 => by exfalso; omega)
  refine lv_iload_n hx hb dX1_pour_25 rfl (lv_at hl 3 rfl) ?_
  refine jv_iconst hx hb dX1_pour_26 ?_
  refine jv_bipush hx hb 20 dX1_pour_27 (by decide +kernel) ?_
  refine fin_v (k := 0) (n := 0) (W2 := (fun _ => (WX κ x a a2 ++ (WC κ a σ br)))) [] [0, 1, 2, 3, 4, 5, 6, 7] [0, 1, 2, 3, 4, 5, 6, 7] hW hA (va_runS (As := [.int (J t), .int (J 1), .int (J 20)]) (rest := []) F ((m_X1_requireWithin l κ t 1 20 (by omega) (by omega)) _) (va_cwS 3 hts gX1_pour_X1_requireWithin rfl rfl rfl (by decide +kernel) ⟨(Nat.le_of_ble_eq_true rfl), (Nat.le_of_ble_eq_true rfl)⟩) (pre_S hK hW [] rfl (by decide)) rfl rfl hl.1 rfl (lv_room (Nat.le_of_ble_eq_true rfl)) dX1_pour_29 ⟨(by first | exact Nat.le_of_ble_eq_true rfl | omega | (dsimp only [rm_X1_pour, rm_X1_requireWithin]; omega)), (by first | exact Nat.le_of_ble_eq_true rfl | omega | (dsimp only [rm_X1_pour, rm_X1_requireWithin]; omega))⟩) rfl rfl rfl (by decide) rfl (fun _ => rfl) (by first | exact Nat.le_of_ble_eq_true rfl | omega | (dsimp only [rm_X1_pour, rm_X1_requireWithin]; omega)) (by first | exact Nat.le_of_ble_eq_true rfl | omega | (dsimp only [rm_X1_pour, rm_X1_requireWithin]; omega)) (fun u H locs hp_4 hW => ?_)
  refine lv_iload_n hx hb dX1_pour_32 rfl (lv_at hl 3 rfl) ?_
  refine lv_aload_n hx hb dX1_pour_33 rfl (lv_at hl 0 rfl) ?_
  refine jv_get (T := TX1) (N := 2) (v := .ref (a 0)) hx hb hts hn1 hown hK hW 0 rfl rfl 0 (by decide) (List.mem_of_getElem? (i := 3) rfl) rfl dX1_pour_34 ?_
  refine jv_get (T := TX0) (N := 10) (v := .ref (a 3)) hx hb hts hn0 hown hK hW 1 rfl rfl 2 (by decide) (List.mem_of_getElem? (i := 4) rfl) rfl dX1_pour_37 ?_
  refine lv_iload_n hx hb dX1_pour_40 rfl (lv_at hl 1 rfl) ?_
  refine jv_iald (g := (σ 1)) hx hb hK hW 4 rfl p rfl (by omega) (by decide) dX1_pour_41 ?_
  refine jv_bipush hx hb 20 dX1_pour_42 (by decide +kernel) ?_
  refine lv_aload_n hx hb dX1_pour_44 rfl (lv_at hl 0 rfl) ?_
  refine jv_get (T := TX1) (N := 2) (v := .ref (a 0)) hx hb hts hn1 hown hK hW 0 rfl rfl 0 (by decide) (List.mem_of_getElem? (i := 3) rfl) rfl dX1_pour_45 ?_
  refine jv_get (T := TX0) (N := 10) (v := .ref (a 3)) hx hb hts hn0 hown hK hW 1 rfl rfl 2 (by decide) (List.mem_of_getElem? (i := 4) rfl) rfl dX1_pour_48 ?_
  refine lv_iload_n hx hb dX1_pour_51 rfl (lv_at hl 2 rfl) ?_
  refine jv_iald (g := (σ 1)) hx hb hK hW 4 rfl q rfl (by omega) (by decide) dX1_pour_52 ?_
  refine jv_isub hx hb dX1_pour_53 ?_
  refine jv_min hx hb hown hml hl hts (List.mem_of_getElem? (i := 5) rfl) (List.mem_of_getElem? (i := 6) rfl) (List.mem_of_getElem? (i := 7) rfl) (List.mem_of_getElem? (i := 8) rfl) (Nat.le_of_ble_eq_true rfl) (Nat.le_of_ble_eq_true rfl) (by first | exact Nat.le_of_ble_eq_true rfl | omega) (by first | exact Nat.le_of_ble_eq_true rfl | omega) ⟨by omega, by omega⟩ ⟨by omega, by omega⟩ dX1_pour_54 ?_
  refine jv_min hx hb hown hml hl hts (List.mem_of_getElem? (i := 5) rfl) (List.mem_of_getElem? (i := 6) rfl) (List.mem_of_getElem? (i := 7) rfl) (List.mem_of_getElem? (i := 8) rfl) (Nat.le_of_ble_eq_true rfl) (Nat.le_of_ble_eq_true rfl) (by first | exact Nat.le_of_ble_eq_true rfl | omega) (by first | exact Nat.le_of_ble_eq_true rfl | omega) ⟨by omega, by omega⟩ ⟨by omega, by omega⟩ dX1_pour_57 ?_
  refine lv_istore (lv' := [(4, .int (J (min t (min (σ 1 p) (20 - (σ 1 q)))))), (0, .ref x), (1, .int (J (p : Int))), (2, .int (J (q : Int))), (3, .int (J t))]) hx hb dX1_pour_60 hl (by decide) rfl (fun ls hl => ?_)
  refine lv_aload_n hx hb dX1_pour_62 rfl (lv_at hl 1 rfl) ?_
  refine jv_get (T := TX1) (N := 2) (v := .ref (a 0)) hx hb hts hn1 hown hK hW 0 rfl rfl 0 (by decide) (List.mem_of_getElem? (i := 3) rfl) rfl dX1_pour_63 ?_
  refine jv_get (T := TX0) (N := 10) (v := .ref (a 3)) hx hb hts hn0 hown hK hW 1 rfl rfl 2 (by decide) (List.mem_of_getElem? (i := 4) rfl) rfl dX1_pour_66 ?_
  refine lv_iload_n hx hb dX1_pour_69 rfl (lv_at hl 2 rfl) ?_
  refine lv_dup2_11 hx hb dX1_pour_70 rfl rfl ?_
  refine jv_iald (g := (σ 1)) hx hb hK hW 4 rfl p rfl (by omega) (by decide) dX1_pour_71 ?_
  refine lv_iload hx hb dX1_pour_72 (lv_at hl 0 rfl) ?_
  refine jv_isub hx hb dX1_pour_74 ?_
  refine jv_iast (g := (σ 1)) (ws' := (WX κ x a a2 ++ (WC κ a (up σ 1 p ((σ 1 p) - (min t (min (σ 1 p) (20 - (σ 1 q)))))) br))) hx hb hK hW 4 rfl p rfl (by omega) (by decide) rfl dX1_pour_75 (fun H locs hW => ?_)
  refine lv_aload_n hx hb dX1_pour_76 rfl (lv_at hl 1 rfl) ?_
  refine jv_get (T := TX1) (N := 2) (v := .ref (a 0)) hx hb hts hn1 hown hK hW 0 rfl rfl 0 (by decide) (List.mem_of_getElem? (i := 3) rfl) rfl dX1_pour_77 ?_
  refine jv_get (T := TX0) (N := 10) (v := .ref (a 3)) hx hb hts hn0 hown hK hW 1 rfl rfl 2 (by decide) (List.mem_of_getElem? (i := 4) rfl) rfl dX1_pour_80 ?_
  refine lv_iload_n hx hb dX1_pour_83 rfl (lv_at hl 3 rfl) ?_
  refine lv_dup2_11 hx hb dX1_pour_84 rfl rfl ?_
  refine jv_iald (g := (upi (σ 1) p ((σ 1 p) - (min t (min (σ 1 p) (20 - (σ 1 q))))))) hx hb hK hW 4 rfl q rfl (by omega) (by decide) dX1_pour_85 ?_
  refine jv_eq (y := σ 1 q) (upi_n _ _ (by omega)) ?_
  refine lv_iload hx hb dX1_pour_86 (lv_at hl 0 rfl) ?_
  refine jv_iadd hx hb dX1_pour_88 ?_
  refine jv_iast (g := (upi (σ 1) p ((σ 1 p) - (min t (min (σ 1 p) (20 - (σ 1 q))))))) (ws' := (WX κ x a a2 ++ (WC κ a (up (up σ 1 p ((σ 1 p) - (min t (min (σ 1 p) (20 - (σ 1 q)))))) 1 q ((σ 1 q) + (min t (min (σ 1 p) (20 - (σ 1 q)))))) br))) hx hb hK hW 4 rfl q rfl (by omega) (by decide) rfl dX1_pour_89 (fun H locs hW => ?_)
  refine lv_iload hx hb dX1_pour_90 (lv_at hl 0 rfl) ?_
  exact hret () hW dX1_pour_92 (by first | exact Nat.le_of_ble_eq_true rfl | omega | (dsimp only [rm_X1_pour]; omega)) (by first | exact Nat.le_of_ble_eq_true rfl | omega | (dsimp only [rm_X1_pour]; omega)) rfl

abbrev rm_X1_fill : Room := { frames := 1, cells := 0, slots := 0, locals := 21 }
set_option maxHeartbeats 4000000 in
set_option maxRecDepth 100000 in
/-- fill -/
theorem m_X1_fill (l : Launch) (κ : Kp) (x : Nat) (a a2 : Nat → Nat) (σ : Sg) (br : Nat → Int) (p : Nat) (hp : (p : Int) < σ 5 3) (hI : Inv σ) : CGi l yX1_fill wsX1_fill rm_X1_fill κ [.ref x, .int (J (p : Int))] (WX κ x a a2 ++ (WC κ a σ br)) (fun r (_ : Unit) => r = J (20 - σ 1 p)) (fun (_ : Unit) => WX κ x a a2 ++ WC κ a (up σ 1 p 20) br) := by
  refine entry_i (by decide) rfl (Nat.le_of_ble_eq_true rfl) ?_
  intro P e s m args below meth c ls A Q F hname hK hA hret hW hl
  obtain ⟨hx, hb, hml, hown, hts⟩ := id F
  have hn0 : ∀ w ∈ wsX00, w ∈ wsX1_fill := by decide +kernel
  have hn1 : ∀ w ∈ wsX10, w ∈ wsX1_fill := by decide +kernel
  have hN := hI.hN
  have hN10 := hI.n10
  have hnn := hI.1
  have hbp := hI.at p (by omega)
  refine lv_aload_n hx hb dX1_fill_0 rfl (lv_at hl 0 rfl) ?_
  refine lv_iload_n hx hb dX1_fill_1 rfl (lv_at hl 1 rfl) ?_
  refine fin_v (k := 0) (n := 0) (W2 := (fun _ => (WX κ x a a2 ++ (WC κ a σ br)))) [0, 1, 2, 3, 4, 5, 6, 7] [] [0, 1, 2, 3, 4, 5, 6, 7] hW hA (va_runV (As := [.int (J (p : Int))]) (rest := []) F ((m_X1_requirePot l κ x a a2 σ br p (by omega) hI) _) (cwV 1 hts gX1_fill_X1_requirePot rfl rfl rfl (by decide +kernel) ⟨(Nat.le_of_ble_eq_true rfl), (Nat.le_of_ble_eq_true rfl)⟩) (pre_V hK hW [0, 1, 2, 3, 4, 5, 6, 7] rfl (by decide) 1 0 rfl rfl) rfl rfl hl.1 rfl (lv_room (Nat.le_of_ble_eq_true rfl)) dX1_fill_2 ⟨(by first | exact Nat.le_of_ble_eq_true rfl | omega | (dsimp only [rm_X1_fill, rm_X1_requirePot]; omega)), (by first | exact Nat.le_of_ble_eq_true rfl | omega | (dsimp only [rm_X1_fill, rm_X1_requirePot]; omega))⟩) rfl rfl rfl (by decide) rfl (fun _ => rfl) (by first | exact Nat.le_of_ble_eq_true rfl | omega | (dsimp only [rm_X1_fill, rm_X1_requirePot]; omega)) (by first | exact Nat.le_of_ble_eq_true rfl | omega | (dsimp only [rm_X1_fill, rm_X1_requirePot]; omega)) (fun u H locs hp_1 hW => ?_)
  refine jv_bipush hx hb 20 dX1_fill_5 (by decide +kernel) ?_
  refine lv_aload_n hx hb dX1_fill_7 rfl (lv_at hl 0 rfl) ?_
  refine jv_get (T := TX1) (N := 2) (v := .ref (a 0)) hx hb hts hn1 hown hK hW 0 rfl rfl 0 (by decide) (List.mem_of_getElem? (i := 1) rfl) rfl dX1_fill_8 ?_
  refine jv_get (T := TX0) (N := 10) (v := .ref (a 3)) hx hb hts hn0 hown hK hW 1 rfl rfl 2 (by decide) (List.mem_of_getElem? (i := 2) rfl) rfl dX1_fill_11 ?_
  refine lv_iload_n hx hb dX1_fill_14 rfl (lv_at hl 1 rfl) ?_
  refine jv_iald (g := (σ 1)) hx hb hK hW 4 rfl p rfl (by omega) (by decide) dX1_fill_15 ?_
  refine jv_isub hx hb dX1_fill_16 ?_
  refine lv_istore_n (lv' := [(2, .int (J (20 - (σ 1 p)))), (0, .ref x), (1, .int (J (p : Int)))]) hx hb dX1_fill_17 rfl hl (by decide) rfl (fun ls hl => ?_)
  refine lv_aload_n hx hb dX1_fill_18 rfl (lv_at hl 1 rfl) ?_
  refine jv_get (T := TX1) (N := 2) (v := .ref (a 0)) hx hb hts hn1 hown hK hW 0 rfl rfl 0 (by decide) (List.mem_of_getElem? (i := 1) rfl) rfl dX1_fill_19 ?_
  refine jv_get (T := TX0) (N := 10) (v := .ref (a 3)) hx hb hts hn0 hown hK hW 1 rfl rfl 2 (by decide) (List.mem_of_getElem? (i := 2) rfl) rfl dX1_fill_22 ?_
  refine lv_iload_n hx hb dX1_fill_25 rfl (lv_at hl 2 rfl) ?_
  refine jv_bipush hx hb 20 dX1_fill_26 (by decide +kernel) ?_
  refine jv_iast (g := (σ 1)) (ws' := (WX κ x a a2 ++ (WC κ a (up σ 1 p 20) br))) hx hb hK hW 4 rfl p rfl (by omega) (by decide) rfl dX1_fill_28 (fun H locs hW => ?_)
  refine lv_iload_n hx hb dX1_fill_29 rfl (lv_at hl 0 rfl) ?_
  exact hret () hW dX1_fill_30 (by first | exact Nat.le_of_ble_eq_true rfl | omega | (dsimp only [rm_X1_fill]; omega)) (by first | exact Nat.le_of_ble_eq_true rfl | omega | (dsimp only [rm_X1_fill]; omega)) rfl

abbrev rm_X1_mend : Room := { frames := 1, cells := 0, slots := 0, locals := 21 }
set_option maxHeartbeats 4000000 in
set_option maxRecDepth 100000 in
/-- mend -/
theorem m_X1_mend (l : Launch) (κ : Kp) (x : Nat) (a a2 : Nat → Nat) (σ : Sg) (br : Nat → Int) (p : Nat) (hp : (p : Int) < σ 5 3) (hI : Inv σ) : CGi l yX1_mend wsX1_mend rm_X1_mend κ [.ref x, .int (J (p : Int))] (WX κ x a a2 ++ (WC κ a σ br)) (fun r (_ : Unit) => r = J (σ 2 p)) (fun (_ : Unit) => WX κ x a a2 ++ WC κ a (up (up σ 2 p 0) 1 p 0) br) := by
  refine entry_i (by decide) rfl (Nat.le_of_ble_eq_true rfl) ?_
  intro P e s m args below meth c ls A Q F hname hK hA hret hW hl
  obtain ⟨hx, hb, hml, hown, hts⟩ := id F
  have hn0 : ∀ w ∈ wsX00, w ∈ wsX1_mend := by decide +kernel
  have hn1 : ∀ w ∈ wsX10, w ∈ wsX1_mend := by decide +kernel
  have hN := hI.hN
  have hN10 := hI.n10
  have hnn := hI.1
  have hbp := hI.at p (by omega)
  refine lv_aload_n hx hb dX1_mend_0 rfl (lv_at hl 0 rfl) ?_
  refine lv_iload_n hx hb dX1_mend_1 rfl (lv_at hl 1 rfl) ?_
  refine fin_v (k := 0) (n := 0) (W2 := (fun _ => (WX κ x a a2 ++ (WC κ a σ br)))) [0, 1, 2, 3, 4, 5, 6, 7] [] [0, 1, 2, 3, 4, 5, 6, 7] hW hA (va_runV (As := [.int (J (p : Int))]) (rest := []) F ((m_X1_requirePot l κ x a a2 σ br p (by omega) hI) _) (cwV 1 hts gX1_mend_X1_requirePot rfl rfl rfl (by decide +kernel) ⟨(Nat.le_of_ble_eq_true rfl), (Nat.le_of_ble_eq_true rfl)⟩) (pre_V hK hW [0, 1, 2, 3, 4, 5, 6, 7] rfl (by decide) 1 0 rfl rfl) rfl rfl hl.1 rfl (lv_room (Nat.le_of_ble_eq_true rfl)) dX1_mend_2 ⟨(by first | exact Nat.le_of_ble_eq_true rfl | omega | (dsimp only [rm_X1_mend, rm_X1_requirePot]; omega)), (by first | exact Nat.le_of_ble_eq_true rfl | omega | (dsimp only [rm_X1_mend, rm_X1_requirePot]; omega))⟩) rfl rfl rfl (by decide) rfl (fun _ => rfl) (by first | exact Nat.le_of_ble_eq_true rfl | omega | (dsimp only [rm_X1_mend, rm_X1_requirePot]; omega)) (by first | exact Nat.le_of_ble_eq_true rfl | omega | (dsimp only [rm_X1_mend, rm_X1_requirePot]; omega)) (fun u H locs hp_1 hW => ?_)
  refine lv_aload_n hx hb dX1_mend_5 rfl (lv_at hl 0 rfl) ?_
  refine jv_get (T := TX1) (N := 2) (v := .ref (a 0)) hx hb hts hn1 hown hK hW 0 rfl rfl 0 (by decide) (List.mem_of_getElem? (i := 1) rfl) rfl dX1_mend_6 ?_
  refine jv_get (T := TX0) (N := 10) (v := .ref (a 4)) hx hb hts hn0 hown hK hW 1 rfl rfl 3 (by decide) (List.mem_of_getElem? (i := 2) rfl) rfl dX1_mend_9 ?_
  refine lv_iload_n hx hb dX1_mend_12 rfl (lv_at hl 1 rfl) ?_
  refine jv_iald (g := (σ 2)) hx hb hK hW 5 rfl p rfl (by omega) (by decide) dX1_mend_13 ?_
  refine lv_istore_n (lv' := [(2, .int (J (σ 2 p))), (0, .ref x), (1, .int (J (p : Int)))]) hx hb dX1_mend_14 rfl hl (by decide) rfl (fun ls hl => ?_)
  refine lv_aload_n hx hb dX1_mend_15 rfl (lv_at hl 1 rfl) ?_
  refine jv_get (T := TX1) (N := 2) (v := .ref (a 0)) hx hb hts hn1 hown hK hW 0 rfl rfl 0 (by decide) (List.mem_of_getElem? (i := 1) rfl) rfl dX1_mend_16 ?_
  refine jv_get (T := TX0) (N := 10) (v := .ref (a 4)) hx hb hts hn0 hown hK hW 1 rfl rfl 3 (by decide) (List.mem_of_getElem? (i := 2) rfl) rfl dX1_mend_19 ?_
  refine lv_iload_n hx hb dX1_mend_22 rfl (lv_at hl 2 rfl) ?_
  refine jv_iconst hx hb dX1_mend_23 ?_
  refine jv_iast (g := (σ 2)) (ws' := (WX κ x a a2 ++ (WC κ a (up σ 2 p 0) br))) hx hb hK hW 5 rfl p rfl (by omega) (by decide) rfl dX1_mend_24 (fun H locs hW => ?_)
  refine lv_aload_n hx hb dX1_mend_25 rfl (lv_at hl 1 rfl) ?_
  refine jv_get (T := TX1) (N := 2) (v := .ref (a 0)) hx hb hts hn1 hown hK hW 0 rfl rfl 0 (by decide) (List.mem_of_getElem? (i := 1) rfl) rfl dX1_mend_26 ?_
  refine jv_get (T := TX0) (N := 10) (v := .ref (a 3)) hx hb hts hn0 hown hK hW 1 rfl rfl 2 (by decide) (List.mem_of_getElem? (i := 3) rfl) rfl dX1_mend_29 ?_
  refine lv_iload_n hx hb dX1_mend_32 rfl (lv_at hl 2 rfl) ?_
  refine jv_iconst hx hb dX1_mend_33 ?_
  refine jv_iast (g := (σ 1)) (ws' := (WX κ x a a2 ++ (WC κ a (up (up σ 2 p 0) 1 p 0) br))) hx hb hK hW 4 rfl p rfl (by omega) (by decide) rfl dX1_mend_34 (fun H locs hW => ?_)
  refine lv_iload_n hx hb dX1_mend_35 rfl (lv_at hl 0 rfl) ?_
  exact hret () hW dX1_mend_36 (by first | exact Nat.le_of_ble_eq_true rfl | omega | (dsimp only [rm_X1_mend]; omega)) (by first | exact Nat.le_of_ble_eq_true rfl | omega | (dsimp only [rm_X1_mend]; omega)) rfl

abbrev rm_X1_sing : Room := { frames := 7, cells := 0, slots := 0, locals := 151 }
set_option maxHeartbeats 4000000 in
set_option maxRecDepth 100000 in
/-- sing -/
theorem m_X1_sing (l : Launch) (κ : Kp) (x : Nat) (a a2 : Nat → Nat) (σ : Sg) (br : Nat → Int) (k : Nat) (hk : 1 ≤ k ∧ k ≤ 60) (hI : Inv σ) (hB : σ 5 0 ≤ 100000000) : CGi l yX1_sing wsX1_sing rm_X1_sing κ [.ref x, .int (J (k : Int))] (WX κ x a a2 ++ (WC κ a σ br)) (fun r (_ : Unit) => r = J (pbn σ k 5 1 - σ 5 1)) (fun (_ : Unit) => WX κ x a a2 ++ WC κ a (pbn σ k) br) := by
  refine entry_i (by decide) rfl (Nat.le_of_ble_eq_true rfl) ?_
  intro P e s m args below meth c ls A Q F hname hK hA hret hW hl
  obtain ⟨hx, hb, hml, hown, hts⟩ := id F
  have hn0 : ∀ w ∈ wsX00, w ∈ wsX1_sing := by decide +kernel
  have hn1 : ∀ w ∈ wsX10, w ∈ wsX1_sing := by decide +kernel
  have hN := hI.hN
  have hN10 := hI.n10
  have hnn := hI.1
  refine lv_iload_n hx hb dX1_sing_0 rfl (lv_at hl 1 rfl) ?_
  refine jv_iconst hx hb dX1_sing_1 ?_
  refine jv_bipush hx hb 60 dX1_sing_2 (by decide +kernel) ?_
  refine fin_v (k := 0) (n := 0) (W2 := (fun _ => (WX κ x a a2 ++ (WC κ a σ br)))) [] [0, 1, 2, 3, 4, 5, 6, 7] [0, 1, 2, 3, 4, 5, 6, 7] hW hA (va_runS (As := [.int (J (k : Int)), .int (J 1), .int (J 60)]) (rest := []) F ((m_X1_requireWithin l κ (k : Int) 1 60 (by omega) (by omega)) _) (va_cwS 3 hts gX1_sing_X1_requireWithin rfl rfl rfl (by decide +kernel) ⟨(Nat.le_of_ble_eq_true rfl), (Nat.le_of_ble_eq_true rfl)⟩) (pre_S hK hW [] rfl (by decide)) rfl rfl hl.1 rfl (lv_room (Nat.le_of_ble_eq_true rfl)) dX1_sing_4 ⟨(by first | exact Nat.le_of_ble_eq_true rfl | omega | (dsimp only [rm_X1_sing, rm_X1_requireWithin]; omega)), (by first | exact Nat.le_of_ble_eq_true rfl | omega | (dsimp only [rm_X1_sing, rm_X1_requireWithin]; omega))⟩) rfl rfl rfl (by decide) rfl (fun _ => rfl) (by first | exact Nat.le_of_ble_eq_true rfl | omega | (dsimp only [rm_X1_sing, rm_X1_requireWithin]; omega)) (by first | exact Nat.le_of_ble_eq_true rfl | omega | (dsimp only [rm_X1_sing, rm_X1_requireWithin]; omega)) (fun u H locs hp_1 hW => ?_)
  refine lv_aload_n hx hb dX1_sing_7 rfl (lv_at hl 0 rfl) ?_
  refine jv_get (T := TX1) (N := 2) (v := .ref (a 0)) hx hb hts hn1 hown hK hW 0 rfl rfl 0 (by decide) (List.mem_of_getElem? (i := 1) rfl) rfl dX1_sing_8 ?_
  refine jv_get (T := TX0) (N := 10) (v := .int (J (σ 5 1))) hx hb hts hn0 hown hK hW 1 rfl rfl 8 (by decide) (List.mem_of_getElem? (i := 2) rfl) rfl dX1_sing_11 ?_
  refine lv_istore_n (lv' := [(2, .int (J (σ 5 1))), (0, .ref x), (1, .int (J (k : Int)))]) hx hb dX1_sing_14 rfl hl (by decide) rfl (fun ls hl => ?_)
  refine lv_aload_n hx hb dX1_sing_15 rfl (lv_at hl 1 rfl) ?_
  refine jv_get (T := TX1) (N := 2) (v := .ref (a 0)) hx hb hts hn1 hown hK hW 0 rfl rfl 0 (by decide) (List.mem_of_getElem? (i := 1) rfl) rfl dX1_sing_16 ?_
  refine lv_iload_n hx hb dX1_sing_19 rfl (lv_at hl 2 rfl) ?_
  refine fin_v (k := 0) (n := 0) (W2 := (fun _ => (WX κ x a a2 ++ (WC κ a (pbn σ k) br)))) [1, 2, 3, 4, 5, 6, 7] [0] [0, 1, 2, 3, 4, 5, 6, 7] hW hA (va_runV (As := [.int (J (k : Int))]) (rest := []) F ((m_X0_passBeats l κ a σ br k (by omega) hI (by omega)) _) (cwV 1 hts gX1_sing_X0_passBeats rfl rfl rfl (by decide +kernel) ⟨(Nat.le_of_ble_eq_true rfl), (Nat.le_of_ble_eq_true rfl)⟩) (pre_V hK hW [1, 2, 3, 4, 5, 6, 7] rfl (by decide) 0 1 rfl rfl) rfl rfl hl.1 rfl (lv_room (Nat.le_of_ble_eq_true rfl)) dX1_sing_20 ⟨(by first | exact Nat.le_of_ble_eq_true rfl | omega | (dsimp only [rm_X1_sing, rm_X0_passBeats]; omega)), (by first | exact Nat.le_of_ble_eq_true rfl | omega | (dsimp only [rm_X1_sing, rm_X0_passBeats]; omega))⟩) rfl rfl rfl (by decide) rfl (fun _ => rfl) (by first | exact Nat.le_of_ble_eq_true rfl | omega | (dsimp only [rm_X1_sing, rm_X0_passBeats]; omega)) (by first | exact Nat.le_of_ble_eq_true rfl | omega | (dsimp only [rm_X1_sing, rm_X0_passBeats]; omega)) (fun u H locs hp_2 hW => ?_)
  refine lv_aload_n hx hb dX1_sing_23 rfl (lv_at hl 1 rfl) ?_
  refine jv_get (T := TX1) (N := 2) (v := .ref (a 0)) hx hb hts hn1 hown hK hW 0 rfl rfl 0 (by decide) (List.mem_of_getElem? (i := 1) rfl) rfl dX1_sing_24 ?_
  refine jv_get (T := TX0) (N := 10) (v := .int (J ((pbn σ k) 5 1))) hx hb hts hn0 hown hK hW 1 rfl rfl 8 (by decide) (List.mem_of_getElem? (i := 2) rfl) rfl dX1_sing_27 ?_
  refine lv_iload_n hx hb dX1_sing_30 rfl (lv_at hl 0 rfl) ?_
  refine jv_isub hx hb dX1_sing_31 ?_
  exact hret () hW dX1_sing_32 (by first | exact Nat.le_of_ble_eq_true rfl | omega | (dsimp only [rm_X1_sing]; omega)) (by first | exact Nat.le_of_ble_eq_true rfl | omega | (dsimp only [rm_X1_sing]; omega)) rfl

abbrev rm_X1_harmonyIn : Room := { frames := 7, cells := 0, slots := 0, locals := 151 }
set_option maxHeartbeats 4000000 in
set_option maxRecDepth 100000 in
/-- harmonyIn -/
theorem m_X1_harmonyIn (l : Launch) (κ : Kp) (x : Nat) (a a2 : Nat → Nat) (σ : Sg) (br : Nat → Int) (τ : Sg) (bt : Nat → Int) (k : Nat) (hk : 1 ≤ k ∧ k ≤ 60) (hI : Inv σ) (hB : σ 5 0 ≤ 100000000) : CGi l yX1_harmonyIn wsX1_harmonyIn rm_X1_harmonyIn κ [.ref x, .int (J (k : Int))] (WX κ x a a2 ++ (WC κ a σ br ++ (WC κ a2 τ bt))) (fun r (_ : Unit) => r = J (hm (pbn σ k))) (fun (_ : Unit) => WX κ x a a2 ++ (WC κ a σ br ++ WC κ a2 (pbn σ k) bt)) := by
  refine entry_i (by decide) rfl (Nat.le_of_ble_eq_true rfl) ?_
  intro P e s m args below meth c ls A Q F hname hK hA hret hW hl
  obtain ⟨hx, hb, hml, hown, hts⟩ := id F
  have hn1 : ∀ w ∈ wsX10, w ∈ wsX1_harmonyIn := by decide +kernel
  have hN := hI.hN
  have hN10 := hI.n10
  have hnn := hI.1
  refine lv_iload_n hx hb dX1_harmonyIn_0 rfl (lv_at hl 1 rfl) ?_
  refine jv_iconst hx hb dX1_harmonyIn_1 ?_
  refine jv_bipush hx hb 60 dX1_harmonyIn_2 (by decide +kernel) ?_
  refine fin_v (k := 0) (n := 0) (W2 := (fun _ => (WX κ x a a2 ++ (WC κ a σ br ++ (WC κ a2 τ bt))))) [] [0, 1, 2, 3, 4, 5, 6, 7, 8, 9, 10, 11, 12, 13, 14] [0, 1, 2, 3, 4, 5, 6, 7, 8, 9, 10, 11, 12, 13, 14] hW hA (va_runS (As := [.int (J (k : Int)), .int (J 1), .int (J 60)]) (rest := []) F ((m_X1_requireWithin l κ (k : Int) 1 60 (by omega) (by omega)) _) (va_cwS 3 hts gX1_harmonyIn_X1_requireWithin rfl rfl rfl (by decide +kernel) ⟨(Nat.le_of_ble_eq_true rfl), (Nat.le_of_ble_eq_true rfl)⟩) (pre_S hK hW [] rfl (by decide)) rfl rfl hl.1 rfl (lv_room (Nat.le_of_ble_eq_true rfl)) dX1_harmonyIn_4 ⟨(by first | exact Nat.le_of_ble_eq_true rfl | omega | (dsimp only [rm_X1_harmonyIn, rm_X1_requireWithin]; omega)), (by first | exact Nat.le_of_ble_eq_true rfl | omega | (dsimp only [rm_X1_harmonyIn, rm_X1_requireWithin]; omega))⟩) rfl rfl rfl (by decide) rfl (fun _ => rfl) (by first | exact Nat.le_of_ble_eq_true rfl | omega | (dsimp only [rm_X1_harmonyIn, rm_X1_requireWithin]; omega)) (by first | exact Nat.le_of_ble_eq_true rfl | omega | (dsimp only [rm_X1_harmonyIn, rm_X1_requireWithin]; omega)) (fun u H locs hp_1 hW => ?_)
  refine lv_aload_n hx hb dX1_harmonyIn_7 rfl (lv_at hl 0 rfl) ?_
  refine jv_get (T := TX1) (N := 2) (v := .ref (a2 0)) hx hb hts hn1 hown hK hW 0 rfl rfl 1 (by decide) (List.mem_of_getElem? (i := 1) rfl) rfl dX1_harmonyIn_8 ?_
  refine lv_aload_n hx hb dX1_harmonyIn_11 rfl (lv_at hl 0 rfl) ?_
  refine jv_get (T := TX1) (N := 2) (v := .ref (a 0)) hx hb hts hn1 hown hK hW 0 rfl rfl 0 (by decide) (List.mem_of_getElem? (i := 2) rfl) rfl dX1_harmonyIn_12 ?_
  refine fin_v (k := 0) (n := 0) (W2 := (fun _ => (WX κ x a a2 ++ (WC κ a σ br ++ (WC κ a2 σ bt))))) [8, 9, 10, 11, 12, 13, 14, 1, 2, 3, 4, 5, 6, 7] [0] [0, 8, 9, 10, 11, 12, 13, 14, 1, 2, 3, 4, 5, 6, 7] hW hA (va_runV (As := [.ref (a 0)]) (rest := []) F ((m_X0_becomeLike l κ a2 a τ σ bt br hI) _) (cwV 1 hts gX1_harmonyIn_X0_becomeLike rfl rfl rfl (by decide +kernel) ⟨(Nat.le_of_ble_eq_true rfl), (Nat.le_of_ble_eq_true rfl)⟩) (pre_V hK hW [8, 9, 10, 11, 12, 13, 14, 1, 2, 3, 4, 5, 6, 7] rfl (by decide) 0 8 rfl rfl) rfl rfl hl.1 rfl (lv_room (Nat.le_of_ble_eq_true rfl)) dX1_harmonyIn_15 ⟨(by first | exact Nat.le_of_ble_eq_true rfl | omega | (dsimp only [rm_X1_harmonyIn, rm_X0_becomeLike]; omega)), (by first | exact Nat.le_of_ble_eq_true rfl | omega | (dsimp only [rm_X1_harmonyIn, rm_X0_becomeLike]; omega))⟩) rfl rfl rfl (by decide) rfl (fun _ => rfl) (by first | exact Nat.le_of_ble_eq_true rfl | omega | (dsimp only [rm_X1_harmonyIn, rm_X0_becomeLike]; omega)) (by first | exact Nat.le_of_ble_eq_true rfl | omega | (dsimp only [rm_X1_harmonyIn, rm_X0_becomeLike]; omega)) (fun u H locs hp_2 hW => ?_)
  refine lv_aload_n hx hb dX1_harmonyIn_18 rfl (lv_at hl 0 rfl) ?_
  refine jv_get (T := TX1) (N := 2) (v := .ref (a2 0)) hx hb hts hn1 hown hK hW 0 rfl rfl 1 (by decide) (List.mem_of_getElem? (i := 1) rfl) rfl dX1_harmonyIn_19 ?_
  refine lv_iload_n hx hb dX1_harmonyIn_22 rfl (lv_at hl 1 rfl) ?_
  refine fin_v (k := 0) (n := 0) (W2 := (fun _ => (WX κ x a a2 ++ (WC κ a σ br ++ (WC κ a2 (pbn σ k) bt))))) [8, 9, 10, 11, 12, 13, 14] [0, 1, 2, 3, 4, 5, 6, 7] [0, 1, 2, 3, 4, 5, 6, 7, 8, 9, 10, 11, 12, 13, 14] hW hA (va_runV (As := [.int (J (k : Int))]) (rest := []) F ((m_X0_passBeats l κ a2 σ bt k (by omega) hI (by omega)) _) (cwV 1 hts gX1_harmonyIn_X0_passBeats rfl rfl rfl (by decide +kernel) ⟨(Nat.le_of_ble_eq_true rfl), (Nat.le_of_ble_eq_true rfl)⟩) (pre_V hK hW [8, 9, 10, 11, 12, 13, 14] rfl (by decide) 0 8 rfl rfl) rfl rfl hl.1 rfl (lv_room (Nat.le_of_ble_eq_true rfl)) dX1_harmonyIn_23 ⟨(by first | exact Nat.le_of_ble_eq_true rfl | omega | (dsimp only [rm_X1_harmonyIn, rm_X0_passBeats]; omega)), (by first | exact Nat.le_of_ble_eq_true rfl | omega | (dsimp only [rm_X1_harmonyIn, rm_X0_passBeats]; omega))⟩) rfl rfl rfl (by decide) rfl (fun _ => rfl) (by first | exact Nat.le_of_ble_eq_true rfl | omega | (dsimp only [rm_X1_harmonyIn, rm_X0_passBeats]; omega)) (by first | exact Nat.le_of_ble_eq_true rfl | omega | (dsimp only [rm_X1_harmonyIn, rm_X0_passBeats]; omega)) (fun u H locs hp_3 hW => ?_)
  have hIn := hI.hpbn k
  refine lv_aload_n hx hb dX1_harmonyIn_26 rfl (lv_at hl 0 rfl) ?_
  refine jv_get (T := TX1) (N := 2) (v := .ref (a2 0)) hx hb hts hn1 hown hK hW 0 rfl rfl 1 (by decide) (List.mem_of_getElem? (i := 1) rfl) rfl dX1_harmonyIn_27 ?_
  refine fin_i (k := 0) (n := 0) (W2 := (fun _ => (WX κ x a a2 ++ (WC κ a σ br ++ (WC κ a2 (pbn σ k) bt))))) [8, 9, 10, 11, 12, 13, 14] [0, 1, 2, 3, 4, 5, 6, 7] [0, 1, 2, 3, 4, 5, 6, 7, 8, 9, 10, 11, 12, 13, 14] hW hA (va_runV (As := []) (rest := []) F ((m_X0_harmonyNow l κ a2 (pbn σ k) bt  hIn) _) (cwV 0 hts gX1_harmonyIn_X0_harmonyNow rfl rfl rfl (by decide +kernel) ⟨(Nat.le_of_ble_eq_true rfl), (Nat.le_of_ble_eq_true rfl)⟩) (pre_V hK hW [8, 9, 10, 11, 12, 13, 14] rfl (by decide) 0 8 rfl rfl) rfl rfl hl.1 rfl (lv_room (Nat.le_of_ble_eq_true rfl)) dX1_harmonyIn_30 ⟨(by first | exact Nat.le_of_ble_eq_true rfl | omega | (dsimp only [rm_X1_harmonyIn, rm_X0_harmonyNow]; omega)), (by first | exact Nat.le_of_ble_eq_true rfl | omega | (dsimp only [rm_X1_harmonyIn, rm_X0_harmonyNow]; omega))⟩) rfl rfl rfl (by decide) rfl (fun _ => rfl) (by first | exact Nat.le_of_ble_eq_true rfl | omega | (dsimp only [rm_X1_harmonyIn, rm_X0_harmonyNow]; omega)) (by first | exact Nat.le_of_ble_eq_true rfl | omega | (dsimp only [rm_X1_harmonyIn, rm_X0_harmonyNow]; omega)) (fun r_5 u H locs hp_4 hW => ?_)
  subst hp_4
  exact hret () hW dX1_harmonyIn_33 (by first | exact Nat.le_of_ble_eq_true rfl | omega | (dsimp only [rm_X1_harmonyIn]; omega)) (by first | exact Nat.le_of_ble_eq_true rfl | omega | (dsimp only [rm_X1_harmonyIn]; omega)) rfl

abbrev rm_X1_beatsUntilSilence : Room := { frames := 6, cells := 0, slots := 0, locals := 129 }
set_option maxHeartbeats 4000000 in
set_option maxRecDepth 100000 in
/-- beatsUntilSilence -/
theorem m_X1_beatsUntilSilence (l : Launch) (κ : Kp) (x : Nat) (a a2 : Nat → Nat) (σ : Sg) (br : Nat → Int) (τ : Sg) (bt : Nat → Int) (hI : Inv σ) (hB : σ 5 0 ≤ 100000000) : CGi l yX1_beatsUntilSilence wsX1_beatsUntilSilence rm_X1_beatsUntilSilence κ [.ref x] (WX κ x a a2 ++ (WC κ a σ br ++ (WC κ a2 τ bt))) (fun r (_ : Sg) => r = J (su σ : Int)) (fun (u : Sg) => WX κ x a a2 ++ (WC κ a σ br ++ WC κ a2 u bt)) := by
  refine entry_i (by decide) rfl (Nat.le_of_ble_eq_true rfl) ?_
  intro P e s m args below meth c ls A Q F hname hK hA hret hW hl
  obtain ⟨hx, hb, hml, hown, hts⟩ := id F
  have hn1 : ∀ w ∈ wsX10, w ∈ wsX1_beatsUntilSilence := by decide +kernel
  have hN := hI.hN
  have hN10 := hI.n10
  have hnn := hI.1
  refine lv_aload_n hx hb dX1_beatsUntilSilence_0 rfl (lv_at hl 0 rfl) ?_
  refine jv_get (T := TX1) (N := 2) (v := .ref (a2 0)) hx hb hts hn1 hown hK hW 0 rfl rfl 1 (by decide) (List.mem_of_getElem? (i := 1) rfl) rfl dX1_beatsUntilSilence_1 ?_
  refine lv_aload_n hx hb dX1_beatsUntilSilence_4 rfl (lv_at hl 0 rfl) ?_
  refine jv_get (T := TX1) (N := 2) (v := .ref (a 0)) hx hb hts hn1 hown hK hW 0 rfl rfl 0 (by decide) (List.mem_of_getElem? (i := 2) rfl) rfl dX1_beatsUntilSilence_5 ?_
  refine fin_v (k := 0) (n := 0) (W2 := (fun _ => (WX κ x a a2 ++ (WC κ a σ br ++ (WC κ a2 σ bt))))) [8, 9, 10, 11, 12, 13, 14, 1, 2, 3, 4, 5, 6, 7] [0] [0, 8, 9, 10, 11, 12, 13, 14, 1, 2, 3, 4, 5, 6, 7] hW hA (va_runV (As := [.ref (a 0)]) (rest := []) F ((m_X0_becomeLike l κ a2 a τ σ bt br hI) _) (cwV 1 hts gX1_beatsUntilSilence_X0_becomeLike rfl rfl rfl (by decide +kernel) ⟨(Nat.le_of_ble_eq_true rfl), (Nat.le_of_ble_eq_true rfl)⟩) (pre_V hK hW [8, 9, 10, 11, 12, 13, 14, 1, 2, 3, 4, 5, 6, 7] rfl (by decide) 0 8 rfl rfl) rfl rfl hl.1 rfl (lv_room (Nat.le_of_ble_eq_true rfl)) dX1_beatsUntilSilence_8 ⟨(by first | exact Nat.le_of_ble_eq_true rfl | omega | (dsimp only [rm_X1_beatsUntilSilence, rm_X0_becomeLike]; omega)), (by first | exact Nat.le_of_ble_eq_true rfl | omega | (dsimp only [rm_X1_beatsUntilSilence, rm_X0_becomeLike]; omega))⟩) rfl rfl rfl (by decide) rfl (fun _ => rfl) (by first | exact Nat.le_of_ble_eq_true rfl | omega | (dsimp only [rm_X1_beatsUntilSilence, rm_X0_becomeLike]; omega)) (by first | exact Nat.le_of_ble_eq_true rfl | omega | (dsimp only [rm_X1_beatsUntilSilence, rm_X0_becomeLike]; omega)) (fun u H locs hp_1 hW => ?_)
  refine jv_iconst hx hb dX1_beatsUntilSilence_11 ?_
  refine lv_istore_n (lv' := [(1, .int (J 0)), (0, .ref x)]) hx hb dX1_beatsUntilSilence_12 rfl hl (by decide) rfl (fun ls hl => ?_)
  suffices hlp : ∀ (n i : Nat), i ≤ 20 → 20 < i + n → ∀ (H : Heap) (locs : List Loc) (ls : Array Slot), (∀ j, j < i → ¬ ns (pbn σ j) = 0) → St κ A s.heap H locs (WX κ x a a2 ++ (WC κ a σ br ++ (WC κ a2 (pbn σ i) bt))) → lv_has ls 2 [(1, .int (J (i : Int))), (0, .ref x)] → W P l e rm_X1_beatsUntilSilence s m args below meth c H locs 0 0 Q (F0 m 13 ls []) from
    hlp (20 + 1) 0 (Nat.zero_le _) (by omega)  _ _ _ (fun j hj => absurd hj (Nat.not_lt_zero j)) hW hl
  intro n
  induction n with
  | zero => intro i h1 h2; exact absurd h2 (by omega)
  | succ n ih =>
    intro i hi hn  H locs ls hno hW hl
    have hIi := hI.hpbn i
    have h5 := pbn_50 σ i
    have hnsi := ns_le (pbn σ i)
    have hni := hIi.n10
    refine lv_iload_n hx hb dX1_beatsUntilSilence_13 rfl (lv_at hl 0 rfl) ?_
    refine jv_bipush hx hb 20 dX1_beatsUntilSilence_14 (by decide +kernel) ?_
    refine jv_icmp_ge hx hb 42 dX1_beatsUntilSilence_16 (by decide) ⟨by omega, by omega⟩ ⟨by omega, by omega⟩ (fun h_2 => ?_) (fun h_2 => ?_)
    · skip
      refine lv_iload_n hx hb dX1_beatsUntilSilence_42 rfl (lv_at hl 0 rfl) ?_
      exact hret (pbn σ i) hW dX1_beatsUntilSilence_43 (by first | exact Nat.le_of_ble_eq_true rfl | omega | (dsimp only [rm_X1_beatsUntilSilence]; omega)) (by first | exact Nat.le_of_ble_eq_true rfl | omega | (dsimp only [rm_X1_beatsUntilSilence]; omega)) (by unfold su; rw [first_eq (fun j hj => decide_eq_false (hno j hj)) (by omega) (Or.inl (by omega))])
    · skip
      refine lv_aload_n hx hb dX1_beatsUntilSilence_19 rfl (lv_at hl 1 rfl) ?_
      refine jv_get (T := TX1) (N := 2) (v := .ref (a2 0)) hx hb hts hn1 hown hK hW 0 rfl rfl 1 (by decide) (List.mem_of_getElem? (i := 1) rfl) rfl dX1_beatsUntilSilence_20 ?_
      refine fin_i (k := 0) (n := 0) (W2 := (fun _ => (WX κ x a a2 ++ (WC κ a σ br ++ (WC κ a2 (pbn σ i) bt))))) [8, 9, 10, 11, 12, 13, 14] [0, 1, 2, 3, 4, 5, 6, 7] [0, 1, 2, 3, 4, 5, 6, 7, 8, 9, 10, 11, 12, 13, 14] hW hA (va_runV (As := []) (rest := []) F ((m_X0_countSounding l κ a2 (pbn σ i) bt  hIi) _) (cwV 0 hts gX1_beatsUntilSilence_X0_countSounding rfl rfl rfl (by decide +kernel) ⟨(Nat.le_of_ble_eq_true rfl), (Nat.le_of_ble_eq_true rfl)⟩) (pre_V hK hW [8, 9, 10, 11, 12, 13, 14] rfl (by decide) 0 8 rfl rfl) rfl rfl hl.1 rfl (lv_room (Nat.le_of_ble_eq_true rfl)) dX1_beatsUntilSilence_23 ⟨(by first | exact Nat.le_of_ble_eq_true rfl | omega | (dsimp only [rm_X1_beatsUntilSilence, rm_X0_countSounding]; omega)), (by first | exact Nat.le_of_ble_eq_true rfl | omega | (dsimp only [rm_X1_beatsUntilSilence, rm_X0_countSounding]; omega))⟩) rfl rfl rfl (by decide) rfl (fun _ => rfl) (by first | exact Nat.le_of_ble_eq_true rfl | omega | (dsimp only [rm_X1_beatsUntilSilence, rm_X0_countSounding]; omega)) (by first | exact Nat.le_of_ble_eq_true rfl | omega | (dsimp only [rm_X1_beatsUntilSilence, rm_X0_countSounding]; omega)) (fun r_4 u H locs hp_3 hW => ?_)
      subst hp_3
      refine jv_if_le hx hb 42 dX1_beatsUntilSilence_26 (by decide) ⟨by omega, by omega⟩ (fun h_5 => ?_) (fun h_5 => ?_)
      · skip
        refine lv_iload_n hx hb dX1_beatsUntilSilence_42 rfl (lv_at hl 0 rfl) ?_
        exact hret (pbn σ i) hW dX1_beatsUntilSilence_43 (by first | exact Nat.le_of_ble_eq_true rfl | omega | (dsimp only [rm_X1_beatsUntilSilence]; omega)) (by first | exact Nat.le_of_ble_eq_true rfl | omega | (dsimp only [rm_X1_beatsUntilSilence]; omega)) (by unfold su; rw [first_eq (fun j hj => decide_eq_false (hno j hj)) (by omega) (Or.inr (decide_eq_true (by omega)))])
      · skip
        refine lv_aload_n hx hb dX1_beatsUntilSilence_29 rfl (lv_at hl 1 rfl) ?_
        refine jv_get (T := TX1) (N := 2) (v := .ref (a2 0)) hx hb hts hn1 hown hK hW 0 rfl rfl 1 (by decide) (List.mem_of_getElem? (i := 1) rfl) rfl dX1_beatsUntilSilence_30 ?_
        refine fin_v (k := 0) (n := 0) (W2 := (fun _ => (WX κ x a a2 ++ (WC κ a σ br ++ (WC κ a2 (pb (pbn σ i)) bt))))) [8, 9, 10, 11, 12, 13, 14] [0, 1, 2, 3, 4, 5, 6, 7] [0, 1, 2, 3, 4, 5, 6, 7, 8, 9, 10, 11, 12, 13, 14] hW hA (va_runV (As := []) (rest := []) F ((m_X0_passBeat l κ a2 (pbn σ i) bt  hIi (by omega)) _) (cwV 0 hts gX1_beatsUntilSilence_X0_passBeat rfl rfl rfl (by decide +kernel) ⟨(Nat.le_of_ble_eq_true rfl), (Nat.le_of_ble_eq_true rfl)⟩) (pre_V hK hW [8, 9, 10, 11, 12, 13, 14] rfl (by decide) 0 8 rfl rfl) rfl rfl hl.1 rfl (lv_room (Nat.le_of_ble_eq_true rfl)) dX1_beatsUntilSilence_33 ⟨(by first | exact Nat.le_of_ble_eq_true rfl | omega | (dsimp only [rm_X1_beatsUntilSilence, rm_X0_passBeat]; omega)), (by first | exact Nat.le_of_ble_eq_true rfl | omega | (dsimp only [rm_X1_beatsUntilSilence, rm_X0_passBeat]; omega))⟩) rfl rfl rfl (by decide) rfl (fun _ => rfl) (by first | exact Nat.le_of_ble_eq_true rfl | omega | (dsimp only [rm_X1_beatsUntilSilence, rm_X0_passBeat]; omega)) (by first | exact Nat.le_of_ble_eq_true rfl | omega | (dsimp only [rm_X1_beatsUntilSilence, rm_X0_passBeat]; omega)) (fun u H locs hp_6 hW => ?_)
        refine jv_iinc (k := 0) (z := (i : Int)) (lv' := [(1, .int (J ((i : Int) + 1))), (0, .ref x)]) hx hb dX1_beatsUntilSilence_36 hl rfl (by decide) rfl (fun ls hl => ?_)
        refine lv_goto (tgt := 13) hx hb dX1_beatsUntilSilence_39 (by decide) ?_
        exact ih (i + 1) (by omega) (by omega)  _ _ _ (fun j hj => (Nat.lt_or_ge j i).elim (fun h => hno j h) (fun h => by rw [show j = i by omega]; omega)) hW hl

abbrev rm_X1_beatsUntilCadence : Room := { frames := 6, cells := 0, slots := 0, locals := 129 }
set_option maxHeartbeats 4000000 in
set_option maxRecDepth 100000 in
/-- beatsUntilCadence -/
theorem m_X1_beatsUntilCadence (l : Launch) (κ : Kp) (x : Nat) (a a2 : Nat → Nat) (σ : Sg) (br : Nat → Int) (τ : Sg) (bt : Nat → Int) (hI : Inv σ) (hB : σ 5 0 ≤ 100000000) (hC : σ 5 1 ≤ 100000000) : CGi l yX1_beatsUntilCadence wsX1_beatsUntilCadence rm_X1_beatsUntilCadence κ [.ref x] (WX κ x a a2 ++ (WC κ a σ br ++ (WC κ a2 τ bt))) (fun r (_ : Sg) => r = J (uc σ)) (fun (u : Sg) => WX κ x a a2 ++ (WC κ a σ br ++ WC κ a2 u bt)) := by
  refine entry_i (by decide) rfl (Nat.le_of_ble_eq_true rfl) ?_
  intro P e s m args below meth c ls A Q F hname hK hA hret hW hl
  obtain ⟨hx, hb, hml, hown, hts⟩ := id F
  have hn0 : ∀ w ∈ wsX00, w ∈ wsX1_beatsUntilCadence := by decide +kernel
  have hn1 : ∀ w ∈ wsX10, w ∈ wsX1_beatsUntilCadence := by decide +kernel
  have hN := hI.hN
  have hN10 := hI.n10
  have hnn := hI.1
  refine lv_aload_n hx hb dX1_beatsUntilCadence_0 rfl (lv_at hl 0 rfl) ?_
  refine jv_get (T := TX1) (N := 2) (v := .ref (a2 0)) hx hb hts hn1 hown hK hW 0 rfl rfl 1 (by decide) (List.mem_of_getElem? (i := 1) rfl) rfl dX1_beatsUntilCadence_1 ?_
  refine lv_aload_n hx hb dX1_beatsUntilCadence_4 rfl (lv_at hl 0 rfl) ?_
  refine jv_get (T := TX1) (N := 2) (v := .ref (a 0)) hx hb hts hn1 hown hK hW 0 rfl rfl 0 (by decide) (List.mem_of_getElem? (i := 2) rfl) rfl dX1_beatsUntilCadence_5 ?_
  refine fin_v (k := 0) (n := 0) (W2 := (fun _ => (WX κ x a a2 ++ (WC κ a σ br ++ (WC κ a2 σ bt))))) [8, 9, 10, 11, 12, 13, 14, 1, 2, 3, 4, 5, 6, 7] [0] [0, 8, 9, 10, 11, 12, 13, 14, 1, 2, 3, 4, 5, 6, 7] hW hA (va_runV (As := [.ref (a 0)]) (rest := []) F ((m_X0_becomeLike l κ a2 a τ σ bt br hI) _) (cwV 1 hts gX1_beatsUntilCadence_X0_becomeLike rfl rfl rfl (by decide +kernel) ⟨(Nat.le_of_ble_eq_true rfl), (Nat.le_of_ble_eq_true rfl)⟩) (pre_V hK hW [8, 9, 10, 11, 12, 13, 14, 1, 2, 3, 4, 5, 6, 7] rfl (by decide) 0 8 rfl rfl) rfl rfl hl.1 rfl (lv_room (Nat.le_of_ble_eq_true rfl)) dX1_beatsUntilCadence_8 ⟨(by first | exact Nat.le_of_ble_eq_true rfl | omega | (dsimp only [rm_X1_beatsUntilCadence, rm_X0_becomeLike]; omega)), (by first | exact Nat.le_of_ble_eq_true rfl | omega | (dsimp only [rm_X1_beatsUntilCadence, rm_X0_becomeLike]; omega))⟩) rfl rfl rfl (by decide) rfl (fun _ => rfl) (by first | exact Nat.le_of_ble_eq_true rfl | omega | (dsimp only [rm_X1_beatsUntilCadence, rm_X0_becomeLike]; omega)) (by first | exact Nat.le_of_ble_eq_true rfl | omega | (dsimp only [rm_X1_beatsUntilCadence, rm_X0_becomeLike]; omega)) (fun u H locs hp_1 hW => ?_)
  refine jv_iconst hx hb dX1_beatsUntilCadence_11 ?_
  refine lv_istore_n (lv' := [(1, .int (J 1)), (0, .ref x)]) hx hb dX1_beatsUntilCadence_12 rfl hl (by decide) rfl (fun ls hl => ?_)
  suffices hlp : ∀ (n i : Nat), i ≤ 60 → 60 < i + n → ∀ (f : Int), ∀ (H : Heap) (locs : List Loc) (ls : Array Slot), (f = (i : Int) + 1) → (∀ j, j < i → cadb (pbn σ j) = false) → (pbn σ i 5 1 = σ 5 1) → St κ A s.heap H locs (WX κ x a a2 ++ (WC κ a σ br ++ (WC κ a2 (pbn σ i) bt))) → lv_has ls 2 [(1, .int (J f)), (0, .ref x)] → W P l e rm_X1_beatsUntilCadence s m args below meth c H locs 0 0 Q (F0 m 13 ls []) from
    hlp (60 + 1) 0 (Nat.zero_le _) (by omega) 1 _ _ _ rfl (fun j hj => absurd hj (Nat.not_lt_zero j)) (by rfl) hW hl
  intro n
  induction n with
  | zero => intro i h1 h2; exact absurd h2 (by omega)
  | succ n ih =>
    intro i hi hn f H locs ls q_f hno hcd hW hl
    have hIi := hI.hpbn i
    have h5 := pbn_50 σ i
    have h51 := hIi.2.2.1
    have hcad := pbn_cad σ i
    have hbr := bi_rng (cadb (pbn σ i))
    refine lv_iload_n hx hb dX1_beatsUntilCadence_13 rfl (lv_at hl 0 rfl) ?_
    refine jv_bipush hx hb 60 dX1_beatsUntilCadence_14 (by decide +kernel) ?_
    refine jv_icmp_gt hx hb 51 dX1_beatsUntilCadence_16 (by decide) ⟨by omega, by omega⟩ ⟨by omega, by omega⟩ (fun h_2 => ?_) (fun h_2 => ?_)
    · skip
      refine jv_iconst hx hb dX1_beatsUntilCadence_51 ?_
      exact hret (pbn σ i) hW dX1_beatsUntilCadence_52 (by first | exact Nat.le_of_ble_eq_true rfl | omega | (dsimp only [rm_X1_beatsUntilCadence]; omega)) (by first | exact Nat.le_of_ble_eq_true rfl | omega | (dsimp only [rm_X1_beatsUntilCadence]; omega)) (by unfold uc; rw [first_eq (i := 60) (fun j hj => hno j (by omega)) (by omega) (Or.inl rfl)]; rfl)
    · skip
      refine lv_aload_n hx hb dX1_beatsUntilCadence_19 rfl (lv_at hl 1 rfl) ?_
      refine jv_get (T := TX1) (N := 2) (v := .ref (a2 0)) hx hb hts hn1 hown hK hW 0 rfl rfl 1 (by decide) (List.mem_of_getElem? (i := 1) rfl) rfl dX1_beatsUntilCadence_20 ?_
      refine fin_v (k := 0) (n := 0) (W2 := (fun _ => (WX κ x a a2 ++ (WC κ a σ br ++ (WC κ a2 (pb (pbn σ i)) bt))))) [8, 9, 10, 11, 12, 13, 14] [0, 1, 2, 3, 4, 5, 6, 7] [0, 1, 2, 3, 4, 5, 6, 7, 8, 9, 10, 11, 12, 13, 14] hW hA (va_runV (As := []) (rest := []) F ((m_X0_passBeat l κ a2 (pbn σ i) bt  hIi (by omega)) _) (cwV 0 hts gX1_beatsUntilCadence_X0_passBeat rfl rfl rfl (by decide +kernel) ⟨(Nat.le_of_ble_eq_true rfl), (Nat.le_of_ble_eq_true rfl)⟩) (pre_V hK hW [8, 9, 10, 11, 12, 13, 14] rfl (by decide) 0 8 rfl rfl) rfl rfl hl.1 rfl (lv_room (Nat.le_of_ble_eq_true rfl)) dX1_beatsUntilCadence_23 ⟨(by first | exact Nat.le_of_ble_eq_true rfl | omega | (dsimp only [rm_X1_beatsUntilCadence, rm_X0_passBeat]; omega)), (by first | exact Nat.le_of_ble_eq_true rfl | omega | (dsimp only [rm_X1_beatsUntilCadence, rm_X0_passBeat]; omega))⟩) rfl rfl rfl (by decide) rfl (fun _ => rfl) (by first | exact Nat.le_of_ble_eq_true rfl | omega | (dsimp only [rm_X1_beatsUntilCadence, rm_X0_passBeat]; omega)) (by first | exact Nat.le_of_ble_eq_true rfl | omega | (dsimp only [rm_X1_beatsUntilCadence, rm_X0_passBeat]; omega)) (fun u H locs hp_3 hW => ?_)
      have hcad2 : pb (pbn σ i) 5 1 = pbn σ i 5 1 + bi (cadb (pbn σ i)) := hcad
      have hc0 : pb (pbn σ i) 5 1 ≤ σ 5 1 → cadb (pbn σ i) = false := fun h => bi_eq0.mp (by omega)
      refine lv_aload_n hx hb dX1_beatsUntilCadence_26 rfl (lv_at hl 1 rfl) ?_
      refine jv_get (T := TX1) (N := 2) (v := .ref (a2 0)) hx hb hts hn1 hown hK hW 0 rfl rfl 1 (by decide) (List.mem_of_getElem? (i := 1) rfl) rfl dX1_beatsUntilCadence_27 ?_
      refine jv_get (T := TX0) (N := 10) (v := .int (J ((pb (pbn σ i)) 5 1))) hx hb hts hn0 hown hK hW 8 rfl rfl 8 (by decide) (List.mem_of_getElem? (i := 3) rfl) rfl dX1_beatsUntilCadence_30 ?_
      refine lv_aload_n hx hb dX1_beatsUntilCadence_33 rfl (lv_at hl 1 rfl) ?_
      refine jv_get (T := TX1) (N := 2) (v := .ref (a 0)) hx hb hts hn1 hown hK hW 0 rfl rfl 0 (by decide) (List.mem_of_getElem? (i := 2) rfl) rfl dX1_beatsUntilCadence_34 ?_
      refine jv_get (T := TX0) (N := 10) (v := .int (J (σ 5 1))) hx hb hts hn0 hown hK hW 1 rfl rfl 8 (by decide) (List.mem_of_getElem? (i := 3) rfl) rfl dX1_beatsUntilCadence_37 ?_
      refine jv_icmp_le hx hb 45 dX1_beatsUntilCadence_40 (by decide) ⟨by omega, by omega⟩ ⟨by omega, by omega⟩ (fun h_4 => ?_) (fun h_4 => ?_)
      · skip
        refine jv_iinc (k := 0) (z := f) (lv' := [(1, .int (J (f + 1))), (0, .ref x)]) hx hb dX1_beatsUntilCadence_45 hl rfl (by decide) rfl (fun ls hl => ?_)
        refine lv_goto (tgt := 13) hx hb dX1_beatsUntilCadence_48 (by decide) ?_
        exact ih (i + 1) (by omega) (by omega) (f + 1) _ _ _ (by omega) (fun j hj => (Nat.lt_or_ge j i).elim (fun h => hno j h) (fun h => by rw [show j = i by omega]; exact hc0 (by omega))) (by rw [hcad, hc0 (by omega)]; show pbn σ i 5 1 + 0 = _; omega) hW hl
      · skip
        have hc1 : cadb (pbn σ i) = true := bi_eq1.mp (by omega)
        refine lv_iload_n hx hb dX1_beatsUntilCadence_43 rfl (lv_at hl 0 rfl) ?_
        exact hret (pbn σ (i + 1)) hW dX1_beatsUntilCadence_44 (by first | exact Nat.le_of_ble_eq_true rfl | omega | (dsimp only [rm_X1_beatsUntilCadence]; omega)) (by first | exact Nat.le_of_ble_eq_true rfl | omega | (dsimp only [rm_X1_beatsUntilCadence]; omega)) (by unfold uc; rw [first_eq (i := i) hno (by omega) (Or.inr hc1), if_pos (by omega), q_f])

abbrev rm_X1_greatestAccord : Room := { frames := 4, cells := 0, slots := 0, locals := 88 }
set_option maxHeartbeats 4000000 in
set_option maxRecDepth 100000 in
/-- greatestAccord -/
theorem m_X1_greatestAccord (l : Launch) (κ : Kp) (x : Nat) (a a2 : Nat → Nat) (σ : Sg) (br : Nat → Int) (hI : Inv σ) : CGi l yX1_greatestAccord wsX1_greatestAccord rm_X1_greatestAccord κ [.ref x] (WX κ x a a2 ++ (WC κ a σ br)) (fun r (_ : Nat → Int) => r = J (ga σ : Int)) (fun (u : Nat → Int) => WX κ x a a2 ++ WC κ a σ u) := by
  refine entry_i (by decide) rfl (Nat.le_of_ble_eq_true rfl) ?_
  intro P e s m args below meth c ls A Q F hname hK hA hret hW hl
  obtain ⟨hx, hb, hml, hown, hts⟩ := id F
  have hn1 : ∀ w ∈ wsX10, w ∈ wsX1_greatestAccord := by decide +kernel
  have hN := hI.hN
  have hN10 := hI.n10
  have hnn := hI.1
  refine lv_aload_n hx hb dX1_greatestAccord_0 rfl (lv_at hl 0 rfl) ?_
  refine jv_get (T := TX1) (N := 2) (v := .ref (a 0)) hx hb hts hn1 hown hK hW 0 rfl rfl 0 (by decide) (List.mem_of_getElem? (i := 1) rfl) rfl dX1_greatestAccord_1 ?_
  refine fin_i (k := 0) (n := 0) (W2 := (fun brn => (WX κ x a a2 ++ (WC κ a σ brn)))) [1, 2, 3, 4, 5, 6, 7] [0] [0, 1, 2, 3, 4, 5, 6, 7] hW hA (va_runV (As := []) (rest := []) F ((m_X0_sizeOfGreatestAccord l κ a σ br hI) _) (cwV 0 hts gX1_greatestAccord_X0_sizeOfGreatestAccord rfl rfl rfl (by decide +kernel) ⟨(Nat.le_of_ble_eq_true rfl), (Nat.le_of_ble_eq_true rfl)⟩) (pre_V hK hW [1, 2, 3, 4, 5, 6, 7] rfl (by decide) 0 1 rfl rfl) rfl rfl hl.1 rfl (lv_room (Nat.le_of_ble_eq_true rfl)) dX1_greatestAccord_4 ⟨(by first | exact Nat.le_of_ble_eq_true rfl | omega | (dsimp only [rm_X1_greatestAccord, rm_X0_sizeOfGreatestAccord]; omega)), (by first | exact Nat.le_of_ble_eq_true rfl | omega | (dsimp only [rm_X1_greatestAccord, rm_X0_sizeOfGreatestAccord]; omega))⟩) rfl rfl rfl (by decide) rfl (fun _ => rfl) (by first | exact Nat.le_of_ble_eq_true rfl | omega | (dsimp only [rm_X1_greatestAccord, rm_X0_sizeOfGreatestAccord]; omega)) (by first | exact Nat.le_of_ble_eq_true rfl | omega | (dsimp only [rm_X1_greatestAccord, rm_X0_sizeOfGreatestAccord]; omega)) (fun r_2 brn H locs hp_1 hW => ?_)
  subst hp_1
  exact hret brn hW dX1_greatestAccord_7 (by first | exact Nat.le_of_ble_eq_true rfl | omega | (dsimp only [rm_X1_greatestAccord]; omega)) (by first | exact Nat.le_of_ble_eq_true rfl | omega | (dsimp only [rm_X1_greatestAccord]; omega)) rfl

abbrev rm_X1_digestPot : Room := { frames := 5, cells := 0, slots := 0, locals := 114 }
set_option maxHeartbeats 4000000 in
set_option maxRecDepth 100000 in
/-- digestPot -/
theorem m_X1_digestPot (l : Launch) (κ : Kp) (x : Nat) (a a2 : Nat → Nat) (σ : Sg) (br : Nat → Int) (d : Int64) (p : Nat) (hp : (p : Int) < σ 5 3) (hI : Inv σ) : CGl l yX1_digestPot wsX1_digestPot rm_X1_digestPot κ [.ref x, .long d, .int (J (p : Int))] (WX κ x a a2 ++ (WC κ a σ br)) (fun r (_ : Unit) => r = dpt σ d p) (fun (_ : Unit) => (WX κ x a a2 ++ (WC κ a σ br))) := by
  refine entry_l (by decide) rfl (Nat.le_of_ble_eq_true rfl) ?_
  intro P e s m args below meth c ls A Q F hname hK hA hret hW hl
  obtain ⟨hx, hb, hml, hown, hts⟩ := id F
  have hN := hI.hN
  have hN10 := hI.n10
  have hnn := hI.1
  have hbp := hI.at p (by omega)
  refine lv_lload_n hx hb dX1_digestPot_0 rfl (lv_at hl 1 rfl) ?_
  refine lv_lstore (lv' := [(4, .long d), (0, .ref x), (1, .long d), (3, .int (J (p : Int)))]) hx hb dX1_digestPot_1 hl (by decide) rfl (fun ls hl => ?_)
  refine lv_lload hx hb dX1_digestPot_3 (lv_at hl 0 rfl) ?_
  refine lv_ldc2 (v := 31) hx hb hown (hts _ (List.mem_of_getElem? (i := 1) rfl)) dX1_digestPot_5 ?_
  refine lv_lmul hx hb dX1_digestPot_8 ?_
  refine lv_aload_n hx hb dX1_digestPot_9 rfl (lv_at hl 1 rfl) ?_
  refine lv_iload_n hx hb dX1_digestPot_10 rfl (lv_at hl 3 rfl) ?_
  refine fin_i (k := 0) (n := 0) (W2 := (fun _ => (WX κ x a a2 ++ (WC κ a σ br)))) [0, 1, 2, 3, 4, 5, 6, 7] [] [0, 1, 2, 3, 4, 5, 6, 7] hW hA (va_runV (As := [.int (J (p : Int))]) (rest := [.long (d * (31 : Int64))]) F ((m_X1_partOf l κ x a a2 σ br p (by omega) hI) _) (cwV 1 hts gX1_digestPot_X1_partOf rfl rfl rfl (by decide +kernel) ⟨(Nat.le_of_ble_eq_true rfl), (Nat.le_of_ble_eq_true rfl)⟩) (pre_V hK hW [0, 1, 2, 3, 4, 5, 6, 7] rfl (by decide) 1 0 rfl rfl) rfl rfl hl.1 rfl (lv_room (Nat.le_of_ble_eq_true rfl)) dX1_digestPot_11 ⟨(by first | exact Nat.le_of_ble_eq_true rfl | omega | (dsimp only [rm_X1_digestPot, rm_X1_partOf]; omega)), (by first | exact Nat.le_of_ble_eq_true rfl | omega | (dsimp only [rm_X1_digestPot, rm_X1_partOf]; omega))⟩) rfl rfl rfl (by decide) rfl (fun _ => rfl) (by first | exact Nat.le_of_ble_eq_true rfl | omega | (dsimp only [rm_X1_digestPot, rm_X1_partOf]; omega)) (by first | exact Nat.le_of_ble_eq_true rfl | omega | (dsimp only [rm_X1_digestPot, rm_X1_partOf]; omega)) (fun r_2 u H locs hp_1 hW => ?_)
  subst hp_1
  refine lv_i2l hx hb dX1_digestPot_14 rfl ?_
  refine lv_ladd hx hb dX1_digestPot_15 ?_
  refine lv_topl (fun y_3 hy_3 => ?_)
  refine lv_lstore (lv' := [(4, .long y_3), (0, .ref x), (1, .long d), (3, .int (J (p : Int)))]) hx hb dX1_digestPot_16 hl (by decide) rfl (fun ls hl => ?_)
  refine lv_lload hx hb dX1_digestPot_18 (lv_at hl 0 rfl) ?_
  refine lv_ldc2 (v := 31) hx hb hown (hts _ (List.mem_of_getElem? (i := 1) rfl)) dX1_digestPot_20 ?_
  refine lv_lmul hx hb dX1_digestPot_23 ?_
  refine lv_aload_n hx hb dX1_digestPot_24 rfl (lv_at hl 1 rfl) ?_
  refine lv_iload_n hx hb dX1_digestPot_25 rfl (lv_at hl 3 rfl) ?_
  refine fin_i (k := 0) (n := 0) (W2 := (fun _ => (WX κ x a a2 ++ (WC κ a σ br)))) [0, 1, 2, 3, 4, 5, 6, 7] [] [0, 1, 2, 3, 4, 5, 6, 7] hW hA (va_runV (As := [.int (J (p : Int))]) (rest := [.long (y_3 * (31 : Int64))]) F ((m_X1_pitchOf l κ x a a2 σ br p (by omega) hI) _) (cwV 1 hts gX1_digestPot_X1_pitchOf rfl rfl rfl (by decide +kernel) ⟨(Nat.le_of_ble_eq_true rfl), (Nat.le_of_ble_eq_true rfl)⟩) (pre_V hK hW [0, 1, 2, 3, 4, 5, 6, 7] rfl (by decide) 1 0 rfl rfl) rfl rfl hl.1 rfl (lv_room (Nat.le_of_ble_eq_true rfl)) dX1_digestPot_26 ⟨(by first | exact Nat.le_of_ble_eq_true rfl | omega | (dsimp only [rm_X1_digestPot, rm_X1_pitchOf]; omega)), (by first | exact Nat.le_of_ble_eq_true rfl | omega | (dsimp only [rm_X1_digestPot, rm_X1_pitchOf]; omega))⟩) rfl rfl rfl (by decide) rfl (fun _ => rfl) (by first | exact Nat.le_of_ble_eq_true rfl | omega | (dsimp only [rm_X1_digestPot, rm_X1_pitchOf]; omega)) (by first | exact Nat.le_of_ble_eq_true rfl | omega | (dsimp only [rm_X1_digestPot, rm_X1_pitchOf]; omega)) (fun r_5 u H locs hp_4 hW => ?_)
  subst hp_4
  refine lv_i2l hx hb dX1_digestPot_29 rfl ?_
  refine lv_ladd hx hb dX1_digestPot_30 ?_
  refine lv_topl (fun y_6 hy_6 => ?_)
  refine lv_lstore (lv' := [(4, .long y_6), (0, .ref x), (1, .long d), (3, .int (J (p : Int)))]) hx hb dX1_digestPot_31 hl (by decide) rfl (fun ls hl => ?_)
  refine lv_lload hx hb dX1_digestPot_33 (lv_at hl 0 rfl) ?_
  refine lv_ldc2 (v := 31) hx hb hown (hts _ (List.mem_of_getElem? (i := 1) rfl)) dX1_digestPot_35 ?_
  refine lv_lmul hx hb dX1_digestPot_38 ?_
  refine lv_aload_n hx hb dX1_digestPot_39 rfl (lv_at hl 1 rfl) ?_
  refine lv_iload_n hx hb dX1_digestPot_40 rfl (lv_at hl 3 rfl) ?_
  refine fin_i (k := 0) (n := 0) (W2 := (fun _ => (WX κ x a a2 ++ (WC κ a σ br)))) [0, 1, 2, 3, 4, 5, 6, 7] [] [0, 1, 2, 3, 4, 5, 6, 7] hW hA (va_runV (As := [.int (J (p : Int))]) (rest := [.long (y_6 * (31 : Int64))]) F ((m_X1_teaOf l κ x a a2 σ br p (by omega) hI) _) (cwV 1 hts gX1_digestPot_X1_teaOf rfl rfl rfl (by decide +kernel) ⟨(Nat.le_of_ble_eq_true rfl), (Nat.le_of_ble_eq_true rfl)⟩) (pre_V hK hW [0, 1, 2, 3, 4, 5, 6, 7] rfl (by decide) 1 0 rfl rfl) rfl rfl hl.1 rfl (lv_room (Nat.le_of_ble_eq_true rfl)) dX1_digestPot_41 ⟨(by first | exact Nat.le_of_ble_eq_true rfl | omega | (dsimp only [rm_X1_digestPot, rm_X1_teaOf]; omega)), (by first | exact Nat.le_of_ble_eq_true rfl | omega | (dsimp only [rm_X1_digestPot, rm_X1_teaOf]; omega))⟩) rfl rfl rfl (by decide) rfl (fun _ => rfl) (by first | exact Nat.le_of_ble_eq_true rfl | omega | (dsimp only [rm_X1_digestPot, rm_X1_teaOf]; omega)) (by first | exact Nat.le_of_ble_eq_true rfl | omega | (dsimp only [rm_X1_digestPot, rm_X1_teaOf]; omega)) (fun r_8 u H locs hp_7 hW => ?_)
  subst hp_7
  refine lv_i2l hx hb dX1_digestPot_44 rfl ?_
  refine lv_ladd hx hb dX1_digestPot_45 ?_
  refine lv_topl (fun y_9 hy_9 => ?_)
  refine lv_lstore (lv' := [(4, .long y_9), (0, .ref x), (1, .long d), (3, .int (J (p : Int)))]) hx hb dX1_digestPot_46 hl (by decide) rfl (fun ls hl => ?_)
  refine lv_lload hx hb dX1_digestPot_48 (lv_at hl 0 rfl) ?_
  refine lv_ldc2 (v := 31) hx hb hown (hts _ (List.mem_of_getElem? (i := 1) rfl)) dX1_digestPot_50 ?_
  refine lv_lmul hx hb dX1_digestPot_53 ?_
  refine lv_aload_n hx hb dX1_digestPot_54 rfl (lv_at hl 1 rfl) ?_
  refine lv_iload_n hx hb dX1_digestPot_55 rfl (lv_at hl 3 rfl) ?_
  refine fin_i (k := 0) (n := 0) (W2 := (fun _ => (WX κ x a a2 ++ (WC κ a σ br)))) [0, 1, 2, 3, 4, 5, 6, 7] [] [0, 1, 2, 3, 4, 5, 6, 7] hW hA (va_runV (As := [.int (J (p : Int))]) (rest := [.long (y_9 * (31 : Int64))]) F ((m_X1_crackOf l κ x a a2 σ br p (by omega) hI) _) (cwV 1 hts gX1_digestPot_X1_crackOf rfl rfl rfl (by decide +kernel) ⟨(Nat.le_of_ble_eq_true rfl), (Nat.le_of_ble_eq_true rfl)⟩) (pre_V hK hW [0, 1, 2, 3, 4, 5, 6, 7] rfl (by decide) 1 0 rfl rfl) rfl rfl hl.1 rfl (lv_room (Nat.le_of_ble_eq_true rfl)) dX1_digestPot_56 ⟨(by first | exact Nat.le_of_ble_eq_true rfl | omega | (dsimp only [rm_X1_digestPot, rm_X1_crackOf]; omega)), (by first | exact Nat.le_of_ble_eq_true rfl | omega | (dsimp only [rm_X1_digestPot, rm_X1_crackOf]; omega))⟩) rfl rfl rfl (by decide) rfl (fun _ => rfl) (by first | exact Nat.le_of_ble_eq_true rfl | omega | (dsimp only [rm_X1_digestPot, rm_X1_crackOf]; omega)) (by first | exact Nat.le_of_ble_eq_true rfl | omega | (dsimp only [rm_X1_digestPot, rm_X1_crackOf]; omega)) (fun r_11 u H locs hp_10 hW => ?_)
  subst hp_10
  refine lv_i2l hx hb dX1_digestPot_59 rfl ?_
  refine lv_ladd hx hb dX1_digestPot_60 ?_
  refine lv_topl (fun y_12 hy_12 => ?_)
  refine lv_lstore (lv' := [(4, .long y_12), (0, .ref x), (1, .long d), (3, .int (J (p : Int)))]) hx hb dX1_digestPot_61 hl (by decide) rfl (fun ls hl => ?_)
  refine lv_lload hx hb dX1_digestPot_63 (lv_at hl 0 rfl) ?_
  refine lv_ldc2 (v := 31) hx hb hown (hts _ (List.mem_of_getElem? (i := 1) rfl)) dX1_digestPot_65 ?_
  refine lv_lmul hx hb dX1_digestPot_68 ?_
  refine lv_aload_n hx hb dX1_digestPot_69 rfl (lv_at hl 1 rfl) ?_
  refine lv_iload_n hx hb dX1_digestPot_70 rfl (lv_at hl 3 rfl) ?_
  refine fin_i (k := 0) (n := 0) (W2 := (fun _ => (WX κ x a a2 ++ (WC κ a σ br)))) [0, 1, 2, 3, 4, 5, 6, 7] [] [0, 1, 2, 3, 4, 5, 6, 7] hW hA (va_runV (As := [.int (J (p : Int))]) (rest := [.long (y_12 * (31 : Int64))]) F ((m_X1_sounds l κ x a a2 σ br p (by omega) hI) _) (cwV 1 hts gX1_digestPot_X1_sounds rfl rfl rfl (by decide +kernel) ⟨(Nat.le_of_ble_eq_true rfl), (Nat.le_of_ble_eq_true rfl)⟩) (pre_V hK hW [0, 1, 2, 3, 4, 5, 6, 7] rfl (by decide) 1 0 rfl rfl) rfl rfl hl.1 rfl (lv_room (Nat.le_of_ble_eq_true rfl)) dX1_digestPot_71 ⟨(by first | exact Nat.le_of_ble_eq_true rfl | omega | (dsimp only [rm_X1_digestPot, rm_X1_sounds]; omega)), (by first | exact Nat.le_of_ble_eq_true rfl | omega | (dsimp only [rm_X1_digestPot, rm_X1_sounds]; omega))⟩) rfl rfl rfl (by decide) rfl (fun _ => rfl) (by first | exact Nat.le_of_ble_eq_true rfl | omega | (dsimp only [rm_X1_digestPot, rm_X1_sounds]; omega)) (by first | exact Nat.le_of_ble_eq_true rfl | omega | (dsimp only [rm_X1_digestPot, rm_X1_sounds]; omega)) (fun r_14 u H locs hp_13 hW => ?_)
  subst hp_13
  have j82 : ∀ (H : Heap) (locs : List Loc) (ls : Array Slot), St κ A s.heap H locs (WX κ x a a2 ++ (WC κ a σ br)) → lv_has ls 6 [(4, .long y_12), (0, .ref x), (1, .long d), (3, .int (J (p : Int)))] → W P l e rm_X1_digestPot s m args below meth c H locs 0 0 Q (F0 m 82 ls [.int (J (bi (sn σ p))), .long (y_12 * (31 : Int64))]) := by
    intro H locs ls hW hl
    refine lv_i2l hx hb dX1_digestPot_82 rfl ?_
    refine lv_ladd hx hb dX1_digestPot_83 ?_
    refine lv_topl (fun y_15 hy_15 => ?_)
    refine lv_lstore (lv' := [(4, .long y_15), (0, .ref x), (1, .long d), (3, .int (J (p : Int)))]) hx hb dX1_digestPot_84 hl (by decide) rfl (fun ls hl => ?_)
    refine lv_lload hx hb dX1_digestPot_86 (lv_at hl 0 rfl) ?_
    refine lv_ldc2 (v := 31) hx hb hown (hts _ (List.mem_of_getElem? (i := 1) rfl)) dX1_digestPot_88 ?_
    refine lv_lmul hx hb dX1_digestPot_91 ?_
    refine lv_aload_n hx hb dX1_digestPot_92 rfl (lv_at hl 1 rfl) ?_
    refine lv_iload_n hx hb dX1_digestPot_93 rfl (lv_at hl 3 rfl) ?_
    refine fin_i (k := 0) (n := 0) (W2 := (fun _ => (WX κ x a a2 ++ (WC κ a σ br)))) [0, 1, 2, 3, 4, 5, 6, 7] [] [0, 1, 2, 3, 4, 5, 6, 7] hW hA (va_runV (As := [.int (J (p : Int))]) (rest := [.long (y_15 * (31 : Int64))]) F ((m_X1_clashesOf l κ x a a2 σ br p (by omega) hI) _) (cwV 1 hts gX1_digestPot_X1_clashesOf rfl rfl rfl (by decide +kernel) ⟨(Nat.le_of_ble_eq_true rfl), (Nat.le_of_ble_eq_true rfl)⟩) (pre_V hK hW [0, 1, 2, 3, 4, 5, 6, 7] rfl (by decide) 1 0 rfl rfl) rfl rfl hl.1 rfl (lv_room (Nat.le_of_ble_eq_true rfl)) dX1_digestPot_94 ⟨(by first | exact Nat.le_of_ble_eq_true rfl | omega | (dsimp only [rm_X1_digestPot, rm_X1_clashesOf]; omega)), (by first | exact Nat.le_of_ble_eq_true rfl | omega | (dsimp only [rm_X1_digestPot, rm_X1_clashesOf]; omega))⟩) rfl rfl rfl (by decide) rfl (fun _ => rfl) (by first | exact Nat.le_of_ble_eq_true rfl | omega | (dsimp only [rm_X1_digestPot, rm_X1_clashesOf]; omega)) (by first | exact Nat.le_of_ble_eq_true rfl | omega | (dsimp only [rm_X1_digestPot, rm_X1_clashesOf]; omega)) (fun r_17 u H locs hp_16 hW => ?_)
    subst hp_16
    refine lv_i2l hx hb dX1_digestPot_97 rfl ?_
    refine lv_ladd hx hb dX1_digestPot_98 ?_
    refine lv_topl (fun y_18 hy_18 => ?_)
    refine lv_lstore (lv' := [(4, .long y_18), (0, .ref x), (1, .long d), (3, .int (J (p : Int)))]) hx hb dX1_digestPot_99 hl (by decide) rfl (fun ls hl => ?_)
    refine lv_lload hx hb dX1_digestPot_101 (lv_at hl 0 rfl) ?_
    refine lv_ldc2 (v := 31) hx hb hown (hts _ (List.mem_of_getElem? (i := 1) rfl)) dX1_digestPot_103 ?_
    refine lv_lmul hx hb dX1_digestPot_106 ?_
    refine lv_aload_n hx hb dX1_digestPot_107 rfl (lv_at hl 1 rfl) ?_
    refine lv_iload_n hx hb dX1_digestPot_108 rfl (lv_at hl 3 rfl) ?_
    refine fin_i (k := 0) (n := 0) (W2 := (fun _ => (WX κ x a a2 ++ (WC κ a σ br)))) [0, 1, 2, 3, 4, 5, 6, 7] [] [0, 1, 2, 3, 4, 5, 6, 7] hW hA (va_runV (As := [.int (J (p : Int))]) (rest := [.long (y_18 * (31 : Int64))]) F ((m_X1_bestTuning l κ x a a2 σ br p (by omega) hI) _) (cwV 1 hts gX1_digestPot_X1_bestTuning rfl rfl rfl (by decide +kernel) ⟨(Nat.le_of_ble_eq_true rfl), (Nat.le_of_ble_eq_true rfl)⟩) (pre_V hK hW [0, 1, 2, 3, 4, 5, 6, 7] rfl (by decide) 1 0 rfl rfl) rfl rfl hl.1 rfl (lv_room (Nat.le_of_ble_eq_true rfl)) dX1_digestPot_109 ⟨(by first | exact Nat.le_of_ble_eq_true rfl | omega | (dsimp only [rm_X1_digestPot, rm_X1_bestTuning]; omega)), (by first | exact Nat.le_of_ble_eq_true rfl | omega | (dsimp only [rm_X1_digestPot, rm_X1_bestTuning]; omega))⟩) rfl rfl rfl (by decide) rfl (fun _ => rfl) (by first | exact Nat.le_of_ble_eq_true rfl | omega | (dsimp only [rm_X1_digestPot, rm_X1_bestTuning]; omega)) (by first | exact Nat.le_of_ble_eq_true rfl | omega | (dsimp only [rm_X1_digestPot, rm_X1_bestTuning]; omega)) (fun r_20 u H locs hp_19 hW => ?_)
    subst hp_19
    refine lv_i2l hx hb dX1_digestPot_112 rfl ?_
    refine lv_ladd hx hb dX1_digestPot_113 ?_
    refine lv_topl (fun y_21 hy_21 => ?_)
    refine lv_lstore (lv' := [(4, .long y_21), (0, .ref x), (1, .long d), (3, .int (J (p : Int)))]) hx hb dX1_digestPot_114 hl (by decide) rfl (fun ls hl => ?_)
    refine lv_lload hx hb dX1_digestPot_116 (lv_at hl 0 rfl) ?_
    exact hret () hW dX1_digestPot_118 (by first | exact Nat.le_of_ble_eq_true rfl | omega | (dsimp only [rm_X1_digestPot]; omega)) (by first | exact Nat.le_of_ble_eq_true rfl | omega | (dsimp only [rm_X1_digestPot]; omega)) (by rw [hy_21, hy_18, hy_15, hy_12, hy_9, hy_6, hy_3]; rfl)
  refine jv_ifb_eq (b := (sn σ p)) hx hb 81 dX1_digestPot_74 (by decide) (fun h_22 => ?_) (fun h_22 => ?_)
  · skip
    refine jv_iconst hx hb dX1_digestPot_81 ?_
    refine jv_eq (y := bi (sn σ p)) (by rw [h_22]; rfl) ?_
    exact j82 _ _ _ hW hl
  · skip
    refine jv_iconst hx hb dX1_digestPot_77 ?_
    refine lv_goto (tgt := 82) hx hb dX1_digestPot_78 (by decide) ?_
    refine jv_eq (y := bi (sn σ p)) (by rw [h_22]; rfl) ?_
    exact j82 _ _ _ hW hl

abbrev rm_X1_digest : Room := { frames := 7, cells := 0, slots := 0, locals := 150 }
set_option maxHeartbeats 4000000 in
set_option maxRecDepth 100000 in
/-- digest -/
theorem m_X1_digest (l : Launch) (κ : Kp) (x : Nat) (a a2 : Nat → Nat) (σ : Sg) (br : Nat → Int) (τ : Sg) (bt : Nat → Int) (hI : Inv σ) (hB : σ 5 0 ≤ 100000000) (hC : σ 5 1 ≤ 100000000) : CGl l yX1_digest wsX1_digest rm_X1_digest κ [.ref x] (WX κ x a a2 ++ (WC κ a σ br ++ (WC κ a2 τ bt))) (fun r (_ : Sg × (Nat → Int)) => r = dg σ) (fun (u : Sg × (Nat → Int)) => WX κ x a a2 ++ (WC κ a σ u.2 ++ WC κ a2 u.1 bt)) := by
  refine entry_l (by decide) rfl (Nat.le_of_ble_eq_true rfl) ?_
  intro P e s m args below meth c ls A Q F hname hK hA hret hW hl
  obtain ⟨hx, hb, hml, hown, hts⟩ := id F
  have hn0 : ∀ w ∈ wsX00, w ∈ wsX1_digest := by decide +kernel
  have hn1 : ∀ w ∈ wsX10, w ∈ wsX1_digest := by decide +kernel
  have hN := hI.hN
  have hN10 := hI.n10
  have hnn := hI.1
  refine lv_ldc2 (v := 2087) hx hb hown (hts _ (List.mem_of_getElem? (i := 1) rfl)) dX1_digest_0 ?_
  refine lv_lstore_n (lv' := [(1, .long (2087 : Int64)), (0, .ref x)]) hx hb dX1_digest_3 rfl hl (by decide) rfl (fun ls hl => ?_)
  refine lv_lload_n hx hb dX1_digest_4 rfl (lv_at hl 0 rfl) ?_
  refine lv_ldc2 (v := 31) hx hb hown (hts _ (List.mem_of_getElem? (i := 2) rfl)) dX1_digest_5 ?_
  refine lv_lmul hx hb dX1_digest_8 ?_
  refine lv_aload_n hx hb dX1_digest_9 rfl (lv_at hl 1 rfl) ?_
  refine fin_i (k := 0) (n := 0) (W2 := (fun _ => (WX κ x a a2 ++ (WC κ a σ br ++ (WC κ a2 τ bt))))) [0, 1, 2, 3, 4, 5, 6, 7] [8, 9, 10, 11, 12, 13, 14] [7, 8, 9, 10, 11, 12, 13, 14, 0, 1, 2, 3, 4, 5, 6] hW hA (va_runV (As := []) (rest := [.long ((2087 : Int64) * (31 : Int64))]) F ((m_X1_pots l κ x a a2 σ br hI) _) (cwV 0 hts gX1_digest_X1_pots rfl rfl rfl (by decide +kernel) ⟨(Nat.le_of_ble_eq_true rfl), (Nat.le_of_ble_eq_true rfl)⟩) (pre_V hK hW [0, 1, 2, 3, 4, 5, 6, 7] rfl (by decide) 1 0 rfl rfl) rfl rfl hl.1 rfl (lv_room (Nat.le_of_ble_eq_true rfl)) dX1_digest_10 ⟨(by first | exact Nat.le_of_ble_eq_true rfl | omega | (dsimp only [rm_X1_digest, rm_X1_pots]; omega)), (by first | exact Nat.le_of_ble_eq_true rfl | omega | (dsimp only [rm_X1_digest, rm_X1_pots]; omega))⟩) rfl rfl rfl (by decide) rfl (fun _ => rfl) (by first | exact Nat.le_of_ble_eq_true rfl | omega | (dsimp only [rm_X1_digest, rm_X1_pots]; omega)) (by first | exact Nat.le_of_ble_eq_true rfl | omega | (dsimp only [rm_X1_digest, rm_X1_pots]; omega)) (fun r_2 u H locs hp_1 hW => ?_)
  subst hp_1
  refine lv_i2l hx hb dX1_digest_13 rfl ?_
  refine lv_ladd hx hb dX1_digest_14 ?_
  refine lv_topl (fun y_3 hy_3 => ?_)
  refine lv_lstore_n (lv' := [(1, .long y_3), (0, .ref x)]) hx hb dX1_digest_15 rfl hl (by decide) rfl (fun ls hl => ?_)
  refine lv_lload_n hx hb dX1_digest_16 rfl (lv_at hl 0 rfl) ?_
  refine lv_ldc2 (v := 31) hx hb hown (hts _ (List.mem_of_getElem? (i := 2) rfl)) dX1_digest_17 ?_
  refine lv_lmul hx hb dX1_digest_20 ?_
  refine lv_aload_n hx hb dX1_digest_21 rfl (lv_at hl 1 rfl) ?_
  refine fin_i (k := 0) (n := 0) (W2 := (fun _ => (WX κ x a a2 ++ (WC κ a σ br ++ (WC κ a2 τ bt))))) [0, 1, 2, 3, 4, 5, 6, 7] [8, 9, 10, 11, 12, 13, 14] [7, 8, 9, 10, 11, 12, 13, 14, 0, 1, 2, 3, 4, 5, 6] hW hA (va_runV (As := []) (rest := [.long (y_3 * (31 : Int64))]) F ((m_X1_beats l κ x a a2 σ br hI) _) (cwV 0 hts gX1_digest_X1_beats rfl rfl rfl (by decide +kernel) ⟨(Nat.le_of_ble_eq_true rfl), (Nat.le_of_ble_eq_true rfl)⟩) (pre_V hK hW [0, 1, 2, 3, 4, 5, 6, 7] rfl (by decide) 1 0 rfl rfl) rfl rfl hl.1 rfl (lv_room (Nat.le_of_ble_eq_true rfl)) dX1_digest_22 ⟨(by first | exact Nat.le_of_ble_eq_true rfl | omega | (dsimp only [rm_X1_digest, rm_X1_beats]; omega)), (by first | exact Nat.le_of_ble_eq_true rfl | omega | (dsimp only [rm_X1_digest, rm_X1_beats]; omega))⟩) rfl rfl rfl (by decide) rfl (fun _ => rfl) (by first | exact Nat.le_of_ble_eq_true rfl | omega | (dsimp only [rm_X1_digest, rm_X1_beats]; omega)) (by first | exact Nat.le_of_ble_eq_true rfl | omega | (dsimp only [rm_X1_digest, rm_X1_beats]; omega)) (fun r_5 u H locs hp_4 hW => ?_)
  subst hp_4
  refine lv_i2l hx hb dX1_digest_25 rfl ?_
  refine lv_ladd hx hb dX1_digest_26 ?_
  refine lv_topl (fun y_6 hy_6 => ?_)
  refine lv_lstore_n (lv' := [(1, .long y_6), (0, .ref x)]) hx hb dX1_digest_27 rfl hl (by decide) rfl (fun ls hl => ?_)
  refine lv_lload_n hx hb dX1_digest_28 rfl (lv_at hl 0 rfl) ?_
  refine lv_ldc2 (v := 31) hx hb hown (hts _ (List.mem_of_getElem? (i := 2) rfl)) dX1_digest_29 ?_
  refine lv_lmul hx hb dX1_digest_32 ?_
  refine lv_aload_n hx hb dX1_digest_33 rfl (lv_at hl 1 rfl) ?_
  refine fin_i (k := 0) (n := 0) (W2 := (fun _ => (WX κ x a a2 ++ (WC κ a σ br ++ (WC κ a2 τ bt))))) [0, 1, 2, 3, 4, 5, 6, 7] [8, 9, 10, 11, 12, 13, 14] [7, 8, 9, 10, 11, 12, 13, 14, 0, 1, 2, 3, 4, 5, 6] hW hA (va_runV (As := []) (rest := [.long (y_6 * (31 : Int64))]) F ((m_X1_sounding l κ x a a2 σ br hI) _) (cwV 0 hts gX1_digest_X1_sounding rfl rfl rfl (by decide +kernel) ⟨(Nat.le_of_ble_eq_true rfl), (Nat.le_of_ble_eq_true rfl)⟩) (pre_V hK hW [0, 1, 2, 3, 4, 5, 6, 7] rfl (by decide) 1 0 rfl rfl) rfl rfl hl.1 rfl (lv_room (Nat.le_of_ble_eq_true rfl)) dX1_digest_34 ⟨(by first | exact Nat.le_of_ble_eq_true rfl | omega | (dsimp only [rm_X1_digest, rm_X1_sounding]; omega)), (by first | exact Nat.le_of_ble_eq_true rfl | omega | (dsimp only [rm_X1_digest, rm_X1_sounding]; omega))⟩) rfl rfl rfl (by decide) rfl (fun _ => rfl) (by first | exact Nat.le_of_ble_eq_true rfl | omega | (dsimp only [rm_X1_digest, rm_X1_sounding]; omega)) (by first | exact Nat.le_of_ble_eq_true rfl | omega | (dsimp only [rm_X1_digest, rm_X1_sounding]; omega)) (fun r_8 u H locs hp_7 hW => ?_)
  subst hp_7
  refine lv_i2l hx hb dX1_digest_37 rfl ?_
  refine lv_ladd hx hb dX1_digest_38 ?_
  refine lv_topl (fun y_9 hy_9 => ?_)
  refine lv_lstore_n (lv' := [(1, .long y_9), (0, .ref x)]) hx hb dX1_digest_39 rfl hl (by decide) rfl (fun ls hl => ?_)
  refine lv_lload_n hx hb dX1_digest_40 rfl (lv_at hl 0 rfl) ?_
  refine lv_ldc2 (v := 31) hx hb hown (hts _ (List.mem_of_getElem? (i := 2) rfl)) dX1_digest_41 ?_
  refine lv_lmul hx hb dX1_digest_44 ?_
  refine lv_aload_n hx hb dX1_digest_45 rfl (lv_at hl 1 rfl) ?_
  refine fin_i (k := 0) (n := 0) (W2 := (fun _ => (WX κ x a a2 ++ (WC κ a σ br ++ (WC κ a2 τ bt))))) [0, 1, 2, 3, 4, 5, 6, 7] [8, 9, 10, 11, 12, 13, 14] [7, 8, 9, 10, 11, 12, 13, 14, 0, 1, 2, 3, 4, 5, 6] hW hA (va_runV (As := []) (rest := [.long (y_9 * (31 : Int64))]) F ((m_X1_harmony l κ x a a2 σ br hI) _) (cwV 0 hts gX1_digest_X1_harmony rfl rfl rfl (by decide +kernel) ⟨(Nat.le_of_ble_eq_true rfl), (Nat.le_of_ble_eq_true rfl)⟩) (pre_V hK hW [0, 1, 2, 3, 4, 5, 6, 7] rfl (by decide) 1 0 rfl rfl) rfl rfl hl.1 rfl (lv_room (Nat.le_of_ble_eq_true rfl)) dX1_digest_46 ⟨(by first | exact Nat.le_of_ble_eq_true rfl | omega | (dsimp only [rm_X1_digest, rm_X1_harmony]; omega)), (by first | exact Nat.le_of_ble_eq_true rfl | omega | (dsimp only [rm_X1_digest, rm_X1_harmony]; omega))⟩) rfl rfl rfl (by decide) rfl (fun _ => rfl) (by first | exact Nat.le_of_ble_eq_true rfl | omega | (dsimp only [rm_X1_digest, rm_X1_harmony]; omega)) (by first | exact Nat.le_of_ble_eq_true rfl | omega | (dsimp only [rm_X1_digest, rm_X1_harmony]; omega)) (fun r_11 u H locs hp_10 hW => ?_)
  subst hp_10
  refine lv_i2l hx hb dX1_digest_49 rfl ?_
  refine lv_ladd hx hb dX1_digest_50 ?_
  refine lv_topl (fun y_12 hy_12 => ?_)
  refine lv_lstore_n (lv' := [(1, .long y_12), (0, .ref x)]) hx hb dX1_digest_51 rfl hl (by decide) rfl (fun ls hl => ?_)
  refine lv_lload_n hx hb dX1_digest_52 rfl (lv_at hl 0 rfl) ?_
  refine lv_ldc2 (v := 31) hx hb hown (hts _ (List.mem_of_getElem? (i := 2) rfl)) dX1_digest_53 ?_
  refine lv_lmul hx hb dX1_digest_56 ?_
  refine lv_aload_n hx hb dX1_digest_57 rfl (lv_at hl 1 rfl) ?_
  refine fin_i (k := 0) (n := 0) (W2 := (fun _ => (WX κ x a a2 ++ (WC κ a σ br ++ (WC κ a2 τ bt))))) [0, 1, 2, 3, 4, 5, 6, 7] [8, 9, 10, 11, 12, 13, 14] [7, 8, 9, 10, 11, 12, 13, 14, 0, 1, 2, 3, 4, 5, 6] hW hA (va_runV (As := []) (rest := [.long (y_12 * (31 : Int64))]) F ((m_X1_clashes l κ x a a2 σ br hI) _) (cwV 0 hts gX1_digest_X1_clashes rfl rfl rfl (by decide +kernel) ⟨(Nat.le_of_ble_eq_true rfl), (Nat.le_of_ble_eq_true rfl)⟩) (pre_V hK hW [0, 1, 2, 3, 4, 5, 6, 7] rfl (by decide) 1 0 rfl rfl) rfl rfl hl.1 rfl (lv_room (Nat.le_of_ble_eq_true rfl)) dX1_digest_58 ⟨(by first | exact Nat.le_of_ble_eq_true rfl | omega | (dsimp only [rm_X1_digest, rm_X1_clashes]; omega)), (by first | exact Nat.le_of_ble_eq_true rfl | omega | (dsimp only [rm_X1_digest, rm_X1_clashes]; omega))⟩) rfl rfl rfl (by decide) rfl (fun _ => rfl) (by first | exact Nat.le_of_ble_eq_true rfl | omega | (dsimp only [rm_X1_digest, rm_X1_clashes]; omega)) (by first | exact Nat.le_of_ble_eq_true rfl | omega | (dsimp only [rm_X1_digest, rm_X1_clashes]; omega)) (fun r_14 u H locs hp_13 hW => ?_)
  subst hp_13
  refine lv_i2l hx hb dX1_digest_61 rfl ?_
  refine lv_ladd hx hb dX1_digest_62 ?_
  refine lv_topl (fun y_15 hy_15 => ?_)
  refine lv_lstore_n (lv' := [(1, .long y_15), (0, .ref x)]) hx hb dX1_digest_63 rfl hl (by decide) rfl (fun ls hl => ?_)
  refine lv_lload_n hx hb dX1_digest_64 rfl (lv_at hl 0 rfl) ?_
  refine lv_ldc2 (v := 31) hx hb hown (hts _ (List.mem_of_getElem? (i := 2) rfl)) dX1_digest_65 ?_
  refine lv_lmul hx hb dX1_digest_68 ?_
  refine lv_aload_n hx hb dX1_digest_69 rfl (lv_at hl 1 rfl) ?_
  refine fin_i (k := 0) (n := 0) (W2 := (fun _ => (WX κ x a a2 ++ (WC κ a σ br ++ (WC κ a2 τ bt))))) [0, 1, 2, 3, 4, 5, 6, 7] [8, 9, 10, 11, 12, 13, 14] [7, 8, 9, 10, 11, 12, 13, 14, 0, 1, 2, 3, 4, 5, 6] hW hA (va_runV (As := []) (rest := [.long (y_15 * (31 : Int64))]) F ((m_X1_harshest l κ x a a2 σ br hI) _) (cwV 0 hts gX1_digest_X1_harshest rfl rfl rfl (by decide +kernel) ⟨(Nat.le_of_ble_eq_true rfl), (Nat.le_of_ble_eq_true rfl)⟩) (pre_V hK hW [0, 1, 2, 3, 4, 5, 6, 7] rfl (by decide) 1 0 rfl rfl) rfl rfl hl.1 rfl (lv_room (Nat.le_of_ble_eq_true rfl)) dX1_digest_70 ⟨(by first | exact Nat.le_of_ble_eq_true rfl | omega | (dsimp only [rm_X1_digest, rm_X1_harshest]; omega)), (by first | exact Nat.le_of_ble_eq_true rfl | omega | (dsimp only [rm_X1_digest, rm_X1_harshest]; omega))⟩) rfl rfl rfl (by decide) rfl (fun _ => rfl) (by first | exact Nat.le_of_ble_eq_true rfl | omega | (dsimp only [rm_X1_digest, rm_X1_harshest]; omega)) (by first | exact Nat.le_of_ble_eq_true rfl | omega | (dsimp only [rm_X1_digest, rm_X1_harshest]; omega)) (fun r_17 u H locs hp_16 hW => ?_)
  subst hp_16
  refine lv_i2l hx hb dX1_digest_73 rfl ?_
  refine lv_ladd hx hb dX1_digest_74 ?_
  refine lv_topl (fun y_18 hy_18 => ?_)
  refine lv_lstore_n (lv' := [(1, .long y_18), (0, .ref x)]) hx hb dX1_digest_75 rfl hl (by decide) rfl (fun ls hl => ?_)
  refine lv_lload_n hx hb dX1_digest_76 rfl (lv_at hl 0 rfl) ?_
  refine lv_ldc2 (v := 31) hx hb hown (hts _ (List.mem_of_getElem? (i := 2) rfl)) dX1_digest_77 ?_
  refine lv_lmul hx hb dX1_digest_80 ?_
  refine lv_aload_n hx hb dX1_digest_81 rfl (lv_at hl 1 rfl) ?_
  refine fin_i (k := 0) (n := 0) (W2 := (fun _ => (WX κ x a a2 ++ (WC κ a σ br ++ (WC κ a2 τ bt))))) [0, 1, 2, 3, 4, 5, 6, 7] [8, 9, 10, 11, 12, 13, 14] [7, 8, 9, 10, 11, 12, 13, 14, 0, 1, 2, 3, 4, 5, 6] hW hA (va_runV (As := []) (rest := [.long (y_18 * (31 : Int64))]) F ((m_X1_lowest l κ x a a2 σ br hI) _) (cwV 0 hts gX1_digest_X1_lowest rfl rfl rfl (by decide +kernel) ⟨(Nat.le_of_ble_eq_true rfl), (Nat.le_of_ble_eq_true rfl)⟩) (pre_V hK hW [0, 1, 2, 3, 4, 5, 6, 7] rfl (by decide) 1 0 rfl rfl) rfl rfl hl.1 rfl (lv_room (Nat.le_of_ble_eq_true rfl)) dX1_digest_82 ⟨(by first | exact Nat.le_of_ble_eq_true rfl | omega | (dsimp only [rm_X1_digest, rm_X1_lowest]; omega)), (by first | exact Nat.le_of_ble_eq_true rfl | omega | (dsimp only [rm_X1_digest, rm_X1_lowest]; omega))⟩) rfl rfl rfl (by decide) rfl (fun _ => rfl) (by first | exact Nat.le_of_ble_eq_true rfl | omega | (dsimp only [rm_X1_digest, rm_X1_lowest]; omega)) (by first | exact Nat.le_of_ble_eq_true rfl | omega | (dsimp only [rm_X1_digest, rm_X1_lowest]; omega)) (fun r_20 u H locs hp_19 hW => ?_)
  subst hp_19
  refine lv_i2l hx hb dX1_digest_85 rfl ?_
  refine lv_ladd hx hb dX1_digest_86 ?_
  refine lv_topl (fun y_21 hy_21 => ?_)
  refine lv_lstore_n (lv' := [(1, .long y_21), (0, .ref x)]) hx hb dX1_digest_87 rfl hl (by decide) rfl (fun ls hl => ?_)
  refine lv_lload_n hx hb dX1_digest_88 rfl (lv_at hl 0 rfl) ?_
  refine lv_ldc2 (v := 31) hx hb hown (hts _ (List.mem_of_getElem? (i := 2) rfl)) dX1_digest_89 ?_
  refine lv_lmul hx hb dX1_digest_92 ?_
  refine lv_aload_n hx hb dX1_digest_93 rfl (lv_at hl 1 rfl) ?_
  refine fin_i (k := 0) (n := 0) (W2 := (fun _ => (WX κ x a a2 ++ (WC κ a σ br ++ (WC κ a2 τ bt))))) [0, 1, 2, 3, 4, 5, 6, 7] [8, 9, 10, 11, 12, 13, 14] [7, 8, 9, 10, 11, 12, 13, 14, 0, 1, 2, 3, 4, 5, 6] hW hA (va_runV (As := []) (rest := [.long (y_21 * (31 : Int64))]) F ((m_X1_isClear l κ x a a2 σ br hI) _) (cwV 0 hts gX1_digest_X1_isClear rfl rfl rfl (by decide +kernel) ⟨(Nat.le_of_ble_eq_true rfl), (Nat.le_of_ble_eq_true rfl)⟩) (pre_V hK hW [0, 1, 2, 3, 4, 5, 6, 7] rfl (by decide) 1 0 rfl rfl) rfl rfl hl.1 rfl (lv_room (Nat.le_of_ble_eq_true rfl)) dX1_digest_94 ⟨(by first | exact Nat.le_of_ble_eq_true rfl | omega | (dsimp only [rm_X1_digest, rm_X1_isClear]; omega)), (by first | exact Nat.le_of_ble_eq_true rfl | omega | (dsimp only [rm_X1_digest, rm_X1_isClear]; omega))⟩) rfl rfl rfl (by decide) rfl (fun _ => rfl) (by first | exact Nat.le_of_ble_eq_true rfl | omega | (dsimp only [rm_X1_digest, rm_X1_isClear]; omega)) (by first | exact Nat.le_of_ble_eq_true rfl | omega | (dsimp only [rm_X1_digest, rm_X1_isClear]; omega)) (fun r_23 u H locs hp_22 hW => ?_)
  subst hp_22
  have j105 : ∀ (H : Heap) (locs : List Loc) (ls : Array Slot), St κ A s.heap H locs (WX κ x a a2 ++ (WC κ a σ br ++ (WC κ a2 τ bt))) → lv_has ls 4 [(1, .long y_21), (0, .ref x)] → W P l e rm_X1_digest s m args below meth c H locs 0 0 Q (F0 m 105 ls [.int (J (bi (ic σ))), .long (y_21 * (31 : Int64))]) := by
    intro H locs ls hW hl
    refine lv_i2l hx hb dX1_digest_105 rfl ?_
    refine lv_ladd hx hb dX1_digest_106 ?_
    refine lv_topl (fun y_24 hy_24 => ?_)
    refine lv_lstore_n (lv' := [(1, .long y_24), (0, .ref x)]) hx hb dX1_digest_107 rfl hl (by decide) rfl (fun ls hl => ?_)
    refine lv_lload_n hx hb dX1_digest_108 rfl (lv_at hl 0 rfl) ?_
    refine lv_ldc2 (v := 31) hx hb hown (hts _ (List.mem_of_getElem? (i := 2) rfl)) dX1_digest_109 ?_
    refine lv_lmul hx hb dX1_digest_112 ?_
    refine lv_aload_n hx hb dX1_digest_113 rfl (lv_at hl 1 rfl) ?_
    refine fin_i (k := 0) (n := 0) (W2 := (fun _ => (WX κ x a a2 ++ (WC κ a σ br ++ (WC κ a2 τ bt))))) [0, 1, 2, 3, 4, 5, 6, 7] [8, 9, 10, 11, 12, 13, 14] [7, 8, 9, 10, 11, 12, 13, 14, 0, 1, 2, 3, 4, 5, 6] hW hA (va_runV (As := []) (rest := [.long (y_24 * (31 : Int64))]) F ((m_X1_cadences l κ x a a2 σ br hI) _) (cwV 0 hts gX1_digest_X1_cadences rfl rfl rfl (by decide +kernel) ⟨(Nat.le_of_ble_eq_true rfl), (Nat.le_of_ble_eq_true rfl)⟩) (pre_V hK hW [0, 1, 2, 3, 4, 5, 6, 7] rfl (by decide) 1 0 rfl rfl) rfl rfl hl.1 rfl (lv_room (Nat.le_of_ble_eq_true rfl)) dX1_digest_114 ⟨(by first | exact Nat.le_of_ble_eq_true rfl | omega | (dsimp only [rm_X1_digest, rm_X1_cadences]; omega)), (by first | exact Nat.le_of_ble_eq_true rfl | omega | (dsimp only [rm_X1_digest, rm_X1_cadences]; omega))⟩) rfl rfl rfl (by decide) rfl (fun _ => rfl) (by first | exact Nat.le_of_ble_eq_true rfl | omega | (dsimp only [rm_X1_digest, rm_X1_cadences]; omega)) (by first | exact Nat.le_of_ble_eq_true rfl | omega | (dsimp only [rm_X1_digest, rm_X1_cadences]; omega)) (fun r_26 u H locs hp_25 hW => ?_)
    subst hp_25
    refine lv_i2l hx hb dX1_digest_117 rfl ?_
    refine lv_ladd hx hb dX1_digest_118 ?_
    refine lv_topl (fun y_27 hy_27 => ?_)
    refine lv_lstore_n (lv' := [(1, .long y_27), (0, .ref x)]) hx hb dX1_digest_119 rfl hl (by decide) rfl (fun ls hl => ?_)
    refine lv_lload_n hx hb dX1_digest_120 rfl (lv_at hl 0 rfl) ?_
    refine lv_ldc2 (v := 31) hx hb hown (hts _ (List.mem_of_getElem? (i := 2) rfl)) dX1_digest_121 ?_
    refine lv_lmul hx hb dX1_digest_124 ?_
    refine lv_aload_n hx hb dX1_digest_125 rfl (lv_at hl 1 rfl) ?_
    refine fin_i (k := 0) (n := 0) (W2 := (fun _ => (WX κ x a a2 ++ (WC κ a σ br ++ (WC κ a2 τ bt))))) [0, 1, 2, 3, 4, 5, 6, 7] [8, 9, 10, 11, 12, 13, 14] [7, 8, 9, 10, 11, 12, 13, 14, 0, 1, 2, 3, 4, 5, 6] hW hA (va_runV (As := []) (rest := [.long (y_27 * (31 : Int64))]) F ((m_X1_bestToMute l κ x a a2 σ br hI) _) (cwV 0 hts gX1_digest_X1_bestToMute rfl rfl rfl (by decide +kernel) ⟨(Nat.le_of_ble_eq_true rfl), (Nat.le_of_ble_eq_true rfl)⟩) (pre_V hK hW [0, 1, 2, 3, 4, 5, 6, 7] rfl (by decide) 1 0 rfl rfl) rfl rfl hl.1 rfl (lv_room (Nat.le_of_ble_eq_true rfl)) dX1_digest_126 ⟨(by first | exact Nat.le_of_ble_eq_true rfl | omega | (dsimp only [rm_X1_digest, rm_X1_bestToMute]; omega)), (by first | exact Nat.le_of_ble_eq_true rfl | omega | (dsimp only [rm_X1_digest, rm_X1_bestToMute]; omega))⟩) rfl rfl rfl (by decide) rfl (fun _ => rfl) (by first | exact Nat.le_of_ble_eq_true rfl | omega | (dsimp only [rm_X1_digest, rm_X1_bestToMute]; omega)) (by first | exact Nat.le_of_ble_eq_true rfl | omega | (dsimp only [rm_X1_digest, rm_X1_bestToMute]; omega)) (fun r_29 u H locs hp_28 hW => ?_)
    subst hp_28
    refine lv_i2l hx hb dX1_digest_129 rfl ?_
    refine lv_ladd hx hb dX1_digest_130 ?_
    refine lv_topl (fun y_30 hy_30 => ?_)
    refine lv_lstore_n (lv' := [(1, .long y_30), (0, .ref x)]) hx hb dX1_digest_131 rfl hl (by decide) rfl (fun ls hl => ?_)
    refine lv_lload_n hx hb dX1_digest_132 rfl (lv_at hl 0 rfl) ?_
    refine lv_ldc2 (v := 31) hx hb hown (hts _ (List.mem_of_getElem? (i := 2) rfl)) dX1_digest_133 ?_
    refine lv_lmul hx hb dX1_digest_136 ?_
    refine lv_aload_n hx hb dX1_digest_137 rfl (lv_at hl 1 rfl) ?_
    refine fin_i (k := 0) (n := 0) (W2 := (fun τ1 => (WX κ x a a2 ++ (WC κ a σ br ++ (WC κ a2 τ1 bt))))) [0, 1, 2, 3, 4, 5, 6, 7, 8, 9, 10, 11, 12, 13, 14] [] [0, 1, 2, 3, 4, 5, 6, 7, 8, 9, 10, 11, 12, 13, 14] hW hA (va_runV (As := []) (rest := [.long (y_30 * (31 : Int64))]) F ((m_X1_beatsUntilSilence l κ x a a2 σ br τ bt hI (by omega)) _) (cwV 0 hts gX1_digest_X1_beatsUntilSilence rfl rfl rfl (by decide +kernel) ⟨(Nat.le_of_ble_eq_true rfl), (Nat.le_of_ble_eq_true rfl)⟩) (pre_V hK hW [0, 1, 2, 3, 4, 5, 6, 7, 8, 9, 10, 11, 12, 13, 14] rfl (by decide) 1 0 rfl rfl) rfl rfl hl.1 rfl (lv_room (Nat.le_of_ble_eq_true rfl)) dX1_digest_138 ⟨(by first | exact Nat.le_of_ble_eq_true rfl | omega | (dsimp only [rm_X1_digest, rm_X1_beatsUntilSilence]; omega)), (by first | exact Nat.le_of_ble_eq_true rfl | omega | (dsimp only [rm_X1_digest, rm_X1_beatsUntilSilence]; omega))⟩) rfl rfl rfl (by decide) rfl (fun _ => rfl) (by first | exact Nat.le_of_ble_eq_true rfl | omega | (dsimp only [rm_X1_digest, rm_X1_beatsUntilSilence]; omega)) (by first | exact Nat.le_of_ble_eq_true rfl | omega | (dsimp only [rm_X1_digest, rm_X1_beatsUntilSilence]; omega)) (fun r_32 τ1 H locs hp_31 hW => ?_)
    subst hp_31
    refine lv_i2l hx hb dX1_digest_141 rfl ?_
    refine lv_ladd hx hb dX1_digest_142 ?_
    refine lv_topl (fun y_33 hy_33 => ?_)
    refine lv_lstore_n (lv' := [(1, .long y_33), (0, .ref x)]) hx hb dX1_digest_143 rfl hl (by decide) rfl (fun ls hl => ?_)
    refine lv_lload_n hx hb dX1_digest_144 rfl (lv_at hl 0 rfl) ?_
    refine lv_ldc2 (v := 31) hx hb hown (hts _ (List.mem_of_getElem? (i := 2) rfl)) dX1_digest_145 ?_
    refine lv_lmul hx hb dX1_digest_148 ?_
    refine lv_aload_n hx hb dX1_digest_149 rfl (lv_at hl 1 rfl) ?_
    refine fin_i (k := 0) (n := 0) (W2 := (fun τ2 => (WX κ x a a2 ++ (WC κ a σ br ++ (WC κ a2 τ2 bt))))) [0, 1, 2, 3, 4, 5, 6, 7, 8, 9, 10, 11, 12, 13, 14] [] [0, 1, 2, 3, 4, 5, 6, 7, 8, 9, 10, 11, 12, 13, 14] hW hA (va_runV (As := []) (rest := [.long (y_33 * (31 : Int64))]) F ((m_X1_beatsUntilCadence l κ x a a2 σ br τ1 bt hI (by omega) (by omega)) _) (cwV 0 hts gX1_digest_X1_beatsUntilCadence rfl rfl rfl (by decide +kernel) ⟨(Nat.le_of_ble_eq_true rfl), (Nat.le_of_ble_eq_true rfl)⟩) (pre_V hK hW [0, 1, 2, 3, 4, 5, 6, 7, 8, 9, 10, 11, 12, 13, 14] rfl (by decide) 1 0 rfl rfl) rfl rfl hl.1 rfl (lv_room (Nat.le_of_ble_eq_true rfl)) dX1_digest_150 ⟨(by first | exact Nat.le_of_ble_eq_true rfl | omega | (dsimp only [rm_X1_digest, rm_X1_beatsUntilCadence]; omega)), (by first | exact Nat.le_of_ble_eq_true rfl | omega | (dsimp only [rm_X1_digest, rm_X1_beatsUntilCadence]; omega))⟩) rfl rfl rfl (by decide) rfl (fun _ => rfl) (by first | exact Nat.le_of_ble_eq_true rfl | omega | (dsimp only [rm_X1_digest, rm_X1_beatsUntilCadence]; omega)) (by first | exact Nat.le_of_ble_eq_true rfl | omega | (dsimp only [rm_X1_digest, rm_X1_beatsUntilCadence]; omega)) (fun r_35 τ2 H locs hp_34 hW => ?_)
    subst hp_34
    refine lv_i2l hx hb dX1_digest_153 rfl ?_
    refine lv_ladd hx hb dX1_digest_154 ?_
    refine lv_topl (fun y_36 hy_36 => ?_)
    refine lv_lstore_n (lv' := [(1, .long y_36), (0, .ref x)]) hx hb dX1_digest_155 rfl hl (by decide) rfl (fun ls hl => ?_)
    refine lv_lload_n hx hb dX1_digest_156 rfl (lv_at hl 0 rfl) ?_
    refine lv_ldc2 (v := 31) hx hb hown (hts _ (List.mem_of_getElem? (i := 2) rfl)) dX1_digest_157 ?_
    refine lv_lmul hx hb dX1_digest_160 ?_
    refine lv_aload_n hx hb dX1_digest_161 rfl (lv_at hl 1 rfl) ?_
    refine fin_i (k := 0) (n := 0) (W2 := (fun br1 => (WX κ x a a2 ++ (WC κ a σ br1 ++ (WC κ a2 τ2 bt))))) [0, 1, 2, 3, 4, 5, 6, 7] [8, 9, 10, 11, 12, 13, 14] [7, 8, 9, 10, 11, 12, 13, 14, 0, 1, 2, 3, 4, 5, 6] hW hA (va_runV (As := []) (rest := [.long (y_36 * (31 : Int64))]) F ((m_X1_greatestAccord l κ x a a2 σ br hI) _) (cwV 0 hts gX1_digest_X1_greatestAccord rfl rfl rfl (by decide +kernel) ⟨(Nat.le_of_ble_eq_true rfl), (Nat.le_of_ble_eq_true rfl)⟩) (pre_V hK hW [0, 1, 2, 3, 4, 5, 6, 7] rfl (by decide) 1 0 rfl rfl) rfl rfl hl.1 rfl (lv_room (Nat.le_of_ble_eq_true rfl)) dX1_digest_162 ⟨(by first | exact Nat.le_of_ble_eq_true rfl | omega | (dsimp only [rm_X1_digest, rm_X1_greatestAccord]; omega)), (by first | exact Nat.le_of_ble_eq_true rfl | omega | (dsimp only [rm_X1_digest, rm_X1_greatestAccord]; omega))⟩) rfl rfl rfl (by decide) rfl (fun _ => rfl) (by first | exact Nat.le_of_ble_eq_true rfl | omega | (dsimp only [rm_X1_digest, rm_X1_greatestAccord]; omega)) (by first | exact Nat.le_of_ble_eq_true rfl | omega | (dsimp only [rm_X1_digest, rm_X1_greatestAccord]; omega)) (fun r_38 br1 H locs hp_37 hW => ?_)
    subst hp_37
    refine lv_i2l hx hb dX1_digest_165 rfl ?_
    refine lv_ladd hx hb dX1_digest_166 ?_
    refine lv_topl (fun y_39 hy_39 => ?_)
    refine lv_lstore_n (lv' := [(1, .long y_39), (0, .ref x)]) hx hb dX1_digest_167 rfl hl (by decide) rfl (fun ls hl => ?_)
    refine jv_iconst hx hb dX1_digest_168 ?_
    refine lv_istore_n (lv' := [(3, .int (J 0)), (1, .long y_39), (0, .ref x)]) hx hb dX1_digest_169 rfl hl (by decide) rfl (fun ls hl => ?_)
    have hd0 : y_39 = dg0 σ := by rw [hy_39, hy_36, hy_33, hy_30, hy_27, hy_24, hy_21, hy_18, hy_15, hy_12, hy_9, hy_6, hy_3]; rfl
    rw [hd0] at hl
    clear hd0
    suffices hlp : ∀ (n i : Nat), i ≤ (nn σ) → (nn σ) < i + n → ∀ (H : Heap) (locs : List Loc) (ls : Array Slot), St κ A s.heap H locs (WX κ x a a2 ++ (WC κ a σ br1 ++ (WC κ a2 τ2 bt))) → lv_has ls 4 [(3, .int (J (i : Int))), (1, .long (dl σ (dg0 σ) i)), (0, .ref x)] → W P l e rm_X1_digest s m args below meth c H locs 0 0 Q (F0 m 170 ls []) from
      hlp ((nn σ) + 1) 0 (Nat.zero_le _) (by omega)  _ _ _  hW hl
    intro n
    induction n with
    | zero => intro i h1 h2; exact absurd h2 (by omega)
    | succ n ih =>
      intro i hi hn  H locs ls  hW hl
      refine lv_iload_n hx hb dX1_digest_170 rfl (lv_at hl 0 rfl) ?_
      refine lv_aload_n hx hb dX1_digest_171 rfl (lv_at hl 2 rfl) ?_
      refine jv_get (T := TX1) (N := 2) (v := .ref (a 0)) hx hb hts hn1 hown hK hW 0 rfl rfl 0 (by decide) (List.mem_of_getElem? (i := 3) rfl) rfl dX1_digest_172 ?_
      refine jv_get (T := TX0) (N := 10) (v := .int (J (σ 5 3))) hx hb hts hn0 hown hK hW 1 rfl rfl 6 (by decide) (List.mem_of_getElem? (i := 4) rfl) rfl dX1_digest_175 ?_
      refine jv_icmp_ge hx hb 194 dX1_digest_178 (by decide) ⟨by omega, by omega⟩ ⟨by omega, by omega⟩ (fun h_40 => ?_) (fun h_40 => ?_)
      · skip
        refine lv_lload_n hx hb dX1_digest_194 rfl (lv_at hl 1 rfl) ?_
        exact hret (τ2, br1) hW dX1_digest_195 (by first | exact Nat.le_of_ble_eq_true rfl | omega | (dsimp only [rm_X1_digest]; omega)) (by first | exact Nat.le_of_ble_eq_true rfl | omega | (dsimp only [rm_X1_digest]; omega)) (by rw [show i = nn σ by omega]; rfl)
      · skip
        refine lv_aload_n hx hb dX1_digest_181 rfl (lv_at hl 2 rfl) ?_
        refine lv_lload_n hx hb dX1_digest_182 rfl (lv_at hl 1 rfl) ?_
        refine lv_iload_n hx hb dX1_digest_183 rfl (lv_at hl 0 rfl) ?_
        refine fin_l (k := 0) (n := 0) (W2 := (fun _ => (WX κ x a a2 ++ (WC κ a σ br1 ++ (WC κ a2 τ2 bt))))) [0, 1, 2, 3, 4, 5, 6, 7] [8, 9, 10, 11, 12, 13, 14] [7, 8, 9, 10, 11, 12, 13, 14, 0, 1, 2, 3, 4, 5, 6] hW hA (va_runV (As := [.long (dl σ (dg0 σ) i), .int (J (i : Int))]) (rest := []) F ((m_X1_digestPot l κ x a a2 σ br1 (dl σ (dg0 σ) i) i (by omega) hI) _) (cwV 2 hts gX1_digest_X1_digestPot rfl rfl rfl (by decide +kernel) ⟨(Nat.le_of_ble_eq_true rfl), (Nat.le_of_ble_eq_true rfl)⟩) (pre_V hK hW [0, 1, 2, 3, 4, 5, 6, 7] rfl (by decide) 1 0 rfl rfl) rfl rfl hl.1 rfl (lv_room (Nat.le_of_ble_eq_true rfl)) dX1_digest_184 ⟨(by first | exact Nat.le_of_ble_eq_true rfl | omega | (dsimp only [rm_X1_digest, rm_X1_digestPot]; omega)), (by first | exact Nat.le_of_ble_eq_true rfl | omega | (dsimp only [rm_X1_digest, rm_X1_digestPot]; omega))⟩) rfl rfl rfl (by decide) rfl (fun _ => rfl) (by first | exact Nat.le_of_ble_eq_true rfl | omega | (dsimp only [rm_X1_digest, rm_X1_digestPot]; omega)) (by first | exact Nat.le_of_ble_eq_true rfl | omega | (dsimp only [rm_X1_digest, rm_X1_digestPot]; omega)) (fun r_42 u H locs hp_41 hW => ?_)
        subst hp_41
        refine lv_lstore_n (lv' := [(1, .long (dpt σ (dl σ (dg0 σ) i) i)), (3, .int (J (i : Int))), (0, .ref x)]) hx hb dX1_digest_187 rfl hl (by decide) rfl (fun ls hl => ?_)
        refine jv_iinc (k := 1) (z := (i : Int)) (lv' := [(3, .int (J ((i : Int) + 1))), (1, .long (dpt σ (dl σ (dg0 σ) i) i)), (0, .ref x)]) hx hb dX1_digest_188 hl rfl (by decide) rfl (fun ls hl => ?_)
        refine lv_goto (tgt := 170) hx hb dX1_digest_191 (by decide) ?_
        exact ih (i + 1) (by omega) (by omega)  _ _ _  hW hl
  refine jv_ifb_eq (b := (ic σ)) hx hb 104 dX1_digest_97 (by decide) (fun h_43 => ?_) (fun h_43 => ?_)
  · skip
    refine jv_iconst hx hb dX1_digest_104 ?_
    refine jv_eq (y := bi (ic σ)) (by rw [h_43]; rfl) ?_
    exact j105 _ _ _ hW hl
  · skip
    refine jv_iconst hx hb dX1_digest_100 ?_
    refine lv_goto (tgt := 105) hx hb dX1_digest_101 (by decide) ?_
    refine jv_eq (y := bi (ic σ)) (by rw [h_43]; rfl) ?_
    exact j105 _ _ _ hW hl
