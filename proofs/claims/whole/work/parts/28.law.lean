abbrev rm_L_partOf : Room := { frames := 8, cells := 2, slots := 12, locals := 132 }
set_option maxHeartbeats 4000000 in
set_option maxRecDepth 100000 in
/-- the law's partOf -/
theorem m_L_partOf (l : Launch) (κ : Kp) (hst : l.stackTraces = false) (x : Nat) (a a2 : Nat → Nat) (σ : Sg) (br : Nat → Int) (o : Nat) (g : Nat → Int64) (z : Int) (hz : InR z) (hI : Inv σ) : HGi l yL_partOf wsL_partOf rm_L_partOf κ [.ref x, .int (J z), .ref o] (WX κ x a a2 ++ (WC κ a σ br ++ (WL κ o g))) (fun r (u : Nat → Int64) => ((0 ≤ z ∧ z < σ 5 3) ∧ r = J 0 ∧ u = vp_updL g 0 (J (σ 4 z.toNat)).toInt64) ∨ (¬ (0 ≤ z ∧ z < σ 5 3) ∧ r = J 1 ∧ u = g)) (fun (u : Nat → Int64) => WX κ x a a2 ++ (WC κ a σ br ++ WL κ o u)) := by
  refine entry_hi (by decide) rfl (Nat.le_of_ble_eq_true rfl) ?_
  intro P e s m args below meth c ls A Q F hK hT hN9 htab hA hret hW hl
  obtain ⟨hx, hb, hml, hown, hts⟩ := id F
  refine lv_aload_n hx hb dL_partOf_0 rfl (lv_at hl 2 rfl) ?_
  refine jv_iconst hx hb dL_partOf_1 ?_
  refine lv_aload_n hx hb dL_partOf_2 rfl (lv_at hl 0 rfl) ?_
  refine lv_iload_n hx hb dL_partOf_3 rfl (lv_at hl 1 rfl) ?_
  refine fint_i (k := 2) (n := 12) (W2 := (fun _ => (WX κ x a a2 ++ (WC κ a σ br ++ (WL κ o g))))) [0, 1, 2, 3, 4, 5, 6, 7] [8] [1, 2, 3, 4, 5, 6, 7, 8, 0] hW hA (vx_runV (As := [.int (J z)]) (rest := [.int (J 0), .ref o]) F ((m_X1_partOf l κ hst x a a2 σ br z hz hI) _) (cwV 1 hts gL_partOf_X1_partOf rfl rfl rfl (by decide +kernel) ⟨(Nat.le_of_ble_eq_true rfl), (Nat.le_of_ble_eq_true rfl)⟩) (pre_VT hK hT hW hA [0, 1, 2, 3, 4, 5, 6, 7] rfl (by decide) 1 0 rfl rfl) rfl rfl hl.1 rfl (lv_room (Nat.le_of_ble_eq_true rfl)) dL_partOf_4 ⟨(by first | exact Nat.le_of_ble_eq_true rfl | omega | (dsimp only [rm_L_partOf, rm_X1_partOf]; omega)), (by first | exact Nat.le_of_ble_eq_true rfl | omega | (dsimp only [rm_L_partOf, rm_X1_partOf]; omega))⟩) rfl rfl rfl (by decide) rfl (fun _ => rfl) rfl (by first | exact Nat.le_of_ble_eq_true rfl | omega | (dsimp only [rm_L_partOf, rm_X1_partOf]; omega)) (by first | exact Nat.le_of_ble_eq_true rfl | omega | (dsimp only [rm_L_partOf, rm_X1_partOf]; omega)) (fun E ce q9 H locs hX hW g1 g2 g3 => ?_) (fun r_2 u H locs hp_1 hW => ?_)
  · skip
    obtain ⟨rfl, hX⟩ := hX
    refine catch1 (wl := wsL_partOf) hown hts htab 0 9 12 21 [] rfl (by decide) (by decide) (List.mem_of_getElem? (i := 1) rfl) hT.2.1.2.2.2.1 g1 g2 g3 ?_
    refine lv_astore_n (lv' := [(3, .ref q9), (0, .ref x), (1, .int (J z)), (2, .ref o)]) hx hb dL_partOf_12 rfl hl (by decide) rfl (fun ls hl => ?_)
    refine jv_iconst hx hb dL_partOf_13 ?_
    exact hret g hW dL_partOf_14 (by first | exact Nat.le_of_ble_eq_true rfl | omega | (dsimp only [rm_L_partOf]; omega)) (by first | exact Nat.le_of_ble_eq_true rfl | omega | (dsimp only [rm_L_partOf]; omega)) (Or.inr ⟨hX, rfl, rfl⟩)
  · skip
    obtain ⟨hv, hp_1⟩ := hp_1
    subst hp_1
    refine lv_i2l hx hb dL_partOf_7 rfl ?_
    refine jv_last (g := g) (ws' := (WX κ x a a2 ++ (WC κ a σ br ++ (WL κ o (vp_updL g 0 ((J (σ 4 z.toNat)).toInt64)))))) hx hb hK hW 8 rfl rfl dL_partOf_8 (fun H locs hW => ?_)
    refine lv_goto (tgt := 15) hx hb dL_partOf_9 (by decide) ?_
    refine jv_iconst hx hb dL_partOf_15 ?_
    exact hret (vp_updL g 0 ((J (σ 4 z.toNat)).toInt64)) hW dL_partOf_16 (by first | exact Nat.le_of_ble_eq_true rfl | omega | (dsimp only [rm_L_partOf]; omega)) (by first | exact Nat.le_of_ble_eq_true rfl | omega | (dsimp only [rm_L_partOf]; omega)) (Or.inl ⟨hv, rfl, rfl⟩)

abbrev rm_L_pitchOf : Room := { frames := 8, cells := 2, slots := 12, locals := 132 }
set_option maxHeartbeats 4000000 in
set_option maxRecDepth 100000 in
/-- the law's pitchOf -/
theorem m_L_pitchOf (l : Launch) (κ : Kp) (hst : l.stackTraces = false) (x : Nat) (a a2 : Nat → Nat) (σ : Sg) (br : Nat → Int) (o : Nat) (g : Nat → Int64) (z : Int) (hz : InR z) (hI : Inv σ) : HGi l yL_pitchOf wsL_pitchOf rm_L_pitchOf κ [.ref x, .int (J z), .ref o] (WX κ x a a2 ++ (WC κ a σ br ++ (WL κ o g))) (fun r (u : Nat → Int64) => ((0 ≤ z ∧ z < σ 5 3) ∧ r = J 0 ∧ u = vp_updL g 0 (J (σ 0 z.toNat)).toInt64) ∨ (¬ (0 ≤ z ∧ z < σ 5 3) ∧ r = J 1 ∧ u = g)) (fun (u : Nat → Int64) => WX κ x a a2 ++ (WC κ a σ br ++ WL κ o u)) := by
  refine entry_hi (by decide) rfl (Nat.le_of_ble_eq_true rfl) ?_
  intro P e s m args below meth c ls A Q F hK hT hN9 htab hA hret hW hl
  obtain ⟨hx, hb, hml, hown, hts⟩ := id F
  refine lv_aload_n hx hb dL_pitchOf_0 rfl (lv_at hl 2 rfl) ?_
  refine jv_iconst hx hb dL_pitchOf_1 ?_
  refine lv_aload_n hx hb dL_pitchOf_2 rfl (lv_at hl 0 rfl) ?_
  refine lv_iload_n hx hb dL_pitchOf_3 rfl (lv_at hl 1 rfl) ?_
  refine fint_i (k := 2) (n := 12) (W2 := (fun _ => (WX κ x a a2 ++ (WC κ a σ br ++ (WL κ o g))))) [0, 1, 2, 3, 4, 5, 6, 7] [8] [1, 2, 3, 4, 5, 6, 7, 8, 0] hW hA (vx_runV (As := [.int (J z)]) (rest := [.int (J 0), .ref o]) F ((m_X1_pitchOf l κ hst x a a2 σ br z hz hI) _) (cwV 1 hts gL_pitchOf_X1_pitchOf rfl rfl rfl (by decide +kernel) ⟨(Nat.le_of_ble_eq_true rfl), (Nat.le_of_ble_eq_true rfl)⟩) (pre_VT hK hT hW hA [0, 1, 2, 3, 4, 5, 6, 7] rfl (by decide) 1 0 rfl rfl) rfl rfl hl.1 rfl (lv_room (Nat.le_of_ble_eq_true rfl)) dL_pitchOf_4 ⟨(by first | exact Nat.le_of_ble_eq_true rfl | omega | (dsimp only [rm_L_pitchOf, rm_X1_pitchOf]; omega)), (by first | exact Nat.le_of_ble_eq_true rfl | omega | (dsimp only [rm_L_pitchOf, rm_X1_pitchOf]; omega))⟩) rfl rfl rfl (by decide) rfl (fun _ => rfl) rfl (by first | exact Nat.le_of_ble_eq_true rfl | omega | (dsimp only [rm_L_pitchOf, rm_X1_pitchOf]; omega)) (by first | exact Nat.le_of_ble_eq_true rfl | omega | (dsimp only [rm_L_pitchOf, rm_X1_pitchOf]; omega)) (fun E ce q9 H locs hX hW g1 g2 g3 => ?_) (fun r_2 u H locs hp_1 hW => ?_)
  · skip
    obtain ⟨rfl, hX⟩ := hX
    refine catch1 (wl := wsL_pitchOf) hown hts htab 0 9 12 21 [] rfl (by decide) (by decide) (List.mem_of_getElem? (i := 1) rfl) hT.2.1.2.2.2.1 g1 g2 g3 ?_
    refine lv_astore_n (lv' := [(3, .ref q9), (0, .ref x), (1, .int (J z)), (2, .ref o)]) hx hb dL_pitchOf_12 rfl hl (by decide) rfl (fun ls hl => ?_)
    refine jv_iconst hx hb dL_pitchOf_13 ?_
    exact hret g hW dL_pitchOf_14 (by first | exact Nat.le_of_ble_eq_true rfl | omega | (dsimp only [rm_L_pitchOf]; omega)) (by first | exact Nat.le_of_ble_eq_true rfl | omega | (dsimp only [rm_L_pitchOf]; omega)) (Or.inr ⟨hX, rfl, rfl⟩)
  · skip
    obtain ⟨hv, hp_1⟩ := hp_1
    subst hp_1
    refine lv_i2l hx hb dL_pitchOf_7 rfl ?_
    refine jv_last (g := g) (ws' := (WX κ x a a2 ++ (WC κ a σ br ++ (WL κ o (vp_updL g 0 ((J (σ 0 z.toNat)).toInt64)))))) hx hb hK hW 8 rfl rfl dL_pitchOf_8 (fun H locs hW => ?_)
    refine lv_goto (tgt := 15) hx hb dL_pitchOf_9 (by decide) ?_
    refine jv_iconst hx hb dL_pitchOf_15 ?_
    exact hret (vp_updL g 0 ((J (σ 0 z.toNat)).toInt64)) hW dL_pitchOf_16 (by first | exact Nat.le_of_ble_eq_true rfl | omega | (dsimp only [rm_L_pitchOf]; omega)) (by first | exact Nat.le_of_ble_eq_true rfl | omega | (dsimp only [rm_L_pitchOf]; omega)) (Or.inl ⟨hv, rfl, rfl⟩)

abbrev rm_L_teaOf : Room := { frames := 8, cells := 2, slots := 12, locals := 132 }
set_option maxHeartbeats 4000000 in
set_option maxRecDepth 100000 in
/-- the law's teaOf -/
theorem m_L_teaOf (l : Launch) (κ : Kp) (hst : l.stackTraces = false) (x : Nat) (a a2 : Nat → Nat) (σ : Sg) (br : Nat → Int) (o : Nat) (g : Nat → Int64) (z : Int) (hz : InR z) (hI : Inv σ) : HGi l yL_teaOf wsL_teaOf rm_L_teaOf κ [.ref x, .int (J z), .ref o] (WX κ x a a2 ++ (WC κ a σ br ++ (WL κ o g))) (fun r (u : Nat → Int64) => ((0 ≤ z ∧ z < σ 5 3) ∧ r = J 0 ∧ u = vp_updL g 0 (J (σ 1 z.toNat)).toInt64) ∨ (¬ (0 ≤ z ∧ z < σ 5 3) ∧ r = J 1 ∧ u = g)) (fun (u : Nat → Int64) => WX κ x a a2 ++ (WC κ a σ br ++ WL κ o u)) := by
  refine entry_hi (by decide) rfl (Nat.le_of_ble_eq_true rfl) ?_
  intro P e s m args below meth c ls A Q F hK hT hN9 htab hA hret hW hl
  obtain ⟨hx, hb, hml, hown, hts⟩ := id F
  refine lv_aload_n hx hb dL_teaOf_0 rfl (lv_at hl 2 rfl) ?_
  refine jv_iconst hx hb dL_teaOf_1 ?_
  refine lv_aload_n hx hb dL_teaOf_2 rfl (lv_at hl 0 rfl) ?_
  refine lv_iload_n hx hb dL_teaOf_3 rfl (lv_at hl 1 rfl) ?_
  refine fint_i (k := 2) (n := 12) (W2 := (fun _ => (WX κ x a a2 ++ (WC κ a σ br ++ (WL κ o g))))) [0, 1, 2, 3, 4, 5, 6, 7] [8] [1, 2, 3, 4, 5, 6, 7, 8, 0] hW hA (vx_runV (As := [.int (J z)]) (rest := [.int (J 0), .ref o]) F ((m_X1_teaOf l κ hst x a a2 σ br z hz hI) _) (cwV 1 hts gL_teaOf_X1_teaOf rfl rfl rfl (by decide +kernel) ⟨(Nat.le_of_ble_eq_true rfl), (Nat.le_of_ble_eq_true rfl)⟩) (pre_VT hK hT hW hA [0, 1, 2, 3, 4, 5, 6, 7] rfl (by decide) 1 0 rfl rfl) rfl rfl hl.1 rfl (lv_room (Nat.le_of_ble_eq_true rfl)) dL_teaOf_4 ⟨(by first | exact Nat.le_of_ble_eq_true rfl | omega | (dsimp only [rm_L_teaOf, rm_X1_teaOf]; omega)), (by first | exact Nat.le_of_ble_eq_true rfl | omega | (dsimp only [rm_L_teaOf, rm_X1_teaOf]; omega))⟩) rfl rfl rfl (by decide) rfl (fun _ => rfl) rfl (by first | exact Nat.le_of_ble_eq_true rfl | omega | (dsimp only [rm_L_teaOf, rm_X1_teaOf]; omega)) (by first | exact Nat.le_of_ble_eq_true rfl | omega | (dsimp only [rm_L_teaOf, rm_X1_teaOf]; omega)) (fun E ce q9 H locs hX hW g1 g2 g3 => ?_) (fun r_2 u H locs hp_1 hW => ?_)
  · skip
    obtain ⟨rfl, hX⟩ := hX
    refine catch1 (wl := wsL_teaOf) hown hts htab 0 9 12 21 [] rfl (by decide) (by decide) (List.mem_of_getElem? (i := 1) rfl) hT.2.1.2.2.2.1 g1 g2 g3 ?_
    refine lv_astore_n (lv' := [(3, .ref q9), (0, .ref x), (1, .int (J z)), (2, .ref o)]) hx hb dL_teaOf_12 rfl hl (by decide) rfl (fun ls hl => ?_)
    refine jv_iconst hx hb dL_teaOf_13 ?_
    exact hret g hW dL_teaOf_14 (by first | exact Nat.le_of_ble_eq_true rfl | omega | (dsimp only [rm_L_teaOf]; omega)) (by first | exact Nat.le_of_ble_eq_true rfl | omega | (dsimp only [rm_L_teaOf]; omega)) (Or.inr ⟨hX, rfl, rfl⟩)
  · skip
    obtain ⟨hv, hp_1⟩ := hp_1
    subst hp_1
    refine lv_i2l hx hb dL_teaOf_7 rfl ?_
    refine jv_last (g := g) (ws' := (WX κ x a a2 ++ (WC κ a σ br ++ (WL κ o (vp_updL g 0 ((J (σ 1 z.toNat)).toInt64)))))) hx hb hK hW 8 rfl rfl dL_teaOf_8 (fun H locs hW => ?_)
    refine lv_goto (tgt := 15) hx hb dL_teaOf_9 (by decide) ?_
    refine jv_iconst hx hb dL_teaOf_15 ?_
    exact hret (vp_updL g 0 ((J (σ 1 z.toNat)).toInt64)) hW dL_teaOf_16 (by first | exact Nat.le_of_ble_eq_true rfl | omega | (dsimp only [rm_L_teaOf]; omega)) (by first | exact Nat.le_of_ble_eq_true rfl | omega | (dsimp only [rm_L_teaOf]; omega)) (Or.inl ⟨hv, rfl, rfl⟩)

abbrev rm_L_crackOf : Room := { frames := 8, cells := 2, slots := 12, locals := 132 }
set_option maxHeartbeats 4000000 in
set_option maxRecDepth 100000 in
/-- the law's crackOf -/
theorem m_L_crackOf (l : Launch) (κ : Kp) (hst : l.stackTraces = false) (x : Nat) (a a2 : Nat → Nat) (σ : Sg) (br : Nat → Int) (o : Nat) (g : Nat → Int64) (z : Int) (hz : InR z) (hI : Inv σ) : HGi l yL_crackOf wsL_crackOf rm_L_crackOf κ [.ref x, .int (J z), .ref o] (WX κ x a a2 ++ (WC κ a σ br ++ (WL κ o g))) (fun r (u : Nat → Int64) => ((0 ≤ z ∧ z < σ 5 3) ∧ r = J 0 ∧ u = vp_updL g 0 (J (σ 2 z.toNat)).toInt64) ∨ (¬ (0 ≤ z ∧ z < σ 5 3) ∧ r = J 1 ∧ u = g)) (fun (u : Nat → Int64) => WX κ x a a2 ++ (WC κ a σ br ++ WL κ o u)) := by
  refine entry_hi (by decide) rfl (Nat.le_of_ble_eq_true rfl) ?_
  intro P e s m args below meth c ls A Q F hK hT hN9 htab hA hret hW hl
  obtain ⟨hx, hb, hml, hown, hts⟩ := id F
  refine lv_aload_n hx hb dL_crackOf_0 rfl (lv_at hl 2 rfl) ?_
  refine jv_iconst hx hb dL_crackOf_1 ?_
  refine lv_aload_n hx hb dL_crackOf_2 rfl (lv_at hl 0 rfl) ?_
  refine lv_iload_n hx hb dL_crackOf_3 rfl (lv_at hl 1 rfl) ?_
  refine fint_i (k := 2) (n := 12) (W2 := (fun _ => (WX κ x a a2 ++ (WC κ a σ br ++ (WL κ o g))))) [0, 1, 2, 3, 4, 5, 6, 7] [8] [1, 2, 3, 4, 5, 6, 7, 8, 0] hW hA (vx_runV (As := [.int (J z)]) (rest := [.int (J 0), .ref o]) F ((m_X1_crackOf l κ hst x a a2 σ br z hz hI) _) (cwV 1 hts gL_crackOf_X1_crackOf rfl rfl rfl (by decide +kernel) ⟨(Nat.le_of_ble_eq_true rfl), (Nat.le_of_ble_eq_true rfl)⟩) (pre_VT hK hT hW hA [0, 1, 2, 3, 4, 5, 6, 7] rfl (by decide) 1 0 rfl rfl) rfl rfl hl.1 rfl (lv_room (Nat.le_of_ble_eq_true rfl)) dL_crackOf_4 ⟨(by first | exact Nat.le_of_ble_eq_true rfl | omega | (dsimp only [rm_L_crackOf, rm_X1_crackOf]; omega)), (by first | exact Nat.le_of_ble_eq_true rfl | omega | (dsimp only [rm_L_crackOf, rm_X1_crackOf]; omega))⟩) rfl rfl rfl (by decide) rfl (fun _ => rfl) rfl (by first | exact Nat.le_of_ble_eq_true rfl | omega | (dsimp only [rm_L_crackOf, rm_X1_crackOf]; omega)) (by first | exact Nat.le_of_ble_eq_true rfl | omega | (dsimp only [rm_L_crackOf, rm_X1_crackOf]; omega)) (fun E ce q9 H locs hX hW g1 g2 g3 => ?_) (fun r_2 u H locs hp_1 hW => ?_)
  · skip
    obtain ⟨rfl, hX⟩ := hX
    refine catch1 (wl := wsL_crackOf) hown hts htab 0 9 12 21 [] rfl (by decide) (by decide) (List.mem_of_getElem? (i := 1) rfl) hT.2.1.2.2.2.1 g1 g2 g3 ?_
    refine lv_astore_n (lv' := [(3, .ref q9), (0, .ref x), (1, .int (J z)), (2, .ref o)]) hx hb dL_crackOf_12 rfl hl (by decide) rfl (fun ls hl => ?_)
    refine jv_iconst hx hb dL_crackOf_13 ?_
    exact hret g hW dL_crackOf_14 (by first | exact Nat.le_of_ble_eq_true rfl | omega | (dsimp only [rm_L_crackOf]; omega)) (by first | exact Nat.le_of_ble_eq_true rfl | omega | (dsimp only [rm_L_crackOf]; omega)) (Or.inr ⟨hX, rfl, rfl⟩)
  · skip
    obtain ⟨hv, hp_1⟩ := hp_1
    subst hp_1
    refine lv_i2l hx hb dL_crackOf_7 rfl ?_
    refine jv_last (g := g) (ws' := (WX κ x a a2 ++ (WC κ a σ br ++ (WL κ o (vp_updL g 0 ((J (σ 2 z.toNat)).toInt64)))))) hx hb hK hW 8 rfl rfl dL_crackOf_8 (fun H locs hW => ?_)
    refine lv_goto (tgt := 15) hx hb dL_crackOf_9 (by decide) ?_
    refine jv_iconst hx hb dL_crackOf_15 ?_
    exact hret (vp_updL g 0 ((J (σ 2 z.toNat)).toInt64)) hW dL_crackOf_16 (by first | exact Nat.le_of_ble_eq_true rfl | omega | (dsimp only [rm_L_crackOf]; omega)) (by first | exact Nat.le_of_ble_eq_true rfl | omega | (dsimp only [rm_L_crackOf]; omega)) (Or.inl ⟨hv, rfl, rfl⟩)

abbrev rm_L_clashesOf : Room := { frames := 8, cells := 2, slots := 12, locals := 132 }
set_option maxHeartbeats 4000000 in
set_option maxRecDepth 100000 in
/-- the law's clashesOf -/
theorem m_L_clashesOf (l : Launch) (κ : Kp) (hst : l.stackTraces = false) (x : Nat) (a a2 : Nat → Nat) (σ : Sg) (br : Nat → Int) (o : Nat) (g : Nat → Int64) (z : Int) (hz : InR z) (hI : Inv σ) : HGi l yL_clashesOf wsL_clashesOf rm_L_clashesOf κ [.ref x, .int (J z), .ref o] (WX κ x a a2 ++ (WC κ a σ br ++ (WL κ o g))) (fun r (u : Nat → Int64) => ((0 ≤ z ∧ z < σ 5 3) ∧ r = J 0 ∧ u = vp_updL g 0 (J (cof σ z.toNat)).toInt64) ∨ (¬ (0 ≤ z ∧ z < σ 5 3) ∧ r = J 1 ∧ u = g)) (fun (u : Nat → Int64) => WX κ x a a2 ++ (WC κ a σ br ++ WL κ o u)) := by
  refine entry_hi (by decide) rfl (Nat.le_of_ble_eq_true rfl) ?_
  intro P e s m args below meth c ls A Q F hK hT hN9 htab hA hret hW hl
  obtain ⟨hx, hb, hml, hown, hts⟩ := id F
  refine lv_aload_n hx hb dL_clashesOf_0 rfl (lv_at hl 2 rfl) ?_
  refine jv_iconst hx hb dL_clashesOf_1 ?_
  refine lv_aload_n hx hb dL_clashesOf_2 rfl (lv_at hl 0 rfl) ?_
  refine lv_iload_n hx hb dL_clashesOf_3 rfl (lv_at hl 1 rfl) ?_
  refine fint_i (k := 2) (n := 12) (W2 := (fun _ => (WX κ x a a2 ++ (WC κ a σ br ++ (WL κ o g))))) [0, 1, 2, 3, 4, 5, 6, 7] [8] [1, 2, 3, 4, 5, 6, 7, 8, 0] hW hA (vx_runV (As := [.int (J z)]) (rest := [.int (J 0), .ref o]) F ((m_X1_clashesOf l κ hst x a a2 σ br z hz hI) _) (cwV 1 hts gL_clashesOf_X1_clashesOf rfl rfl rfl (by decide +kernel) ⟨(Nat.le_of_ble_eq_true rfl), (Nat.le_of_ble_eq_true rfl)⟩) (pre_VT hK hT hW hA [0, 1, 2, 3, 4, 5, 6, 7] rfl (by decide) 1 0 rfl rfl) rfl rfl hl.1 rfl (lv_room (Nat.le_of_ble_eq_true rfl)) dL_clashesOf_4 ⟨(by first | exact Nat.le_of_ble_eq_true rfl | omega | (dsimp only [rm_L_clashesOf, rm_X1_clashesOf]; omega)), (by first | exact Nat.le_of_ble_eq_true rfl | omega | (dsimp only [rm_L_clashesOf, rm_X1_clashesOf]; omega))⟩) rfl rfl rfl (by decide) rfl (fun _ => rfl) rfl (by first | exact Nat.le_of_ble_eq_true rfl | omega | (dsimp only [rm_L_clashesOf, rm_X1_clashesOf]; omega)) (by first | exact Nat.le_of_ble_eq_true rfl | omega | (dsimp only [rm_L_clashesOf, rm_X1_clashesOf]; omega)) (fun E ce q9 H locs hX hW g1 g2 g3 => ?_) (fun r_2 u H locs hp_1 hW => ?_)
  · skip
    obtain ⟨rfl, hX⟩ := hX
    refine catch1 (wl := wsL_clashesOf) hown hts htab 0 9 12 21 [] rfl (by decide) (by decide) (List.mem_of_getElem? (i := 1) rfl) hT.2.1.2.2.2.1 g1 g2 g3 ?_
    refine lv_astore_n (lv' := [(3, .ref q9), (0, .ref x), (1, .int (J z)), (2, .ref o)]) hx hb dL_clashesOf_12 rfl hl (by decide) rfl (fun ls hl => ?_)
    refine jv_iconst hx hb dL_clashesOf_13 ?_
    exact hret g hW dL_clashesOf_14 (by first | exact Nat.le_of_ble_eq_true rfl | omega | (dsimp only [rm_L_clashesOf]; omega)) (by first | exact Nat.le_of_ble_eq_true rfl | omega | (dsimp only [rm_L_clashesOf]; omega)) (Or.inr ⟨hX, rfl, rfl⟩)
  · skip
    obtain ⟨hv, hp_1⟩ := hp_1
    subst hp_1
    refine lv_i2l hx hb dL_clashesOf_7 rfl ?_
    refine jv_last (g := g) (ws' := (WX κ x a a2 ++ (WC κ a σ br ++ (WL κ o (vp_updL g 0 ((J (cof σ z.toNat)).toInt64)))))) hx hb hK hW 8 rfl rfl dL_clashesOf_8 (fun H locs hW => ?_)
    refine lv_goto (tgt := 15) hx hb dL_clashesOf_9 (by decide) ?_
    refine jv_iconst hx hb dL_clashesOf_15 ?_
    exact hret (vp_updL g 0 ((J (cof σ z.toNat)).toInt64)) hW dL_clashesOf_16 (by first | exact Nat.le_of_ble_eq_true rfl | omega | (dsimp only [rm_L_clashesOf]; omega)) (by first | exact Nat.le_of_ble_eq_true rfl | omega | (dsimp only [rm_L_clashesOf]; omega)) (Or.inl ⟨hv, rfl, rfl⟩)

abbrev rm_L_bestTuning : Room := { frames := 8, cells := 2, slots := 12, locals := 132 }
set_option maxHeartbeats 4000000 in
set_option maxRecDepth 100000 in
/-- the law's bestTuning -/
theorem m_L_bestTuning (l : Launch) (κ : Kp) (hst : l.stackTraces = false) (x : Nat) (a a2 : Nat → Nat) (σ : Sg) (br : Nat → Int) (o : Nat) (g : Nat → Int64) (z : Int) (hz : InR z) (hI : Inv σ) : HGi l yL_bestTuning wsL_bestTuning rm_L_bestTuning κ [.ref x, .int (J z), .ref o] (WX κ x a a2 ++ (WC κ a σ br ++ (WL κ o g))) (fun r (u : Nat → Int64) => ((0 ≤ z ∧ z < σ 5 3) ∧ r = J 0 ∧ u = vp_updL g 0 (J (btu σ z.toNat)).toInt64) ∨ (¬ (0 ≤ z ∧ z < σ 5 3) ∧ r = J 1 ∧ u = g)) (fun (u : Nat → Int64) => WX κ x a a2 ++ (WC κ a σ br ++ WL κ o u)) := by
  refine entry_hi (by decide) rfl (Nat.le_of_ble_eq_true rfl) ?_
  intro P e s m args below meth c ls A Q F hK hT hN9 htab hA hret hW hl
  obtain ⟨hx, hb, hml, hown, hts⟩ := id F
  refine lv_aload_n hx hb dL_bestTuning_0 rfl (lv_at hl 2 rfl) ?_
  refine jv_iconst hx hb dL_bestTuning_1 ?_
  refine lv_aload_n hx hb dL_bestTuning_2 rfl (lv_at hl 0 rfl) ?_
  refine lv_iload_n hx hb dL_bestTuning_3 rfl (lv_at hl 1 rfl) ?_
  refine fint_i (k := 2) (n := 12) (W2 := (fun _ => (WX κ x a a2 ++ (WC κ a σ br ++ (WL κ o g))))) [0, 1, 2, 3, 4, 5, 6, 7] [8] [1, 2, 3, 4, 5, 6, 7, 8, 0] hW hA (vx_runV (As := [.int (J z)]) (rest := [.int (J 0), .ref o]) F ((m_X1_bestTuning l κ hst x a a2 σ br z hz hI) _) (cwV 1 hts gL_bestTuning_X1_bestTuning rfl rfl rfl (by decide +kernel) ⟨(Nat.le_of_ble_eq_true rfl), (Nat.le_of_ble_eq_true rfl)⟩) (pre_VT hK hT hW hA [0, 1, 2, 3, 4, 5, 6, 7] rfl (by decide) 1 0 rfl rfl) rfl rfl hl.1 rfl (lv_room (Nat.le_of_ble_eq_true rfl)) dL_bestTuning_4 ⟨(by first | exact Nat.le_of_ble_eq_true rfl | omega | (dsimp only [rm_L_bestTuning, rm_X1_bestTuning]; omega)), (by first | exact Nat.le_of_ble_eq_true rfl | omega | (dsimp only [rm_L_bestTuning, rm_X1_bestTuning]; omega))⟩) rfl rfl rfl (by decide) rfl (fun _ => rfl) rfl (by first | exact Nat.le_of_ble_eq_true rfl | omega | (dsimp only [rm_L_bestTuning, rm_X1_bestTuning]; omega)) (by first | exact Nat.le_of_ble_eq_true rfl | omega | (dsimp only [rm_L_bestTuning, rm_X1_bestTuning]; omega)) (fun E ce q9 H locs hX hW g1 g2 g3 => ?_) (fun r_2 u H locs hp_1 hW => ?_)
  · skip
    obtain ⟨rfl, hX⟩ := hX
    refine catch1 (wl := wsL_bestTuning) hown hts htab 0 9 12 21 [] rfl (by decide) (by decide) (List.mem_of_getElem? (i := 1) rfl) hT.2.1.2.2.2.1 g1 g2 g3 ?_
    refine lv_astore_n (lv' := [(3, .ref q9), (0, .ref x), (1, .int (J z)), (2, .ref o)]) hx hb dL_bestTuning_12 rfl hl (by decide) rfl (fun ls hl => ?_)
    refine jv_iconst hx hb dL_bestTuning_13 ?_
    exact hret g hW dL_bestTuning_14 (by first | exact Nat.le_of_ble_eq_true rfl | omega | (dsimp only [rm_L_bestTuning]; omega)) (by first | exact Nat.le_of_ble_eq_true rfl | omega | (dsimp only [rm_L_bestTuning]; omega)) (Or.inr ⟨hX, rfl, rfl⟩)
  · skip
    obtain ⟨hv, hp_1⟩ := hp_1
    subst hp_1
    refine lv_i2l hx hb dL_bestTuning_7 rfl ?_
    refine jv_last (g := g) (ws' := (WX κ x a a2 ++ (WC κ a σ br ++ (WL κ o (vp_updL g 0 ((J (btu σ z.toNat)).toInt64)))))) hx hb hK hW 8 rfl rfl dL_bestTuning_8 (fun H locs hW => ?_)
    refine lv_goto (tgt := 15) hx hb dL_bestTuning_9 (by decide) ?_
    refine jv_iconst hx hb dL_bestTuning_15 ?_
    exact hret (vp_updL g 0 ((J (btu σ z.toNat)).toInt64)) hW dL_bestTuning_16 (by first | exact Nat.le_of_ble_eq_true rfl | omega | (dsimp only [rm_L_bestTuning]; omega)) (by first | exact Nat.le_of_ble_eq_true rfl | omega | (dsimp only [rm_L_bestTuning]; omega)) (Or.inl ⟨hv, rfl, rfl⟩)

abbrev rm_L_sounds : Room := { frames := 8, cells := 2, slots := 12, locals := 132 }
set_option maxHeartbeats 4000000 in
set_option maxRecDepth 100000 in
/-- the law's sounds -/
theorem m_L_sounds (l : Launch) (κ : Kp) (hst : l.stackTraces = false) (x : Nat) (a a2 : Nat → Nat) (σ : Sg) (br : Nat → Int) (o : Nat) (g : Nat → Int64) (z : Int) (hz : InR z) (hI : Inv σ) : HGi l yL_sounds wsL_sounds rm_L_sounds κ [.ref x, .int (J z), .ref o] (WX κ x a a2 ++ (WC κ a σ br ++ (WL κ o g))) (fun r (u : Nat → Int64) => ((0 ≤ z ∧ z < σ 5 3) ∧ r = J 0 ∧ u = vp_updL g 0 (J (bi (sn σ z.toNat))).toInt64) ∨ (¬ (0 ≤ z ∧ z < σ 5 3) ∧ r = J 1 ∧ u = g)) (fun (u : Nat → Int64) => WX κ x a a2 ++ (WC κ a σ br ++ WL κ o u)) := by
  refine entry_hi (by decide) rfl (Nat.le_of_ble_eq_true rfl) ?_
  intro P e s m args below meth c ls A Q F hK hT hN9 htab hA hret hW hl
  obtain ⟨hx, hb, hml, hown, hts⟩ := id F
  refine lv_aload_n hx hb dL_sounds_0 rfl (lv_at hl 2 rfl) ?_
  refine jv_iconst hx hb dL_sounds_1 ?_
  refine lv_aload_n hx hb dL_sounds_2 rfl (lv_at hl 0 rfl) ?_
  refine lv_iload_n hx hb dL_sounds_3 rfl (lv_at hl 1 rfl) ?_
  refine fint_i (k := 2) (n := 12) (W2 := (fun _ => (WX κ x a a2 ++ (WC κ a σ br ++ (WL κ o g))))) [0, 1, 2, 3, 4, 5, 6, 7] [8] [1, 2, 3, 4, 5, 6, 7, 8, 0] hW hA (vx_runV (As := [.int (J z)]) (rest := [.int (J 0), .ref o]) F ((m_X1_sounds l κ hst x a a2 σ br z hz hI) _) (cwV 1 hts gL_sounds_X1_sounds rfl rfl rfl (by decide +kernel) ⟨(Nat.le_of_ble_eq_true rfl), (Nat.le_of_ble_eq_true rfl)⟩) (pre_VT hK hT hW hA [0, 1, 2, 3, 4, 5, 6, 7] rfl (by decide) 1 0 rfl rfl) rfl rfl hl.1 rfl (lv_room (Nat.le_of_ble_eq_true rfl)) dL_sounds_4 ⟨(by first | exact Nat.le_of_ble_eq_true rfl | omega | (dsimp only [rm_L_sounds, rm_X1_sounds]; omega)), (by first | exact Nat.le_of_ble_eq_true rfl | omega | (dsimp only [rm_L_sounds, rm_X1_sounds]; omega))⟩) rfl rfl rfl (by decide) rfl (fun _ => rfl) rfl (by first | exact Nat.le_of_ble_eq_true rfl | omega | (dsimp only [rm_L_sounds, rm_X1_sounds]; omega)) (by first | exact Nat.le_of_ble_eq_true rfl | omega | (dsimp only [rm_L_sounds, rm_X1_sounds]; omega)) (fun E ce q9 H locs hX hW g1 g2 g3 => ?_) (fun r_2 u H locs hp_1 hW => ?_)
  · skip
    obtain ⟨rfl, hX⟩ := hX
    refine catch1 (wl := wsL_sounds) hown hts htab 0 16 19 21 [] rfl (by decide) (by decide) (List.mem_of_getElem? (i := 1) rfl) hT.2.1.2.2.2.1 g1 g2 g3 ?_
    refine lv_astore_n (lv' := [(3, .ref q9), (0, .ref x), (1, .int (J z)), (2, .ref o)]) hx hb dL_sounds_19 rfl hl (by decide) rfl (fun ls hl => ?_)
    refine jv_iconst hx hb dL_sounds_20 ?_
    exact hret g hW dL_sounds_21 (by first | exact Nat.le_of_ble_eq_true rfl | omega | (dsimp only [rm_L_sounds]; omega)) (by first | exact Nat.le_of_ble_eq_true rfl | omega | (dsimp only [rm_L_sounds]; omega)) (Or.inr ⟨hX, rfl, rfl⟩)
  · skip
    obtain ⟨hv, hp_1⟩ := hp_1
    subst hp_1
    refine jv_ifb_eq (b := (sn σ z.toNat)) hx hb 14 dL_sounds_7 (by decide) (fun h_3 => ?_) (fun h_3 => ?_)
    · skip
      refine lv_lconst (v := 0) hx hb dL_sounds_14 rfl ?_
      refine jv_last (g := g) (ws' := (WX κ x a a2 ++ (WC κ a σ br ++ (WL κ o (vp_updL g 0 0))))) hx hb hK hW 8 rfl rfl dL_sounds_15 (fun H locs hW => ?_)
      refine lv_goto (tgt := 22) hx hb dL_sounds_16 (by decide) ?_
      refine jv_iconst hx hb dL_sounds_22 ?_
      exact hret (vp_updL g 0 0) hW dL_sounds_23 (by first | exact Nat.le_of_ble_eq_true rfl | omega | (dsimp only [rm_L_sounds]; omega)) (by first | exact Nat.le_of_ble_eq_true rfl | omega | (dsimp only [rm_L_sounds]; omega)) (Or.inl ⟨hv, rfl, by rw [h_3, ← bl_f]⟩)
    · skip
      refine lv_lconst (v := 1) hx hb dL_sounds_10 rfl ?_
      refine lv_goto (tgt := 15) hx hb dL_sounds_11 (by decide) ?_
      refine jv_last (g := g) (ws' := (WX κ x a a2 ++ (WC κ a σ br ++ (WL κ o (vp_updL g 0 1))))) hx hb hK hW 8 rfl rfl dL_sounds_15 (fun H locs hW => ?_)
      refine lv_goto (tgt := 22) hx hb dL_sounds_16 (by decide) ?_
      refine jv_iconst hx hb dL_sounds_22 ?_
      exact hret (vp_updL g 0 1) hW dL_sounds_23 (by first | exact Nat.le_of_ble_eq_true rfl | omega | (dsimp only [rm_L_sounds]; omega)) (by first | exact Nat.le_of_ble_eq_true rfl | omega | (dsimp only [rm_L_sounds]; omega)) (Or.inl ⟨hv, rfl, by rw [h_3, ← bl_t]⟩)

abbrev rm_L_soundingOf : Room := { frames := 7, cells := 1, slots := 6, locals := 111 }
set_option maxHeartbeats 4000000 in
set_option maxRecDepth 100000 in
/-- the law's soundingOf -/
theorem m_L_soundingOf (l : Launch) (κ : Kp) (hst : l.stackTraces = false) (x : Nat) (a a2 : Nat → Nat) (σ : Sg) (br : Nat → Int) (o : Nat) (g : Nat → Int64) (z : Int) (hz : InR z) (hI : Inv σ) : HGi l yL_soundingOf wsL_soundingOf rm_L_soundingOf κ [.ref x, .int (J z), .ref o] (WX κ x a a2 ++ (WC κ a σ br ++ (WL κ o g))) (fun r (u : Nat → Int64) => ((0 ≤ z ∧ z ≤ 3) ∧ r = J 0 ∧ u = vp_updL g 0 (J ((fb_ct (snp σ z) (nn σ) : Int))).toInt64) ∨ (¬ (0 ≤ z ∧ z ≤ 3) ∧ r = J 1 ∧ u = g)) (fun (u : Nat → Int64) => WX κ x a a2 ++ (WC κ a σ br ++ WL κ o u)) := by
  refine entry_hi (by decide) rfl (Nat.le_of_ble_eq_true rfl) ?_
  intro P e s m args below meth c ls A Q F hK hT hN9 htab hA hret hW hl
  obtain ⟨hx, hb, hml, hown, hts⟩ := id F
  refine lv_aload_n hx hb dL_soundingOf_0 rfl (lv_at hl 2 rfl) ?_
  refine jv_iconst hx hb dL_soundingOf_1 ?_
  refine lv_aload_n hx hb dL_soundingOf_2 rfl (lv_at hl 0 rfl) ?_
  refine lv_iload_n hx hb dL_soundingOf_3 rfl (lv_at hl 1 rfl) ?_
  refine fint_i (k := 1) (n := 6) (W2 := (fun _ => (WX κ x a a2 ++ (WC κ a σ br ++ (WL κ o g))))) [0, 1, 2, 3, 4, 5, 6, 7] [8] [1, 2, 3, 4, 5, 6, 7, 8, 0] hW hA (vx_runV (As := [.int (J z)]) (rest := [.int (J 0), .ref o]) F ((m_X1_soundingOf l κ hst x a a2 σ br z hz hI) _) (cwV 1 hts gL_soundingOf_X1_soundingOf rfl rfl rfl (by decide +kernel) ⟨(Nat.le_of_ble_eq_true rfl), (Nat.le_of_ble_eq_true rfl)⟩) (pre_VT hK hT hW hA [0, 1, 2, 3, 4, 5, 6, 7] rfl (by decide) 1 0 rfl rfl) rfl rfl hl.1 rfl (lv_room (Nat.le_of_ble_eq_true rfl)) dL_soundingOf_4 ⟨(by first | exact Nat.le_of_ble_eq_true rfl | omega | (dsimp only [rm_L_soundingOf, rm_X1_soundingOf]; omega)), (by first | exact Nat.le_of_ble_eq_true rfl | omega | (dsimp only [rm_L_soundingOf, rm_X1_soundingOf]; omega))⟩) rfl rfl rfl (by decide) rfl (fun _ => rfl) rfl (by first | exact Nat.le_of_ble_eq_true rfl | omega | (dsimp only [rm_L_soundingOf, rm_X1_soundingOf]; omega)) (by first | exact Nat.le_of_ble_eq_true rfl | omega | (dsimp only [rm_L_soundingOf, rm_X1_soundingOf]; omega)) (fun E ce q9 H locs hX hW g1 g2 g3 => ?_) (fun r_2 u H locs hp_1 hW => ?_)
  · skip
    obtain ⟨rfl, hX⟩ := hX
    refine catch1 (wl := wsL_soundingOf) hown hts htab 0 9 12 21 [] rfl (by decide) (by decide) (List.mem_of_getElem? (i := 1) rfl) hT.2.1.2.2.2.1 g1 g2 g3 ?_
    refine lv_astore_n (lv' := [(3, .ref q9), (0, .ref x), (1, .int (J z)), (2, .ref o)]) hx hb dL_soundingOf_12 rfl hl (by decide) rfl (fun ls hl => ?_)
    refine jv_iconst hx hb dL_soundingOf_13 ?_
    exact hret g hW dL_soundingOf_14 (by first | exact Nat.le_of_ble_eq_true rfl | omega | (dsimp only [rm_L_soundingOf]; omega)) (by first | exact Nat.le_of_ble_eq_true rfl | omega | (dsimp only [rm_L_soundingOf]; omega)) (Or.inr ⟨hX, rfl, rfl⟩)
  · skip
    obtain ⟨hv, hp_1⟩ := hp_1
    subst hp_1
    refine lv_i2l hx hb dL_soundingOf_7 rfl ?_
    refine jv_last (g := g) (ws' := (WX κ x a a2 ++ (WC κ a σ br ++ (WL κ o (vp_updL g 0 ((J (fb_ct (snp σ z) (nn σ) : Int)).toInt64)))))) hx hb hK hW 8 rfl rfl dL_soundingOf_8 (fun H locs hW => ?_)
    refine lv_goto (tgt := 15) hx hb dL_soundingOf_9 (by decide) ?_
    refine jv_iconst hx hb dL_soundingOf_15 ?_
    exact hret (vp_updL g 0 ((J (fb_ct (snp σ z) (nn σ) : Int)).toInt64)) hW dL_soundingOf_16 (by first | exact Nat.le_of_ble_eq_true rfl | omega | (dsimp only [rm_L_soundingOf]; omega)) (by first | exact Nat.le_of_ble_eq_true rfl | omega | (dsimp only [rm_L_soundingOf]; omega)) (Or.inl ⟨hv, rfl, rfl⟩)

abbrev rm_L_interval : Room := { frames := 8, cells := 2, slots := 12, locals := 133 }
set_option maxHeartbeats 4000000 in
set_option maxRecDepth 100000 in
/-- the law's interval -/
theorem m_L_interval (l : Launch) (κ : Kp) (hst : l.stackTraces = false) (x : Nat) (a a2 : Nat → Nat) (σ : Sg) (br : Nat → Int) (o : Nat) (g : Nat → Int64) (z1 z2 : Int) (hz : InR z1 ∧ InR z2) (hI : Inv σ) : HGi l yL_interval wsL_interval rm_L_interval κ [.ref x, .int (J z1), .int (J z2), .ref o] (WX κ x a a2 ++ (WC κ a σ br ++ (WL κ o g))) (fun r (u : Nat → Int64) => (((0 ≤ z1 ∧ z1 < σ 5 3) ∧ (0 ≤ z2 ∧ z2 < σ 5 3)) ∧ r = J 0 ∧ u = vp_updL g 0 (J (iab (σ 0 z1.toNat - σ 0 z2.toNat))).toInt64) ∨ (¬ ((0 ≤ z1 ∧ z1 < σ 5 3) ∧ (0 ≤ z2 ∧ z2 < σ 5 3)) ∧ r = J 1 ∧ u = g)) (fun (u : Nat → Int64) => WX κ x a a2 ++ (WC κ a σ br ++ WL κ o u)) := by
  refine entry_hi (by decide) rfl (Nat.le_of_ble_eq_true rfl) ?_
  intro P e s m args below meth c ls A Q F hK hT hN9 htab hA hret hW hl
  obtain ⟨hx, hb, hml, hown, hts⟩ := id F
  refine lv_aload_n hx hb dL_interval_0 rfl (lv_at hl 3 rfl) ?_
  refine jv_iconst hx hb dL_interval_1 ?_
  refine lv_aload_n hx hb dL_interval_2 rfl (lv_at hl 0 rfl) ?_
  refine lv_iload_n hx hb dL_interval_3 rfl (lv_at hl 1 rfl) ?_
  refine lv_iload_n hx hb dL_interval_4 rfl (lv_at hl 2 rfl) ?_
  refine fint_i (k := 2) (n := 12) (W2 := (fun _ => (WX κ x a a2 ++ (WC κ a σ br ++ (WL κ o g))))) [0, 1, 2, 3, 4, 5, 6, 7] [8] [1, 2, 3, 4, 5, 6, 7, 8, 0] hW hA (vx_runV (As := [.int (J z1), .int (J z2)]) (rest := [.int (J 0), .ref o]) F ((m_X1_interval l κ hst x a a2 σ br z1 z2 hz hI) _) (cwV 2 hts gL_interval_X1_interval rfl rfl rfl (by decide +kernel) ⟨(Nat.le_of_ble_eq_true rfl), (Nat.le_of_ble_eq_true rfl)⟩) (pre_VT hK hT hW hA [0, 1, 2, 3, 4, 5, 6, 7] rfl (by decide) 1 0 rfl rfl) rfl rfl hl.1 rfl (lv_room (Nat.le_of_ble_eq_true rfl)) dL_interval_5 ⟨(by first | exact Nat.le_of_ble_eq_true rfl | omega | (dsimp only [rm_L_interval, rm_X1_interval]; omega)), (by first | exact Nat.le_of_ble_eq_true rfl | omega | (dsimp only [rm_L_interval, rm_X1_interval]; omega))⟩) rfl rfl rfl (by decide) rfl (fun _ => rfl) rfl (by first | exact Nat.le_of_ble_eq_true rfl | omega | (dsimp only [rm_L_interval, rm_X1_interval]; omega)) (by first | exact Nat.le_of_ble_eq_true rfl | omega | (dsimp only [rm_L_interval, rm_X1_interval]; omega)) (fun E ce q9 H locs hX hW g1 g2 g3 => ?_) (fun r_2 u H locs hp_1 hW => ?_)
  · skip
    obtain ⟨rfl, hX⟩ := hX
    refine catch1 (wl := wsL_interval) hown hts htab 0 10 13 21 [] rfl (by decide) (by decide) (List.mem_of_getElem? (i := 1) rfl) hT.2.1.2.2.2.1 g1 g2 g3 ?_
    refine lv_astore (lv' := [(4, .ref q9), (0, .ref x), (1, .int (J z1)), (2, .int (J z2)), (3, .ref o)]) hx hb dL_interval_13 hl (by decide) rfl (fun ls hl => ?_)
    refine jv_iconst hx hb dL_interval_15 ?_
    exact hret g hW dL_interval_16 (by first | exact Nat.le_of_ble_eq_true rfl | omega | (dsimp only [rm_L_interval]; omega)) (by first | exact Nat.le_of_ble_eq_true rfl | omega | (dsimp only [rm_L_interval]; omega)) (Or.inr ⟨hX, rfl, rfl⟩)
  · skip
    obtain ⟨hv, hp_1⟩ := hp_1
    subst hp_1
    refine lv_i2l hx hb dL_interval_8 rfl ?_
    refine jv_last (g := g) (ws' := (WX κ x a a2 ++ (WC κ a σ br ++ (WL κ o (vp_updL g 0 ((J (iab (σ 0 z1.toNat - σ 0 z2.toNat))).toInt64)))))) hx hb hK hW 8 rfl rfl dL_interval_9 (fun H locs hW => ?_)
    refine lv_goto (tgt := 17) hx hb dL_interval_10 (by decide) ?_
    refine jv_iconst hx hb dL_interval_17 ?_
    exact hret (vp_updL g 0 ((J (iab (σ 0 z1.toNat - σ 0 z2.toNat))).toInt64)) hW dL_interval_18 (by first | exact Nat.le_of_ble_eq_true rfl | omega | (dsimp only [rm_L_interval]; omega)) (by first | exact Nat.le_of_ble_eq_true rfl | omega | (dsimp only [rm_L_interval]; omega)) (Or.inl ⟨hv, rfl, rfl⟩)

abbrev rm_L_areInAccord : Room := { frames := 8, cells := 2, slots := 12, locals := 133 }
set_option maxHeartbeats 4000000 in
set_option maxRecDepth 100000 in
/-- the law's areInAccord -/
theorem m_L_areInAccord (l : Launch) (κ : Kp) (hst : l.stackTraces = false) (x : Nat) (a a2 : Nat → Nat) (σ : Sg) (br : Nat → Int) (o : Nat) (g : Nat → Int64) (z1 z2 : Int) (hz : InR z1 ∧ InR z2) (hI : Inv σ) : HGi l yL_areInAccord wsL_areInAccord rm_L_areInAccord κ [.ref x, .int (J z1), .int (J z2), .ref o] (WX κ x a a2 ++ (WC κ a σ br ++ (WL κ o g))) (fun r (u : Nat → Int64) => (((0 ≤ z1 ∧ z1 < σ 5 3) ∧ (0 ≤ z2 ∧ z2 < σ 5 3)) ∧ r = J 0 ∧ u = vp_updL g 0 (J (bi (ac (σ 0 z1.toNat) (σ 0 z2.toNat)))).toInt64) ∨ (¬ ((0 ≤ z1 ∧ z1 < σ 5 3) ∧ (0 ≤ z2 ∧ z2 < σ 5 3)) ∧ r = J 1 ∧ u = g)) (fun (u : Nat → Int64) => WX κ x a a2 ++ (WC κ a σ br ++ WL κ o u)) := by
  refine entry_hi (by decide) rfl (Nat.le_of_ble_eq_true rfl) ?_
  intro P e s m args below meth c ls A Q F hK hT hN9 htab hA hret hW hl
  obtain ⟨hx, hb, hml, hown, hts⟩ := id F
  refine lv_aload_n hx hb dL_areInAccord_0 rfl (lv_at hl 3 rfl) ?_
  refine jv_iconst hx hb dL_areInAccord_1 ?_
  refine lv_aload_n hx hb dL_areInAccord_2 rfl (lv_at hl 0 rfl) ?_
  refine lv_iload_n hx hb dL_areInAccord_3 rfl (lv_at hl 1 rfl) ?_
  refine lv_iload_n hx hb dL_areInAccord_4 rfl (lv_at hl 2 rfl) ?_
  refine fint_i (k := 2) (n := 12) (W2 := (fun _ => (WX κ x a a2 ++ (WC κ a σ br ++ (WL κ o g))))) [0, 1, 2, 3, 4, 5, 6, 7] [8] [1, 2, 3, 4, 5, 6, 7, 8, 0] hW hA (vx_runV (As := [.int (J z1), .int (J z2)]) (rest := [.int (J 0), .ref o]) F ((m_X1_areInAccord l κ hst x a a2 σ br z1 z2 hz hI) _) (cwV 2 hts gL_areInAccord_X1_areInAccord rfl rfl rfl (by decide +kernel) ⟨(Nat.le_of_ble_eq_true rfl), (Nat.le_of_ble_eq_true rfl)⟩) (pre_VT hK hT hW hA [0, 1, 2, 3, 4, 5, 6, 7] rfl (by decide) 1 0 rfl rfl) rfl rfl hl.1 rfl (lv_room (Nat.le_of_ble_eq_true rfl)) dL_areInAccord_5 ⟨(by first | exact Nat.le_of_ble_eq_true rfl | omega | (dsimp only [rm_L_areInAccord, rm_X1_areInAccord]; omega)), (by first | exact Nat.le_of_ble_eq_true rfl | omega | (dsimp only [rm_L_areInAccord, rm_X1_areInAccord]; omega))⟩) rfl rfl rfl (by decide) rfl (fun _ => rfl) rfl (by first | exact Nat.le_of_ble_eq_true rfl | omega | (dsimp only [rm_L_areInAccord, rm_X1_areInAccord]; omega)) (by first | exact Nat.le_of_ble_eq_true rfl | omega | (dsimp only [rm_L_areInAccord, rm_X1_areInAccord]; omega)) (fun E ce q9 H locs hX hW g1 g2 g3 => ?_) (fun r_2 u H locs hp_1 hW => ?_)
  · skip
    obtain ⟨rfl, hX⟩ := hX
    refine catch1 (wl := wsL_areInAccord) hown hts htab 0 17 20 21 [] rfl (by decide) (by decide) (List.mem_of_getElem? (i := 1) rfl) hT.2.1.2.2.2.1 g1 g2 g3 ?_
    refine lv_astore (lv' := [(4, .ref q9), (0, .ref x), (1, .int (J z1)), (2, .int (J z2)), (3, .ref o)]) hx hb dL_areInAccord_20 hl (by decide) rfl (fun ls hl => ?_)
    refine jv_iconst hx hb dL_areInAccord_22 ?_
    exact hret g hW dL_areInAccord_23 (by first | exact Nat.le_of_ble_eq_true rfl | omega | (dsimp only [rm_L_areInAccord]; omega)) (by first | exact Nat.le_of_ble_eq_true rfl | omega | (dsimp only [rm_L_areInAccord]; omega)) (Or.inr ⟨hX, rfl, rfl⟩)
  · skip
    obtain ⟨hv, hp_1⟩ := hp_1
    subst hp_1
    refine jv_ifb_eq (b := (ac (σ 0 z1.toNat) (σ 0 z2.toNat))) hx hb 15 dL_areInAccord_8 (by decide) (fun h_3 => ?_) (fun h_3 => ?_)
    · skip
      refine lv_lconst (v := 0) hx hb dL_areInAccord_15 rfl ?_
      refine jv_last (g := g) (ws' := (WX κ x a a2 ++ (WC κ a σ br ++ (WL κ o (vp_updL g 0 0))))) hx hb hK hW 8 rfl rfl dL_areInAccord_16 (fun H locs hW => ?_)
      refine lv_goto (tgt := 24) hx hb dL_areInAccord_17 (by decide) ?_
      refine jv_iconst hx hb dL_areInAccord_24 ?_
      exact hret (vp_updL g 0 0) hW dL_areInAccord_25 (by first | exact Nat.le_of_ble_eq_true rfl | omega | (dsimp only [rm_L_areInAccord]; omega)) (by first | exact Nat.le_of_ble_eq_true rfl | omega | (dsimp only [rm_L_areInAccord]; omega)) (Or.inl ⟨hv, rfl, by rw [h_3, ← bl_f]⟩)
    · skip
      refine lv_lconst (v := 1) hx hb dL_areInAccord_11 rfl ?_
      refine lv_goto (tgt := 16) hx hb dL_areInAccord_12 (by decide) ?_
      refine jv_last (g := g) (ws' := (WX κ x a a2 ++ (WC κ a σ br ++ (WL κ o (vp_updL g 0 1))))) hx hb hK hW 8 rfl rfl dL_areInAccord_16 (fun H locs hW => ?_)
      refine lv_goto (tgt := 24) hx hb dL_areInAccord_17 (by decide) ?_
      refine jv_iconst hx hb dL_areInAccord_24 ?_
      exact hret (vp_updL g 0 1) hW dL_areInAccord_25 (by first | exact Nat.le_of_ble_eq_true rfl | omega | (dsimp only [rm_L_areInAccord]; omega)) (by first | exact Nat.le_of_ble_eq_true rfl | omega | (dsimp only [rm_L_areInAccord]; omega)) (Or.inl ⟨hv, rfl, by rw [h_3, ← bl_t]⟩)

abbrev rm_L_fill : Room := { frames := 8, cells := 1, slots := 6, locals := 133 }
set_option maxHeartbeats 4000000 in
set_option maxRecDepth 100000 in
/-- the law's fill -/
theorem m_L_fill (l : Launch) (κ : Kp) (hst : l.stackTraces = false) (x : Nat) (a a2 : Nat → Nat) (σ : Sg) (br : Nat → Int) (o : Nat) (g : Nat → Int64) (z : Int) (hz : InR z) (hI : Inv σ) : HGi l yL_fill wsL_fill rm_L_fill κ [.ref x, .int (J z), .ref o] (WX κ x a a2 ++ (WC κ a σ br ++ (WL κ o g))) (fun r (u : Sg × (Nat → Int64)) => ((0 ≤ z ∧ z < σ 5 3) ∧ r = J 0 ∧ u = ((up σ 1 z.toNat 20), vp_updL g 0 (J (20 - σ 1 z.toNat)).toInt64)) ∨ (¬ (0 ≤ z ∧ z < σ 5 3) ∧ r = J 1 ∧ u = (σ, g))) (fun (u : Sg × (Nat → Int64)) => WX κ x a a2 ++ (WC κ a u.1 br ++ WL κ o u.2)) := by
  refine entry_hi (by decide) rfl (Nat.le_of_ble_eq_true rfl) ?_
  intro P e s m args below meth c ls A Q F hK hT hN9 htab hA hret hW hl
  obtain ⟨hx, hb, hml, hown, hts⟩ := id F
  refine lv_aload_n hx hb dL_fill_0 rfl (lv_at hl 2 rfl) ?_
  refine jv_iconst hx hb dL_fill_1 ?_
  refine lv_aload_n hx hb dL_fill_2 rfl (lv_at hl 0 rfl) ?_
  refine lv_iload_n hx hb dL_fill_3 rfl (lv_at hl 1 rfl) ?_
  refine fint_i (k := 1) (n := 6) (W2 := (fun _ => (WX κ x a a2 ++ (WC κ a (up σ 1 z.toNat 20) br ++ (WL κ o g))))) [0, 1, 2, 3, 4, 5, 6, 7] [8] [1, 2, 3, 4, 5, 6, 7, 8, 0] hW hA (vx_runV (As := [.int (J z)]) (rest := [.int (J 0), .ref o]) F ((m_X1_fill l κ hst x a a2 σ br z hz hI) _) (cwV 1 hts gL_fill_X1_fill rfl rfl rfl (by decide +kernel) ⟨(Nat.le_of_ble_eq_true rfl), (Nat.le_of_ble_eq_true rfl)⟩) (pre_VT hK hT hW hA [0, 1, 2, 3, 4, 5, 6, 7] rfl (by decide) 1 0 rfl rfl) rfl rfl hl.1 rfl (lv_room (Nat.le_of_ble_eq_true rfl)) dL_fill_4 ⟨(by first | exact Nat.le_of_ble_eq_true rfl | omega | (dsimp only [rm_L_fill, rm_X1_fill]; omega)), (by first | exact Nat.le_of_ble_eq_true rfl | omega | (dsimp only [rm_L_fill, rm_X1_fill]; omega))⟩) rfl rfl rfl (by decide) rfl (fun _ => rfl) rfl (by first | exact Nat.le_of_ble_eq_true rfl | omega | (dsimp only [rm_L_fill, rm_X1_fill]; omega)) (by first | exact Nat.le_of_ble_eq_true rfl | omega | (dsimp only [rm_L_fill, rm_X1_fill]; omega)) (fun E ce q9 H locs hX hW g1 g2 g3 => ?_) (fun r_2 u H locs hp_1 hW => ?_)
  · skip
    obtain ⟨rfl, hX⟩ := hX
    refine catch1 (wl := wsL_fill) hown hts htab 0 9 12 21 [] rfl (by decide) (by decide) (List.mem_of_getElem? (i := 1) rfl) hT.2.1.2.2.2.1 g1 g2 g3 ?_
    refine lv_astore_n (lv' := [(3, .ref q9), (0, .ref x), (1, .int (J z)), (2, .ref o)]) hx hb dL_fill_12 rfl hl (by decide) rfl (fun ls hl => ?_)
    refine jv_iconst hx hb dL_fill_13 ?_
    exact hret (σ, g) hW dL_fill_14 (by first | exact Nat.le_of_ble_eq_true rfl | omega | (dsimp only [rm_L_fill]; omega)) (by first | exact Nat.le_of_ble_eq_true rfl | omega | (dsimp only [rm_L_fill]; omega)) (Or.inr ⟨hX, rfl, rfl⟩)
  · skip
    obtain ⟨hv, hp_1⟩ := hp_1
    subst hp_1
    refine lv_i2l hx hb dL_fill_7 rfl ?_
    refine jv_last (g := g) (ws' := (WX κ x a a2 ++ (WC κ a (up σ 1 z.toNat 20) br ++ (WL κ o (vp_updL g 0 ((J (20 - σ 1 z.toNat)).toInt64)))))) hx hb hK hW 8 rfl rfl dL_fill_8 (fun H locs hW => ?_)
    refine lv_goto (tgt := 15) hx hb dL_fill_9 (by decide) ?_
    refine jv_iconst hx hb dL_fill_15 ?_
    exact hret ((up σ 1 z.toNat 20), vp_updL g 0 ((J (20 - σ 1 z.toNat)).toInt64)) hW dL_fill_16 (by first | exact Nat.le_of_ble_eq_true rfl | omega | (dsimp only [rm_L_fill]; omega)) (by first | exact Nat.le_of_ble_eq_true rfl | omega | (dsimp only [rm_L_fill]; omega)) (Or.inl ⟨hv, rfl, rfl⟩)

abbrev rm_L_mend : Room := { frames := 8, cells := 1, slots := 6, locals := 133 }
set_option maxHeartbeats 4000000 in
set_option maxRecDepth 100000 in
/-- the law's mend -/
theorem m_L_mend (l : Launch) (κ : Kp) (hst : l.stackTraces = false) (x : Nat) (a a2 : Nat → Nat) (σ : Sg) (br : Nat → Int) (o : Nat) (g : Nat → Int64) (z : Int) (hz : InR z) (hI : Inv σ) : HGi l yL_mend wsL_mend rm_L_mend κ [.ref x, .int (J z), .ref o] (WX κ x a a2 ++ (WC κ a σ br ++ (WL κ o g))) (fun r (u : Sg × (Nat → Int64)) => ((0 ≤ z ∧ z < σ 5 3) ∧ r = J 0 ∧ u = ((up (up σ 2 z.toNat 0) 1 z.toNat 0), vp_updL g 0 (J (σ 2 z.toNat)).toInt64)) ∨ (¬ (0 ≤ z ∧ z < σ 5 3) ∧ r = J 1 ∧ u = (σ, g))) (fun (u : Sg × (Nat → Int64)) => WX κ x a a2 ++ (WC κ a u.1 br ++ WL κ o u.2)) := by
  refine entry_hi (by decide) rfl (Nat.le_of_ble_eq_true rfl) ?_
  intro P e s m args below meth c ls A Q F hK hT hN9 htab hA hret hW hl
  obtain ⟨hx, hb, hml, hown, hts⟩ := id F
  refine lv_aload_n hx hb dL_mend_0 rfl (lv_at hl 2 rfl) ?_
  refine jv_iconst hx hb dL_mend_1 ?_
  refine lv_aload_n hx hb dL_mend_2 rfl (lv_at hl 0 rfl) ?_
  refine lv_iload_n hx hb dL_mend_3 rfl (lv_at hl 1 rfl) ?_
  refine fint_i (k := 1) (n := 6) (W2 := (fun _ => (WX κ x a a2 ++ (WC κ a (up (up σ 2 z.toNat 0) 1 z.toNat 0) br ++ (WL κ o g))))) [0, 1, 2, 3, 4, 5, 6, 7] [8] [1, 2, 3, 4, 5, 6, 7, 8, 0] hW hA (vx_runV (As := [.int (J z)]) (rest := [.int (J 0), .ref o]) F ((m_X1_mend l κ hst x a a2 σ br z hz hI) _) (cwV 1 hts gL_mend_X1_mend rfl rfl rfl (by decide +kernel) ⟨(Nat.le_of_ble_eq_true rfl), (Nat.le_of_ble_eq_true rfl)⟩) (pre_VT hK hT hW hA [0, 1, 2, 3, 4, 5, 6, 7] rfl (by decide) 1 0 rfl rfl) rfl rfl hl.1 rfl (lv_room (Nat.le_of_ble_eq_true rfl)) dL_mend_4 ⟨(by first | exact Nat.le_of_ble_eq_true rfl | omega | (dsimp only [rm_L_mend, rm_X1_mend]; omega)), (by first | exact Nat.le_of_ble_eq_true rfl | omega | (dsimp only [rm_L_mend, rm_X1_mend]; omega))⟩) rfl rfl rfl (by decide) rfl (fun _ => rfl) rfl (by first | exact Nat.le_of_ble_eq_true rfl | omega | (dsimp only [rm_L_mend, rm_X1_mend]; omega)) (by first | exact Nat.le_of_ble_eq_true rfl | omega | (dsimp only [rm_L_mend, rm_X1_mend]; omega)) (fun E ce q9 H locs hX hW g1 g2 g3 => ?_) (fun r_2 u H locs hp_1 hW => ?_)
  · skip
    obtain ⟨rfl, hX⟩ := hX
    refine catch1 (wl := wsL_mend) hown hts htab 0 9 12 21 [] rfl (by decide) (by decide) (List.mem_of_getElem? (i := 1) rfl) hT.2.1.2.2.2.1 g1 g2 g3 ?_
    refine lv_astore_n (lv' := [(3, .ref q9), (0, .ref x), (1, .int (J z)), (2, .ref o)]) hx hb dL_mend_12 rfl hl (by decide) rfl (fun ls hl => ?_)
    refine jv_iconst hx hb dL_mend_13 ?_
    exact hret (σ, g) hW dL_mend_14 (by first | exact Nat.le_of_ble_eq_true rfl | omega | (dsimp only [rm_L_mend]; omega)) (by first | exact Nat.le_of_ble_eq_true rfl | omega | (dsimp only [rm_L_mend]; omega)) (Or.inr ⟨hX, rfl, rfl⟩)
  · skip
    obtain ⟨hv, hp_1⟩ := hp_1
    subst hp_1
    refine lv_i2l hx hb dL_mend_7 rfl ?_
    refine jv_last (g := g) (ws' := (WX κ x a a2 ++ (WC κ a (up (up σ 2 z.toNat 0) 1 z.toNat 0) br ++ (WL κ o (vp_updL g 0 ((J (σ 2 z.toNat)).toInt64)))))) hx hb hK hW 8 rfl rfl dL_mend_8 (fun H locs hW => ?_)
    refine lv_goto (tgt := 15) hx hb dL_mend_9 (by decide) ?_
    refine jv_iconst hx hb dL_mend_15 ?_
    exact hret ((up (up σ 2 z.toNat 0) 1 z.toNat 0), vp_updL g 0 ((J (σ 2 z.toNat)).toInt64)) hW dL_mend_16 (by first | exact Nat.le_of_ble_eq_true rfl | omega | (dsimp only [rm_L_mend]; omega)) (by first | exact Nat.le_of_ble_eq_true rfl | omega | (dsimp only [rm_L_mend]; omega)) (Or.inl ⟨hv, rfl, rfl⟩)

abbrev rm_L_turnCosy : Room := { frames := 8, cells := 1, slots := 6, locals := 132 }
set_option maxHeartbeats 4000000 in
set_option maxRecDepth 100000 in
/-- the law's turnCosy -/
theorem m_L_turnCosy (l : Launch) (κ : Kp) (hst : l.stackTraces = false) (x : Nat) (a a2 : Nat → Nat) (σ : Sg) (br : Nat → Int) (o : Nat) (g : Nat → Int64) (z : Int) (hz : InR z) (hI : Inv σ) : HGi l yL_turnCosy wsL_turnCosy rm_L_turnCosy κ [.ref x, .int (J z), .ref o] (WX κ x a a2 ++ (WC κ a σ br ++ (WL κ o g))) (fun r (u : Sg × (Nat → Int64)) => ((0 ≤ z ∧ z < σ 5 3) ∧ r = J 0 ∧ u = ((up σ 3 z.toNat (1 - σ 3 z.toNat)), vp_updL g 0 (J (1 - σ 3 z.toNat)).toInt64)) ∨ (¬ (0 ≤ z ∧ z < σ 5 3) ∧ r = J 1 ∧ u = (σ, g))) (fun (u : Sg × (Nat → Int64)) => WX κ x a a2 ++ (WC κ a u.1 br ++ WL κ o u.2)) := by
  refine entry_hi (by decide) rfl (Nat.le_of_ble_eq_true rfl) ?_
  intro P e s m args below meth c ls A Q F hK hT hN9 htab hA hret hW hl
  obtain ⟨hx, hb, hml, hown, hts⟩ := id F
  refine lv_aload_n hx hb dL_turnCosy_0 rfl (lv_at hl 2 rfl) ?_
  refine jv_iconst hx hb dL_turnCosy_1 ?_
  refine lv_aload_n hx hb dL_turnCosy_2 rfl (lv_at hl 0 rfl) ?_
  refine lv_iload_n hx hb dL_turnCosy_3 rfl (lv_at hl 1 rfl) ?_
  refine fint_i (k := 1) (n := 6) (W2 := (fun _ => (WX κ x a a2 ++ (WC κ a (up σ 3 z.toNat (1 - σ 3 z.toNat)) br ++ (WL κ o g))))) [0, 1, 2, 3, 4, 5, 6, 7] [8] [1, 2, 3, 4, 5, 6, 7, 8, 0] hW hA (vx_runV (As := [.int (J z)]) (rest := [.int (J 0), .ref o]) F ((m_X1_turnCosy l κ hst x a a2 σ br z hz hI) _) (cwV 1 hts gL_turnCosy_X1_turnCosy rfl rfl rfl (by decide +kernel) ⟨(Nat.le_of_ble_eq_true rfl), (Nat.le_of_ble_eq_true rfl)⟩) (pre_VT hK hT hW hA [0, 1, 2, 3, 4, 5, 6, 7] rfl (by decide) 1 0 rfl rfl) rfl rfl hl.1 rfl (lv_room (Nat.le_of_ble_eq_true rfl)) dL_turnCosy_4 ⟨(by first | exact Nat.le_of_ble_eq_true rfl | omega | (dsimp only [rm_L_turnCosy, rm_X1_turnCosy]; omega)), (by first | exact Nat.le_of_ble_eq_true rfl | omega | (dsimp only [rm_L_turnCosy, rm_X1_turnCosy]; omega))⟩) rfl rfl rfl (by decide) rfl (fun _ => rfl) rfl (by first | exact Nat.le_of_ble_eq_true rfl | omega | (dsimp only [rm_L_turnCosy, rm_X1_turnCosy]; omega)) (by first | exact Nat.le_of_ble_eq_true rfl | omega | (dsimp only [rm_L_turnCosy, rm_X1_turnCosy]; omega)) (fun E ce q9 H locs hX hW g1 g2 g3 => ?_) (fun r_2 u H locs hp_1 hW => ?_)
  · skip
    obtain ⟨rfl, hX⟩ := hX
    refine catch1 (wl := wsL_turnCosy) hown hts htab 0 16 19 21 [] rfl (by decide) (by decide) (List.mem_of_getElem? (i := 1) rfl) hT.2.1.2.2.2.1 g1 g2 g3 ?_
    refine lv_astore_n (lv' := [(3, .ref q9), (0, .ref x), (1, .int (J z)), (2, .ref o)]) hx hb dL_turnCosy_19 rfl hl (by decide) rfl (fun ls hl => ?_)
    refine jv_iconst hx hb dL_turnCosy_20 ?_
    exact hret (σ, g) hW dL_turnCosy_21 (by first | exact Nat.le_of_ble_eq_true rfl | omega | (dsimp only [rm_L_turnCosy]; omega)) (by first | exact Nat.le_of_ble_eq_true rfl | omega | (dsimp only [rm_L_turnCosy]; omega)) (Or.inr ⟨hX, rfl, rfl⟩)
  · skip
    obtain ⟨hv, hp_1⟩ := hp_1
    subst hp_1
    have h9 := hI.at z.toNat (by have := hI.1; omega)
    refine jv_if_eq hx hb 14 dL_turnCosy_7 (by decide) ⟨by omega, by omega⟩ (fun h_3 => ?_) (fun h_3 => ?_)
    · skip
      refine lv_lconst (v := 0) hx hb dL_turnCosy_14 rfl ?_
      refine jv_last (g := g) (ws' := (WX κ x a a2 ++ (WC κ a (up σ 3 z.toNat (1 - σ 3 z.toNat)) br ++ (WL κ o (vp_updL g 0 0))))) hx hb hK hW 8 rfl rfl dL_turnCosy_15 (fun H locs hW => ?_)
      refine lv_goto (tgt := 22) hx hb dL_turnCosy_16 (by decide) ?_
      refine jv_iconst hx hb dL_turnCosy_22 ?_
      exact hret ((up σ 3 z.toNat (1 - σ 3 z.toNat)), vp_updL g 0 0) hW dL_turnCosy_23 (by first | exact Nat.le_of_ble_eq_true rfl | omega | (dsimp only [rm_L_turnCosy]; omega)) (by first | exact Nat.le_of_ble_eq_true rfl | omega | (dsimp only [rm_L_turnCosy]; omega)) (Or.inl ⟨hv, rfl, by rw [show (1 - σ 3 z.toNat : Int) = 0 by omega, ← jl_0]⟩)
    · skip
      refine lv_lconst (v := 1) hx hb dL_turnCosy_10 rfl ?_
      refine lv_goto (tgt := 15) hx hb dL_turnCosy_11 (by decide) ?_
      refine jv_last (g := g) (ws' := (WX κ x a a2 ++ (WC κ a (up σ 3 z.toNat (1 - σ 3 z.toNat)) br ++ (WL κ o (vp_updL g 0 1))))) hx hb hK hW 8 rfl rfl dL_turnCosy_15 (fun H locs hW => ?_)
      refine lv_goto (tgt := 22) hx hb dL_turnCosy_16 (by decide) ?_
      refine jv_iconst hx hb dL_turnCosy_22 ?_
      exact hret ((up σ 3 z.toNat (1 - σ 3 z.toNat)), vp_updL g 0 1) hW dL_turnCosy_23 (by first | exact Nat.le_of_ble_eq_true rfl | omega | (dsimp only [rm_L_turnCosy]; omega)) (by first | exact Nat.le_of_ble_eq_true rfl | omega | (dsimp only [rm_L_turnCosy]; omega)) (Or.inl ⟨hv, rfl, by rw [show (1 - σ 3 z.toNat : Int) = 1 by omega, ← jl_1]⟩)

abbrev rm_L_tune : Room := { frames := 8, cells := 3, slots := 18, locals := 135 }
set_option maxHeartbeats 4000000 in
set_option maxRecDepth 100000 in
/-- the law's tune -/
theorem m_L_tune (l : Launch) (κ : Kp) (hst : l.stackTraces = false) (x : Nat) (a a2 : Nat → Nat) (σ : Sg) (br : Nat → Int) (o : Nat) (g : Nat → Int64) (z b : Int) (hz : InR z ∧ InR b) (hI : Inv σ) : HGi l yL_tune wsL_tune rm_L_tune κ [.ref x, .int (J z), .int (J b), .ref o] (WX κ x a a2 ++ (WC κ a σ br ++ (WL κ o g))) (fun r (u : Sg × (Nat → Int64)) => (((0 ≤ z ∧ z < σ 5 3) ∧ ((-12 ≤ b ∧ b ≤ 12) ∧ (0 ≤ σ 0 z.toNat + b ∧ σ 0 z.toNat + b ≤ 35))) ∧ r = J 0 ∧ u = ((up σ 0 z.toNat (σ 0 z.toNat + b)), vp_updL g 0 (J (σ 0 z.toNat + b)).toInt64)) ∨ (¬ (0 ≤ z ∧ z < σ 5 3) ∧ r = J 1 ∧ u = (σ, g)) ∨ (((0 ≤ z ∧ z < σ 5 3) ∧ ¬ ((-12 ≤ b ∧ b ≤ 12) ∧ (0 ≤ σ 0 z.toNat + b ∧ σ 0 z.toNat + b ≤ 35))) ∧ r = J 2 ∧ u = (σ, g))) (fun (u : Sg × (Nat → Int64)) => WX κ x a a2 ++ (WC κ a u.1 br ++ WL κ o u.2)) := by
  refine entry_hi (by decide) rfl (Nat.le_of_ble_eq_true rfl) ?_
  intro P e s m args below meth c ls A Q F hK hT hN9 htab hA hret hW hl
  obtain ⟨hx, hb, hml, hown, hts⟩ := id F
  refine lv_aload_n hx hb dL_tune_0 rfl (lv_at hl 3 rfl) ?_
  refine jv_iconst hx hb dL_tune_1 ?_
  refine lv_aload_n hx hb dL_tune_2 rfl (lv_at hl 0 rfl) ?_
  refine lv_iload_n hx hb dL_tune_3 rfl (lv_at hl 1 rfl) ?_
  refine lv_iload_n hx hb dL_tune_4 rfl (lv_at hl 2 rfl) ?_
  refine fint_i (k := 3) (n := 18) (W2 := (fun _ => (WX κ x a a2 ++ (WC κ a (up σ 0 z.toNat (σ 0 z.toNat + b)) br ++ (WL κ o g))))) [0, 1, 2, 3, 4, 5, 6, 7] [8] [1, 2, 3, 4, 5, 6, 7, 8, 0] hW hA (vx_runV (As := [.int (J z), .int (J b)]) (rest := [.int (J 0), .ref o]) F ((m_X1_tune l κ hst x a a2 σ br z b hz hI) _) (cwV 2 hts gL_tune_X1_tune rfl rfl rfl (by decide +kernel) ⟨(Nat.le_of_ble_eq_true rfl), (Nat.le_of_ble_eq_true rfl)⟩) (pre_VT hK hT hW hA [0, 1, 2, 3, 4, 5, 6, 7] rfl (by decide) 1 0 rfl rfl) rfl rfl hl.1 rfl (lv_room (Nat.le_of_ble_eq_true rfl)) dL_tune_5 ⟨(by first | exact Nat.le_of_ble_eq_true rfl | omega | (dsimp only [rm_L_tune, rm_X1_tune]; omega)), (by first | exact Nat.le_of_ble_eq_true rfl | omega | (dsimp only [rm_L_tune, rm_X1_tune]; omega))⟩) rfl rfl rfl (by decide) rfl (fun _ => rfl) rfl (by first | exact Nat.le_of_ble_eq_true rfl | omega | (dsimp only [rm_L_tune, rm_X1_tune]; omega)) (by first | exact Nat.le_of_ble_eq_true rfl | omega | (dsimp only [rm_L_tune, rm_X1_tune]; omega)) (fun E ce q9 H locs hX hW g1 g2 g3 => ?_) (fun r_2 u H locs hp_1 hW => ?_)
  · skip
    rcases hX with ⟨rfl, hX⟩ | ⟨rfl, hX⟩
    · skip
      refine catch1 (wl := wsL_tune) hown hts htab 0 10 13 21 [(0, 10, 17, 13)] rfl (by decide) (by decide) (List.mem_of_getElem? (i := 1) rfl) hT.2.1.2.2.2.1 g1 g2 g3 ?_
      refine lv_astore (lv' := [(4, .ref q9), (0, .ref x), (1, .int (J z)), (2, .int (J b)), (3, .ref o)]) hx hb dL_tune_13 hl (by decide) rfl (fun ls hl => ?_)
      refine jv_iconst hx hb dL_tune_15 ?_
      exact hret (σ, g) hW dL_tune_16 (by first | exact Nat.le_of_ble_eq_true rfl | omega | (dsimp only [rm_L_tune]; omega)) (by first | exact Nat.le_of_ble_eq_true rfl | omega | (dsimp only [rm_L_tune]; omega)) (Or.inr (Or.inl ⟨hX, rfl, rfl⟩))
    · skip
      refine catch2 (wl := wsL_tune) (F := eIO) hown hts htab 13 0 10 17 21 13 rfl (by decide) (by decide) (by decide) (List.mem_of_getElem? (i := 2) rfl) (List.mem_of_getElem? (i := 1) rfl) hN9.2 hT.2.1.2.2.2.2.1 g1 g2 g3 ?_
      refine lv_astore (lv' := [(4, .ref q9), (0, .ref x), (1, .int (J z)), (2, .int (J b)), (3, .ref o)]) hx hb dL_tune_17 hl (by decide) rfl (fun ls hl => ?_)
      refine jv_iconst hx hb dL_tune_19 ?_
      exact hret (σ, g) hW dL_tune_20 (by first | exact Nat.le_of_ble_eq_true rfl | omega | (dsimp only [rm_L_tune]; omega)) (by first | exact Nat.le_of_ble_eq_true rfl | omega | (dsimp only [rm_L_tune]; omega)) (Or.inr (Or.inr ⟨hX, rfl, rfl⟩))
  · skip
    obtain ⟨hv, hp_1⟩ := hp_1
    subst hp_1
    refine lv_i2l hx hb dL_tune_8 rfl ?_
    refine jv_last (g := g) (ws' := (WX κ x a a2 ++ (WC κ a (up σ 0 z.toNat (σ 0 z.toNat + b)) br ++ (WL κ o (vp_updL g 0 ((J (σ 0 z.toNat + b)).toInt64)))))) hx hb hK hW 8 rfl rfl dL_tune_9 (fun H locs hW => ?_)
    refine lv_goto (tgt := 21) hx hb dL_tune_10 (by decide) ?_
    refine jv_iconst hx hb dL_tune_21 ?_
    exact hret ((up σ 0 z.toNat (σ 0 z.toNat + b)), vp_updL g 0 ((J (σ 0 z.toNat + b)).toInt64)) hW dL_tune_22 (by first | exact Nat.le_of_ble_eq_true rfl | omega | (dsimp only [rm_L_tune]; omega)) (by first | exact Nat.le_of_ble_eq_true rfl | omega | (dsimp only [rm_L_tune]; omega)) (Or.inl ⟨hv, rfl, rfl⟩)

abbrev rm_L_pour : Room := { frames := 8, cells := 4, slots := 24, locals := 136 }
set_option maxHeartbeats 4000000 in
set_option maxRecDepth 100000 in
/-- the law's pour -/
theorem m_L_pour (l : Launch) (κ : Kp) (hst : l.stackTraces = false) (x : Nat) (a a2 : Nat → Nat) (σ : Sg) (br : Nat → Int) (o : Nat) (g : Nat → Int64) (z1 z2 t : Int) (hz : InR z1 ∧ InR z2 ∧ InR t) (hI : Inv σ) : HGi l yL_pour wsL_pour rm_L_pour κ [.ref x, .int (J z1), .int (J z2), .int (J t), .ref o] (WX κ x a a2 ++ (WC κ a σ br ++ (WL κ o g))) (fun r (u : Sg × (Nat → Int64)) => ((((0 ≤ z1 ∧ z1 < σ 5 3) ∧ (0 ≤ z2 ∧ z2 < σ 5 3)) ∧ (z1 ≠ z2 ∧ (1 ≤ t ∧ t ≤ 20))) ∧ r = J 0 ∧ u = ((up (up σ 1 z1.toNat (σ 1 z1.toNat - (ptea σ z1.toNat z2.toNat t))) 1 z2.toNat (σ 1 z2.toNat + (ptea σ z1.toNat z2.toNat t))), vp_updL g 0 (J ((ptea σ z1.toNat z2.toNat t))).toInt64)) ∨ (¬ ((0 ≤ z1 ∧ z1 < σ 5 3) ∧ (0 ≤ z2 ∧ z2 < σ 5 3)) ∧ r = J 1 ∧ u = (σ, g)) ∨ ((((0 ≤ z1 ∧ z1 < σ 5 3) ∧ (0 ≤ z2 ∧ z2 < σ 5 3)) ∧ ¬ (z1 ≠ z2 ∧ (1 ≤ t ∧ t ≤ 20))) ∧ r = J 2 ∧ u = (σ, g))) (fun (u : Sg × (Nat → Int64)) => WX κ x a a2 ++ (WC κ a u.1 br ++ WL κ o u.2)) := by
  refine entry_hi (by decide) rfl (Nat.le_of_ble_eq_true rfl) ?_
  intro P e s m args below meth c ls A Q F hK hT hN9 htab hA hret hW hl
  obtain ⟨hx, hb, hml, hown, hts⟩ := id F
  refine lv_aload hx hb dL_pour_0 (lv_at hl 4 rfl) ?_
  refine jv_iconst hx hb dL_pour_2 ?_
  refine lv_aload_n hx hb dL_pour_3 rfl (lv_at hl 0 rfl) ?_
  refine lv_iload_n hx hb dL_pour_4 rfl (lv_at hl 1 rfl) ?_
  refine lv_iload_n hx hb dL_pour_5 rfl (lv_at hl 2 rfl) ?_
  refine lv_iload_n hx hb dL_pour_6 rfl (lv_at hl 3 rfl) ?_
  refine fint_i (k := 4) (n := 24) (W2 := (fun _ => (WX κ x a a2 ++ (WC κ a (up (up σ 1 z1.toNat (σ 1 z1.toNat - (ptea σ z1.toNat z2.toNat t))) 1 z2.toNat (σ 1 z2.toNat + (ptea σ z1.toNat z2.toNat t))) br ++ (WL κ o g))))) [0, 1, 2, 3, 4, 5, 6, 7] [8] [1, 2, 3, 4, 5, 6, 7, 8, 0] hW hA (vx_runV (As := [.int (J z1), .int (J z2), .int (J t)]) (rest := [.int (J 0), .ref o]) F ((m_X1_pour l κ hst x a a2 σ br z1 z2 t hz hI) _) (cwV 3 hts gL_pour_X1_pour rfl rfl rfl (by decide +kernel) ⟨(Nat.le_of_ble_eq_true rfl), (Nat.le_of_ble_eq_true rfl)⟩) (pre_VT hK hT hW hA [0, 1, 2, 3, 4, 5, 6, 7] rfl (by decide) 1 0 rfl rfl) rfl rfl hl.1 rfl (lv_room (Nat.le_of_ble_eq_true rfl)) dL_pour_7 ⟨(by first | exact Nat.le_of_ble_eq_true rfl | omega | (dsimp only [rm_L_pour, rm_X1_pour]; omega)), (by first | exact Nat.le_of_ble_eq_true rfl | omega | (dsimp only [rm_L_pour, rm_X1_pour]; omega))⟩) rfl rfl rfl (by decide) rfl (fun _ => rfl) rfl (by first | exact Nat.le_of_ble_eq_true rfl | omega | (dsimp only [rm_L_pour, rm_X1_pour]; omega)) (by first | exact Nat.le_of_ble_eq_true rfl | omega | (dsimp only [rm_L_pour, rm_X1_pour]; omega)) (fun E ce q9 H locs hX hW g1 g2 g3 => ?_) (fun r_2 u H locs hp_1 hW => ?_)
  · skip
    rcases hX with ⟨rfl, hX⟩ | ⟨rfl, hX⟩
    · skip
      refine catch1 (wl := wsL_pour) hown hts htab 0 12 15 21 [(0, 12, 19, 13)] rfl (by decide) (by decide) (List.mem_of_getElem? (i := 1) rfl) hT.2.1.2.2.2.1 g1 g2 g3 ?_
      refine lv_astore (lv' := [(5, .ref q9), (0, .ref x), (1, .int (J z1)), (2, .int (J z2)), (3, .int (J t)), (4, .ref o)]) hx hb dL_pour_15 hl (by decide) rfl (fun ls hl => ?_)
      refine jv_iconst hx hb dL_pour_17 ?_
      exact hret (σ, g) hW dL_pour_18 (by first | exact Nat.le_of_ble_eq_true rfl | omega | (dsimp only [rm_L_pour]; omega)) (by first | exact Nat.le_of_ble_eq_true rfl | omega | (dsimp only [rm_L_pour]; omega)) (Or.inr (Or.inl ⟨hX, rfl, rfl⟩))
    · skip
      refine catch2 (wl := wsL_pour) (F := eIO) hown hts htab 15 0 12 19 21 13 rfl (by decide) (by decide) (by decide) (List.mem_of_getElem? (i := 2) rfl) (List.mem_of_getElem? (i := 1) rfl) hN9.2 hT.2.1.2.2.2.2.1 g1 g2 g3 ?_
      refine lv_astore (lv' := [(5, .ref q9), (0, .ref x), (1, .int (J z1)), (2, .int (J z2)), (3, .int (J t)), (4, .ref o)]) hx hb dL_pour_19 hl (by decide) rfl (fun ls hl => ?_)
      refine jv_iconst hx hb dL_pour_21 ?_
      exact hret (σ, g) hW dL_pour_22 (by first | exact Nat.le_of_ble_eq_true rfl | omega | (dsimp only [rm_L_pour]; omega)) (by first | exact Nat.le_of_ble_eq_true rfl | omega | (dsimp only [rm_L_pour]; omega)) (Or.inr (Or.inr ⟨hX, rfl, rfl⟩))
  · skip
    obtain ⟨hv, hp_1⟩ := hp_1
    subst hp_1
    refine lv_i2l hx hb dL_pour_10 rfl ?_
    refine jv_last (g := g) (ws' := (WX κ x a a2 ++ (WC κ a (up (up σ 1 z1.toNat (σ 1 z1.toNat - (ptea σ z1.toNat z2.toNat t))) 1 z2.toNat (σ 1 z2.toNat + (ptea σ z1.toNat z2.toNat t))) br ++ (WL κ o (vp_updL g 0 ((J (ptea σ z1.toNat z2.toNat t)).toInt64)))))) hx hb hK hW 8 rfl rfl dL_pour_11 (fun H locs hW => ?_)
    refine lv_goto (tgt := 23) hx hb dL_pour_12 (by decide) ?_
    refine jv_iconst hx hb dL_pour_23 ?_
    exact hret ((up (up σ 1 z1.toNat (σ 1 z1.toNat - (ptea σ z1.toNat z2.toNat t))) 1 z2.toNat (σ 1 z2.toNat + (ptea σ z1.toNat z2.toNat t))), vp_updL g 0 ((J (ptea σ z1.toNat z2.toNat t)).toInt64)) hW dL_pour_24 (by first | exact Nat.le_of_ble_eq_true rfl | omega | (dsimp only [rm_L_pour]; omega)) (by first | exact Nat.le_of_ble_eq_true rfl | omega | (dsimp only [rm_L_pour]; omega)) (Or.inl ⟨hv, rfl, rfl⟩)

abbrev rm_L_addPot : Room := { frames := 8, cells := 4, slots := 24, locals := 135 }
set_option maxHeartbeats 4000000 in
set_option maxRecDepth 100000 in
/-- the law's addPot -/
theorem m_L_addPot (l : Launch) (κ : Kp) (hst : l.stackTraces = false) (x : Nat) (a a2 : Nat → Nat) (σ : Sg) (br : Nat → Int) (o : Nat) (g : Nat → Int64) (z1 z2 z3 : Int) (hz : InR z1 ∧ InR z2 ∧ InR z3) (hI : Inv σ) : HGi l yL_addPot wsL_addPot rm_L_addPot κ [.ref x, .int (J z1), .int (J z2), .int (J z3), .ref o] (WX κ x a a2 ++ (WC κ a σ br ++ (WL κ o g))) (fun r (u : Sg × (Nat → Int64)) => ((((0 ≤ z1 ∧ z1 ≤ 3) ∧ (0 ≤ z2 ∧ z2 ≤ 35) ∧ (0 ≤ z3 ∧ z3 ≤ 20)) ∧ (σ 5 3 < 10)) ∧ r = J 0 ∧ u = ((up (up (up (up σ 4 ((σ 5 3).toNat) z1) 0 ((σ 5 3).toNat) z2) 1 ((σ 5 3).toNat) z3) 5 3 (σ 5 3 + 1)), vp_updL g 0 (J (σ 5 3)).toInt64)) ∨ (¬ ((0 ≤ z1 ∧ z1 ≤ 3) ∧ (0 ≤ z2 ∧ z2 ≤ 35) ∧ (0 ≤ z3 ∧ z3 ≤ 20)) ∧ r = J 1 ∧ u = (σ, g)) ∨ ((((0 ≤ z1 ∧ z1 ≤ 3) ∧ (0 ≤ z2 ∧ z2 ≤ 35) ∧ (0 ≤ z3 ∧ z3 ≤ 20)) ∧ ¬ (σ 5 3 < 10)) ∧ r = J 2 ∧ u = (σ, g))) (fun (u : Sg × (Nat → Int64)) => WX κ x a a2 ++ (WC κ a u.1 br ++ WL κ o u.2)) := by
  refine entry_hi (by decide) rfl (Nat.le_of_ble_eq_true rfl) ?_
  intro P e s m args below meth c ls A Q F hK hT hN9 htab hA hret hW hl
  obtain ⟨hx, hb, hml, hown, hts⟩ := id F
  refine lv_aload hx hb dL_addPot_0 (lv_at hl 4 rfl) ?_
  refine jv_iconst hx hb dL_addPot_2 ?_
  refine lv_aload_n hx hb dL_addPot_3 rfl (lv_at hl 0 rfl) ?_
  refine lv_iload_n hx hb dL_addPot_4 rfl (lv_at hl 1 rfl) ?_
  refine lv_iload_n hx hb dL_addPot_5 rfl (lv_at hl 2 rfl) ?_
  refine lv_iload_n hx hb dL_addPot_6 rfl (lv_at hl 3 rfl) ?_
  refine fint_i (k := 4) (n := 24) (W2 := (fun _ => (WX κ x a a2 ++ (WC κ a (up (up (up (up σ 4 ((σ 5 3).toNat) z1) 0 ((σ 5 3).toNat) z2) 1 ((σ 5 3).toNat) z3) 5 3 (σ 5 3 + 1)) br ++ (WL κ o g))))) [0, 1, 2, 3, 4, 5, 6, 7] [8] [1, 2, 3, 4, 5, 6, 7, 8, 0] hW hA (vx_runV (As := [.int (J z1), .int (J z2), .int (J z3)]) (rest := [.int (J 0), .ref o]) F ((m_X1_addPot l κ hst x a a2 σ br z1 z2 z3 hz hI) _) (cwV 3 hts gL_addPot_X1_addPot rfl rfl rfl (by decide +kernel) ⟨(Nat.le_of_ble_eq_true rfl), (Nat.le_of_ble_eq_true rfl)⟩) (pre_VT hK hT hW hA [0, 1, 2, 3, 4, 5, 6, 7] rfl (by decide) 1 0 rfl rfl) rfl rfl hl.1 rfl (lv_room (Nat.le_of_ble_eq_true rfl)) dL_addPot_7 ⟨(by first | exact Nat.le_of_ble_eq_true rfl | omega | (dsimp only [rm_L_addPot, rm_X1_addPot]; omega)), (by first | exact Nat.le_of_ble_eq_true rfl | omega | (dsimp only [rm_L_addPot, rm_X1_addPot]; omega))⟩) rfl rfl rfl (by decide) rfl (fun _ => rfl) rfl (by first | exact Nat.le_of_ble_eq_true rfl | omega | (dsimp only [rm_L_addPot, rm_X1_addPot]; omega)) (by first | exact Nat.le_of_ble_eq_true rfl | omega | (dsimp only [rm_L_addPot, rm_X1_addPot]; omega)) (fun E ce q9 H locs hX hW g1 g2 g3 => ?_) (fun r_2 u H locs hp_1 hW => ?_)
  · skip
    rcases hX with ⟨rfl, hX⟩ | ⟨rfl, hX⟩
    · skip
      refine catch1 (wl := wsL_addPot) hown hts htab 0 12 15 13 [(0, 12, 19, 15)] rfl (by decide) (by decide) (List.mem_of_getElem? (i := 1) rfl) hT.2.1.2.2.2.2.1 g1 g2 g3 ?_
      refine lv_astore (lv' := [(5, .ref q9), (0, .ref x), (1, .int (J z1)), (2, .int (J z2)), (3, .int (J z3)), (4, .ref o)]) hx hb dL_addPot_15 hl (by decide) rfl (fun ls hl => ?_)
      refine jv_iconst hx hb dL_addPot_17 ?_
      exact hret (σ, g) hW dL_addPot_18 (by first | exact Nat.le_of_ble_eq_true rfl | omega | (dsimp only [rm_L_addPot]; omega)) (by first | exact Nat.le_of_ble_eq_true rfl | omega | (dsimp only [rm_L_addPot]; omega)) (Or.inr (Or.inl ⟨hX, rfl, rfl⟩))
    · skip
      refine catch2 (wl := wsL_addPot) (F := eIA) hown hts htab 15 0 12 19 13 15 rfl (by decide) (by decide) (by decide) (List.mem_of_getElem? (i := 2) rfl) (List.mem_of_getElem? (i := 1) rfl) hN9.1 hT.2.1.2.2.2.2.2 g1 g2 g3 ?_
      refine lv_astore (lv' := [(5, .ref q9), (0, .ref x), (1, .int (J z1)), (2, .int (J z2)), (3, .int (J z3)), (4, .ref o)]) hx hb dL_addPot_19 hl (by decide) rfl (fun ls hl => ?_)
      refine jv_iconst hx hb dL_addPot_21 ?_
      exact hret (σ, g) hW dL_addPot_22 (by first | exact Nat.le_of_ble_eq_true rfl | omega | (dsimp only [rm_L_addPot]; omega)) (by first | exact Nat.le_of_ble_eq_true rfl | omega | (dsimp only [rm_L_addPot]; omega)) (Or.inr (Or.inr ⟨hX, rfl, rfl⟩))
  · skip
    obtain ⟨hv, hp_1⟩ := hp_1
    subst hp_1
    refine lv_i2l hx hb dL_addPot_10 rfl ?_
    refine jv_last (g := g) (ws' := (WX κ x a a2 ++ (WC κ a (up (up (up (up σ 4 ((σ 5 3).toNat) z1) 0 ((σ 5 3).toNat) z2) 1 ((σ 5 3).toNat) z3) 5 3 (σ 5 3 + 1)) br ++ (WL κ o (vp_updL g 0 ((J (σ 5 3)).toInt64)))))) hx hb hK hW 8 rfl rfl dL_addPot_11 (fun H locs hW => ?_)
    refine lv_goto (tgt := 23) hx hb dL_addPot_12 (by decide) ?_
    refine jv_iconst hx hb dL_addPot_23 ?_
    exact hret ((up (up (up (up σ 4 ((σ 5 3).toNat) z1) 0 ((σ 5 3).toNat) z2) 1 ((σ 5 3).toNat) z3) 5 3 (σ 5 3 + 1)), vp_updL g 0 ((J (σ 5 3)).toInt64)) hW dL_addPot_24 (by first | exact Nat.le_of_ble_eq_true rfl | omega | (dsimp only [rm_L_addPot]; omega)) (by first | exact Nat.le_of_ble_eq_true rfl | omega | (dsimp only [rm_L_addPot]; omega)) (Or.inl ⟨hv, rfl, rfl⟩)

abbrev rm_L_sing : Room := { frames := 8, cells := 1, slots := 6, locals := 173 }
set_option maxHeartbeats 4000000 in
set_option maxRecDepth 100000 in
/-- the law's sing -/
theorem m_L_sing (l : Launch) (κ : Kp) (hst : l.stackTraces = false) (x : Nat) (a a2 : Nat → Nat) (σ : Sg) (br : Nat → Int) (o : Nat) (g : Nat → Int64) (k : Int) (hz : InR k) (hI : Inv σ) (hB : σ 5 0 ≤ 100000000) : HGi l yL_sing wsL_sing rm_L_sing κ [.ref x, .int (J k), .ref o] (WX κ x a a2 ++ (WC κ a σ br ++ (WL κ o g))) (fun r (u : Sg × (Nat → Int64)) => ((1 ≤ k ∧ k ≤ 60) ∧ r = J 0 ∧ u = ((pbn σ k.toNat), vp_updL g 0 (J (pbn σ k.toNat 5 1 - σ 5 1)).toInt64)) ∨ (¬ (1 ≤ k ∧ k ≤ 60) ∧ r = J 1 ∧ u = (σ, g))) (fun (u : Sg × (Nat → Int64)) => WX κ x a a2 ++ (WC κ a u.1 br ++ WL κ o u.2)) := by
  refine entry_hi (by decide) rfl (Nat.le_of_ble_eq_true rfl) ?_
  intro P e s m args below meth c ls A Q F hK hT hN9 htab hA hret hW hl
  obtain ⟨hx, hb, hml, hown, hts⟩ := id F
  refine lv_aload_n hx hb dL_sing_0 rfl (lv_at hl 2 rfl) ?_
  refine jv_iconst hx hb dL_sing_1 ?_
  refine lv_aload_n hx hb dL_sing_2 rfl (lv_at hl 0 rfl) ?_
  refine lv_iload_n hx hb dL_sing_3 rfl (lv_at hl 1 rfl) ?_
  refine fint_i (k := 1) (n := 6) (W2 := (fun _ => (WX κ x a a2 ++ (WC κ a (pbn σ k.toNat) br ++ (WL κ o g))))) [0, 1, 2, 3, 4, 5, 6, 7] [8] [1, 2, 3, 4, 5, 6, 7, 8, 0] hW hA (vx_runV (As := [.int (J k)]) (rest := [.int (J 0), .ref o]) F ((m_X1_sing l κ hst x a a2 σ br k hz hI hB) _) (cwV 1 hts gL_sing_X1_sing rfl rfl rfl (by decide +kernel) ⟨(Nat.le_of_ble_eq_true rfl), (Nat.le_of_ble_eq_true rfl)⟩) (pre_VT hK hT hW hA [0, 1, 2, 3, 4, 5, 6, 7] rfl (by decide) 1 0 rfl rfl) rfl rfl hl.1 rfl (lv_room (Nat.le_of_ble_eq_true rfl)) dL_sing_4 ⟨(by first | exact Nat.le_of_ble_eq_true rfl | omega | (dsimp only [rm_L_sing, rm_X1_sing]; omega)), (by first | exact Nat.le_of_ble_eq_true rfl | omega | (dsimp only [rm_L_sing, rm_X1_sing]; omega))⟩) rfl rfl rfl (by decide) rfl (fun _ => rfl) rfl (by first | exact Nat.le_of_ble_eq_true rfl | omega | (dsimp only [rm_L_sing, rm_X1_sing]; omega)) (by first | exact Nat.le_of_ble_eq_true rfl | omega | (dsimp only [rm_L_sing, rm_X1_sing]; omega)) (fun E ce q9 H locs hX hW g1 g2 g3 => ?_) (fun r_2 u H locs hp_1 hW => ?_)
  · skip
    obtain ⟨rfl, hX⟩ := hX
    refine catch1 (wl := wsL_sing) hown hts htab 0 9 12 13 [] rfl (by decide) (by decide) (List.mem_of_getElem? (i := 1) rfl) hT.2.1.2.2.2.2.1 g1 g2 g3 ?_
    refine lv_astore_n (lv' := [(3, .ref q9), (0, .ref x), (1, .int (J k)), (2, .ref o)]) hx hb dL_sing_12 rfl hl (by decide) rfl (fun ls hl => ?_)
    refine jv_iconst hx hb dL_sing_13 ?_
    exact hret (σ, g) hW dL_sing_14 (by first | exact Nat.le_of_ble_eq_true rfl | omega | (dsimp only [rm_L_sing]; omega)) (by first | exact Nat.le_of_ble_eq_true rfl | omega | (dsimp only [rm_L_sing]; omega)) (Or.inr ⟨hX, rfl, rfl⟩)
  · skip
    obtain ⟨hv, hp_1⟩ := hp_1
    subst hp_1
    refine lv_i2l hx hb dL_sing_7 rfl ?_
    refine jv_last (g := g) (ws' := (WX κ x a a2 ++ (WC κ a (pbn σ k.toNat) br ++ (WL κ o (vp_updL g 0 ((J (pbn σ k.toNat 5 1 - σ 5 1)).toInt64)))))) hx hb hK hW 8 rfl rfl dL_sing_8 (fun H locs hW => ?_)
    refine lv_goto (tgt := 15) hx hb dL_sing_9 (by decide) ?_
    refine jv_iconst hx hb dL_sing_15 ?_
    exact hret ((pbn σ k.toNat), vp_updL g 0 ((J (pbn σ k.toNat 5 1 - σ 5 1)).toInt64)) hW dL_sing_16 (by first | exact Nat.le_of_ble_eq_true rfl | omega | (dsimp only [rm_L_sing]; omega)) (by first | exact Nat.le_of_ble_eq_true rfl | omega | (dsimp only [rm_L_sing]; omega)) (Or.inl ⟨hv, rfl, rfl⟩)

abbrev rm_L_harmonyIn : Room := { frames := 8, cells := 1, slots := 6, locals := 172 }
set_option maxHeartbeats 4000000 in
set_option maxRecDepth 100000 in
/-- the law's harmonyIn -/
theorem m_L_harmonyIn (l : Launch) (κ : Kp) (hst : l.stackTraces = false) (x : Nat) (a a2 : Nat → Nat) (σ : Sg) (br : Nat → Int) (τ : Sg) (bt : Nat → Int) (o : Nat) (g : Nat → Int64) (k : Int) (hz : InR k) (hI : Inv σ) (hB : σ 5 0 ≤ 100000000) : HGi l yL_harmonyIn wsL_harmonyIn rm_L_harmonyIn κ [.ref x, .int (J k), .ref o] (WX κ x a a2 ++ (WC κ a σ br ++ (WC κ a2 τ bt ++ (WL κ o g)))) (fun r (u : Sg × (Nat → Int64)) => ((1 ≤ k ∧ k ≤ 60) ∧ r = J 0 ∧ u.2 = vp_updL g 0 (J (hm (pbn σ k.toNat))).toInt64) ∨ (¬ (1 ≤ k ∧ k ≤ 60) ∧ r = J 1 ∧ u = (τ, g))) (fun (u : Sg × (Nat → Int64)) => WX κ x a a2 ++ (WC κ a σ br ++ (WC κ a2 u.1 bt ++ WL κ o u.2))) := by
  refine entry_hi (by decide) rfl (Nat.le_of_ble_eq_true rfl) ?_
  intro P e s m args below meth c ls A Q F hK hT hN9 htab hA hret hW hl
  obtain ⟨hx, hb, hml, hown, hts⟩ := id F
  refine lv_aload_n hx hb dL_harmonyIn_0 rfl (lv_at hl 2 rfl) ?_
  refine jv_iconst hx hb dL_harmonyIn_1 ?_
  refine lv_aload_n hx hb dL_harmonyIn_2 rfl (lv_at hl 0 rfl) ?_
  refine lv_iload_n hx hb dL_harmonyIn_3 rfl (lv_at hl 1 rfl) ?_
  refine fint_i (k := 1) (n := 6) (W2 := (fun τ1 => (WX κ x a a2 ++ (WC κ a σ br ++ (WC κ a2 τ1 bt ++ (WL κ o g)))))) [0, 1, 2, 3, 4, 5, 6, 7, 8, 9, 10, 11, 12, 13, 14] [15] [1, 2, 3, 4, 5, 6, 7, 8, 9, 10, 11, 12, 13, 14, 15, 0] hW hA (vx_runV (As := [.int (J k)]) (rest := [.int (J 0), .ref o]) F ((m_X1_harmonyIn l κ hst x a a2 σ br τ bt k hz hI hB) _) (cwV 1 hts gL_harmonyIn_X1_harmonyIn rfl rfl rfl (by decide +kernel) ⟨(Nat.le_of_ble_eq_true rfl), (Nat.le_of_ble_eq_true rfl)⟩) (pre_VT hK hT hW hA [0, 1, 2, 3, 4, 5, 6, 7, 8, 9, 10, 11, 12, 13, 14] rfl (by decide) 1 0 rfl rfl) rfl rfl hl.1 rfl (lv_room (Nat.le_of_ble_eq_true rfl)) dL_harmonyIn_4 ⟨(by first | exact Nat.le_of_ble_eq_true rfl | omega | (dsimp only [rm_L_harmonyIn, rm_X1_harmonyIn]; omega)), (by first | exact Nat.le_of_ble_eq_true rfl | omega | (dsimp only [rm_L_harmonyIn, rm_X1_harmonyIn]; omega))⟩) rfl rfl rfl (by decide) rfl (fun _ => rfl) rfl (by first | exact Nat.le_of_ble_eq_true rfl | omega | (dsimp only [rm_L_harmonyIn, rm_X1_harmonyIn]; omega)) (by first | exact Nat.le_of_ble_eq_true rfl | omega | (dsimp only [rm_L_harmonyIn, rm_X1_harmonyIn]; omega)) (fun E ce q9 H locs hX hW g1 g2 g3 => ?_) (fun r_2 τ1 H locs hp_1 hW => ?_)
  · skip
    obtain ⟨rfl, hX⟩ := hX
    refine catch1 (wl := wsL_harmonyIn) hown hts htab 0 9 12 13 [] rfl (by decide) (by decide) (List.mem_of_getElem? (i := 1) rfl) hT.2.1.2.2.2.2.1 g1 g2 g3 ?_
    refine lv_astore_n (lv' := [(3, .ref q9), (0, .ref x), (1, .int (J k)), (2, .ref o)]) hx hb dL_harmonyIn_12 rfl hl (by decide) rfl (fun ls hl => ?_)
    refine jv_iconst hx hb dL_harmonyIn_13 ?_
    exact hret (τ, g) hW dL_harmonyIn_14 (by first | exact Nat.le_of_ble_eq_true rfl | omega | (dsimp only [rm_L_harmonyIn]; omega)) (by first | exact Nat.le_of_ble_eq_true rfl | omega | (dsimp only [rm_L_harmonyIn]; omega)) (Or.inr ⟨hX, rfl, rfl⟩)
  · skip
    obtain ⟨hv, hp_1⟩ := hp_1
    subst hp_1
    refine lv_i2l hx hb dL_harmonyIn_7 rfl ?_
    refine jv_last (g := g) (ws' := (WX κ x a a2 ++ (WC κ a σ br ++ (WC κ a2 τ1 bt ++ (WL κ o (vp_updL g 0 ((J (hm (pbn σ k.toNat))).toInt64))))))) hx hb hK hW 15 rfl rfl dL_harmonyIn_8 (fun H locs hW => ?_)
    refine lv_goto (tgt := 15) hx hb dL_harmonyIn_9 (by decide) ?_
    refine jv_iconst hx hb dL_harmonyIn_15 ?_
    exact hret (τ1, vp_updL g 0 ((J (hm (pbn σ k.toNat))).toInt64)) hW dL_harmonyIn_16 (by first | exact Nat.le_of_ble_eq_true rfl | omega | (dsimp only [rm_L_harmonyIn]; omega)) (by first | exact Nat.le_of_ble_eq_true rfl | omega | (dsimp only [rm_L_harmonyIn]; omega)) (Or.inl ⟨hv, rfl, rfl⟩)
