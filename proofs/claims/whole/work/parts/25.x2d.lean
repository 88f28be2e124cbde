abbrev rm_X2_tuning : Room := { frames := 6, cells := 0, slots := 0, locals := 134 }
set_option maxHeartbeats 4000000 in
set_option maxRecDepth 100000 in
/-- tuning -/
theorem m_X2_tuning (l : Launch) (κ : Kp) (a : Nat → Nat) (σ : Sg) (th : Int) (kp : Nat → Int) (p : Nat) (hpn : p < nn σ) (hI : Inv σ) : CGi l yX2_tuning wsX2_tuning rm_X2_tuning κ [.ref (a 0), .int (J (p : Int))] (WM κ a σ th kp) (fun r _ => r = J (btu σ p)) (fun (_ : Unit) => (WM κ a σ th kp)) := by
  refine entry_i (by decide) rfl (Nat.le_of_ble_eq_true rfl) ?_
  intro P e s m args below meth c ls A Q F hname hK hA hret hW hl
  obtain ⟨hx, hb, hml, hown, hts⟩ := id F
  have hn2 : ∀ w ∈ wsX20, w ∈ wsX2_tuning := by decide +kernel
  have hN := hI.hN
  have hN10 := hI.n10
  have hnn := hI.1
  have hcm := cmn_lt σ
  have hbp := hI.at p (by omega)
  have hst := stn_lt hN10
  have hr0 := hm_rng hN10
  refine lv_aload_n hx hb dX2_tuning_0 rfl (lv_at hl 0 rfl) ?_
  refine jv_get (T := TX2) (N := 6) (v := .ref (a 2)) hx hb hts hn2 hown hK hW 0 rfl rfl 4 (by decide) (List.mem_of_getElem? (i := 1) rfl) rfl dX2_tuning_1 ?_
  refine jv_iconst hx hb dX2_tuning_4 ?_
  refine lv_iload_n hx hb dX2_tuning_5 rfl (lv_at hl 1 rfl) ?_
  refine jv_iadd hx hb dX2_tuning_6 ?_
  refine jv_iald (g := (nowf σ)) hx hb hK hW 2 rfl (3 + p) (by omega) (by omega) (by decide) dX2_tuning_7 ?_
  refine jv_eq (y := (σ 0 p)) (nowf_r0 _ (by omega)) ?_
  refine lv_istore_n (lv' := [(2, .int (J (σ 0 p))), (0, .ref (a 0)), (1, .int (J (p : Int)))]) hx hb dX2_tuning_8 rfl hl (by decide) rfl (fun ls hl => ?_)
  refine jv_iconst hx hb dX2_tuning_9 ?_
  refine lv_istore_n (lv' := [(3, .int (J 0)), (2, .int (J (σ 0 p))), (0, .ref (a 0)), (1, .int (J (p : Int)))]) hx hb dX2_tuning_10 rfl hl (by decide) rfl (fun ls hl => ?_)
  refine lv_aload_n hx hb dX2_tuning_11 rfl (lv_at hl 2 rfl) ?_
  refine lv_aload_n hx hb dX2_tuning_12 rfl (lv_at hl 2 rfl) ?_
  refine fin_i (k := 0) (n := 0) (W2 := (fun _ => (WM κ a σ th kp))) [0, 1, 2, 3] [] [0, 1, 2, 3] hW hA (va_runV (As := []) (rest := [.ref (a 0)]) F ((m_X2_set l κ a σ th kp  hI) _) (cwV 0 hts gX2_tuning_X2_set rfl rfl rfl (by decide +kernel) ⟨(Nat.le_of_ble_eq_true rfl), (Nat.le_of_ble_eq_true rfl)⟩) (pre_V hK hW [0, 1, 2, 3] rfl (by decide) 2 0 rfl rfl) rfl rfl hl.1 rfl (lv_room (Nat.le_of_ble_eq_true rfl)) dX2_tuning_13 ⟨(by first | exact Nat.le_of_ble_eq_true rfl | omega | (dsimp only [rm_X2_tuning, rm_X2_set]; omega)), (by first | exact Nat.le_of_ble_eq_true rfl | omega | (dsimp only [rm_X2_tuning, rm_X2_set]; omega))⟩) rfl rfl rfl (by decide) rfl (fun _ => rfl) (by first | exact Nat.le_of_ble_eq_true rfl | omega | (dsimp only [rm_X2_tuning, rm_X2_set]; omega)) (by first | exact Nat.le_of_ble_eq_true rfl | omega | (dsimp only [rm_X2_tuning, rm_X2_set]; omega)) (fun r_2 u H locs hp_1 hW => ?_)
  subst hp_1
  refine fin_i (k := 0) (n := 0) (W2 := (fun _ => (WM κ a σ th kp))) [0, 1, 2, 3] [] [0, 1, 2, 3] hW hA (va_runV (As := [.int (J (stn σ : Int))]) (rest := []) F ((m_X2_harmonyOf l κ a σ th kp (stn σ) (by omega) hI) _) (cwV 1 hts gX2_tuning_X2_harmonyOf rfl rfl rfl (by decide +kernel) ⟨(Nat.le_of_ble_eq_true rfl), (Nat.le_of_ble_eq_true rfl)⟩) (pre_V hK hW [0, 1, 2, 3] rfl (by decide) 2 0 rfl rfl) rfl rfl hl.1 rfl (lv_room (Nat.le_of_ble_eq_true rfl)) dX2_tuning_16 ⟨(by first | exact Nat.le_of_ble_eq_true rfl | omega | (dsimp only [rm_X2_tuning, rm_X2_harmonyOf]; omega)), (by first | exact Nat.le_of_ble_eq_true rfl | omega | (dsimp only [rm_X2_tuning, rm_X2_harmonyOf]; omega))⟩) rfl rfl rfl (by decide) rfl (fun _ => rfl) (by first | exact Nat.le_of_ble_eq_true rfl | omega | (dsimp only [rm_X2_tuning, rm_X2_harmonyOf]; omega)) (by first | exact Nat.le_of_ble_eq_true rfl | omega | (dsimp only [rm_X2_tuning, rm_X2_harmonyOf]; omega)) (fun r_4 u H locs hp_3 hW => ?_)
  subst hp_3
  refine jv_eq (y := hm σ) (hmo_set hN10) ?_
  refine lv_istore (lv' := [(4, .int (J (hm σ))), (3, .int (J 0)), (2, .int (J (σ 0 p))), (0, .ref (a 0)), (1, .int (J (p : Int)))]) hx hb dX2_tuning_19 hl (by decide) rfl (fun ls hl => ?_)
  refine jv_iconst hx hb dX2_tuning_21 ?_
  refine lv_istore (lv' := [(5, .int (J 2)), (4, .int (J (hm σ))), (3, .int (J 0)), (2, .int (J (σ 0 p))), (0, .ref (a 0)), (1, .int (J (p : Int)))]) hx hb dX2_tuning_22 hl (by decide) rfl (fun ls hl => ?_)
  suffices hlp : ∀ (n i : Nat), i ≤ 26 → 26 < i + n → ∀ (x y : Int), ∀ (w : Int), ∀ (H : Heap) (locs : List Loc) (ls : Array Slot), (-12 ≤ x ∧ x ≤ 12) → (-100 ≤ y ∧ y ≤ 45) → (2 ≤ i) → (tin σ p i x y) → St κ A s.heap H locs (WM κ a (up σ 0 p w) th kp) → lv_has ls 8 [(5, .int (J (i : Int))), (4, .int (J y)), (3, .int (J x)), (2, .int (J (σ 0 p))), (0, .ref (a 0)), (1, .int (J (p : Int)))] → W P l e rm_X2_tuning s m args below meth c H locs 0 0 Q (F0 m 24 ls []) from
    hlp (26 + 1) 2 (by omega) (by omega) 0 (hm σ) (σ 0 p) _ _ _ (by omega) hr0 (Nat.le_refl 2) (tin_0 hbp.1) (by rw [up_id]; exact hW) hl
  intro n
  induction n with
  | zero => intro i h1 h2; exact absurd h2 (by omega)
  | succ n ih =>
    intro i hi hn x y w H locs ls q_x q_y hi2 q_t hW hl
    refine lv_iload hx hb dX2_tuning_24 (lv_at hl 0 rfl) ?_
    refine jv_bipush hx hb 26 dX2_tuning_26 (by decide +kernel) ?_
    refine jv_icmp_ge hx hb 113 dX2_tuning_28 (by decide) ⟨by omega, by omega⟩ ⟨by omega, by omega⟩ (fun h_5 => ?_) (fun h_5 => ?_)
    · skip
      refine lv_aload_n hx hb dX2_tuning_113 rfl (lv_at hl 4 rfl) ?_
      refine jv_get (T := TX2) (N := 6) (v := .ref (a 2)) hx hb hts hn2 hown hK hW 0 rfl rfl 4 (by decide) (List.mem_of_getElem? (i := 1) rfl) rfl dX2_tuning_114 ?_
      refine jv_iconst hx hb dX2_tuning_117 ?_
      refine lv_iload_n hx hb dX2_tuning_118 rfl (lv_at hl 5 rfl) ?_
      refine jv_iadd hx hb dX2_tuning_119 ?_
      refine lv_iload_n hx hb dX2_tuning_120 rfl (lv_at hl 3 rfl) ?_
      refine jv_iast (g := (nowf (up σ 0 p w))) (ws' := (WM κ a (up (up σ 0 p w) 0 p (σ 0 p)) th kp)) hx hb hK hW 2 rfl (3 + p) (by omega) (by omega) (by decide) (by rw [nowf_p0 _ _ (show p < 10 by omega)]; rfl) dX2_tuning_121 (fun H locs hW => ?_)
      rw [up_up, up_id] at hW
      refine lv_iload_n hx hb dX2_tuning_122 rfl (lv_at hl 2 rfl) ?_
      exact hret () hW dX2_tuning_123 (by first | exact Nat.le_of_ble_eq_true rfl | omega | (dsimp only [rm_X2_tuning]; omega)) (by first | exact Nat.le_of_ble_eq_true rfl | omega | (dsimp only [rm_X2_tuning]; omega)) (congrArg J (tin_end (y := y) hbp.1 (by rw [show i = 26 by omega] at q_t; exact q_t)))
    · skip
      refine lv_iload hx hb dX2_tuning_31 (lv_at hl 0 rfl) ?_
      refine jv_iconst hx hb dX2_tuning_33 ?_
      refine jv_irem hx hb dX2_tuning_34 (by omega) ?_
      have j50 : ∀ (H : Heap) (locs : List Loc) (ls : Array Slot), St κ A s.heap H locs (WM κ a (up σ 0 p w) th kp) → lv_has ls 8 [(5, .int (J (i : Int))), (4, .int (J y)), (3, .int (J x)), (2, .int (J (σ 0 p))), (0, .ref (a 0)), (1, .int (J (p : Int)))] → W P l e rm_X2_tuning s m args below meth c H locs 0 0 Q (F0 m 50 ls [.int (J (kb i))]) := by
        intro H locs ls hW hl
        have hkb := kb_or i
        refine lv_istore (lv' := [(6, .int (J (kb i))), (5, .int (J (i : Int))), (4, .int (J y)), (3, .int (J x)), (2, .int (J (σ 0 p))), (0, .ref (a 0)), (1, .int (J (p : Int)))]) hx hb dX2_tuning_50 hl (by decide) rfl (fun ls hl => ?_)
        refine lv_iload_n hx hb dX2_tuning_52 rfl (lv_at hl 4 rfl) ?_
        refine lv_iload hx hb dX2_tuning_53 (lv_at hl 0 rfl) ?_
        refine jv_iadd hx hb dX2_tuning_55 ?_
        refine jv_iconst hx hb dX2_tuning_56 ?_
        refine jv_bipush hx hb 35 dX2_tuning_57 (by decide +kernel) ?_
        refine fin_i (k := 0) (n := 0) (W2 := (fun _ => (WM κ a (up σ 0 p w) th kp))) [] [0, 1, 2, 3] [0, 1, 2, 3] hW hA (va_runS (As := [.int (J ((σ 0 p) + (kb i))), .int (J 0), .int (J 35)]) (rest := []) F ((m_X2_isIn l κ ((σ 0 p) + (kb i)) 0 35 (by omega)) _) (va_cwS 3 hts gX2_tuning_X2_isIn rfl rfl rfl (by decide +kernel) ⟨(Nat.le_of_ble_eq_true rfl), (Nat.le_of_ble_eq_true rfl)⟩) (pre_S hK hW [] rfl (by decide)) rfl rfl hl.1 rfl (lv_room (Nat.le_of_ble_eq_true rfl)) dX2_tuning_59 ⟨(by first | exact Nat.le_of_ble_eq_true rfl | omega | (dsimp only [rm_X2_tuning, rm_X2_isIn]; omega)), (by first | exact Nat.le_of_ble_eq_true rfl | omega | (dsimp only [rm_X2_tuning, rm_X2_isIn]; omega))⟩) rfl rfl rfl (by decide) rfl (fun _ => rfl) (by first | exact Nat.le_of_ble_eq_true rfl | omega | (dsimp only [rm_X2_tuning, rm_X2_isIn]; omega)) (by first | exact Nat.le_of_ble_eq_true rfl | omega | (dsimp only [rm_X2_tuning, rm_X2_isIn]; omega)) (fun r_7 u H locs hp_6 hW => ?_)
        subst hp_6
        refine jv_ifb_ne (b := (decide (0 ≤ ((σ 0 p) + (kb i)) ∧ ((σ 0 p) + (kb i)) ≤ 35))) hx hb 68 dX2_tuning_62 (by decide) (fun h_8 => ?_) (fun h_8 => ?_)
        · skip
          have eh_8 := of_decide_eq_true h_8
          refine lv_aload_n hx hb dX2_tuning_68 rfl (lv_at hl 5 rfl) ?_
          refine jv_get (T := TX2) (N := 6) (v := .ref (a 2)) hx hb hts hn2 hown hK hW 0 rfl rfl 4 (by decide) (List.mem_of_getElem? (i := 1) rfl) rfl dX2_tuning_69 ?_
          refine jv_iconst hx hb dX2_tuning_72 ?_
          refine lv_iload_n hx hb dX2_tuning_73 rfl (lv_at hl 6 rfl) ?_
          refine jv_iadd hx hb dX2_tuning_74 ?_
          refine lv_iload_n hx hb dX2_tuning_75 rfl (lv_at hl 4 rfl) ?_
          refine lv_iload hx hb dX2_tuning_76 (lv_at hl 0 rfl) ?_
          refine jv_iadd hx hb dX2_tuning_78 ?_
          refine jv_iast (g := (nowf (up σ 0 p w))) (ws' := (WM κ a (up (up σ 0 p w) 0 p ((σ 0 p) + (kb i))) th kp)) hx hb hK hW 2 rfl (3 + p) (by omega) (by omega) (by decide) (by rw [nowf_p0 _ _ (show p < 10 by omega)]; rfl) dX2_tuning_79 (fun H locs hW => ?_)
          rw [up_up] at hW
          have hIu : Inv (up σ 0 p (σ 0 p + kb i)) := hI.u0 (by omega)
          have hNu : nn (up σ 0 p (σ 0 p + kb i)) ≤ 10 := hN10
          have hsu := stn_lt hNu
          have hru := hm_rng hNu
          refine lv_aload_n hx hb dX2_tuning_80 rfl (lv_at hl 5 rfl) ?_
          refine lv_aload_n hx hb dX2_tuning_81 rfl (lv_at hl 5 rfl) ?_
          refine fin_i (k := 0) (n := 0) (W2 := (fun _ => (WM κ a (up σ 0 p (σ 0 p + kb i)) th kp))) [0, 1, 2, 3] [] [0, 1, 2, 3] hW hA (va_runV (As := []) (rest := [.ref (a 0)]) F ((m_X2_set l κ a (up σ 0 p (σ 0 p + kb i)) th kp  hIu) _) (cwV 0 hts gX2_tuning_X2_set rfl rfl rfl (by decide +kernel) ⟨(Nat.le_of_ble_eq_true rfl), (Nat.le_of_ble_eq_true rfl)⟩) (pre_V hK hW [0, 1, 2, 3] rfl (by decide) 2 0 rfl rfl) rfl rfl hl.1 rfl (lv_room (Nat.le_of_ble_eq_true rfl)) dX2_tuning_82 ⟨(by first | exact Nat.le_of_ble_eq_true rfl | omega | (dsimp only [rm_X2_tuning, rm_X2_set]; omega)), (by first | exact Nat.le_of_ble_eq_true rfl | omega | (dsimp only [rm_X2_tuning, rm_X2_set]; omega))⟩) rfl rfl rfl (by decide) rfl (fun _ => rfl) (by first | exact Nat.le_of_ble_eq_true rfl | omega | (dsimp only [rm_X2_tuning, rm_X2_set]; omega)) (by first | exact Nat.le_of_ble_eq_true rfl | omega | (dsimp only [rm_X2_tuning, rm_X2_set]; omega)) (fun r_10 u H locs hp_9 hW => ?_)
          subst hp_9
          refine fin_i (k := 0) (n := 0) (W2 := (fun _ => (WM κ a (up σ 0 p (σ 0 p + kb i)) th kp))) [0, 1, 2, 3] [] [0, 1, 2, 3] hW hA (va_runV (As := [.int (J (stn (up σ 0 p (σ 0 p + kb i)) : Int))]) (rest := []) F ((m_X2_harmonyOf l κ a (up σ 0 p (σ 0 p + kb i)) th kp (stn (up σ 0 p (σ 0 p + kb i))) (by omega) hIu) _) (cwV 1 hts gX2_tuning_X2_harmonyOf rfl rfl rfl (by decide +kernel) ⟨(Nat.le_of_ble_eq_true rfl), (Nat.le_of_ble_eq_true rfl)⟩) (pre_V hK hW [0, 1, 2, 3] rfl (by decide) 2 0 rfl rfl) rfl rfl hl.1 rfl (lv_room (Nat.le_of_ble_eq_true rfl)) dX2_tuning_85 ⟨(by first | exact Nat.le_of_ble_eq_true rfl | omega | (dsimp only [rm_X2_tuning, rm_X2_harmonyOf]; omega)), (by first | exact Nat.le_of_ble_eq_true rfl | omega | (dsimp only [rm_X2_tuning, rm_X2_harmonyOf]; omega))⟩) rfl rfl rfl (by decide) rfl (fun _ => rfl) (by first | exact Nat.le_of_ble_eq_true rfl | omega | (dsimp only [rm_X2_tuning, rm_X2_harmonyOf]; omega)) (by first | exact Nat.le_of_ble_eq_true rfl | omega | (dsimp only [rm_X2_tuning, rm_X2_harmonyOf]; omega)) (fun r_12 u H locs hp_11 hW => ?_)
          subst hp_11
          refine jv_eq (y := hm (up σ 0 p (σ 0 p + kb i))) (hmo_set hNu) ?_
          refine lv_istore (lv' := [(7, .int (J (hm (up σ 0 p (σ 0 p + kb i))))), (6, .int (J (kb i))), (5, .int (J (i : Int))), (4, .int (J y)), (3, .int (J x)), (2, .int (J (σ 0 p))), (0, .ref (a 0)), (1, .int (J (p : Int)))]) hx hb dX2_tuning_88 hl (by decide) rfl (fun ls hl => ?_)
          refine lv_iload hx hb dX2_tuning_90 (lv_at hl 0 rfl) ?_
          refine lv_iload hx hb dX2_tuning_92 (lv_at hl 3 rfl) ?_
          refine jv_icmp_gt hx hb 100 dX2_tuning_94 (by decide) ⟨by omega, by omega⟩ ⟨by omega, by omega⟩ (fun h_13 => ?_) (fun h_13 => ?_)
          · skip
            refine lv_iload hx hb dX2_tuning_100 (lv_at hl 1 rfl) ?_
            refine lv_istore_n (lv' := [(3, .int (J (kb i))), (7, .int (J (hm (up σ 0 p (σ 0 p + kb i))))), (6, .int (J (kb i))), (5, .int (J (i : Int))), (4, .int (J y)), (2, .int (J (σ 0 p))), (0, .ref (a 0)), (1, .int (J (p : Int)))]) hx hb dX2_tuning_102 rfl hl (by decide) rfl (fun ls hl => ?_)
            refine lv_iload hx hb dX2_tuning_103 (lv_at hl 1 rfl) ?_
            refine lv_istore (lv' := [(4, .int (J (hm (up σ 0 p (σ 0 p + kb i))))), (3, .int (J (kb i))), (7, .int (J (hm (up σ 0 p (σ 0 p + kb i))))), (6, .int (J (kb i))), (5, .int (J (i : Int))), (2, .int (J (σ 0 p))), (0, .ref (a 0)), (1, .int (J (p : Int)))]) hx hb dX2_tuning_105 hl (by decide) rfl (fun ls hl => ?_)
            refine jv_iinc (k := 4) (z := (i : Int)) (lv' := [(5, .int (J ((i : Int) + 1))), (4, .int (J (hm (up σ 0 p (σ 0 p + kb i))))), (3, .int (J (kb i))), (7, .int (J (hm (up σ 0 p (σ 0 p + kb i))))), (6, .int (J (kb i))), (2, .int (J (σ 0 p))), (0, .ref (a 0)), (1, .int (J (p : Int)))]) hx hb dX2_tuning_107 hl rfl (by decide) rfl (fun ls hl => ?_)
            refine lv_goto (tgt := 24) hx hb dX2_tuning_110 (by decide) ?_
            exact ih (i + 1) (by omega) (by omega) (kb i) (hm (up σ 0 p (σ 0 p + kb i))) (σ 0 p + kb i) _ _ _ (by omega) (by omega) (by omega) (tin_yes q_t hi2 (by omega) hpn (of_decide_eq_true h_8) (by omega)) hW (lv_sub hl [0, 1, 2, 5, 6, 7] rfl)
          · skip
            refine lv_goto (tgt := 107) hx hb dX2_tuning_97 (by decide) ?_
            refine jv_iinc (k := 2) (z := (i : Int)) (lv' := [(5, .int (J ((i : Int) + 1))), (7, .int (J (hm (up σ 0 p (σ 0 p + kb i))))), (6, .int (J (kb i))), (4, .int (J y)), (3, .int (J x)), (2, .int (J (σ 0 p))), (0, .ref (a 0)), (1, .int (J (p : Int)))]) hx hb dX2_tuning_107 hl rfl (by decide) rfl (fun ls hl => ?_)
            refine lv_goto (tgt := 24) hx hb dX2_tuning_110 (by decide) ?_
            exact ih (i + 1) (by omega) (by omega) x y (σ 0 p + kb i) _ _ _ (by omega) (by omega) (by omega) (tin_no q_t hi2 hpn (by omega)) hW (lv_sub hl [0, 3, 4, 5, 6, 7] rfl)
        · skip
          have eh_8 := of_decide_eq_false h_8
          refine lv_goto (tgt := 107) hx hb dX2_tuning_65 (by decide) ?_
          refine jv_iinc (k := 1) (z := (i : Int)) (lv' := [(5, .int (J ((i : Int) + 1))), (6, .int (J (kb i))), (4, .int (J y)), (3, .int (J x)), (2, .int (J (σ 0 p))), (0, .ref (a 0)), (1, .int (J (p : Int)))]) hx hb dX2_tuning_107 hl rfl (by decide) rfl (fun ls hl => ?_)
          refine lv_goto (tgt := 24) hx hb dX2_tuning_110 (by decide) ?_
          exact ih (i + 1) (by omega) (by omega) x y w _ _ _ (by omega) (by omega) (by omega) (tin_bad q_t (of_decide_eq_false h_8)) hW (lv_sub hl [0, 2, 3, 4, 5, 6] rfl)
      refine jv_if_ne hx hb 45 dX2_tuning_35 (by decide) ⟨by omega, by omega⟩ (fun h_14 => ?_) (fun h_14 => ?_)
      · skip
        refine lv_iload hx hb dX2_tuning_45 (lv_at hl 0 rfl) ?_
        refine jv_iconst hx hb dX2_tuning_47 ?_
        refine jv_idiv hx hb dX2_tuning_48 (by omega) ?_
        refine jv_ineg hx hb dX2_tuning_49 ?_
        refine jv_eq (y := kb i) (kb_o (by omega)) ?_
        exact j50 _ _ _ hW hl
      · skip
        refine lv_iload hx hb dX2_tuning_38 (lv_at hl 0 rfl) ?_
        refine jv_iconst hx hb dX2_tuning_40 ?_
        refine jv_idiv hx hb dX2_tuning_41 (by omega) ?_
        refine lv_goto (tgt := 50) hx hb dX2_tuning_42 (by decide) ?_
        refine jv_eq (y := kb i) (kb_e (by omega)) ?_
        exact j50 _ _ _ hW hl

abbrev rm_X2_mute : Room := { frames := 6, cells := 0, slots := 0, locals := 134 }
set_option maxHeartbeats 4000000 in
set_option maxRecDepth 100000 in
/-- mute -/
theorem m_X2_mute (l : Launch) (κ : Kp) (a : Nat → Nat) (σ : Sg) (th : Int) (kp : Nat → Int) (hI : Inv σ) : CGi l yX2_mute wsX2_mute rm_X2_mute κ [.ref (a 0)] (WM κ a σ th kp) (fun r _ => r = J (fm σ)) (fun (_ : Unit) => (WM κ a σ th kp)) := by
  refine entry_i (by decide) rfl (Nat.le_of_ble_eq_true rfl) ?_
  intro P e s m args below meth c ls A Q F hname hK hA hret hW hl
  obtain ⟨hx, hb, hml, hown, hts⟩ := id F
  have hn2 : ∀ w ∈ wsX20, w ∈ wsX2_mute := by decide +kernel
  have hN := hI.hN
  have hN10 := hI.n10
  have hnn := hI.1
  have hcm := cmn_lt σ
  have hst := stn_lt hN10
  refine lv_aload_n hx hb dX2_mute_0 rfl (lv_at hl 0 rfl) ?_
  refine fin_i (k := 0) (n := 0) (W2 := (fun _ => (WM κ a σ th kp))) [0, 1, 2, 3] [] [0, 1, 2, 3] hW hA (va_runV (As := []) (rest := []) F ((m_X2_set l κ a σ th kp  hI) _) (cwV 0 hts gX2_mute_X2_set rfl rfl rfl (by decide +kernel) ⟨(Nat.le_of_ble_eq_true rfl), (Nat.le_of_ble_eq_true rfl)⟩) (pre_V hK hW [0, 1, 2, 3] rfl (by decide) 2 0 rfl rfl) rfl rfl hl.1 rfl (lv_room (Nat.le_of_ble_eq_true rfl)) dX2_mute_1 ⟨(by first | exact Nat.le_of_ble_eq_true rfl | omega | (dsimp only [rm_X2_mute, rm_X2_set]; omega)), (by first | exact Nat.le_of_ble_eq_true rfl | omega | (dsimp only [rm_X2_mute, rm_X2_set]; omega))⟩) rfl rfl rfl (by decide) rfl (fun _ => rfl) (by first | exact Nat.le_of_ble_eq_true rfl | omega | (dsimp only [rm_X2_mute, rm_X2_set]; omega)) (by first | exact Nat.le_of_ble_eq_true rfl | omega | (dsimp only [rm_X2_mute, rm_X2_set]; omega)) (fun r_2 u H locs hp_1 hW => ?_)
  subst hp_1
  refine lv_istore_n (lv' := [(1, .int (J (stn σ : Int))), (0, .ref (a 0))]) hx hb dX2_mute_4 rfl hl (by decide) rfl (fun ls hl => ?_)
  refine jv_iconst hx hb dX2_mute_5 ?_
  refine lv_istore_n (lv' := [(2, .int (J (-1))), (1, .int (J (stn σ : Int))), (0, .ref (a 0))]) hx hb dX2_mute_6 rfl hl (by decide) rfl (fun ls hl => ?_)
  refine jv_iconst hx hb dX2_mute_7 ?_
  refine lv_istore_n (lv' := [(3, .int (J 0)), (2, .int (J (-1))), (1, .int (J (stn σ : Int))), (0, .ref (a 0))]) hx hb dX2_mute_8 rfl hl (by decide) rfl (fun ls hl => ?_)
  refine jv_iconst hx hb dX2_mute_9 ?_
  refine lv_istore (lv' := [(4, .int (J 0)), (3, .int (J 0)), (2, .int (J (-1))), (1, .int (J (stn σ : Int))), (0, .ref (a 0))]) hx hb dX2_mute_10 hl (by decide) rfl (fun ls hl => ?_)
  suffices hlp : ∀ (n i : Nat), i ≤ (nn σ) → (nn σ) < i + n → ∀ (x y : Int), ∀ (H : Heap) (locs : List Loc) (ls : Array Slot), (-1 ≤ x ∧ x ≤ 10) → (-100 ≤ y ∧ y ≤ 45) → (mtn σ i x y) → St κ A s.heap H locs (WM κ a σ th kp) → lv_has ls 6 [(4, .int (J (i : Int))), (3, .int (J y)), (2, .int (J x)), (1, .int (J (stn σ : Int))), (0, .ref (a 0))] → W P l e rm_X2_mute s m args below meth c H locs 0 0 Q (F0 m 12 ls []) from
    hlp ((nn σ) + 1) 0 (Nat.zero_le _) (by omega) (-1) 0 _ _ _ (by omega) (by omega) (mtn_0 σ 0) hW hl
  intro n
  induction n with
  | zero => intro i h1 h2; exact absurd h2 (by omega)
  | succ n ih =>
    intro i hi hn x y H locs ls q_x q_y q_m hW hl
    refine lv_iload hx hb dX2_mute_12 (lv_at hl 0 rfl) ?_
    refine lv_aload_n hx hb dX2_mute_14 rfl (lv_at hl 4 rfl) ?_
    refine jv_get (T := TX2) (N := 6) (v := .int (J (σ 5 3))) hx hb hts hn2 hown hK hW 0 rfl rfl 1 (by decide) (List.mem_of_getElem? (i := 1) rfl) rfl dX2_mute_15 ?_
    refine jv_icmp_ge hx hb 73 dX2_mute_18 (by decide) ⟨by omega, by omega⟩ ⟨by omega, by omega⟩ (fun h_3 => ?_) (fun h_3 => ?_)
    · skip
      refine lv_iload_n hx hb dX2_mute_73 rfl (lv_at hl 2 rfl) ?_
      exact hret () hW dX2_mute_74 (by first | exact Nat.le_of_ble_eq_true rfl | omega | (dsimp only [rm_X2_mute]; omega)) (by first | exact Nat.le_of_ble_eq_true rfl | omega | (dsimp only [rm_X2_mute]; omega)) (by rw [mtn_end q_m (by omega)])
    · skip
      refine lv_iload_n hx hb dX2_mute_21 rfl (lv_at hl 3 rfl) ?_
      refine lv_iload hx hb dX2_mute_22 (lv_at hl 0 rfl) ?_
      refine jv_ishr hx hb (stn σ) i dX2_mute_24 (by omega) (by omega) ?_
      refine jv_iconst hx hb dX2_mute_25 ?_
      refine jv_iand hx hb ((stn σ) / 2 ^ i : Nat) 1 dX2_mute_26 ?_
      refine jv_eq (y := bi ((stn σ).testBit i)) (by rw [bit_mod]; cases (stn σ).testBit i <;> rfl) ?_
      refine jv_ifb_ne (b := ((stn σ).testBit i)) hx hb 33 dX2_mute_27 (by decide) (fun h_4 => ?_) (fun h_4 => ?_)
      · skip
        refine lv_aload_n hx hb dX2_mute_33 rfl (lv_at hl 4 rfl) ?_
        refine lv_iload_n hx hb dX2_mute_34 rfl (lv_at hl 3 rfl) ?_
        refine jv_iconst hx hb dX2_mute_35 ?_
        refine lv_iload hx hb dX2_mute_36 (lv_at hl 0 rfl) ?_
        refine jv_ishl1 hx hb i dX2_mute_38 (by omega) ?_
        refine jv_iconst hx hb dX2_mute_39 ?_
        refine lv_ixor hx hb dX2_mute_40 ?_
        refine lv_iand hx hb dX2_mute_41 ?_
        refine jv_top (y := J (rmb (stn σ) i : Int)) (rmb_J i (by omega) (stn σ) hst) ?_
        have hrm := rmb_lt (stn σ) i
        have hrr := hmo_rng hN10 (rmb (stn σ) i)
        refine fin_i (k := 0) (n := 0) (W2 := (fun _ => (WM κ a σ th kp))) [0, 1, 2, 3] [] [0, 1, 2, 3] hW hA (va_runV (As := [.int (J (rmb (stn σ) i : Int))]) (rest := []) F ((m_X2_harmonyOf l κ a σ th kp (rmb (stn σ) i) (by omega) hI) _) (cwV 1 hts gX2_mute_X2_harmonyOf rfl rfl rfl (by decide +kernel) ⟨(Nat.le_of_ble_eq_true rfl), (Nat.le_of_ble_eq_true rfl)⟩) (pre_V hK hW [0, 1, 2, 3] rfl (by decide) 2 0 rfl rfl) rfl rfl hl.1 rfl (lv_room (Nat.le_of_ble_eq_true rfl)) dX2_mute_42 ⟨(by first | exact Nat.le_of_ble_eq_true rfl | omega | (dsimp only [rm_X2_mute, rm_X2_harmonyOf]; omega)), (by first | exact Nat.le_of_ble_eq_true rfl | omega | (dsimp only [rm_X2_mute, rm_X2_harmonyOf]; omega))⟩) rfl rfl rfl (by decide) rfl (fun _ => rfl) (by first | exact Nat.le_of_ble_eq_true rfl | omega | (dsimp only [rm_X2_mute, rm_X2_harmonyOf]; omega)) (by first | exact Nat.le_of_ble_eq_true rfl | omega | (dsimp only [rm_X2_mute, rm_X2_harmonyOf]; omega)) (fun r_6 u H locs hp_5 hW => ?_)
        subst hp_5
        refine lv_istore (lv' := [(5, .int (J (hmo σ (rmb (stn σ) i)))), (4, .int (J (i : Int))), (3, .int (J y)), (2, .int (J x)), (1, .int (J (stn σ : Int))), (0, .ref (a 0))]) hx hb dX2_mute_45 hl (by decide) rfl (fun ls hl => ?_)
        refine lv_iload_n hx hb dX2_mute_47 rfl (lv_at hl 3 rfl) ?_
        refine jv_iconst hx hb dX2_mute_48 ?_
        refine jv_icmp_eq hx hb 61 dX2_mute_49 (by decide) ⟨by omega, by omega⟩ ⟨by omega, by omega⟩ (fun h_7 => ?_) (fun h_7 => ?_)
        · skip
          refine lv_iload hx hb dX2_mute_61 (lv_at hl 1 rfl) ?_
          refine lv_istore_n (lv' := [(2, .int (J (i : Int))), (5, .int (J (hmo σ (rmb (stn σ) i)))), (4, .int (J (i : Int))), (3, .int (J y)), (1, .int (J (stn σ : Int))), (0, .ref (a 0))]) hx hb dX2_mute_63 rfl hl (by decide) rfl (fun ls hl => ?_)
          refine lv_iload hx hb dX2_mute_64 (lv_at hl 1 rfl) ?_
          refine lv_istore_n (lv' := [(3, .int (J (hmo σ (rmb (stn σ) i)))), (2, .int (J (i : Int))), (5, .int (J (hmo σ (rmb (stn σ) i)))), (4, .int (J (i : Int))), (1, .int (J (stn σ : Int))), (0, .ref (a 0))]) hx hb dX2_mute_66 rfl hl (by decide) rfl (fun ls hl => ?_)
          refine jv_iinc (k := 3) (z := (i : Int)) (lv' := [(4, .int (J ((i : Int) + 1))), (3, .int (J (hmo σ (rmb (stn σ) i)))), (2, .int (J (i : Int))), (5, .int (J (hmo σ (rmb (stn σ) i)))), (1, .int (J (stn σ : Int))), (0, .ref (a 0))]) hx hb dX2_mute_67 hl rfl (by decide) rfl (fun ls hl => ?_)
          refine lv_goto (tgt := 12) hx hb dX2_mute_70 (by decide) ?_
          exact ih (i + 1) (by omega) (by omega) (i : Int) (hmo σ (rmb (stn σ) i)) _ _ _ (by omega) (by omega) (mtn_y q_m hN10 (by omega) (by have e := stn_bit σ i; rw [h_4, decide_eq_true (show i < nn σ by omega), Bool.true_and] at e; exact e.symm) (Or.inl (by omega))) hW (lv_sub hl [0, 1, 2, 4, 5] rfl)
        · skip
          refine lv_iload hx hb dX2_mute_52 (lv_at hl 0 rfl) ?_
          refine lv_iload_n hx hb dX2_mute_54 rfl (lv_at hl 2 rfl) ?_
          refine jv_icmp_gt hx hb 61 dX2_mute_55 (by decide) ⟨by omega, by omega⟩ ⟨by omega, by omega⟩ (fun h_8 => ?_) (fun h_8 => ?_)
          · skip
            refine lv_iload hx hb dX2_mute_61 (lv_at hl 1 rfl) ?_
            refine lv_istore_n (lv' := [(2, .int (J (i : Int))), (5, .int (J (hmo σ (rmb (stn σ) i)))), (4, .int (J (i : Int))), (3, .int (J y)), (1, .int (J (stn σ : Int))), (0, .ref (a 0))]) hx hb dX2_mute_63 rfl hl (by decide) rfl (fun ls hl => ?_)
            refine lv_iload hx hb dX2_mute_64 (lv_at hl 1 rfl) ?_
            refine lv_istore_n (lv' := [(3, .int (J (hmo σ (rmb (stn σ) i)))), (2, .int (J (i : Int))), (5, .int (J (hmo σ (rmb (stn σ) i)))), (4, .int (J (i : Int))), (1, .int (J (stn σ : Int))), (0, .ref (a 0))]) hx hb dX2_mute_66 rfl hl (by decide) rfl (fun ls hl => ?_)
            refine jv_iinc (k := 3) (z := (i : Int)) (lv' := [(4, .int (J ((i : Int) + 1))), (3, .int (J (hmo σ (rmb (stn σ) i)))), (2, .int (J (i : Int))), (5, .int (J (hmo σ (rmb (stn σ) i)))), (1, .int (J (stn σ : Int))), (0, .ref (a 0))]) hx hb dX2_mute_67 hl rfl (by decide) rfl (fun ls hl => ?_)
            refine lv_goto (tgt := 12) hx hb dX2_mute_70 (by decide) ?_
            exact ih (i + 1) (by omega) (by omega) (i : Int) (hmo σ (rmb (stn σ) i)) _ _ _ (by omega) (by omega) (mtn_y q_m hN10 (by omega) (by have e := stn_bit σ i; rw [h_4, decide_eq_true (show i < nn σ by omega), Bool.true_and] at e; exact e.symm) (Or.inr (by omega))) hW (lv_sub hl [0, 1, 2, 4, 5] rfl)
          · skip
            refine lv_goto (tgt := 67) hx hb dX2_mute_58 (by decide) ?_
            refine jv_iinc (k := 1) (z := (i : Int)) (lv' := [(4, .int (J ((i : Int) + 1))), (5, .int (J (hmo σ (rmb (stn σ) i)))), (3, .int (J y)), (2, .int (J x)), (1, .int (J (stn σ : Int))), (0, .ref (a 0))]) hx hb dX2_mute_67 hl rfl (by decide) rfl (fun ls hl => ?_)
            refine lv_goto (tgt := 12) hx hb dX2_mute_70 (by decide) ?_
            exact ih (i + 1) (by omega) (by omega) x y _ _ _ (by omega) (by omega) (mtn_n q_m hN10 (by omega) (by have e := stn_bit σ i; rw [h_4, decide_eq_true (show i < nn σ by omega), Bool.true_and] at e; exact e.symm) (by omega) (by omega)) hW (lv_sub hl [0, 2, 3, 4, 5] rfl)
      · skip
        refine lv_goto (tgt := 67) hx hb dX2_mute_30 (by decide) ?_
        refine jv_iinc (k := 0) (z := (i : Int)) (lv' := [(4, .int (J ((i : Int) + 1))), (3, .int (J y)), (2, .int (J x)), (1, .int (J (stn σ : Int))), (0, .ref (a 0))]) hx hb dX2_mute_67 hl rfl (by decide) rfl (fun ls hl => ?_)
        refine lv_goto (tgt := 12) hx hb dX2_mute_70 (by decide) ?_
        exact ih (i + 1) (by omega) (by omega) x y _ _ _ (by omega) (by omega) (mtn_s q_m (by have e := stn_bit σ i; rw [h_4, decide_eq_true (show i < nn σ by omega), Bool.true_and] at e; exact e.symm)) hW hl

abbrev rm_X2_harsh : Room := { frames := 5, cells := 0, slots := 0, locals := 110 }
set_option maxHeartbeats 4000000 in
set_option maxRecDepth 100000 in
/-- harsh -/
theorem m_X2_harsh (l : Launch) (κ : Kp) (a : Nat → Nat) (σ : Sg) (th : Int) (kp : Nat → Int) (hI : Inv σ) : CGi l yX2_harsh wsX2_harsh rm_X2_harsh κ [.ref (a 0)] (WM κ a σ th kp) (fun r _ => r = J (hst σ)) (fun (_ : Unit) => (WM κ a σ th kp)) := by
  refine entry_i (by decide) rfl (Nat.le_of_ble_eq_true rfl) ?_
  intro P e s m args below meth c ls A Q F hname hK hA hret hW hl
  obtain ⟨hx, hb, hml, hown, hts⟩ := id F
  have hn2 : ∀ w ∈ wsX20, w ∈ wsX2_harsh := by decide +kernel
  have hN := hI.hN
  have hN10 := hI.n10
  have hnn := hI.1
  have hcm := cmn_lt σ
  refine jv_iconst hx hb dX2_harsh_0 ?_
  refine lv_istore_n (lv' := [(1, .int (J (-1))), (0, .ref (a 0))]) hx hb dX2_harsh_1 rfl hl (by decide) rfl (fun ls hl => ?_)
  refine jv_iconst hx hb dX2_harsh_2 ?_
  refine lv_istore_n (lv' := [(2, .int (J 0)), (1, .int (J (-1))), (0, .ref (a 0))]) hx hb dX2_harsh_3 rfl hl (by decide) rfl (fun ls hl => ?_)
  suffices hlp : ∀ (n i : Nat), i ≤ (nn σ) → (nn σ) < i + n → ∀ (x : Int), ∀ (H : Heap) (locs : List Loc) (ls : Array Slot), (-1 ≤ x ∧ x ≤ 10) → (hrn σ i x) → St κ A s.heap H locs (WM κ a σ th kp) → lv_has ls 3 [(2, .int (J (i : Int))), (1, .int (J x)), (0, .ref (a 0))] → W P l e rm_X2_harsh s m args below meth c H locs 0 0 Q (F0 m 4 ls []) from
    hlp ((nn σ) + 1) 0 (Nat.zero_le _) (by omega) (-1) _ _ _ (by omega) (hrn_0 σ) hW hl
  intro n
  induction n with
  | zero => intro i h1 h2; exact absurd h2 (by omega)
  | succ n ih =>
    intro i hi hn x H locs ls q_x q_h hW hl
    have hci := cof_rng hN10 i
    refine lv_iload_n hx hb dX2_harsh_4 rfl (lv_at hl 0 rfl) ?_
    refine lv_aload_n hx hb dX2_harsh_5 rfl (lv_at hl 2 rfl) ?_
    refine jv_get (T := TX2) (N := 6) (v := .int (J (σ 5 3))) hx hb hts hn2 hown hK hW 0 rfl rfl 1 (by decide) (List.mem_of_getElem? (i := 1) rfl) rfl dX2_harsh_6 ?_
    refine jv_icmp_ge hx hb 46 dX2_harsh_9 (by decide) ⟨by omega, by omega⟩ ⟨by omega, by omega⟩ (fun h_1 => ?_) (fun h_1 => ?_)
    · skip
      refine lv_iload_n hx hb dX2_harsh_46 rfl (lv_at hl 1 rfl) ?_
      exact hret () hW dX2_harsh_47 (by first | exact Nat.le_of_ble_eq_true rfl | omega | (dsimp only [rm_X2_harsh]; omega)) (by first | exact Nat.le_of_ble_eq_true rfl | omega | (dsimp only [rm_X2_harsh]; omega)) (by rw [hrn_end q_h (by omega)])
    · skip
      refine lv_aload_n hx hb dX2_harsh_12 rfl (lv_at hl 2 rfl) ?_
      refine lv_iload_n hx hb dX2_harsh_13 rfl (lv_at hl 0 rfl) ?_
      refine fin_i (k := 0) (n := 0) (W2 := (fun _ => (WM κ a σ th kp))) [0, 1, 2, 3] [] [0, 1, 2, 3] hW hA (va_runV (As := [.int (J (i : Int))]) (rest := []) F ((m_X2_clashing l κ a σ th kp i (by omega) hI) _) (cwV 1 hts gX2_harsh_X2_clashing rfl rfl rfl (by decide +kernel) ⟨(Nat.le_of_ble_eq_true rfl), (Nat.le_of_ble_eq_true rfl)⟩) (pre_V hK hW [0, 1, 2, 3] rfl (by decide) 2 0 rfl rfl) rfl rfl hl.1 rfl (lv_room (Nat.le_of_ble_eq_true rfl)) dX2_harsh_14 ⟨(by first | exact Nat.le_of_ble_eq_true rfl | omega | (dsimp only [rm_X2_harsh, rm_X2_clashing]; omega)), (by first | exact Nat.le_of_ble_eq_true rfl | omega | (dsimp only [rm_X2_harsh, rm_X2_clashing]; omega))⟩) rfl rfl rfl (by decide) rfl (fun _ => rfl) (by first | exact Nat.le_of_ble_eq_true rfl | omega | (dsimp only [rm_X2_harsh, rm_X2_clashing]; omega)) (by first | exact Nat.le_of_ble_eq_true rfl | omega | (dsimp only [rm_X2_harsh, rm_X2_clashing]; omega)) (fun r_3 u H locs hp_2 hW => ?_)
      subst hp_2
      refine jv_if_le hx hb 40 dX2_harsh_17 (by decide) ⟨by omega, by omega⟩ (fun h_4 => ?_) (fun h_4 => ?_)
      · skip
        refine jv_iinc (k := 0) (z := (i : Int)) (lv' := [(2, .int (J ((i : Int) + 1))), (1, .int (J x)), (0, .ref (a 0))]) hx hb dX2_harsh_40 hl rfl (by decide) rfl (fun ls hl => ?_)
        refine lv_goto (tgt := 4) hx hb dX2_harsh_43 (by decide) ?_
        exact ih (i + 1) (by omega) (by omega) x _ _ _ (by omega) (hrn_z q_h (by omega)) hW hl
      · skip
        refine lv_iload_n hx hb dX2_harsh_20 rfl (lv_at hl 1 rfl) ?_
        refine jv_iconst hx hb dX2_harsh_21 ?_
        refine jv_icmp_eq hx hb 38 dX2_harsh_22 (by decide) ⟨by omega, by omega⟩ ⟨by omega, by omega⟩ (fun h_5 => ?_) (fun h_5 => ?_)
        · skip
          refine lv_iload_n hx hb dX2_harsh_38 rfl (lv_at hl 0 rfl) ?_
          refine lv_istore_n (lv' := [(1, .int (J (i : Int))), (2, .int (J (i : Int))), (0, .ref (a 0))]) hx hb dX2_harsh_39 rfl hl (by decide) rfl (fun ls hl => ?_)
          refine jv_iinc (k := 1) (z := (i : Int)) (lv' := [(2, .int (J ((i : Int) + 1))), (1, .int (J (i : Int))), (0, .ref (a 0))]) hx hb dX2_harsh_40 hl rfl (by decide) rfl (fun ls hl => ?_)
          refine lv_goto (tgt := 4) hx hb dX2_harsh_43 (by decide) ?_
          exact ih (i + 1) (by omega) (by omega) (i : Int) _ _ _ (by omega) (hrn_y q_h (by omega) (Or.inl (by omega))) hW hl
        · skip
          obtain ⟨b, hb1, rfl⟩ := (hrn_b q_h).resolve_left (fun h => by omega)
          have hcb := cof_rng hN10 b
          refine lv_aload_n hx hb dX2_harsh_25 rfl (lv_at hl 2 rfl) ?_
          refine lv_iload_n hx hb dX2_harsh_26 rfl (lv_at hl 0 rfl) ?_
          refine fin_i (k := 0) (n := 0) (W2 := (fun _ => (WM κ a σ th kp))) [0, 1, 2, 3] [] [0, 1, 2, 3] hW hA (va_runV (As := [.int (J (i : Int))]) (rest := []) F ((m_X2_clashing l κ a σ th kp i (by omega) hI) _) (cwV 1 hts gX2_harsh_X2_clashing rfl rfl rfl (by decide +kernel) ⟨(Nat.le_of_ble_eq_true rfl), (Nat.le_of_ble_eq_true rfl)⟩) (pre_V hK hW [0, 1, 2, 3] rfl (by decide) 2 0 rfl rfl) rfl rfl hl.1 rfl (lv_room (Nat.le_of_ble_eq_true rfl)) dX2_harsh_27 ⟨(by first | exact Nat.le_of_ble_eq_true rfl | omega | (dsimp only [rm_X2_harsh, rm_X2_clashing]; omega)), (by first | exact Nat.le_of_ble_eq_true rfl | omega | (dsimp only [rm_X2_harsh, rm_X2_clashing]; omega))⟩) rfl rfl rfl (by decide) rfl (fun _ => rfl) (by first | exact Nat.le_of_ble_eq_true rfl | omega | (dsimp only [rm_X2_harsh, rm_X2_clashing]; omega)) (by first | exact Nat.le_of_ble_eq_true rfl | omega | (dsimp only [rm_X2_harsh, rm_X2_clashing]; omega)) (fun r_7 u H locs hp_6 hW => ?_)
          subst hp_6
          refine lv_aload_n hx hb dX2_harsh_30 rfl (lv_at hl 2 rfl) ?_
          refine lv_iload_n hx hb dX2_harsh_31 rfl (lv_at hl 1 rfl) ?_
          refine fin_i (k := 0) (n := 0) (W2 := (fun _ => (WM κ a σ th kp))) [0, 1, 2, 3] [] [0, 1, 2, 3] hW hA (va_runV (As := [.int (J (b : Int))]) (rest := [.int (J (cof σ i))]) F ((m_X2_clashing l κ a σ th kp b (by omega) hI) _) (cwV 1 hts gX2_harsh_X2_clashing rfl rfl rfl (by decide +kernel) ⟨(Nat.le_of_ble_eq_true rfl), (Nat.le_of_ble_eq_true rfl)⟩) (pre_V hK hW [0, 1, 2, 3] rfl (by decide) 2 0 rfl rfl) rfl rfl hl.1 rfl (lv_room (Nat.le_of_ble_eq_true rfl)) dX2_harsh_32 ⟨(by first | exact Nat.le_of_ble_eq_true rfl | omega | (dsimp only [rm_X2_harsh, rm_X2_clashing]; omega)), (by first | exact Nat.le_of_ble_eq_true rfl | omega | (dsimp only [rm_X2_harsh, rm_X2_clashing]; omega))⟩) rfl rfl rfl (by decide) rfl (fun _ => rfl) (by first | exact Nat.le_of_ble_eq_true rfl | omega | (dsimp only [rm_X2_harsh, rm_X2_clashing]; omega)) (by first | exact Nat.le_of_ble_eq_true rfl | omega | (dsimp only [rm_X2_harsh, rm_X2_clashing]; omega)) (fun r_9 u H locs hp_8 hW => ?_)
          subst hp_8
          refine jv_icmp_le hx hb 40 dX2_harsh_35 (by decide) ⟨by omega, by omega⟩ ⟨by omega, by omega⟩ (fun h_10 => ?_) (fun h_10 => ?_)
          · skip
            refine jv_iinc (k := 0) (z := (i : Int)) (lv' := [(2, .int (J ((i : Int) + 1))), (1, .int (J (b : Int))), (0, .ref (a 0))]) hx hb dX2_harsh_40 hl rfl (by decide) rfl (fun ls hl => ?_)
            refine lv_goto (tgt := 4) hx hb dX2_harsh_43 (by decide) ?_
            exact ih (i + 1) (by omega) (by omega) (b : Int) _ _ _ (by omega) (hrn_n q_h (by omega) (by omega)) hW hl
          · skip
            refine lv_iload_n hx hb dX2_harsh_38 rfl (lv_at hl 0 rfl) ?_
            refine lv_istore_n (lv' := [(1, .int (J (i : Int))), (2, .int (J (i : Int))), (0, .ref (a 0))]) hx hb dX2_harsh_39 rfl hl (by decide) rfl (fun ls hl => ?_)
            refine jv_iinc (k := 1) (z := (i : Int)) (lv' := [(2, .int (J ((i : Int) + 1))), (1, .int (J (i : Int))), (0, .ref (a 0))]) hx hb dX2_harsh_40 hl rfl (by decide) rfl (fun ls hl => ?_)
            refine lv_goto (tgt := 4) hx hb dX2_harsh_43 (by decide) ?_
            exact ih (i + 1) (by omega) (by omega) (i : Int) _ _ _ (by omega) (hrn_y q_h (by omega) (Or.inr ⟨b, rfl, by omega⟩)) hW hl

abbrev rm_X2_greatest : Room := { frames := 5, cells := 0, slots := 0, locals := 112 }
set_option maxHeartbeats 4000000 in
set_option maxRecDepth 100000 in
/-- greatest -/
theorem m_X2_greatest (l : Launch) (κ : Kp) (a : Nat → Nat) (σ : Sg) (th : Int) (kp : Nat → Int) (hI : Inv σ) : CGi l yX2_greatest wsX2_greatest rm_X2_greatest κ [.ref (a 0)] (WM κ a σ th kp) (fun r _ => r = J (ga σ : Int)) (fun (_ : Unit) => (WM κ a σ th kp)) := by
  refine entry_i (by decide) rfl (Nat.le_of_ble_eq_true rfl) ?_
  intro P e s m args below meth c ls A Q F hname hK hA hret hW hl
  obtain ⟨hx, hb, hml, hown, hts⟩ := id F
  have hN := hI.hN
  have hN10 := hI.n10
  have hnn := hI.1
  have hcm := cmn_lt σ
  have hst := stn_lt hN10
  refine lv_aload_n hx hb dX2_greatest_0 rfl (lv_at hl 0 rfl) ?_
  refine fin_i (k := 0) (n := 0) (W2 := (fun _ => (WM κ a σ th kp))) [0, 1, 2, 3] [] [0, 1, 2, 3] hW hA (va_runV (As := []) (rest := []) F ((m_X2_set l κ a σ th kp  hI) _) (cwV 0 hts gX2_greatest_X2_set rfl rfl rfl (by decide +kernel) ⟨(Nat.le_of_ble_eq_true rfl), (Nat.le_of_ble_eq_true rfl)⟩) (pre_V hK hW [0, 1, 2, 3] rfl (by decide) 2 0 rfl rfl) rfl rfl hl.1 rfl (lv_room (Nat.le_of_ble_eq_true rfl)) dX2_greatest_1 ⟨(by first | exact Nat.le_of_ble_eq_true rfl | omega | (dsimp only [rm_X2_greatest, rm_X2_set]; omega)), (by first | exact Nat.le_of_ble_eq_true rfl | omega | (dsimp only [rm_X2_greatest, rm_X2_set]; omega))⟩) rfl rfl rfl (by decide) rfl (fun _ => rfl) (by first | exact Nat.le_of_ble_eq_true rfl | omega | (dsimp only [rm_X2_greatest, rm_X2_set]; omega)) (by first | exact Nat.le_of_ble_eq_true rfl | omega | (dsimp only [rm_X2_greatest, rm_X2_set]; omega)) (fun r_2 u H locs hp_1 hW => ?_)
  subst hp_1
  refine lv_istore_n (lv' := [(1, .int (J (stn σ : Int))), (0, .ref (a 0))]) hx hb dX2_greatest_4 rfl hl (by decide) rfl (fun ls hl => ?_)
  refine jv_iconst hx hb dX2_greatest_5 ?_
  refine lv_istore_n (lv' := [(2, .int (J 0)), (1, .int (J (stn σ : Int))), (0, .ref (a 0))]) hx hb dX2_greatest_6 rfl hl (by decide) rfl (fun ls hl => ?_)
  refine lv_iload_n hx hb dX2_greatest_7 rfl (lv_at hl 1 rfl) ?_
  refine lv_istore_n (lv' := [(3, .int (J (stn σ : Int))), (2, .int (J 0)), (1, .int (J (stn σ : Int))), (0, .ref (a 0))]) hx hb dX2_greatest_8 rfl hl (by decide) rfl (fun ls hl => ?_)
  suffices hlp : ∀ (n i : Nat), i ≤ (stn σ) → (stn σ) < i + n → ∀ (y : Int), ∀ (g : Nat), ∀ (H : Heap) (locs : List Loc) (ls : Array Slot), (0 ≤ y ∧ y ≤ 10) → (g + i ≤ stn σ) → (gin σ g y) → St κ A s.heap H locs (WM κ a σ th kp) → lv_has ls 4 [(3, .int (J (g : Int))), (2, .int (J y)), (1, .int (J (stn σ : Int))), (0, .ref (a 0))] → W P l e rm_X2_greatest s m args below meth c H locs 0 0 Q (F0 m 9 ls []) from
    hlp ((stn σ) + 1) 0 (Nat.zero_le _) (by omega) 0 (stn σ) _ _ _ (by omega) (Nat.le_refl _) (gin_0 σ) hW hl
  intro n
  induction n with
  | zero => intro i h1 h2; exact absurd h2 (by omega)
  | succ n ih =>
    intro i hi hn y g H locs ls q_y q_g q_g hW hl
    have hpm := pcn_le g
    have har := acl_rng hN10 g
    refine lv_iload_n hx hb dX2_greatest_9 rfl (lv_at hl 0 rfl) ?_
    refine jv_if_le hx hb 43 dX2_greatest_10 (by decide) ⟨by omega, by omega⟩ (fun h_3 => ?_) (fun h_3 => ?_)
    · skip
      have hm0 : g = 0 := by omega
      subst hm0
      refine lv_iload_n hx hb dX2_greatest_43 rfl (lv_at hl 1 rfl) ?_
      exact hret () hW dX2_greatest_44 (by first | exact Nat.le_of_ble_eq_true rfl | omega | (dsimp only [rm_X2_greatest]; omega)) (by first | exact Nat.le_of_ble_eq_true rfl | omega | (dsimp only [rm_X2_greatest]; omega)) (by rw [gin_end q_g])
    · skip
      refine lv_iload_n hx hb dX2_greatest_13 rfl (lv_at hl 0 rfl) ?_
      refine fin_i (k := 0) (n := 0) (W2 := (fun _ => (WM κ a σ th kp))) [] [0, 1, 2, 3] [0, 1, 2, 3] hW hA (va_runS (As := [.int (J (g : Int))]) (rest := []) F ((m_J6_bitCount_0f7a4 l κ g (by omega)) _) (va_cwS 1 hts gX2_greatest_J6_bitCount_0f7a4 rfl rfl rfl (by decide +kernel) ⟨(Nat.le_of_ble_eq_true rfl), (Nat.le_of_ble_eq_true rfl)⟩) (pre_S hK hW [] rfl (by decide)) rfl rfl hl.1 rfl (lv_room (Nat.le_of_ble_eq_true rfl)) dX2_greatest_14 ⟨(by first | exact Nat.le_of_ble_eq_true rfl | omega | (dsimp only [rm_X2_greatest, rm_J6_bitCount_0f7a4]; omega)), (by first | exact Nat.le_of_ble_eq_true rfl | omega | (dsimp only [rm_X2_greatest, rm_J6_bitCount_0f7a4]; omega))⟩) rfl rfl rfl (by decide) rfl (fun _ => rfl) (by first | exact Nat.le_of_ble_eq_true rfl | omega | (dsimp only [rm_X2_greatest, rm_J6_bitCount_0f7a4]; omega)) (by first | exact Nat.le_of_ble_eq_true rfl | omega | (dsimp only [rm_X2_greatest, rm_J6_bitCount_0f7a4]; omega)) (fun r_5 u H locs hp_4 hW => ?_)
      subst hp_4
      refine lv_iload_n hx hb dX2_greatest_17 rfl (lv_at hl 1 rfl) ?_
      refine jv_icmp_le hx hb 34 dX2_greatest_18 (by decide) ⟨by omega, by omega⟩ ⟨by omega, by omega⟩ (fun h_6 => ?_) (fun h_6 => ?_)
      · skip
        refine lv_iload_n hx hb dX2_greatest_34 rfl (lv_at hl 0 rfl) ?_
        refine jv_iconst hx hb dX2_greatest_35 ?_
        refine jv_isub hx hb dX2_greatest_36 ?_
        refine jv_eq (y := ((g - 1 : Nat) : Int)) (by omega) ?_
        have hal : (g - 1) &&& stn σ ≤ g - 1 := Nat.and_le_left
        refine lv_iload_n hx hb dX2_greatest_37 rfl (lv_at hl 2 rfl) ?_
        refine jv_iand hx hb (g - 1) (stn σ) dX2_greatest_38 ?_
        refine lv_istore_n (lv' := [(3, .int (J (((g - 1) &&& (stn σ) : Nat) : Int))), (2, .int (J y)), (1, .int (J (stn σ : Int))), (0, .ref (a 0))]) hx hb dX2_greatest_39 rfl hl (by decide) rfl (fun ls hl => ?_)
        refine lv_goto (tgt := 9) hx hb dX2_greatest_40 (by decide) ?_
        exact ih (i + 1) (by omega) (by omega) y ((g - 1) &&& (stn σ) : Nat) _ _ _ (by omega) (by omega) (gin_nx q_g (by omega) (Int.le_refl _) (Or.inl rfl) (fun _ => by omega)) hW hl
      · skip
        refine lv_aload_n hx hb dX2_greatest_21 rfl (lv_at hl 3 rfl) ?_
        refine lv_iload_n hx hb dX2_greatest_22 rfl (lv_at hl 0 rfl) ?_
        refine fin_i (k := 0) (n := 0) (W2 := (fun _ => (WM κ a σ th kp))) [0, 1, 2, 3] [] [0, 1, 2, 3] hW hA (va_runV (As := [.int (J (g : Int))]) (rest := []) F ((m_X2_allClashes l κ a σ th kp g (by omega) hI) _) (cwV 1 hts gX2_greatest_X2_allClashes rfl rfl rfl (by decide +kernel) ⟨(Nat.le_of_ble_eq_true rfl), (Nat.le_of_ble_eq_true rfl)⟩) (pre_V hK hW [0, 1, 2, 3] rfl (by decide) 2 0 rfl rfl) rfl rfl hl.1 rfl (lv_room (Nat.le_of_ble_eq_true rfl)) dX2_greatest_23 ⟨(by first | exact Nat.le_of_ble_eq_true rfl | omega | (dsimp only [rm_X2_greatest, rm_X2_allClashes]; omega)), (by first | exact Nat.le_of_ble_eq_true rfl | omega | (dsimp only [rm_X2_greatest, rm_X2_allClashes]; omega))⟩) rfl rfl rfl (by decide) rfl (fun _ => rfl) (by first | exact Nat.le_of_ble_eq_true rfl | omega | (dsimp only [rm_X2_greatest, rm_X2_allClashes]; omega)) (by first | exact Nat.le_of_ble_eq_true rfl | omega | (dsimp only [rm_X2_greatest, rm_X2_allClashes]; omega)) (fun r_8 u H locs hp_7 hW => ?_)
        subst hp_7
        refine jv_if_ne hx hb 34 dX2_greatest_26 (by decide) ⟨by omega, by omega⟩ (fun h_9 => ?_) (fun h_9 => ?_)
        · skip
          refine lv_iload_n hx hb dX2_greatest_34 rfl (lv_at hl 0 rfl) ?_
          refine jv_iconst hx hb dX2_greatest_35 ?_
          refine jv_isub hx hb dX2_greatest_36 ?_
          refine jv_eq (y := ((g - 1 : Nat) : Int)) (by omega) ?_
          have hal : (g - 1) &&& stn σ ≤ g - 1 := Nat.and_le_left
          refine lv_iload_n hx hb dX2_greatest_37 rfl (lv_at hl 2 rfl) ?_
          refine jv_iand hx hb (g - 1) (stn σ) dX2_greatest_38 ?_
          refine lv_istore_n (lv' := [(3, .int (J (((g - 1) &&& (stn σ) : Nat) : Int))), (2, .int (J y)), (1, .int (J (stn σ : Int))), (0, .ref (a 0))]) hx hb dX2_greatest_39 rfl hl (by decide) rfl (fun ls hl => ?_)
          refine lv_goto (tgt := 9) hx hb dX2_greatest_40 (by decide) ?_
          exact ih (i + 1) (by omega) (by omega) y ((g - 1) &&& (stn σ) : Nat) _ _ _ (by omega) (by omega) (gin_nx q_g (by omega) (Int.le_refl _) (Or.inl rfl) (fun h => by omega)) hW hl
        · skip
          refine lv_iload_n hx hb dX2_greatest_29 rfl (lv_at hl 0 rfl) ?_
          refine fin_i (k := 0) (n := 0) (W2 := (fun _ => (WM κ a σ th kp))) [] [0, 1, 2, 3] [0, 1, 2, 3] hW hA (va_runS (As := [.int (J (g : Int))]) (rest := []) F ((m_J6_bitCount_0f7a4 l κ g (by omega)) _) (va_cwS 1 hts gX2_greatest_J6_bitCount_0f7a4 rfl rfl rfl (by decide +kernel) ⟨(Nat.le_of_ble_eq_true rfl), (Nat.le_of_ble_eq_true rfl)⟩) (pre_S hK hW [] rfl (by decide)) rfl rfl hl.1 rfl (lv_room (Nat.le_of_ble_eq_true rfl)) dX2_greatest_30 ⟨(by first | exact Nat.le_of_ble_eq_true rfl | omega | (dsimp only [rm_X2_greatest, rm_J6_bitCount_0f7a4]; omega)), (by first | exact Nat.le_of_ble_eq_true rfl | omega | (dsimp only [rm_X2_greatest, rm_J6_bitCount_0f7a4]; omega))⟩) rfl rfl rfl (by decide) rfl (fun _ => rfl) (by first | exact Nat.le_of_ble_eq_true rfl | omega | (dsimp only [rm_X2_greatest, rm_J6_bitCount_0f7a4]; omega)) (by first | exact Nat.le_of_ble_eq_true rfl | omega | (dsimp only [rm_X2_greatest, rm_J6_bitCount_0f7a4]; omega)) (fun r_11 u H locs hp_10 hW => ?_)
          subst hp_10
          refine lv_istore_n (lv' := [(2, .int (J (pcn g : Int))), (3, .int (J (g : Int))), (1, .int (J (stn σ : Int))), (0, .ref (a 0))]) hx hb dX2_greatest_33 rfl hl (by decide) rfl (fun ls hl => ?_)
          refine lv_iload_n hx hb dX2_greatest_34 rfl (lv_at hl 1 rfl) ?_
          refine jv_iconst hx hb dX2_greatest_35 ?_
          refine jv_isub hx hb dX2_greatest_36 ?_
          refine jv_eq (y := ((g - 1 : Nat) : Int)) (by omega) ?_
          have hal : (g - 1) &&& stn σ ≤ g - 1 := Nat.and_le_left
          refine lv_iload_n hx hb dX2_greatest_37 rfl (lv_at hl 2 rfl) ?_
          refine jv_iand hx hb (g - 1) (stn σ) dX2_greatest_38 ?_
          refine lv_istore_n (lv' := [(3, .int (J (((g - 1) &&& (stn σ) : Nat) : Int))), (2, .int (J (pcn g : Int))), (1, .int (J (stn σ : Int))), (0, .ref (a 0))]) hx hb dX2_greatest_39 rfl hl (by decide) rfl (fun ls hl => ?_)
          refine lv_goto (tgt := 9) hx hb dX2_greatest_40 (by decide) ?_
          exact ih (i + 1) (by omega) (by omega) (pcn g : Int) ((g - 1) &&& (stn σ) : Nat) _ _ _ (by omega) (by omega) (gin_nx q_g (by omega) (by omega) (Or.inr ⟨by omega, rfl⟩) (fun _ => Int.le_refl _)) hW hl

abbrev rm_X2_silence : Room := { frames := 7, cells := 0, slots := 0, locals := 159 }
set_option maxHeartbeats 4000000 in
set_option maxRecDepth 100000 in
/-- silence -/
theorem m_X2_silence (l : Launch) (κ : Kp) (a : Nat → Nat) (σ : Sg) (th : Int) (kp : Nat → Int) (hI : Inv σ) (hB : σ 5 0 ≤ 100000000) : CGi l yX2_silence wsX2_silence rm_X2_silence κ [.ref (a 0)] (WM κ a σ th kp) (fun r _ => r = J (su σ : Int)) (fun (_ : Unit) => WM κ a σ th (nowf σ)) := by
  refine entry_i (by decide) rfl (Nat.le_of_ble_eq_true rfl) ?_
  intro P e s m args below meth c ls A Q F hname hK hA hret hW hl
  obtain ⟨hx, hb, hml, hown, hts⟩ := id F
  have hN := hI.hN
  have hN10 := hI.n10
  have hnn := hI.1
  have hcm := cmn_lt σ
  refine lv_aload_n hx hb dX2_silence_0 rfl (lv_at hl 0 rfl) ?_
  refine fin_v (k := 0) (n := 0) (W2 := (fun _ => (WM κ a σ th (nowf σ)))) [0, 1, 2, 3] [] [0, 1, 2, 3] hW hA (va_runV (As := []) (rest := []) F ((m_X2_keep l κ a σ th kp  hI) _) (cwV 0 hts gX2_silence_X2_keep rfl rfl rfl (by decide +kernel) ⟨(Nat.le_of_ble_eq_true rfl), (Nat.le_of_ble_eq_true rfl)⟩) (pre_V hK hW [0, 1, 2, 3] rfl (by decide) 2 0 rfl rfl) rfl rfl hl.1 rfl (lv_room (Nat.le_of_ble_eq_true rfl)) dX2_silence_1 ⟨(by first | exact Nat.le_of_ble_eq_true rfl | omega | (dsimp only [rm_X2_silence, rm_X2_keep]; omega)), (by first | exact Nat.le_of_ble_eq_true rfl | omega | (dsimp only [rm_X2_silence, rm_X2_keep]; omega))⟩) rfl rfl rfl (by decide) rfl (fun _ => rfl) (by first | exact Nat.le_of_ble_eq_true rfl | omega | (dsimp only [rm_X2_silence, rm_X2_keep]; omega)) (by first | exact Nat.le_of_ble_eq_true rfl | omega | (dsimp only [rm_X2_silence, rm_X2_keep]; omega)) (fun u H locs hp_1 hW => ?_)
  refine jv_iconst hx hb dX2_silence_4 ?_
  refine lv_istore_n (lv' := [(1, .int (J 0)), (0, .ref (a 0))]) hx hb dX2_silence_5 rfl hl (by decide) rfl (fun ls hl => ?_)
  suffices hlp : ∀ (n i : Nat), i ≤ 20 → 20 < i + n → ∀ (H : Heap) (locs : List Loc) (ls : Array Slot), (∀ j, j < i → ns (pbn σ j) ≠ 0) → St κ A s.heap H locs (WM κ a (pbn σ i) th (nowf σ)) → lv_has ls 2 [(1, .int (J (i : Int))), (0, .ref (a 0))] → W P l e rm_X2_silence s m args below meth c H locs 0 0 Q (F0 m 6 ls []) from
    hlp (20 + 1) 0 (Nat.zero_le _) (by omega)  _ _ _ (fun j hj => absurd hj (Nat.not_lt_zero j)) hW hl
  intro n
  induction n with
  | zero => intro i h1 h2; exact absurd h2 (by omega)
  | succ n ih =>
    intro i hi hn  H locs ls hno hW hl
    have hIi := hI.hpbn i
    have h5 := pbn_50 σ i
    have h51 := pbn_51 σ i
    have hNi := hIi.n10
    have hsi := stn_lt hNi
    refine lv_aload_n hx hb dX2_silence_6 rfl (lv_at hl 1 rfl) ?_
    refine fin_i (k := 0) (n := 0) (W2 := (fun _ => (WM κ a (pbn σ i) th (nowf σ)))) [0, 1, 2, 3] [] [0, 1, 2, 3] hW hA (va_runV (As := []) (rest := []) F ((m_X2_set l κ a (pbn σ i) th (nowf σ)  hIi) _) (cwV 0 hts gX2_silence_X2_set rfl rfl rfl (by decide +kernel) ⟨(Nat.le_of_ble_eq_true rfl), (Nat.le_of_ble_eq_true rfl)⟩) (pre_V hK hW [0, 1, 2, 3] rfl (by decide) 2 0 rfl rfl) rfl rfl hl.1 rfl (lv_room (Nat.le_of_ble_eq_true rfl)) dX2_silence_7 ⟨(by first | exact Nat.le_of_ble_eq_true rfl | omega | (dsimp only [rm_X2_silence, rm_X2_set]; omega)), (by first | exact Nat.le_of_ble_eq_true rfl | omega | (dsimp only [rm_X2_silence, rm_X2_set]; omega))⟩) rfl rfl rfl (by decide) rfl (fun _ => rfl) (by first | exact Nat.le_of_ble_eq_true rfl | omega | (dsimp only [rm_X2_silence, rm_X2_set]; omega)) (by first | exact Nat.le_of_ble_eq_true rfl | omega | (dsimp only [rm_X2_silence, rm_X2_set]; omega)) (fun r_3 u H locs hp_2 hW => ?_)
    subst hp_2
    refine jv_if_eq hx hb 24 dX2_silence_10 (by decide) ⟨by omega, by omega⟩ (fun h_4 => ?_) (fun h_4 => ?_)
    · skip
      have hze : ns (pbn σ i) = 0 := (stn_0 hNi).mp (by omega)
      refine lv_aload_n hx hb dX2_silence_24 rfl (lv_at hl 1 rfl) ?_
      refine fin_v (k := 0) (n := 0) (W2 := (fun _ => (WM κ a σ th (nowf σ)))) [0, 1, 2, 3] [] [0, 1, 2, 3] hW hA (va_runV (As := []) (rest := []) F ((m_X2_bringBack l κ a (pbn σ i) σ th (pbn_3 σ i) (pbn_4 σ i) (pbn_53 σ i)) _) (cwV 0 hts gX2_silence_X2_bringBack rfl rfl rfl (by decide +kernel) ⟨(Nat.le_of_ble_eq_true rfl), (Nat.le_of_ble_eq_true rfl)⟩) (pre_V hK hW [0, 1, 2, 3] rfl (by decide) 2 0 rfl rfl) rfl rfl hl.1 rfl (lv_room (Nat.le_of_ble_eq_true rfl)) dX2_silence_25 ⟨(by first | exact Nat.le_of_ble_eq_true rfl | omega | (dsimp only [rm_X2_silence, rm_X2_bringBack]; omega)), (by first | exact Nat.le_of_ble_eq_true rfl | omega | (dsimp only [rm_X2_silence, rm_X2_bringBack]; omega))⟩) rfl rfl rfl (by decide) rfl (fun _ => rfl) (by first | exact Nat.le_of_ble_eq_true rfl | omega | (dsimp only [rm_X2_silence, rm_X2_bringBack]; omega)) (by first | exact Nat.le_of_ble_eq_true rfl | omega | (dsimp only [rm_X2_silence, rm_X2_bringBack]; omega)) (fun u H locs hp_5 hW => ?_)
      refine lv_iload_n hx hb dX2_silence_28 rfl (lv_at hl 0 rfl) ?_
      exact hret () hW dX2_silence_29 (by first | exact Nat.le_of_ble_eq_true rfl | omega | (dsimp only [rm_X2_silence]; omega)) (by first | exact Nat.le_of_ble_eq_true rfl | omega | (dsimp only [rm_X2_silence]; omega)) (by rw [su_is (by omega) hno hze])
    · skip
      have hne : ns (pbn σ i) ≠ 0 := fun h => by have := (stn_0 hNi).mpr h; omega
      have hi20 : i < 20 := Nat.lt_of_not_le (fun h => hne (silent hI h))
      refine lv_aload_n hx hb dX2_silence_13 rfl (lv_at hl 1 rfl) ?_
      refine fin_i (k := 0) (n := 0) (W2 := (fun _ => (WM κ a (pb (pbn σ i)) th (nowf σ)))) [0, 1, 2, 3] [] [0, 1, 2, 3] hW hA (va_runV (As := []) (rest := []) F ((m_X2_beat l κ a (pbn σ i) th (nowf σ)  hIi (by omega)) _) (cwV 0 hts gX2_silence_X2_beat rfl rfl rfl (by decide +kernel) ⟨(Nat.le_of_ble_eq_true rfl), (Nat.le_of_ble_eq_true rfl)⟩) (pre_V hK hW [0, 1, 2, 3] rfl (by decide) 2 0 rfl rfl) rfl rfl hl.1 rfl (lv_room (Nat.le_of_ble_eq_true rfl)) dX2_silence_14 ⟨(by first | exact Nat.le_of_ble_eq_true rfl | omega | (dsimp only [rm_X2_silence, rm_X2_beat]; omega)), (by first | exact Nat.le_of_ble_eq_true rfl | omega | (dsimp only [rm_X2_silence, rm_X2_beat]; omega))⟩) rfl rfl rfl (by decide) rfl (fun _ => rfl) (by first | exact Nat.le_of_ble_eq_true rfl | omega | (dsimp only [rm_X2_silence, rm_X2_beat]; omega)) (by first | exact Nat.le_of_ble_eq_true rfl | omega | (dsimp only [rm_X2_silence, rm_X2_beat]; omega)) (fun r_7 u H locs hp_6 hW => ?_)
      subst hp_6
      refine lv_pop hx hb dX2_silence_17 rfl ?_
      refine jv_iinc (k := 0) (z := (i : Int)) (lv' := [(1, .int (J ((i : Int) + 1))), (0, .ref (a 0))]) hx hb dX2_silence_18 hl rfl (by decide) rfl (fun ls hl => ?_)
      refine lv_goto (tgt := 6) hx hb dX2_silence_21 (by decide) ?_
      exact ih (i + 1) (by omega) (by omega)  _ _ _ (fun j hj => (Nat.lt_or_ge j i).elim (fun h => hno j h) (fun h => by rw [show j = i by omega]; exact hne)) hW hl

abbrev rm_X2_untilCadence : Room := { frames := 7, cells := 0, slots := 0, locals := 159 }
set_option maxHeartbeats 4000000 in
set_option maxRecDepth 100000 in
/-- untilCadence -/
theorem m_X2_untilCadence (l : Launch) (κ : Kp) (a : Nat → Nat) (σ : Sg) (th : Int) (kp : Nat → Int) (hI : Inv σ) (hB : σ 5 0 ≤ 100000000) : CGi l yX2_untilCadence wsX2_untilCadence rm_X2_untilCadence κ [.ref (a 0)] (WM κ a σ th kp) (fun r _ => r = J (uc σ)) (fun (_ : Unit) => WM κ a σ th (nowf σ)) := by
  refine entry_i (by decide) rfl (Nat.le_of_ble_eq_true rfl) ?_
  intro P e s m args below meth c ls A Q F hname hK hA hret hW hl
  obtain ⟨hx, hb, hml, hown, hts⟩ := id F
  have hN := hI.hN
  have hN10 := hI.n10
  have hnn := hI.1
  have hcm := cmn_lt σ
  refine lv_aload_n hx hb dX2_untilCadence_0 rfl (lv_at hl 0 rfl) ?_
  refine fin_v (k := 0) (n := 0) (W2 := (fun _ => (WM κ a σ th (nowf σ)))) [0, 1, 2, 3] [] [0, 1, 2, 3] hW hA (va_runV (As := []) (rest := []) F ((m_X2_keep l κ a σ th kp  hI) _) (cwV 0 hts gX2_untilCadence_X2_keep rfl rfl rfl (by decide +kernel) ⟨(Nat.le_of_ble_eq_true rfl), (Nat.le_of_ble_eq_true rfl)⟩) (pre_V hK hW [0, 1, 2, 3] rfl (by decide) 2 0 rfl rfl) rfl rfl hl.1 rfl (lv_room (Nat.le_of_ble_eq_true rfl)) dX2_untilCadence_1 ⟨(by first | exact Nat.le_of_ble_eq_true rfl | omega | (dsimp only [rm_X2_untilCadence, rm_X2_keep]; omega)), (by first | exact Nat.le_of_ble_eq_true rfl | omega | (dsimp only [rm_X2_untilCadence, rm_X2_keep]; omega))⟩) rfl rfl rfl (by decide) rfl (fun _ => rfl) (by first | exact Nat.le_of_ble_eq_true rfl | omega | (dsimp only [rm_X2_untilCadence, rm_X2_keep]; omega)) (by first | exact Nat.le_of_ble_eq_true rfl | omega | (dsimp only [rm_X2_untilCadence, rm_X2_keep]; omega)) (fun u H locs hp_1 hW => ?_)
  refine jv_iconst hx hb dX2_untilCadence_4 ?_
  refine lv_istore_n (lv' := [(1, .int (J 1)), (0, .ref (a 0))]) hx hb dX2_untilCadence_5 rfl hl (by decide) rfl (fun ls hl => ?_)
  suffices hlp : ∀ (n i : Nat), i ≤ 60 → 60 < i + n → ∀ (H : Heap) (locs : List Loc) (ls : Array Slot), (∀ j, j < i → cadb (pbn σ j) = false) → St κ A s.heap H locs (WM κ a (pbn σ i) th (nowf σ)) → lv_has ls 2 [(1, .int (J ((i : Int) + 1))), (0, .ref (a 0))] → W P l e rm_X2_untilCadence s m args below meth c H locs 0 0 Q (F0 m 6 ls []) from
    hlp (60 + 1) 0 (Nat.zero_le _) (by omega)  _ _ _ (fun j hj => absurd hj (Nat.not_lt_zero j)) hW hl
  intro n
  induction n with
  | zero => intro i h1 h2; exact absurd h2 (by omega)
  | succ n ih =>
    intro i hi hn  H locs ls hno hW hl
    have hIi := hI.hpbn i
    have h5 := pbn_50 σ i
    have h51 := pbn_51 σ i
    have hNi := hIi.n10
    have hsi := stn_lt hNi
    refine lv_iload_n hx hb dX2_untilCadence_6 rfl (lv_at hl 0 rfl) ?_
    refine jv_bipush hx hb 61 dX2_untilCadence_7 (by decide +kernel) ?_
    refine jv_icmp_ge hx hb 25 dX2_untilCadence_9 (by decide) ⟨by omega, by omega⟩ ⟨by omega, by omega⟩ (fun h_2 => ?_) (fun h_2 => ?_)
    · skip
      refine lv_aload_n hx hb dX2_untilCadence_25 rfl (lv_at hl 1 rfl) ?_
      refine fin_v (k := 0) (n := 0) (W2 := (fun _ => (WM κ a σ th (nowf σ)))) [0, 1, 2, 3] [] [0, 1, 2, 3] hW hA (va_runV (As := []) (rest := []) F ((m_X2_bringBack l κ a (pbn σ i) σ th (pbn_3 σ i) (pbn_4 σ i) (pbn_53 σ i)) _) (cwV 0 hts gX2_untilCadence_X2_bringBack rfl rfl rfl (by decide +kernel) ⟨(Nat.le_of_ble_eq_true rfl), (Nat.le_of_ble_eq_true rfl)⟩) (pre_V hK hW [0, 1, 2, 3] rfl (by decide) 2 0 rfl rfl) rfl rfl hl.1 rfl (lv_room (Nat.le_of_ble_eq_true rfl)) dX2_untilCadence_26 ⟨(by first | exact Nat.le_of_ble_eq_true rfl | omega | (dsimp only [rm_X2_untilCadence, rm_X2_bringBack]; omega)), (by first | exact Nat.le_of_ble_eq_true rfl | omega | (dsimp only [rm_X2_untilCadence, rm_X2_bringBack]; omega))⟩) rfl rfl rfl (by decide) rfl (fun _ => rfl) (by first | exact Nat.le_of_ble_eq_true rfl | omega | (dsimp only [rm_X2_untilCadence, rm_X2_bringBack]; omega)) (by first | exact Nat.le_of_ble_eq_true rfl | omega | (dsimp only [rm_X2_untilCadence, rm_X2_bringBack]; omega)) (fun u H locs hp_3 hW => ?_)
      refine lv_iload_n hx hb dX2_untilCadence_29 rfl (lv_at hl 0 rfl) ?_
      refine jv_bipush hx hb 60 dX2_untilCadence_30 (by decide +kernel) ?_
      refine jv_icmp_le hx hb 39 dX2_untilCadence_32 (by decide) ⟨by omega, by omega⟩ ⟨by omega, by omega⟩ (fun h_4 => ?_) (fun h_4 => ?_)
      · skip
        refine lv_iload_n hx hb dX2_untilCadence_39 rfl (lv_at hl 0 rfl) ?_
        exact hret () hW dX2_untilCadence_40 (by first | exact Nat.le_of_ble_eq_true rfl | omega | (dsimp only [rm_X2_untilCadence]; omega)) (by first | exact Nat.le_of_ble_eq_true rfl | omega | (dsimp only [rm_X2_untilCadence]; omega)) (by exfalso; omega)
      · skip
        refine jv_iconst hx hb dX2_untilCadence_35 ?_
        refine lv_goto (tgt := 40) hx hb dX2_untilCadence_36 (by decide) ?_
        exact hret () hW dX2_untilCadence_40 (by first | exact Nat.le_of_ble_eq_true rfl | omega | (dsimp only [rm_X2_untilCadence]; omega)) (by first | exact Nat.le_of_ble_eq_true rfl | omega | (dsimp only [rm_X2_untilCadence]; omega)) (by rw [← uc_n (by omega) hno])
    · skip
      refine lv_aload_n hx hb dX2_untilCadence_12 rfl (lv_at hl 1 rfl) ?_
      refine fin_i (k := 0) (n := 0) (W2 := (fun _ => (WM κ a (pb (pbn σ i)) th (nowf σ)))) [0, 1, 2, 3] [] [0, 1, 2, 3] hW hA (va_runV (As := []) (rest := []) F ((m_X2_beat l κ a (pbn σ i) th (nowf σ)  hIi (by omega)) _) (cwV 0 hts gX2_untilCadence_X2_beat rfl rfl rfl (by decide +kernel) ⟨(Nat.le_of_ble_eq_true rfl), (Nat.le_of_ble_eq_true rfl)⟩) (pre_V hK hW [0, 1, 2, 3] rfl (by decide) 2 0 rfl rfl) rfl rfl hl.1 rfl (lv_room (Nat.le_of_ble_eq_true rfl)) dX2_untilCadence_13 ⟨(by first | exact Nat.le_of_ble_eq_true rfl | omega | (dsimp only [rm_X2_untilCadence, rm_X2_beat]; omega)), (by first | exact Nat.le_of_ble_eq_true rfl | omega | (dsimp only [rm_X2_untilCadence, rm_X2_beat]; omega))⟩) rfl rfl rfl (by decide) rfl (fun _ => rfl) (by first | exact Nat.le_of_ble_eq_true rfl | omega | (dsimp only [rm_X2_untilCadence, rm_X2_beat]; omega)) (by first | exact Nat.le_of_ble_eq_true rfl | omega | (dsimp only [rm_X2_untilCadence, rm_X2_beat]; omega)) (fun r_6 u H locs hp_5 hW => ?_)
      subst hp_5
      refine jv_ifb_ne (b := (cadb (pbn σ i))) hx hb 25 dX2_untilCadence_16 (by decide) (fun h_7 => ?_) (fun h_7 => ?_)
      · skip
        refine lv_aload_n hx hb dX2_untilCadence_25 rfl (lv_at hl 1 rfl) ?_
        refine fin_v (k := 0) (n := 0) (W2 := (fun _ => (WM κ a σ th (nowf σ)))) [0, 1, 2, 3] [] [0, 1, 2, 3] hW hA (va_runV (As := []) (rest := []) F ((m_X2_bringBack l κ a (pb (pbn σ i)) σ th (pbn_3 σ (i + 1)) (pbn_4 σ (i + 1)) (pbn_53 σ (i + 1))) _) (cwV 0 hts gX2_untilCadence_X2_bringBack rfl rfl rfl (by decide +kernel) ⟨(Nat.le_of_ble_eq_true rfl), (Nat.le_of_ble_eq_true rfl)⟩) (pre_V hK hW [0, 1, 2, 3] rfl (by decide) 2 0 rfl rfl) rfl rfl hl.1 rfl (lv_room (Nat.le_of_ble_eq_true rfl)) dX2_untilCadence_26 ⟨(by first | exact Nat.le_of_ble_eq_true rfl | omega | (dsimp only [rm_X2_untilCadence, rm_X2_bringBack]; omega)), (by first | exact Nat.le_of_ble_eq_true rfl | omega | (dsimp only [rm_X2_untilCadence, rm_X2_bringBack]; omega))⟩) rfl rfl rfl (by decide) rfl (fun _ => rfl) (by first | exact Nat.le_of_ble_eq_true rfl | omega | (dsimp only [rm_X2_untilCadence, rm_X2_bringBack]; omega)) (by first | exact Nat.le_of_ble_eq_true rfl | omega | (dsimp only [rm_X2_untilCadence, rm_X2_bringBack]; omega)) (fun u H locs hp_8 hW => ?_)
        refine lv_iload_n hx hb dX2_untilCadence_29 rfl (lv_at hl 0 rfl) ?_
        refine jv_bipush hx hb 60 dX2_untilCadence_30 (by decide +kernel) ?_
        refine jv_icmp_le hx hb 39 dX2_untilCadence_32 (by decide) ⟨by omega, by omega⟩ ⟨by omega, by omega⟩ (fun h_9 => ?_) (fun h_9 => ?_)
        · skip
          refine lv_iload_n hx hb dX2_untilCadence_39 rfl (lv_at hl 0 rfl) ?_
          exact hret () hW dX2_untilCadence_40 (by first | exact Nat.le_of_ble_eq_true rfl | omega | (dsimp only [rm_X2_untilCadence]; omega)) (by first | exact Nat.le_of_ble_eq_true rfl | omega | (dsimp only [rm_X2_untilCadence]; omega)) (by rw [← uc_y (by omega) hno h_7])
        · skip
          refine jv_iconst hx hb dX2_untilCadence_35 ?_
          refine lv_goto (tgt := 40) hx hb dX2_untilCadence_36 (by decide) ?_
          exact hret () hW dX2_untilCadence_40 (by first | exact Nat.le_of_ble_eq_true rfl | omega | (dsimp only [rm_X2_untilCadence]; omega)) (by first | exact Nat.le_of_ble_eq_true rfl | omega | (dsimp only [rm_X2_untilCadence]; omega)) (by exfalso; omega)
      · skip
        refine jv_iinc (k := 0) (z := ((i : Int) + 1)) (lv' := [(1, .int (J (((i : Int) + 1) + 1))), (0, .ref (a 0))]) hx hb dX2_untilCadence_19 hl rfl (by decide) rfl (fun ls hl => ?_)
        refine lv_goto (tgt := 6) hx hb dX2_untilCadence_22 (by decide) ?_
        exact ih (i + 1) (by omega) (by omega)  _ _ _ (fun j hj => (Nat.lt_or_ge j i).elim (fun h => hno j h) (fun h => by rw [show j = i by omega]; exact h_7)) hW hl

abbrev rm_X2_bestTuning : Room := { frames := 7, cells := 0, slots := 0, locals := 161 }
set_option maxHeartbeats 4000000 in
set_option maxRecDepth 100000 in
/-- bestTuning -/
theorem m_X2_bestTuning (l : Launch) (κ : Kp) (a : Nat → Nat) (σ : Sg) (th : Int) (kp : Nat → Int) (z : Int) (hz : InR z) (hI : Inv σ) : CGi l yX2_bestTuning wsX2_bestTuning rm_X2_bestTuning κ [.ref (a 0), .int (J z)] (WM κ a σ th kp) (fun r (u : Int) => ((0 ≤ z ∧ z < σ 5 3) ∧ u = 0 ∧ r = J (btu σ z.toNat)) ∨ (¬ (0 ≤ z ∧ z < σ 5 3) ∧ u = 1 ∧ r = J 0)) (fun (u : Int) => WM κ a σ u kp) := by
  refine entry_i (by decide) rfl (Nat.le_of_ble_eq_true rfl) ?_
  intro P e s m args below meth c ls A Q F hname hK hA hret hW hl
  obtain ⟨hx, hb, hml, hown, hts⟩ := id F
  have hn2 : ∀ w ∈ wsX20, w ∈ wsX2_bestTuning := by decide +kernel
  have hN := hI.hN
  have hN10 := hI.n10
  have hnn := hI.1
  have hcm := cmn_lt σ
  refine lv_aload_n hx hb dX2_bestTuning_0 rfl (lv_at hl 0 rfl) ?_
  refine jv_iconst hx hb dX2_bestTuning_1 ?_
  refine jv_put (T := TX2) (N := 6) (ws' := (WM κ a σ 0 kp)) hx hb hts hn2 tyX2 tyX2_ok nmX2 hown hK hW 0 rfl rfl 0 (by decide) (List.mem_of_getElem? (i := 1) rfl) rfl rfl rfl (Nat.le_of_ble_eq_true rfl) rfl dX2_bestTuning_2 (fun H locs hW => ?_)
  refine lv_aload_n hx hb dX2_bestTuning_5 rfl (lv_at hl 0 rfl) ?_
  refine lv_iload_n hx hb dX2_bestTuning_6 rfl (lv_at hl 1 rfl) ?_
  refine fin_i (k := 0) (n := 0) (W2 := (fun _ => (WM κ a σ 0 kp))) [0, 1, 2, 3] [] [0, 1, 2, 3] hW hA (va_runV (As := [.int (J z)]) (rest := []) F ((m_X2_isPot l κ a σ 0 kp z ⟨by omega, by omega⟩ hI) _) (cwV 1 hts gX2_bestTuning_X2_isPot rfl rfl rfl (by decide +kernel) ⟨(Nat.le_of_ble_eq_true rfl), (Nat.le_of_ble_eq_true rfl)⟩) (pre_V hK hW [0, 1, 2, 3] rfl (by decide) 2 0 rfl rfl) rfl rfl hl.1 rfl (lv_room (Nat.le_of_ble_eq_true rfl)) dX2_bestTuning_7 ⟨(by first | exact Nat.le_of_ble_eq_true rfl | omega | (dsimp only [rm_X2_bestTuning, rm_X2_isPot]; omega)), (by first | exact Nat.le_of_ble_eq_true rfl | omega | (dsimp only [rm_X2_bestTuning, rm_X2_isPot]; omega))⟩) rfl rfl rfl (by decide) rfl (fun _ => rfl) (by first | exact Nat.le_of_ble_eq_true rfl | omega | (dsimp only [rm_X2_bestTuning, rm_X2_isPot]; omega)) (by first | exact Nat.le_of_ble_eq_true rfl | omega | (dsimp only [rm_X2_bestTuning, rm_X2_isPot]; omega)) (fun r_2 u H locs hp_1 hW => ?_)
  subst hp_1
  refine jv_ifb_eq (b := (decide (0 ≤ z ∧ z ≤ σ 5 3 - 1))) hx hb 21 dX2_bestTuning_10 (by decide) (fun h_3 => ?_) (fun h_3 => ?_)
  · skip
    have eh_3 := of_decide_eq_false h_3
    refine lv_aload_n hx hb dX2_bestTuning_21 rfl (lv_at hl 0 rfl) ?_
    refine jv_iconst hx hb dX2_bestTuning_22 ?_
    refine fin_i (k := 0) (n := 0) (W2 := (fun _ => (WM κ a σ 1 kp))) [0, 1, 2, 3] [] [0, 1, 2, 3] hW hA (va_runV (As := [.int (J 1)]) (rest := []) F ((m_X2_no l κ a σ 0 kp 1 hI) _) (cwV 1 hts gX2_bestTuning_X2_no rfl rfl rfl (by decide +kernel) ⟨(Nat.le_of_ble_eq_true rfl), (Nat.le_of_ble_eq_true rfl)⟩) (pre_V hK hW [0, 1, 2, 3] rfl (by decide) 2 0 rfl rfl) rfl rfl hl.1 rfl (lv_room (Nat.le_of_ble_eq_true rfl)) dX2_bestTuning_23 ⟨(by first | exact Nat.le_of_ble_eq_true rfl | omega | (dsimp only [rm_X2_bestTuning, rm_X2_no]; omega)), (by first | exact Nat.le_of_ble_eq_true rfl | omega | (dsimp only [rm_X2_bestTuning, rm_X2_no]; omega))⟩) rfl rfl rfl (by decide) rfl (fun _ => rfl) (by first | exact Nat.le_of_ble_eq_true rfl | omega | (dsimp only [rm_X2_bestTuning, rm_X2_no]; omega)) (by first | exact Nat.le_of_ble_eq_true rfl | omega | (dsimp only [rm_X2_bestTuning, rm_X2_no]; omega)) (fun r_5 u H locs hp_4 hW => ?_)
    subst hp_4
    exact hret 1 hW dX2_bestTuning_26 (by first | exact Nat.le_of_ble_eq_true rfl | omega | (dsimp only [rm_X2_bestTuning]; omega)) (by first | exact Nat.le_of_ble_eq_true rfl | omega | (dsimp only [rm_X2_bestTuning]; omega)) (Or.inr ⟨by omega, rfl, rfl⟩)
  · skip
    have eh_3 := of_decide_eq_true h_3
    obtain ⟨p, rfl⟩ : ∃ p : Nat, z = (p : Int) := ⟨z.toNat, by omega⟩
    have hbp := hI.at p (by omega)
    refine lv_aload_n hx hb dX2_bestTuning_13 rfl (lv_at hl 0 rfl) ?_
    refine lv_iload_n hx hb dX2_bestTuning_14 rfl (lv_at hl 1 rfl) ?_
    refine fin_i (k := 0) (n := 0) (W2 := (fun _ => (WM κ a σ 0 kp))) [0, 1, 2, 3] [] [0, 1, 2, 3] hW hA (va_runV (As := [.int (J (p : Int))]) (rest := []) F ((m_X2_tuning l κ a σ 0 kp p (by omega) hI) _) (cwV 1 hts gX2_bestTuning_X2_tuning rfl rfl rfl (by decide +kernel) ⟨(Nat.le_of_ble_eq_true rfl), (Nat.le_of_ble_eq_true rfl)⟩) (pre_V hK hW [0, 1, 2, 3] rfl (by decide) 2 0 rfl rfl) rfl rfl hl.1 rfl (lv_room (Nat.le_of_ble_eq_true rfl)) dX2_bestTuning_15 ⟨(by first | exact Nat.le_of_ble_eq_true rfl | omega | (dsimp only [rm_X2_bestTuning, rm_X2_tuning]; omega)), (by first | exact Nat.le_of_ble_eq_true rfl | omega | (dsimp only [rm_X2_bestTuning, rm_X2_tuning]; omega))⟩) rfl rfl rfl (by decide) rfl (fun _ => rfl) (by first | exact Nat.le_of_ble_eq_true rfl | omega | (dsimp only [rm_X2_bestTuning, rm_X2_tuning]; omega)) (by first | exact Nat.le_of_ble_eq_true rfl | omega | (dsimp only [rm_X2_bestTuning, rm_X2_tuning]; omega)) (fun r_7 u H locs hp_6 hW => ?_)
    subst hp_6
    refine lv_goto (tgt := 26) hx hb dX2_bestTuning_18 (by decide) ?_
    exact hret 0 hW dX2_bestTuning_26 (by first | exact Nat.le_of_ble_eq_true rfl | omega | (dsimp only [rm_X2_bestTuning]; omega)) (by first | exact Nat.le_of_ble_eq_true rfl | omega | (dsimp only [rm_X2_bestTuning]; omega)) (Or.inl ⟨by omega, rfl, rfl⟩)

abbrev rm_X2_bestToMute : Room := { frames := 7, cells := 0, slots := 0, locals := 159 }
set_option maxHeartbeats 4000000 in
set_option maxRecDepth 100000 in
/-- bestToMute -/
theorem m_X2_bestToMute (l : Launch) (κ : Kp) (a : Nat → Nat) (σ : Sg) (th : Int) (kp : Nat → Int) (hI : Inv σ) : CGi l yX2_bestToMute wsX2_bestToMute rm_X2_bestToMute κ [.ref (a 0)] (WM κ a σ th kp) (fun r (_ : Unit) => r = J (fm σ)) (fun (_ : Unit) => WM κ a σ 0 kp) := by
  refine entry_i (by decide) rfl (Nat.le_of_ble_eq_true rfl) ?_
  intro P e s m args below meth c ls A Q F hname hK hA hret hW hl
  obtain ⟨hx, hb, hml, hown, hts⟩ := id F
  have hN := hI.hN
  have hN10 := hI.n10
  have hnn := hI.1
  have hcm := cmn_lt σ
  refine lv_aload_n hx hb dX2_bestToMute_0 rfl (lv_at hl 0 rfl) ?_
  refine lv_aload_n hx hb dX2_bestToMute_1 rfl (lv_at hl 0 rfl) ?_
  refine fin_i (k := 0) (n := 0) (W2 := (fun _ => (WM κ a σ th kp))) [0, 1, 2, 3] [] [0, 1, 2, 3] hW hA (va_runV (As := []) (rest := [.ref (a 0)]) F ((m_X2_mute l κ a σ th kp  hI) _) (cwV 0 hts gX2_bestToMute_X2_mute rfl rfl rfl (by decide +kernel) ⟨(Nat.le_of_ble_eq_true rfl), (Nat.le_of_ble_eq_true rfl)⟩) (pre_V hK hW [0, 1, 2, 3] rfl (by decide) 2 0 rfl rfl) rfl rfl hl.1 rfl (lv_room (Nat.le_of_ble_eq_true rfl)) dX2_bestToMute_2 ⟨(by first | exact Nat.le_of_ble_eq_true rfl | omega | (dsimp only [rm_X2_bestToMute, rm_X2_mute]; omega)), (by first | exact Nat.le_of_ble_eq_true rfl | omega | (dsimp only [rm_X2_bestToMute, rm_X2_mute]; omega))⟩) rfl rfl rfl (by decide) rfl (fun _ => rfl) (by first | exact Nat.le_of_ble_eq_true rfl | omega | (dsimp only [rm_X2_bestToMute, rm_X2_mute]; omega)) (by first | exact Nat.le_of_ble_eq_true rfl | omega | (dsimp only [rm_X2_bestToMute, rm_X2_mute]; omega)) (fun r_2 u H locs hp_1 hW => ?_)
  subst hp_1
  refine fin_i (k := 0) (n := 0) (W2 := (fun _ => (WM κ a σ 0 kp))) [0, 1, 2, 3] [] [0, 1, 2, 3] hW hA (va_runV (As := [.int (J (fm σ))]) (rest := []) F ((m_X2_ok l κ a σ th kp (fm σ) hI) _) (cwV 1 hts gX2_bestToMute_X2_ok rfl rfl rfl (by decide +kernel) ⟨(Nat.le_of_ble_eq_true rfl), (Nat.le_of_ble_eq_true rfl)⟩) (pre_V hK hW [0, 1, 2, 3] rfl (by decide) 2 0 rfl rfl) rfl rfl hl.1 rfl (lv_room (Nat.le_of_ble_eq_true rfl)) dX2_bestToMute_5 ⟨(by first | exact Nat.le_of_ble_eq_true rfl | omega | (dsimp only [rm_X2_bestToMute, rm_X2_ok]; omega)), (by first | exact Nat.le_of_ble_eq_true rfl | omega | (dsimp only [rm_X2_bestToMute, rm_X2_ok]; omega))⟩) rfl rfl rfl (by decide) rfl (fun _ => rfl) (by first | exact Nat.le_of_ble_eq_true rfl | omega | (dsimp only [rm_X2_bestToMute, rm_X2_ok]; omega)) (by first | exact Nat.le_of_ble_eq_true rfl | omega | (dsimp only [rm_X2_bestToMute, rm_X2_ok]; omega)) (fun r_4 u H locs hp_3 hW => ?_)
  subst hp_3
  exact hret () hW dX2_bestToMute_8 (by first | exact Nat.le_of_ble_eq_true rfl | omega | (dsimp only [rm_X2_bestToMute]; omega)) (by first | exact Nat.le_of_ble_eq_true rfl | omega | (dsimp only [rm_X2_bestToMute]; omega)) rfl

abbrev rm_X2_harshest : Room := { frames := 6, cells := 0, slots := 0, locals := 132 }
set_option maxHeartbeats 4000000 in
set_option maxRecDepth 100000 in
/-- harshest -/
theorem m_X2_harshest (l : Launch) (κ : Kp) (a : Nat → Nat) (σ : Sg) (th : Int) (kp : Nat → Int) (hI : Inv σ) : CGi l yX2_harshest wsX2_harshest rm_X2_harshest κ [.ref (a 0)] (WM κ a σ th kp) (fun r (_ : Unit) => r = J (hst σ)) (fun (_ : Unit) => WM κ a σ 0 kp) := by
  refine entry_i (by decide) rfl (Nat.le_of_ble_eq_true rfl) ?_
  intro P e s m args below meth c ls A Q F hname hK hA hret hW hl
  obtain ⟨hx, hb, hml, hown, hts⟩ := id F
  have hN := hI.hN
  have hN10 := hI.n10
  have hnn := hI.1
  have hcm := cmn_lt σ
  refine lv_aload_n hx hb dX2_harshest_0 rfl (lv_at hl 0 rfl) ?_
  refine lv_aload_n hx hb dX2_harshest_1 rfl (lv_at hl 0 rfl) ?_
  refine fin_i (k := 0) (n := 0) (W2 := (fun _ => (WM κ a σ th kp))) [0, 1, 2, 3] [] [0, 1, 2, 3] hW hA (va_runV (As := []) (rest := [.ref (a 0)]) F ((m_X2_harsh l κ a σ th kp  hI) _) (cwV 0 hts gX2_harshest_X2_harsh rfl rfl rfl (by decide +kernel) ⟨(Nat.le_of_ble_eq_true rfl), (Nat.le_of_ble_eq_true rfl)⟩) (pre_V hK hW [0, 1, 2, 3] rfl (by decide) 2 0 rfl rfl) rfl rfl hl.1 rfl (lv_room (Nat.le_of_ble_eq_true rfl)) dX2_harshest_2 ⟨(by first | exact Nat.le_of_ble_eq_true rfl | omega | (dsimp only [rm_X2_harshest, rm_X2_harsh]; omega)), (by first | exact Nat.le_of_ble_eq_true rfl | omega | (dsimp only [rm_X2_harshest, rm_X2_harsh]; omega))⟩) rfl rfl rfl (by decide) rfl (fun _ => rfl) (by first | exact Nat.le_of_ble_eq_true rfl | omega | (dsimp only [rm_X2_harshest, rm_X2_harsh]; omega)) (by first | exact Nat.le_of_ble_eq_true rfl | omega | (dsimp only [rm_X2_harshest, rm_X2_harsh]; omega)) (fun r_2 u H locs hp_1 hW => ?_)
  subst hp_1
  refine fin_i (k := 0) (n := 0) (W2 := (fun _ => (WM κ a σ 0 kp))) [0, 1, 2, 3] [] [0, 1, 2, 3] hW hA (va_runV (As := [.int (J (hst σ))]) (rest := []) F ((m_X2_ok l κ a σ th kp (hst σ) hI) _) (cwV 1 hts gX2_harshest_X2_ok rfl rfl rfl (by decide +kernel) ⟨(Nat.le_of_ble_eq_true rfl), (Nat.le_of_ble_eq_true rfl)⟩) (pre_V hK hW [0, 1, 2, 3] rfl (by decide) 2 0 rfl rfl) rfl rfl hl.1 rfl (lv_room (Nat.le_of_ble_eq_true rfl)) dX2_harshest_5 ⟨(by first | exact Nat.le_of_ble_eq_true rfl | omega | (dsimp only [rm_X2_harshest, rm_X2_ok]; omega)), (by first | exact Nat.le_of_ble_eq_true rfl | omega | (dsimp only [rm_X2_harshest, rm_X2_ok]; omega))⟩) rfl rfl rfl (by decide) rfl (fun _ => rfl) (by first | exact Nat.le_of_ble_eq_true rfl | omega | (dsimp only [rm_X2_harshest, rm_X2_ok]; omega)) (by first | exact Nat.le_of_ble_eq_true rfl | omega | (dsimp only [rm_X2_harshest, rm_X2_ok]; omega)) (fun r_4 u H locs hp_3 hW => ?_)
  subst hp_3
  exact hret () hW dX2_harshest_8 (by first | exact Nat.le_of_ble_eq_true rfl | omega | (dsimp only [rm_X2_harshest]; omega)) (by first | exact Nat.le_of_ble_eq_true rfl | omega | (dsimp only [rm_X2_harshest]; omega)) rfl

abbrev rm_X2_greatestAccord : Room := { frames := 6, cells := 0, slots := 0, locals := 135 }
set_option maxHeartbeats 4000000 in
set_option maxRecDepth 100000 in
/-- greatestAccord -/
theorem m_X2_greatestAccord (l : Launch) (κ : Kp) (a : Nat → Nat) (σ : Sg) (th : Int) (kp : Nat → Int) (hI : Inv σ) : CGi l yX2_greatestAccord wsX2_greatestAccord rm_X2_greatestAccord κ [.ref (a 0)] (WM κ a σ th kp) (fun r (_ : Unit) => r = J (ga σ : Int)) (fun (_ : Unit) => WM κ a σ 0 kp) := by
  refine entry_i (by decide) rfl (Nat.le_of_ble_eq_true rfl) ?_
  intro P e s m args below meth c ls A Q F hname hK hA hret hW hl
  obtain ⟨hx, hb, hml, hown, hts⟩ := id F
  have hN := hI.hN
  have hN10 := hI.n10
  have hnn := hI.1
  have hcm := cmn_lt σ
  refine lv_aload_n hx hb dX2_greatestAccord_0 rfl (lv_at hl 0 rfl) ?_
  refine lv_aload_n hx hb dX2_greatestAccord_1 rfl (lv_at hl 0 rfl) ?_
  refine fin_i (k := 0) (n := 0) (W2 := (fun _ => (WM κ a σ th kp))) [0, 1, 2, 3] [] [0, 1, 2, 3] hW hA (va_runV (As := []) (rest := [.ref (a 0)]) F ((m_X2_greatest l κ a σ th kp  hI) _) (cwV 0 hts gX2_greatestAccord_X2_greatest rfl rfl rfl (by decide +kernel) ⟨(Nat.le_of_ble_eq_true rfl), (Nat.le_of_ble_eq_true rfl)⟩) (pre_V hK hW [0, 1, 2, 3] rfl (by decide) 2 0 rfl rfl) rfl rfl hl.1 rfl (lv_room (Nat.le_of_ble_eq_true rfl)) dX2_greatestAccord_2 ⟨(by first | exact Nat.le_of_ble_eq_true rfl | omega | (dsimp only [rm_X2_greatestAccord, rm_X2_greatest]; omega)), (by first | exact Nat.le_of_ble_eq_true rfl | omega | (dsimp only [rm_X2_greatestAccord, rm_X2_greatest]; omega))⟩) rfl rfl rfl (by decide) rfl (fun _ => rfl) (by first | exact Nat.le_of_ble_eq_true rfl | omega | (dsimp only [rm_X2_greatestAccord, rm_X2_greatest]; omega)) (by first | exact Nat.le_of_ble_eq_true rfl | omega | (dsimp only [rm_X2_greatestAccord, rm_X2_greatest]; omega)) (fun r_2 u H locs hp_1 hW => ?_)
  subst hp_1
  refine fin_i (k := 0) (n := 0) (W2 := (fun _ => (WM κ a σ 0 kp))) [0, 1, 2, 3] [] [0, 1, 2, 3] hW hA (va_runV (As := [.int (J (ga σ : Int))]) (rest := []) F ((m_X2_ok l κ a σ th kp (ga σ : Int) hI) _) (cwV 1 hts gX2_greatestAccord_X2_ok rfl rfl rfl (by decide +kernel) ⟨(Nat.le_of_ble_eq_true rfl), (Nat.le_of_ble_eq_true rfl)⟩) (pre_V hK hW [0, 1, 2, 3] rfl (by decide) 2 0 rfl rfl) rfl rfl hl.1 rfl (lv_room (Nat.le_of_ble_eq_true rfl)) dX2_greatestAccord_5 ⟨(by first | exact Nat.le_of_ble_eq_true rfl | omega | (dsimp only [rm_X2_greatestAccord, rm_X2_ok]; omega)), (by first | exact Nat.le_of_ble_eq_true rfl | omega | (dsimp only [rm_X2_greatestAccord, rm_X2_ok]; omega))⟩) rfl rfl rfl (by decide) rfl (fun _ => rfl) (by first | exact Nat.le_of_ble_eq_true rfl | omega | (dsimp only [rm_X2_greatestAccord, rm_X2_ok]; omega)) (by first | exact Nat.le_of_ble_eq_true rfl | omega | (dsimp only [rm_X2_greatestAccord, rm_X2_ok]; omega)) (fun r_4 u H locs hp_3 hW => ?_)
  subst hp_3
  exact hret () hW dX2_greatestAccord_8 (by first | exact Nat.le_of_ble_eq_true rfl | omega | (dsimp only [rm_X2_greatestAccord]; omega)) (by first | exact Nat.le_of_ble_eq_true rfl | omega | (dsimp only [rm_X2_greatestAccord]; omega)) rfl

abbrev rm_X2_beatsUntilSilence : Room := { frames := 8, cells := 0, slots := 0, locals := 180 }
set_option maxHeartbeats 4000000 in
set_option maxRecDepth 100000 in
/-- beatsUntilSilence -/
theorem m_X2_beatsUntilSilence (l : Launch) (κ : Kp) (a : Nat → Nat) (σ : Sg) (th : Int) (kp : Nat → Int) (hI : Inv σ) (hB : σ 5 0 ≤ 100000000) : CGi l yX2_beatsUntilSilence wsX2_beatsUntilSilence rm_X2_beatsUntilSilence κ [.ref (a 0)] (WM κ a σ th kp) (fun r (_ : Unit) => r = J (su σ : Int)) (fun (_ : Unit) => WM κ a σ 0 (nowf σ)) := by
  refine entry_i (by decide) rfl (Nat.le_of_ble_eq_true rfl) ?_
  intro P e s m args below meth c ls A Q F hname hK hA hret hW hl
  obtain ⟨hx, hb, hml, hown, hts⟩ := id F
  have hN := hI.hN
  have hN10 := hI.n10
  have hnn := hI.1
  have hcm := cmn_lt σ
  refine lv_aload_n hx hb dX2_beatsUntilSilence_0 rfl (lv_at hl 0 rfl) ?_
  refine lv_aload_n hx hb dX2_beatsUntilSilence_1 rfl (lv_at hl 0 rfl) ?_
  refine fin_i (k := 0) (n := 0) (W2 := (fun _ => (WM κ a σ th (nowf σ)))) [0, 1, 2, 3] [] [0, 1, 2, 3] hW hA (va_runV (As := []) (rest := [.ref (a 0)]) F ((m_X2_silence l κ a σ th kp  hI (by omega)) _) (cwV 0 hts gX2_beatsUntilSilence_X2_silence rfl rfl rfl (by decide +kernel) ⟨(Nat.le_of_ble_eq_true rfl), (Nat.le_of_ble_eq_true rfl)⟩) (pre_V hK hW [0, 1, 2, 3] rfl (by decide) 2 0 rfl rfl) rfl rfl hl.1 rfl (lv_room (Nat.le_of_ble_eq_true rfl)) dX2_beatsUntilSilence_2 ⟨(by first | exact Nat.le_of_ble_eq_true rfl | omega | (dsimp only [rm_X2_beatsUntilSilence, rm_X2_silence]; omega)), (by first | exact Nat.le_of_ble_eq_true rfl | omega | (dsimp only [rm_X2_beatsUntilSilence, rm_X2_silence]; omega))⟩) rfl rfl rfl (by decide) rfl (fun _ => rfl) (by first | exact Nat.le_of_ble_eq_true rfl | omega | (dsimp only [rm_X2_beatsUntilSilence, rm_X2_silence]; omega)) (by first | exact Nat.le_of_ble_eq_true rfl | omega | (dsimp only [rm_X2_beatsUntilSilence, rm_X2_silence]; omega)) (fun r_2 u H locs hp_1 hW => ?_)
  subst hp_1
  refine fin_i (k := 0) (n := 0) (W2 := (fun _ => (WM κ a σ 0 (nowf σ)))) [0, 1, 2, 3] [] [0, 1, 2, 3] hW hA (va_runV (As := [.int (J (su σ : Int))]) (rest := []) F ((m_X2_ok l κ a σ th (nowf σ) (su σ : Int) hI) _) (cwV 1 hts gX2_beatsUntilSilence_X2_ok rfl rfl rfl (by decide +kernel) ⟨(Nat.le_of_ble_eq_true rfl), (Nat.le_of_ble_eq_true rfl)⟩) (pre_V hK hW [0, 1, 2, 3] rfl (by decide) 2 0 rfl rfl) rfl rfl hl.1 rfl (lv_room (Nat.le_of_ble_eq_true rfl)) dX2_beatsUntilSilence_5 ⟨(by first | exact Nat.le_of_ble_eq_true rfl | omega | (dsimp only [rm_X2_beatsUntilSilence, rm_X2_ok]; omega)), (by first | exact Nat.le_of_ble_eq_true rfl | omega | (dsimp only [rm_X2_beatsUntilSilence, rm_X2_ok]; omega))⟩) rfl rfl rfl (by decide) rfl (fun _ => rfl) (by first | exact Nat.le_of_ble_eq_true rfl | omega | (dsimp only [rm_X2_beatsUntilSilence, rm_X2_ok]; omega)) (by first | exact Nat.le_of_ble_eq_true rfl | omega | (dsimp only [rm_X2_beatsUntilSilence, rm_X2_ok]; omega)) (fun r_4 u H locs hp_3 hW => ?_)
  subst hp_3
  exact hret () hW dX2_beatsUntilSilence_8 (by first | exact Nat.le_of_ble_eq_true rfl | omega | (dsimp only [rm_X2_beatsUntilSilence]; omega)) (by first | exact Nat.le_of_ble_eq_true rfl | omega | (dsimp only [rm_X2_beatsUntilSilence]; omega)) rfl

abbrev rm_X2_beatsUntilCadence : Room := { frames := 8, cells := 0, slots := 0, locals := 180 }
set_option maxHeartbeats 4000000 in
set_option maxRecDepth 100000 in
/-- beatsUntilCadence -/
theorem m_X2_beatsUntilCadence (l : Launch) (κ : Kp) (a : Nat → Nat) (σ : Sg) (th : Int) (kp : Nat → Int) (hI : Inv σ) (hB : σ 5 0 ≤ 100000000) : CGi l yX2_beatsUntilCadence wsX2_beatsUntilCadence rm_X2_beatsUntilCadence κ [.ref (a 0)] (WM κ a σ th kp) (fun r (_ : Unit) => r = J (uc σ)) (fun (_ : Unit) => WM κ a σ 0 (nowf σ)) := by
  refine entry_i (by decide) rfl (Nat.le_of_ble_eq_true rfl) ?_
  intro P e s m args below meth c ls A Q F hname hK hA hret hW hl
  obtain ⟨hx, hb, hml, hown, hts⟩ := id F
  have hN := hI.hN
  have hN10 := hI.n10
  have hnn := hI.1
  have hcm := cmn_lt σ
  refine lv_aload_n hx hb dX2_beatsUntilCadence_0 rfl (lv_at hl 0 rfl) ?_
  refine lv_aload_n hx hb dX2_beatsUntilCadence_1 rfl (lv_at hl 0 rfl) ?_
  refine fin_i (k := 0) (n := 0) (W2 := (fun _ => (WM κ a σ th (nowf σ)))) [0, 1, 2, 3] [] [0, 1, 2, 3] hW hA (va_runV (As := []) (rest := [.ref (a 0)]) F ((m_X2_untilCadence l κ a σ th kp  hI (by omega)) _) (cwV 0 hts gX2_beatsUntilCadence_X2_untilCadence rfl rfl rfl (by decide +kernel) ⟨(Nat.le_of_ble_eq_true rfl), (Nat.le_of_ble_eq_true rfl)⟩) (pre_V hK hW [0, 1, 2, 3] rfl (by decide) 2 0 rfl rfl) rfl rfl hl.1 rfl (lv_room (Nat.le_of_ble_eq_true rfl)) dX2_beatsUntilCadence_2 ⟨(by first | exact Nat.le_of_ble_eq_true rfl | omega | (dsimp only [rm_X2_beatsUntilCadence, rm_X2_untilCadence]; omega)), (by first | exact Nat.le_of_ble_eq_true rfl | omega | (dsimp only [rm_X2_beatsUntilCadence, rm_X2_untilCadence]; omega))⟩) rfl rfl rfl (by decide) rfl (fun _ => rfl) (by first | exact Nat.le_of_ble_eq_true rfl | omega | (dsimp only [rm_X2_beatsUntilCadence, rm_X2_untilCadence]; omega)) (by first | exact Nat.le_of_ble_eq_true rfl | omega | (dsimp only [rm_X2_beatsUntilCadence, rm_X2_untilCadence]; omega)) (fun r_2 u H locs hp_1 hW => ?_)
  subst hp_1
  refine fin_i (k := 0) (n := 0) (W2 := (fun _ => (WM κ a σ 0 (nowf σ)))) [0, 1, 2, 3] [] [0, 1, 2, 3] hW hA (va_runV (As := [.int (J (uc σ))]) (rest := []) F ((m_X2_ok l κ a σ th (nowf σ) (uc σ) hI) _) (cwV 1 hts gX2_beatsUntilCadence_X2_ok rfl rfl rfl (by decide +kernel) ⟨(Nat.le_of_ble_eq_true rfl), (Nat.le_of_ble_eq_true rfl)⟩) (pre_V hK hW [0, 1, 2, 3] rfl (by decide) 2 0 rfl rfl) rfl rfl hl.1 rfl (lv_room (Nat.le_of_ble_eq_true rfl)) dX2_beatsUntilCadence_5 ⟨(by first | exact Nat.le_of_ble_eq_true rfl | omega | (dsimp only [rm_X2_beatsUntilCadence, rm_X2_ok]; omega)), (by first | exact Nat.le_of_ble_eq_true rfl | omega | (dsimp only [rm_X2_beatsUntilCadence, rm_X2_ok]; omega))⟩) rfl rfl rfl (by decide) rfl (fun _ => rfl) (by first | exact Nat.le_of_ble_eq_true rfl | omega | (dsimp only [rm_X2_beatsUntilCadence, rm_X2_ok]; omega)) (by first | exact Nat.le_of_ble_eq_true rfl | omega | (dsimp only [rm_X2_beatsUntilCadence, rm_X2_ok]; omega)) (fun r_4 u H locs hp_3 hW => ?_)
  subst hp_3
  exact hret () hW dX2_beatsUntilCadence_8 (by first | exact Nat.le_of_ble_eq_true rfl | omega | (dsimp only [rm_X2_beatsUntilCadence]; omega)) (by first | exact Nat.le_of_ble_eq_true rfl | omega | (dsimp only [rm_X2_beatsUntilCadence]; omega)) rfl

abbrev rm_X2_harmonyIn : Room := { frames := 8, cells := 0, slots := 0, locals := 182 }
set_option maxHeartbeats 4000000 in
set_option maxRecDepth 100000 in
/-- harmonyIn -/
theorem m_X2_harmonyIn (l : Launch) (κ : Kp) (a : Nat → Nat) (σ : Sg) (th : Int) (kp : Nat → Int) (k : Int) (hk : InR k) (hI : Inv σ) (hB : σ 5 0 ≤ 100000000) : CGi l yX2_harmonyIn wsX2_harmonyIn rm_X2_harmonyIn κ [.ref (a 0), .int (J k)] (WM κ a σ th kp) (fun r (u : Int × (Nat → Int)) => ((1 ≤ k ∧ k ≤ 60) ∧ u = (0, nowf σ) ∧ r = J (hm (pbn σ k.toNat))) ∨ (¬ (1 ≤ k ∧ k ≤ 60) ∧ u = (1, kp) ∧ r = J 0)) (fun (u : Int × (Nat → Int)) => WM κ a σ u.1 u.2) := by
  refine entry_i (by decide) rfl (Nat.le_of_ble_eq_true rfl) ?_
  intro P e s m args below meth c ls A Q F hname hK hA hret hW hl
  obtain ⟨hx, hb, hml, hown, hts⟩ := id F
  have hn2 : ∀ w ∈ wsX20, w ∈ wsX2_harmonyIn := by decide +kernel
  have hN := hI.hN
  have hN10 := hI.n10
  have hnn := hI.1
  have hcm := cmn_lt σ
  refine lv_aload_n hx hb dX2_harmonyIn_0 rfl (lv_at hl 0 rfl) ?_
  refine jv_iconst hx hb dX2_harmonyIn_1 ?_
  refine jv_put (T := TX2) (N := 6) (ws' := (WM κ a σ 0 kp)) hx hb hts hn2 tyX2 tyX2_ok nmX2 hown hK hW 0 rfl rfl 0 (by decide) (List.mem_of_getElem? (i := 1) rfl) rfl rfl rfl (Nat.le_of_ble_eq_true rfl) rfl dX2_harmonyIn_2 (fun H locs hW => ?_)
  refine lv_iload_n hx hb dX2_harmonyIn_5 rfl (lv_at hl 1 rfl) ?_
  refine jv_iconst hx hb dX2_harmonyIn_6 ?_
  refine jv_bipush hx hb 60 dX2_harmonyIn_7 (by decide +kernel) ?_
  refine fin_i (k := 0) (n := 0) (W2 := (fun _ => (WM κ a σ 0 kp))) [] [0, 1, 2, 3] [0, 1, 2, 3] hW hA (va_runS (As := [.int (J k), .int (J 1), .int (J 60)]) (rest := []) F ((m_X2_isIn l κ k 1 60 (by omega)) _) (va_cwS 3 hts gX2_harmonyIn_X2_isIn rfl rfl rfl (by decide +kernel) ⟨(Nat.le_of_ble_eq_true rfl), (Nat.le_of_ble_eq_true rfl)⟩) (pre_S hK hW [] rfl (by decide)) rfl rfl hl.1 rfl (lv_room (Nat.le_of_ble_eq_true rfl)) dX2_harmonyIn_9 ⟨(by first | exact Nat.le_of_ble_eq_true rfl | omega | (dsimp only [rm_X2_harmonyIn, rm_X2_isIn]; omega)), (by first | exact Nat.le_of_ble_eq_true rfl | omega | (dsimp only [rm_X2_harmonyIn, rm_X2_isIn]; omega))⟩) rfl rfl rfl (by decide) rfl (fun _ => rfl) (by first | exact Nat.le_of_ble_eq_true rfl | omega | (dsimp only [rm_X2_harmonyIn, rm_X2_isIn]; omega)) (by first | exact Nat.le_of_ble_eq_true rfl | omega | (dsimp only [rm_X2_harmonyIn, rm_X2_isIn]; omega)) (fun r_2 u H locs hp_1 hW => ?_)
  subst hp_1
  refine jv_ifb_ne (b := (decide (1 ≤ k ∧ k ≤ 60))) hx hb 21 dX2_harmonyIn_12 (by decide) (fun h_3 => ?_) (fun h_3 => ?_)
  · skip
    have eh_3 := of_decide_eq_true h_3
    obtain ⟨n, rfl⟩ : ∃ p : Nat, k = (p : Int) := ⟨k.toNat, by omega⟩
    refine lv_aload_n hx hb dX2_harmonyIn_21 rfl (lv_at hl 0 rfl) ?_
    refine fin_v (k := 0) (n := 0) (W2 := (fun _ => (WM κ a σ 0 (nowf σ)))) [0, 1, 2, 3] [] [0, 1, 2, 3] hW hA (va_runV (As := []) (rest := []) F ((m_X2_keep l κ a σ 0 kp  hI) _) (cwV 0 hts gX2_harmonyIn_X2_keep rfl rfl rfl (by decide +kernel) ⟨(Nat.le_of_ble_eq_true rfl), (Nat.le_of_ble_eq_true rfl)⟩) (pre_V hK hW [0, 1, 2, 3] rfl (by decide) 2 0 rfl rfl) rfl rfl hl.1 rfl (lv_room (Nat.le_of_ble_eq_true rfl)) dX2_harmonyIn_22 ⟨(by first | exact Nat.le_of_ble_eq_true rfl | omega | (dsimp only [rm_X2_harmonyIn, rm_X2_keep]; omega)), (by first | exact Nat.le_of_ble_eq_true rfl | omega | (dsimp only [rm_X2_harmonyIn, rm_X2_keep]; omega))⟩) rfl rfl rfl (by decide) rfl (fun _ => rfl) (by first | exact Nat.le_of_ble_eq_true rfl | omega | (dsimp only [rm_X2_harmonyIn, rm_X2_keep]; omega)) (by first | exact Nat.le_of_ble_eq_true rfl | omega | (dsimp only [rm_X2_harmonyIn, rm_X2_keep]; omega)) (fun u H locs hp_4 hW => ?_)
    refine lv_aload_n hx hb dX2_harmonyIn_25 rfl (lv_at hl 0 rfl) ?_
    refine lv_iload_n hx hb dX2_harmonyIn_26 rfl (lv_at hl 1 rfl) ?_
    refine fin_i (k := 0) (n := 0) (W2 := (fun _ => (WM κ a (pbn σ n) 0 (nowf σ)))) [0, 1, 2, 3] [] [0, 1, 2, 3] hW hA (va_runV (As := [.int (J (n : Int))]) (rest := []) F ((m_X2_beats l κ a σ 0 (nowf σ) n (by omega) hI (by omega)) _) (cwV 1 hts gX2_harmonyIn_X2_beats rfl rfl rfl (by decide +kernel) ⟨(Nat.le_of_ble_eq_true rfl), (Nat.le_of_ble_eq_true rfl)⟩) (pre_V hK hW [0, 1, 2, 3] rfl (by decide) 2 0 rfl rfl) rfl rfl hl.1 rfl (lv_room (Nat.le_of_ble_eq_true rfl)) dX2_harmonyIn_27 ⟨(by first | exact Nat.le_of_ble_eq_true rfl | omega | (dsimp only [rm_X2_harmonyIn, rm_X2_beats]; omega)), (by first | exact Nat.le_of_ble_eq_true rfl | omega | (dsimp only [rm_X2_harmonyIn, rm_X2_beats]; omega))⟩) rfl rfl rfl (by decide) rfl (fun _ => rfl) (by first | exact Nat.le_of_ble_eq_true rfl | omega | (dsimp only [rm_X2_harmonyIn, rm_X2_beats]; omega)) (by first | exact Nat.le_of_ble_eq_true rfl | omega | (dsimp only [rm_X2_harmonyIn, rm_X2_beats]; omega)) (fun r_6 u H locs hp_5 hW => ?_)
    subst hp_5
    refine lv_pop hx hb dX2_harmonyIn_30 rfl ?_
    have hIn := hI.hpbn n
    have hNn := hIn.n10
    have hsn := stn_lt hNn
    refine lv_aload_n hx hb dX2_harmonyIn_31 rfl (lv_at hl 0 rfl) ?_
    refine lv_aload_n hx hb dX2_harmonyIn_32 rfl (lv_at hl 0 rfl) ?_
    refine fin_i (k := 0) (n := 0) (W2 := (fun _ => (WM κ a (pbn σ n) 0 (nowf σ)))) [0, 1, 2, 3] [] [0, 1, 2, 3] hW hA (va_runV (As := []) (rest := [.ref (a 0)]) F ((m_X2_set l κ a (pbn σ n) 0 (nowf σ)  hIn) _) (cwV 0 hts gX2_harmonyIn_X2_set rfl rfl rfl (by decide +kernel) ⟨(Nat.le_of_ble_eq_true rfl), (Nat.le_of_ble_eq_true rfl)⟩) (pre_V hK hW [0, 1, 2, 3] rfl (by decide) 2 0 rfl rfl) rfl rfl hl.1 rfl (lv_room (Nat.le_of_ble_eq_true rfl)) dX2_harmonyIn_33 ⟨(by first | exact Nat.le_of_ble_eq_true rfl | omega | (dsimp only [rm_X2_harmonyIn, rm_X2_set]; omega)), (by first | exact Nat.le_of_ble_eq_true rfl | omega | (dsimp only [rm_X2_harmonyIn, rm_X2_set]; omega))⟩) rfl rfl rfl (by decide) rfl (fun _ => rfl) (by first | exact Nat.le_of_ble_eq_true rfl | omega | (dsimp only [rm_X2_harmonyIn, rm_X2_set]; omega)) (by first | exact Nat.le_of_ble_eq_true rfl | omega | (dsimp only [rm_X2_harmonyIn, rm_X2_set]; omega)) (fun r_8 u H locs hp_7 hW => ?_)
    subst hp_7
    refine fin_i (k := 0) (n := 0) (W2 := (fun _ => (WM κ a (pbn σ n) 0 (nowf σ)))) [0, 1, 2, 3] [] [0, 1, 2, 3] hW hA (va_runV (As := [.int (J (stn (pbn σ n) : Int))]) (rest := []) F ((m_X2_harmonyOf l κ a (pbn σ n) 0 (nowf σ) (stn (pbn σ n)) (by omega) hIn) _) (cwV 1 hts gX2_harmonyIn_X2_harmonyOf rfl rfl rfl (by decide +kernel) ⟨(Nat.le_of_ble_eq_true rfl), (Nat.le_of_ble_eq_true rfl)⟩) (pre_V hK hW [0, 1, 2, 3] rfl (by decide) 2 0 rfl rfl) rfl rfl hl.1 rfl (lv_room (Nat.le_of_ble_eq_true rfl)) dX2_harmonyIn_36 ⟨(by first | exact Nat.le_of_ble_eq_true rfl | omega | (dsimp only [rm_X2_harmonyIn, rm_X2_harmonyOf]; omega)), (by first | exact Nat.le_of_ble_eq_true rfl | omega | (dsimp only [rm_X2_harmonyIn, rm_X2_harmonyOf]; omega))⟩) rfl rfl rfl (by decide) rfl (fun _ => rfl) (by first | exact Nat.le_of_ble_eq_true rfl | omega | (dsimp only [rm_X2_harmonyIn, rm_X2_harmonyOf]; omega)) (by first | exact Nat.le_of_ble_eq_true rfl | omega | (dsimp only [rm_X2_harmonyIn, rm_X2_harmonyOf]; omega)) (fun r_10 u H locs hp_9 hW => ?_)
    subst hp_9
    refine jv_eq (y := hm (pbn σ n)) (hmo_set hNn) ?_
    refine lv_istore_n (lv' := [(2, .int (J (hm (pbn σ n)))), (0, .ref (a 0)), (1, .int (J (n : Int)))]) hx hb dX2_harmonyIn_39 rfl hl (by decide) rfl (fun ls hl => ?_)
    refine lv_aload_n hx hb dX2_harmonyIn_40 rfl (lv_at hl 1 rfl) ?_
    refine fin_v (k := 0) (n := 0) (W2 := (fun _ => (WM κ a σ 0 (nowf σ)))) [0, 1, 2, 3] [] [0, 1, 2, 3] hW hA (va_runV (As := []) (rest := []) F ((m_X2_bringBack l κ a (pbn σ n) σ 0 (pbn_3 σ n) (pbn_4 σ n) (pbn_53 σ n)) _) (cwV 0 hts gX2_harmonyIn_X2_bringBack rfl rfl rfl (by decide +kernel) ⟨(Nat.le_of_ble_eq_true rfl), (Nat.le_of_ble_eq_true rfl)⟩) (pre_V hK hW [0, 1, 2, 3] rfl (by decide) 2 0 rfl rfl) rfl rfl hl.1 rfl (lv_room (Nat.le_of_ble_eq_true rfl)) dX2_harmonyIn_41 ⟨(by first | exact Nat.le_of_ble_eq_true rfl | omega | (dsimp only [rm_X2_harmonyIn, rm_X2_bringBack]; omega)), (by first | exact Nat.le_of_ble_eq_true rfl | omega | (dsimp only [rm_X2_harmonyIn, rm_X2_bringBack]; omega))⟩) rfl rfl rfl (by decide) rfl (fun _ => rfl) (by first | exact Nat.le_of_ble_eq_true rfl | omega | (dsimp only [rm_X2_harmonyIn, rm_X2_bringBack]; omega)) (by first | exact Nat.le_of_ble_eq_true rfl | omega | (dsimp only [rm_X2_harmonyIn, rm_X2_bringBack]; omega)) (fun u H locs hp_11 hW => ?_)
    refine lv_iload_n hx hb dX2_harmonyIn_44 rfl (lv_at hl 0 rfl) ?_
    exact hret (0, nowf σ) hW dX2_harmonyIn_45 (by first | exact Nat.le_of_ble_eq_true rfl | omega | (dsimp only [rm_X2_harmonyIn]; omega)) (by first | exact Nat.le_of_ble_eq_true rfl | omega | (dsimp only [rm_X2_harmonyIn]; omega)) (Or.inl ⟨by omega, rfl, rfl⟩)
  · skip
    have eh_3 := of_decide_eq_false h_3
    refine lv_aload_n hx hb dX2_harmonyIn_15 rfl (lv_at hl 0 rfl) ?_
    refine jv_iconst hx hb dX2_harmonyIn_16 ?_
    refine fin_i (k := 0) (n := 0) (W2 := (fun _ => (WM κ a σ 1 kp))) [0, 1, 2, 3] [] [0, 1, 2, 3] hW hA (va_runV (As := [.int (J 1)]) (rest := []) F ((m_X2_no l κ a σ 0 kp 1 hI) _) (cwV 1 hts gX2_harmonyIn_X2_no rfl rfl rfl (by decide +kernel) ⟨(Nat.le_of_ble_eq_true rfl), (Nat.le_of_ble_eq_true rfl)⟩) (pre_V hK hW [0, 1, 2, 3] rfl (by decide) 2 0 rfl rfl) rfl rfl hl.1 rfl (lv_room (Nat.le_of_ble_eq_true rfl)) dX2_harmonyIn_17 ⟨(by first | exact Nat.le_of_ble_eq_true rfl | omega | (dsimp only [rm_X2_harmonyIn, rm_X2_no]; omega)), (by first | exact Nat.le_of_ble_eq_true rfl | omega | (dsimp only [rm_X2_harmonyIn, rm_X2_no]; omega))⟩) rfl rfl rfl (by decide) rfl (fun _ => rfl) (by first | exact Nat.le_of_ble_eq_true rfl | omega | (dsimp only [rm_X2_harmonyIn, rm_X2_no]; omega)) (by first | exact Nat.le_of_ble_eq_true rfl | omega | (dsimp only [rm_X2_harmonyIn, rm_X2_no]; omega)) (fun r_13 u H locs hp_12 hW => ?_)
    subst hp_12
    exact hret (1, kp) hW dX2_harmonyIn_20 (by first | exact Nat.le_of_ble_eq_true rfl | omega | (dsimp only [rm_X2_harmonyIn]; omega)) (by first | exact Nat.le_of_ble_eq_true rfl | omega | (dsimp only [rm_X2_harmonyIn]; omega)) (Or.inr ⟨by omega, rfl, rfl⟩)
