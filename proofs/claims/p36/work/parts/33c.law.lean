set_option maxHeartbeats 4000000 in
set_option maxRecDepth 100000 in
/-- the law: the greatest accord, the one to mute -/
theorem law_C {P : Program} {l : Launch} {e : Env} {s : State} {m : MethodId} {below : List Frame} {meth : Method} {c : Code} {Q : State → Prop} {b L : Nat} {xs : Nat → Int32} {κ : Kp} {A : Nat → Prop} (F : CallFix P m c cL_law 25 s #[Value.ref b] wsL_law RL) (hK : Kx κ s) (hA : ∀ q, s.heap.size ≤ q → A q) (hX : va_X b L xs s s.heap) (hbl : b < s.heap.size) (hbA : ¬ A b) (hL : L ≤ 2048) {x q pp : Nat} {a a2 : Nat → Nat} {M : List Nat} {σ τ : Sg} {br bt : Nat → Int} {tm : Nat} (htm : tm < 10) {v : Int32} {k0 n0 : Nat} (hk0 : k0 + 20 ≤ 600130) (hn0 : n0 + 200 ≤ 7301080) (hG : Gd σ M) (hp0 : 0 < nn σ) (hB : σ 5 0 ≤ 900000) (hC : σ 5 1 ≤ 900000) {q1 q2 q3 : Nat}
    (next758 : ∀ (br1 : Nat → Int) (H : Heap) (locs : List Loc) (ls : Array Slot), St κ A s.heap H locs ((WX κ x a a2 ++ (WC κ a σ br1 ++ (WC κ a2 τ bt ++ (WS κ q pp M (σ 5 0) (σ 5 1) (σ 5 2) ++ (WA κ q1 (nn σ) (σ 1) ++ (WA κ q2 (nn σ) (σ 0) ++ (WZ κ q3 (nn σ) (snb σ)))))))) ++ RP κ M σ) → lv_has ls 25 [(0, .ref b), (1, .ref x), (2, .ref q), (3, .int (J (tm : Int))), (4, .int v), (5, .long (dg σ)), (7, .int (J (nn σ : Int))), (8, .int (J (ns σ : Int))), (11, .ref q1), (12, .ref q2), (13, .ref q3)] → W P l e rm_law s m #[Value.ref b] below meth c H locs k0 n0 Q (F0 m 758 ls []))
    {H : Heap} {locs : List Loc} {ls : Array Slot} (hW : St κ A s.heap H locs ((WX κ x a a2 ++ (WC κ a σ br ++ (WC κ a2 τ bt ++ (WS κ q pp M (σ 5 0) (σ 5 1) (σ 5 2) ++ (WA κ q1 (nn σ) (σ 1) ++ (WA κ q2 (nn σ) (σ 0) ++ (WZ κ q3 (nn σ) (snb σ)))))))) ++ RP κ M σ)) (hl : lv_has ls 25 [(0, .ref b), (1, .ref x), (2, .ref q), (3, .int (J (tm : Int))), (4, .int v), (5, .long (dg σ)), (7, .int (J (nn σ : Int))), (8, .int (J (ns σ : Int))), (9, .int (J (cc2 σ : Int))), (11, .ref q1), (12, .ref q2), (13, .ref q3), (14, .int (J (hst σ)))]) : W P l e rm_law s m #[Value.ref b] below meth c H locs k0 n0 Q (F0 m 633 ls []) := by
  obtain ⟨hx, hb, hml, hown, hts⟩ := id F
  have hI := hG.1
  have hLn := hG.2.1
  have hN := hI.hN
  have hN10 := hI.n10
  have hnn := hI.1
  have hb50 := hI.2.1
  have hb51 := hI.2.2.1
  have hns := ns_le σ
  have hcc := cc2_le hN10
  have hga := ga_in hI
  have hg1 := hga.1
  have hg2 := hga.2.1
  have hg3 := hga.2.2
  have hfr := fm_rng hN10
  have hfn := ns_pos_fm (σ := σ)
  have hhr := hst_rng hN10
  have hhn := hst_neg σ
  refine lv_aload_n hx hb dL_law_633 rfl (lv_at hl 1 rfl) ?_
  refine fina_i (k := k0) (n := n0) (W2 := (fun br1 => ((WX κ x a a2 ++ (WC κ a σ br1 ++ (WC κ a2 τ bt ++ (WS κ q pp M (σ 5 0) (σ 5 1) (σ 5 2) ++ (WA κ q1 (nn σ) (σ 1) ++ (WA κ q2 (nn σ) (σ 0) ++ (WZ κ q3 (nn σ) (snb σ)))))))) ++ RP κ M σ))) hW (va_free hW.2.1 hW.2.2 hA [0, 1, 2, 3, 4, 5, 6, 7] rfl) (va_runV (As := []) (rest := []) F ((m_X1_greatestAccord l κ x a a2 σ br hI) _) (cwV 0 hts gL_law_X1_greatestAccord rfl rfl rfl (by decide +kernel) ⟨(Nat.le_of_ble_eq_true rfl), (Nat.le_of_ble_eq_true rfl)⟩) (pre_V hK hW [0, 1, 2, 3, 4, 5, 6, 7] rfl (by decide) 1 0 rfl rfl) rfl rfl hl.1 rfl (lv_room (Nat.le_of_ble_eq_true rfl)) dL_law_634 ⟨(by first | exact Nat.le_of_ble_eq_true rfl | omega | (dsimp only [rm_law, rm_X1_greatestAccord]; omega)), (by first | exact Nat.le_of_ble_eq_true rfl | omega | (dsimp only [rm_law, rm_X1_greatestAccord]; omega))⟩) (fun u H1 locs1 g1 g2 g3 g4 => St.joinQ hW hA [0, 1, 2, 3, 4, 5, 6, 7] [8, 9, 10, 11, 12, 13, 14, 15, 16, 17, 18, 19] [12, 13, 14, 15, 16, 17, 18, 19, 0, 1, 2, 3, 4, 5, 6, 7, 8, 9, 10, 11] rfl rfl rfl (by decide) rfl rfl g1 g2 g3 g4) (by first | exact Nat.le_of_ble_eq_true rfl | omega | (dsimp only [rm_law, rm_X1_greatestAccord]; omega)) (by first | exact Nat.le_of_ble_eq_true rfl | omega | (dsimp only [rm_law, rm_X1_greatestAccord]; omega)) (fun r_2 br1 H locs hp_1 hW => ?_)
  subst hp_1
  refine lv_istore (lv' := [(15, .int (J (ga σ : Int))), (0, .ref b), (1, .ref x), (2, .ref q), (3, .int (J (tm : Int))), (4, .int v), (5, .long (dg σ)), (7, .int (J (nn σ : Int))), (8, .int (J (ns σ : Int))), (9, .int (J (cc2 σ : Int))), (11, .ref q1), (12, .ref q2), (13, .ref q3), (14, .int (J (hst σ)))]) hx hb dL_law_637 hl (by decide) rfl (fun ls hl => ?_)
  refine lv_aload_n hx hb dL_law_639 rfl (lv_at hl 2 rfl) ?_
  refine fina_i (k := k0) (n := n0) (W2 := (fun _ => ((WX κ x a a2 ++ (WC κ a σ br1 ++ (WC κ a2 τ bt ++ (WS κ q pp M (σ 5 0) (σ 5 1) (σ 5 2) ++ (WA κ q1 (nn σ) (σ 1) ++ (WA κ q2 (nn σ) (σ 0) ++ (WZ κ q3 (nn σ) (snb σ)))))))) ++ RP κ M σ))) hW (va_free hW.2.1 hW.2.2 hA [0, 1, 2, 3, 4, 5, 6, 7] rfl) (va_runV (As := []) (rest := []) F ((m_X1_bestToMute l κ x a a2 σ br1 hI) _) (cwV 0 hts gL_law_X1_bestToMute rfl rfl rfl (by decide +kernel) ⟨(Nat.le_of_ble_eq_true rfl), (Nat.le_of_ble_eq_true rfl)⟩) (pre_V hK hW [0, 1, 2, 3, 4, 5, 6, 7] rfl (by decide) 1 0 rfl rfl) rfl rfl hl.1 rfl (lv_room (Nat.le_of_ble_eq_true rfl)) dL_law_640 ⟨(by first | exact Nat.le_of_ble_eq_true rfl | omega | (dsimp only [rm_law, rm_X1_bestToMute]; omega)), (by first | exact Nat.le_of_ble_eq_true rfl | omega | (dsimp only [rm_law, rm_X1_bestToMute]; omega))⟩) (fun u H1 locs1 g1 g2 g3 g4 => St.joinQ hW hA [0, 1, 2, 3, 4, 5, 6, 7] [8, 9, 10, 11, 12, 13, 14, 15, 16, 17, 18, 19] [12, 13, 14, 15, 16, 17, 18, 19, 0, 1, 2, 3, 4, 5, 6, 7, 8, 9, 10, 11] rfl rfl rfl (by decide) rfl rfl g1 g2 g3 g4) (by first | exact Nat.le_of_ble_eq_true rfl | omega | (dsimp only [rm_law, rm_X1_bestToMute]; omega)) (by first | exact Nat.le_of_ble_eq_true rfl | omega | (dsimp only [rm_law, rm_X1_bestToMute]; omega)) (fun r_4 u H locs hp_3 hW => ?_)
  subst hp_3
  refine lv_istore (lv' := [(16, .int (J (fm σ))), (15, .int (J (ga σ : Int))), (0, .ref b), (1, .ref x), (2, .ref q), (3, .int (J (tm : Int))), (4, .int v), (5, .long (dg σ)), (7, .int (J (nn σ : Int))), (8, .int (J (ns σ : Int))), (9, .int (J (cc2 σ : Int))), (11, .ref q1), (12, .ref q2), (13, .ref q3), (14, .int (J (hst σ)))]) hx hb dL_law_643 hl (by decide) rfl (fun ls hl => ?_)
  refine lv_iload hx hb dL_law_645 (lv_at hl 1 rfl) ?_
  refine lv_iload hx hb dL_law_647 (lv_at hl 9 rfl) ?_
  refine jv_icmp_gt hx hb 756 dL_law_649 (by decide) ⟨by omega, by omega⟩ ⟨by omega, by omega⟩ (fun h_5 => by exfalso; omega) (fun h_5 => ?_)
  refine lv_iload hx hb dL_law_652 (lv_at hl 1 rfl) ?_
  refine lv_iload hx hb dL_law_654 (lv_at hl 9 rfl) ?_
  have j677 : ∀ (H : Heap) (locs : List Loc) (ls : Array Slot), St κ A s.heap H locs ((WX κ x a a2 ++ (WC κ a σ br1 ++ (WC κ a2 τ bt ++ (WS κ q pp M (σ 5 0) (σ 5 1) (σ 5 2) ++ (WA κ q1 (nn σ) (σ 1) ++ (WA κ q2 (nn σ) (σ 0) ++ (WZ κ q3 (nn σ) (snb σ)))))))) ++ RP κ M σ) → lv_has ls 25 [(16, .int (J (fm σ))), (15, .int (J (ga σ : Int))), (0, .ref b), (1, .ref x), (2, .ref q), (3, .int (J (tm : Int))), (4, .int v), (5, .long (dg σ)), (7, .int (J (nn σ : Int))), (8, .int (J (ns σ : Int))), (9, .int (J (cc2 σ : Int))), (11, .ref q1), (12, .ref q2), (13, .ref q3), (14, .int (J (hst σ)))] → W P l e rm_law s m #[Value.ref b] below meth c H locs k0 n0 Q (F0 m 677 ls []) := by
    intro H locs ls hW hl
    refine lv_iload hx hb dL_law_677 (lv_at hl 1 rfl) ?_
    have j700 : ∀ (H : Heap) (locs : List Loc) (ls : Array Slot), St κ A s.heap H locs ((WX κ x a a2 ++ (WC κ a σ br1 ++ (WC κ a2 τ bt ++ (WS κ q pp M (σ 5 0) (σ 5 1) (σ 5 2) ++ (WA κ q1 (nn σ) (σ 1) ++ (WA κ q2 (nn σ) (σ 0) ++ (WZ κ q3 (nn σ) (snb σ)))))))) ++ RP κ M σ) → lv_has ls 25 [(16, .int (J (fm σ))), (15, .int (J (ga σ : Int))), (0, .ref b), (1, .ref x), (2, .ref q), (3, .int (J (tm : Int))), (4, .int v), (5, .long (dg σ)), (7, .int (J (nn σ : Int))), (8, .int (J (ns σ : Int))), (9, .int (J (cc2 σ : Int))), (11, .ref q1), (12, .ref q2), (13, .ref q3), (14, .int (J (hst σ)))] → W P l e rm_law s m #[Value.ref b] below meth c H locs k0 n0 Q (F0 m 700 ls []) := by
      intro H locs ls hW hl
      refine lv_iload hx hb dL_law_700 (lv_at hl 0 rfl) ?_
      have j723 : ∀ (H : Heap) (locs : List Loc) (ls : Array Slot), St κ A s.heap H locs ((WX κ x a a2 ++ (WC κ a σ br1 ++ (WC κ a2 τ bt ++ (WS κ q pp M (σ 5 0) (σ 5 1) (σ 5 2) ++ (WA κ q1 (nn σ) (σ 1) ++ (WA κ q2 (nn σ) (σ 0) ++ (WZ κ q3 (nn σ) (snb σ)))))))) ++ RP κ M σ) → lv_has ls 25 [(16, .int (J (fm σ))), (15, .int (J (ga σ : Int))), (0, .ref b), (1, .ref x), (2, .ref q), (3, .int (J (tm : Int))), (4, .int v), (5, .long (dg σ)), (7, .int (J (nn σ : Int))), (8, .int (J (ns σ : Int))), (9, .int (J (cc2 σ : Int))), (11, .ref q1), (12, .ref q2), (13, .ref q3), (14, .int (J (hst σ)))] → W P l e rm_law s m #[Value.ref b] below meth c H locs k0 n0 Q (F0 m 723 ls []) := by
        intro H locs ls hW hl
        refine lv_iload hx hb dL_law_723 (lv_at hl 0 rfl) ?_
        refine jv_if_lt hx hb 758 dL_law_725 (by decide) ⟨by omega, by omega⟩ (fun h_6 => ?_) (fun h_6 => ?_)
        · skip
          exact next758 br1 _ _ _  hW (lv_sub hl [2, 3, 4, 5, 6, 7, 8, 9, 11, 12, 13] rfl)
        · skip
          obtain ⟨b8, hb8, hs8, eb8, hmx8⟩ := (fm_in σ).resolve_left (fun h => by omega)
          refine lv_aload hx hb dL_law_728 (lv_at hl 13 rfl) ?_
          refine lv_iload hx hb dL_law_730 (lv_at hl 0 rfl) ?_
          refine jv_eq (y := (b8 : Int)) (eb8) ?_
          refine jv_zald (g := (snb σ)) hx hb hK hW 19 rfl b8 rfl (by omega) (by omega) dL_law_732 ?_
          refine jv_eq (y := bi (sn σ b8)) rfl ?_
          refine jv_ifb_eq (b := (sn σ b8)) hx hb 756 dL_law_733 (by decide) (fun h_7 => by exfalso; rw [hs8] at h_7; cases h_7) (fun h_7 => ?_)
          refine lv_iload hx hb dL_law_736 (lv_at hl 14 rfl) ?_
          refine jv_if_lt hx hb 758 dL_law_738 (by decide) ⟨by omega, by omega⟩ (fun h_8 => ?_) (fun h_8 => ?_)
          · skip
            exact next758 br1 _ _ _  hW (lv_sub hl [2, 3, 4, 5, 6, 7, 8, 9, 11, 12, 13] rfl)
          · skip
            obtain ⟨b9, hb9, eb9, ef9, hc9, hmx9⟩ := (hst_in σ).resolve_left (fun h => by omega)
            have e89 : cof σ b8 = cof σ b9 := by rw [show b8 = b9 by omega]
            have hcb8 := cof_rng hN10 b8
            have hcb9 := cof_rng hN10 b9
            refine lv_aload_n hx hb dL_law_741 rfl (lv_at hl 3 rfl) ?_
            refine lv_iload hx hb dL_law_742 (lv_at hl 0 rfl) ?_
            refine jv_eq (y := (b8 : Int)) (eb8) ?_
            refine fina_i (k := k0) (n := n0) (W2 := (fun _ => ((WX κ x a a2 ++ (WC κ a σ br1 ++ (WC κ a2 τ bt ++ (WS κ q pp M (σ 5 0) (σ 5 1) (σ 5 2) ++ (WA κ q1 (nn σ) (σ 1) ++ (WA κ q2 (nn σ) (σ 0) ++ (WZ κ q3 (nn σ) (snb σ)))))))) ++ RP κ M σ))) hW (va_free hW.2.1 hW.2.2 hA [0, 1, 2, 3, 4, 5, 6, 7] rfl) (va_runV (As := [.int (J (b8 : Int))]) (rest := []) F ((m_X1_clashesOf l κ x a a2 σ br1 b8 (by omega) hI) _) (cwV 1 hts gL_law_X1_clashesOf rfl rfl rfl (by decide +kernel) ⟨(Nat.le_of_ble_eq_true rfl), (Nat.le_of_ble_eq_true rfl)⟩) (pre_V hK hW [0, 1, 2, 3, 4, 5, 6, 7] rfl (by decide) 1 0 rfl rfl) rfl rfl hl.1 rfl (lv_room (Nat.le_of_ble_eq_true rfl)) dL_law_744 ⟨(by first | exact Nat.le_of_ble_eq_true rfl | omega | (dsimp only [rm_law, rm_X1_clashesOf]; omega)), (by first | exact Nat.le_of_ble_eq_true rfl | omega | (dsimp only [rm_law, rm_X1_clashesOf]; omega))⟩) (fun u H1 locs1 g1 g2 g3 g4 => St.joinQ hW hA [0, 1, 2, 3, 4, 5, 6, 7] [8, 9, 10, 11, 12, 13, 14, 15, 16, 17, 18, 19] [12, 13, 14, 15, 16, 17, 18, 19, 0, 1, 2, 3, 4, 5, 6, 7, 8, 9, 10, 11] rfl rfl rfl (by decide) rfl rfl g1 g2 g3 g4) (by first | exact Nat.le_of_ble_eq_true rfl | omega | (dsimp only [rm_law, rm_X1_clashesOf]; omega)) (by first | exact Nat.le_of_ble_eq_true rfl | omega | (dsimp only [rm_law, rm_X1_clashesOf]; omega)) (fun r_10 u H locs hp_9 hW => ?_)
            subst hp_9
            refine lv_aload_n hx hb dL_law_747 rfl (lv_at hl 3 rfl) ?_
            refine lv_iload hx hb dL_law_748 (lv_at hl 14 rfl) ?_
            refine jv_eq (y := (b9 : Int)) (eb9) ?_
            refine fina_i (k := k0) (n := n0) (W2 := (fun _ => ((WX κ x a a2 ++ (WC κ a σ br1 ++ (WC κ a2 τ bt ++ (WS κ q pp M (σ 5 0) (σ 5 1) (σ 5 2) ++ (WA κ q1 (nn σ) (σ 1) ++ (WA κ q2 (nn σ) (σ 0) ++ (WZ κ q3 (nn σ) (snb σ)))))))) ++ RP κ M σ))) hW (va_free hW.2.1 hW.2.2 hA [0, 1, 2, 3, 4, 5, 6, 7] rfl) (va_runV (As := [.int (J (b9 : Int))]) (rest := [.int (J (cof σ b8))]) F ((m_X1_clashesOf l κ x a a2 σ br1 b9 (by omega) hI) _) (cwV 1 hts gL_law_X1_clashesOf rfl rfl rfl (by decide +kernel) ⟨(Nat.le_of_ble_eq_true rfl), (Nat.le_of_ble_eq_true rfl)⟩) (pre_V hK hW [0, 1, 2, 3, 4, 5, 6, 7] rfl (by decide) 1 0 rfl rfl) rfl rfl hl.1 rfl (lv_room (Nat.le_of_ble_eq_true rfl)) dL_law_750 ⟨(by first | exact Nat.le_of_ble_eq_true rfl | omega | (dsimp only [rm_law, rm_X1_clashesOf]; omega)), (by first | exact Nat.le_of_ble_eq_true rfl | omega | (dsimp only [rm_law, rm_X1_clashesOf]; omega))⟩) (fun u H1 locs1 g1 g2 g3 g4 => St.joinQ hW hA [0, 1, 2, 3, 4, 5, 6, 7] [8, 9, 10, 11, 12, 13, 14, 15, 16, 17, 18, 19] [12, 13, 14, 15, 16, 17, 18, 19, 0, 1, 2, 3, 4, 5, 6, 7, 8, 9, 10, 11] rfl rfl rfl (by decide) rfl rfl g1 g2 g3 g4) (by first | exact Nat.le_of_ble_eq_true rfl | omega | (dsimp only [rm_law, rm_X1_clashesOf]; omega)) (by first | exact Nat.le_of_ble_eq_true rfl | omega | (dsimp only [rm_law, rm_X1_clashesOf]; omega)) (fun r_12 u H locs hp_11 hW => ?_)
            subst hp_11
            refine jv_icmp_eq hx hb 758 dL_law_753 (by decide) ⟨by omega, by omega⟩ ⟨by omega, by omega⟩ (fun h_13 => ?_) (fun h_13 => by exfalso; omega)
            exact next758 br1 _ _ _  hW (lv_sub hl [2, 3, 4, 5, 6, 7, 8, 9, 11, 12, 13] rfl)
      refine jv_if_ge hx hb 709 dL_law_702 (by decide) ⟨by omega, by omega⟩ (fun h_14 => ?_) (fun h_14 => ?_)
      · skip
        refine jv_iconst hx hb dL_law_709 ?_
        refine lv_iload hx hb dL_law_710 (lv_at hl 9 rfl) ?_
        refine jv_if_ne hx hb 719 dL_law_712 (by decide) ⟨by omega, by omega⟩ (fun h_15 => ?_) (fun h_15 => ?_)
        · skip
          refine jv_iconst hx hb dL_law_719 ?_
          refine jv_icmp_ne hx hb 756 dL_law_720 (by decide) ⟨by omega, by omega⟩ ⟨by omega, by omega⟩ (fun h_16 => by exfalso; omega) (fun h_16 => ?_)
          exact j723 _ _ _ hW hl
        · skip
          refine jv_iconst hx hb dL_law_715 ?_
          refine lv_goto (tgt := 720) hx hb dL_law_716 (by decide) ?_
          refine jv_icmp_ne hx hb 756 dL_law_720 (by decide) ⟨by omega, by omega⟩ ⟨by omega, by omega⟩ (fun h_17 => by exfalso; omega) (fun h_17 => ?_)
          exact j723 _ _ _ hW hl
      · skip
        refine jv_iconst hx hb dL_law_705 ?_
        refine lv_goto (tgt := 710) hx hb dL_law_706 (by decide) ?_
        refine lv_iload hx hb dL_law_710 (lv_at hl 9 rfl) ?_
        refine jv_if_ne hx hb 719 dL_law_712 (by decide) ⟨by omega, by omega⟩ (fun h_18 => ?_) (fun h_18 => ?_)
        · skip
          refine jv_iconst hx hb dL_law_719 ?_
          refine jv_icmp_ne hx hb 756 dL_law_720 (by decide) ⟨by omega, by omega⟩ ⟨by omega, by omega⟩ (fun h_19 => by exfalso; omega) (fun h_19 => ?_)
          exact j723 _ _ _ hW hl
        · skip
          refine jv_iconst hx hb dL_law_715 ?_
          refine lv_goto (tgt := 720) hx hb dL_law_716 (by decide) ?_
          refine jv_icmp_ne hx hb 756 dL_law_720 (by decide) ⟨by omega, by omega⟩ ⟨by omega, by omega⟩ (fun h_20 => by exfalso; omega) (fun h_20 => ?_)
          exact j723 _ _ _ hW hl
    refine jv_if_ne hx hb 686 dL_law_679 (by decide) ⟨by omega, by omega⟩ (fun h_21 => ?_) (fun h_21 => ?_)
    · skip
      refine jv_iconst hx hb dL_law_686 ?_
      refine lv_iload hx hb dL_law_687 (lv_at hl 9 rfl) ?_
      refine jv_if_ne hx hb 696 dL_law_689 (by decide) ⟨by omega, by omega⟩ (fun h_22 => ?_) (fun h_22 => ?_)
      · skip
        refine jv_iconst hx hb dL_law_696 ?_
        refine jv_icmp_ne hx hb 756 dL_law_697 (by decide) ⟨by omega, by omega⟩ ⟨by omega, by omega⟩ (fun h_23 => by exfalso; omega) (fun h_23 => ?_)
        exact j700 _ _ _ hW hl
      · skip
        refine jv_iconst hx hb dL_law_692 ?_
        refine lv_goto (tgt := 697) hx hb dL_law_693 (by decide) ?_
        refine jv_icmp_ne hx hb 756 dL_law_697 (by decide) ⟨by omega, by omega⟩ ⟨by omega, by omega⟩ (fun h_24 => by exfalso; omega) (fun h_24 => ?_)
        exact j700 _ _ _ hW hl
    · skip
      refine jv_iconst hx hb dL_law_682 ?_
      refine lv_goto (tgt := 687) hx hb dL_law_683 (by decide) ?_
      refine lv_iload hx hb dL_law_687 (lv_at hl 9 rfl) ?_
      refine jv_if_ne hx hb 696 dL_law_689 (by decide) ⟨by omega, by omega⟩ (fun h_25 => ?_) (fun h_25 => ?_)
      · skip
        refine jv_iconst hx hb dL_law_696 ?_
        refine jv_icmp_ne hx hb 756 dL_law_697 (by decide) ⟨by omega, by omega⟩ ⟨by omega, by omega⟩ (fun h_26 => by exfalso; omega) (fun h_26 => ?_)
        exact j700 _ _ _ hW hl
      · skip
        refine jv_iconst hx hb dL_law_692 ?_
        refine lv_goto (tgt := 697) hx hb dL_law_693 (by decide) ?_
        refine jv_icmp_ne hx hb 756 dL_law_697 (by decide) ⟨by omega, by omega⟩ ⟨by omega, by omega⟩ (fun h_27 => by exfalso; omega) (fun h_27 => ?_)
        exact j700 _ _ _ hW hl
  refine jv_icmp_ne hx hb 663 dL_law_656 (by decide) ⟨by omega, by omega⟩ ⟨by omega, by omega⟩ (fun h_28 => ?_) (fun h_28 => ?_)
  · skip
    refine jv_iconst hx hb dL_law_663 ?_
    refine lv_iload hx hb dL_law_664 (lv_at hl 10 rfl) ?_
    refine jv_if_ne hx hb 673 dL_law_666 (by decide) ⟨by omega, by omega⟩ (fun h_29 => ?_) (fun h_29 => ?_)
    · skip
      refine jv_iconst hx hb dL_law_673 ?_
      refine jv_icmp_ne hx hb 756 dL_law_674 (by decide) ⟨by omega, by omega⟩ ⟨by omega, by omega⟩ (fun h_30 => by exfalso; omega) (fun h_30 => ?_)
      exact j677 _ _ _ hW hl
    · skip
      refine jv_iconst hx hb dL_law_669 ?_
      refine lv_goto (tgt := 674) hx hb dL_law_670 (by decide) ?_
      refine jv_icmp_ne hx hb 756 dL_law_674 (by decide) ⟨by omega, by omega⟩ ⟨by omega, by omega⟩ (fun h_31 => by exfalso; omega) (fun h_31 => ?_)
      exact j677 _ _ _ hW hl
  · skip
    refine jv_iconst hx hb dL_law_659 ?_
    refine lv_goto (tgt := 664) hx hb dL_law_660 (by decide) ?_
    refine lv_iload hx hb dL_law_664 (lv_at hl 10 rfl) ?_
    refine jv_if_ne hx hb 673 dL_law_666 (by decide) ⟨by omega, by omega⟩ (fun h_32 => ?_) (fun h_32 => ?_)
    · skip
      refine jv_iconst hx hb dL_law_673 ?_
      refine jv_icmp_ne hx hb 756 dL_law_674 (by decide) ⟨by omega, by omega⟩ ⟨by omega, by omega⟩ (fun h_33 => by exfalso; omega) (fun h_33 => ?_)
      exact j677 _ _ _ hW hl
    · skip
      refine jv_iconst hx hb dL_law_669 ?_
      refine lv_goto (tgt := 674) hx hb dL_law_670 (by decide) ?_
      refine jv_icmp_ne hx hb 756 dL_law_674 (by decide) ⟨by omega, by omega⟩ ⟨by omega, by omega⟩ (fun h_34 => by exfalso; omega) (fun h_34 => ?_)
      exact j677 _ _ _ hW hl
