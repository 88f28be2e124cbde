set_option maxHeartbeats 4000000 in
set_option maxRecDepth 100000 in
/-- the law: the best tuning -/
theorem law_D {P : Program} {l : Launch} {e : Env} {s : State} {m : MethodId} {below : List Frame} {meth : Method} {c : Code} {Q : State → Prop} {b L : Nat} {xs : Nat → Int32} {κ : Kp} {A : Nat → Prop} (F : CallFix P m c cL_law 25 s #[Value.ref b] wsL_law RL) (hK : Kx κ s) (hA : ∀ q, s.heap.size ≤ q → A q) (hX : va_X b L xs s s.heap) (hbl : b < s.heap.size) (hbA : ¬ A b) (hL : L ≤ 2048) {x q pp : Nat} {a a2 : Nat → Nat} {M : List Nat} {σ τ : Sg} {br bt : Nat → Int} {tm : Nat} (htm : tm < 10) {v : Int32} {k0 n0 : Nat} (hk0 : k0 + 20 ≤ 600130) (hn0 : n0 + 200 ≤ 7301080) (hG : Gd σ M) (hp0 : 0 < nn σ) (hB : σ 5 0 ≤ 900000) (hC : σ 5 1 ≤ 900000) {q1 q2 q3 : Nat}
    (next987 : ∀ (br1 : Nat → Int) (τ1 : Sg) (H : Heap) (locs : List Loc) (ls : Array Slot), St κ A s.heap H locs ((WX κ x a a2 ++ (WC κ a σ br1 ++ (WC κ a2 τ1 bt ++ (WS κ q pp M (σ 5 0) (σ 5 1) (σ 5 2) ++ (WA κ q1 (nn σ) (σ 1) ++ (WA κ q2 (nn σ) (σ 0) ++ (WZ κ q3 (nn σ) (snb σ)))))))) ++ RP κ M σ) → lv_has ls 25 [(0, .ref b), (1, .ref x), (2, .ref q), (3, .int (J (tm : Int))), (7, .int (J (nn σ : Int))), (8, .int (J (ns σ : Int))), (11, .ref q1), (12, .ref q2), (13, .ref q3)] → W P l e rm_law s m #[Value.ref b] below meth c H locs k0 n0 Q (F0 m 987 ls []))
    {H : Heap} {locs : List Loc} {ls : Array Slot} (hW : St κ A s.heap H locs ((WX κ x a a2 ++ (WC κ a σ br ++ (WC κ a2 τ bt ++ (WS κ q pp M (σ 5 0) (σ 5 1) (σ 5 2) ++ (WA κ q1 (nn σ) (σ 1) ++ (WA κ q2 (nn σ) (σ 0) ++ (WZ κ q3 (nn σ) (snb σ)))))))) ++ RP κ M σ)) (hl : lv_has ls 25 [(0, .ref b), (1, .ref x), (2, .ref q), (3, .int (J (tm : Int))), (4, .int v), (5, .long (dg σ)), (7, .int (J (nn σ : Int))), (8, .int (J (ns σ : Int))), (11, .ref q1), (12, .ref q2), (13, .ref q3)]) : W P l e rm_law s m #[Value.ref b] below meth c H locs k0 n0 Q (F0 m 758 ls []) := by
  obtain ⟨hx, hb, hml, hown, hts⟩ := id F
  have hI := hG.1
  have hLn := hG.2.1
  have hN := hI.hN
  have hN10 := hI.n10
  have hnn := hI.1
  have hb50 := hI.2.1
  have hb51 := hI.2.2.1
  refine lv_iload hx hb dL_law_758 (lv_at hl 4 rfl) ?_
  refine jv_iconst hx hb dL_law_760 ?_
  refine lv_ishr hx hb dL_law_761 ?_
  refine lv_iload hx hb dL_law_762 (lv_at hl 6 rfl) ?_
  refine fina_i (k := k0) (n := n0) (W2 := (fun z_1 => ((WX κ x a a2 ++ (WC κ a σ br ++ (WC κ a2 τ bt ++ (WS κ q pp M (σ 5 0) (σ 5 1) (σ 5 2) ++ (WA κ q1 (nn σ) (σ 1) ++ (WA κ q2 (nn σ) (σ 0) ++ (WZ κ q3 (nn σ) (snb σ)))))))) ++ RP κ M σ))) hW (va_free hW.2.1 hW.2.2 hA [] rfl) (va_runS (As := [.int (v >>> ((J 3) &&& 31)), .int (J (nn σ : Int))]) (rest := []) F ((m_L_below l κ (v >>> ((J 3) &&& 31)) (nn σ) ⟨by omega, by omega⟩) _) (va_cwS 2 hts gL_law_L_below rfl rfl rfl (by decide +kernel) ⟨(Nat.le_of_ble_eq_true rfl), (Nat.le_of_ble_eq_true rfl)⟩) (pre_S hK hW [] rfl (by decide)) rfl rfl hl.1 rfl (lv_room (Nat.le_of_ble_eq_true rfl)) dL_law_764 ⟨(by first | exact Nat.le_of_ble_eq_true rfl | omega | (dsimp only [rm_law, rm_L_below]; omega)), (by first | exact Nat.le_of_ble_eq_true rfl | omega | (dsimp only [rm_law, rm_L_below]; omega))⟩) (fun u H1 locs1 g1 g2 g3 g4 => St.joinQ hW hA [] [0, 1, 2, 3, 4, 5, 6, 7, 8, 9, 10, 11, 12, 13, 14, 15, 16, 17, 18, 19] [0, 1, 2, 3, 4, 5, 6, 7, 8, 9, 10, 11, 12, 13, 14, 15, 16, 17, 18, 19] rfl rfl rfl (by decide) rfl rfl g1 g2 g3 g4) (by first | exact Nat.le_of_ble_eq_true rfl | omega | (dsimp only [rm_law, rm_L_below]; omega)) (by first | exact Nat.le_of_ble_eq_true rfl | omega | (dsimp only [rm_law, rm_L_below]; omega)) (fun r_3 z_1 H locs hp_2 hW => ?_)
  obtain ⟨rfl, hz_1⟩ := hp_2
  refine lv_istore (lv' := [(17, .int (J (z_1 : Int))), (0, .ref b), (1, .ref x), (2, .ref q), (3, .int (J (tm : Int))), (4, .int v), (5, .long (dg σ)), (7, .int (J (nn σ : Int))), (8, .int (J (ns σ : Int))), (11, .ref q1), (12, .ref q2), (13, .ref q3)]) hx hb dL_law_767 hl (by decide) rfl (fun ls hl => ?_)
  refine lv_aload_n hx hb dL_law_769 rfl (lv_at hl 2 rfl) ?_
  refine lv_iload hx hb dL_law_770 (lv_at hl 0 rfl) ?_
  refine fina_i (k := k0) (n := n0) (W2 := (fun _ => ((WX κ x a a2 ++ (WC κ a σ br ++ (WC κ a2 τ bt ++ (WS κ q pp M (σ 5 0) (σ 5 1) (σ 5 2) ++ (WA κ q1 (nn σ) (σ 1) ++ (WA κ q2 (nn σ) (σ 0) ++ (WZ κ q3 (nn σ) (snb σ)))))))) ++ RP κ M σ))) hW (va_free hW.2.1 hW.2.2 hA [0, 1, 2, 3, 4, 5, 6, 7] rfl) (va_runV (As := [.int (J (z_1 : Int))]) (rest := []) F ((m_X1_bestTuning l κ x a a2 σ br z_1 (by omega) hI) _) (cwV 1 hts gL_law_X1_bestTuning rfl rfl rfl (by decide +kernel) ⟨(Nat.le_of_ble_eq_true rfl), (Nat.le_of_ble_eq_true rfl)⟩) (pre_V hK hW [0, 1, 2, 3, 4, 5, 6, 7] rfl (by decide) 1 0 rfl rfl) rfl rfl hl.1 rfl (lv_room (Nat.le_of_ble_eq_true rfl)) dL_law_772 ⟨(by first | exact Nat.le_of_ble_eq_true rfl | omega | (dsimp only [rm_law, rm_X1_bestTuning]; omega)), (by first | exact Nat.le_of_ble_eq_true rfl | omega | (dsimp only [rm_law, rm_X1_bestTuning]; omega))⟩) (fun u H1 locs1 g1 g2 g3 g4 => St.joinQ hW hA [0, 1, 2, 3, 4, 5, 6, 7] [8, 9, 10, 11, 12, 13, 14, 15, 16, 17, 18, 19] [12, 13, 14, 15, 16, 17, 18, 19, 0, 1, 2, 3, 4, 5, 6, 7, 8, 9, 10, 11] rfl rfl rfl (by decide) rfl rfl g1 g2 g3 g4) (by first | exact Nat.le_of_ble_eq_true rfl | omega | (dsimp only [rm_law, rm_X1_bestTuning]; omega)) (by first | exact Nat.le_of_ble_eq_true rfl | omega | (dsimp only [rm_law, rm_X1_bestTuning]; omega)) (fun r_5 u H locs hp_4 hW => ?_)
  subst hp_4
  refine lv_istore (lv' := [(18, .int (J (btu σ z_1))), (17, .int (J (z_1 : Int))), (0, .ref b), (1, .ref x), (2, .ref q), (3, .int (J (tm : Int))), (4, .int v), (5, .long (dg σ)), (7, .int (J (nn σ : Int))), (8, .int (J (ns σ : Int))), (11, .ref q1), (12, .ref q2), (13, .ref q3)]) hx hb dL_law_775 hl (by decide) rfl (fun ls hl => ?_)
  have hbt := btu_in hI (p := z_1) (by omega)
  have hbp := hI.at z_1 (by omega)
  refine lv_iload hx hb dL_law_777 (lv_at hl 6 rfl) ?_
  refine jv_iconst hx hb dL_law_779 ?_
  refine lv_ishr hx hb dL_law_780 ?_
  refine jv_bipush hx hb 25 dL_law_781 (by decide +kernel) ?_
  refine fina_i (k := k0) (n := n0) (W2 := (fun z_6 => ((WX κ x a a2 ++ (WC κ a σ br ++ (WC κ a2 τ bt ++ (WS κ q pp M (σ 5 0) (σ 5 1) (σ 5 2) ++ (WA κ q1 (nn σ) (σ 1) ++ (WA κ q2 (nn σ) (σ 0) ++ (WZ κ q3 (nn σ) (snb σ)))))))) ++ RP κ M σ))) hW (va_free hW.2.1 hW.2.2 hA [] rfl) (va_runS (As := [.int (v >>> ((J 5) &&& 31)), .int (J 25)]) (rest := []) F ((m_L_below l κ (v >>> ((J 5) &&& 31)) 25 ⟨by omega, by omega⟩) _) (va_cwS 2 hts gL_law_L_below rfl rfl rfl (by decide +kernel) ⟨(Nat.le_of_ble_eq_true rfl), (Nat.le_of_ble_eq_true rfl)⟩) (pre_S hK hW [] rfl (by decide)) rfl rfl hl.1 rfl (lv_room (Nat.le_of_ble_eq_true rfl)) dL_law_783 ⟨(by first | exact Nat.le_of_ble_eq_true rfl | omega | (dsimp only [rm_law, rm_L_below]; omega)), (by first | exact Nat.le_of_ble_eq_true rfl | omega | (dsimp only [rm_law, rm_L_below]; omega))⟩) (fun u H1 locs1 g1 g2 g3 g4 => St.joinQ hW hA [] [0, 1, 2, 3, 4, 5, 6, 7, 8, 9, 10, 11, 12, 13, 14, 15, 16, 17, 18, 19] [0, 1, 2, 3, 4, 5, 6, 7, 8, 9, 10, 11, 12, 13, 14, 15, 16, 17, 18, 19] rfl rfl rfl (by decide) rfl rfl g1 g2 g3 g4) (by first | exact Nat.le_of_ble_eq_true rfl | omega | (dsimp only [rm_law, rm_L_below]; omega)) (by first | exact Nat.le_of_ble_eq_true rfl | omega | (dsimp only [rm_law, rm_L_below]; omega)) (fun r_8 z_6 H locs hp_7 hW => ?_)
  obtain ⟨rfl, hz_6⟩ := hp_7
  refine jv_bipush hx hb 12 dL_law_786 (by decide +kernel) ?_
  refine jv_isub hx hb dL_law_788 ?_
  refine lv_istore (lv' := [(19, .int (J ((z_6 : Int) - 12))), (18, .int (J (btu σ z_1))), (17, .int (J (z_1 : Int))), (0, .ref b), (1, .ref x), (2, .ref q), (3, .int (J (tm : Int))), (4, .int v), (5, .long (dg σ)), (7, .int (J (nn σ : Int))), (8, .int (J (ns σ : Int))), (11, .ref q1), (12, .ref q2), (13, .ref q3)]) hx hb dL_law_789 hl (by decide) rfl (fun ls hl => ?_)
  refine lv_iload hx hb dL_law_791 (lv_at hl 1 rfl) ?_
  refine jv_bipush hx hb (-12) dL_law_793 (by decide +kernel) ?_
  refine jv_icmp_lt hx hb 839 dL_law_795 (by decide) ⟨by omega, by omega⟩ ⟨by omega, by omega⟩ (fun h_9 => by exfalso; omega) (fun h_9 => ?_)
  refine lv_iload hx hb dL_law_798 (lv_at hl 1 rfl) ?_
  refine jv_bipush hx hb 12 dL_law_800 (by decide +kernel) ?_
  refine jv_icmp_gt hx hb 839 dL_law_802 (by decide) ⟨by omega, by omega⟩ ⟨by omega, by omega⟩ (fun h_10 => by exfalso; omega) (fun h_10 => ?_)
  refine lv_aload hx hb dL_law_805 (lv_at hl 12 rfl) ?_
  refine lv_iload hx hb dL_law_807 (lv_at hl 2 rfl) ?_
  refine jv_iald (g := (σ 0)) hx hb hK hW 18 rfl z_1 rfl (by omega) (by omega) dL_law_809 ?_
  refine lv_iload hx hb dL_law_810 (lv_at hl 1 rfl) ?_
  refine jv_iadd hx hb dL_law_812 ?_
  refine jv_if_lt hx hb 839 dL_law_813 (by decide) ⟨by omega, by omega⟩ (fun h_11 => by exfalso; omega) (fun h_11 => ?_)
  refine lv_aload hx hb dL_law_816 (lv_at hl 12 rfl) ?_
  refine lv_iload hx hb dL_law_818 (lv_at hl 2 rfl) ?_
  refine jv_iald (g := (σ 0)) hx hb hK hW 18 rfl z_1 rfl (by omega) (by omega) dL_law_820 ?_
  refine lv_iload hx hb dL_law_821 (lv_at hl 1 rfl) ?_
  refine jv_iadd hx hb dL_law_823 ?_
  refine jv_bipush hx hb 35 dL_law_824 (by decide +kernel) ?_
  refine jv_icmp_gt hx hb 839 dL_law_826 (by decide) ⟨by omega, by omega⟩ ⟨by omega, by omega⟩ (fun h_12 => by exfalso; omega) (fun h_12 => ?_)
  refine lv_aload_n hx hb dL_law_829 rfl (lv_at hl 4 rfl) ?_
  refine fina_l (k := k0) (n := n0) (W2 := (fun ud => ((WX κ x a a2 ++ (WC κ a σ ud.2 ++ (WC κ a2 ud.1 bt ++ (WS κ q pp M (σ 5 0) (σ 5 1) (σ 5 2) ++ (WA κ q1 (nn σ) (σ 1) ++ (WA κ q2 (nn σ) (σ 0) ++ (WZ κ q3 (nn σ) (snb σ)))))))) ++ RP κ M σ))) hW (va_free hW.2.1 hW.2.2 hA [0, 1, 2, 3, 4, 5, 6, 7, 8, 9, 10, 11, 12, 13, 14] rfl) (va_runV (As := []) (rest := []) F ((m_X1_digest l κ x a a2 σ br τ bt hI (by omega) (by omega)) _) (cwV 0 hts gL_law_X1_digest rfl rfl rfl (by decide +kernel) ⟨(Nat.le_of_ble_eq_true rfl), (Nat.le_of_ble_eq_true rfl)⟩) (pre_V hK hW [0, 1, 2, 3, 4, 5, 6, 7, 8, 9, 10, 11, 12, 13, 14] rfl (by decide) 1 0 rfl rfl) rfl rfl hl.1 rfl (lv_room (Nat.le_of_ble_eq_true rfl)) dL_law_830 ⟨(by first | exact Nat.le_of_ble_eq_true rfl | omega | (dsimp only [rm_law, rm_X1_digest]; omega)), (by first | exact Nat.le_of_ble_eq_true rfl | omega | (dsimp only [rm_law, rm_X1_digest]; omega))⟩) (fun u H1 locs1 g1 g2 g3 g4 => St.joinQ hW hA [0, 1, 2, 3, 4, 5, 6, 7, 8, 9, 10, 11, 12, 13, 14] [15, 16, 17, 18, 19] [5, 6, 7, 8, 9, 10, 11, 12, 13, 14, 15, 16, 17, 18, 19, 0, 1, 2, 3, 4] rfl rfl rfl (by decide) rfl rfl g1 g2 g3 g4) (by first | exact Nat.le_of_ble_eq_true rfl | omega | (dsimp only [rm_law, rm_X1_digest]; omega)) (by first | exact Nat.le_of_ble_eq_true rfl | omega | (dsimp only [rm_law, rm_X1_digest]; omega)) (fun r_14 ud H locs hp_13 hW => ?_)
  subst hp_13
  refine lv_lload hx hb dL_law_833 (lv_at hl 8 rfl) ?_
  refine jv_lcmp hx hb rfl dL_law_835 ?_
  refine jv_if_eq hx hb 841 dL_law_836 (by decide) ⟨by omega, by omega⟩ (fun h => ?_) (fun h => by exfalso; omega)
  refine lv_aload hx hb dL_law_841 (lv_at hl 12 rfl) ?_
  refine lv_iload hx hb dL_law_843 (lv_at hl 2 rfl) ?_
  refine jv_iald (g := (σ 0)) hx hb hK hW 18 rfl z_1 rfl (by omega) (by omega) dL_law_845 ?_
  refine lv_iload hx hb dL_law_846 (lv_at hl 0 rfl) ?_
  refine jv_iadd hx hb dL_law_848 ?_
  refine jv_if_lt hx hb 987 dL_law_849 (by decide) ⟨by omega, by omega⟩ (fun h_15 => ?_) (fun h_15 => ?_)
  · skip
    exact next987 ud.2 ud.1 _ _ _  hW (lv_sub hl [3, 4, 5, 6, 9, 10, 11, 12, 13] rfl)
  · skip
    refine lv_aload hx hb dL_law_852 (lv_at hl 12 rfl) ?_
    refine lv_iload hx hb dL_law_854 (lv_at hl 2 rfl) ?_
    refine jv_iald (g := (σ 0)) hx hb hK hW 18 rfl z_1 rfl (by omega) (by omega) dL_law_856 ?_
    refine lv_iload hx hb dL_law_857 (lv_at hl 0 rfl) ?_
    refine jv_iadd hx hb dL_law_859 ?_
    refine jv_bipush hx hb 35 dL_law_860 (by decide +kernel) ?_
    refine jv_icmp_gt hx hb 987 dL_law_862 (by decide) ⟨by omega, by omega⟩ ⟨by omega, by omega⟩ (fun h_16 => ?_) (fun h_16 => ?_)
    · skip
      exact next987 ud.2 ud.1 _ _ _  hW (lv_sub hl [3, 4, 5, 6, 9, 10, 11, 12, 13] rfl)
    · skip
      refine lv_aload_n hx hb dL_law_865 rfl (lv_at hl 4 rfl) ?_
      refine lv_iload hx hb dL_law_866 (lv_at hl 2 rfl) ?_
      refine lv_iload hx hb dL_law_868 (lv_at hl 1 rfl) ?_
      refine fina_i (k := k0) (n := n0) (W2 := (fun _ => ((WX κ x a a2 ++ (WC κ a (up σ 0 z_1 (σ 0 z_1 + (btu σ z_1))) ud.2 ++ (WC κ a2 ud.1 bt ++ (WS κ q pp M (σ 5 0) (σ 5 1) (σ 5 2) ++ (WA κ q1 (nn σ) (σ 1) ++ (WA κ q2 (nn σ) (σ 0) ++ (WZ κ q3 (nn σ) (snb σ)))))))) ++ RP κ M σ))) hW (va_free hW.2.1 hW.2.2 hA [0, 1, 2, 3, 4, 5, 6, 7] rfl) (va_runV (As := [.int (J (z_1 : Int)), .int (J (btu σ z_1))]) (rest := []) F ((m_X1_tune l κ x a a2 σ ud.2 z_1 (btu σ z_1) (by omega) (by omega) (by omega) hI) _) (cwV 2 hts gL_law_X1_tune rfl rfl rfl (by decide +kernel) ⟨(Nat.le_of_ble_eq_true rfl), (Nat.le_of_ble_eq_true rfl)⟩) (pre_V hK hW [0, 1, 2, 3, 4, 5, 6, 7] rfl (by decide) 1 0 rfl rfl) rfl rfl hl.1 rfl (lv_room (Nat.le_of_ble_eq_true rfl)) dL_law_870 ⟨(by first | exact Nat.le_of_ble_eq_true rfl | omega | (dsimp only [rm_law, rm_X1_tune]; omega)), (by first | exact Nat.le_of_ble_eq_true rfl | omega | (dsimp only [rm_law, rm_X1_tune]; omega))⟩) (fun u H1 locs1 g1 g2 g3 g4 => St.joinQ hW hA [0, 1, 2, 3, 4, 5, 6, 7] [8, 9, 10, 11, 12, 13, 14, 15, 16, 17, 18, 19] [12, 13, 14, 15, 16, 17, 18, 19, 0, 1, 2, 3, 4, 5, 6, 7, 8, 9, 10, 11] rfl rfl rfl (by decide) rfl rfl g1 g2 g3 g4) (by first | exact Nat.le_of_ble_eq_true rfl | omega | (dsimp only [rm_law, rm_X1_tune]; omega)) (by first | exact Nat.le_of_ble_eq_true rfl | omega | (dsimp only [rm_law, rm_X1_tune]; omega)) (fun r_18 u H locs hp_17 hW => ?_)
      subst hp_17
      have hI1 : Inv (up σ 0 z_1 (σ 0 z_1 + (btu σ z_1))) := hI.u0 (by omega)
      have hr1 := hm_rng (σ := (up σ 0 z_1 (σ 0 z_1 + (btu σ z_1)))) hN10
      have h53_1 : (up σ 0 z_1 (σ 0 z_1 + (btu σ z_1))) 5 3 = σ 5 3 := rfl
      refine lv_pop hx hb dL_law_873 rfl ?_
      refine lv_aload_n hx hb dL_law_874 rfl (lv_at hl 4 rfl) ?_
      refine fina_i (k := k0) (n := n0) (W2 := (fun _ => ((WX κ x a a2 ++ (WC κ a (up σ 0 z_1 (σ 0 z_1 + (btu σ z_1))) ud.2 ++ (WC κ a2 ud.1 bt ++ (WS κ q pp M (σ 5 0) (σ 5 1) (σ 5 2) ++ (WA κ q1 (nn σ) (σ 1) ++ (WA κ q2 (nn σ) (σ 0) ++ (WZ κ q3 (nn σ) (snb σ)))))))) ++ RP κ M σ))) hW (va_free hW.2.1 hW.2.2 hA [0, 1, 2, 3, 4, 5, 6, 7] rfl) (va_runV (As := []) (rest := []) F ((m_X1_harmony l κ x a a2 (up σ 0 z_1 (σ 0 z_1 + (btu σ z_1))) ud.2 hI1) _) (cwV 0 hts gL_law_X1_harmony rfl rfl rfl (by decide +kernel) ⟨(Nat.le_of_ble_eq_true rfl), (Nat.le_of_ble_eq_true rfl)⟩) (pre_V hK hW [0, 1, 2, 3, 4, 5, 6, 7] rfl (by decide) 1 0 rfl rfl) rfl rfl hl.1 rfl (lv_room (Nat.le_of_ble_eq_true rfl)) dL_law_875 ⟨(by first | exact Nat.le_of_ble_eq_true rfl | omega | (dsimp only [rm_law, rm_X1_harmony]; omega)), (by first | exact Nat.le_of_ble_eq_true rfl | omega | (dsimp only [rm_law, rm_X1_harmony]; omega))⟩) (fun u H1 locs1 g1 g2 g3 g4 => St.joinQ hW hA [0, 1, 2, 3, 4, 5, 6, 7] [8, 9, 10, 11, 12, 13, 14, 15, 16, 17, 18, 19] [12, 13, 14, 15, 16, 17, 18, 19, 0, 1, 2, 3, 4, 5, 6, 7, 8, 9, 10, 11] rfl rfl rfl (by decide) rfl rfl g1 g2 g3 g4) (by first | exact Nat.le_of_ble_eq_true rfl | omega | (dsimp only [rm_law, rm_X1_harmony]; omega)) (by first | exact Nat.le_of_ble_eq_true rfl | omega | (dsimp only [rm_law, rm_X1_harmony]; omega)) (fun r_20 u H locs hp_19 hW => ?_)
      subst hp_19
      refine lv_istore (lv' := [(20, .int (J (hm (up σ 0 z_1 (σ 0 z_1 + (btu σ z_1)))))), (19, .int (J ((z_6 : Int) - 12))), (18, .int (J (btu σ z_1))), (17, .int (J (z_1 : Int))), (0, .ref b), (1, .ref x), (2, .ref q), (3, .int (J (tm : Int))), (4, .int v), (5, .long (dg σ)), (7, .int (J (nn σ : Int))), (8, .int (J (ns σ : Int))), (11, .ref q1), (12, .ref q2), (13, .ref q3)]) hx hb dL_law_878 hl (by decide) rfl (fun ls hl => ?_)
      refine lv_aload_n hx hb dL_law_880 rfl (lv_at hl 5 rfl) ?_
      refine lv_iload hx hb dL_law_881 (lv_at hl 3 rfl) ?_
      refine lv_iload hx hb dL_law_883 (lv_at hl 2 rfl) ?_
      refine jv_ineg hx hb dL_law_885 ?_
      refine fina_i (k := k0) (n := n0) (W2 := (fun _ => ((WX κ x a a2 ++ (WC κ a (up (up σ 0 z_1 (σ 0 z_1 + (btu σ z_1))) 0 z_1 ((up σ 0 z_1 (σ 0 z_1 + (btu σ z_1))) 0 z_1 + (-(btu σ z_1)))) ud.2 ++ (WC κ a2 ud.1 bt ++ (WS κ q pp M (σ 5 0) (σ 5 1) (σ 5 2) ++ (WA κ q1 (nn σ) (σ 1) ++ (WA κ q2 (nn σ) (σ 0) ++ (WZ κ q3 (nn σ) (snb σ)))))))) ++ RP κ M σ))) hW (va_free hW.2.1 hW.2.2 hA [0, 1, 2, 3, 4, 5, 6, 7] rfl) (va_runV (As := [.int (J (z_1 : Int)), .int (J (-(btu σ z_1)))]) (rest := []) F ((m_X1_tune l κ x a a2 (up σ 0 z_1 (σ 0 z_1 + (btu σ z_1))) ud.2 z_1 (-(btu σ z_1)) (by omega) (by omega) (by rw [show (up σ 0 z_1 (σ 0 z_1 + (btu σ z_1))) 0 z_1 = σ 0 z_1 + (btu σ z_1) from upi_s _ _ _]; omega) hI1) _) (cwV 2 hts gL_law_X1_tune rfl rfl rfl (by decide +kernel) ⟨(Nat.le_of_ble_eq_true rfl), (Nat.le_of_ble_eq_true rfl)⟩) (pre_V hK hW [0, 1, 2, 3, 4, 5, 6, 7] rfl (by decide) 1 0 rfl rfl) rfl rfl hl.1 rfl (lv_room (Nat.le_of_ble_eq_true rfl)) dL_law_886 ⟨(by first | exact Nat.le_of_ble_eq_true rfl | omega | (dsimp only [rm_law, rm_X1_tune]; omega)), (by first | exact Nat.le_of_ble_eq_true rfl | omega | (dsimp only [rm_law, rm_X1_tune]; omega))⟩) (fun u H1 locs1 g1 g2 g3 g4 => St.joinQ hW hA [0, 1, 2, 3, 4, 5, 6, 7] [8, 9, 10, 11, 12, 13, 14, 15, 16, 17, 18, 19] [12, 13, 14, 15, 16, 17, 18, 19, 0, 1, 2, 3, 4, 5, 6, 7, 8, 9, 10, 11] rfl rfl rfl (by decide) rfl rfl g1 g2 g3 g4) (by first | exact Nat.le_of_ble_eq_true rfl | omega | (dsimp only [rm_law, rm_X1_tune]; omega)) (by first | exact Nat.le_of_ble_eq_true rfl | omega | (dsimp only [rm_law, rm_X1_tune]; omega)) (fun r_22 u H locs hp_21 hW => ?_)
      subst hp_21
      have e1 : (up σ 0 z_1 (σ 0 z_1 + (btu σ z_1))) 0 z_1 + (-(btu σ z_1)) = σ 0 z_1 := by rw [show (up σ 0 z_1 (σ 0 z_1 + (btu σ z_1))) 0 z_1 = σ 0 z_1 + (btu σ z_1) from upi_s _ _ _]; omega
      refine jv_eq (y := σ 0 z_1) e1 ?_
      have hW : St κ A s.heap H locs ((WX κ x a a2 ++ (WC κ a σ ud.2 ++ (WC κ a2 ud.1 bt ++ (WS κ q pp M (σ 5 0) (σ 5 1) (σ 5 2) ++ (WA κ q1 (nn σ) (σ 1) ++ (WA κ q2 (nn σ) (σ 0) ++ (WZ κ q3 (nn σ) (snb σ)))))))) ++ RP κ M σ) := by rw [tune_back e1] at hW; exact hW
      refine lv_istore (lv' := [(21, .int (J (σ 0 z_1))), (20, .int (J (hm (up σ 0 z_1 (σ 0 z_1 + (btu σ z_1)))))), (19, .int (J ((z_6 : Int) - 12))), (18, .int (J (btu σ z_1))), (17, .int (J (z_1 : Int))), (0, .ref b), (1, .ref x), (2, .ref q), (3, .int (J (tm : Int))), (4, .int v), (5, .long (dg σ)), (7, .int (J (nn σ : Int))), (8, .int (J (ns σ : Int))), (11, .ref q1), (12, .ref q2), (13, .ref q3)]) hx hb dL_law_889 hl (by decide) rfl (fun ls hl => ?_)
      refine lv_aload_n hx hb dL_law_891 rfl (lv_at hl 6 rfl) ?_
      refine lv_iload hx hb dL_law_892 (lv_at hl 4 rfl) ?_
      refine lv_iload hx hb dL_law_894 (lv_at hl 2 rfl) ?_
      refine fina_i (k := k0) (n := n0) (W2 := (fun _ => ((WX κ x a a2 ++ (WC κ a (up σ 0 z_1 (σ 0 z_1 + ((z_6 : Int) - 12))) ud.2 ++ (WC κ a2 ud.1 bt ++ (WS κ q pp M (σ 5 0) (σ 5 1) (σ 5 2) ++ (WA κ q1 (nn σ) (σ 1) ++ (WA κ q2 (nn σ) (σ 0) ++ (WZ κ q3 (nn σ) (snb σ)))))))) ++ RP κ M σ))) hW (va_free hW.2.1 hW.2.2 hA [0, 1, 2, 3, 4, 5, 6, 7] rfl) (va_runV (As := [.int (J (z_1 : Int)), .int (J ((z_6 : Int) - 12))]) (rest := []) F ((m_X1_tune l κ x a a2 σ ud.2 z_1 ((z_6 : Int) - 12) (by omega) (by omega) (by omega) hI) _) (cwV 2 hts gL_law_X1_tune rfl rfl rfl (by decide +kernel) ⟨(Nat.le_of_ble_eq_true rfl), (Nat.le_of_ble_eq_true rfl)⟩) (pre_V hK hW [0, 1, 2, 3, 4, 5, 6, 7] rfl (by decide) 1 0 rfl rfl) rfl rfl hl.1 rfl (lv_room (Nat.le_of_ble_eq_true rfl)) dL_law_896 ⟨(by first | exact Nat.le_of_ble_eq_true rfl | omega | (dsimp only [rm_law, rm_X1_tune]; omega)), (by first | exact Nat.le_of_ble_eq_true rfl | omega | (dsimp only [rm_law, rm_X1_tune]; omega))⟩) (fun u H1 locs1 g1 g2 g3 g4 => St.joinQ hW hA [0, 1, 2, 3, 4, 5, 6, 7] [8, 9, 10, 11, 12, 13, 14, 15, 16, 17, 18, 19] [12, 13, 14, 15, 16, 17, 18, 19, 0, 1, 2, 3, 4, 5, 6, 7, 8, 9, 10, 11] rfl rfl rfl (by decide) rfl rfl g1 g2 g3 g4) (by first | exact Nat.le_of_ble_eq_true rfl | omega | (dsimp only [rm_law, rm_X1_tune]; omega)) (by first | exact Nat.le_of_ble_eq_true rfl | omega | (dsimp only [rm_law, rm_X1_tune]; omega)) (fun r_24 u H locs hp_23 hW => ?_)
      subst hp_23
      have hI2 : Inv (up σ 0 z_1 (σ 0 z_1 + ((z_6 : Int) - 12))) := hI.u0 (by omega)
      have hr2 := hm_rng (σ := (up σ 0 z_1 (σ 0 z_1 + ((z_6 : Int) - 12)))) hN10
      have h53_2 : (up σ 0 z_1 (σ 0 z_1 + ((z_6 : Int) - 12))) 5 3 = σ 5 3 := rfl
      refine lv_pop hx hb dL_law_899 rfl ?_
      refine lv_aload_n hx hb dL_law_900 rfl (lv_at hl 6 rfl) ?_
      refine fina_i (k := k0) (n := n0) (W2 := (fun _ => ((WX κ x a a2 ++ (WC κ a (up σ 0 z_1 (σ 0 z_1 + ((z_6 : Int) - 12))) ud.2 ++ (WC κ a2 ud.1 bt ++ (WS κ q pp M (σ 5 0) (σ 5 1) (σ 5 2) ++ (WA κ q1 (nn σ) (σ 1) ++ (WA κ q2 (nn σ) (σ 0) ++ (WZ κ q3 (nn σ) (snb σ)))))))) ++ RP κ M σ))) hW (va_free hW.2.1 hW.2.2 hA [0, 1, 2, 3, 4, 5, 6, 7] rfl) (va_runV (As := []) (rest := []) F ((m_X1_harmony l κ x a a2 (up σ 0 z_1 (σ 0 z_1 + ((z_6 : Int) - 12))) ud.2 hI2) _) (cwV 0 hts gL_law_X1_harmony rfl rfl rfl (by decide +kernel) ⟨(Nat.le_of_ble_eq_true rfl), (Nat.le_of_ble_eq_true rfl)⟩) (pre_V hK hW [0, 1, 2, 3, 4, 5, 6, 7] rfl (by decide) 1 0 rfl rfl) rfl rfl hl.1 rfl (lv_room (Nat.le_of_ble_eq_true rfl)) dL_law_901 ⟨(by first | exact Nat.le_of_ble_eq_true rfl | omega | (dsimp only [rm_law, rm_X1_harmony]; omega)), (by first | exact Nat.le_of_ble_eq_true rfl | omega | (dsimp only [rm_law, rm_X1_harmony]; omega))⟩) (fun u H1 locs1 g1 g2 g3 g4 => St.joinQ hW hA [0, 1, 2, 3, 4, 5, 6, 7] [8, 9, 10, 11, 12, 13, 14, 15, 16, 17, 18, 19] [12, 13, 14, 15, 16, 17, 18, 19, 0, 1, 2, 3, 4, 5, 6, 7, 8, 9, 10, 11] rfl rfl rfl (by decide) rfl rfl g1 g2 g3 g4) (by first | exact Nat.le_of_ble_eq_true rfl | omega | (dsimp only [rm_law, rm_X1_harmony]; omega)) (by first | exact Nat.le_of_ble_eq_true rfl | omega | (dsimp only [rm_law, rm_X1_harmony]; omega)) (fun r_26 u H locs hp_25 hW => ?_)
      subst hp_25
      refine lv_istore (lv' := [(22, .int (J (hm (up σ 0 z_1 (σ 0 z_1 + ((z_6 : Int) - 12)))))), (21, .int (J (σ 0 z_1))), (20, .int (J (hm (up σ 0 z_1 (σ 0 z_1 + (btu σ z_1)))))), (19, .int (J ((z_6 : Int) - 12))), (18, .int (J (btu σ z_1))), (17, .int (J (z_1 : Int))), (0, .ref b), (1, .ref x), (2, .ref q), (3, .int (J (tm : Int))), (4, .int v), (5, .long (dg σ)), (7, .int (J (nn σ : Int))), (8, .int (J (ns σ : Int))), (11, .ref q1), (12, .ref q2), (13, .ref q3)]) hx hb dL_law_904 hl (by decide) rfl (fun ls hl => ?_)
      have hbb := btu_best hI (p := z_1) (by omega) (b := (z_6 : Int) - 12) ⟨by omega, by omega⟩ ⟨by omega, by omega⟩
      have hi1 := iab_or (btu σ z_1)
      have hi2 := iab_or ((z_6 : Int) - 12)
      refine lv_iload hx hb dL_law_906 (lv_at hl 1 rfl) ?_
      refine lv_aload hx hb dL_law_908 (lv_at hl 15 rfl) ?_
      refine lv_iload hx hb dL_law_910 (lv_at hl 5 rfl) ?_
      refine jv_iald (g := (σ 0)) hx hb hK hW 18 rfl z_1 rfl (by omega) (by omega) dL_law_912 ?_
      refine jv_icmp_ne hx hb 985 dL_law_913 (by decide) ⟨by omega, by omega⟩ ⟨by omega, by omega⟩ (fun h_27 => by exfalso; omega) (fun h_27 => ?_)
      refine lv_iload hx hb dL_law_916 (lv_at hl 0 rfl) ?_
      refine lv_iload hx hb dL_law_918 (lv_at hl 2 rfl) ?_
      refine jv_icmp_gt hx hb 985 dL_law_920 (by decide) ⟨by omega, by omega⟩ ⟨by omega, by omega⟩ (fun h_28 => by exfalso; omega) (fun h_28 => ?_)
      refine lv_iload hx hb dL_law_923 (lv_at hl 0 rfl) ?_
      refine lv_iload hx hb dL_law_925 (lv_at hl 2 rfl) ?_
      have j958 : ∀ (H : Heap) (locs : List Loc) (ls : Array Slot), St κ A s.heap H locs ((WX κ x a a2 ++ (WC κ a (up σ 0 z_1 (σ 0 z_1 + ((z_6 : Int) - 12))) ud.2 ++ (WC κ a2 ud.1 bt ++ (WS κ q pp M (σ 5 0) (σ 5 1) (σ 5 2) ++ (WA κ q1 (nn σ) (σ 1) ++ (WA κ q2 (nn σ) (σ 0) ++ (WZ κ q3 (nn σ) (snb σ)))))))) ++ RP κ M σ) → lv_has ls 25 [(22, .int (J (hm (up σ 0 z_1 (σ 0 z_1 + ((z_6 : Int) - 12)))))), (21, .int (J (σ 0 z_1))), (20, .int (J (hm (up σ 0 z_1 (σ 0 z_1 + (btu σ z_1)))))), (19, .int (J ((z_6 : Int) - 12))), (18, .int (J (btu σ z_1))), (17, .int (J (z_1 : Int))), (0, .ref b), (1, .ref x), (2, .ref q), (3, .int (J (tm : Int))), (4, .int v), (5, .long (dg σ)), (7, .int (J (nn σ : Int))), (8, .int (J (ns σ : Int))), (11, .ref q1), (12, .ref q2), (13, .ref q3)] → W P l e rm_law s m #[Value.ref b] below meth c H locs k0 n0 Q (F0 m 958 ls []) := by
        intro H locs ls hW hl
        refine lv_aload_n hx hb dL_law_958 rfl (lv_at hl 7 rfl) ?_
        refine lv_iload hx hb dL_law_959 (lv_at hl 5 rfl) ?_
        refine lv_iload hx hb dL_law_961 (lv_at hl 3 rfl) ?_
        refine jv_ineg hx hb dL_law_963 ?_
        refine fina_i (k := k0) (n := n0) (W2 := (fun _ => ((WX κ x a a2 ++ (WC κ a (up (up σ 0 z_1 (σ 0 z_1 + ((z_6 : Int) - 12))) 0 z_1 ((up σ 0 z_1 (σ 0 z_1 + ((z_6 : Int) - 12))) 0 z_1 + (-((z_6 : Int) - 12)))) ud.2 ++ (WC κ a2 ud.1 bt ++ (WS κ q pp M (σ 5 0) (σ 5 1) (σ 5 2) ++ (WA κ q1 (nn σ) (σ 1) ++ (WA κ q2 (nn σ) (σ 0) ++ (WZ κ q3 (nn σ) (snb σ)))))))) ++ RP κ M σ))) hW (va_free hW.2.1 hW.2.2 hA [0, 1, 2, 3, 4, 5, 6, 7] rfl) (va_runV (As := [.int (J (z_1 : Int)), .int (J (-((z_6 : Int) - 12)))]) (rest := []) F ((m_X1_tune l κ x a a2 (up σ 0 z_1 (σ 0 z_1 + ((z_6 : Int) - 12))) ud.2 z_1 (-((z_6 : Int) - 12)) (by omega) (by omega) (by rw [show (up σ 0 z_1 (σ 0 z_1 + ((z_6 : Int) - 12))) 0 z_1 = σ 0 z_1 + ((z_6 : Int) - 12) from upi_s _ _ _]; omega) hI2) _) (cwV 2 hts gL_law_X1_tune rfl rfl rfl (by decide +kernel) ⟨(Nat.le_of_ble_eq_true rfl), (Nat.le_of_ble_eq_true rfl)⟩) (pre_V hK hW [0, 1, 2, 3, 4, 5, 6, 7] rfl (by decide) 1 0 rfl rfl) rfl rfl hl.1 rfl (lv_room (Nat.le_of_ble_eq_true rfl)) dL_law_964 ⟨(by first | exact Nat.le_of_ble_eq_true rfl | omega | (dsimp only [rm_law, rm_X1_tune]; omega)), (by first | exact Nat.le_of_ble_eq_true rfl | omega | (dsimp only [rm_law, rm_X1_tune]; omega))⟩) (fun u H1 locs1 g1 g2 g3 g4 => St.joinQ hW hA [0, 1, 2, 3, 4, 5, 6, 7] [8, 9, 10, 11, 12, 13, 14, 15, 16, 17, 18, 19] [12, 13, 14, 15, 16, 17, 18, 19, 0, 1, 2, 3, 4, 5, 6, 7, 8, 9, 10, 11] rfl rfl rfl (by decide) rfl rfl g1 g2 g3 g4) (by first | exact Nat.le_of_ble_eq_true rfl | omega | (dsimp only [rm_law, rm_X1_tune]; omega)) (by first | exact Nat.le_of_ble_eq_true rfl | omega | (dsimp only [rm_law, rm_X1_tune]; omega)) (fun r_30 u H locs hp_29 hW => ?_)
        subst hp_29
        have e2 : (up σ 0 z_1 (σ 0 z_1 + ((z_6 : Int) - 12))) 0 z_1 + (-((z_6 : Int) - 12)) = σ 0 z_1 := by rw [show (up σ 0 z_1 (σ 0 z_1 + ((z_6 : Int) - 12))) 0 z_1 = σ 0 z_1 + ((z_6 : Int) - 12) from upi_s _ _ _]; omega
        refine jv_eq (y := σ 0 z_1) e2 ?_
        have hW : St κ A s.heap H locs ((WX κ x a a2 ++ (WC κ a σ ud.2 ++ (WC κ a2 ud.1 bt ++ (WS κ q pp M (σ 5 0) (σ 5 1) (σ 5 2) ++ (WA κ q1 (nn σ) (σ 1) ++ (WA κ q2 (nn σ) (σ 0) ++ (WZ κ q3 (nn σ) (snb σ)))))))) ++ RP κ M σ) := by rw [tune_back e2] at hW; exact hW
        refine lv_aload hx hb dL_law_967 (lv_at hl 15 rfl) ?_
        refine lv_iload hx hb dL_law_969 (lv_at hl 5 rfl) ?_
        refine jv_iald (g := (σ 0)) hx hb hK hW 18 rfl z_1 rfl (by omega) (by omega) dL_law_971 ?_
        refine jv_icmp_ne hx hb 985 dL_law_972 (by decide) ⟨by omega, by omega⟩ ⟨by omega, by omega⟩ (fun h_31 => by exfalso; omega) (fun h_31 => ?_)
        refine lv_aload_n hx hb dL_law_975 rfl (lv_at hl 7 rfl) ?_
        refine fina_l (k := k0) (n := n0) (W2 := (fun ud => ((WX κ x a a2 ++ (WC κ a σ ud.2 ++ (WC κ a2 ud.1 bt ++ (WS κ q pp M (σ 5 0) (σ 5 1) (σ 5 2) ++ (WA κ q1 (nn σ) (σ 1) ++ (WA κ q2 (nn σ) (σ 0) ++ (WZ κ q3 (nn σ) (snb σ)))))))) ++ RP κ M σ))) hW (va_free hW.2.1 hW.2.2 hA [0, 1, 2, 3, 4, 5, 6, 7, 8, 9, 10, 11, 12, 13, 14] rfl) (va_runV (As := []) (rest := []) F ((m_X1_digest l κ x a a2 σ ud.2 ud.1 bt hI (by omega) (by omega)) _) (cwV 0 hts gL_law_X1_digest rfl rfl rfl (by decide +kernel) ⟨(Nat.le_of_ble_eq_true rfl), (Nat.le_of_ble_eq_true rfl)⟩) (pre_V hK hW [0, 1, 2, 3, 4, 5, 6, 7, 8, 9, 10, 11, 12, 13, 14] rfl (by decide) 1 0 rfl rfl) rfl rfl hl.1 rfl (lv_room (Nat.le_of_ble_eq_true rfl)) dL_law_976 ⟨(by first | exact Nat.le_of_ble_eq_true rfl | omega | (dsimp only [rm_law, rm_X1_digest]; omega)), (by first | exact Nat.le_of_ble_eq_true rfl | omega | (dsimp only [rm_law, rm_X1_digest]; omega))⟩) (fun u H1 locs1 g1 g2 g3 g4 => St.joinQ hW hA [0, 1, 2, 3, 4, 5, 6, 7, 8, 9, 10, 11, 12, 13, 14] [15, 16, 17, 18, 19] [5, 6, 7, 8, 9, 10, 11, 12, 13, 14, 15, 16, 17, 18, 19, 0, 1, 2, 3, 4] rfl rfl rfl (by decide) rfl rfl g1 g2 g3 g4) (by first | exact Nat.le_of_ble_eq_true rfl | omega | (dsimp only [rm_law, rm_X1_digest]; omega)) (by first | exact Nat.le_of_ble_eq_true rfl | omega | (dsimp only [rm_law, rm_X1_digest]; omega)) (fun r_33 ud H locs hp_32 hW => ?_)
        subst hp_32
        refine lv_lload hx hb dL_law_979 (lv_at hl 11 rfl) ?_
        refine jv_lcmp hx hb rfl dL_law_981 ?_
        refine jv_if_eq hx hb 987 dL_law_982 (by decide) ⟨by omega, by omega⟩ (fun h => ?_) (fun h => by exfalso; omega)
        exact next987 ud.2 ud.1 _ _ _  hW (lv_sub hl [6, 7, 8, 9, 12, 13, 14, 15, 16] rfl)
      refine jv_icmp_ne hx hb 958 dL_law_927 (by decide) ⟨by omega, by omega⟩ ⟨by omega, by omega⟩ (fun h_34 => ?_) (fun h_34 => ?_)
      · skip
        exact j958 _ _ _ hW hl
      · skip
        refine lv_iload hx hb dL_law_930 (lv_at hl 3 rfl) ?_
        refine jv_abs hx hb hown hml hl hts (List.mem_of_getElem? (i := 5) rfl) (List.mem_of_getElem? (i := 6) rfl) (List.mem_of_getElem? (i := 7) rfl) (List.mem_of_getElem? (i := 8) rfl) (Nat.le_of_ble_eq_true rfl) (Nat.le_of_ble_eq_true rfl) (by first | exact Nat.le_of_ble_eq_true rfl | omega | (dsimp only [rm_law]; omega)) (by first | exact Nat.le_of_ble_eq_true rfl | omega | (dsimp only [rm_law]; omega)) ⟨by omega, by omega⟩ dL_law_932 ?_
        refine jv_eq (y := iab ((z_6 : Int) - 12)) rfl ?_
        refine lv_iload hx hb dL_law_935 (lv_at hl 4 rfl) ?_
        refine jv_abs hx hb hown hml hl hts (List.mem_of_getElem? (i := 5) rfl) (List.mem_of_getElem? (i := 6) rfl) (List.mem_of_getElem? (i := 7) rfl) (List.mem_of_getElem? (i := 8) rfl) (Nat.le_of_ble_eq_true rfl) (Nat.le_of_ble_eq_true rfl) (by first | exact Nat.le_of_ble_eq_true rfl | omega | (dsimp only [rm_law]; omega)) (by first | exact Nat.le_of_ble_eq_true rfl | omega | (dsimp only [rm_law]; omega)) ⟨by omega, by omega⟩ dL_law_937 ?_
        refine jv_eq (y := iab (btu σ z_1)) rfl ?_
        refine jv_icmp_lt hx hb 985 dL_law_940 (by decide) ⟨by omega, by omega⟩ ⟨by omega, by omega⟩ (fun h_35 => by exfalso; omega) (fun h_35 => ?_)
        refine lv_iload hx hb dL_law_943 (lv_at hl 3 rfl) ?_
        refine lv_iload hx hb dL_law_945 (lv_at hl 4 rfl) ?_
        refine jv_ineg hx hb dL_law_947 ?_
        refine jv_icmp_ne hx hb 958 dL_law_948 (by decide) ⟨by omega, by omega⟩ ⟨by omega, by omega⟩ (fun h_36 => ?_) (fun h_36 => ?_)
        · skip
          exact j958 _ _ _ hW hl
        · skip
          refine lv_iload hx hb dL_law_951 (lv_at hl 3 rfl) ?_
          refine lv_iload hx hb dL_law_953 (lv_at hl 4 rfl) ?_
          refine jv_icmp_gt hx hb 985 dL_law_955 (by decide) ⟨by omega, by omega⟩ ⟨by omega, by omega⟩ (fun h_37 => by exfalso; omega) (fun h_37 => ?_)
          exact j958 _ _ _ hW hl
