set_option maxHeartbeats 4000000 in
set_option maxRecDepth 100000 in
/-- the law: what comes -/
theorem law_E {P : Program} {l : Launch} {e : Env} {s : State} {m : MethodId} {below : List Frame} {meth : Method} {c : Code} {Q : State → Prop} {b L : Nat} {xs : Nat → Int32} {κ : Kp} {A : Nat → Prop} (F : CallFix P m c cL_law 25 s #[Value.ref b] wsL_law RL) (hK : Kx κ s) (hA : ∀ q, s.heap.size ≤ q → A q) (hX : va_X b L xs s s.heap) (hbl : b < s.heap.size) (hbA : ¬ A b) (hL : L ≤ 2048) {x q pp : Nat} {a a2 : Nat → Nat} {M : List Nat} {σ τ : Sg} {br bt : Nat → Int} {tm : Nat} (htm : tm < 10) {v : Int32} {k0 n0 : Nat} (hk0 : k0 + 20 ≤ 600130) (hn0 : n0 + 200 ≤ 7301080) (hG : Gd σ M) (hp0 : 0 < nn σ) (hB : σ 5 0 ≤ 900000) (hC : σ 5 1 ≤ 900000) {q1 q2 q3 : Nat}
    (next22 : ∀ (σ1 τ1 : Sg) (br1 : Nat → Int) (H : Heap) (locs : List Loc) (ls : Array Slot), (Gd σ1 M) → (nn σ1 = nn σ) → (σ1 5 0 ≤ σ 5 0 + 3) → (σ1 5 1 ≤ σ 5 1 + 3) → St κ A s.heap H locs ((WX κ x a a2 ++ (WC κ a σ1 br1 ++ (WC κ a2 τ1 bt ++ (WS κ q pp M (σ1 5 0) (σ1 5 1) (σ1 5 2))))) ++ RP κ M σ1) → lv_has ls 25 [(0, .ref b), (1, .ref x), (2, .ref q), (3, .int (J (tm + 1 : Int)))] → W P l e rm_law s m #[Value.ref b] below meth c H locs k0 n0 Q (F0 m 22 ls []))
    {H : Heap} {locs : List Loc} {ls : Array Slot} (hW : St κ A s.heap H locs ((WX κ x a a2 ++ (WC κ a σ br ++ (WC κ a2 τ bt ++ (WS κ q pp M (σ 5 0) (σ 5 1) (σ 5 2) ++ (WA κ q1 (nn σ) (σ 1) ++ (WA κ q2 (nn σ) (σ 0) ++ (WZ κ q3 (nn σ) (snb σ)))))))) ++ RP κ M σ)) (hl : lv_has ls 25 [(0, .ref b), (1, .ref x), (2, .ref q), (3, .int (J (tm : Int))), (7, .int (J (nn σ : Int))), (8, .int (J (ns σ : Int))), (11, .ref q1), (12, .ref q2), (13, .ref q3)]) : W P l e rm_law s m #[Value.ref b] below meth c H locs k0 n0 Q (F0 m 987 ls []) := by
  obtain ⟨hx, hb, hml, hown, hts⟩ := id F
  have hI := hG.1
  have hLn := hG.2.1
  have hN := hI.hN
  have hN10 := hI.n10
  have hnn := hI.1
  have hb50 := hI.2.1
  have hb51 := hI.2.2.1
  refine lv_aload_n hx hb dL_law_987 rfl (lv_at hl 1 rfl) ?_
  refine fina_i (k := k0) (n := n0) (W2 := (fun τ1 => ((WX κ x a a2 ++ (WC κ a σ br ++ (WC κ a2 τ1 bt ++ (WS κ q pp M (σ 5 0) (σ 5 1) (σ 5 2) ++ (WA κ q1 (nn σ) (σ 1) ++ (WA κ q2 (nn σ) (σ 0) ++ (WZ κ q3 (nn σ) (snb σ)))))))) ++ RP κ M σ))) hW (va_free hW.2.1 hW.2.2 hA [0, 1, 2, 3, 4, 5, 6, 7, 8, 9, 10, 11, 12, 13, 14] rfl) (va_runV (As := []) (rest := []) F ((m_X1_beatsUntilSilence l κ x a a2 σ br τ bt hI (by omega)) _) (cwV 0 hts gL_law_X1_beatsUntilSilence rfl rfl rfl (by decide +kernel) ⟨(Nat.le_of_ble_eq_true rfl), (Nat.le_of_ble_eq_true rfl)⟩) (pre_V hK hW [0, 1, 2, 3, 4, 5, 6, 7, 8, 9, 10, 11, 12, 13, 14] rfl (by decide) 1 0 rfl rfl) rfl rfl hl.1 rfl (lv_room (Nat.le_of_ble_eq_true rfl)) dL_law_988 ⟨(by first | exact Nat.le_of_ble_eq_true rfl | omega | (dsimp only [rm_law, rm_X1_beatsUntilSilence]; omega)), (by first | exact Nat.le_of_ble_eq_true rfl | omega | (dsimp only [rm_law, rm_X1_beatsUntilSilence]; omega))⟩) (fun u H1 locs1 g1 g2 g3 g4 => St.joinQ hW hA [0, 1, 2, 3, 4, 5, 6, 7, 8, 9, 10, 11, 12, 13, 14] [15, 16, 17, 18, 19] [5, 6, 7, 8, 9, 10, 11, 12, 13, 14, 15, 16, 17, 18, 19, 0, 1, 2, 3, 4] rfl rfl rfl (by decide) rfl rfl g1 g2 g3 g4) (by first | exact Nat.le_of_ble_eq_true rfl | omega | (dsimp only [rm_law, rm_X1_beatsUntilSilence]; omega)) (by first | exact Nat.le_of_ble_eq_true rfl | omega | (dsimp only [rm_law, rm_X1_beatsUntilSilence]; omega)) (fun r_2 τ1 H locs hp_1 hW => ?_)
  subst hp_1
  refine lv_istore (lv' := [(20, .int (J (su σ : Int))), (0, .ref b), (1, .ref x), (2, .ref q), (3, .int (J (tm : Int))), (7, .int (J (nn σ : Int))), (8, .int (J (ns σ : Int))), (11, .ref q1), (12, .ref q2), (13, .ref q3)]) hx hb dL_law_991 hl (by decide) rfl (fun ls hl => ?_)
  refine lv_aload_n hx hb dL_law_993 rfl (lv_at hl 2 rfl) ?_
  refine fina_i (k := k0) (n := n0) (W2 := (fun τ2 => ((WX κ x a a2 ++ (WC κ a σ br ++ (WC κ a2 τ2 bt ++ (WS κ q pp M (σ 5 0) (σ 5 1) (σ 5 2) ++ (WA κ q1 (nn σ) (σ 1) ++ (WA κ q2 (nn σ) (σ 0) ++ (WZ κ q3 (nn σ) (snb σ)))))))) ++ RP κ M σ))) hW (va_free hW.2.1 hW.2.2 hA [0, 1, 2, 3, 4, 5, 6, 7, 8, 9, 10, 11, 12, 13, 14] rfl) (va_runV (As := []) (rest := []) F ((m_X1_beatsUntilCadence l κ x a a2 σ br τ1 bt hI (by omega) (by omega)) _) (cwV 0 hts gL_law_X1_beatsUntilCadence rfl rfl rfl (by decide +kernel) ⟨(Nat.le_of_ble_eq_true rfl), (Nat.le_of_ble_eq_true rfl)⟩) (pre_V hK hW [0, 1, 2, 3, 4, 5, 6, 7, 8, 9, 10, 11, 12, 13, 14] rfl (by decide) 1 0 rfl rfl) rfl rfl hl.1 rfl (lv_room (Nat.le_of_ble_eq_true rfl)) dL_law_994 ⟨(by first | exact Nat.le_of_ble_eq_true rfl | omega | (dsimp only [rm_law, rm_X1_beatsUntilCadence]; omega)), (by first | exact Nat.le_of_ble_eq_true rfl | omega | (dsimp only [rm_law, rm_X1_beatsUntilCadence]; omega))⟩) (fun u H1 locs1 g1 g2 g3 g4 => St.joinQ hW hA [0, 1, 2, 3, 4, 5, 6, 7, 8, 9, 10, 11, 12, 13, 14] [15, 16, 17, 18, 19] [5, 6, 7, 8, 9, 10, 11, 12, 13, 14, 15, 16, 17, 18, 19, 0, 1, 2, 3, 4] rfl rfl rfl (by decide) rfl rfl g1 g2 g3 g4) (by first | exact Nat.le_of_ble_eq_true rfl | omega | (dsimp only [rm_law, rm_X1_beatsUntilCadence]; omega)) (by first | exact Nat.le_of_ble_eq_true rfl | omega | (dsimp only [rm_law, rm_X1_beatsUntilCadence]; omega)) (fun r_4 τ2 H locs hp_3 hW => ?_)
  subst hp_3
  refine lv_istore (lv' := [(21, .int (J (uc σ))), (20, .int (J (su σ : Int))), (0, .ref b), (1, .ref x), (2, .ref q), (3, .int (J (tm : Int))), (7, .int (J (nn σ : Int))), (8, .int (J (ns σ : Int))), (11, .ref q1), (12, .ref q2), (13, .ref q3)]) hx hb dL_law_997 hl (by decide) rfl (fun ls hl => ?_)
  refine lv_aload_n hx hb dL_law_999 rfl (lv_at hl 3 rfl) ?_
  refine jv_iconst hx hb dL_law_1000 ?_
  refine fina_i (k := k0) (n := n0) (W2 := (fun _ => ((WX κ x a a2 ++ (WC κ a σ br ++ (WC κ a2 (pbn σ 3) bt ++ (WS κ q pp M (σ 5 0) (σ 5 1) (σ 5 2) ++ (WA κ q1 (nn σ) (σ 1) ++ (WA κ q2 (nn σ) (σ 0) ++ (WZ κ q3 (nn σ) (snb σ)))))))) ++ RP κ M σ))) hW (va_free hW.2.1 hW.2.2 hA [0, 1, 2, 3, 4, 5, 6, 7, 8, 9, 10, 11, 12, 13, 14] rfl) (va_runV (As := [.int (J 3)]) (rest := []) F ((m_X1_harmonyIn l κ x a a2 σ br τ2 bt 3 (by omega) hI (by omega)) _) (cwV 1 hts gL_law_X1_harmonyIn rfl rfl rfl (by decide +kernel) ⟨(Nat.le_of_ble_eq_true rfl), (Nat.le_of_ble_eq_true rfl)⟩) (pre_V hK hW [0, 1, 2, 3, 4, 5, 6, 7, 8, 9, 10, 11, 12, 13, 14] rfl (by decide) 1 0 rfl rfl) rfl rfl hl.1 rfl (lv_room (Nat.le_of_ble_eq_true rfl)) dL_law_1001 ⟨(by first | exact Nat.le_of_ble_eq_true rfl | omega | (dsimp only [rm_law, rm_X1_harmonyIn]; omega)), (by first | exact Nat.le_of_ble_eq_true rfl | omega | (dsimp only [rm_law, rm_X1_harmonyIn]; omega))⟩) (fun u H1 locs1 g1 g2 g3 g4 => St.joinQ hW hA [0, 1, 2, 3, 4, 5, 6, 7, 8, 9, 10, 11, 12, 13, 14] [15, 16, 17, 18, 19] [5, 6, 7, 8, 9, 10, 11, 12, 13, 14, 15, 16, 17, 18, 19, 0, 1, 2, 3, 4] rfl rfl rfl (by decide) rfl rfl g1 g2 g3 g4) (by first | exact Nat.le_of_ble_eq_true rfl | omega | (dsimp only [rm_law, rm_X1_harmonyIn]; omega)) (by first | exact Nat.le_of_ble_eq_true rfl | omega | (dsimp only [rm_law, rm_X1_harmonyIn]; omega)) (fun r_6 u H locs hp_5 hW => ?_)
  subst hp_5
  refine lv_istore (lv' := [(22, .int (J (hm (pbn σ 3)))), (21, .int (J (uc σ))), (20, .int (J (su σ : Int))), (0, .ref b), (1, .ref x), (2, .ref q), (3, .int (J (tm : Int))), (7, .int (J (nn σ : Int))), (8, .int (J (ns σ : Int))), (11, .ref q1), (12, .ref q2), (13, .ref q3)]) hx hb dL_law_1004 hl (by decide) rfl (fun ls hl => ?_)
  have hsl := su_le σ
  have hs0 := su_0 σ
  have huu := uc_60 σ
  have hns := ns_le σ
  refine lv_iload hx hb dL_law_1006 (lv_at hl 2 rfl) ?_
  refine jv_if_lt hx hb 1066 dL_law_1008 (by decide) ⟨by omega, by omega⟩ (fun h_7 => by exfalso; omega) (fun h_7 => ?_)
  refine lv_iload hx hb dL_law_1011 (lv_at hl 2 rfl) ?_
  refine jv_bipush hx hb 20 dL_law_1013 (by decide +kernel) ?_
  refine jv_icmp_gt hx hb 1066 dL_law_1015 (by decide) ⟨by omega, by omega⟩ ⟨by omega, by omega⟩ (fun h_8 => by exfalso; omega) (fun h_8 => ?_)
  refine lv_iload hx hb dL_law_1018 (lv_at hl 2 rfl) ?_
  have j1041 : ∀ (H : Heap) (locs : List Loc) (ls : Array Slot), St κ A s.heap H locs ((WX κ x a a2 ++ (WC κ a σ br ++ (WC κ a2 (pbn σ 3) bt ++ (WS κ q pp M (σ 5 0) (σ 5 1) (σ 5 2) ++ (WA κ q1 (nn σ) (σ 1) ++ (WA κ q2 (nn σ) (σ 0) ++ (WZ κ q3 (nn σ) (snb σ)))))))) ++ RP κ M σ) → lv_has ls 25 [(22, .int (J (hm (pbn σ 3)))), (21, .int (J (uc σ))), (20, .int (J (su σ : Int))), (0, .ref b), (1, .ref x), (2, .ref q), (3, .int (J (tm : Int))), (7, .int (J (nn σ : Int))), (8, .int (J (ns σ : Int))), (11, .ref q1), (12, .ref q2), (13, .ref q3)] → W P l e rm_law s m #[Value.ref b] below meth c H locs k0 n0 Q (F0 m 1041 ls []) := by
    intro H locs ls hW hl
    refine lv_iload hx hb dL_law_1041 (lv_at hl 1 rfl) ?_
    refine jv_if_eq hx hb 1066 dL_law_1043 (by decide) ⟨by omega, by omega⟩ (fun h_9 => by exfalso; omega) (fun h_9 => ?_)
    refine lv_iload hx hb dL_law_1046 (lv_at hl 1 rfl) ?_
    refine jv_bipush hx hb 60 dL_law_1048 (by decide +kernel) ?_
    refine jv_icmp_gt hx hb 1066 dL_law_1050 (by decide) ⟨by omega, by omega⟩ ⟨by omega, by omega⟩ (fun h_10 => by exfalso; omega) (fun h_10 => ?_)
    refine lv_iload hx hb dL_law_1053 (lv_at hl 1 rfl) ?_
    have j1068 : ∀ (H : Heap) (locs : List Loc) (ls : Array Slot), St κ A s.heap H locs ((WX κ x a a2 ++ (WC κ a σ br ++ (WC κ a2 (pbn σ 3) bt ++ (WS κ q pp M (σ 5 0) (σ 5 1) (σ 5 2) ++ (WA κ q1 (nn σ) (σ 1) ++ (WA κ q2 (nn σ) (σ 0) ++ (WZ κ q3 (nn σ) (snb σ)))))))) ++ RP κ M σ) → lv_has ls 25 [(22, .int (J (hm (pbn σ 3)))), (21, .int (J (uc σ))), (20, .int (J (su σ : Int))), (0, .ref b), (1, .ref x), (2, .ref q), (3, .int (J (tm : Int))), (7, .int (J (nn σ : Int))), (8, .int (J (ns σ : Int))), (11, .ref q1), (12, .ref q2), (13, .ref q3)] → W P l e rm_law s m #[Value.ref b] below meth c H locs k0 n0 Q (F0 m 1068 ls []) := by
      intro H locs ls hW hl
      refine jv_iconst hx hb dL_law_1068 ?_
      refine lv_istore (lv' := [(23, .int (J 1)), (22, .int (J (hm (pbn σ 3)))), (21, .int (J (uc σ))), (20, .int (J (su σ : Int))), (0, .ref b), (1, .ref x), (2, .ref q), (3, .int (J (tm : Int))), (7, .int (J (nn σ : Int))), (8, .int (J (ns σ : Int))), (11, .ref q1), (12, .ref q2), (13, .ref q3)]) hx hb dL_law_1069 hl (by decide) rfl (fun ls hl => ?_)
      suffices hlp : ∀ (n i : Nat), i ≤ 3 → 3 < i + n → ∀ (kq : Int), ∀ (H : Heap) (locs : List Loc) (ls : Array Slot), (kq = (i : Int) + 1) → St κ A s.heap H locs ((WX κ x a a2 ++ (WC κ a (pbn σ i) br ++ (WC κ a2 (pbn σ 3) bt ++ (WS κ q pp M (pbn σ i 5 0) (pbn σ i 5 1) (pbn σ i 5 2) ++ (WA κ q1 (nn σ) (σ 1) ++ (WA κ q2 (nn σ) (σ 0) ++ (WZ κ q3 (nn σ) (snb σ)))))))) ++ RP κ M (pbn σ i)) → lv_has ls 25 [(23, .int (J kq)), (22, .int (J (hm (pbn σ 3)))), (21, .int (J (uc σ))), (20, .int (J (su σ : Int))), (0, .ref b), (1, .ref x), (2, .ref q), (3, .int (J (tm : Int))), (7, .int (J (nn σ : Int))), (8, .int (J (ns σ : Int))), (11, .ref q1), (12, .ref q2), (13, .ref q3)] → W P l e rm_law s m #[Value.ref b] below meth c H locs k0 n0 Q (F0 m 1071 ls []) from
        hlp (3 + 1) 0 (Nat.zero_le _) (by omega) 1 _ _ _ (by rfl) hW hl
      intro n
      induction n with
      | zero => intro i h1 h2; exact absurd h2 (by omega)
      | succ n ih =>
        intro i hi hn kq H locs ls q_kq hW hl
        have hIi := hI.hpbn i
        have hI1 := hI.hpbn (i + 1)
        have h5 := pbn_50 σ i
        have h51 := pbn_51 σ i
        have h53 : pbn σ i 5 3 = σ 5 3 := pbn_53 σ i
        have h54 : pbn σ (i + 1) 5 3 = σ 5 3 := pbn_53 σ (i + 1)
        have hLi : M.length = nn (pbn σ i) := by rw [hLn, pbn_nn]
        have hn1 := hI1.n10
        refine lv_iload hx hb dL_law_1071 (lv_at hl 0 rfl) ?_
        refine jv_iconst hx hb dL_law_1073 ?_
        refine jv_icmp_ge hx hb 1214 dL_law_1074 (by decide) ⟨by omega, by omega⟩ ⟨by omega, by omega⟩ (fun h_11 => ?_) (fun h_11 => ?_)
        · skip
          have hr1 := hm_rng hIi.n10
          have hr3 := hm_rng (hI.hpbn 3).n10
          refine lv_aload_n hx hb dL_law_1214 rfl (lv_at hl 5 rfl) ?_
          refine fina_i (k := k0) (n := n0) (W2 := (fun _ => ((WX κ x a a2 ++ (WC κ a (pbn σ i) br ++ (WC κ a2 (pbn σ 3) bt ++ (WS κ q pp M (pbn σ i 5 0) (pbn σ i 5 1) (pbn σ i 5 2) ++ (WA κ q1 (nn σ) (σ 1) ++ (WA κ q2 (nn σ) (σ 0) ++ (WZ κ q3 (nn σ) (snb σ)))))))) ++ RP κ M (pbn σ i)))) hW (va_free hW.2.1 hW.2.2 hA [0, 1, 2, 3, 4, 5, 6, 7] rfl) (va_runV (As := []) (rest := []) F ((m_X1_harmony l κ x a a2 (pbn σ i) br hIi) _) (cwV 0 hts gL_law_X1_harmony rfl rfl rfl (by decide +kernel) ⟨(Nat.le_of_ble_eq_true rfl), (Nat.le_of_ble_eq_true rfl)⟩) (pre_V hK hW [0, 1, 2, 3, 4, 5, 6, 7] rfl (by decide) 1 0 rfl rfl) rfl rfl hl.1 rfl (lv_room (Nat.le_of_ble_eq_true rfl)) dL_law_1215 ⟨(by first | exact Nat.le_of_ble_eq_true rfl | omega | (dsimp only [rm_law, rm_X1_harmony]; omega)), (by first | exact Nat.le_of_ble_eq_true rfl | omega | (dsimp only [rm_law, rm_X1_harmony]; omega))⟩) (fun u H1 locs1 g1 g2 g3 g4 => St.joinQ hW hA [0, 1, 2, 3, 4, 5, 6, 7] [8, 9, 10, 11, 12, 13, 14, 15, 16, 17, 18, 19] [12, 13, 14, 15, 16, 17, 18, 19, 0, 1, 2, 3, 4, 5, 6, 7, 8, 9, 10, 11] rfl rfl rfl (by decide) rfl rfl g1 g2 g3 g4) (by first | exact Nat.le_of_ble_eq_true rfl | omega | (dsimp only [rm_law, rm_X1_harmony]; omega)) (by first | exact Nat.le_of_ble_eq_true rfl | omega | (dsimp only [rm_law, rm_X1_harmony]; omega)) (fun r_13 u H locs hp_12 hW => ?_)
          subst hp_12
          refine lv_iload hx hb dL_law_1218 (lv_at hl 1 rfl) ?_
          refine jv_icmp_eq hx hb 1225 dL_law_1220 (by decide) ⟨by omega, by omega⟩ ⟨by omega, by omega⟩ (fun h_14 => ?_) (fun h_14 => by exfalso; exact h_14 (by rw [show i = 3 by omega]))
          refine jv_iinc (k := 7) (z := (tm : Int)) (lv' := [(3, .int (J ((tm : Int) + 1))), (23, .int (J kq)), (22, .int (J (hm (pbn σ 3)))), (21, .int (J (uc σ))), (20, .int (J (su σ : Int))), (0, .ref b), (1, .ref x), (2, .ref q), (7, .int (J (nn σ : Int))), (8, .int (J (ns σ : Int))), (11, .ref q1), (12, .ref q2), (13, .ref q3)]) hx hb dL_law_1225 hl rfl (by decide) rfl (fun ls hl => ?_)
          refine lv_goto (tgt := 22) hx hb dL_law_1228 (by decide) ?_
          exact next22 (pbn σ i) (pbn σ 3) br _ _ _ (gd_pbn hG i) (pbn_nn σ i) (by omega) (by omega) (hW.part [0, 1, 2, 3, 4, 5, 6, 7, 8, 9, 10, 11, 12, 13, 14, 15, 16] (by decide) rfl) (lv_sub hl [5, 6, 7, 0] rfl)
        · skip
          refine lv_aload_n hx hb dL_law_1077 rfl (lv_at hl 5 rfl) ?_
          refine jv_iconst hx hb dL_law_1078 ?_
          refine fina_i (k := k0) (n := n0) (W2 := (fun _ => ((WX κ x a a2 ++ (WC κ a (pbn (pbn σ i) 1) br ++ (WC κ a2 (pbn σ 3) bt ++ (WS κ q pp M (pbn σ i 5 0) (pbn σ i 5 1) (pbn σ i 5 2) ++ (WA κ q1 (nn σ) (σ 1) ++ (WA κ q2 (nn σ) (σ 0) ++ (WZ κ q3 (nn σ) (snb σ)))))))) ++ RP κ M (pbn σ i)))) hW (va_free hW.2.1 hW.2.2 hA [0, 1, 2, 3, 4, 5, 6, 7] rfl) (va_runV (As := [.int (J 1)]) (rest := []) F ((m_X1_sing l κ x a a2 (pbn σ i) br 1 (by omega) hIi (by omega)) _) (cwV 1 hts gL_law_X1_sing rfl rfl rfl (by decide +kernel) ⟨(Nat.le_of_ble_eq_true rfl), (Nat.le_of_ble_eq_true rfl)⟩) (pre_V hK hW [0, 1, 2, 3, 4, 5, 6, 7] rfl (by decide) 1 0 rfl rfl) rfl rfl hl.1 rfl (lv_room (Nat.le_of_ble_eq_true rfl)) dL_law_1079 ⟨(by first | exact Nat.le_of_ble_eq_true rfl | omega | (dsimp only [rm_law, rm_X1_sing]; omega)), (by first | exact Nat.le_of_ble_eq_true rfl | omega | (dsimp only [rm_law, rm_X1_sing]; omega))⟩) (fun u H1 locs1 g1 g2 g3 g4 => St.joinQ hW hA [0, 1, 2, 3, 4, 5, 6, 7] [8, 9, 10, 11, 12, 13, 14, 15, 16, 17, 18, 19] [12, 13, 14, 15, 16, 17, 18, 19, 0, 1, 2, 3, 4, 5, 6, 7, 8, 9, 10, 11] rfl rfl rfl (by decide) rfl rfl g1 g2 g3 g4) (by first | exact Nat.le_of_ble_eq_true rfl | omega | (dsimp only [rm_law, rm_X1_sing]; omega)) (by first | exact Nat.le_of_ble_eq_true rfl | omega | (dsimp only [rm_law, rm_X1_sing]; omega)) (fun r_16 u H locs hp_15 hW => ?_)
          subst hp_15
          refine jv_eq (y := bi (cadb (pbn σ i))) (by show pbn σ (i + 1) 5 1 - pbn σ i 5 1 = _; rw [pbn_cad]; omega) ?_
          have hcb := bi_rng (cadb (pbn σ i))
          have huk := uc_bi σ (k := i) (by omega)
          have hW : St κ A s.heap H locs ((WX κ x a a2 ++ (WC κ a (pbn σ (i + 1)) br ++ (WC κ a2 (pbn σ 3) bt ++ (WS κ q pp M (pbn σ i 5 0) (pbn σ i 5 1) (pbn σ i 5 2) ++ (WA κ q1 (nn σ) (σ 1) ++ (WA κ q2 (nn σ) (σ 0) ++ (WZ κ q3 (nn σ) (snb σ)))))))) ++ RP κ M (pbn σ i)) := hW
          refine lv_iload hx hb dL_law_1082 (lv_at hl 0 rfl) ?_
          refine lv_iload hx hb dL_law_1084 (lv_at hl 2 rfl) ?_
          have j1111 : ∀ (H : Heap) (locs : List Loc) (ls : Array Slot), St κ A s.heap H locs ((WX κ x a a2 ++ (WC κ a (pbn σ (i + 1)) br ++ (WC κ a2 (pbn σ 3) bt ++ (WS κ q pp M (pbn σ i 5 0) (pbn σ i 5 1) (pbn σ i 5 2) ++ (WA κ q1 (nn σ) (σ 1) ++ (WA κ q2 (nn σ) (σ 0) ++ (WZ κ q3 (nn σ) (snb σ)))))))) ++ RP κ M (pbn σ i)) → lv_has ls 25 [(23, .int (J kq)), (22, .int (J (hm (pbn σ 3)))), (21, .int (J (uc σ))), (20, .int (J (su σ : Int))), (0, .ref b), (1, .ref x), (2, .ref q), (3, .int (J (tm : Int))), (7, .int (J (nn σ : Int))), (8, .int (J (ns σ : Int))), (11, .ref q1), (12, .ref q2), (13, .ref q3)] → W P l e rm_law s m #[Value.ref b] below meth c H locs k0 n0 Q (F0 m 1111 ls []) := by
            intro H locs ls hW hl
            refine lv_aload_n hx hb dL_law_1111 rfl (lv_at hl 6 rfl) ?_
            refine fina_i (k := k0) (n := n0) (W2 := (fun _ => ((WX κ x a a2 ++ (WC κ a (pbn σ (i + 1)) br ++ (WC κ a2 (pbn σ 3) bt ++ (WS κ q pp M (pb (pbn σ i) 5 0) (pb (pbn σ i) 5 1) (pb (pbn σ i) 5 2) ++ (WA κ q1 (nn σ) (σ 1) ++ (WA κ q2 (nn σ) (σ 0) ++ (WZ κ q3 (nn σ) (snb σ)))))))) ++ RP κ M (pb (pbn σ i))))) hW (va_freeP hW.2.1 hW.2.2 hA [15, 16] rfl) (va_runV (As := []) (rest := []) F ((m_X2_sing l κ q pp M (pbn σ i)  hLi hIi (by omega)) _) (cwV 0 hts gL_law_X2_sing rfl rfl rfl (by decide +kernel) ⟨(Nat.le_of_ble_eq_true rfl), (Nat.le_of_ble_eq_true rfl)⟩) (pre_VP hK hW [15, 16] rfl (by decide) 2 15 rfl rfl) rfl rfl hl.1 rfl (lv_room (Nat.le_of_ble_eq_true rfl)) dL_law_1112 ⟨(by first | exact Nat.le_of_ble_eq_true rfl | omega | (dsimp only [rm_law, rm_X2_sing]; omega)), (by first | exact Nat.le_of_ble_eq_true rfl | omega | (dsimp only [rm_law, rm_X2_sing]; omega))⟩) (fun u H1 locs1 g1 g2 g3 g4 => St.joinP hW hA [15, 16] [0, 1, 2, 3, 4, 5, 6, 7, 8, 9, 10, 11, 12, 13, 14, 17, 18, 19] [0, 1, 2, 3, 4, 5, 6, 7, 8, 9, 10, 11, 12, 13, 14, 18, 19, 15, 16, 17] rfl rfl rfl (by decide) rfl rfl g1 g2 g3 g4) (by first | exact Nat.le_of_ble_eq_true rfl | omega | (dsimp only [rm_law, rm_X2_sing]; omega)) (by first | exact Nat.le_of_ble_eq_true rfl | omega | (dsimp only [rm_law, rm_X2_sing]; omega)) (fun r_18 u H locs hp_17 hW => ?_)
            subst hp_17
            have hW : St κ A s.heap H locs ((WX κ x a a2 ++ (WC κ a (pbn σ (i + 1)) br ++ (WC κ a2 (pbn σ 3) bt ++ (WS κ q pp M (pbn σ (i + 1) 5 0) (pbn σ (i + 1) 5 1) (pbn σ (i + 1) 5 2) ++ (WA κ q1 (nn σ) (σ 1) ++ (WA κ q2 (nn σ) (σ 0) ++ (WZ κ q3 (nn σ) (snb σ)))))))) ++ RP κ M (pbn σ (i + 1))) := hW
            refine lv_pop hx hb dL_law_1115 rfl ?_
            refine lv_aload_n hx hb dL_law_1116 rfl (lv_at hl 5 rfl) ?_
            refine fina_i (k := k0) (n := n0) (W2 := (fun _ => ((WX κ x a a2 ++ (WC κ a (pbn σ (i + 1)) br ++ (WC κ a2 (pbn σ 3) bt ++ (WS κ q pp M (pbn σ (i + 1) 5 0) (pbn σ (i + 1) 5 1) (pbn σ (i + 1) 5 2) ++ (WA κ q1 (nn σ) (σ 1) ++ (WA κ q2 (nn σ) (σ 0) ++ (WZ κ q3 (nn σ) (snb σ)))))))) ++ RP κ M (pbn σ (i + 1))))) hW (va_free hW.2.1 hW.2.2 hA [0, 1, 2, 3, 4, 5, 6, 7] rfl) (va_runV (As := []) (rest := []) F ((m_X1_sounding l κ x a a2 (pbn σ (i + 1)) br hI1) _) (cwV 0 hts gL_law_X1_sounding rfl rfl rfl (by decide +kernel) ⟨(Nat.le_of_ble_eq_true rfl), (Nat.le_of_ble_eq_true rfl)⟩) (pre_V hK hW [0, 1, 2, 3, 4, 5, 6, 7] rfl (by decide) 1 0 rfl rfl) rfl rfl hl.1 rfl (lv_room (Nat.le_of_ble_eq_true rfl)) dL_law_1117 ⟨(by first | exact Nat.le_of_ble_eq_true rfl | omega | (dsimp only [rm_law, rm_X1_sounding]; omega)), (by first | exact Nat.le_of_ble_eq_true rfl | omega | (dsimp only [rm_law, rm_X1_sounding]; omega))⟩) (fun u H1 locs1 g1 g2 g3 g4 => St.joinQ hW hA [0, 1, 2, 3, 4, 5, 6, 7] [8, 9, 10, 11, 12, 13, 14, 15, 16, 17, 18, 19] [12, 13, 14, 15, 16, 17, 18, 19, 0, 1, 2, 3, 4, 5, 6, 7, 8, 9, 10, 11] rfl rfl rfl (by decide) rfl rfl g1 g2 g3 g4) (by first | exact Nat.le_of_ble_eq_true rfl | omega | (dsimp only [rm_law, rm_X1_sounding]; omega)) (by first | exact Nat.le_of_ble_eq_true rfl | omega | (dsimp only [rm_law, rm_X1_sounding]; omega)) (fun r_20 u H locs hp_19 hW => ?_)
            subst hp_19
            have hsk := su_k σ (k := i + 1) (by omega)
            have hnk := ns_le (pbn σ (i + 1))
            have j1145 : ∀ (H : Heap) (locs : List Loc) (ls : Array Slot), St κ A s.heap H locs ((WX κ x a a2 ++ (WC κ a (pbn σ (i + 1)) br ++ (WC κ a2 (pbn σ 3) bt ++ (WS κ q pp M (pbn σ (i + 1) 5 0) (pbn σ (i + 1) 5 1) (pbn σ (i + 1) 5 2) ++ (WA κ q1 (nn σ) (σ 1) ++ (WA κ q2 (nn σ) (σ 0) ++ (WZ κ q3 (nn σ) (snb σ)))))))) ++ RP κ M (pbn σ (i + 1))) → lv_has ls 25 [(23, .int (J kq)), (22, .int (J (hm (pbn σ 3)))), (21, .int (J (uc σ))), (20, .int (J (su σ : Int))), (0, .ref b), (1, .ref x), (2, .ref q), (3, .int (J (tm : Int))), (7, .int (J (nn σ : Int))), (8, .int (J (ns σ : Int))), (11, .ref q1), (12, .ref q2), (13, .ref q3)] → W P l e rm_law s m #[Value.ref b] below meth c H locs k0 n0 Q (F0 m 1145 ls []) := by
              intro H locs ls hW hl
              refine jv_iconst hx hb dL_law_1145 ?_
              refine lv_istore (lv' := [(24, .int (J 0)), (23, .int (J kq)), (22, .int (J (hm (pbn σ 3)))), (21, .int (J (uc σ))), (20, .int (J (su σ : Int))), (0, .ref b), (1, .ref x), (2, .ref q), (3, .int (J (tm : Int))), (7, .int (J (nn σ : Int))), (8, .int (J (ns σ : Int))), (11, .ref q1), (12, .ref q2), (13, .ref q3)]) hx hb dL_law_1146 hl (by decide) rfl (fun ls hl => ?_)
              suffices hlz : ∀ (n z : Nat), z ≤ (nn σ) → (nn σ) < z + n → ∀ (H : Heap) (locs : List Loc) (ls : Array Slot), St κ A s.heap H locs ((WX κ x a a2 ++ (WC κ a (pbn σ (i + 1)) br ++ (WC κ a2 (pbn σ 3) bt ++ (WS κ q pp M (pbn σ (i + 1) 5 0) (pbn σ (i + 1) 5 1) (pbn σ (i + 1) 5 2) ++ (WA κ q1 (nn σ) (σ 1) ++ (WA κ q2 (nn σ) (σ 0) ++ (WZ κ q3 (nn σ) (snb σ)))))))) ++ RP κ M (pbn σ (i + 1))) → lv_has ls 25 [(24, .int (J (z : Int))), (23, .int (J kq)), (22, .int (J (hm (pbn σ 3)))), (21, .int (J (uc σ))), (20, .int (J (su σ : Int))), (0, .ref b), (1, .ref x), (2, .ref q), (3, .int (J (tm : Int))), (7, .int (J (nn σ : Int))), (8, .int (J (ns σ : Int))), (11, .ref q1), (12, .ref q2), (13, .ref q3)] → W P l e rm_law s m #[Value.ref b] below meth c H locs k0 n0 Q (F0 m 1148 ls []) from
                hlz ((nn σ) + 1) 0 (Nat.zero_le _) (by omega)  _ _ _  hW hl
              intro n
              induction n with
              | zero => intro z h1 h2; exact absurd h2 (by omega)
              | succ n ih_hlz =>
                intro z hi hn  H locs ls  hW hl
                refine lv_iload hx hb dL_law_1148 (lv_at hl 1 rfl) ?_
                refine jv_iconst hx hb dL_law_1150 ?_
                refine jv_icmp_ne hx hb 1208 dL_law_1151 (by decide) ⟨by omega, by omega⟩ ⟨by omega, by omega⟩ (fun h_21 => ?_) (fun h_21 => ?_)
                · skip
                  refine jv_iinc (k := 1) (z := kq) (lv' := [(23, .int (J (kq + 1))), (24, .int (J (z : Int))), (22, .int (J (hm (pbn σ 3)))), (21, .int (J (uc σ))), (20, .int (J (su σ : Int))), (0, .ref b), (1, .ref x), (2, .ref q), (3, .int (J (tm : Int))), (7, .int (J (nn σ : Int))), (8, .int (J (ns σ : Int))), (11, .ref q1), (12, .ref q2), (13, .ref q3)]) hx hb dL_law_1208 hl rfl (by decide) rfl (fun ls hl => ?_)
                  refine lv_goto (tgt := 1071) hx hb dL_law_1211 (by decide) ?_
                  exact ih (i + 1) (by omega) (by omega) (kq + 1) _ _ _ (by omega) hW (lv_sub hl [0, 2, 3, 4, 5, 6, 7, 8, 9, 10, 11, 12, 13] rfl)
                · skip
                  refine lv_iload hx hb dL_law_1154 (lv_at hl 0 rfl) ?_
                  refine lv_iload hx hb dL_law_1156 (lv_at hl 9 rfl) ?_
                  refine jv_icmp_ge hx hb 1208 dL_law_1158 (by decide) ⟨by omega, by omega⟩ ⟨by omega, by omega⟩ (fun h_22 => ?_) (fun h_22 => ?_)
                  · skip
                    refine jv_iinc (k := 1) (z := kq) (lv' := [(23, .int (J (kq + 1))), (24, .int (J (z : Int))), (22, .int (J (hm (pbn σ 3)))), (21, .int (J (uc σ))), (20, .int (J (su σ : Int))), (0, .ref b), (1, .ref x), (2, .ref q), (3, .int (J (tm : Int))), (7, .int (J (nn σ : Int))), (8, .int (J (ns σ : Int))), (11, .ref q1), (12, .ref q2), (13, .ref q3)]) hx hb dL_law_1208 hl rfl (by decide) rfl (fun ls hl => ?_)
                    refine lv_goto (tgt := 1071) hx hb dL_law_1211 (by decide) ?_
                    exact ih (i + 1) (by omega) (by omega) (kq + 1) _ _ _ (by omega) hW (lv_sub hl [0, 2, 3, 4, 5, 6, 7, 8, 9, 10, 11, 12, 13] rfl)
                  · skip
                    have hte : pbn σ (i + 1) 1 z = pb σ 1 z := by rw [show i = 0 by omega]; rfl
                    have hpt := pb_tea hI (p := z) (by omega)
                    have hbz := hI.at z (by omega)
                    have hbz2 := hI1.at z (by omega)
                    refine lv_aload hx hb dL_law_1161 (lv_at hl 13 rfl) ?_
                    refine lv_iload hx hb dL_law_1163 (lv_at hl 0 rfl) ?_
                    refine jv_zald (g := (snb σ)) hx hb hK hW 19 rfl z rfl (by omega) (by omega) dL_law_1165 ?_
                    refine jv_eq (y := bi (sn σ z)) rfl ?_
                    refine jv_ifb_eq (b := (sn σ z)) hx hb 1186 dL_law_1166 (by decide) (fun h_23 => ?_) (fun h_23 => ?_)
                    · skip
                      have hq := hpt.2 h_23
                      refine lv_aload_n hx hb dL_law_1186 rfl (lv_at hl 6 rfl) ?_
                      refine lv_iload hx hb dL_law_1187 (lv_at hl 0 rfl) ?_
                      refine fina_i (k := k0) (n := n0) (W2 := (fun _ => ((WX κ x a a2 ++ (WC κ a (pbn σ (i + 1)) br ++ (WC κ a2 (pbn σ 3) bt ++ (WS κ q pp M (pbn σ (i + 1) 5 0) (pbn σ (i + 1) 5 1) (pbn σ (i + 1) 5 2) ++ (WA κ q1 (nn σ) (σ 1) ++ (WA κ q2 (nn σ) (σ 0) ++ (WZ κ q3 (nn σ) (snb σ)))))))) ++ RP κ M (pbn σ (i + 1))))) hW (va_free hW.2.1 hW.2.2 hA [0, 1, 2, 3, 4, 5, 6, 7] rfl) (va_runV (As := [.int (J (z : Int))]) (rest := []) F ((m_X1_teaOf l κ x a a2 (pbn σ (i + 1)) br z (by omega) hI1) _) (cwV 1 hts gL_law_X1_teaOf rfl rfl rfl (by decide +kernel) ⟨(Nat.le_of_ble_eq_true rfl), (Nat.le_of_ble_eq_true rfl)⟩) (pre_V hK hW [0, 1, 2, 3, 4, 5, 6, 7] rfl (by decide) 1 0 rfl rfl) rfl rfl hl.1 rfl (lv_room (Nat.le_of_ble_eq_true rfl)) dL_law_1189 ⟨(by first | exact Nat.le_of_ble_eq_true rfl | omega | (dsimp only [rm_law, rm_X1_teaOf]; omega)), (by first | exact Nat.le_of_ble_eq_true rfl | omega | (dsimp only [rm_law, rm_X1_teaOf]; omega))⟩) (fun u H1 locs1 g1 g2 g3 g4 => St.joinQ hW hA [0, 1, 2, 3, 4, 5, 6, 7] [8, 9, 10, 11, 12, 13, 14, 15, 16, 17, 18, 19] [12, 13, 14, 15, 16, 17, 18, 19, 0, 1, 2, 3, 4, 5, 6, 7, 8, 9, 10, 11] rfl rfl rfl (by decide) rfl rfl g1 g2 g3 g4) (by first | exact Nat.le_of_ble_eq_true rfl | omega | (dsimp only [rm_law, rm_X1_teaOf]; omega)) (by first | exact Nat.le_of_ble_eq_true rfl | omega | (dsimp only [rm_law, rm_X1_teaOf]; omega)) (fun r_25 u H locs hp_24 hW => ?_)
                      subst hp_24
                      refine lv_aload hx hb dL_law_1192 (lv_at hl 11 rfl) ?_
                      refine lv_iload hx hb dL_law_1194 (lv_at hl 0 rfl) ?_
                      refine jv_iald (g := (σ 1)) hx hb hK hW 17 rfl z rfl (by omega) (by omega) dL_law_1196 ?_
                      refine jv_icmp_eq hx hb 1202 dL_law_1197 (by decide) ⟨by omega, by omega⟩ ⟨by omega, by omega⟩ (fun h_26 => ?_) (fun h_26 => by exfalso; omega)
                      refine jv_iinc (k := 0) (z := (z : Int)) (lv' := [(24, .int (J ((z : Int) + 1))), (23, .int (J kq)), (22, .int (J (hm (pbn σ 3)))), (21, .int (J (uc σ))), (20, .int (J (su σ : Int))), (0, .ref b), (1, .ref x), (2, .ref q), (3, .int (J (tm : Int))), (7, .int (J (nn σ : Int))), (8, .int (J (ns σ : Int))), (11, .ref q1), (12, .ref q2), (13, .ref q3)]) hx hb dL_law_1202 hl rfl (by decide) rfl (fun ls hl => ?_)
                      refine lv_goto (tgt := 1148) hx hb dL_law_1205 (by decide) ?_
                      exact ih_hlz (z + 1) (by omega) (by omega)  _ _ _  hW hl
                    · skip
                      have hq := hpt.1 h_23
                      refine lv_aload_n hx hb dL_law_1169 rfl (lv_at hl 6 rfl) ?_
                      refine lv_iload hx hb dL_law_1170 (lv_at hl 0 rfl) ?_
                      refine fina_i (k := k0) (n := n0) (W2 := (fun _ => ((WX κ x a a2 ++ (WC κ a (pbn σ (i + 1)) br ++ (WC κ a2 (pbn σ 3) bt ++ (WS κ q pp M (pbn σ (i + 1) 5 0) (pbn σ (i + 1) 5 1) (pbn σ (i + 1) 5 2) ++ (WA κ q1 (nn σ) (σ 1) ++ (WA κ q2 (nn σ) (σ 0) ++ (WZ κ q3 (nn σ) (snb σ)))))))) ++ RP κ M (pbn σ (i + 1))))) hW (va_free hW.2.1 hW.2.2 hA [0, 1, 2, 3, 4, 5, 6, 7] rfl) (va_runV (As := [.int (J (z : Int))]) (rest := []) F ((m_X1_teaOf l κ x a a2 (pbn σ (i + 1)) br z (by omega) hI1) _) (cwV 1 hts gL_law_X1_teaOf rfl rfl rfl (by decide +kernel) ⟨(Nat.le_of_ble_eq_true rfl), (Nat.le_of_ble_eq_true rfl)⟩) (pre_V hK hW [0, 1, 2, 3, 4, 5, 6, 7] rfl (by decide) 1 0 rfl rfl) rfl rfl hl.1 rfl (lv_room (Nat.le_of_ble_eq_true rfl)) dL_law_1172 ⟨(by first | exact Nat.le_of_ble_eq_true rfl | omega | (dsimp only [rm_law, rm_X1_teaOf]; omega)), (by first | exact Nat.le_of_ble_eq_true rfl | omega | (dsimp only [rm_law, rm_X1_teaOf]; omega))⟩) (fun u H1 locs1 g1 g2 g3 g4 => St.joinQ hW hA [0, 1, 2, 3, 4, 5, 6, 7] [8, 9, 10, 11, 12, 13, 14, 15, 16, 17, 18, 19] [12, 13, 14, 15, 16, 17, 18, 19, 0, 1, 2, 3, 4, 5, 6, 7, 8, 9, 10, 11] rfl rfl rfl (by decide) rfl rfl g1 g2 g3 g4) (by first | exact Nat.le_of_ble_eq_true rfl | omega | (dsimp only [rm_law, rm_X1_teaOf]; omega)) (by first | exact Nat.le_of_ble_eq_true rfl | omega | (dsimp only [rm_law, rm_X1_teaOf]; omega)) (fun r_28 u H locs hp_27 hW => ?_)
                      subst hp_27
                      refine lv_aload hx hb dL_law_1175 (lv_at hl 11 rfl) ?_
                      refine lv_iload hx hb dL_law_1177 (lv_at hl 0 rfl) ?_
                      refine jv_iald (g := (σ 1)) hx hb hK hW 17 rfl z rfl (by omega) (by omega) dL_law_1179 ?_
                      refine jv_icmp_lt hx hb 1202 dL_law_1180 (by decide) ⟨by omega, by omega⟩ ⟨by omega, by omega⟩ (fun h_29 => ?_) (fun h_29 => by exfalso; omega)
                      refine jv_iinc (k := 0) (z := (z : Int)) (lv' := [(24, .int (J ((z : Int) + 1))), (23, .int (J kq)), (22, .int (J (hm (pbn σ 3)))), (21, .int (J (uc σ))), (20, .int (J (su σ : Int))), (0, .ref b), (1, .ref x), (2, .ref q), (3, .int (J (tm : Int))), (7, .int (J (nn σ : Int))), (8, .int (J (ns σ : Int))), (11, .ref q1), (12, .ref q2), (13, .ref q3)]) hx hb dL_law_1202 hl rfl (by decide) rfl (fun ls hl => ?_)
                      refine lv_goto (tgt := 1148) hx hb dL_law_1205 (by decide) ?_
                      exact ih_hlz (z + 1) (by omega) (by omega)  _ _ _  hW hl
            refine jv_if_ne hx hb 1127 dL_law_1120 (by decide) ⟨by omega, by omega⟩ (fun h_30 => ?_) (fun h_30 => ?_)
            · skip
              refine jv_iconst hx hb dL_law_1127 ?_
              refine lv_iload hx hb dL_law_1128 (lv_at hl 0 rfl) ?_
              refine lv_iload hx hb dL_law_1130 (lv_at hl 3 rfl) ?_
              refine jv_icmp_lt hx hb 1139 dL_law_1132 (by decide) ⟨by omega, by omega⟩ ⟨by omega, by omega⟩ (fun h_31 => ?_) (fun h_31 => ?_)
              · skip
                refine jv_iconst hx hb dL_law_1139 ?_
                refine lv_icmp_eq (tgt := 1145) hx hb dL_law_1140 (by decide) (fun _ => ?_) (fun h => absurd rfl h)
                exact j1145 _ _ _ hW hl
              · skip
                refine jv_iconst hx hb dL_law_1135 ?_
                refine lv_goto (tgt := 1140) hx hb dL_law_1136 (by decide) ?_
                refine jv_icmp_eq hx hb 1145 dL_law_1140 (by decide) ⟨by omega, by omega⟩ ⟨by omega, by omega⟩ (fun h_32 => ?_) (fun h_32 => by exfalso; omega)
                exact j1145 _ _ _ hW hl
            · skip
              refine jv_iconst hx hb dL_law_1123 ?_
              refine lv_goto (tgt := 1128) hx hb dL_law_1124 (by decide) ?_
              refine lv_iload hx hb dL_law_1128 (lv_at hl 0 rfl) ?_
              refine lv_iload hx hb dL_law_1130 (lv_at hl 3 rfl) ?_
              refine jv_icmp_lt hx hb 1139 dL_law_1132 (by decide) ⟨by omega, by omega⟩ ⟨by omega, by omega⟩ (fun h_33 => ?_) (fun h_33 => ?_)
              · skip
                refine jv_iconst hx hb dL_law_1139 ?_
                refine jv_icmp_eq hx hb 1145 dL_law_1140 (by decide) ⟨by omega, by omega⟩ ⟨by omega, by omega⟩ (fun h_34 => ?_) (fun h_34 => by exfalso; omega)
                exact j1145 _ _ _ hW hl
              · skip
                refine jv_iconst hx hb dL_law_1135 ?_
                refine lv_goto (tgt := 1140) hx hb dL_law_1136 (by decide) ?_
                refine lv_icmp_eq (tgt := 1145) hx hb dL_law_1140 (by decide) (fun _ => ?_) (fun h => absurd rfl h)
                exact j1145 _ _ _ hW hl
          refine jv_icmp_ne hx hb 1093 dL_law_1086 (by decide) ⟨by omega, by omega⟩ ⟨by omega, by omega⟩ (fun h_35 => ?_) (fun h_35 => ?_)
          · skip
            refine jv_iconst hx hb dL_law_1093 ?_
            refine jv_icmp_eq hx hb 1111 dL_law_1094 (by decide) ⟨by omega, by omega⟩ ⟨by omega, by omega⟩ (fun h_36 => ?_) (fun h_36 => ?_)
            · skip
              exact j1111 _ _ _ hW hl
            · skip
              refine lv_iload hx hb dL_law_1097 (lv_at hl 2 rfl) ?_
              refine jv_if_lt hx hb 1109 dL_law_1099 (by decide) ⟨by omega, by omega⟩ (fun h_37 => by exfalso; omega) (fun h_37 => ?_)
              refine lv_iload hx hb dL_law_1102 (lv_at hl 0 rfl) ?_
              refine lv_iload hx hb dL_law_1104 (lv_at hl 2 rfl) ?_
              refine jv_icmp_gt hx hb 1111 dL_law_1106 (by decide) ⟨by omega, by omega⟩ ⟨by omega, by omega⟩ (fun h_38 => ?_) (fun h_38 => by exfalso; omega)
              exact j1111 _ _ _ hW hl
          · skip
            refine jv_iconst hx hb dL_law_1089 ?_
            refine lv_goto (tgt := 1094) hx hb dL_law_1090 (by decide) ?_
            refine jv_icmp_eq hx hb 1111 dL_law_1094 (by decide) ⟨by omega, by omega⟩ ⟨by omega, by omega⟩ (fun h_39 => ?_) (fun h_39 => ?_)
            · skip
              exact j1111 _ _ _ hW hl
            · skip
              refine lv_iload hx hb dL_law_1097 (lv_at hl 2 rfl) ?_
              refine jv_if_lt hx hb 1109 dL_law_1099 (by decide) ⟨by omega, by omega⟩ (fun h_40 => by exfalso; omega) (fun h_40 => ?_)
              refine lv_iload hx hb dL_law_1102 (lv_at hl 0 rfl) ?_
              refine lv_iload hx hb dL_law_1104 (lv_at hl 2 rfl) ?_
              refine jv_icmp_gt hx hb 1111 dL_law_1106 (by decide) ⟨by omega, by omega⟩ ⟨by omega, by omega⟩ (fun h_41 => ?_) (fun h_41 => by exfalso; omega)
              exact j1111 _ _ _ hW hl
    refine jv_iconst hx hb dL_law_1055 ?_
    refine jv_icmp_ne hx hb 1068 dL_law_1056 (by decide) ⟨by omega, by omega⟩ ⟨by omega, by omega⟩ (fun h_42 => ?_) (fun h_42 => ?_)
    · skip
      exact j1068 _ _ _ hW hl
    · skip
      refine lv_aload_n hx hb dL_law_1059 rfl (lv_at hl 4 rfl) ?_
      refine fina_i (k := k0) (n := n0) (W2 := (fun _ => ((WX κ x a a2 ++ (WC κ a σ br ++ (WC κ a2 (pbn σ 3) bt ++ (WS κ q pp M (σ 5 0) (σ 5 1) (σ 5 2) ++ (WA κ q1 (nn σ) (σ 1) ++ (WA κ q2 (nn σ) (σ 0) ++ (WZ κ q3 (nn σ) (snb σ)))))))) ++ RP κ M σ))) hW (va_free hW.2.1 hW.2.2 hA [0, 1, 2, 3, 4, 5, 6, 7] rfl) (va_runV (As := []) (rest := []) F ((m_X1_isClear l κ x a a2 σ br hI) _) (cwV 0 hts gL_law_X1_isClear rfl rfl rfl (by decide +kernel) ⟨(Nat.le_of_ble_eq_true rfl), (Nat.le_of_ble_eq_true rfl)⟩) (pre_V hK hW [0, 1, 2, 3, 4, 5, 6, 7] rfl (by decide) 1 0 rfl rfl) rfl rfl hl.1 rfl (lv_room (Nat.le_of_ble_eq_true rfl)) dL_law_1060 ⟨(by first | exact Nat.le_of_ble_eq_true rfl | omega | (dsimp only [rm_law, rm_X1_isClear]; omega)), (by first | exact Nat.le_of_ble_eq_true rfl | omega | (dsimp only [rm_law, rm_X1_isClear]; omega))⟩) (fun u H1 locs1 g1 g2 g3 g4 => St.joinQ hW hA [0, 1, 2, 3, 4, 5, 6, 7] [8, 9, 10, 11, 12, 13, 14, 15, 16, 17, 18, 19] [12, 13, 14, 15, 16, 17, 18, 19, 0, 1, 2, 3, 4, 5, 6, 7, 8, 9, 10, 11] rfl rfl rfl (by decide) rfl rfl g1 g2 g3 g4) (by first | exact Nat.le_of_ble_eq_true rfl | omega | (dsimp only [rm_law, rm_X1_isClear]; omega)) (by first | exact Nat.le_of_ble_eq_true rfl | omega | (dsimp only [rm_law, rm_X1_isClear]; omega)) (fun r_44 u H locs hp_43 hW => ?_)
      subst hp_43
      refine jv_ifb_ne (b := (ic σ)) hx hb 1068 dL_law_1063 (by decide) (fun h_45 => ?_) (fun h_45 => by exfalso; rw [uc_1 (by omega)] at h_45; cases h_45)
      exact j1068 _ _ _ hW hl
  refine jv_if_ne hx hb 1027 dL_law_1020 (by decide) ⟨by omega, by omega⟩ (fun h_46 => ?_) (fun h_46 => ?_)
  · skip
    refine jv_iconst hx hb dL_law_1027 ?_
    refine lv_iload hx hb dL_law_1028 (lv_at hl 8 rfl) ?_
    refine jv_if_ne hx hb 1037 dL_law_1030 (by decide) ⟨by omega, by omega⟩ (fun h_47 => ?_) (fun h_47 => ?_)
    · skip
      refine jv_iconst hx hb dL_law_1037 ?_
      refine jv_icmp_ne hx hb 1066 dL_law_1038 (by decide) ⟨by omega, by omega⟩ ⟨by omega, by omega⟩ (fun h_48 => by exfalso; omega) (fun h_48 => ?_)
      exact j1041 _ _ _ hW hl
    · skip
      refine jv_iconst hx hb dL_law_1033 ?_
      refine lv_goto (tgt := 1038) hx hb dL_law_1034 (by decide) ?_
      refine jv_icmp_ne hx hb 1066 dL_law_1038 (by decide) ⟨by omega, by omega⟩ ⟨by omega, by omega⟩ (fun h_49 => by exfalso; omega) (fun h_49 => ?_)
      exact j1041 _ _ _ hW hl
  · skip
    refine jv_iconst hx hb dL_law_1023 ?_
    refine lv_goto (tgt := 1028) hx hb dL_law_1024 (by decide) ?_
    refine lv_iload hx hb dL_law_1028 (lv_at hl 8 rfl) ?_
    refine jv_if_ne hx hb 1037 dL_law_1030 (by decide) ⟨by omega, by omega⟩ (fun h_50 => ?_) (fun h_50 => ?_)
    · skip
      refine jv_iconst hx hb dL_law_1037 ?_
      refine jv_icmp_ne hx hb 1066 dL_law_1038 (by decide) ⟨by omega, by omega⟩ ⟨by omega, by omega⟩ (fun h_51 => by exfalso; omega) (fun h_51 => ?_)
      exact j1041 _ _ _ hW hl
    · skip
      refine jv_iconst hx hb dL_law_1033 ?_
      refine lv_goto (tgt := 1038) hx hb dL_law_1034 (by decide) ?_
      refine jv_icmp_ne hx hb 1066 dL_law_1038 (by decide) ⟨by omega, by omega⟩ ⟨by omega, by omega⟩ (fun h_52 => by exfalso; omega) (fun h_52 => ?_)
      exact j1041 _ _ _ hW hl
