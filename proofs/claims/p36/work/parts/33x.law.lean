set_option maxHeartbeats 4000000 in
set_option maxRecDepth 100000 in
/-- the law: three acts -/
theorem law_X {P : Program} {l : Launch} {e : Env} {s : State} {m : MethodId} {below : List Frame} {meth : Method} {c : Code} {Q : State → Prop} {b L : Nat} {xs : Nat → Int32} {κ : Kp} {A : Nat → Prop} (F : CallFix P m c cL_law 25 s #[Value.ref b] wsL_law RL) (hK : Kx κ s) (hA : ∀ q, s.heap.size ≤ q → A q) (hX : va_X b L xs s s.heap) (hbl : b < s.heap.size) (hbA : ¬ A b) (hL : L ≤ 2048) {x q pp : Nat} {a a2 : Nat → Nat} {M : List Nat} {σ τ : Sg} {br bt : Nat → Int} {tm : Nat} (htm : tm < 10) {v : Int32} {k0 n0 : Nat} (hk0 : k0 + 20 ≤ 600130) (hn0 : n0 + 200 ≤ 7301080) (hG : Gd σ M) (hp0 : 0 < nn σ) (hB : σ 5 0 ≤ 900000) (hC : σ 5 1 ≤ 900000) (hB2 : σ 5 0 ≤ 800000) (hC2 : σ 5 1 ≤ 800000)
    (next82 : ∀ (σ1 : Sg) (M1 : List Nat) (p1 : Nat) (v1 : Int32) (H : Heap) (locs : List Loc) (ls : Array Slot), (Gd σ1 M1) → (nn σ ≤ nn σ1) → (σ1 5 0 ≤ σ 5 0 + 180) → (σ1 5 1 ≤ σ 5 1 + 180) → St κ A s.heap H locs ((WX κ x a a2 ++ (WC κ a σ1 br ++ (WC κ a2 τ bt ++ (WS κ q p1 M1 (σ1 5 0) (σ1 5 1) (σ1 5 2))))) ++ RP κ M1 σ1) → lv_has ls 25 [(0, .ref b), (1, .ref x), (2, .ref q), (3, .int (J (tm : Int))), (4, .int v1)] → W P l e rm_law s m #[Value.ref b] below meth c H locs (k0 + 6) (n0 + 48) Q (F0 m 82 ls []))
    {H : Heap} {locs : List Loc} {ls : Array Slot} (hW : St κ A s.heap H locs ((WX κ x a a2 ++ (WC κ a σ br ++ (WC κ a2 τ bt ++ (WS κ q pp M (σ 5 0) (σ 5 1) (σ 5 2))))) ++ RP κ M σ)) (hl : lv_has ls 25 [(0, .ref b), (1, .ref x), (2, .ref q), (3, .int (J (tm : Int)))]) : W P l e rm_law s m #[Value.ref b] below meth c H locs k0 n0 Q (F0 m 28 ls []) := by
  obtain ⟨hx, hb, hml, hown, hts⟩ := id F
  have hI := hG.1
  have hLn := hG.2.1
  have hN := hI.hN
  have hN10 := hI.n10
  have hnn := hI.1
  have hb50 := hI.2.1
  have hb51 := hI.2.2.1
  refine lv_aload_n hx hb dL_law_28 rfl (lv_at hl 0 rfl) ?_
  refine lv_iload_n hx hb dL_law_29 rfl (lv_at hl 3 rfl) ?_
  refine jv_iconst hx hb dL_law_30 ?_
  refine jv_iadd hx hb dL_law_31 ?_
  refine jv_eq (y := ((tm + 1 : Nat) : Int)) (by omega) ?_
  refine fina_i (k := k0) (n := n0) (W2 := (fun _ => ((WX κ x a a2 ++ (WC κ a σ br ++ (WC κ a2 τ bt ++ (WS κ q pp M (σ 5 0) (σ 5 1) (σ 5 2))))) ++ RP κ M σ))) hW (va_free hW.2.1 hW.2.2 hA [] rfl) (va_runS (As := [.ref b, .int (J ((tm + 1) : Int))]) (rest := []) F ((m_L_cell l κ b L xs hL (tm + 1) (by omega)) _) (va_cwS 2 hts gL_law_L_cell rfl rfl rfl (by decide +kernel) ⟨(Nat.le_of_ble_eq_true rfl), (Nat.le_of_ble_eq_true rfl)⟩) (pre_SBP hX hbl hbA hA hK hW [] rfl (by decide)) rfl rfl hl.1 rfl (lv_room (Nat.le_of_ble_eq_true rfl)) dL_law_32 ⟨(by first | exact Nat.le_of_ble_eq_true rfl | omega | (dsimp only [rm_law, rm_L_cell]; omega)), (by first | exact Nat.le_of_ble_eq_true rfl | omega | (dsimp only [rm_law, rm_L_cell]; omega))⟩) (fun u H1 locs1 g1 g2 g3 g4 => St.joinQ hW hA [] [0, 1, 2, 3, 4, 5, 6, 7, 8, 9, 10, 11, 12, 13, 14, 15, 16] [0, 1, 2, 3, 4, 5, 6, 7, 8, 9, 10, 11, 12, 13, 14, 15, 16] rfl rfl rfl (by decide) rfl rfl g1 g2 g3 g4) (by first | exact Nat.le_of_ble_eq_true rfl | omega | (dsimp only [rm_law, rm_L_cell]; omega)) (by first | exact Nat.le_of_ble_eq_true rfl | omega | (dsimp only [rm_law, rm_L_cell]; omega)) (fun v_1 u H locs hp_2 hW => ?_)
  refine jv_iconst hx hb dL_law_35 ?_
  refine lv_ishr hx hb dL_law_36 ?_
  refine jv_bipush hx hb 53 dL_law_37 (by decide +kernel) ?_
  refine lv_iload_n hx hb dL_law_39 rfl (lv_at hl 3 rfl) ?_
  refine jv_imul hx hb dL_law_40 ?_
  refine lv_iadd hx hb dL_law_41 ?_
  refine lv_topi (fun y_3 hy_3 => ?_)
  refine lv_istore (lv' := [(4, .int y_3), (0, .ref b), (1, .ref x), (2, .ref q), (3, .int (J (tm : Int)))]) hx hb dL_law_42 hl (by decide) rfl (fun ls hl => ?_)
  refine jv_iconst hx hb dL_law_44 ?_
  refine lv_istore (lv' := [(5, .int (J 0)), (4, .int y_3), (0, .ref b), (1, .ref x), (2, .ref q), (3, .int (J (tm : Int)))]) hx hb dL_law_45 hl (by decide) rfl (fun ls hl => ?_)
  refine W.widen (k := k0 + 2 * 0) (n := n0 + 16 * 0) (by omega) (by omega) ?_
  suffices hlp : ∀ (n i : Nat), i ≤ 3 → 3 < i + n → ∀ (σ1 : Sg), ∀ (M1 : List Nat), ∀ (p1 : Nat), ∀ (H : Heap) (locs : List Loc) (ls : Array Slot), (Gd σ1 M1 ∧ nn σ ≤ nn σ1 ∧ σ1 5 0 ≤ σ 5 0 + 60 * (i : Int) ∧ σ1 5 1 ≤ σ 5 1 + 60 * (i : Int)) → St κ A s.heap H locs ((WX κ x a a2 ++ (WC κ a σ1 br ++ (WC κ a2 τ bt ++ (WS κ q p1 M1 (σ1 5 0) (σ1 5 1) (σ1 5 2))))) ++ RP κ M1 σ1) → lv_has ls 25 [(5, .int (J (i : Int))), (4, .int y_3), (0, .ref b), (1, .ref x), (2, .ref q), (3, .int (J (tm : Int)))] → W P l e rm_law s m #[Value.ref b] below meth c H locs (k0 + 2 * i) (n0 + 16 * i) Q (F0 m 47 ls []) from
    hlp (3 + 1) 0 (Nat.zero_le _) (by omega) σ M pp _ _ _ (⟨hG, Nat.le_refl _, by omega, by omega⟩) hW hl
  intro n
  induction n with
  | zero => intro i h1 h2; exact absurd h2 (by omega)
  | succ n ih =>
    intro i hi hn σ1 M1 p1 H locs ls q_G hW hl
    obtain ⟨hG1, hnn1, hb1, hc1⟩ := q_G
    refine lv_iload hx hb dL_law_47 (lv_at hl 0 rfl) ?_
    refine jv_iconst hx hb dL_law_49 ?_
    refine jv_icmp_ge hx hb 82 dL_law_50 (by decide) ⟨by omega, by omega⟩ ⟨by omega, by omega⟩ (fun h_4 => ?_) (fun h_4 => ?_)
    · skip
      refine W.widen (k := k0 + 6) (n := n0 + 48) (by omega) (by omega) ?_
      exact next82 σ1 M1 p1 y_3 _ _ _ hG1 hnn1 (by omega) (by omega) hW (lv_sub hl [2, 3, 4, 5, 1] rfl)
    · skip
      refine lv_aload_n hx hb dL_law_53 rfl (lv_at hl 3 rfl) ?_
      refine lv_aload_n hx hb dL_law_54 rfl (lv_at hl 4 rfl) ?_
      refine lv_iload hx hb dL_law_55 (lv_at hl 1 rfl) ?_
      refine jv_iconst hx hb dL_law_57 ?_
      refine lv_iload hx hb dL_law_58 (lv_at hl 0 rfl) ?_
      refine jv_imul hx hb dL_law_60 ?_
      refine lv_ishr hx hb dL_law_61 ?_
      refine jv_bipush hx hb 29 dL_law_62 (by decide +kernel) ?_
      refine lv_iload hx hb dL_law_64 (lv_at hl 0 rfl) ?_
      refine jv_imul hx hb dL_law_66 ?_
      refine lv_iadd hx hb dL_law_67 ?_
      refine fina_i (k := ((k0 + 2 * i) + 2)) (n := ((n0 + 16 * i) + 16)) (W2 := (fun ua_5 => ((WX κ x a a2 ++ (WC κ a ua_5.1 br ++ (WC κ a2 τ bt ++ (WS κ q ua_5.2.1 ua_5.2.2 (ua_5.1 5 0) (ua_5.1 5 1) (ua_5.1 5 2))))) ++ RP κ ua_5.2.2 ua_5.1))) hW (va_freeP hW.2.1 hW.2.2 hA [0, 1, 2, 3, 4, 5, 6, 7, 15, 16] rfl) (va_runS (As := [.ref x, .ref q, .int ((y_3 >>> ((J (3 * (i : Int))) &&& 31)) + (J (29 * (i : Int))))]) (rest := []) F ((m_L_act l κ x a a2 br q p1 M1 σ1 ((y_3 >>> ((J (3 * (i : Int))) &&& 31)) + (J (29 * (i : Int)))) hG1 (by omega) (by omega)) _) (va_cwS 3 hts gL_law_L_act rfl rfl rfl (by decide +kernel) ⟨(Nat.le_of_ble_eq_true rfl), (Nat.le_of_ble_eq_true rfl)⟩) (pre_SP hK hW [0, 1, 2, 3, 4, 5, 6, 7, 15, 16] rfl (by decide)) rfl rfl hl.1 rfl (lv_room (Nat.le_of_ble_eq_true rfl)) dL_law_68 ⟨(by first | exact Nat.le_of_ble_eq_true rfl | omega | (dsimp only [rm_law, rm_L_act]; omega)), (by first | exact Nat.le_of_ble_eq_true rfl | omega | (dsimp only [rm_law, rm_L_act]; omega))⟩) (fun u H1 locs1 g1 g2 g3 g4 => St.joinP hW hA [0, 1, 2, 3, 4, 5, 6, 7, 15, 16] [8, 9, 10, 11, 12, 13, 14] [7, 8, 9, 10, 11, 12, 13, 14, 0, 1, 2, 3, 4, 5, 6, 15, 16] rfl rfl rfl (by decide) rfl rfl g1 g2 g3 g4) (by first | exact Nat.le_of_ble_eq_true rfl | omega | (dsimp only [rm_law, rm_L_act]; omega)) (by first | exact Nat.le_of_ble_eq_true rfl | omega | (dsimp only [rm_law, rm_L_act]; omega)) (fun r_7 ua_5 H locs hp_6 hW => ?_)
      obtain ⟨rfl, hag⟩ := hp_6
      have hag1 := hag.2.1
      have hag2 := hag.2.2.1
      have hag3 := hag.2.2.2
      refine jv_if_ne hx hb 76 dL_law_71 (by decide) ⟨by omega, by omega⟩ (fun h => ?_) (fun h => by exfalso; omega)
      refine jv_iinc (k := 0) (z := (i : Int)) (lv' := [(5, .int (J ((i : Int) + 1))), (4, .int y_3), (0, .ref b), (1, .ref x), (2, .ref q), (3, .int (J (tm : Int)))]) hx hb dL_law_76 hl rfl (by decide) rfl (fun ls hl => ?_)
      refine lv_goto (tgt := 47) hx hb dL_law_79 (by decide) ?_
      exact ih (i + 1) (by omega) (by omega) ua_5.1 ua_5.2.2 ua_5.2.1 _ _ _ (⟨hag.1, by omega, by omega, by omega⟩) hW hl
