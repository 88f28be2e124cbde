set_option maxHeartbeats 4000000 in
set_option maxRecDepth 100000 in
/-- the law: the chord -/
theorem law_B {P : Program} {l : Launch} {e : Env} {s : State} {m : MethodId} {below : List Frame} {meth : Method} {c : Code} {Q : State → Prop} {b L : Nat} {xs : Nat → Int32} {κ : Kp} {A : Nat → Prop} (F : CallFix P m c cL_law 25 s #[Value.ref b] wsL_law RL) (hK : Kx κ s) (hA : ∀ q, s.heap.size ≤ q → A q) (hX : va_X b L xs s s.heap) (hbl : b < s.heap.size) (hbA : ¬ A b) (hL : L ≤ 2048) {x q pp : Nat} {a a2 : Nat → Nat} {M : List Nat} {σ τ : Sg} {br bt : Nat → Int} {tm : Nat} (htm : tm < 10) {v : Int32} {k0 n0 : Nat} (hk0 : k0 + 20 ≤ 600130) (hn0 : n0 + 200 ≤ 7301080) (hG : Gd σ M) (hp0 : 0 < nn σ) (hB : σ 5 0 ≤ 900000) (hC : σ 5 1 ≤ 900000) {q1 q2 q3 : Nat}
    (next633 : ∀ (H : Heap) (locs : List Loc) (ls : Array Slot), St κ A s.heap H locs ((WX κ x a a2 ++ (WC κ a σ br ++ (WC κ a2 τ bt ++ (WS κ q pp M (σ 5 0) (σ 5 1) (σ 5 2) ++ (WA κ q1 (nn σ) (σ 1) ++ (WA κ q2 (nn σ) (σ 0) ++ (WZ κ q3 (nn σ) (snb σ)))))))) ++ RP κ M σ) → lv_has ls 25 [(0, .ref b), (1, .ref x), (2, .ref q), (3, .int (J (tm : Int))), (4, .int v), (5, .long (dg σ)), (7, .int (J (nn σ : Int))), (8, .int (J (ns σ : Int))), (9, .int (J (cc2 σ : Int))), (11, .ref q1), (12, .ref q2), (13, .ref q3), (14, .int (J (hst σ)))] → W P l e rm_law s m #[Value.ref b] below meth c H locs k0 n0 Q (F0 m 633 ls []))
    {H : Heap} {locs : List Loc} {ls : Array Slot} (hW : St κ A s.heap H locs ((WX κ x a a2 ++ (WC κ a σ br ++ (WC κ a2 τ bt ++ (WS κ q pp M (σ 5 0) (σ 5 1) (σ 5 2) ++ (WA κ q1 (nn σ) (σ 1) ++ (WA κ q2 (nn σ) (σ 0) ++ (WZ κ q3 (nn σ) (snb σ)))))))) ++ RP κ M σ)) (hl : lv_has ls 25 [(0, .ref b), (1, .ref x), (2, .ref q), (3, .int (J (tm : Int))), (4, .int v), (5, .long (dg σ)), (7, .int (J (nn σ : Int))), (8, .int (J (ns σ : Int))), (9, .int (J (cc2 σ : Int))), (10, .int (J 0)), (11, .ref q1), (12, .ref q2), (13, .ref q3)]) : W P l e rm_law s m #[Value.ref b] below meth c H locs k0 n0 Q (F0 m 421 ls []) := by
  obtain ⟨hx, hb, hml, hown, hts⟩ := id F
  have hI := hG.1
  have hLn := hG.2.1
  have hN := hI.hN
  have hN10 := hI.n10
  have hnn := hI.1
  have hb50 := hI.2.1
  have hb51 := hI.2.2.1
  refine jv_iconst hx hb dL_law_421 ?_
  refine lv_istore (lv' := [(14, .int (J 0)), (0, .ref b), (1, .ref x), (2, .ref q), (3, .int (J (tm : Int))), (4, .int v), (5, .long (dg σ)), (7, .int (J (nn σ : Int))), (8, .int (J (ns σ : Int))), (9, .int (J (cc2 σ : Int))), (10, .int (J 0)), (11, .ref q1), (12, .ref q2), (13, .ref q3)]) hx hb dL_law_422 hl (by decide) rfl (fun ls hl => ?_)
  suffices hlp : ∀ (n i : Nat), i ≤ 4 → 4 < i + n → ∀ (pt : Int), ∀ (H : Heap) (locs : List Loc) (ls : Array Slot), (pt = (psm σ i : Int)) → St κ A s.heap H locs ((WX κ x a a2 ++ (WC κ a σ br ++ (WC κ a2 τ bt ++ (WS κ q pp M (σ 5 0) (σ 5 1) (σ 5 2) ++ (WA κ q1 (nn σ) (σ 1) ++ (WA κ q2 (nn σ) (σ 0) ++ (WZ κ q3 (nn σ) (snb σ)))))))) ++ RP κ M σ) → lv_has ls 25 [(14, .int (J (i : Int))), (0, .ref b), (1, .ref x), (2, .ref q), (3, .int (J (tm : Int))), (4, .int v), (5, .long (dg σ)), (7, .int (J (nn σ : Int))), (8, .int (J (ns σ : Int))), (9, .int (J (cc2 σ : Int))), (10, .int (J pt)), (11, .ref q1), (12, .ref q2), (13, .ref q3)] → W P l e rm_law s m #[Value.ref b] below meth c H locs k0 n0 Q (F0 m 424 ls []) from
    hlp (4 + 1) 0 (Nat.zero_le _) (by omega) 0 _ _ _ (by rfl) hW hl
  intro n
  induction n with
  | zero => intro i h1 h2; exact absurd h2 (by omega)
  | succ n ih =>
    intro i hi hn pt H locs ls q_pt hW hl
    refine lv_iload hx hb dL_law_424 (lv_at hl 0 rfl) ?_
    refine jv_iconst hx hb dL_law_426 ?_
    refine jv_icmp_ge hx hb 447 dL_law_427 (by decide) ⟨by omega, by omega⟩ ⟨by omega, by omega⟩ (fun h_1 => ?_) (fun h_1 => ?_)
    · skip
      have hpt : pt = (ns σ : Int) := by rw [q_pt, show i = 4 by omega, psm_4 hI]
      have hns := ns_le σ
      have hcc := cc2_le hN10
      have h2c := cc2_ccl σ
      have hmr := hm_rng hN10
      have hcr := ccl_rng hN10
      have htri := tri_b (Nat.le_trans (ns_le σ) hN10)
      have hmu := hm_up σ
      have hic := ic_bi σ
      have hib := bi_rng (ic σ)
      have hhr := hst_rng hN10
      have hhn := hst_neg σ
      have hfr := fl_rng hI
      have hfn := ns_pos_fl hI
      refine lv_aload_n hx hb dL_law_447 rfl (lv_at hl 2 rfl) ?_
      refine fina_i (k := k0) (n := n0) (W2 := (fun _ => ((WX κ x a a2 ++ (WC κ a σ br ++ (WC κ a2 τ bt ++ (WS κ q pp M (σ 5 0) (σ 5 1) (σ 5 2) ++ (WA κ q1 (nn σ) (σ 1) ++ (WA κ q2 (nn σ) (σ 0) ++ (WZ κ q3 (nn σ) (snb σ)))))))) ++ RP κ M σ))) hW (va_free hW.2.1 hW.2.2 hA [0, 1, 2, 3, 4, 5, 6, 7] rfl) (va_runV (As := []) (rest := []) F ((m_X1_harshest l κ x a a2 σ br hI) _) (cwV 0 hts gL_law_X1_harshest rfl rfl rfl (by decide +kernel) ⟨(Nat.le_of_ble_eq_true rfl), (Nat.le_of_ble_eq_true rfl)⟩) (pre_V hK hW [0, 1, 2, 3, 4, 5, 6, 7] rfl (by decide) 1 0 rfl rfl) rfl rfl hl.1 rfl (lv_room (Nat.le_of_ble_eq_true rfl)) dL_law_448 ⟨(by first | exact Nat.le_of_ble_eq_true rfl | omega | (dsimp only [rm_law, rm_X1_harshest]; omega)), (by first | exact Nat.le_of_ble_eq_true rfl | omega | (dsimp only [rm_law, rm_X1_harshest]; omega))⟩) (fun u H1 locs1 g1 g2 g3 g4 => St.joinQ hW hA [0, 1, 2, 3, 4, 5, 6, 7] [8, 9, 10, 11, 12, 13, 14, 15, 16, 17, 18, 19] [12, 13, 14, 15, 16, 17, 18, 19, 0, 1, 2, 3, 4, 5, 6, 7, 8, 9, 10, 11] rfl rfl rfl (by decide) rfl rfl g1 g2 g3 g4) (by first | exact Nat.le_of_ble_eq_true rfl | omega | (dsimp only [rm_law, rm_X1_harshest]; omega)) (by first | exact Nat.le_of_ble_eq_true rfl | omega | (dsimp only [rm_law, rm_X1_harshest]; omega)) (fun r_3 u H locs hp_2 hW => ?_)
      subst hp_2
      refine lv_istore (lv' := [(14, .int (J (hst σ))), (0, .ref b), (1, .ref x), (2, .ref q), (3, .int (J (tm : Int))), (4, .int v), (5, .long (dg σ)), (7, .int (J (nn σ : Int))), (8, .int (J (ns σ : Int))), (9, .int (J (cc2 σ : Int))), (10, .int (J pt)), (11, .ref q1), (12, .ref q2), (13, .ref q3)]) hx hb dL_law_451 hl (by decide) rfl (fun ls hl => ?_)
      refine lv_iload hx hb dL_law_453 (lv_at hl 8 rfl) ?_
      refine lv_aload_n hx hb dL_law_455 rfl (lv_at hl 2 rfl) ?_
      refine fina_i (k := k0) (n := n0) (W2 := (fun _ => ((WX κ x a a2 ++ (WC κ a σ br ++ (WC κ a2 τ bt ++ (WS κ q pp M (σ 5 0) (σ 5 1) (σ 5 2) ++ (WA κ q1 (nn σ) (σ 1) ++ (WA κ q2 (nn σ) (σ 0) ++ (WZ κ q3 (nn σ) (snb σ)))))))) ++ RP κ M σ))) hW (va_free hW.2.1 hW.2.2 hA [0, 1, 2, 3, 4, 5, 6, 7] rfl) (va_runV (As := []) (rest := [.int (J (ns σ : Int))]) F ((m_X1_sounding l κ x a a2 σ br hI) _) (cwV 0 hts gL_law_X1_sounding rfl rfl rfl (by decide +kernel) ⟨(Nat.le_of_ble_eq_true rfl), (Nat.le_of_ble_eq_true rfl)⟩) (pre_V hK hW [0, 1, 2, 3, 4, 5, 6, 7] rfl (by decide) 1 0 rfl rfl) rfl rfl hl.1 rfl (lv_room (Nat.le_of_ble_eq_true rfl)) dL_law_456 ⟨(by first | exact Nat.le_of_ble_eq_true rfl | omega | (dsimp only [rm_law, rm_X1_sounding]; omega)), (by first | exact Nat.le_of_ble_eq_true rfl | omega | (dsimp only [rm_law, rm_X1_sounding]; omega))⟩) (fun u H1 locs1 g1 g2 g3 g4 => St.joinQ hW hA [0, 1, 2, 3, 4, 5, 6, 7] [8, 9, 10, 11, 12, 13, 14, 15, 16, 17, 18, 19] [12, 13, 14, 15, 16, 17, 18, 19, 0, 1, 2, 3, 4, 5, 6, 7, 8, 9, 10, 11] rfl rfl rfl (by decide) rfl rfl g1 g2 g3 g4) (by first | exact Nat.le_of_ble_eq_true rfl | omega | (dsimp only [rm_law, rm_X1_sounding]; omega)) (by first | exact Nat.le_of_ble_eq_true rfl | omega | (dsimp only [rm_law, rm_X1_sounding]; omega)) (fun r_5 u H locs hp_4 hW => ?_)
      subst hp_4
      refine jv_icmp_ne hx hb 570 dL_law_459 (by decide) ⟨by omega, by omega⟩ ⟨by omega, by omega⟩ (fun h_6 => by exfalso; omega) (fun h_6 => ?_)
      refine lv_iload hx hb dL_law_462 (lv_at hl 10 rfl) ?_
      refine lv_iload hx hb dL_law_464 (lv_at hl 8 rfl) ?_
      refine jv_icmp_ne hx hb 570 dL_law_466 (by decide) ⟨by omega, by omega⟩ ⟨by omega, by omega⟩ (fun h_7 => by exfalso; omega) (fun h_7 => ?_)
      refine lv_iload hx hb dL_law_469 (lv_at hl 9 rfl) ?_
      refine jv_iconst hx hb dL_law_471 ?_
      refine lv_aload_n hx hb dL_law_472 rfl (lv_at hl 2 rfl) ?_
      refine fina_i (k := k0) (n := n0) (W2 := (fun _ => ((WX κ x a a2 ++ (WC κ a σ br ++ (WC κ a2 τ bt ++ (WS κ q pp M (σ 5 0) (σ 5 1) (σ 5 2) ++ (WA κ q1 (nn σ) (σ 1) ++ (WA κ q2 (nn σ) (σ 0) ++ (WZ κ q3 (nn σ) (snb σ)))))))) ++ RP κ M σ))) hW (va_free hW.2.1 hW.2.2 hA [0, 1, 2, 3, 4, 5, 6, 7] rfl) (va_runV (As := []) (rest := [.int (J 2), .int (J (cc2 σ : Int))]) F ((m_X1_clashes l κ x a a2 σ br hI) _) (cwV 0 hts gL_law_X1_clashes rfl rfl rfl (by decide +kernel) ⟨(Nat.le_of_ble_eq_true rfl), (Nat.le_of_ble_eq_true rfl)⟩) (pre_V hK hW [0, 1, 2, 3, 4, 5, 6, 7] rfl (by decide) 1 0 rfl rfl) rfl rfl hl.1 rfl (lv_room (Nat.le_of_ble_eq_true rfl)) dL_law_473 ⟨(by first | exact Nat.le_of_ble_eq_true rfl | omega | (dsimp only [rm_law, rm_X1_clashes]; omega)), (by first | exact Nat.le_of_ble_eq_true rfl | omega | (dsimp only [rm_law, rm_X1_clashes]; omega))⟩) (fun u H1 locs1 g1 g2 g3 g4 => St.joinQ hW hA [0, 1, 2, 3, 4, 5, 6, 7] [8, 9, 10, 11, 12, 13, 14, 15, 16, 17, 18, 19] [12, 13, 14, 15, 16, 17, 18, 19, 0, 1, 2, 3, 4, 5, 6, 7, 8, 9, 10, 11] rfl rfl rfl (by decide) rfl rfl g1 g2 g3 g4) (by first | exact Nat.le_of_ble_eq_true rfl | omega | (dsimp only [rm_law, rm_X1_clashes]; omega)) (by first | exact Nat.le_of_ble_eq_true rfl | omega | (dsimp only [rm_law, rm_X1_clashes]; omega)) (fun r_9 u H locs hp_8 hW => ?_)
      subst hp_8
      refine jv_imul hx hb dL_law_476 ?_
      refine jv_icmp_ne hx hb 570 dL_law_477 (by decide) ⟨by omega, by omega⟩ ⟨by omega, by omega⟩ (fun h_10 => by exfalso; omega) (fun h_10 => ?_)
      refine lv_aload_n hx hb dL_law_480 rfl (lv_at hl 2 rfl) ?_
      refine fina_i (k := k0) (n := n0) (W2 := (fun _ => ((WX κ x a a2 ++ (WC κ a σ br ++ (WC κ a2 τ bt ++ (WS κ q pp M (σ 5 0) (σ 5 1) (σ 5 2) ++ (WA κ q1 (nn σ) (σ 1) ++ (WA κ q2 (nn σ) (σ 0) ++ (WZ κ q3 (nn σ) (snb σ)))))))) ++ RP κ M σ))) hW (va_free hW.2.1 hW.2.2 hA [0, 1, 2, 3, 4, 5, 6, 7] rfl) (va_runV (As := []) (rest := []) F ((m_X1_harmony l κ x a a2 σ br hI) _) (cwV 0 hts gL_law_X1_harmony rfl rfl rfl (by decide +kernel) ⟨(Nat.le_of_ble_eq_true rfl), (Nat.le_of_ble_eq_true rfl)⟩) (pre_V hK hW [0, 1, 2, 3, 4, 5, 6, 7] rfl (by decide) 1 0 rfl rfl) rfl rfl hl.1 rfl (lv_room (Nat.le_of_ble_eq_true rfl)) dL_law_481 ⟨(by first | exact Nat.le_of_ble_eq_true rfl | omega | (dsimp only [rm_law, rm_X1_harmony]; omega)), (by first | exact Nat.le_of_ble_eq_true rfl | omega | (dsimp only [rm_law, rm_X1_harmony]; omega))⟩) (fun u H1 locs1 g1 g2 g3 g4 => St.joinQ hW hA [0, 1, 2, 3, 4, 5, 6, 7] [8, 9, 10, 11, 12, 13, 14, 15, 16, 17, 18, 19] [12, 13, 14, 15, 16, 17, 18, 19, 0, 1, 2, 3, 4, 5, 6, 7, 8, 9, 10, 11] rfl rfl rfl (by decide) rfl rfl g1 g2 g3 g4) (by first | exact Nat.le_of_ble_eq_true rfl | omega | (dsimp only [rm_law, rm_X1_harmony]; omega)) (by first | exact Nat.le_of_ble_eq_true rfl | omega | (dsimp only [rm_law, rm_X1_harmony]; omega)) (fun r_12 u H locs hp_11 hW => ?_)
      subst hp_11
      refine lv_iload hx hb dL_law_484 (lv_at hl 8 rfl) ?_
      refine lv_iload hx hb dL_law_486 (lv_at hl 8 rfl) ?_
      refine jv_iconst hx hb dL_law_488 ?_
      refine jv_isub hx hb dL_law_489 ?_
      refine jv_imul hx hb dL_law_490 ?_
      refine jv_iconst hx hb dL_law_491 ?_
      refine jv_idiv hx hb dL_law_492 (by omega) ?_
      refine lv_iload hx hb dL_law_493 (lv_at hl 9 rfl) ?_
      refine jv_isub hx hb dL_law_495 ?_
      refine jv_icmp_ne hx hb 570 dL_law_496 (by decide) ⟨by omega, by omega⟩ ⟨by omega, by omega⟩ (fun h_13 => by exfalso; omega) (fun h_13 => ?_)
      refine lv_aload_n hx hb dL_law_499 rfl (lv_at hl 2 rfl) ?_
      refine fina_i (k := k0) (n := n0) (W2 := (fun _ => ((WX κ x a a2 ++ (WC κ a σ br ++ (WC κ a2 τ bt ++ (WS κ q pp M (σ 5 0) (σ 5 1) (σ 5 2) ++ (WA κ q1 (nn σ) (σ 1) ++ (WA κ q2 (nn σ) (σ 0) ++ (WZ κ q3 (nn σ) (snb σ)))))))) ++ RP κ M σ))) hW (va_free hW.2.1 hW.2.2 hA [0, 1, 2, 3, 4, 5, 6, 7] rfl) (va_runV (As := []) (rest := []) F ((m_X1_isClear l κ x a a2 σ br hI) _) (cwV 0 hts gL_law_X1_isClear rfl rfl rfl (by decide +kernel) ⟨(Nat.le_of_ble_eq_true rfl), (Nat.le_of_ble_eq_true rfl)⟩) (pre_V hK hW [0, 1, 2, 3, 4, 5, 6, 7] rfl (by decide) 1 0 rfl rfl) rfl rfl hl.1 rfl (lv_room (Nat.le_of_ble_eq_true rfl)) dL_law_500 ⟨(by first | exact Nat.le_of_ble_eq_true rfl | omega | (dsimp only [rm_law, rm_X1_isClear]; omega)), (by first | exact Nat.le_of_ble_eq_true rfl | omega | (dsimp only [rm_law, rm_X1_isClear]; omega))⟩) (fun u H1 locs1 g1 g2 g3 g4 => St.joinQ hW hA [0, 1, 2, 3, 4, 5, 6, 7] [8, 9, 10, 11, 12, 13, 14, 15, 16, 17, 18, 19] [12, 13, 14, 15, 16, 17, 18, 19, 0, 1, 2, 3, 4, 5, 6, 7, 8, 9, 10, 11] rfl rfl rfl (by decide) rfl rfl g1 g2 g3 g4) (by first | exact Nat.le_of_ble_eq_true rfl | omega | (dsimp only [rm_law, rm_X1_isClear]; omega)) (by first | exact Nat.le_of_ble_eq_true rfl | omega | (dsimp only [rm_law, rm_X1_isClear]; omega)) (fun r_15 u H locs hp_14 hW => ?_)
      subst hp_14
      have j522 : ∀ (H : Heap) (locs : List Loc) (ls : Array Slot), St κ A s.heap H locs ((WX κ x a a2 ++ (WC κ a σ br ++ (WC κ a2 τ bt ++ (WS κ q pp M (σ 5 0) (σ 5 1) (σ 5 2) ++ (WA κ q1 (nn σ) (σ 1) ++ (WA κ q2 (nn σ) (σ 0) ++ (WZ κ q3 (nn σ) (snb σ)))))))) ++ RP κ M σ) → lv_has ls 25 [(14, .int (J (hst σ))), (0, .ref b), (1, .ref x), (2, .ref q), (3, .int (J (tm : Int))), (4, .int v), (5, .long (dg σ)), (7, .int (J (nn σ : Int))), (8, .int (J (ns σ : Int))), (9, .int (J (cc2 σ : Int))), (10, .int (J pt)), (11, .ref q1), (12, .ref q2), (13, .ref q3)] → W P l e rm_law s m #[Value.ref b] below meth c H locs k0 n0 Q (F0 m 522 ls []) := by
        intro H locs ls hW hl
        refine lv_iload hx hb dL_law_522 (lv_at hl 0 rfl) ?_
        have j545 : ∀ (H : Heap) (locs : List Loc) (ls : Array Slot), St κ A s.heap H locs ((WX κ x a a2 ++ (WC κ a σ br ++ (WC κ a2 τ bt ++ (WS κ q pp M (σ 5 0) (σ 5 1) (σ 5 2) ++ (WA κ q1 (nn σ) (σ 1) ++ (WA κ q2 (nn σ) (σ 0) ++ (WZ κ q3 (nn σ) (snb σ)))))))) ++ RP κ M σ) → lv_has ls 25 [(14, .int (J (hst σ))), (0, .ref b), (1, .ref x), (2, .ref q), (3, .int (J (tm : Int))), (4, .int v), (5, .long (dg σ)), (7, .int (J (nn σ : Int))), (8, .int (J (ns σ : Int))), (9, .int (J (cc2 σ : Int))), (10, .int (J pt)), (11, .ref q1), (12, .ref q2), (13, .ref q3)] → W P l e rm_law s m #[Value.ref b] below meth c H locs k0 n0 Q (F0 m 545 ls []) := by
          intro H locs ls hW hl
          refine lv_aload_n hx hb dL_law_545 rfl (lv_at hl 2 rfl) ?_
          refine fina_i (k := k0) (n := n0) (W2 := (fun _ => ((WX κ x a a2 ++ (WC κ a σ br ++ (WC κ a2 τ bt ++ (WS κ q pp M (σ 5 0) (σ 5 1) (σ 5 2) ++ (WA κ q1 (nn σ) (σ 1) ++ (WA κ q2 (nn σ) (σ 0) ++ (WZ κ q3 (nn σ) (snb σ)))))))) ++ RP κ M σ))) hW (va_free hW.2.1 hW.2.2 hA [0, 1, 2, 3, 4, 5, 6, 7] rfl) (va_runV (As := []) (rest := []) F ((m_X1_lowest l κ x a a2 σ br hI) _) (cwV 0 hts gL_law_X1_lowest rfl rfl rfl (by decide +kernel) ⟨(Nat.le_of_ble_eq_true rfl), (Nat.le_of_ble_eq_true rfl)⟩) (pre_V hK hW [0, 1, 2, 3, 4, 5, 6, 7] rfl (by decide) 1 0 rfl rfl) rfl rfl hl.1 rfl (lv_room (Nat.le_of_ble_eq_true rfl)) dL_law_546 ⟨(by first | exact Nat.le_of_ble_eq_true rfl | omega | (dsimp only [rm_law, rm_X1_lowest]; omega)), (by first | exact Nat.le_of_ble_eq_true rfl | omega | (dsimp only [rm_law, rm_X1_lowest]; omega))⟩) (fun u H1 locs1 g1 g2 g3 g4 => St.joinQ hW hA [0, 1, 2, 3, 4, 5, 6, 7] [8, 9, 10, 11, 12, 13, 14, 15, 16, 17, 18, 19] [12, 13, 14, 15, 16, 17, 18, 19, 0, 1, 2, 3, 4, 5, 6, 7, 8, 9, 10, 11] rfl rfl rfl (by decide) rfl rfl g1 g2 g3 g4) (by first | exact Nat.le_of_ble_eq_true rfl | omega | (dsimp only [rm_law, rm_X1_lowest]; omega)) (by first | exact Nat.le_of_ble_eq_true rfl | omega | (dsimp only [rm_law, rm_X1_lowest]; omega)) (fun r_17 u H locs hp_16 hW => ?_)
          subst hp_16
          have j572 : ∀ (H : Heap) (locs : List Loc) (ls : Array Slot), St κ A s.heap H locs ((WX κ x a a2 ++ (WC κ a σ br ++ (WC κ a2 τ bt ++ (WS κ q pp M (σ 5 0) (σ 5 1) (σ 5 2) ++ (WA κ q1 (nn σ) (σ 1) ++ (WA κ q2 (nn σ) (σ 0) ++ (WZ κ q3 (nn σ) (snb σ)))))))) ++ RP κ M σ) → lv_has ls 25 [(14, .int (J (hst σ))), (0, .ref b), (1, .ref x), (2, .ref q), (3, .int (J (tm : Int))), (4, .int v), (5, .long (dg σ)), (7, .int (J (nn σ : Int))), (8, .int (J (ns σ : Int))), (9, .int (J (cc2 σ : Int))), (10, .int (J pt)), (11, .ref q1), (12, .ref q2), (13, .ref q3)] → W P l e rm_law s m #[Value.ref b] below meth c H locs k0 n0 Q (F0 m 572 ls []) := by
            intro H locs ls hW hl
            refine jv_iconst hx hb dL_law_572 ?_
            refine lv_istore (lv' := [(15, .int (J 0)), (14, .int (J (hst σ))), (0, .ref b), (1, .ref x), (2, .ref q), (3, .int (J (tm : Int))), (4, .int v), (5, .long (dg σ)), (7, .int (J (nn σ : Int))), (8, .int (J (ns σ : Int))), (9, .int (J (cc2 σ : Int))), (10, .int (J pt)), (11, .ref q1), (12, .ref q2), (13, .ref q3)]) hx hb dL_law_573 hl (by decide) rfl (fun ls hl => ?_)
            suffices hlq : ∀ (n j : Nat), j ≤ (nn σ) → (nn σ) < j + n → ∀ (H : Heap) (locs : List Loc) (ls : Array Slot), St κ A s.heap H locs ((WX κ x a a2 ++ (WC κ a σ br ++ (WC κ a2 τ bt ++ (WS κ q pp M (σ 5 0) (σ 5 1) (σ 5 2) ++ (WA κ q1 (nn σ) (σ 1) ++ (WA κ q2 (nn σ) (σ 0) ++ (WZ κ q3 (nn σ) (snb σ)))))))) ++ RP κ M σ) → lv_has ls 25 [(15, .int (J (j : Int))), (14, .int (J (hst σ))), (0, .ref b), (1, .ref x), (2, .ref q), (3, .int (J (tm : Int))), (4, .int v), (5, .long (dg σ)), (7, .int (J (nn σ : Int))), (8, .int (J (ns σ : Int))), (9, .int (J (cc2 σ : Int))), (10, .int (J pt)), (11, .ref q1), (12, .ref q2), (13, .ref q3)] → W P l e rm_law s m #[Value.ref b] below meth c H locs k0 n0 Q (F0 m 575 ls []) from
              hlq ((nn σ) + 1) 0 (Nat.zero_le _) (by omega)  _ _ _  hW hl
            intro n
            induction n with
            | zero => intro j h1 h2; exact absurd h2 (by omega)
            | succ n ih_hlq =>
              intro j hi hn  H locs ls  hW hl
              refine lv_iload hx hb dL_law_575 (lv_at hl 0 rfl) ?_
              refine lv_iload hx hb dL_law_577 (lv_at hl 8 rfl) ?_
              refine jv_icmp_ge hx hb 633 dL_law_579 (by decide) ⟨by omega, by omega⟩ ⟨by omega, by omega⟩ (fun h_18 => ?_) (fun h_18 => ?_)
              · skip
                exact next633  _ _ _  hW (lv_sub hl [2, 3, 4, 5, 6, 7, 8, 9, 10, 12, 13, 14, 1] rfl)
              · skip
                have hbj := hI.at j (by omega)
                have hcj := cof_rng hN10 j
                refine lv_iload hx hb dL_law_582 (lv_at hl 1 rfl) ?_
                have j602 : ∀ (H : Heap) (locs : List Loc) (ls : Array Slot), St κ A s.heap H locs ((WX κ x a a2 ++ (WC κ a σ br ++ (WC κ a2 τ bt ++ (WS κ q pp M (σ 5 0) (σ 5 1) (σ 5 2) ++ (WA κ q1 (nn σ) (σ 1) ++ (WA κ q2 (nn σ) (σ 0) ++ (WZ κ q3 (nn σ) (snb σ)))))))) ++ RP κ M σ) → lv_has ls 25 [(15, .int (J (j : Int))), (14, .int (J (hst σ))), (0, .ref b), (1, .ref x), (2, .ref q), (3, .int (J (tm : Int))), (4, .int v), (5, .long (dg σ)), (7, .int (J (nn σ : Int))), (8, .int (J (ns σ : Int))), (9, .int (J (cc2 σ : Int))), (10, .int (J pt)), (11, .ref q1), (12, .ref q2), (13, .ref q3)] → W P l e rm_law s m #[Value.ref b] below meth c H locs k0 n0 Q (F0 m 602 ls []) := by
                  intro H locs ls hW hl
                  refine lv_aload hx hb dL_law_602 (lv_at hl 14 rfl) ?_
                  refine lv_iload hx hb dL_law_604 (lv_at hl 0 rfl) ?_
                  refine jv_zald (g := (snb σ)) hx hb hK hW 19 rfl j rfl (by omega) (by omega) dL_law_606 ?_
                  refine jv_eq (y := bi (sn σ j)) rfl ?_
                  refine jv_ifb_eq (b := (sn σ j)) hx hb 627 dL_law_607 (by decide) (fun h_19 => ?_) (fun h_19 => ?_)
                  · skip
                    refine jv_iinc (k := 0) (z := (j : Int)) (lv' := [(15, .int (J ((j : Int) + 1))), (14, .int (J (hst σ))), (0, .ref b), (1, .ref x), (2, .ref q), (3, .int (J (tm : Int))), (4, .int v), (5, .long (dg σ)), (7, .int (J (nn σ : Int))), (8, .int (J (ns σ : Int))), (9, .int (J (cc2 σ : Int))), (10, .int (J pt)), (11, .ref q1), (12, .ref q2), (13, .ref q3)]) hx hb dL_law_627 hl rfl (by decide) rfl (fun ls hl => ?_)
                    refine lv_goto (tgt := 575) hx hb dL_law_630 (by decide) ?_
                    exact ih_hlq (j + 1) (by omega) (by omega)  _ _ _  hW hl
                  · skip
                    obtain ⟨d9, hd9, hs9, ed9, hlo⟩ := (fl_in hI).resolve_left (fun h => by have h7 := ns_0.mp h.2 j (by omega); rw [h_19] at h7; cases h7)
                    have hlj := hlo j (by omega) h_19
                    have hbd := hI.at d9 (by omega)
                    refine lv_aload hx hb dL_law_610 (lv_at hl 13 rfl) ?_
                    refine lv_iload hx hb dL_law_612 (lv_at hl 0 rfl) ?_
                    refine jv_iald (g := (σ 0)) hx hb hK hW 18 rfl j rfl (by omega) (by omega) dL_law_614 ?_
                    refine lv_aload hx hb dL_law_615 (lv_at hl 13 rfl) ?_
                    refine lv_aload_n hx hb dL_law_617 rfl (lv_at hl 3 rfl) ?_
                    refine fina_i (k := k0) (n := n0) (W2 := (fun _ => ((WX κ x a a2 ++ (WC κ a σ br ++ (WC κ a2 τ bt ++ (WS κ q pp M (σ 5 0) (σ 5 1) (σ 5 2) ++ (WA κ q1 (nn σ) (σ 1) ++ (WA κ q2 (nn σ) (σ 0) ++ (WZ κ q3 (nn σ) (snb σ)))))))) ++ RP κ M σ))) hW (va_free hW.2.1 hW.2.2 hA [0, 1, 2, 3, 4, 5, 6, 7] rfl) (va_runV (As := []) (rest := [.ref q2, .int (J (σ 0 j))]) F ((m_X1_lowest l κ x a a2 σ br hI) _) (cwV 0 hts gL_law_X1_lowest rfl rfl rfl (by decide +kernel) ⟨(Nat.le_of_ble_eq_true rfl), (Nat.le_of_ble_eq_true rfl)⟩) (pre_V hK hW [0, 1, 2, 3, 4, 5, 6, 7] rfl (by decide) 1 0 rfl rfl) rfl rfl hl.1 rfl (lv_room (Nat.le_of_ble_eq_true rfl)) dL_law_618 ⟨(by first | exact Nat.le_of_ble_eq_true rfl | omega | (dsimp only [rm_law, rm_X1_lowest]; omega)), (by first | exact Nat.le_of_ble_eq_true rfl | omega | (dsimp only [rm_law, rm_X1_lowest]; omega))⟩) (fun u H1 locs1 g1 g2 g3 g4 => St.joinQ hW hA [0, 1, 2, 3, 4, 5, 6, 7] [8, 9, 10, 11, 12, 13, 14, 15, 16, 17, 18, 19] [12, 13, 14, 15, 16, 17, 18, 19, 0, 1, 2, 3, 4, 5, 6, 7, 8, 9, 10, 11] rfl rfl rfl (by decide) rfl rfl g1 g2 g3 g4) (by first | exact Nat.le_of_ble_eq_true rfl | omega | (dsimp only [rm_law, rm_X1_lowest]; omega)) (by first | exact Nat.le_of_ble_eq_true rfl | omega | (dsimp only [rm_law, rm_X1_lowest]; omega)) (fun r_21 u H locs hp_20 hW => ?_)
                    subst hp_20
                    refine jv_eq (y := (d9 : Int)) (ed9) ?_
                    refine jv_iald (g := (σ 0)) hx hb hK hW 18 rfl d9 rfl (by omega) (by omega) dL_law_621 ?_
                    refine jv_icmp_ge hx hb 627 dL_law_622 (by decide) ⟨by omega, by omega⟩ ⟨by omega, by omega⟩ (fun h_22 => ?_) (fun h_22 => by exfalso; omega)
                    refine jv_iinc (k := 0) (z := (j : Int)) (lv' := [(15, .int (J ((j : Int) + 1))), (14, .int (J (hst σ))), (0, .ref b), (1, .ref x), (2, .ref q), (3, .int (J (tm : Int))), (4, .int v), (5, .long (dg σ)), (7, .int (J (nn σ : Int))), (8, .int (J (ns σ : Int))), (9, .int (J (cc2 σ : Int))), (10, .int (J pt)), (11, .ref q1), (12, .ref q2), (13, .ref q3)]) hx hb dL_law_627 hl rfl (by decide) rfl (fun ls hl => ?_)
                    refine lv_goto (tgt := 575) hx hb dL_law_630 (by decide) ?_
                    exact ih_hlq (j + 1) (by omega) (by omega)  _ _ _  hW hl
                refine jv_if_lt hx hb 602 dL_law_584 (by decide) ⟨by omega, by omega⟩ (fun h_23 => ?_) (fun h_23 => ?_)
                · skip
                  exact j602 _ _ _ hW hl
                · skip
                  obtain ⟨b9, hb9, eb9, ef9, hc9, hmx⟩ := (hst_in σ).resolve_left (fun h => by omega)
                  have hmj := hmx j (by omega)
                  have hcb9 := cof_rng hN10 b9
                  refine lv_aload_n hx hb dL_law_587 rfl (lv_at hl 3 rfl) ?_
                  refine lv_iload hx hb dL_law_588 (lv_at hl 0 rfl) ?_
                  refine fina_i (k := k0) (n := n0) (W2 := (fun _ => ((WX κ x a a2 ++ (WC κ a σ br ++ (WC κ a2 τ bt ++ (WS κ q pp M (σ 5 0) (σ 5 1) (σ 5 2) ++ (WA κ q1 (nn σ) (σ 1) ++ (WA κ q2 (nn σ) (σ 0) ++ (WZ κ q3 (nn σ) (snb σ)))))))) ++ RP κ M σ))) hW (va_free hW.2.1 hW.2.2 hA [0, 1, 2, 3, 4, 5, 6, 7] rfl) (va_runV (As := [.int (J (j : Int))]) (rest := []) F ((m_X1_clashesOf l κ x a a2 σ br j (by omega) hI) _) (cwV 1 hts gL_law_X1_clashesOf rfl rfl rfl (by decide +kernel) ⟨(Nat.le_of_ble_eq_true rfl), (Nat.le_of_ble_eq_true rfl)⟩) (pre_V hK hW [0, 1, 2, 3, 4, 5, 6, 7] rfl (by decide) 1 0 rfl rfl) rfl rfl hl.1 rfl (lv_room (Nat.le_of_ble_eq_true rfl)) dL_law_590 ⟨(by first | exact Nat.le_of_ble_eq_true rfl | omega | (dsimp only [rm_law, rm_X1_clashesOf]; omega)), (by first | exact Nat.le_of_ble_eq_true rfl | omega | (dsimp only [rm_law, rm_X1_clashesOf]; omega))⟩) (fun u H1 locs1 g1 g2 g3 g4 => St.joinQ hW hA [0, 1, 2, 3, 4, 5, 6, 7] [8, 9, 10, 11, 12, 13, 14, 15, 16, 17, 18, 19] [12, 13, 14, 15, 16, 17, 18, 19, 0, 1, 2, 3, 4, 5, 6, 7, 8, 9, 10, 11] rfl rfl rfl (by decide) rfl rfl g1 g2 g3 g4) (by first | exact Nat.le_of_ble_eq_true rfl | omega | (dsimp only [rm_law, rm_X1_clashesOf]; omega)) (by first | exact Nat.le_of_ble_eq_true rfl | omega | (dsimp only [rm_law, rm_X1_clashesOf]; omega)) (fun r_25 u H locs hp_24 hW => ?_)
                  subst hp_24
                  refine lv_aload_n hx hb dL_law_593 rfl (lv_at hl 3 rfl) ?_
                  refine lv_iload hx hb dL_law_594 (lv_at hl 1 rfl) ?_
                  refine jv_eq (y := (b9 : Int)) (eb9) ?_
                  refine fina_i (k := k0) (n := n0) (W2 := (fun _ => ((WX κ x a a2 ++ (WC κ a σ br ++ (WC κ a2 τ bt ++ (WS κ q pp M (σ 5 0) (σ 5 1) (σ 5 2) ++ (WA κ q1 (nn σ) (σ 1) ++ (WA κ q2 (nn σ) (σ 0) ++ (WZ κ q3 (nn σ) (snb σ)))))))) ++ RP κ M σ))) hW (va_free hW.2.1 hW.2.2 hA [0, 1, 2, 3, 4, 5, 6, 7] rfl) (va_runV (As := [.int (J (b9 : Int))]) (rest := [.int (J (cof σ j))]) F ((m_X1_clashesOf l κ x a a2 σ br b9 (by omega) hI) _) (cwV 1 hts gL_law_X1_clashesOf rfl rfl rfl (by decide +kernel) ⟨(Nat.le_of_ble_eq_true rfl), (Nat.le_of_ble_eq_true rfl)⟩) (pre_V hK hW [0, 1, 2, 3, 4, 5, 6, 7] rfl (by decide) 1 0 rfl rfl) rfl rfl hl.1 rfl (lv_room (Nat.le_of_ble_eq_true rfl)) dL_law_596 ⟨(by first | exact Nat.le_of_ble_eq_true rfl | omega | (dsimp only [rm_law, rm_X1_clashesOf]; omega)), (by first | exact Nat.le_of_ble_eq_true rfl | omega | (dsimp only [rm_law, rm_X1_clashesOf]; omega))⟩) (fun u H1 locs1 g1 g2 g3 g4 => St.joinQ hW hA [0, 1, 2, 3, 4, 5, 6, 7] [8, 9, 10, 11, 12, 13, 14, 15, 16, 17, 18, 19] [12, 13, 14, 15, 16, 17, 18, 19, 0, 1, 2, 3, 4, 5, 6, 7, 8, 9, 10, 11] rfl rfl rfl (by decide) rfl rfl g1 g2 g3 g4) (by first | exact Nat.le_of_ble_eq_true rfl | omega | (dsimp only [rm_law, rm_X1_clashesOf]; omega)) (by first | exact Nat.le_of_ble_eq_true rfl | omega | (dsimp only [rm_law, rm_X1_clashesOf]; omega)) (fun r_27 u H locs hp_26 hW => ?_)
                  subst hp_26
                  refine jv_icmp_gt hx hb 625 dL_law_599 (by decide) ⟨by omega, by omega⟩ ⟨by omega, by omega⟩ (fun h_28 => by exfalso; omega) (fun h_28 => ?_)
                  exact j602 _ _ _ hW hl
          refine jv_if_ge hx hb 556 dL_law_549 (by decide) ⟨by omega, by omega⟩ (fun h_29 => ?_) (fun h_29 => ?_)
          · skip
            refine jv_iconst hx hb dL_law_556 ?_
            refine lv_iload hx hb dL_law_557 (lv_at hl 8 rfl) ?_
            refine jv_if_ne hx hb 566 dL_law_559 (by decide) ⟨by omega, by omega⟩ (fun h_30 => ?_) (fun h_30 => ?_)
            · skip
              refine jv_iconst hx hb dL_law_566 ?_
              refine lv_icmp_eq (tgt := 572) hx hb dL_law_567 (by decide) (fun _ => ?_) (fun h => absurd rfl h)
              exact j572 _ _ _ hW hl
            · skip
              refine jv_iconst hx hb dL_law_562 ?_
              refine lv_goto (tgt := 567) hx hb dL_law_563 (by decide) ?_
              refine jv_icmp_eq hx hb 572 dL_law_567 (by decide) ⟨by omega, by omega⟩ ⟨by omega, by omega⟩ (fun h_31 => ?_) (fun h_31 => by exfalso; omega)
              exact j572 _ _ _ hW hl
          · skip
            refine jv_iconst hx hb dL_law_552 ?_
            refine lv_goto (tgt := 557) hx hb dL_law_553 (by decide) ?_
            refine lv_iload hx hb dL_law_557 (lv_at hl 8 rfl) ?_
            refine jv_if_ne hx hb 566 dL_law_559 (by decide) ⟨by omega, by omega⟩ (fun h_32 => ?_) (fun h_32 => ?_)
            · skip
              refine jv_iconst hx hb dL_law_566 ?_
              refine jv_icmp_eq hx hb 572 dL_law_567 (by decide) ⟨by omega, by omega⟩ ⟨by omega, by omega⟩ (fun h_33 => ?_) (fun h_33 => by exfalso; omega)
              exact j572 _ _ _ hW hl
            · skip
              refine jv_iconst hx hb dL_law_562 ?_
              refine lv_goto (tgt := 567) hx hb dL_law_563 (by decide) ?_
              refine lv_icmp_eq (tgt := 572) hx hb dL_law_567 (by decide) (fun _ => ?_) (fun h => absurd rfl h)
              exact j572 _ _ _ hW hl
        refine jv_if_ge hx hb 531 dL_law_524 (by decide) ⟨by omega, by omega⟩ (fun h_34 => ?_) (fun h_34 => ?_)
        · skip
          refine jv_iconst hx hb dL_law_531 ?_
          refine lv_iload hx hb dL_law_532 (lv_at hl 9 rfl) ?_
          refine jv_if_ne hx hb 541 dL_law_534 (by decide) ⟨by omega, by omega⟩ (fun h_35 => ?_) (fun h_35 => ?_)
          · skip
            refine jv_iconst hx hb dL_law_541 ?_
            refine jv_icmp_ne hx hb 570 dL_law_542 (by decide) ⟨by omega, by omega⟩ ⟨by omega, by omega⟩ (fun h_36 => by exfalso; omega) (fun h_36 => ?_)
            exact j545 _ _ _ hW hl
          · skip
            refine jv_iconst hx hb dL_law_537 ?_
            refine lv_goto (tgt := 542) hx hb dL_law_538 (by decide) ?_
            refine jv_icmp_ne hx hb 570 dL_law_542 (by decide) ⟨by omega, by omega⟩ ⟨by omega, by omega⟩ (fun h_37 => by exfalso; omega) (fun h_37 => ?_)
            exact j545 _ _ _ hW hl
        · skip
          refine jv_iconst hx hb dL_law_527 ?_
          refine lv_goto (tgt := 532) hx hb dL_law_528 (by decide) ?_
          refine lv_iload hx hb dL_law_532 (lv_at hl 9 rfl) ?_
          refine jv_if_ne hx hb 541 dL_law_534 (by decide) ⟨by omega, by omega⟩ (fun h_38 => ?_) (fun h_38 => ?_)
          · skip
            refine jv_iconst hx hb dL_law_541 ?_
            refine jv_icmp_ne hx hb 570 dL_law_542 (by decide) ⟨by omega, by omega⟩ ⟨by omega, by omega⟩ (fun h_39 => by exfalso; omega) (fun h_39 => ?_)
            exact j545 _ _ _ hW hl
          · skip
            refine jv_iconst hx hb dL_law_537 ?_
            refine lv_goto (tgt := 542) hx hb dL_law_538 (by decide) ?_
            refine jv_icmp_ne hx hb 570 dL_law_542 (by decide) ⟨by omega, by omega⟩ ⟨by omega, by omega⟩ (fun h_40 => by exfalso; omega) (fun h_40 => ?_)
            exact j545 _ _ _ hW hl
      refine lv_iload hx hb dL_law_503 (lv_at hl 8 rfl) ?_
      refine jv_iconst hx hb dL_law_505 ?_
      refine jv_icmp_le hx hb 518 dL_law_506 (by decide) ⟨by omega, by omega⟩ ⟨by omega, by omega⟩ (fun h_41 => ?_) (fun h_41 => ?_)
      · skip
        refine jv_iconst hx hb dL_law_518 ?_
        refine jv_icmp_ne hx hb 570 dL_law_519 (by decide) ⟨by omega, by omega⟩ ⟨by omega, by omega⟩ (fun h_42 => by exfalso; omega) (fun h_42 => ?_)
        exact j522 _ _ _ hW hl
      · skip
        refine lv_iload hx hb dL_law_509 (lv_at hl 9 rfl) ?_
        refine jv_if_ne hx hb 518 dL_law_511 (by decide) ⟨by omega, by omega⟩ (fun h_43 => ?_) (fun h_43 => ?_)
        · skip
          refine jv_iconst hx hb dL_law_518 ?_
          refine jv_icmp_ne hx hb 570 dL_law_519 (by decide) ⟨by omega, by omega⟩ ⟨by omega, by omega⟩ (fun h_44 => by exfalso; omega) (fun h_44 => ?_)
          exact j522 _ _ _ hW hl
        · skip
          refine jv_iconst hx hb dL_law_514 ?_
          refine lv_goto (tgt := 519) hx hb dL_law_515 (by decide) ?_
          refine jv_icmp_ne hx hb 570 dL_law_519 (by decide) ⟨by omega, by omega⟩ ⟨by omega, by omega⟩ (fun h_45 => by exfalso; omega) (fun h_45 => ?_)
          exact j522 _ _ _ hW hl
    · skip
      refine lv_iload hx hb dL_law_430 (lv_at hl 10 rfl) ?_
      refine lv_aload_n hx hb dL_law_432 rfl (lv_at hl 2 rfl) ?_
      refine lv_iload hx hb dL_law_433 (lv_at hl 0 rfl) ?_
      refine fina_i (k := k0) (n := n0) (W2 := (fun _ => ((WX κ x a a2 ++ (WC κ a σ br ++ (WC κ a2 τ bt ++ (WS κ q pp M (σ 5 0) (σ 5 1) (σ 5 2) ++ (WA κ q1 (nn σ) (σ 1) ++ (WA κ q2 (nn σ) (σ 0) ++ (WZ κ q3 (nn σ) (snb σ)))))))) ++ RP κ M σ))) hW (va_free hW.2.1 hW.2.2 hA [0, 1, 2, 3, 4, 5, 6, 7] rfl) (va_runV (As := [.int (J (i : Int))]) (rest := [.int (J pt)]) F ((m_X1_soundingOf l κ x a a2 σ br i (by omega) hI) _) (cwV 1 hts gL_law_X1_soundingOf rfl rfl rfl (by decide +kernel) ⟨(Nat.le_of_ble_eq_true rfl), (Nat.le_of_ble_eq_true rfl)⟩) (pre_V hK hW [0, 1, 2, 3, 4, 5, 6, 7] rfl (by decide) 1 0 rfl rfl) rfl rfl hl.1 rfl (lv_room (Nat.le_of_ble_eq_true rfl)) dL_law_435 ⟨(by first | exact Nat.le_of_ble_eq_true rfl | omega | (dsimp only [rm_law, rm_X1_soundingOf]; omega)), (by first | exact Nat.le_of_ble_eq_true rfl | omega | (dsimp only [rm_law, rm_X1_soundingOf]; omega))⟩) (fun u H1 locs1 g1 g2 g3 g4 => St.joinQ hW hA [0, 1, 2, 3, 4, 5, 6, 7] [8, 9, 10, 11, 12, 13, 14, 15, 16, 17, 18, 19] [12, 13, 14, 15, 16, 17, 18, 19, 0, 1, 2, 3, 4, 5, 6, 7, 8, 9, 10, 11] rfl rfl rfl (by decide) rfl rfl g1 g2 g3 g4) (by first | exact Nat.le_of_ble_eq_true rfl | omega | (dsimp only [rm_law, rm_X1_soundingOf]; omega)) (by first | exact Nat.le_of_ble_eq_true rfl | omega | (dsimp only [rm_law, rm_X1_soundingOf]; omega)) (fun r_47 u H locs hp_46 hW => ?_)
      subst hp_46
      refine jv_iadd hx hb dL_law_438 ?_
      refine lv_istore (lv' := [(10, .int (J (pt + (fb_ct (snp σ (i : Int)) (nn σ) : Int)))), (14, .int (J (i : Int))), (0, .ref b), (1, .ref x), (2, .ref q), (3, .int (J (tm : Int))), (4, .int v), (5, .long (dg σ)), (7, .int (J (nn σ : Int))), (8, .int (J (ns σ : Int))), (9, .int (J (cc2 σ : Int))), (11, .ref q1), (12, .ref q2), (13, .ref q3)]) hx hb dL_law_439 hl (by decide) rfl (fun ls hl => ?_)
      refine jv_iinc (k := 1) (z := (i : Int)) (lv' := [(14, .int (J ((i : Int) + 1))), (10, .int (J (pt + (fb_ct (snp σ (i : Int)) (nn σ) : Int)))), (0, .ref b), (1, .ref x), (2, .ref q), (3, .int (J (tm : Int))), (4, .int v), (5, .long (dg σ)), (7, .int (J (nn σ : Int))), (8, .int (J (ns σ : Int))), (9, .int (J (cc2 σ : Int))), (11, .ref q1), (12, .ref q2), (13, .ref q3)]) hx hb dL_law_441 hl rfl (by decide) rfl (fun ls hl => ?_)
      refine lv_goto (tgt := 424) hx hb dL_law_444 (by decide) ?_
      exact ih (i + 1) (by omega) (by omega) (pt + (fb_ct (snp σ (i : Int)) (nn σ) : Int)) _ _ _ (by rw [q_pt, psm_s]; omega) hW (lv_sub hl [0, 2, 3, 4, 5, 6, 7, 8, 9, 10, 1, 11, 12, 13] rfl)
