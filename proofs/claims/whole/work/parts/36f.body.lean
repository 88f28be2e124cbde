set_option maxHeartbeats 4000000 in
set_option maxRecDepth 100000 in
/-- the law: c3 -/
theorem law_c3 {P : Program} {l : Launch} {e : Env} {s : State} {m : MethodId} {below : List Frame} {meth : Method} {c : Code} {Q : State → Prop} {b L : Nat} {xs : Nat → Int32} {κ : Kp} {A : Nat → Prop} {x o : Nat} {a a2 mm : Nat → Nat} (hstk : l.stackTraces = false) (F : CallFix P m c cL_law 9 s #[Value.ref b] wsL_law RL) (hK : Kx κ s) (hT : Tk A s s.heap) (hN9 : Ncx s) (hA : ∀ q, s.heap.size ≤ q → A q) (hX : va_X b L xs s s.heap) (hbl : b < s.heap.size) (hbA : ¬ A b) (hL : L ≤ 2048) {i : Nat} (hi : 4 * i + 4 ≤ L) {k n : Nat} (hk : k + 300 ≤ 601024) (hn : n + 2000 ≤ 7293034) {σ τ : Sg} {br bt kp : Nat → Int} {th : Int} {g : Nat → Int64} (hI : Inv σ) (hB0 : σ 5 0 ≤ 60 * (i : Int)) (hC0 : σ 5 1 ≤ 60 * (i : Int))
    (next : LNext P l e s m below meth c Q κ A b x o a a2 mm i k n) {H : Heap} {locs : List Loc} {ls : Array Slot} (hW : St κ A s.heap H locs (WB κ x a a2 mm o σ τ br bt kp th g)) (hl : lv_has ls 9 (LLoc b x o mm i)) : W P l e rm_law s m #[Value.ref b] below meth c H locs k n Q (F0 m 395 ls []) := by
  obtain ⟨hx, hb, hml, hown, hts⟩ := id F
  have hN := hI.hN
  have hN10 := hI.n10
  have hB : σ 5 0 ≤ 100000000 := by omega
  have hC : σ 5 1 ≤ 100000000 := by omega
  have hz1 := sx_in xs (4 * i + 1)
  have hz2 := sx_in xs (4 * i + 2)
  have hz3 := sx_in xs (4 * i + 3)
  refine lv_aload_n hx hb dL_law_395 rfl (lv_at hl 1 rfl) ?_
  refine lv_aload_n hx hb dL_law_396 rfl (lv_at hl 0 rfl) ?_
  refine lv_iload hx hb dL_law_397 (lv_at hl 4 rfl) ?_
  refine jv_iconst hx hb dL_law_399 ?_
  refine jv_iadd hx hb dL_law_400 ?_
  refine js_ld (xs := xs) hx hb hX hbl hbA hW ((4 * i) + 1) (by omega) (by omega) hL dL_law_401 ?_
  refine lv_aload_n hx hb dL_law_402 rfl (lv_at hl 0 rfl) ?_
  refine lv_iload hx hb dL_law_403 (lv_at hl 4 rfl) ?_
  refine jv_iconst hx hb dL_law_405 ?_
  refine jv_iadd hx hb dL_law_406 ?_
  refine js_ld (xs := xs) hx hb hX hbl hbA hW ((4 * i) + 2) (by omega) (by omega) hL dL_law_407 ?_
  refine lv_aload_n hx hb dL_law_408 rfl (lv_at hl 0 rfl) ?_
  refine lv_iload hx hb dL_law_409 (lv_at hl 4 rfl) ?_
  refine jv_iconst hx hb dL_law_411 ?_
  refine jv_iadd hx hb dL_law_412 ?_
  refine js_ld (xs := xs) hx hb hX hbl hbA hW ((4 * i) + 3) (by omega) (by omega) hL dL_law_413 ?_
  refine lv_aload_n hx hb dL_law_414 rfl (lv_at hl 3 rfl) ?_
  refine fint_i (k := (k + 4)) (n := (n + 24)) (W2 := (fun uu => (WX κ x a a2 ++ (WC κ a uu.1 br ++ (WC κ a2 τ bt ++ (WM κ mm σ th kp ++ (WL κ o uu.2))))))) [0, 1, 2, 3, 4, 5, 6, 7, 19] [8, 9, 10, 11, 12, 13, 14, 15, 16, 17, 18] [11, 12, 13, 14, 15, 16, 17, 18, 0, 1, 2, 3, 4, 5, 6, 7, 8, 9, 10, 19] hW hA (vx_runSX (As := [.ref x, .int (J (sx xs ((4 * i) + 1))), .int (J (sx xs ((4 * i) + 2))), .int (J (sx xs ((4 * i) + 3))), .ref o]) (rest := []) F ((m_L_pour l κ hstk x a a2 σ br o g (sx xs (4 * i + 1)) (sx xs (4 * i + 2)) (sx xs (4 * i + 3)) ⟨hz1, hz2, hz3⟩ hI) _) (vx_cwSW 5 hts gL_law_L_pour rfl rfl rfl (by decide +kernel) ⟨(Nat.le_of_ble_eq_true rfl), (Nat.le_of_ble_eq_true rfl)⟩) (pre_SL hN9 hK hT hW hA [0, 1, 2, 3, 4, 5, 6, 7, 19] rfl (by decide)) rfl rfl hl.1 rfl (lv_room (Nat.le_of_ble_eq_true rfl)) dL_law_415 ⟨(by first | exact Nat.le_of_ble_eq_true rfl | omega | (dsimp only [rm_law, rm_L_pour]; omega)), (by first | exact Nat.le_of_ble_eq_true rfl | omega | (dsimp only [rm_law, rm_L_pour]; omega))⟩) rfl rfl rfl (by decide) rfl (fun _ => rfl) rfl (by first | exact Nat.le_of_ble_eq_true rfl | omega | (dsimp only [rm_law, rm_L_pour]; omega)) (by first | exact Nat.le_of_ble_eq_true rfl | omega | (dsimp only [rm_law, rm_L_pour]; omega)) (fun E ce q9 H locs hX hW g1 g2 g3 => False.elim hX) (fun r_2 uu H locs hp_1 hW => ?_)
  rcases hp_1 with ⟨hv, rfl, rfl⟩ | ⟨hv, rfl, rfl⟩ | ⟨hv, rfl, rfl⟩
  · skip
    have hW : St κ A s.heap H _ (WX κ x a a2 ++ (WC κ a (up (up σ 1 ((sx xs (4 * i + 1)).toNat) (σ 1 (sx xs (4 * i + 1)).toNat - (ptea σ (sx xs (4 * i + 1)).toNat (sx xs (4 * i + 2)).toNat (sx xs (4 * i + 3))))) 1 ((sx xs (4 * i + 2)).toNat) (σ 1 (sx xs (4 * i + 2)).toNat + (ptea σ (sx xs (4 * i + 1)).toNat (sx xs (4 * i + 2)).toNat (sx xs (4 * i + 3))))) br ++ (WC κ a2 τ bt ++ (WM κ mm σ th kp ++ (WL κ o (vp_updL g 0 ((J (ptea σ (sx xs (4 * i + 1)).toNat (sx xs (4 * i + 2)).toNat (sx xs (4 * i + 3)))).toInt64))))))) := hW
    refine lv_istore (lv' := [(5, .int (J 0)), (0, .ref b), (1, .ref x), (2, .ref (mm 0)), (3, .ref o), (4, .int (J (4 * (i : Int))))]) hx hb dL_law_418 hl (by decide) rfl (fun ls hl => ?_)
    refine lv_aload_n hx hb dL_law_420 rfl (lv_at hl 3 rfl) ?_
    refine lv_aload_n hx hb dL_law_421 rfl (lv_at hl 1 rfl) ?_
    refine lv_iload hx hb dL_law_422 (lv_at hl 5 rfl) ?_
    refine jv_iconst hx hb dL_law_424 ?_
    refine jv_iadd hx hb dL_law_425 ?_
    refine js_ld (xs := xs) hx hb hX hbl hbA hW ((4 * i) + 1) (by omega) (by omega) hL dL_law_426 ?_
    refine lv_aload_n hx hb dL_law_427 rfl (lv_at hl 1 rfl) ?_
    refine lv_iload hx hb dL_law_428 (lv_at hl 5 rfl) ?_
    refine jv_iconst hx hb dL_law_430 ?_
    refine jv_iadd hx hb dL_law_431 ?_
    refine js_ld (xs := xs) hx hb hX hbl hbA hW ((4 * i) + 2) (by omega) (by omega) hL dL_law_432 ?_
    refine lv_aload_n hx hb dL_law_433 rfl (lv_at hl 1 rfl) ?_
    refine lv_iload hx hb dL_law_434 (lv_at hl 5 rfl) ?_
    refine jv_iconst hx hb dL_law_436 ?_
    refine jv_iadd hx hb dL_law_437 ?_
    refine js_ld (xs := xs) hx hb hX hbl hbA hW ((4 * i) + 3) (by omega) (by omega) hL dL_law_438 ?_
    refine fin_i (k := (k + 4)) (n := (n + 24)) (W2 := (fun u2 => (WX κ x a a2 ++ (WC κ a (up (up σ 1 ((sx xs (4 * i + 1)).toNat) (σ 1 (sx xs (4 * i + 1)).toNat - (ptea σ (sx xs (4 * i + 1)).toNat (sx xs (4 * i + 2)).toNat (sx xs (4 * i + 3))))) 1 ((sx xs (4 * i + 2)).toNat) (σ 1 (sx xs (4 * i + 2)).toNat + (ptea σ (sx xs (4 * i + 1)).toNat (sx xs (4 * i + 2)).toNat (sx xs (4 * i + 3))))) br ++ (WC κ a2 τ bt ++ (WM κ mm u2.1 u2.2 kp ++ (WL κ o (vp_updL g 0 ((J (ptea σ (sx xs (4 * i + 1)).toNat (sx xs (4 * i + 2)).toNat (sx xs (4 * i + 3)))).toInt64))))))))) [15, 16, 17, 18] [0, 1, 2, 3, 4, 5, 6, 7, 8, 9, 10, 11, 12, 13, 14, 19] [0, 1, 2, 3, 4, 5, 6, 7, 8, 9, 10, 11, 12, 13, 14, 16, 17, 18, 19, 15] hW hA (va_runV (As := [.int (J (sx xs ((4 * i) + 1))), .int (J (sx xs ((4 * i) + 2))), .int (J (sx xs ((4 * i) + 3)))]) (rest := []) F ((m_X2_pour l κ mm σ th kp (sx xs (4 * i + 1)) (sx xs (4 * i + 2)) (sx xs (4 * i + 3)) ⟨hz1, hz2, hz3⟩ hI) _) (cwV 3 hts gL_law_X2_pour rfl rfl rfl (by decide +kernel) ⟨(Nat.le_of_ble_eq_true rfl), (Nat.le_of_ble_eq_true rfl)⟩) (pre_V hK hW [15, 16, 17, 18] rfl (by decide) 2 15 rfl rfl) rfl rfl hl.1 rfl (lv_room (Nat.le_of_ble_eq_true rfl)) dL_law_439 ⟨(by first | exact Nat.le_of_ble_eq_true rfl | omega | (dsimp only [rm_law, rm_X2_pour]; omega)), (by first | exact Nat.le_of_ble_eq_true rfl | omega | (dsimp only [rm_law, rm_X2_pour]; omega))⟩) rfl rfl rfl (by decide) rfl (fun _ => rfl) (by first | exact Nat.le_of_ble_eq_true rfl | omega | (dsimp only [rm_law, rm_X2_pour]; omega)) (by first | exact Nat.le_of_ble_eq_true rfl | omega | (dsimp only [rm_law, rm_X2_pour]; omega)) (fun r_4 u2 H locs hp_3 hW => ?_)
    rcases hp_3 with ⟨h2, rfl, rfl⟩ | ⟨h2, rfl, rfl⟩ | ⟨h2, rfl, rfl⟩
    · skip
      have hW : St κ A s.heap H _ (WX κ x a a2 ++ (WC κ a (up (up σ 1 ((sx xs (4 * i + 1)).toNat) (σ 1 (sx xs (4 * i + 1)).toNat - (ptea σ (sx xs (4 * i + 1)).toNat (sx xs (4 * i + 2)).toNat (sx xs (4 * i + 3))))) 1 ((sx xs (4 * i + 2)).toNat) (σ 1 (sx xs (4 * i + 2)).toNat + (ptea σ (sx xs (4 * i + 1)).toNat (sx xs (4 * i + 2)).toNat (sx xs (4 * i + 3))))) br ++ (WC κ a2 τ bt ++ (WM κ mm (up (up σ 1 ((sx xs (4 * i + 1)).toNat) (σ 1 (sx xs (4 * i + 1)).toNat - (ptea σ (sx xs (4 * i + 1)).toNat (sx xs (4 * i + 2)).toNat (sx xs (4 * i + 3))))) 1 ((sx xs (4 * i + 2)).toNat) (σ 1 (sx xs (4 * i + 2)).toNat + (ptea σ (sx xs (4 * i + 1)).toNat (sx xs (4 * i + 2)).toNat (sx xs (4 * i + 3))))) 0 kp ++ (WL κ o (vp_updL g 0 ((J (ptea σ (sx xs (4 * i + 1)).toNat (sx xs (4 * i + 2)).toNat (sx xs (4 * i + 3)))).toInt64))))))) := hW
      refine lv_istore (lv' := [(6, .int (J (ptea σ (sx xs (4 * i + 1)).toNat (sx xs (4 * i + 2)).toNat (sx xs (4 * i + 3))))), (5, .int (J 0)), (0, .ref b), (1, .ref x), (2, .ref (mm 0)), (3, .ref o), (4, .int (J (4 * (i : Int))))]) hx hb dL_law_442 hl (by decide) rfl (fun ls hl => ?_)
      refine lv_aload_n hx hb dL_law_444 rfl (lv_at hl 4 rfl) ?_
      refine fin_i (k := (k + 4)) (n := (n + 24)) (W2 := (fun _ => (WX κ x a a2 ++ (WC κ a (up (up σ 1 ((sx xs (4 * i + 1)).toNat) (σ 1 (sx xs (4 * i + 1)).toNat - (ptea σ (sx xs (4 * i + 1)).toNat (sx xs (4 * i + 2)).toNat (sx xs (4 * i + 3))))) 1 ((sx xs (4 * i + 2)).toNat) (σ 1 (sx xs (4 * i + 2)).toNat + (ptea σ (sx xs (4 * i + 1)).toNat (sx xs (4 * i + 2)).toNat (sx xs (4 * i + 3))))) br ++ (WC κ a2 τ bt ++ (WM κ mm (up (up σ 1 ((sx xs (4 * i + 1)).toNat) (σ 1 (sx xs (4 * i + 1)).toNat - (ptea σ (sx xs (4 * i + 1)).toNat (sx xs (4 * i + 2)).toNat (sx xs (4 * i + 3))))) 1 ((sx xs (4 * i + 2)).toNat) (σ 1 (sx xs (4 * i + 2)).toNat + (ptea σ (sx xs (4 * i + 1)).toNat (sx xs (4 * i + 2)).toNat (sx xs (4 * i + 3))))) 0 kp ++ (WL κ o (vp_updL g 0 ((J (ptea σ (sx xs (4 * i + 1)).toNat (sx xs (4 * i + 2)).toNat (sx xs (4 * i + 3)))).toInt64))))))))) [15, 16, 17, 18] [0, 1, 2, 3, 4, 5, 6, 7, 8, 9, 10, 11, 12, 13, 14, 19] [0, 1, 2, 3, 4, 5, 6, 7, 8, 9, 10, 11, 12, 13, 14, 16, 17, 18, 19, 15] hW hA (va_runV (As := []) (rest := []) F ((m_X2_thrown l κ mm (up (up σ 1 ((sx xs (4 * i + 1)).toNat) (σ 1 (sx xs (4 * i + 1)).toNat - (ptea σ (sx xs (4 * i + 1)).toNat (sx xs (4 * i + 2)).toNat (sx xs (4 * i + 3))))) 1 ((sx xs (4 * i + 2)).toNat) (σ 1 (sx xs (4 * i + 2)).toNat + (ptea σ (sx xs (4 * i + 1)).toNat (sx xs (4 * i + 2)).toNat (sx xs (4 * i + 3))))) 0 kp) _) (cwV 0 hts gL_law_X2_thrown rfl rfl rfl (by decide +kernel) ⟨(Nat.le_of_ble_eq_true rfl), (Nat.le_of_ble_eq_true rfl)⟩) (pre_V hK hW [15, 16, 17, 18] rfl (by decide) 2 15 rfl rfl) rfl rfl hl.1 rfl (lv_room (Nat.le_of_ble_eq_true rfl)) dL_law_445 ⟨(by first | exact Nat.le_of_ble_eq_true rfl | omega | (dsimp only [rm_law, rm_X2_thrown]; omega)), (by first | exact Nat.le_of_ble_eq_true rfl | omega | (dsimp only [rm_law, rm_X2_thrown]; omega))⟩) rfl rfl rfl (by decide) rfl (fun _ => rfl) (by first | exact Nat.le_of_ble_eq_true rfl | omega | (dsimp only [rm_law, rm_X2_thrown]; omega)) (by first | exact Nat.le_of_ble_eq_true rfl | omega | (dsimp only [rm_law, rm_X2_thrown]; omega)) (fun r_6 u H locs hp_5 hW => ?_)
      subst hp_5
      refine lv_iload hx hb dL_law_448 (lv_at hl 1 rfl) ?_
      refine lv_icmp_eq (tgt := 455) hx hb dL_law_450 (by decide) (fun _ => ?_) (fun h => absurd rfl h)
      refine lv_iload hx hb dL_law_455 (lv_at hl 1 rfl) ?_
      refine jv_if_ne hx hb 472 dL_law_457 (by decide) ⟨by omega, by omega⟩ (fun h => by exfalso; omega) (fun h => ?_)
      refine lv_aload_n hx hb dL_law_460 rfl (lv_at hl 5 rfl) ?_
      refine jv_iconst hx hb dL_law_461 ?_
      refine jv_lald (g := (vp_updL g 0 ((J (ptea σ (sx xs (4 * i + 1)).toNat (sx xs (4 * i + 2)).toNat (sx xs (4 * i + 3)))).toInt64))) hx hb hK hW 19 rfl dL_law_462 ?_
      refine lv_iload hx hb dL_law_463 (lv_at hl 0 rfl) ?_
      refine lv_i2l hx hb dL_law_465 rfl ?_
      refine jv_lcmp hx hb rfl dL_law_466 ?_
      refine jv_if_eq hx hb 472 dL_law_467 (by decide) ⟨by omega, by omega⟩ (fun h => ?_) (fun h => by exfalso; omega)
      refine lv_goto (tgt := 1521) hx hb dL_law_472 (by decide) ?_
      refine W.widen (k := k + 300) (n := n + 2000) (by omega) (by omega) ?_
      exact next (up (up σ 1 ((sx xs (4 * i + 1)).toNat) (σ 1 (sx xs (4 * i + 1)).toNat - (ptea σ (sx xs (4 * i + 1)).toNat (sx xs (4 * i + 2)).toNat (sx xs (4 * i + 3))))) 1 ((sx xs (4 * i + 2)).toNat) (σ 1 (sx xs (4 * i + 2)).toNat + (ptea σ (sx xs (4 * i + 1)).toNat (sx xs (4 * i + 2)).toNat (sx xs (4 * i + 3))))) τ br bt kp 0 (vp_updL g 0 ((J (ptea σ (sx xs (4 * i + 1)).toNat (sx xs (4 * i + 2)).toNat (sx xs (4 * i + 3)))).toInt64)) _ _ _ ((hI.u1 (by have h9 := hI.at (sx xs (4 * i + 1)).toNat (by omega); have h8 := hI.at (sx xs (4 * i + 2)).toNat (by omega); unfold ptea; omega)).u1 (by have h9 := hI.at (sx xs (4 * i + 1)).toNat (by omega); have h8 := hI.at (sx xs (4 * i + 2)).toNat (by omega); unfold ptea; omega)) (Int.le_trans hB0 (by omega)) (Int.le_trans hC0 (by omega)) hW (lv_sub hl [2, 3, 4, 5, 6] rfl)
    · exact (h2 hv.1).elim
    · exact (h2.2 hv.2).elim
  · skip
    have hW : St κ A s.heap H _ (WX κ x a a2 ++ (WC κ a σ br ++ (WC κ a2 τ bt ++ (WM κ mm σ th kp ++ (WL κ o g))))) := hW
    refine lv_istore (lv' := [(5, .int (J 1)), (0, .ref b), (1, .ref x), (2, .ref (mm 0)), (3, .ref o), (4, .int (J (4 * (i : Int))))]) hx hb dL_law_418 hl (by decide) rfl (fun ls hl => ?_)
    refine lv_aload_n hx hb dL_law_420 rfl (lv_at hl 3 rfl) ?_
    refine lv_aload_n hx hb dL_law_421 rfl (lv_at hl 1 rfl) ?_
    refine lv_iload hx hb dL_law_422 (lv_at hl 5 rfl) ?_
    refine jv_iconst hx hb dL_law_424 ?_
    refine jv_iadd hx hb dL_law_425 ?_
    refine js_ld (xs := xs) hx hb hX hbl hbA hW ((4 * i) + 1) (by omega) (by omega) hL dL_law_426 ?_
    refine lv_aload_n hx hb dL_law_427 rfl (lv_at hl 1 rfl) ?_
    refine lv_iload hx hb dL_law_428 (lv_at hl 5 rfl) ?_
    refine jv_iconst hx hb dL_law_430 ?_
    refine jv_iadd hx hb dL_law_431 ?_
    refine js_ld (xs := xs) hx hb hX hbl hbA hW ((4 * i) + 2) (by omega) (by omega) hL dL_law_432 ?_
    refine lv_aload_n hx hb dL_law_433 rfl (lv_at hl 1 rfl) ?_
    refine lv_iload hx hb dL_law_434 (lv_at hl 5 rfl) ?_
    refine jv_iconst hx hb dL_law_436 ?_
    refine jv_iadd hx hb dL_law_437 ?_
    refine js_ld (xs := xs) hx hb hX hbl hbA hW ((4 * i) + 3) (by omega) (by omega) hL dL_law_438 ?_
    refine fin_i (k := (k + 4)) (n := (n + 24)) (W2 := (fun u2 => (WX κ x a a2 ++ (WC κ a σ br ++ (WC κ a2 τ bt ++ (WM κ mm u2.1 u2.2 kp ++ (WL κ o g))))))) [15, 16, 17, 18] [0, 1, 2, 3, 4, 5, 6, 7, 8, 9, 10, 11, 12, 13, 14, 19] [0, 1, 2, 3, 4, 5, 6, 7, 8, 9, 10, 11, 12, 13, 14, 16, 17, 18, 19, 15] hW hA (va_runV (As := [.int (J (sx xs ((4 * i) + 1))), .int (J (sx xs ((4 * i) + 2))), .int (J (sx xs ((4 * i) + 3)))]) (rest := []) F ((m_X2_pour l κ mm σ th kp (sx xs (4 * i + 1)) (sx xs (4 * i + 2)) (sx xs (4 * i + 3)) ⟨hz1, hz2, hz3⟩ hI) _) (cwV 3 hts gL_law_X2_pour rfl rfl rfl (by decide +kernel) ⟨(Nat.le_of_ble_eq_true rfl), (Nat.le_of_ble_eq_true rfl)⟩) (pre_V hK hW [15, 16, 17, 18] rfl (by decide) 2 15 rfl rfl) rfl rfl hl.1 rfl (lv_room (Nat.le_of_ble_eq_true rfl)) dL_law_439 ⟨(by first | exact Nat.le_of_ble_eq_true rfl | omega | (dsimp only [rm_law, rm_X2_pour]; omega)), (by first | exact Nat.le_of_ble_eq_true rfl | omega | (dsimp only [rm_law, rm_X2_pour]; omega))⟩) rfl rfl rfl (by decide) rfl (fun _ => rfl) (by first | exact Nat.le_of_ble_eq_true rfl | omega | (dsimp only [rm_law, rm_X2_pour]; omega)) (by first | exact Nat.le_of_ble_eq_true rfl | omega | (dsimp only [rm_law, rm_X2_pour]; omega)) (fun r_8 u2 H locs hp_7 hW => ?_)
    rcases hp_7 with ⟨h2, rfl, rfl⟩ | ⟨h2, rfl, rfl⟩ | ⟨h2, rfl, rfl⟩
    · exact (hv h2.1).elim
    · skip
      have hW : St κ A s.heap H _ (WX κ x a a2 ++ (WC κ a σ br ++ (WC κ a2 τ bt ++ (WM κ mm σ 1 kp ++ (WL κ o g))))) := hW
      refine lv_istore (lv' := [(6, .int (J 0)), (5, .int (J 1)), (0, .ref b), (1, .ref x), (2, .ref (mm 0)), (3, .ref o), (4, .int (J (4 * (i : Int))))]) hx hb dL_law_442 hl (by decide) rfl (fun ls hl => ?_)
      refine lv_aload_n hx hb dL_law_444 rfl (lv_at hl 4 rfl) ?_
      refine fin_i (k := (k + 4)) (n := (n + 24)) (W2 := (fun _ => (WX κ x a a2 ++ (WC κ a σ br ++ (WC κ a2 τ bt ++ (WM κ mm σ 1 kp ++ (WL κ o g))))))) [15, 16, 17, 18] [0, 1, 2, 3, 4, 5, 6, 7, 8, 9, 10, 11, 12, 13, 14, 19] [0, 1, 2, 3, 4, 5, 6, 7, 8, 9, 10, 11, 12, 13, 14, 16, 17, 18, 19, 15] hW hA (va_runV (As := []) (rest := []) F ((m_X2_thrown l κ mm σ 1 kp) _) (cwV 0 hts gL_law_X2_thrown rfl rfl rfl (by decide +kernel) ⟨(Nat.le_of_ble_eq_true rfl), (Nat.le_of_ble_eq_true rfl)⟩) (pre_V hK hW [15, 16, 17, 18] rfl (by decide) 2 15 rfl rfl) rfl rfl hl.1 rfl (lv_room (Nat.le_of_ble_eq_true rfl)) dL_law_445 ⟨(by first | exact Nat.le_of_ble_eq_true rfl | omega | (dsimp only [rm_law, rm_X2_thrown]; omega)), (by first | exact Nat.le_of_ble_eq_true rfl | omega | (dsimp only [rm_law, rm_X2_thrown]; omega))⟩) rfl rfl rfl (by decide) rfl (fun _ => rfl) (by first | exact Nat.le_of_ble_eq_true rfl | omega | (dsimp only [rm_law, rm_X2_thrown]; omega)) (by first | exact Nat.le_of_ble_eq_true rfl | omega | (dsimp only [rm_law, rm_X2_thrown]; omega)) (fun r_10 u H locs hp_9 hW => ?_)
      subst hp_9
      refine lv_iload hx hb dL_law_448 (lv_at hl 1 rfl) ?_
      refine lv_icmp_eq (tgt := 455) hx hb dL_law_450 (by decide) (fun _ => ?_) (fun h => absurd rfl h)
      refine lv_iload hx hb dL_law_455 (lv_at hl 1 rfl) ?_
      refine jv_if_ne hx hb 472 dL_law_457 (by decide) ⟨by omega, by omega⟩ (fun h => ?_) (fun h => by exfalso; omega)
      refine lv_goto (tgt := 1521) hx hb dL_law_472 (by decide) ?_
      refine W.widen (k := k + 300) (n := n + 2000) (by omega) (by omega) ?_
      exact next σ τ br bt kp 1 g _ _ _ hI (by omega) (by omega) hW (lv_sub hl [2, 3, 4, 5, 6] rfl)
    · exact (hv h2.1).elim
  · skip
    have hW : St κ A s.heap H _ (WX κ x a a2 ++ (WC κ a σ br ++ (WC κ a2 τ bt ++ (WM κ mm σ th kp ++ (WL κ o g))))) := hW
    refine lv_istore (lv' := [(5, .int (J 2)), (0, .ref b), (1, .ref x), (2, .ref (mm 0)), (3, .ref o), (4, .int (J (4 * (i : Int))))]) hx hb dL_law_418 hl (by decide) rfl (fun ls hl => ?_)
    refine lv_aload_n hx hb dL_law_420 rfl (lv_at hl 3 rfl) ?_
    refine lv_aload_n hx hb dL_law_421 rfl (lv_at hl 1 rfl) ?_
    refine lv_iload hx hb dL_law_422 (lv_at hl 5 rfl) ?_
    refine jv_iconst hx hb dL_law_424 ?_
    refine jv_iadd hx hb dL_law_425 ?_
    refine js_ld (xs := xs) hx hb hX hbl hbA hW ((4 * i) + 1) (by omega) (by omega) hL dL_law_426 ?_
    refine lv_aload_n hx hb dL_law_427 rfl (lv_at hl 1 rfl) ?_
    refine lv_iload hx hb dL_law_428 (lv_at hl 5 rfl) ?_
    refine jv_iconst hx hb dL_law_430 ?_
    refine jv_iadd hx hb dL_law_431 ?_
    refine js_ld (xs := xs) hx hb hX hbl hbA hW ((4 * i) + 2) (by omega) (by omega) hL dL_law_432 ?_
    refine lv_aload_n hx hb dL_law_433 rfl (lv_at hl 1 rfl) ?_
    refine lv_iload hx hb dL_law_434 (lv_at hl 5 rfl) ?_
    refine jv_iconst hx hb dL_law_436 ?_
    refine jv_iadd hx hb dL_law_437 ?_
    refine js_ld (xs := xs) hx hb hX hbl hbA hW ((4 * i) + 3) (by omega) (by omega) hL dL_law_438 ?_
    refine fin_i (k := (k + 4)) (n := (n + 24)) (W2 := (fun u2 => (WX κ x a a2 ++ (WC κ a σ br ++ (WC κ a2 τ bt ++ (WM κ mm u2.1 u2.2 kp ++ (WL κ o g))))))) [15, 16, 17, 18] [0, 1, 2, 3, 4, 5, 6, 7, 8, 9, 10, 11, 12, 13, 14, 19] [0, 1, 2, 3, 4, 5, 6, 7, 8, 9, 10, 11, 12, 13, 14, 16, 17, 18, 19, 15] hW hA (va_runV (As := [.int (J (sx xs ((4 * i) + 1))), .int (J (sx xs ((4 * i) + 2))), .int (J (sx xs ((4 * i) + 3)))]) (rest := []) F ((m_X2_pour l κ mm σ th kp (sx xs (4 * i + 1)) (sx xs (4 * i + 2)) (sx xs (4 * i + 3)) ⟨hz1, hz2, hz3⟩ hI) _) (cwV 3 hts gL_law_X2_pour rfl rfl rfl (by decide +kernel) ⟨(Nat.le_of_ble_eq_true rfl), (Nat.le_of_ble_eq_true rfl)⟩) (pre_V hK hW [15, 16, 17, 18] rfl (by decide) 2 15 rfl rfl) rfl rfl hl.1 rfl (lv_room (Nat.le_of_ble_eq_true rfl)) dL_law_439 ⟨(by first | exact Nat.le_of_ble_eq_true rfl | omega | (dsimp only [rm_law, rm_X2_pour]; omega)), (by first | exact Nat.le_of_ble_eq_true rfl | omega | (dsimp only [rm_law, rm_X2_pour]; omega))⟩) rfl rfl rfl (by decide) rfl (fun _ => rfl) (by first | exact Nat.le_of_ble_eq_true rfl | omega | (dsimp only [rm_law, rm_X2_pour]; omega)) (by first | exact Nat.le_of_ble_eq_true rfl | omega | (dsimp only [rm_law, rm_X2_pour]; omega)) (fun r_12 u2 H locs hp_11 hW => ?_)
    rcases hp_11 with ⟨h2, rfl, rfl⟩ | ⟨h2, rfl, rfl⟩ | ⟨h2, rfl, rfl⟩
    · exact (hv.2 h2.2).elim
    · exact (h2 hv.1).elim
    · skip
      have hW : St κ A s.heap H _ (WX κ x a a2 ++ (WC κ a σ br ++ (WC κ a2 τ bt ++ (WM κ mm σ 2 kp ++ (WL κ o g))))) := hW
      refine lv_istore (lv' := [(6, .int (J 0)), (5, .int (J 2)), (0, .ref b), (1, .ref x), (2, .ref (mm 0)), (3, .ref o), (4, .int (J (4 * (i : Int))))]) hx hb dL_law_442 hl (by decide) rfl (fun ls hl => ?_)
      refine lv_aload_n hx hb dL_law_444 rfl (lv_at hl 4 rfl) ?_
      refine fin_i (k := (k + 4)) (n := (n + 24)) (W2 := (fun _ => (WX κ x a a2 ++ (WC κ a σ br ++ (WC κ a2 τ bt ++ (WM κ mm σ 2 kp ++ (WL κ o g))))))) [15, 16, 17, 18] [0, 1, 2, 3, 4, 5, 6, 7, 8, 9, 10, 11, 12, 13, 14, 19] [0, 1, 2, 3, 4, 5, 6, 7, 8, 9, 10, 11, 12, 13, 14, 16, 17, 18, 19, 15] hW hA (va_runV (As := []) (rest := []) F ((m_X2_thrown l κ mm σ 2 kp) _) (cwV 0 hts gL_law_X2_thrown rfl rfl rfl (by decide +kernel) ⟨(Nat.le_of_ble_eq_true rfl), (Nat.le_of_ble_eq_true rfl)⟩) (pre_V hK hW [15, 16, 17, 18] rfl (by decide) 2 15 rfl rfl) rfl rfl hl.1 rfl (lv_room (Nat.le_of_ble_eq_true rfl)) dL_law_445 ⟨(by first | exact Nat.le_of_ble_eq_true rfl | omega | (dsimp only [rm_law, rm_X2_thrown]; omega)), (by first | exact Nat.le_of_ble_eq_true rfl | omega | (dsimp only [rm_law, rm_X2_thrown]; omega))⟩) rfl rfl rfl (by decide) rfl (fun _ => rfl) (by first | exact Nat.le_of_ble_eq_true rfl | omega | (dsimp only [rm_law, rm_X2_thrown]; omega)) (by first | exact Nat.le_of_ble_eq_true rfl | omega | (dsimp only [rm_law, rm_X2_thrown]; omega)) (fun r_14 u H locs hp_13 hW => ?_)
      subst hp_13
      refine lv_iload hx hb dL_law_448 (lv_at hl 1 rfl) ?_
      refine lv_icmp_eq (tgt := 455) hx hb dL_law_450 (by decide) (fun _ => ?_) (fun h => absurd rfl h)
      refine lv_iload hx hb dL_law_455 (lv_at hl 1 rfl) ?_
      refine jv_if_ne hx hb 472 dL_law_457 (by decide) ⟨by omega, by omega⟩ (fun h => ?_) (fun h => by exfalso; omega)
      refine lv_goto (tgt := 1521) hx hb dL_law_472 (by decide) ?_
      refine W.widen (k := k + 300) (n := n + 2000) (by omega) (by omega) ?_
      exact next σ τ br bt kp 2 g _ _ _ hI (by omega) (by omega) hW (lv_sub hl [2, 3, 4, 5, 6] rfl)

set_option maxHeartbeats 4000000 in
set_option maxRecDepth 100000 in
/-- the law: c0 -/
theorem law_c0 {P : Program} {l : Launch} {e : Env} {s : State} {m : MethodId} {below : List Frame} {meth : Method} {c : Code} {Q : State → Prop} {b L : Nat} {xs : Nat → Int32} {κ : Kp} {A : Nat → Prop} {x o : Nat} {a a2 mm : Nat → Nat} (hstk : l.stackTraces = false) (F : CallFix P m c cL_law 9 s #[Value.ref b] wsL_law RL) (hK : Kx κ s) (hT : Tk A s s.heap) (hN9 : Ncx s) (hA : ∀ q, s.heap.size ≤ q → A q) (hX : va_X b L xs s s.heap) (hbl : b < s.heap.size) (hbA : ¬ A b) (hL : L ≤ 2048) {i : Nat} (hi : 4 * i + 4 ≤ L) {k n : Nat} (hk : k + 300 ≤ 601024) (hn : n + 2000 ≤ 7293034) {σ τ : Sg} {br bt kp : Nat → Int} {th : Int} {g : Nat → Int64} (hI : Inv σ) (hB0 : σ 5 0 ≤ 60 * (i : Int)) (hC0 : σ 5 1 ≤ 60 * (i : Int))
    (next : LNext P l e s m below meth c Q κ A b x o a a2 mm i k n) {H : Heap} {locs : List Loc} {ls : Array Slot} (hW : St κ A s.heap H locs (WB κ x a a2 mm o σ τ br bt kp th g)) (hl : lv_has ls 9 (LLoc b x o mm i)) : W P l e rm_law s m #[Value.ref b] below meth c H locs k n Q (F0 m 184 ls []) := by
  obtain ⟨hx, hb, hml, hown, hts⟩ := id F
  have hN := hI.hN
  have hN10 := hI.n10
  have hB : σ 5 0 ≤ 100000000 := by omega
  have hC : σ 5 1 ≤ 100000000 := by omega
  have hz1 := sx_in xs (4 * i + 1)
  have hz2 := sx_in xs (4 * i + 2)
  have hz3 := sx_in xs (4 * i + 3)
  refine lv_aload_n hx hb dL_law_184 rfl (lv_at hl 1 rfl) ?_
  refine lv_aload_n hx hb dL_law_185 rfl (lv_at hl 0 rfl) ?_
  refine lv_iload hx hb dL_law_186 (lv_at hl 4 rfl) ?_
  refine jv_iconst hx hb dL_law_188 ?_
  refine jv_iadd hx hb dL_law_189 ?_
  refine js_ld (xs := xs) hx hb hX hbl hbA hW ((4 * i) + 1) (by omega) (by omega) hL dL_law_190 ?_
  refine lv_aload_n hx hb dL_law_191 rfl (lv_at hl 0 rfl) ?_
  refine lv_iload hx hb dL_law_192 (lv_at hl 4 rfl) ?_
  refine jv_iconst hx hb dL_law_194 ?_
  refine jv_iadd hx hb dL_law_195 ?_
  refine js_ld (xs := xs) hx hb hX hbl hbA hW ((4 * i) + 2) (by omega) (by omega) hL dL_law_196 ?_
  refine lv_aload_n hx hb dL_law_197 rfl (lv_at hl 0 rfl) ?_
  refine lv_iload hx hb dL_law_198 (lv_at hl 4 rfl) ?_
  refine jv_iconst hx hb dL_law_200 ?_
  refine jv_iadd hx hb dL_law_201 ?_
  refine js_ld (xs := xs) hx hb hX hbl hbA hW ((4 * i) + 3) (by omega) (by omega) hL dL_law_202 ?_
  refine lv_aload_n hx hb dL_law_203 rfl (lv_at hl 3 rfl) ?_
  refine fint_i (k := (k + 4)) (n := (n + 24)) (W2 := (fun uu => (WX κ x a a2 ++ (WC κ a uu.1 br ++ (WC κ a2 τ bt ++ (WM κ mm σ th kp ++ (WL κ o uu.2))))))) [0, 1, 2, 3, 4, 5, 6, 7, 19] [8, 9, 10, 11, 12, 13, 14, 15, 16, 17, 18] [11, 12, 13, 14, 15, 16, 17, 18, 0, 1, 2, 3, 4, 5, 6, 7, 8, 9, 10, 19] hW hA (vx_runSX (As := [.ref x, .int (J (sx xs ((4 * i) + 1))), .int (J (sx xs ((4 * i) + 2))), .int (J (sx xs ((4 * i) + 3))), .ref o]) (rest := []) F ((m_L_addPot l κ hstk x a a2 σ br o g (sx xs (4 * i + 1)) (sx xs (4 * i + 2)) (sx xs (4 * i + 3)) ⟨hz1, hz2, hz3⟩ hI) _) (vx_cwSW 5 hts gL_law_L_addPot rfl rfl rfl (by decide +kernel) ⟨(Nat.le_of_ble_eq_true rfl), (Nat.le_of_ble_eq_true rfl)⟩) (pre_SL hN9 hK hT hW hA [0, 1, 2, 3, 4, 5, 6, 7, 19] rfl (by decide)) rfl rfl hl.1 rfl (lv_room (Nat.le_of_ble_eq_true rfl)) dL_law_204 ⟨(by first | exact Nat.le_of_ble_eq_true rfl | omega | (dsimp only [rm_law, rm_L_addPot]; omega)), (by first | exact Nat.le_of_ble_eq_true rfl | omega | (dsimp only [rm_law, rm_L_addPot]; omega))⟩) rfl rfl rfl (by decide) rfl (fun _ => rfl) rfl (by first | exact Nat.le_of_ble_eq_true rfl | omega | (dsimp only [rm_law, rm_L_addPot]; omega)) (by first | exact Nat.le_of_ble_eq_true rfl | omega | (dsimp only [rm_law, rm_L_addPot]; omega)) (fun E ce q9 H locs hX hW g1 g2 g3 => False.elim hX) (fun r_2 uu H locs hp_1 hW => ?_)
  rcases hp_1 with ⟨hv, rfl, rfl⟩ | ⟨hv, rfl, rfl⟩ | ⟨hv, rfl, rfl⟩
  · skip
    have hW : St κ A s.heap H _ (WX κ x a a2 ++ (WC κ a (up (up (up (up σ 4 ((σ 5 3).toNat) (sx xs (4 * i + 1))) 0 ((σ 5 3).toNat) (sx xs (4 * i + 2))) 1 ((σ 5 3).toNat) (sx xs (4 * i + 3))) 5 3 (σ 5 3 + 1)) br ++ (WC κ a2 τ bt ++ (WM κ mm σ th kp ++ (WL κ o (vp_updL g 0 ((J (σ 5 3)).toInt64))))))) := hW
    refine lv_istore (lv' := [(5, .int (J 0)), (0, .ref b), (1, .ref x), (2, .ref (mm 0)), (3, .ref o), (4, .int (J (4 * (i : Int))))]) hx hb dL_law_207 hl (by decide) rfl (fun ls hl => ?_)
    refine lv_aload_n hx hb dL_law_209 rfl (lv_at hl 3 rfl) ?_
    refine lv_aload_n hx hb dL_law_210 rfl (lv_at hl 1 rfl) ?_
    refine lv_iload hx hb dL_law_211 (lv_at hl 5 rfl) ?_
    refine jv_iconst hx hb dL_law_213 ?_
    refine jv_iadd hx hb dL_law_214 ?_
    refine js_ld (xs := xs) hx hb hX hbl hbA hW ((4 * i) + 1) (by omega) (by omega) hL dL_law_215 ?_
    refine lv_aload_n hx hb dL_law_216 rfl (lv_at hl 1 rfl) ?_
    refine lv_iload hx hb dL_law_217 (lv_at hl 5 rfl) ?_
    refine jv_iconst hx hb dL_law_219 ?_
    refine jv_iadd hx hb dL_law_220 ?_
    refine js_ld (xs := xs) hx hb hX hbl hbA hW ((4 * i) + 2) (by omega) (by omega) hL dL_law_221 ?_
    refine lv_aload_n hx hb dL_law_222 rfl (lv_at hl 1 rfl) ?_
    refine lv_iload hx hb dL_law_223 (lv_at hl 5 rfl) ?_
    refine jv_iconst hx hb dL_law_225 ?_
    refine jv_iadd hx hb dL_law_226 ?_
    refine js_ld (xs := xs) hx hb hX hbl hbA hW ((4 * i) + 3) (by omega) (by omega) hL dL_law_227 ?_
    refine fin_i (k := (k + 4)) (n := (n + 24)) (W2 := (fun u2 => (WX κ x a a2 ++ (WC κ a (up (up (up (up σ 4 ((σ 5 3).toNat) (sx xs (4 * i + 1))) 0 ((σ 5 3).toNat) (sx xs (4 * i + 2))) 1 ((σ 5 3).toNat) (sx xs (4 * i + 3))) 5 3 (σ 5 3 + 1)) br ++ (WC κ a2 τ bt ++ (WM κ mm u2.1 u2.2 kp ++ (WL κ o (vp_updL g 0 ((J (σ 5 3)).toInt64))))))))) [15, 16, 17, 18] [0, 1, 2, 3, 4, 5, 6, 7, 8, 9, 10, 11, 12, 13, 14, 19] [0, 1, 2, 3, 4, 5, 6, 7, 8, 9, 10, 11, 12, 13, 14, 16, 17, 18, 19, 15] hW hA (va_runV (As := [.int (J (sx xs ((4 * i) + 1))), .int (J (sx xs ((4 * i) + 2))), .int (J (sx xs ((4 * i) + 3)))]) (rest := []) F ((m_X2_addPot l κ mm σ th kp (sx xs (4 * i + 1)) (sx xs (4 * i + 2)) (sx xs (4 * i + 3)) ⟨hz1, hz2, hz3⟩ hI) _) (cwV 3 hts gL_law_X2_addPot rfl rfl rfl (by decide +kernel) ⟨(Nat.le_of_ble_eq_true rfl), (Nat.le_of_ble_eq_true rfl)⟩) (pre_V hK hW [15, 16, 17, 18] rfl (by decide) 2 15 rfl rfl) rfl rfl hl.1 rfl (lv_room (Nat.le_of_ble_eq_true rfl)) dL_law_228 ⟨(by first | exact Nat.le_of_ble_eq_true rfl | omega | (dsimp only [rm_law, rm_X2_addPot]; omega)), (by first | exact Nat.le_of_ble_eq_true rfl | omega | (dsimp only [rm_law, rm_X2_addPot]; omega))⟩) rfl rfl rfl (by decide) rfl (fun _ => rfl) (by first | exact Nat.le_of_ble_eq_true rfl | omega | (dsimp only [rm_law, rm_X2_addPot]; omega)) (by first | exact Nat.le_of_ble_eq_true rfl | omega | (dsimp only [rm_law, rm_X2_addPot]; omega)) (fun r_4 u2 H locs hp_3 hW => ?_)
    rcases hp_3 with ⟨h2, rfl, rfl⟩ | ⟨h2, rfl, rfl⟩ | ⟨h2, rfl, rfl⟩
    · skip
      have hW : St κ A s.heap H _ (WX κ x a a2 ++ (WC κ a (up (up (up (up σ 4 ((σ 5 3).toNat) (sx xs (4 * i + 1))) 0 ((σ 5 3).toNat) (sx xs (4 * i + 2))) 1 ((σ 5 3).toNat) (sx xs (4 * i + 3))) 5 3 (σ 5 3 + 1)) br ++ (WC κ a2 τ bt ++ (WM κ mm (up (up (up (up σ 4 ((σ 5 3).toNat) (sx xs (4 * i + 1))) 0 ((σ 5 3).toNat) (sx xs (4 * i + 2))) 1 ((σ 5 3).toNat) (sx xs (4 * i + 3))) 5 3 (σ 5 3 + 1)) 0 kp ++ (WL κ o (vp_updL g 0 ((J (σ 5 3)).toInt64))))))) := hW
      refine lv_istore (lv' := [(6, .int (J (σ 5 3))), (5, .int (J 0)), (0, .ref b), (1, .ref x), (2, .ref (mm 0)), (3, .ref o), (4, .int (J (4 * (i : Int))))]) hx hb dL_law_231 hl (by decide) rfl (fun ls hl => ?_)
      refine lv_aload_n hx hb dL_law_233 rfl (lv_at hl 4 rfl) ?_
      refine fin_i (k := (k + 4)) (n := (n + 24)) (W2 := (fun _ => (WX κ x a a2 ++ (WC κ a (up (up (up (up σ 4 ((σ 5 3).toNat) (sx xs (4 * i + 1))) 0 ((σ 5 3).toNat) (sx xs (4 * i + 2))) 1 ((σ 5 3).toNat) (sx xs (4 * i + 3))) 5 3 (σ 5 3 + 1)) br ++ (WC κ a2 τ bt ++ (WM κ mm (up (up (up (up σ 4 ((σ 5 3).toNat) (sx xs (4 * i + 1))) 0 ((σ 5 3).toNat) (sx xs (4 * i + 2))) 1 ((σ 5 3).toNat) (sx xs (4 * i + 3))) 5 3 (σ 5 3 + 1)) 0 kp ++ (WL κ o (vp_updL g 0 ((J (σ 5 3)).toInt64))))))))) [15, 16, 17, 18] [0, 1, 2, 3, 4, 5, 6, 7, 8, 9, 10, 11, 12, 13, 14, 19] [0, 1, 2, 3, 4, 5, 6, 7, 8, 9, 10, 11, 12, 13, 14, 16, 17, 18, 19, 15] hW hA (va_runV (As := []) (rest := []) F ((m_X2_thrown l κ mm (up (up (up (up σ 4 ((σ 5 3).toNat) (sx xs (4 * i + 1))) 0 ((σ 5 3).toNat) (sx xs (4 * i + 2))) 1 ((σ 5 3).toNat) (sx xs (4 * i + 3))) 5 3 (σ 5 3 + 1)) 0 kp) _) (cwV 0 hts gL_law_X2_thrown rfl rfl rfl (by decide +kernel) ⟨(Nat.le_of_ble_eq_true rfl), (Nat.le_of_ble_eq_true rfl)⟩) (pre_V hK hW [15, 16, 17, 18] rfl (by decide) 2 15 rfl rfl) rfl rfl hl.1 rfl (lv_room (Nat.le_of_ble_eq_true rfl)) dL_law_234 ⟨(by first | exact Nat.le_of_ble_eq_true rfl | omega | (dsimp only [rm_law, rm_X2_thrown]; omega)), (by first | exact Nat.le_of_ble_eq_true rfl | omega | (dsimp only [rm_law, rm_X2_thrown]; omega))⟩) rfl rfl rfl (by decide) rfl (fun _ => rfl) (by first | exact Nat.le_of_ble_eq_true rfl | omega | (dsimp only [rm_law, rm_X2_thrown]; omega)) (by first | exact Nat.le_of_ble_eq_true rfl | omega | (dsimp only [rm_law, rm_X2_thrown]; omega)) (fun r_6 u H locs hp_5 hW => ?_)
      subst hp_5
      refine lv_iload hx hb dL_law_237 (lv_at hl 1 rfl) ?_
      refine lv_icmp_eq (tgt := 244) hx hb dL_law_239 (by decide) (fun _ => ?_) (fun h => absurd rfl h)
      refine lv_iload hx hb dL_law_244 (lv_at hl 1 rfl) ?_
      refine jv_if_ne hx hb 261 dL_law_246 (by decide) ⟨by omega, by omega⟩ (fun h => by exfalso; omega) (fun h => ?_)
      refine lv_aload_n hx hb dL_law_249 rfl (lv_at hl 5 rfl) ?_
      refine jv_iconst hx hb dL_law_250 ?_
      refine jv_lald (g := (vp_updL g 0 ((J (σ 5 3)).toInt64))) hx hb hK hW 19 rfl dL_law_251 ?_
      refine lv_iload hx hb dL_law_252 (lv_at hl 0 rfl) ?_
      refine lv_i2l hx hb dL_law_254 rfl ?_
      refine jv_lcmp hx hb rfl dL_law_255 ?_
      refine jv_if_eq hx hb 261 dL_law_256 (by decide) ⟨by omega, by omega⟩ (fun h => ?_) (fun h => by exfalso; omega)
      refine lv_goto (tgt := 1521) hx hb dL_law_261 (by decide) ?_
      refine W.widen (k := k + 300) (n := n + 2000) (by omega) (by omega) ?_
      exact next (up (up (up (up σ 4 ((σ 5 3).toNat) (sx xs (4 * i + 1))) 0 ((σ 5 3).toNat) (sx xs (4 * i + 2))) 1 ((σ 5 3).toNat) (sx xs (4 * i + 3))) 5 3 (σ 5 3 + 1)) τ br bt kp 0 (vp_updL g 0 ((J (σ 5 3)).toInt64)) _ _ _ ((((hI.u4 hv.1.1).u0 hv.1.2.1).u1 hv.1.2.2).u53 (by have := hI.1; have := hv.2; omega)) (Int.le_trans hB0 (by omega)) (Int.le_trans hC0 (by omega)) hW (lv_sub hl [2, 3, 4, 5, 6] rfl)
    · exact (h2 hv.1).elim
    · exact (h2.2 hv.2).elim
  · skip
    have hW : St κ A s.heap H _ (WX κ x a a2 ++ (WC κ a σ br ++ (WC κ a2 τ bt ++ (WM κ mm σ th kp ++ (WL κ o g))))) := hW
    refine lv_istore (lv' := [(5, .int (J 1)), (0, .ref b), (1, .ref x), (2, .ref (mm 0)), (3, .ref o), (4, .int (J (4 * (i : Int))))]) hx hb dL_law_207 hl (by decide) rfl (fun ls hl => ?_)
    refine lv_aload_n hx hb dL_law_209 rfl (lv_at hl 3 rfl) ?_
    refine lv_aload_n hx hb dL_law_210 rfl (lv_at hl 1 rfl) ?_
    refine lv_iload hx hb dL_law_211 (lv_at hl 5 rfl) ?_
    refine jv_iconst hx hb dL_law_213 ?_
    refine jv_iadd hx hb dL_law_214 ?_
    refine js_ld (xs := xs) hx hb hX hbl hbA hW ((4 * i) + 1) (by omega) (by omega) hL dL_law_215 ?_
    refine lv_aload_n hx hb dL_law_216 rfl (lv_at hl 1 rfl) ?_
    refine lv_iload hx hb dL_law_217 (lv_at hl 5 rfl) ?_
    refine jv_iconst hx hb dL_law_219 ?_
    refine jv_iadd hx hb dL_law_220 ?_
    refine js_ld (xs := xs) hx hb hX hbl hbA hW ((4 * i) + 2) (by omega) (by omega) hL dL_law_221 ?_
    refine lv_aload_n hx hb dL_law_222 rfl (lv_at hl 1 rfl) ?_
    refine lv_iload hx hb dL_law_223 (lv_at hl 5 rfl) ?_
    refine jv_iconst hx hb dL_law_225 ?_
    refine jv_iadd hx hb dL_law_226 ?_
    refine js_ld (xs := xs) hx hb hX hbl hbA hW ((4 * i) + 3) (by omega) (by omega) hL dL_law_227 ?_
    refine fin_i (k := (k + 4)) (n := (n + 24)) (W2 := (fun u2 => (WX κ x a a2 ++ (WC κ a σ br ++ (WC κ a2 τ bt ++ (WM κ mm u2.1 u2.2 kp ++ (WL κ o g))))))) [15, 16, 17, 18] [0, 1, 2, 3, 4, 5, 6, 7, 8, 9, 10, 11, 12, 13, 14, 19] [0, 1, 2, 3, 4, 5, 6, 7, 8, 9, 10, 11, 12, 13, 14, 16, 17, 18, 19, 15] hW hA (va_runV (As := [.int (J (sx xs ((4 * i) + 1))), .int (J (sx xs ((4 * i) + 2))), .int (J (sx xs ((4 * i) + 3)))]) (rest := []) F ((m_X2_addPot l κ mm σ th kp (sx xs (4 * i + 1)) (sx xs (4 * i + 2)) (sx xs (4 * i + 3)) ⟨hz1, hz2, hz3⟩ hI) _) (cwV 3 hts gL_law_X2_addPot rfl rfl rfl (by decide +kernel) ⟨(Nat.le_of_ble_eq_true rfl), (Nat.le_of_ble_eq_true rfl)⟩) (pre_V hK hW [15, 16, 17, 18] rfl (by decide) 2 15 rfl rfl) rfl rfl hl.1 rfl (lv_room (Nat.le_of_ble_eq_true rfl)) dL_law_228 ⟨(by first | exact Nat.le_of_ble_eq_true rfl | omega | (dsimp only [rm_law, rm_X2_addPot]; omega)), (by first | exact Nat.le_of_ble_eq_true rfl | omega | (dsimp only [rm_law, rm_X2_addPot]; omega))⟩) rfl rfl rfl (by decide) rfl (fun _ => rfl) (by first | exact Nat.le_of_ble_eq_true rfl | omega | (dsimp only [rm_law, rm_X2_addPot]; omega)) (by first | exact Nat.le_of_ble_eq_true rfl | omega | (dsimp only [rm_law, rm_X2_addPot]; omega)) (fun r_8 u2 H locs hp_7 hW => ?_)
    rcases hp_7 with ⟨h2, rfl, rfl⟩ | ⟨h2, rfl, rfl⟩ | ⟨h2, rfl, rfl⟩
    · exact (hv h2.1).elim
    · skip
      have hW : St κ A s.heap H _ (WX κ x a a2 ++ (WC κ a σ br ++ (WC κ a2 τ bt ++ (WM κ mm σ 1 kp ++ (WL κ o g))))) := hW
      refine lv_istore (lv' := [(6, .int (J 0)), (5, .int (J 1)), (0, .ref b), (1, .ref x), (2, .ref (mm 0)), (3, .ref o), (4, .int (J (4 * (i : Int))))]) hx hb dL_law_231 hl (by decide) rfl (fun ls hl => ?_)
      refine lv_aload_n hx hb dL_law_233 rfl (lv_at hl 4 rfl) ?_
      refine fin_i (k := (k + 4)) (n := (n + 24)) (W2 := (fun _ => (WX κ x a a2 ++ (WC κ a σ br ++ (WC κ a2 τ bt ++ (WM κ mm σ 1 kp ++ (WL κ o g))))))) [15, 16, 17, 18] [0, 1, 2, 3, 4, 5, 6, 7, 8, 9, 10, 11, 12, 13, 14, 19] [0, 1, 2, 3, 4, 5, 6, 7, 8, 9, 10, 11, 12, 13, 14, 16, 17, 18, 19, 15] hW hA (va_runV (As := []) (rest := []) F ((m_X2_thrown l κ mm σ 1 kp) _) (cwV 0 hts gL_law_X2_thrown rfl rfl rfl (by decide +kernel) ⟨(Nat.le_of_ble_eq_true rfl), (Nat.le_of_ble_eq_true rfl)⟩) (pre_V hK hW [15, 16, 17, 18] rfl (by decide) 2 15 rfl rfl) rfl rfl hl.1 rfl (lv_room (Nat.le_of_ble_eq_true rfl)) dL_law_234 ⟨(by first | exact Nat.le_of_ble_eq_true rfl | omega | (dsimp only [rm_law, rm_X2_thrown]; omega)), (by first | exact Nat.le_of_ble_eq_true rfl | omega | (dsimp only [rm_law, rm_X2_thrown]; omega))⟩) rfl rfl rfl (by decide) rfl (fun _ => rfl) (by first | exact Nat.le_of_ble_eq_true rfl | omega | (dsimp only [rm_law, rm_X2_thrown]; omega)) (by first | exact Nat.le_of_ble_eq_true rfl | omega | (dsimp only [rm_law, rm_X2_thrown]; omega)) (fun r_10 u H locs hp_9 hW => ?_)
      subst hp_9
      refine lv_iload hx hb dL_law_237 (lv_at hl 1 rfl) ?_
      refine lv_icmp_eq (tgt := 244) hx hb dL_law_239 (by decide) (fun _ => ?_) (fun h => absurd rfl h)
      refine lv_iload hx hb dL_law_244 (lv_at hl 1 rfl) ?_
      refine jv_if_ne hx hb 261 dL_law_246 (by decide) ⟨by omega, by omega⟩ (fun h => ?_) (fun h => by exfalso; omega)
      refine lv_goto (tgt := 1521) hx hb dL_law_261 (by decide) ?_
      refine W.widen (k := k + 300) (n := n + 2000) (by omega) (by omega) ?_
      exact next σ τ br bt kp 1 g _ _ _ hI (by omega) (by omega) hW (lv_sub hl [2, 3, 4, 5, 6] rfl)
    · exact (hv h2.1).elim
  · skip
    have hW : St κ A s.heap H _ (WX κ x a a2 ++ (WC κ a σ br ++ (WC κ a2 τ bt ++ (WM κ mm σ th kp ++ (WL κ o g))))) := hW
    refine lv_istore (lv' := [(5, .int (J 2)), (0, .ref b), (1, .ref x), (2, .ref (mm 0)), (3, .ref o), (4, .int (J (4 * (i : Int))))]) hx hb dL_law_207 hl (by decide) rfl (fun ls hl => ?_)
    refine lv_aload_n hx hb dL_law_209 rfl (lv_at hl 3 rfl) ?_
    refine lv_aload_n hx hb dL_law_210 rfl (lv_at hl 1 rfl) ?_
    refine lv_iload hx hb dL_law_211 (lv_at hl 5 rfl) ?_
    refine jv_iconst hx hb dL_law_213 ?_
    refine jv_iadd hx hb dL_law_214 ?_
    refine js_ld (xs := xs) hx hb hX hbl hbA hW ((4 * i) + 1) (by omega) (by omega) hL dL_law_215 ?_
    refine lv_aload_n hx hb dL_law_216 rfl (lv_at hl 1 rfl) ?_
    refine lv_iload hx hb dL_law_217 (lv_at hl 5 rfl) ?_
    refine jv_iconst hx hb dL_law_219 ?_
    refine jv_iadd hx hb dL_law_220 ?_
    refine js_ld (xs := xs) hx hb hX hbl hbA hW ((4 * i) + 2) (by omega) (by omega) hL dL_law_221 ?_
    refine lv_aload_n hx hb dL_law_222 rfl (lv_at hl 1 rfl) ?_
    refine lv_iload hx hb dL_law_223 (lv_at hl 5 rfl) ?_
    refine jv_iconst hx hb dL_law_225 ?_
    refine jv_iadd hx hb dL_law_226 ?_
    refine js_ld (xs := xs) hx hb hX hbl hbA hW ((4 * i) + 3) (by omega) (by omega) hL dL_law_227 ?_
    refine fin_i (k := (k + 4)) (n := (n + 24)) (W2 := (fun u2 => (WX κ x a a2 ++ (WC κ a σ br ++ (WC κ a2 τ bt ++ (WM κ mm u2.1 u2.2 kp ++ (WL κ o g))))))) [15, 16, 17, 18] [0, 1, 2, 3, 4, 5, 6, 7, 8, 9, 10, 11, 12, 13, 14, 19] [0, 1, 2, 3, 4, 5, 6, 7, 8, 9, 10, 11, 12, 13, 14, 16, 17, 18, 19, 15] hW hA (va_runV (As := [.int (J (sx xs ((4 * i) + 1))), .int (J (sx xs ((4 * i) + 2))), .int (J (sx xs ((4 * i) + 3)))]) (rest := []) F ((m_X2_addPot l κ mm σ th kp (sx xs (4 * i + 1)) (sx xs (4 * i + 2)) (sx xs (4 * i + 3)) ⟨hz1, hz2, hz3⟩ hI) _) (cwV 3 hts gL_law_X2_addPot rfl rfl rfl (by decide +kernel) ⟨(Nat.le_of_ble_eq_true rfl), (Nat.le_of_ble_eq_true rfl)⟩) (pre_V hK hW [15, 16, 17, 18] rfl (by decide) 2 15 rfl rfl) rfl rfl hl.1 rfl (lv_room (Nat.le_of_ble_eq_true rfl)) dL_law_228 ⟨(by first | exact Nat.le_of_ble_eq_true rfl | omega | (dsimp only [rm_law, rm_X2_addPot]; omega)), (by first | exact Nat.le_of_ble_eq_true rfl | omega | (dsimp only [rm_law, rm_X2_addPot]; omega))⟩) rfl rfl rfl (by decide) rfl (fun _ => rfl) (by first | exact Nat.le_of_ble_eq_true rfl | omega | (dsimp only [rm_law, rm_X2_addPot]; omega)) (by first | exact Nat.le_of_ble_eq_true rfl | omega | (dsimp only [rm_law, rm_X2_addPot]; omega)) (fun r_12 u2 H locs hp_11 hW => ?_)
    rcases hp_11 with ⟨h2, rfl, rfl⟩ | ⟨h2, rfl, rfl⟩ | ⟨h2, rfl, rfl⟩
    · exact (hv.2 h2.2).elim
    · exact (h2 hv.1).elim
    · skip
      have hW : St κ A s.heap H _ (WX κ x a a2 ++ (WC κ a σ br ++ (WC κ a2 τ bt ++ (WM κ mm σ 2 kp ++ (WL κ o g))))) := hW
      refine lv_istore (lv' := [(6, .int (J 0)), (5, .int (J 2)), (0, .ref b), (1, .ref x), (2, .ref (mm 0)), (3, .ref o), (4, .int (J (4 * (i : Int))))]) hx hb dL_law_231 hl (by decide) rfl (fun ls hl => ?_)
      refine lv_aload_n hx hb dL_law_233 rfl (lv_at hl 4 rfl) ?_
      refine fin_i (k := (k + 4)) (n := (n + 24)) (W2 := (fun _ => (WX κ x a a2 ++ (WC κ a σ br ++ (WC κ a2 τ bt ++ (WM κ mm σ 2 kp ++ (WL κ o g))))))) [15, 16, 17, 18] [0, 1, 2, 3, 4, 5, 6, 7, 8, 9, 10, 11, 12, 13, 14, 19] [0, 1, 2, 3, 4, 5, 6, 7, 8, 9, 10, 11, 12, 13, 14, 16, 17, 18, 19, 15] hW hA (va_runV (As := []) (rest := []) F ((m_X2_thrown l κ mm σ 2 kp) _) (cwV 0 hts gL_law_X2_thrown rfl rfl rfl (by decide +kernel) ⟨(Nat.le_of_ble_eq_true rfl), (Nat.le_of_ble_eq_true rfl)⟩) (pre_V hK hW [15, 16, 17, 18] rfl (by decide) 2 15 rfl rfl) rfl rfl hl.1 rfl (lv_room (Nat.le_of_ble_eq_true rfl)) dL_law_234 ⟨(by first | exact Nat.le_of_ble_eq_true rfl | omega | (dsimp only [rm_law, rm_X2_thrown]; omega)), (by first | exact Nat.le_of_ble_eq_true rfl | omega | (dsimp only [rm_law, rm_X2_thrown]; omega))⟩) rfl rfl rfl (by decide) rfl (fun _ => rfl) (by first | exact Nat.le_of_ble_eq_true rfl | omega | (dsimp only [rm_law, rm_X2_thrown]; omega)) (by first | exact Nat.le_of_ble_eq_true rfl | omega | (dsimp only [rm_law, rm_X2_thrown]; omega)) (fun r_14 u H locs hp_13 hW => ?_)
      subst hp_13
      refine lv_iload hx hb dL_law_237 (lv_at hl 1 rfl) ?_
      refine lv_icmp_eq (tgt := 244) hx hb dL_law_239 (by decide) (fun _ => ?_) (fun h => absurd rfl h)
      refine lv_iload hx hb dL_law_244 (lv_at hl 1 rfl) ?_
      refine jv_if_ne hx hb 261 dL_law_246 (by decide) ⟨by omega, by omega⟩ (fun h => ?_) (fun h => by exfalso; omega)
      refine lv_goto (tgt := 1521) hx hb dL_law_261 (by decide) ?_
      refine W.widen (k := k + 300) (n := n + 2000) (by omega) (by omega) ?_
      exact next σ τ br bt kp 2 g _ _ _ hI (by omega) (by omega) hW (lv_sub hl [2, 3, 4, 5, 6] rfl)

set_option maxHeartbeats 4000000 in
set_option maxRecDepth 100000 in
/-- the law: c6 -/
theorem law_c6 {P : Program} {l : Launch} {e : Env} {s : State} {m : MethodId} {below : List Frame} {meth : Method} {c : Code} {Q : State → Prop} {b L : Nat} {xs : Nat → Int32} {κ : Kp} {A : Nat → Prop} {x o : Nat} {a a2 mm : Nat → Nat} (hstk : l.stackTraces = false) (F : CallFix P m c cL_law 9 s #[Value.ref b] wsL_law RL) (hK : Kx κ s) (hT : Tk A s s.heap) (hN9 : Ncx s) (hA : ∀ q, s.heap.size ≤ q → A q) (hX : va_X b L xs s s.heap) (hbl : b < s.heap.size) (hbA : ¬ A b) (hL : L ≤ 2048) {i : Nat} (hi : 4 * i + 4 ≤ L) {k n : Nat} (hk : k + 300 ≤ 601024) (hn : n + 2000 ≤ 7293034) {σ τ : Sg} {br bt kp : Nat → Int} {th : Int} {g : Nat → Int64} (hI : Inv σ) (hB0 : σ 5 0 ≤ 60 * (i : Int)) (hC0 : σ 5 1 ≤ 60 * (i : Int))
    (next : LNext P l e s m below meth c Q κ A b x o a a2 mm i k n) {H : Heap} {locs : List Loc} {ls : Array Slot} (hW : St κ A s.heap H locs (WB κ x a a2 mm o σ τ br bt kp th g)) (hl : lv_has ls 9 (LLoc b x o mm i)) : W P l e rm_law s m #[Value.ref b] below meth c H locs k n Q (F0 m 587 ls []) := by
  obtain ⟨hx, hb, hml, hown, hts⟩ := id F
  have hN := hI.hN
  have hN10 := hI.n10
  have hB : σ 5 0 ≤ 100000000 := by omega
  have hC : σ 5 1 ≤ 100000000 := by omega
  have hz1 := sx_in xs (4 * i + 1)
  have hz2 := sx_in xs (4 * i + 2)
  have hz3 := sx_in xs (4 * i + 3)
  refine lv_aload_n hx hb dL_law_587 rfl (lv_at hl 1 rfl) ?_
  refine lv_aload_n hx hb dL_law_588 rfl (lv_at hl 0 rfl) ?_
  refine lv_iload hx hb dL_law_589 (lv_at hl 4 rfl) ?_
  refine jv_iconst hx hb dL_law_591 ?_
  refine jv_iadd hx hb dL_law_592 ?_
  refine js_ld (xs := xs) hx hb hX hbl hbA hW ((4 * i) + 1) (by omega) (by omega) hL dL_law_593 ?_
  refine lv_aload_n hx hb dL_law_594 rfl (lv_at hl 3 rfl) ?_
  refine fint_i (k := (k + 1)) (n := (n + 6)) (W2 := (fun uu => (WX κ x a a2 ++ (WC κ a uu.1 br ++ (WC κ a2 τ bt ++ (WM κ mm σ th kp ++ (WL κ o uu.2))))))) [0, 1, 2, 3, 4, 5, 6, 7, 19] [8, 9, 10, 11, 12, 13, 14, 15, 16, 17, 18] [11, 12, 13, 14, 15, 16, 17, 18, 0, 1, 2, 3, 4, 5, 6, 7, 8, 9, 10, 19] hW hA (vx_runSX (As := [.ref x, .int (J (sx xs ((4 * i) + 1))), .ref o]) (rest := []) F ((m_L_sing l κ hstk x a a2 σ br o g (sx xs (4 * i + 1)) hz1 hI hB) _) (vx_cwSW 3 hts gL_law_L_sing rfl rfl rfl (by decide +kernel) ⟨(Nat.le_of_ble_eq_true rfl), (Nat.le_of_ble_eq_true rfl)⟩) (pre_SL hN9 hK hT hW hA [0, 1, 2, 3, 4, 5, 6, 7, 19] rfl (by decide)) rfl rfl hl.1 rfl (lv_room (Nat.le_of_ble_eq_true rfl)) dL_law_595 ⟨(by first | exact Nat.le_of_ble_eq_true rfl | omega | (dsimp only [rm_law, rm_L_sing]; omega)), (by first | exact Nat.le_of_ble_eq_true rfl | omega | (dsimp only [rm_law, rm_L_sing]; omega))⟩) rfl rfl rfl (by decide) rfl (fun _ => rfl) rfl (by first | exact Nat.le_of_ble_eq_true rfl | omega | (dsimp only [rm_law, rm_L_sing]; omega)) (by first | exact Nat.le_of_ble_eq_true rfl | omega | (dsimp only [rm_law, rm_L_sing]; omega)) (fun E ce q9 H locs hX hW g1 g2 g3 => False.elim hX) (fun r_2 uu H locs hp_1 hW => ?_)
  rcases hp_1 with ⟨hv, rfl, rfl⟩ | ⟨hv, rfl, rfl⟩
  · skip
    have hW : St κ A s.heap H _ (WX κ x a a2 ++ (WC κ a (pbn σ (sx xs (4 * i + 1)).toNat) br ++ (WC κ a2 τ bt ++ (WM κ mm σ th kp ++ (WL κ o (vp_updL g 0 ((J (pbn σ (sx xs (4 * i + 1)).toNat 5 1 - σ 5 1)).toInt64))))))) := hW
    refine lv_istore (lv' := [(5, .int (J 0)), (0, .ref b), (1, .ref x), (2, .ref (mm 0)), (3, .ref o), (4, .int (J (4 * (i : Int))))]) hx hb dL_law_598 hl (by decide) rfl (fun ls hl => ?_)
    refine lv_aload_n hx hb dL_law_600 rfl (lv_at hl 3 rfl) ?_
    refine lv_aload_n hx hb dL_law_601 rfl (lv_at hl 1 rfl) ?_
    refine lv_iload hx hb dL_law_602 (lv_at hl 5 rfl) ?_
    refine jv_iconst hx hb dL_law_604 ?_
    refine jv_iadd hx hb dL_law_605 ?_
    refine js_ld (xs := xs) hx hb hX hbl hbA hW ((4 * i) + 1) (by omega) (by omega) hL dL_law_606 ?_
    refine fin_i (k := (k + 1)) (n := (n + 6)) (W2 := (fun u2 => (WX κ x a a2 ++ (WC κ a (pbn σ (sx xs (4 * i + 1)).toNat) br ++ (WC κ a2 τ bt ++ (WM κ mm u2.1 u2.2 kp ++ (WL κ o (vp_updL g 0 ((J (pbn σ (sx xs (4 * i + 1)).toNat 5 1 - σ 5 1)).toInt64))))))))) [15, 16, 17, 18] [0, 1, 2, 3, 4, 5, 6, 7, 8, 9, 10, 11, 12, 13, 14, 19] [0, 1, 2, 3, 4, 5, 6, 7, 8, 9, 10, 11, 12, 13, 14, 16, 17, 18, 19, 15] hW hA (va_runV (As := [.int (J (sx xs ((4 * i) + 1)))]) (rest := []) F ((m_X2_sing l κ mm σ th kp (sx xs (4 * i + 1)) hz1 hB hI) _) (cwV 1 hts gL_law_X2_sing rfl rfl rfl (by decide +kernel) ⟨(Nat.le_of_ble_eq_true rfl), (Nat.le_of_ble_eq_true rfl)⟩) (pre_V hK hW [15, 16, 17, 18] rfl (by decide) 2 15 rfl rfl) rfl rfl hl.1 rfl (lv_room (Nat.le_of_ble_eq_true rfl)) dL_law_607 ⟨(by first | exact Nat.le_of_ble_eq_true rfl | omega | (dsimp only [rm_law, rm_X2_sing]; omega)), (by first | exact Nat.le_of_ble_eq_true rfl | omega | (dsimp only [rm_law, rm_X2_sing]; omega))⟩) rfl rfl rfl (by decide) rfl (fun _ => rfl) (by first | exact Nat.le_of_ble_eq_true rfl | omega | (dsimp only [rm_law, rm_X2_sing]; omega)) (by first | exact Nat.le_of_ble_eq_true rfl | omega | (dsimp only [rm_law, rm_X2_sing]; omega)) (fun r_4 u2 H locs hp_3 hW => ?_)
    rcases hp_3 with ⟨h2, rfl, rfl⟩ | ⟨h2, rfl, rfl⟩
    · skip
      have hW : St κ A s.heap H _ (WX κ x a a2 ++ (WC κ a (pbn σ (sx xs (4 * i + 1)).toNat) br ++ (WC κ a2 τ bt ++ (WM κ mm (pbn σ (sx xs (4 * i + 1)).toNat) 0 kp ++ (WL κ o (vp_updL g 0 ((J (pbn σ (sx xs (4 * i + 1)).toNat 5 1 - σ 5 1)).toInt64))))))) := hW
      refine lv_istore (lv' := [(6, .int (J (pbn σ (sx xs (4 * i + 1)).toNat 5 1 - σ 5 1))), (5, .int (J 0)), (0, .ref b), (1, .ref x), (2, .ref (mm 0)), (3, .ref o), (4, .int (J (4 * (i : Int))))]) hx hb dL_law_610 hl (by decide) rfl (fun ls hl => ?_)
      refine lv_aload_n hx hb dL_law_612 rfl (lv_at hl 4 rfl) ?_
      refine fin_i (k := (k + 1)) (n := (n + 6)) (W2 := (fun _ => (WX κ x a a2 ++ (WC κ a (pbn σ (sx xs (4 * i + 1)).toNat) br ++ (WC κ a2 τ bt ++ (WM κ mm (pbn σ (sx xs (4 * i + 1)).toNat) 0 kp ++ (WL κ o (vp_updL g 0 ((J (pbn σ (sx xs (4 * i + 1)).toNat 5 1 - σ 5 1)).toInt64))))))))) [15, 16, 17, 18] [0, 1, 2, 3, 4, 5, 6, 7, 8, 9, 10, 11, 12, 13, 14, 19] [0, 1, 2, 3, 4, 5, 6, 7, 8, 9, 10, 11, 12, 13, 14, 16, 17, 18, 19, 15] hW hA (va_runV (As := []) (rest := []) F ((m_X2_thrown l κ mm (pbn σ (sx xs (4 * i + 1)).toNat) 0 kp) _) (cwV 0 hts gL_law_X2_thrown rfl rfl rfl (by decide +kernel) ⟨(Nat.le_of_ble_eq_true rfl), (Nat.le_of_ble_eq_true rfl)⟩) (pre_V hK hW [15, 16, 17, 18] rfl (by decide) 2 15 rfl rfl) rfl rfl hl.1 rfl (lv_room (Nat.le_of_ble_eq_true rfl)) dL_law_613 ⟨(by first | exact Nat.le_of_ble_eq_true rfl | omega | (dsimp only [rm_law, rm_X2_thrown]; omega)), (by first | exact Nat.le_of_ble_eq_true rfl | omega | (dsimp only [rm_law, rm_X2_thrown]; omega))⟩) rfl rfl rfl (by decide) rfl (fun _ => rfl) (by first | exact Nat.le_of_ble_eq_true rfl | omega | (dsimp only [rm_law, rm_X2_thrown]; omega)) (by first | exact Nat.le_of_ble_eq_true rfl | omega | (dsimp only [rm_law, rm_X2_thrown]; omega)) (fun r_6 u H locs hp_5 hW => ?_)
      subst hp_5
      refine lv_iload hx hb dL_law_616 (lv_at hl 1 rfl) ?_
      refine lv_icmp_eq (tgt := 623) hx hb dL_law_618 (by decide) (fun _ => ?_) (fun h => absurd rfl h)
      refine lv_iload hx hb dL_law_623 (lv_at hl 1 rfl) ?_
      refine jv_if_ne hx hb 640 dL_law_625 (by decide) ⟨by omega, by omega⟩ (fun h => by exfalso; omega) (fun h => ?_)
      refine lv_aload_n hx hb dL_law_628 rfl (lv_at hl 5 rfl) ?_
      refine jv_iconst hx hb dL_law_629 ?_
      refine jv_lald (g := (vp_updL g 0 ((J (pbn σ (sx xs (4 * i + 1)).toNat 5 1 - σ 5 1)).toInt64))) hx hb hK hW 19 rfl dL_law_630 ?_
      refine lv_iload hx hb dL_law_631 (lv_at hl 0 rfl) ?_
      refine lv_i2l hx hb dL_law_633 rfl ?_
      refine jv_lcmp hx hb rfl dL_law_634 ?_
      refine jv_if_eq hx hb 640 dL_law_635 (by decide) ⟨by omega, by omega⟩ (fun h => ?_) (fun h => by exfalso; omega)
      refine lv_goto (tgt := 1521) hx hb dL_law_640 (by decide) ?_
      refine W.widen (k := k + 300) (n := n + 2000) (by omega) (by omega) ?_
      exact next (pbn σ (sx xs (4 * i + 1)).toNat) τ br bt kp 0 (vp_updL g 0 ((J (pbn σ (sx xs (4 * i + 1)).toNat 5 1 - σ 5 1)).toInt64)) _ _ _ (hI.hpbn _) (by rw [pbn_50]; omega) (by have h9 := pbn_51 σ (sx xs (4 * i + 1)).toNat; omega) hW (lv_sub hl [2, 3, 4, 5, 6] rfl)
    · exact (h2 hv).elim
  · skip
    have hW : St κ A s.heap H _ (WX κ x a a2 ++ (WC κ a σ br ++ (WC κ a2 τ bt ++ (WM κ mm σ th kp ++ (WL κ o g))))) := hW
    refine lv_istore (lv' := [(5, .int (J 1)), (0, .ref b), (1, .ref x), (2, .ref (mm 0)), (3, .ref o), (4, .int (J (4 * (i : Int))))]) hx hb dL_law_598 hl (by decide) rfl (fun ls hl => ?_)
    refine lv_aload_n hx hb dL_law_600 rfl (lv_at hl 3 rfl) ?_
    refine lv_aload_n hx hb dL_law_601 rfl (lv_at hl 1 rfl) ?_
    refine lv_iload hx hb dL_law_602 (lv_at hl 5 rfl) ?_
    refine jv_iconst hx hb dL_law_604 ?_
    refine jv_iadd hx hb dL_law_605 ?_
    refine js_ld (xs := xs) hx hb hX hbl hbA hW ((4 * i) + 1) (by omega) (by omega) hL dL_law_606 ?_
    refine fin_i (k := (k + 1)) (n := (n + 6)) (W2 := (fun u2 => (WX κ x a a2 ++ (WC κ a σ br ++ (WC κ a2 τ bt ++ (WM κ mm u2.1 u2.2 kp ++ (WL κ o g))))))) [15, 16, 17, 18] [0, 1, 2, 3, 4, 5, 6, 7, 8, 9, 10, 11, 12, 13, 14, 19] [0, 1, 2, 3, 4, 5, 6, 7, 8, 9, 10, 11, 12, 13, 14, 16, 17, 18, 19, 15] hW hA (va_runV (As := [.int (J (sx xs ((4 * i) + 1)))]) (rest := []) F ((m_X2_sing l κ mm σ th kp (sx xs (4 * i + 1)) hz1 hB hI) _) (cwV 1 hts gL_law_X2_sing rfl rfl rfl (by decide +kernel) ⟨(Nat.le_of_ble_eq_true rfl), (Nat.le_of_ble_eq_true rfl)⟩) (pre_V hK hW [15, 16, 17, 18] rfl (by decide) 2 15 rfl rfl) rfl rfl hl.1 rfl (lv_room (Nat.le_of_ble_eq_true rfl)) dL_law_607 ⟨(by first | exact Nat.le_of_ble_eq_true rfl | omega | (dsimp only [rm_law, rm_X2_sing]; omega)), (by first | exact Nat.le_of_ble_eq_true rfl | omega | (dsimp only [rm_law, rm_X2_sing]; omega))⟩) rfl rfl rfl (by decide) rfl (fun _ => rfl) (by first | exact Nat.le_of_ble_eq_true rfl | omega | (dsimp only [rm_law, rm_X2_sing]; omega)) (by first | exact Nat.le_of_ble_eq_true rfl | omega | (dsimp only [rm_law, rm_X2_sing]; omega)) (fun r_8 u2 H locs hp_7 hW => ?_)
    rcases hp_7 with ⟨h2, rfl, rfl⟩ | ⟨h2, rfl, rfl⟩
    · exact (hv h2).elim
    · skip
      have hW : St κ A s.heap H _ (WX κ x a a2 ++ (WC κ a σ br ++ (WC κ a2 τ bt ++ (WM κ mm σ 1 kp ++ (WL κ o g))))) := hW
      refine lv_istore (lv' := [(6, .int (J 0)), (5, .int (J 1)), (0, .ref b), (1, .ref x), (2, .ref (mm 0)), (3, .ref o), (4, .int (J (4 * (i : Int))))]) hx hb dL_law_610 hl (by decide) rfl (fun ls hl => ?_)
      refine lv_aload_n hx hb dL_law_612 rfl (lv_at hl 4 rfl) ?_
      refine fin_i (k := (k + 1)) (n := (n + 6)) (W2 := (fun _ => (WX κ x a a2 ++ (WC κ a σ br ++ (WC κ a2 τ bt ++ (WM κ mm σ 1 kp ++ (WL κ o g))))))) [15, 16, 17, 18] [0, 1, 2, 3, 4, 5, 6, 7, 8, 9, 10, 11, 12, 13, 14, 19] [0, 1, 2, 3, 4, 5, 6, 7, 8, 9, 10, 11, 12, 13, 14, 16, 17, 18, 19, 15] hW hA (va_runV (As := []) (rest := []) F ((m_X2_thrown l κ mm σ 1 kp) _) (cwV 0 hts gL_law_X2_thrown rfl rfl rfl (by decide +kernel) ⟨(Nat.le_of_ble_eq_true rfl), (Nat.le_of_ble_eq_true rfl)⟩) (pre_V hK hW [15, 16, 17, 18] rfl (by decide) 2 15 rfl rfl) rfl rfl hl.1 rfl (lv_room (Nat.le_of_ble_eq_true rfl)) dL_law_613 ⟨(by first | exact Nat.le_of_ble_eq_true rfl | omega | (dsimp only [rm_law, rm_X2_thrown]; omega)), (by first | exact Nat.le_of_ble_eq_true rfl | omega | (dsimp only [rm_law, rm_X2_thrown]; omega))⟩) rfl rfl rfl (by decide) rfl (fun _ => rfl) (by first | exact Nat.le_of_ble_eq_true rfl | omega | (dsimp only [rm_law, rm_X2_thrown]; omega)) (by first | exact Nat.le_of_ble_eq_true rfl | omega | (dsimp only [rm_law, rm_X2_thrown]; omega)) (fun r_10 u H locs hp_9 hW => ?_)
      subst hp_9
      refine lv_iload hx hb dL_law_616 (lv_at hl 1 rfl) ?_
      refine lv_icmp_eq (tgt := 623) hx hb dL_law_618 (by decide) (fun _ => ?_) (fun h => absurd rfl h)
      refine lv_iload hx hb dL_law_623 (lv_at hl 1 rfl) ?_
      refine jv_if_ne hx hb 640 dL_law_625 (by decide) ⟨by omega, by omega⟩ (fun h => ?_) (fun h => by exfalso; omega)
      refine lv_goto (tgt := 1521) hx hb dL_law_640 (by decide) ?_
      refine W.widen (k := k + 300) (n := n + 2000) (by omega) (by omega) ?_
      exact next σ τ br bt kp 1 g _ _ _ hI (by omega) (by omega) hW (lv_sub hl [2, 3, 4, 5, 6] rfl)

set_option maxHeartbeats 4000000 in
set_option maxRecDepth 100000 in
/-- the law: c27 -/
theorem law_c27 {P : Program} {l : Launch} {e : Env} {s : State} {m : MethodId} {below : List Frame} {meth : Method} {c : Code} {Q : State → Prop} {b L : Nat} {xs : Nat → Int32} {κ : Kp} {A : Nat → Prop} {x o : Nat} {a a2 mm : Nat → Nat} (hstk : l.stackTraces = false) (F : CallFix P m c cL_law 9 s #[Value.ref b] wsL_law RL) (hK : Kx κ s) (hT : Tk A s s.heap) (hN9 : Ncx s) (hA : ∀ q, s.heap.size ≤ q → A q) (hX : va_X b L xs s s.heap) (hbl : b < s.heap.size) (hbA : ¬ A b) (hL : L ≤ 2048) {i : Nat} (hi : 4 * i + 4 ≤ L) {k n : Nat} (hk : k + 300 ≤ 601024) (hn : n + 2000 ≤ 7293034) {σ τ : Sg} {br bt kp : Nat → Int} {th : Int} {g : Nat → Int64} (hI : Inv σ) (hB0 : σ 5 0 ≤ 60 * (i : Int)) (hC0 : σ 5 1 ≤ 60 * (i : Int))
    (next : LNext P l e s m below meth c Q κ A b x o a a2 mm i k n) {H : Heap} {locs : List Loc} {ls : Array Slot} (hW : St κ A s.heap H locs (WB κ x a a2 mm o σ τ br bt kp th g)) (hl : lv_has ls 9 (LLoc b x o mm i)) : W P l e rm_law s m #[Value.ref b] below meth c H locs k n Q (F0 m 1371 ls []) := by
  obtain ⟨hx, hb, hml, hown, hts⟩ := id F
  have hN := hI.hN
  have hN10 := hI.n10
  have hB : σ 5 0 ≤ 100000000 := by omega
  have hC : σ 5 1 ≤ 100000000 := by omega
  have hz1 := sx_in xs (4 * i + 1)
  have hz2 := sx_in xs (4 * i + 2)
  have hz3 := sx_in xs (4 * i + 3)
  refine lv_aload_n hx hb dL_law_1371 rfl (lv_at hl 1 rfl) ?_
  refine lv_aload_n hx hb dL_law_1372 rfl (lv_at hl 0 rfl) ?_
  refine lv_iload hx hb dL_law_1373 (lv_at hl 4 rfl) ?_
  refine jv_iconst hx hb dL_law_1375 ?_
  refine jv_iadd hx hb dL_law_1376 ?_
  refine js_ld (xs := xs) hx hb hX hbl hbA hW ((4 * i) + 1) (by omega) (by omega) hL dL_law_1377 ?_
  refine lv_aload_n hx hb dL_law_1378 rfl (lv_at hl 3 rfl) ?_
  refine fint_i (k := (k + 1)) (n := (n + 6)) (W2 := (fun uu => (WX κ x a a2 ++ (WC κ a σ br ++ (WC κ a2 uu.1 bt ++ (WM κ mm σ th kp ++ (WL κ o uu.2))))))) [0, 1, 2, 3, 4, 5, 6, 7, 8, 9, 10, 11, 12, 13, 14, 19] [15, 16, 17, 18] [4, 5, 6, 7, 8, 9, 10, 11, 12, 13, 14, 15, 16, 17, 18, 0, 1, 2, 3, 19] hW hA (vx_runSX (As := [.ref x, .int (J (sx xs ((4 * i) + 1))), .ref o]) (rest := []) F ((m_L_harmonyIn l κ hstk x a a2 σ br τ bt o g (sx xs (4 * i + 1)) hz1 hI hB) _) (vx_cwSW 3 hts gL_law_L_harmonyIn rfl rfl rfl (by decide +kernel) ⟨(Nat.le_of_ble_eq_true rfl), (Nat.le_of_ble_eq_true rfl)⟩) (pre_SL hN9 hK hT hW hA [0, 1, 2, 3, 4, 5, 6, 7, 8, 9, 10, 11, 12, 13, 14, 19] rfl (by decide)) rfl rfl hl.1 rfl (lv_room (Nat.le_of_ble_eq_true rfl)) dL_law_1379 ⟨(by first | exact Nat.le_of_ble_eq_true rfl | omega | (dsimp only [rm_law, rm_L_harmonyIn]; omega)), (by first | exact Nat.le_of_ble_eq_true rfl | omega | (dsimp only [rm_law, rm_L_harmonyIn]; omega))⟩) rfl rfl rfl (by decide) rfl (fun _ => rfl) rfl (by first | exact Nat.le_of_ble_eq_true rfl | omega | (dsimp only [rm_law, rm_L_harmonyIn]; omega)) (by first | exact Nat.le_of_ble_eq_true rfl | omega | (dsimp only [rm_law, rm_L_harmonyIn]; omega)) (fun E ce q9 H locs hX hW g1 g2 g3 => False.elim hX) (fun r_2 uu H locs hp_1 hW => ?_)
  obtain ⟨τ1, g1⟩ := uu
  rcases hp_1 with ⟨hv, rfl, hu⟩ | ⟨hv, rfl, hu⟩
  · skip
    have hu : g1 = vp_updL g 0 ((J (hm (pbn σ (sx xs (4 * i + 1)).toNat))).toInt64) := hu
    subst hu
    have hW : St κ A s.heap H _ (WX κ x a a2 ++ (WC κ a σ br ++ (WC κ a2 τ1 bt ++ (WM κ mm σ th kp ++ (WL κ o (vp_updL g 0 ((J (hm (pbn σ (sx xs (4 * i + 1)).toNat))).toInt64))))))) := hW
    refine lv_istore (lv' := [(5, .int (J 0)), (0, .ref b), (1, .ref x), (2, .ref (mm 0)), (3, .ref o), (4, .int (J (4 * (i : Int))))]) hx hb dL_law_1382 hl (by decide) rfl (fun ls hl => ?_)
    refine lv_aload_n hx hb dL_law_1384 rfl (lv_at hl 3 rfl) ?_
    refine lv_aload_n hx hb dL_law_1385 rfl (lv_at hl 1 rfl) ?_
    refine lv_iload hx hb dL_law_1386 (lv_at hl 5 rfl) ?_
    refine jv_iconst hx hb dL_law_1388 ?_
    refine jv_iadd hx hb dL_law_1389 ?_
    refine js_ld (xs := xs) hx hb hX hbl hbA hW ((4 * i) + 1) (by omega) (by omega) hL dL_law_1390 ?_
    refine fin_i (k := (k + 1)) (n := (n + 6)) (W2 := (fun u2 => (WX κ x a a2 ++ (WC κ a σ br ++ (WC κ a2 τ1 bt ++ (WM κ mm σ u2.1 u2.2 ++ (WL κ o (vp_updL g 0 ((J (hm (pbn σ (sx xs (4 * i + 1)).toNat))).toInt64))))))))) [15, 16, 17, 18] [0, 1, 2, 3, 4, 5, 6, 7, 8, 9, 10, 11, 12, 13, 14, 19] [0, 1, 2, 3, 4, 5, 6, 7, 8, 9, 10, 11, 12, 13, 14, 16, 17, 18, 19, 15] hW hA (va_runV (As := [.int (J (sx xs ((4 * i) + 1)))]) (rest := []) F ((m_X2_harmonyIn l κ mm σ th kp (sx xs (4 * i + 1)) hz1 hI hB) _) (cwV 1 hts gL_law_X2_harmonyIn rfl rfl rfl (by decide +kernel) ⟨(Nat.le_of_ble_eq_true rfl), (Nat.le_of_ble_eq_true rfl)⟩) (pre_V hK hW [15, 16, 17, 18] rfl (by decide) 2 15 rfl rfl) rfl rfl hl.1 rfl (lv_room (Nat.le_of_ble_eq_true rfl)) dL_law_1391 ⟨(by first | exact Nat.le_of_ble_eq_true rfl | omega | (dsimp only [rm_law, rm_X2_harmonyIn]; omega)), (by first | exact Nat.le_of_ble_eq_true rfl | omega | (dsimp only [rm_law, rm_X2_harmonyIn]; omega))⟩) rfl rfl rfl (by decide) rfl (fun _ => rfl) (by first | exact Nat.le_of_ble_eq_true rfl | omega | (dsimp only [rm_law, rm_X2_harmonyIn]; omega)) (by first | exact Nat.le_of_ble_eq_true rfl | omega | (dsimp only [rm_law, rm_X2_harmonyIn]; omega)) (fun r_4 u2 H locs hp_3 hW => ?_)
    rcases hp_3 with ⟨h2, rfl, rfl⟩ | ⟨h2, rfl, rfl⟩
    · skip
      have hW : St κ A s.heap H _ (WX κ x a a2 ++ (WC κ a σ br ++ (WC κ a2 τ1 bt ++ (WM κ mm σ 0 (nowf σ) ++ (WL κ o (vp_updL g 0 ((J (hm (pbn σ (sx xs (4 * i + 1)).toNat))).toInt64))))))) := hW
      refine lv_istore (lv' := [(6, .int (J (hm (pbn σ (sx xs (4 * i + 1)).toNat)))), (5, .int (J 0)), (0, .ref b), (1, .ref x), (2, .ref (mm 0)), (3, .ref o), (4, .int (J (4 * (i : Int))))]) hx hb dL_law_1394 hl (by decide) rfl (fun ls hl => ?_)
      refine lv_aload_n hx hb dL_law_1396 rfl (lv_at hl 4 rfl) ?_
      refine fin_i (k := (k + 1)) (n := (n + 6)) (W2 := (fun _ => (WX κ x a a2 ++ (WC κ a σ br ++ (WC κ a2 τ1 bt ++ (WM κ mm σ 0 (nowf σ) ++ (WL κ o (vp_updL g 0 ((J (hm (pbn σ (sx xs (4 * i + 1)).toNat))).toInt64))))))))) [15, 16, 17, 18] [0, 1, 2, 3, 4, 5, 6, 7, 8, 9, 10, 11, 12, 13, 14, 19] [0, 1, 2, 3, 4, 5, 6, 7, 8, 9, 10, 11, 12, 13, 14, 16, 17, 18, 19, 15] hW hA (va_runV (As := []) (rest := []) F ((m_X2_thrown l κ mm σ 0 (nowf σ)) _) (cwV 0 hts gL_law_X2_thrown rfl rfl rfl (by decide +kernel) ⟨(Nat.le_of_ble_eq_true rfl), (Nat.le_of_ble_eq_true rfl)⟩) (pre_V hK hW [15, 16, 17, 18] rfl (by decide) 2 15 rfl rfl) rfl rfl hl.1 rfl (lv_room (Nat.le_of_ble_eq_true rfl)) dL_law_1397 ⟨(by first | exact Nat.le_of_ble_eq_true rfl | omega | (dsimp only [rm_law, rm_X2_thrown]; omega)), (by first | exact Nat.le_of_ble_eq_true rfl | omega | (dsimp only [rm_law, rm_X2_thrown]; omega))⟩) rfl rfl rfl (by decide) rfl (fun _ => rfl) (by first | exact Nat.le_of_ble_eq_true rfl | omega | (dsimp only [rm_law, rm_X2_thrown]; omega)) (by first | exact Nat.le_of_ble_eq_true rfl | omega | (dsimp only [rm_law, rm_X2_thrown]; omega)) (fun r_6 u H locs hp_5 hW => ?_)
      subst hp_5
      refine lv_iload hx hb dL_law_1400 (lv_at hl 1 rfl) ?_
      refine lv_icmp_eq (tgt := 1407) hx hb dL_law_1402 (by decide) (fun _ => ?_) (fun h => absurd rfl h)
      refine lv_iload hx hb dL_law_1407 (lv_at hl 1 rfl) ?_
      refine jv_if_ne hx hb 1424 dL_law_1409 (by decide) ⟨by omega, by omega⟩ (fun h => by exfalso; omega) (fun h => ?_)
      refine lv_aload_n hx hb dL_law_1412 rfl (lv_at hl 5 rfl) ?_
      refine jv_iconst hx hb dL_law_1413 ?_
      refine jv_lald (g := (vp_updL g 0 ((J (hm (pbn σ (sx xs (4 * i + 1)).toNat))).toInt64))) hx hb hK hW 19 rfl dL_law_1414 ?_
      refine lv_iload hx hb dL_law_1415 (lv_at hl 0 rfl) ?_
      refine lv_i2l hx hb dL_law_1417 rfl ?_
      refine jv_lcmp hx hb rfl dL_law_1418 ?_
      refine jv_if_eq hx hb 1424 dL_law_1419 (by decide) ⟨by omega, by omega⟩ (fun h => ?_) (fun h => by exfalso; omega)
      refine lv_goto (tgt := 1521) hx hb dL_law_1424 (by decide) ?_
      refine W.widen (k := k + 300) (n := n + 2000) (by omega) (by omega) ?_
      exact next σ τ1 br bt (nowf σ) 0 (vp_updL g 0 ((J (hm (pbn σ (sx xs (4 * i + 1)).toNat))).toInt64)) _ _ _ hI (by omega) (by omega) hW (lv_sub hl [2, 3, 4, 5, 6] rfl)
    · exact (h2 hv).elim
  · skip
    obtain ⟨hu1, hu2⟩ : τ = τ1 ∧ g = g1 := ⟨(congrArg Prod.fst hu).symm, (congrArg Prod.snd hu).symm⟩
    subst hu1
    subst hu2
    have hW : St κ A s.heap H _ (WX κ x a a2 ++ (WC κ a σ br ++ (WC κ a2 τ bt ++ (WM κ mm σ th kp ++ (WL κ o g))))) := hW
    refine lv_istore (lv' := [(5, .int (J 1)), (0, .ref b), (1, .ref x), (2, .ref (mm 0)), (3, .ref o), (4, .int (J (4 * (i : Int))))]) hx hb dL_law_1382 hl (by decide) rfl (fun ls hl => ?_)
    refine lv_aload_n hx hb dL_law_1384 rfl (lv_at hl 3 rfl) ?_
    refine lv_aload_n hx hb dL_law_1385 rfl (lv_at hl 1 rfl) ?_
    refine lv_iload hx hb dL_law_1386 (lv_at hl 5 rfl) ?_
    refine jv_iconst hx hb dL_law_1388 ?_
    refine jv_iadd hx hb dL_law_1389 ?_
    refine js_ld (xs := xs) hx hb hX hbl hbA hW ((4 * i) + 1) (by omega) (by omega) hL dL_law_1390 ?_
    refine fin_i (k := (k + 1)) (n := (n + 6)) (W2 := (fun u2 => (WX κ x a a2 ++ (WC κ a σ br ++ (WC κ a2 τ bt ++ (WM κ mm σ u2.1 u2.2 ++ (WL κ o g))))))) [15, 16, 17, 18] [0, 1, 2, 3, 4, 5, 6, 7, 8, 9, 10, 11, 12, 13, 14, 19] [0, 1, 2, 3, 4, 5, 6, 7, 8, 9, 10, 11, 12, 13, 14, 16, 17, 18, 19, 15] hW hA (va_runV (As := [.int (J (sx xs ((4 * i) + 1)))]) (rest := []) F ((m_X2_harmonyIn l κ mm σ th kp (sx xs (4 * i + 1)) hz1 hI hB) _) (cwV 1 hts gL_law_X2_harmonyIn rfl rfl rfl (by decide +kernel) ⟨(Nat.le_of_ble_eq_true rfl), (Nat.le_of_ble_eq_true rfl)⟩) (pre_V hK hW [15, 16, 17, 18] rfl (by decide) 2 15 rfl rfl) rfl rfl hl.1 rfl (lv_room (Nat.le_of_ble_eq_true rfl)) dL_law_1391 ⟨(by first | exact Nat.le_of_ble_eq_true rfl | omega | (dsimp only [rm_law, rm_X2_harmonyIn]; omega)), (by first | exact Nat.le_of_ble_eq_true rfl | omega | (dsimp only [rm_law, rm_X2_harmonyIn]; omega))⟩) rfl rfl rfl (by decide) rfl (fun _ => rfl) (by first | exact Nat.le_of_ble_eq_true rfl | omega | (dsimp only [rm_law, rm_X2_harmonyIn]; omega)) (by first | exact Nat.le_of_ble_eq_true rfl | omega | (dsimp only [rm_law, rm_X2_harmonyIn]; omega)) (fun r_8 u2 H locs hp_7 hW => ?_)
    rcases hp_7 with ⟨h2, rfl, rfl⟩ | ⟨h2, rfl, rfl⟩
    · exact (hv h2).elim
    · skip
      have hW : St κ A s.heap H _ (WX κ x a a2 ++ (WC κ a σ br ++ (WC κ a2 τ bt ++ (WM κ mm σ 1 kp ++ (WL κ o g))))) := hW
      refine lv_istore (lv' := [(6, .int (J 0)), (5, .int (J 1)), (0, .ref b), (1, .ref x), (2, .ref (mm 0)), (3, .ref o), (4, .int (J (4 * (i : Int))))]) hx hb dL_law_1394 hl (by decide) rfl (fun ls hl => ?_)
      refine lv_aload_n hx hb dL_law_1396 rfl (lv_at hl 4 rfl) ?_
      refine fin_i (k := (k + 1)) (n := (n + 6)) (W2 := (fun _ => (WX κ x a a2 ++ (WC κ a σ br ++ (WC κ a2 τ bt ++ (WM κ mm σ 1 kp ++ (WL κ o g))))))) [15, 16, 17, 18] [0, 1, 2, 3, 4, 5, 6, 7, 8, 9, 10, 11, 12, 13, 14, 19] [0, 1, 2, 3, 4, 5, 6, 7, 8, 9, 10, 11, 12, 13, 14, 16, 17, 18, 19, 15] hW hA (va_runV (As := []) (rest := []) F ((m_X2_thrown l κ mm σ 1 kp) _) (cwV 0 hts gL_law_X2_thrown rfl rfl rfl (by decide +kernel) ⟨(Nat.le_of_ble_eq_true rfl), (Nat.le_of_ble_eq_true rfl)⟩) (pre_V hK hW [15, 16, 17, 18] rfl (by decide) 2 15 rfl rfl) rfl rfl hl.1 rfl (lv_room (Nat.le_of_ble_eq_true rfl)) dL_law_1397 ⟨(by first | exact Nat.le_of_ble_eq_true rfl | omega | (dsimp only [rm_law, rm_X2_thrown]; omega)), (by first | exact Nat.le_of_ble_eq_true rfl | omega | (dsimp only [rm_law, rm_X2_thrown]; omega))⟩) rfl rfl rfl (by decide) rfl (fun _ => rfl) (by first | exact Nat.le_of_ble_eq_true rfl | omega | (dsimp only [rm_law, rm_X2_thrown]; omega)) (by first | exact Nat.le_of_ble_eq_true rfl | omega | (dsimp only [rm_law, rm_X2_thrown]; omega)) (fun r_10 u H locs hp_9 hW => ?_)
      subst hp_9
      refine lv_iload hx hb dL_law_1400 (lv_at hl 1 rfl) ?_
      refine lv_icmp_eq (tgt := 1407) hx hb dL_law_1402 (by decide) (fun _ => ?_) (fun h => absurd rfl h)
      refine lv_iload hx hb dL_law_1407 (lv_at hl 1 rfl) ?_
      refine jv_if_ne hx hb 1424 dL_law_1409 (by decide) ⟨by omega, by omega⟩ (fun h => ?_) (fun h => by exfalso; omega)
      refine lv_goto (tgt := 1521) hx hb dL_law_1424 (by decide) ?_
      refine W.widen (k := k + 300) (n := n + 2000) (by omega) (by omega) ?_
      exact next σ τ br bt kp 1 g _ _ _ hI (by omega) (by omega) hW (lv_sub hl [2, 3, 4, 5, 6] rfl)
