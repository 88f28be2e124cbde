set_option maxHeartbeats 4000000 in
set_option maxRecDepth 100000 in
/-- the law: c4 -/
theorem law_c4 {P : Program} {l : Launch} {e : Env} {s : State} {m : MethodId} {below : List Frame} {meth : Method} {c : Code} {Q : State → Prop} {b L : Nat} {xs : Nat → Int32} {κ : Kp} {A : Nat → Prop} {x o : Nat} {a a2 mm : Nat → Nat} (hstk : l.stackTraces = false) (F : CallFix P m c cL_law 9 s #[Value.ref b] wsL_law RL) (hK : Kx κ s) (hT : Tk A s s.heap) (hN9 : Ncx s) (hA : ∀ q, s.heap.size ≤ q → A q) (hX : va_X b L xs s s.heap) (hbl : b < s.heap.size) (hbA : ¬ A b) (hL : L ≤ 2048) {i : Nat} (hi : 4 * i + 4 ≤ L) {k n : Nat} (hk : k + 300 ≤ 601024) (hn : n + 2000 ≤ 7293034) {σ τ : Sg} {br bt kp : Nat → Int} {th : Int} {g : Nat → Int64} (hI : Inv σ) (hB0 : σ 5 0 ≤ 60 * (i : Int)) (hC0 : σ 5 1 ≤ 60 * (i : Int))
    (next : LNext P l e s m below meth c Q κ A b x o a a2 mm i k n) {H : Heap} {locs : List Loc} {ls : Array Slot} (hW : St κ A s.heap H locs (WB κ x a a2 mm o σ τ br bt kp th g)) (hl : lv_has ls 9 (LLoc b x o mm i)) : W P l e rm_law s m #[Value.ref b] below meth c H locs k n Q (F0 m 475 ls []) := by
  obtain ⟨hx, hb, hml, hown, hts⟩ := id F
  have hN := hI.hN
  have hN10 := hI.n10
  have hB : σ 5 0 ≤ 100000000 := by omega
  have hC : σ 5 1 ≤ 100000000 := by omega
  have hz1 := sx_in xs (4 * i + 1)
  have hz2 := sx_in xs (4 * i + 2)
  have hz3 := sx_in xs (4 * i + 3)
  refine lv_aload_n hx hb dL_law_475 rfl (lv_at hl 1 rfl) ?_
  refine lv_aload_n hx hb dL_law_476 rfl (lv_at hl 0 rfl) ?_
  refine lv_iload hx hb dL_law_477 (lv_at hl 4 rfl) ?_
  refine jv_iconst hx hb dL_law_479 ?_
  refine jv_iadd hx hb dL_law_480 ?_
  refine js_ld (xs := xs) hx hb hX hbl hbA hW ((4 * i) + 1) (by omega) (by omega) hL dL_law_481 ?_
  refine lv_aload_n hx hb dL_law_482 rfl (lv_at hl 3 rfl) ?_
  refine fint_i (k := (k + 1)) (n := (n + 6)) (W2 := (fun uu => (WX κ x a a2 ++ (WC κ a uu.1 br ++ (WC κ a2 τ bt ++ (WM κ mm σ th kp ++ (WL κ o uu.2))))))) [0, 1, 2, 3, 4, 5, 6, 7, 19] [8, 9, 10, 11, 12, 13, 14, 15, 16, 17, 18] [11, 12, 13, 14, 15, 16, 17, 18, 0, 1, 2, 3, 4, 5, 6, 7, 8, 9, 10, 19] hW hA (vx_runSX (As := [.ref x, .int (J (sx xs ((4 * i) + 1))), .ref o]) (rest := []) F ((m_L_fill l κ hstk x a a2 σ br o g (sx xs (4 * i + 1)) hz1 hI) _) (vx_cwSW 3 hts gL_law_L_fill rfl rfl rfl (by decide +kernel) ⟨(Nat.le_of_ble_eq_true rfl), (Nat.le_of_ble_eq_true rfl)⟩) (pre_SL hN9 hK hT hW hA [0, 1, 2, 3, 4, 5, 6, 7, 19] rfl (by decide)) rfl rfl hl.1 rfl (lv_room (Nat.le_of_ble_eq_true rfl)) dL_law_483 ⟨(by first | exact Nat.le_of_ble_eq_true rfl | omega | (dsimp only [rm_law, rm_L_fill]; omega)), (by first | exact Nat.le_of_ble_eq_true rfl | omega | (dsimp only [rm_law, rm_L_fill]; omega))⟩) rfl rfl rfl (by decide) rfl (fun _ => rfl) rfl (by first | exact Nat.le_of_ble_eq_true rfl | omega | (dsimp only [rm_law, rm_L_fill]; omega)) (by first | exact Nat.le_of_ble_eq_true rfl | omega | (dsimp only [rm_law, rm_L_fill]; omega)) (fun E ce q9 H locs hX hW g1 g2 g3 => False.elim hX) (fun r_2 uu H locs hp_1 hW => ?_)
  rcases hp_1 with ⟨hv, rfl, rfl⟩ | ⟨hv, rfl, rfl⟩
  · skip
    have hW : St κ A s.heap H _ (WX κ x a a2 ++ (WC κ a (up σ 1 ((sx xs (4 * i + 1)).toNat) 20) br ++ (WC κ a2 τ bt ++ (WM κ mm σ th kp ++ (WL κ o (vp_updL g 0 ((J (20 - σ 1 (sx xs (4 * i + 1)).toNat)).toInt64))))))) := hW
    refine lv_istore (lv' := [(5, .int (J 0)), (0, .ref b), (1, .ref x), (2, .ref (mm 0)), (3, .ref o), (4, .int (J (4 * (i : Int))))]) hx hb dL_law_486 hl (by decide) rfl (fun ls hl => ?_)
    refine lv_aload_n hx hb dL_law_488 rfl (lv_at hl 3 rfl) ?_
    refine lv_aload_n hx hb dL_law_489 rfl (lv_at hl 1 rfl) ?_
    refine lv_iload hx hb dL_law_490 (lv_at hl 5 rfl) ?_
    refine jv_iconst hx hb dL_law_492 ?_
    refine jv_iadd hx hb dL_law_493 ?_
    refine js_ld (xs := xs) hx hb hX hbl hbA hW ((4 * i) + 1) (by omega) (by omega) hL dL_law_494 ?_
    refine fin_i (k := (k + 1)) (n := (n + 6)) (W2 := (fun u2 => (WX κ x a a2 ++ (WC κ a (up σ 1 ((sx xs (4 * i + 1)).toNat) 20) br ++ (WC κ a2 τ bt ++ (WM κ mm u2.1 u2.2 kp ++ (WL κ o (vp_updL g 0 ((J (20 - σ 1 (sx xs (4 * i + 1)).toNat)).toInt64))))))))) [15, 16, 17, 18] [0, 1, 2, 3, 4, 5, 6, 7, 8, 9, 10, 11, 12, 13, 14, 19] [0, 1, 2, 3, 4, 5, 6, 7, 8, 9, 10, 11, 12, 13, 14, 16, 17, 18, 19, 15] hW hA (va_runV (As := [.int (J (sx xs ((4 * i) + 1)))]) (rest := []) F ((m_X2_fill l κ mm σ th kp (sx xs (4 * i + 1)) hz1 hI) _) (cwV 1 hts gL_law_X2_fill rfl rfl rfl (by decide +kernel) ⟨(Nat.le_of_ble_eq_true rfl), (Nat.le_of_ble_eq_true rfl)⟩) (pre_V hK hW [15, 16, 17, 18] rfl (by decide) 2 15 rfl rfl) rfl rfl hl.1 rfl (lv_room (Nat.le_of_ble_eq_true rfl)) dL_law_495 ⟨(by first | exact Nat.le_of_ble_eq_true rfl | omega | (dsimp only [rm_law, rm_X2_fill]; omega)), (by first | exact Nat.le_of_ble_eq_true rfl | omega | (dsimp only [rm_law, rm_X2_fill]; omega))⟩) rfl rfl rfl (by decide) rfl (fun _ => rfl) (by first | exact Nat.le_of_ble_eq_true rfl | omega | (dsimp only [rm_law, rm_X2_fill]; omega)) (by first | exact Nat.le_of_ble_eq_true rfl | omega | (dsimp only [rm_law, rm_X2_fill]; omega)) (fun r_4 u2 H locs hp_3 hW => ?_)
    rcases hp_3 with ⟨h2, rfl, rfl⟩ | ⟨h2, rfl, rfl⟩
    · skip
      have hW : St κ A s.heap H _ (WX κ x a a2 ++ (WC κ a (up σ 1 ((sx xs (4 * i + 1)).toNat) 20) br ++ (WC κ a2 τ bt ++ (WM κ mm (up σ 1 ((sx xs (4 * i + 1)).toNat) 20) 0 kp ++ (WL κ o (vp_updL g 0 ((J (20 - σ 1 (sx xs (4 * i + 1)).toNat)).toInt64))))))) := hW
      refine lv_istore (lv' := [(6, .int (J (20 - σ 1 (sx xs (4 * i + 1)).toNat))), (5, .int (J 0)), (0, .ref b), (1, .ref x), (2, .ref (mm 0)), (3, .ref o), (4, .int (J (4 * (i : Int))))]) hx hb dL_law_498 hl (by decide) rfl (fun ls hl => ?_)
      refine lv_aload_n hx hb dL_law_500 rfl (lv_at hl 4 rfl) ?_
      refine fin_i (k := (k + 1)) (n := (n + 6)) (W2 := (fun _ => (WX κ x a a2 ++ (WC κ a (up σ 1 ((sx xs (4 * i + 1)).toNat) 20) br ++ (WC κ a2 τ bt ++ (WM κ mm (up σ 1 ((sx xs (4 * i + 1)).toNat) 20) 0 kp ++ (WL κ o (vp_updL g 0 ((J (20 - σ 1 (sx xs (4 * i + 1)).toNat)).toInt64))))))))) [15, 16, 17, 18] [0, 1, 2, 3, 4, 5, 6, 7, 8, 9, 10, 11, 12, 13, 14, 19] [0, 1, 2, 3, 4, 5, 6, 7, 8, 9, 10, 11, 12, 13, 14, 16, 17, 18, 19, 15] hW hA (va_runV (As := []) (rest := []) F ((m_X2_thrown l κ mm (up σ 1 ((sx xs (4 * i + 1)).toNat) 20) 0 kp) _) (cwV 0 hts gL_law_X2_thrown rfl rfl rfl (by decide +kernel) ⟨(Nat.le_of_ble_eq_true rfl), (Nat.le_of_ble_eq_true rfl)⟩) (pre_V hK hW [15, 16, 17, 18] rfl (by decide) 2 15 rfl rfl) rfl rfl hl.1 rfl (lv_room (Nat.le_of_ble_eq_true rfl)) dL_law_501 ⟨(by first | exact Nat.le_of_ble_eq_true rfl | omega | (dsimp only [rm_law, rm_X2_thrown]; omega)), (by first | exact Nat.le_of_ble_eq_true rfl | omega | (dsimp only [rm_law, rm_X2_thrown]; omega))⟩) rfl rfl rfl (by decide) rfl (fun _ => rfl) (by first | exact Nat.le_of_ble_eq_true rfl | omega | (dsimp only [rm_law, rm_X2_thrown]; omega)) (by first | exact Nat.le_of_ble_eq_true rfl | omega | (dsimp only [rm_law, rm_X2_thrown]; omega)) (fun r_6 u H locs hp_5 hW => ?_)
      subst hp_5
      refine lv_iload hx hb dL_law_504 (lv_at hl 1 rfl) ?_
      refine lv_icmp_eq (tgt := 511) hx hb dL_law_506 (by decide) (fun _ => ?_) (fun h => absurd rfl h)
      refine lv_iload hx hb dL_law_511 (lv_at hl 1 rfl) ?_
      refine jv_if_ne hx hb 528 dL_law_513 (by decide) ⟨by omega, by omega⟩ (fun h => by exfalso; omega) (fun h => ?_)
      refine lv_aload_n hx hb dL_law_516 rfl (lv_at hl 5 rfl) ?_
      refine jv_iconst hx hb dL_law_517 ?_
      refine jv_lald (g := (vp_updL g 0 ((J (20 - σ 1 (sx xs (4 * i + 1)).toNat)).toInt64))) hx hb hK hW 19 rfl dL_law_518 ?_
      refine lv_iload hx hb dL_law_519 (lv_at hl 0 rfl) ?_
      refine lv_i2l hx hb dL_law_521 rfl ?_
      refine jv_lcmp hx hb rfl dL_law_522 ?_
      refine jv_if_eq hx hb 528 dL_law_523 (by decide) ⟨by omega, by omega⟩ (fun h => ?_) (fun h => by exfalso; omega)
      refine lv_goto (tgt := 1521) hx hb dL_law_528 (by decide) ?_
      refine W.widen (k := k + 300) (n := n + 2000) (by omega) (by omega) ?_
      exact next (up σ 1 ((sx xs (4 * i + 1)).toNat) 20) τ br bt kp 0 (vp_updL g 0 ((J (20 - σ 1 (sx xs (4 * i + 1)).toNat)).toInt64)) _ _ _ (hI.u1 (by omega)) (Int.le_trans hB0 (by omega)) (Int.le_trans hC0 (by omega)) hW (lv_sub hl [2, 3, 4, 5, 6] rfl)
    · exact (h2 hv).elim
  · skip
    have hW : St κ A s.heap H _ (WX κ x a a2 ++ (WC κ a σ br ++ (WC κ a2 τ bt ++ (WM κ mm σ th kp ++ (WL κ o g))))) := hW
    refine lv_istore (lv' := [(5, .int (J 1)), (0, .ref b), (1, .ref x), (2, .ref (mm 0)), (3, .ref o), (4, .int (J (4 * (i : Int))))]) hx hb dL_law_486 hl (by decide) rfl (fun ls hl => ?_)
    refine lv_aload_n hx hb dL_law_488 rfl (lv_at hl 3 rfl) ?_
    refine lv_aload_n hx hb dL_law_489 rfl (lv_at hl 1 rfl) ?_
    refine lv_iload hx hb dL_law_490 (lv_at hl 5 rfl) ?_
    refine jv_iconst hx hb dL_law_492 ?_
    refine jv_iadd hx hb dL_law_493 ?_
    refine js_ld (xs := xs) hx hb hX hbl hbA hW ((4 * i) + 1) (by omega) (by omega) hL dL_law_494 ?_
    refine fin_i (k := (k + 1)) (n := (n + 6)) (W2 := (fun u2 => (WX κ x a a2 ++ (WC κ a σ br ++ (WC κ a2 τ bt ++ (WM κ mm u2.1 u2.2 kp ++ (WL κ o g))))))) [15, 16, 17, 18] [0, 1, 2, 3, 4, 5, 6, 7, 8, 9, 10, 11, 12, 13, 14, 19] [0, 1, 2, 3, 4, 5, 6, 7, 8, 9, 10, 11, 12, 13, 14, 16, 17, 18, 19, 15] hW hA (va_runV (As := [.int (J (sx xs ((4 * i) + 1)))]) (rest := []) F ((m_X2_fill l κ mm σ th kp (sx xs (4 * i + 1)) hz1 hI) _) (cwV 1 hts gL_law_X2_fill rfl rfl rfl (by decide +kernel) ⟨(Nat.le_of_ble_eq_true rfl), (Nat.le_of_ble_eq_true rfl)⟩) (pre_V hK hW [15, 16, 17, 18] rfl (by decide) 2 15 rfl rfl) rfl rfl hl.1 rfl (lv_room (Nat.le_of_ble_eq_true rfl)) dL_law_495 ⟨(by first | exact Nat.le_of_ble_eq_true rfl | omega | (dsimp only [rm_law, rm_X2_fill]; omega)), (by first | exact Nat.le_of_ble_eq_true rfl | omega | (dsimp only [rm_law, rm_X2_fill]; omega))⟩) rfl rfl rfl (by decide) rfl (fun _ => rfl) (by first | exact Nat.le_of_ble_eq_true rfl | omega | (dsimp only [rm_law, rm_X2_fill]; omega)) (by first | exact Nat.le_of_ble_eq_true rfl | omega | (dsimp only [rm_law, rm_X2_fill]; omega)) (fun r_8 u2 H locs hp_7 hW => ?_)
    rcases hp_7 with ⟨h2, rfl, rfl⟩ | ⟨h2, rfl, rfl⟩
    · exact (hv h2).elim
    · skip
      have hW : St κ A s.heap H _ (WX κ x a a2 ++ (WC κ a σ br ++ (WC κ a2 τ bt ++ (WM κ mm σ 1 kp ++ (WL κ o g))))) := hW
      refine lv_istore (lv' := [(6, .int (J 0)), (5, .int (J 1)), (0, .ref b), (1, .ref x), (2, .ref (mm 0)), (3, .ref o), (4, .int (J (4 * (i : Int))))]) hx hb dL_law_498 hl (by decide) rfl (fun ls hl => ?_)
      refine lv_aload_n hx hb dL_law_500 rfl (lv_at hl 4 rfl) ?_
      refine fin_i (k := (k + 1)) (n := (n + 6)) (W2 := (fun _ => (WX κ x a a2 ++ (WC κ a σ br ++ (WC κ a2 τ bt ++ (WM κ mm σ 1 kp ++ (WL κ o g))))))) [15, 16, 17, 18] [0, 1, 2, 3, 4, 5, 6, 7, 8, 9, 10, 11, 12, 13, 14, 19] [0, 1, 2, 3, 4, 5, 6, 7, 8, 9, 10, 11, 12, 13, 14, 16, 17, 18, 19, 15] hW hA (va_runV (As := []) (rest := []) F ((m_X2_thrown l κ mm σ 1 kp) _) (cwV 0 hts gL_law_X2_thrown rfl rfl rfl (by decide +kernel) ⟨(Nat.le_of_ble_eq_true rfl), (Nat.le_of_ble_eq_true rfl)⟩) (pre_V hK hW [15, 16, 17, 18] rfl (by decide) 2 15 rfl rfl) rfl rfl hl.1 rfl (lv_room (Nat.le_of_ble_eq_true rfl)) dL_law_501 ⟨(by first | exact Nat.le_of_ble_eq_true rfl | omega | (dsimp only [rm_law, rm_X2_thrown]; omega)), (by first | exact Nat.le_of_ble_eq_true rfl | omega | (dsimp only [rm_law, rm_X2_thrown]; omega))⟩) rfl rfl rfl (by decide) rfl (fun _ => rfl) (by first | exact Nat.le_of_ble_eq_true rfl | omega | (dsimp only [rm_law, rm_X2_thrown]; omega)) (by first | exact Nat.le_of_ble_eq_true rfl | omega | (dsimp only [rm_law, rm_X2_thrown]; omega)) (fun r_10 u H locs hp_9 hW => ?_)
      subst hp_9
      refine lv_iload hx hb dL_law_504 (lv_at hl 1 rfl) ?_
      refine lv_icmp_eq (tgt := 511) hx hb dL_law_506 (by decide) (fun _ => ?_) (fun h => absurd rfl h)
      refine lv_iload hx hb dL_law_511 (lv_at hl 1 rfl) ?_
      refine jv_if_ne hx hb 528 dL_law_513 (by decide) ⟨by omega, by omega⟩ (fun h => ?_) (fun h => by exfalso; omega)
      refine lv_goto (tgt := 1521) hx hb dL_law_528 (by decide) ?_
      refine W.widen (k := k + 300) (n := n + 2000) (by omega) (by omega) ?_
      exact next σ τ br bt kp 1 g _ _ _ hI (by omega) (by omega) hW (lv_sub hl [2, 3, 4, 5, 6] rfl)

set_option maxHeartbeats 4000000 in
set_option maxRecDepth 100000 in
/-- the law: c5 -/
theorem law_c5 {P : Program} {l : Launch} {e : Env} {s : State} {m : MethodId} {below : List Frame} {meth : Method} {c : Code} {Q : State → Prop} {b L : Nat} {xs : Nat → Int32} {κ : Kp} {A : Nat → Prop} {x o : Nat} {a a2 mm : Nat → Nat} (hstk : l.stackTraces = false) (F : CallFix P m c cL_law 9 s #[Value.ref b] wsL_law RL) (hK : Kx κ s) (hT : Tk A s s.heap) (hN9 : Ncx s) (hA : ∀ q, s.heap.size ≤ q → A q) (hX : va_X b L xs s s.heap) (hbl : b < s.heap.size) (hbA : ¬ A b) (hL : L ≤ 2048) {i : Nat} (hi : 4 * i + 4 ≤ L) {k n : Nat} (hk : k + 300 ≤ 601024) (hn : n + 2000 ≤ 7293034) {σ τ : Sg} {br bt kp : Nat → Int} {th : Int} {g : Nat → Int64} (hI : Inv σ) (hB0 : σ 5 0 ≤ 60 * (i : Int)) (hC0 : σ 5 1 ≤ 60 * (i : Int))
    (next : LNext P l e s m below meth c Q κ A b x o a a2 mm i k n) {H : Heap} {locs : List Loc} {ls : Array Slot} (hW : St κ A s.heap H locs (WB κ x a a2 mm o σ τ br bt kp th g)) (hl : lv_has ls 9 (LLoc b x o mm i)) : W P l e rm_law s m #[Value.ref b] below meth c H locs k n Q (F0 m 531 ls []) := by
  obtain ⟨hx, hb, hml, hown, hts⟩ := id F
  have hN := hI.hN
  have hN10 := hI.n10
  have hB : σ 5 0 ≤ 100000000 := by omega
  have hC : σ 5 1 ≤ 100000000 := by omega
  have hz1 := sx_in xs (4 * i + 1)
  have hz2 := sx_in xs (4 * i + 2)
  have hz3 := sx_in xs (4 * i + 3)
  refine lv_aload_n hx hb dL_law_531 rfl (lv_at hl 1 rfl) ?_
  refine lv_aload_n hx hb dL_law_532 rfl (lv_at hl 0 rfl) ?_
  refine lv_iload hx hb dL_law_533 (lv_at hl 4 rfl) ?_
  refine jv_iconst hx hb dL_law_535 ?_
  refine jv_iadd hx hb dL_law_536 ?_
  refine js_ld (xs := xs) hx hb hX hbl hbA hW ((4 * i) + 1) (by omega) (by omega) hL dL_law_537 ?_
  refine lv_aload_n hx hb dL_law_538 rfl (lv_at hl 3 rfl) ?_
  refine fint_i (k := (k + 1)) (n := (n + 6)) (W2 := (fun uu => (WX κ x a a2 ++ (WC κ a uu.1 br ++ (WC κ a2 τ bt ++ (WM κ mm σ th kp ++ (WL κ o uu.2))))))) [0, 1, 2, 3, 4, 5, 6, 7, 19] [8, 9, 10, 11, 12, 13, 14, 15, 16, 17, 18] [11, 12, 13, 14, 15, 16, 17, 18, 0, 1, 2, 3, 4, 5, 6, 7, 8, 9, 10, 19] hW hA (vx_runSX (As := [.ref x, .int (J (sx xs ((4 * i) + 1))), .ref o]) (rest := []) F ((m_L_mend l κ hstk x a a2 σ br o g (sx xs (4 * i + 1)) hz1 hI) _) (vx_cwSW 3 hts gL_law_L_mend rfl rfl rfl (by decide +kernel) ⟨(Nat.le_of_ble_eq_true rfl), (Nat.le_of_ble_eq_true rfl)⟩) (pre_SL hN9 hK hT hW hA [0, 1, 2, 3, 4, 5, 6, 7, 19] rfl (by decide)) rfl rfl hl.1 rfl (lv_room (Nat.le_of_ble_eq_true rfl)) dL_law_539 ⟨(by first | exact Nat.le_of_ble_eq_true rfl | omega | (dsimp only [rm_law, rm_L_mend]; omega)), (by first | exact Nat.le_of_ble_eq_true rfl | omega | (dsimp only [rm_law, rm_L_mend]; omega))⟩) rfl rfl rfl (by decide) rfl (fun _ => rfl) rfl (by first | exact Nat.le_of_ble_eq_true rfl | omega | (dsimp only [rm_law, rm_L_mend]; omega)) (by first | exact Nat.le_of_ble_eq_true rfl | omega | (dsimp only [rm_law, rm_L_mend]; omega)) (fun E ce q9 H locs hX hW g1 g2 g3 => False.elim hX) (fun r_2 uu H locs hp_1 hW => ?_)
  rcases hp_1 with ⟨hv, rfl, rfl⟩ | ⟨hv, rfl, rfl⟩
  · skip
    have hW : St κ A s.heap H _ (WX κ x a a2 ++ (WC κ a (up (up σ 2 ((sx xs (4 * i + 1)).toNat) 0) 1 ((sx xs (4 * i + 1)).toNat) 0) br ++ (WC κ a2 τ bt ++ (WM κ mm σ th kp ++ (WL κ o (vp_updL g 0 ((J (σ 2 (sx xs (4 * i + 1)).toNat)).toInt64))))))) := hW
    refine lv_istore (lv' := [(5, .int (J 0)), (0, .ref b), (1, .ref x), (2, .ref (mm 0)), (3, .ref o), (4, .int (J (4 * (i : Int))))]) hx hb dL_law_542 hl (by decide) rfl (fun ls hl => ?_)
    refine lv_aload_n hx hb dL_law_544 rfl (lv_at hl 3 rfl) ?_
    refine lv_aload_n hx hb dL_law_545 rfl (lv_at hl 1 rfl) ?_
    refine lv_iload hx hb dL_law_546 (lv_at hl 5 rfl) ?_
    refine jv_iconst hx hb dL_law_548 ?_
    refine jv_iadd hx hb dL_law_549 ?_
    refine js_ld (xs := xs) hx hb hX hbl hbA hW ((4 * i) + 1) (by omega) (by omega) hL dL_law_550 ?_
    refine fin_i (k := (k + 1)) (n := (n + 6)) (W2 := (fun u2 => (WX κ x a a2 ++ (WC κ a (up (up σ 2 ((sx xs (4 * i + 1)).toNat) 0) 1 ((sx xs (4 * i + 1)).toNat) 0) br ++ (WC κ a2 τ bt ++ (WM κ mm u2.1 u2.2 kp ++ (WL κ o (vp_updL g 0 ((J (σ 2 (sx xs (4 * i + 1)).toNat)).toInt64))))))))) [15, 16, 17, 18] [0, 1, 2, 3, 4, 5, 6, 7, 8, 9, 10, 11, 12, 13, 14, 19] [0, 1, 2, 3, 4, 5, 6, 7, 8, 9, 10, 11, 12, 13, 14, 16, 17, 18, 19, 15] hW hA (va_runV (As := [.int (J (sx xs ((4 * i) + 1)))]) (rest := []) F ((m_X2_mend l κ mm σ th kp (sx xs (4 * i + 1)) hz1 hI) _) (cwV 1 hts gL_law_X2_mend rfl rfl rfl (by decide +kernel) ⟨(Nat.le_of_ble_eq_true rfl), (Nat.le_of_ble_eq_true rfl)⟩) (pre_V hK hW [15, 16, 17, 18] rfl (by decide) 2 15 rfl rfl) rfl rfl hl.1 rfl (lv_room (Nat.le_of_ble_eq_true rfl)) dL_law_551 ⟨(by first | exact Nat.le_of_ble_eq_true rfl | omega | (dsimp only [rm_law, rm_X2_mend]; omega)), (by first | exact Nat.le_of_ble_eq_true rfl | omega | (dsimp only [rm_law, rm_X2_mend]; omega))⟩) rfl rfl rfl (by decide) rfl (fun _ => rfl) (by first | exact Nat.le_of_ble_eq_true rfl | omega | (dsimp only [rm_law, rm_X2_mend]; omega)) (by first | exact Nat.le_of_ble_eq_true rfl | omega | (dsimp only [rm_law, rm_X2_mend]; omega)) (fun r_4 u2 H locs hp_3 hW => ?_)
    rcases hp_3 with ⟨h2, rfl, rfl⟩ | ⟨h2, rfl, rfl⟩
    · skip
      have hW : St κ A s.heap H _ (WX κ x a a2 ++ (WC κ a (up (up σ 2 ((sx xs (4 * i + 1)).toNat) 0) 1 ((sx xs (4 * i + 1)).toNat) 0) br ++ (WC κ a2 τ bt ++ (WM κ mm (up (up σ 2 ((sx xs (4 * i + 1)).toNat) 0) 1 ((sx xs (4 * i + 1)).toNat) 0) 0 kp ++ (WL κ o (vp_updL g 0 ((J (σ 2 (sx xs (4 * i + 1)).toNat)).toInt64))))))) := hW
      refine lv_istore (lv' := [(6, .int (J (σ 2 (sx xs (4 * i + 1)).toNat))), (5, .int (J 0)), (0, .ref b), (1, .ref x), (2, .ref (mm 0)), (3, .ref o), (4, .int (J (4 * (i : Int))))]) hx hb dL_law_554 hl (by decide) rfl (fun ls hl => ?_)
      refine lv_aload_n hx hb dL_law_556 rfl (lv_at hl 4 rfl) ?_
      refine fin_i (k := (k + 1)) (n := (n + 6)) (W2 := (fun _ => (WX κ x a a2 ++ (WC κ a (up (up σ 2 ((sx xs (4 * i + 1)).toNat) 0) 1 ((sx xs (4 * i + 1)).toNat) 0) br ++ (WC κ a2 τ bt ++ (WM κ mm (up (up σ 2 ((sx xs (4 * i + 1)).toNat) 0) 1 ((sx xs (4 * i + 1)).toNat) 0) 0 kp ++ (WL κ o (vp_updL g 0 ((J (σ 2 (sx xs (4 * i + 1)).toNat)).toInt64))))))))) [15, 16, 17, 18] [0, 1, 2, 3, 4, 5, 6, 7, 8, 9, 10, 11, 12, 13, 14, 19] [0, 1, 2, 3, 4, 5, 6, 7, 8, 9, 10, 11, 12, 13, 14, 16, 17, 18, 19, 15] hW hA (va_runV (As := []) (rest := []) F ((m_X2_thrown l κ mm (up (up σ 2 ((sx xs (4 * i + 1)).toNat) 0) 1 ((sx xs (4 * i + 1)).toNat) 0) 0 kp) _) (cwV 0 hts gL_law_X2_thrown rfl rfl rfl (by decide +kernel) ⟨(Nat.le_of_ble_eq_true rfl), (Nat.le_of_ble_eq_true rfl)⟩) (pre_V hK hW [15, 16, 17, 18] rfl (by decide) 2 15 rfl rfl) rfl rfl hl.1 rfl (lv_room (Nat.le_of_ble_eq_true rfl)) dL_law_557 ⟨(by first | exact Nat.le_of_ble_eq_true rfl | omega | (dsimp only [rm_law, rm_X2_thrown]; omega)), (by first | exact Nat.le_of_ble_eq_true rfl | omega | (dsimp only [rm_law, rm_X2_thrown]; omega))⟩) rfl rfl rfl (by decide) rfl (fun _ => rfl) (by first | exact Nat.le_of_ble_eq_true rfl | omega | (dsimp only [rm_law, rm_X2_thrown]; omega)) (by first | exact Nat.le_of_ble_eq_true rfl | omega | (dsimp only [rm_law, rm_X2_thrown]; omega)) (fun r_6 u H locs hp_5 hW => ?_)
      subst hp_5
      refine lv_iload hx hb dL_law_560 (lv_at hl 1 rfl) ?_
      refine lv_icmp_eq (tgt := 567) hx hb dL_law_562 (by decide) (fun _ => ?_) (fun h => absurd rfl h)
      refine lv_iload hx hb dL_law_567 (lv_at hl 1 rfl) ?_
      refine jv_if_ne hx hb 584 dL_law_569 (by decide) ⟨by omega, by omega⟩ (fun h => by exfalso; omega) (fun h => ?_)
      refine lv_aload_n hx hb dL_law_572 rfl (lv_at hl 5 rfl) ?_
      refine jv_iconst hx hb dL_law_573 ?_
      refine jv_lald (g := (vp_updL g 0 ((J (σ 2 (sx xs (4 * i + 1)).toNat)).toInt64))) hx hb hK hW 19 rfl dL_law_574 ?_
      refine lv_iload hx hb dL_law_575 (lv_at hl 0 rfl) ?_
      refine lv_i2l hx hb dL_law_577 rfl ?_
      refine jv_lcmp hx hb rfl dL_law_578 ?_
      refine jv_if_eq hx hb 584 dL_law_579 (by decide) ⟨by omega, by omega⟩ (fun h => ?_) (fun h => by exfalso; omega)
      refine lv_goto (tgt := 1521) hx hb dL_law_584 (by decide) ?_
      refine W.widen (k := k + 300) (n := n + 2000) (by omega) (by omega) ?_
      exact next (up (up σ 2 ((sx xs (4 * i + 1)).toNat) 0) 1 ((sx xs (4 * i + 1)).toNat) 0) τ br bt kp 0 (vp_updL g 0 ((J (σ 2 (sx xs (4 * i + 1)).toNat)).toInt64)) _ _ _ ((hI.u2 (by omega)).u1 (by omega)) (Int.le_trans hB0 (by omega)) (Int.le_trans hC0 (by omega)) hW (lv_sub hl [2, 3, 4, 5, 6] rfl)
    · exact (h2 hv).elim
  · skip
    have hW : St κ A s.heap H _ (WX κ x a a2 ++ (WC κ a σ br ++ (WC κ a2 τ bt ++ (WM κ mm σ th kp ++ (WL κ o g))))) := hW
    refine lv_istore (lv' := [(5, .int (J 1)), (0, .ref b), (1, .ref x), (2, .ref (mm 0)), (3, .ref o), (4, .int (J (4 * (i : Int))))]) hx hb dL_law_542 hl (by decide) rfl (fun ls hl => ?_)
    refine lv_aload_n hx hb dL_law_544 rfl (lv_at hl 3 rfl) ?_
    refine lv_aload_n hx hb dL_law_545 rfl (lv_at hl 1 rfl) ?_
    refine lv_iload hx hb dL_law_546 (lv_at hl 5 rfl) ?_
    refine jv_iconst hx hb dL_law_548 ?_
    refine jv_iadd hx hb dL_law_549 ?_
    refine js_ld (xs := xs) hx hb hX hbl hbA hW ((4 * i) + 1) (by omega) (by omega) hL dL_law_550 ?_
    refine fin_i (k := (k + 1)) (n := (n + 6)) (W2 := (fun u2 => (WX κ x a a2 ++ (WC κ a σ br ++ (WC κ a2 τ bt ++ (WM κ mm u2.1 u2.2 kp ++ (WL κ o g))))))) [15, 16, 17, 18] [0, 1, 2, 3, 4, 5, 6, 7, 8, 9, 10, 11, 12, 13, 14, 19] [0, 1, 2, 3, 4, 5, 6, 7, 8, 9, 10, 11, 12, 13, 14, 16, 17, 18, 19, 15] hW hA (va_runV (As := [.int (J (sx xs ((4 * i) + 1)))]) (rest := []) F ((m_X2_mend l κ mm σ th kp (sx xs (4 * i + 1)) hz1 hI) _) (cwV 1 hts gL_law_X2_mend rfl rfl rfl (by decide +kernel) ⟨(Nat.le_of_ble_eq_true rfl), (Nat.le_of_ble_eq_true rfl)⟩) (pre_V hK hW [15, 16, 17, 18] rfl (by decide) 2 15 rfl rfl) rfl rfl hl.1 rfl (lv_room (Nat.le_of_ble_eq_true rfl)) dL_law_551 ⟨(by first | exact Nat.le_of_ble_eq_true rfl | omega | (dsimp only [rm_law, rm_X2_mend]; omega)), (by first | exact Nat.le_of_ble_eq_true rfl | omega | (dsimp only [rm_law, rm_X2_mend]; omega))⟩) rfl rfl rfl (by decide) rfl (fun _ => rfl) (by first | exact Nat.le_of_ble_eq_true rfl | omega | (dsimp only [rm_law, rm_X2_mend]; omega)) (by first | exact Nat.le_of_ble_eq_true rfl | omega | (dsimp only [rm_law, rm_X2_mend]; omega)) (fun r_8 u2 H locs hp_7 hW => ?_)
    rcases hp_7 with ⟨h2, rfl, rfl⟩ | ⟨h2, rfl, rfl⟩
    · exact (hv h2).elim
    · skip
      have hW : St κ A s.heap H _ (WX κ x a a2 ++ (WC κ a σ br ++ (WC κ a2 τ bt ++ (WM κ mm σ 1 kp ++ (WL κ o g))))) := hW
      refine lv_istore (lv' := [(6, .int (J 0)), (5, .int (J 1)), (0, .ref b), (1, .ref x), (2, .ref (mm 0)), (3, .ref o), (4, .int (J (4 * (i : Int))))]) hx hb dL_law_554 hl (by decide) rfl (fun ls hl => ?_)
      refine lv_aload_n hx hb dL_law_556 rfl (lv_at hl 4 rfl) ?_
      refine fin_i (k := (k + 1)) (n := (n + 6)) (W2 := (fun _ => (WX κ x a a2 ++ (WC κ a σ br ++ (WC κ a2 τ bt ++ (WM κ mm σ 1 kp ++ (WL κ o g))))))) [15, 16, 17, 18] [0, 1, 2, 3, 4, 5, 6, 7, 8, 9, 10, 11, 12, 13, 14, 19] [0, 1, 2, 3, 4, 5, 6, 7, 8, 9, 10, 11, 12, 13, 14, 16, 17, 18, 19, 15] hW hA (va_runV (As := []) (rest := []) F ((m_X2_thrown l κ mm σ 1 kp) _) (cwV 0 hts gL_law_X2_thrown rfl rfl rfl (by decide +kernel) ⟨(Nat.le_of_ble_eq_true rfl), (Nat.le_of_ble_eq_true rfl)⟩) (pre_V hK hW [15, 16, 17, 18] rfl (by decide) 2 15 rfl rfl) rfl rfl hl.1 rfl (lv_room (Nat.le_of_ble_eq_true rfl)) dL_law_557 ⟨(by first | exact Nat.le_of_ble_eq_true rfl | omega | (dsimp only [rm_law, rm_X2_thrown]; omega)), (by first | exact Nat.le_of_ble_eq_true rfl | omega | (dsimp only [rm_law, rm_X2_thrown]; omega))⟩) rfl rfl rfl (by decide) rfl (fun _ => rfl) (by first | exact Nat.le_of_ble_eq_true rfl | omega | (dsimp only [rm_law, rm_X2_thrown]; omega)) (by first | exact Nat.le_of_ble_eq_true rfl | omega | (dsimp only [rm_law, rm_X2_thrown]; omega)) (fun r_10 u H locs hp_9 hW => ?_)
      subst hp_9
      refine lv_iload hx hb dL_law_560 (lv_at hl 1 rfl) ?_
      refine lv_icmp_eq (tgt := 567) hx hb dL_law_562 (by decide) (fun _ => ?_) (fun h => absurd rfl h)
      refine lv_iload hx hb dL_law_567 (lv_at hl 1 rfl) ?_
      refine jv_if_ne hx hb 584 dL_law_569 (by decide) ⟨by omega, by omega⟩ (fun h => ?_) (fun h => by exfalso; omega)
      refine lv_goto (tgt := 1521) hx hb dL_law_584 (by decide) ?_
      refine W.widen (k := k + 300) (n := n + 2000) (by omega) (by omega) ?_
      exact next σ τ br bt kp 1 g _ _ _ hI (by omega) (by omega) hW (lv_sub hl [2, 3, 4, 5, 6] rfl)

set_option maxHeartbeats 4000000 in
set_option maxRecDepth 100000 in
/-- the law: c2 -/
theorem law_c2 {P : Program} {l : Launch} {e : Env} {s : State} {m : MethodId} {below : List Frame} {meth : Method} {c : Code} {Q : State → Prop} {b L : Nat} {xs : Nat → Int32} {κ : Kp} {A : Nat → Prop} {x o : Nat} {a a2 mm : Nat → Nat} (hstk : l.stackTraces = false) (F : CallFix P m c cL_law 9 s #[Value.ref b] wsL_law RL) (hK : Kx κ s) (hT : Tk A s s.heap) (hN9 : Ncx s) (hA : ∀ q, s.heap.size ≤ q → A q) (hX : va_X b L xs s s.heap) (hbl : b < s.heap.size) (hbA : ¬ A b) (hL : L ≤ 2048) {i : Nat} (hi : 4 * i + 4 ≤ L) {k n : Nat} (hk : k + 300 ≤ 601024) (hn : n + 2000 ≤ 7293034) {σ τ : Sg} {br bt kp : Nat → Int} {th : Int} {g : Nat → Int64} (hI : Inv σ) (hB0 : σ 5 0 ≤ 60 * (i : Int)) (hC0 : σ 5 1 ≤ 60 * (i : Int))
    (next : LNext P l e s m below meth c Q κ A b x o a a2 mm i k n) {H : Heap} {locs : List Loc} {ls : Array Slot} (hW : St κ A s.heap H locs (WB κ x a a2 mm o σ τ br bt kp th g)) (hl : lv_has ls 9 (LLoc b x o mm i)) : W P l e rm_law s m #[Value.ref b] below meth c H locs k n Q (F0 m 332 ls []) := by
  obtain ⟨hx, hb, hml, hown, hts⟩ := id F
  have hN := hI.hN
  have hN10 := hI.n10
  have hB : σ 5 0 ≤ 100000000 := by omega
  have hC : σ 5 1 ≤ 100000000 := by omega
  have hz1 := sx_in xs (4 * i + 1)
  have hz2 := sx_in xs (4 * i + 2)
  have hz3 := sx_in xs (4 * i + 3)
  refine lv_aload_n hx hb dL_law_332 rfl (lv_at hl 1 rfl) ?_
  refine lv_aload_n hx hb dL_law_333 rfl (lv_at hl 0 rfl) ?_
  refine lv_iload hx hb dL_law_334 (lv_at hl 4 rfl) ?_
  refine jv_iconst hx hb dL_law_336 ?_
  refine jv_iadd hx hb dL_law_337 ?_
  refine js_ld (xs := xs) hx hb hX hbl hbA hW ((4 * i) + 1) (by omega) (by omega) hL dL_law_338 ?_
  refine lv_aload_n hx hb dL_law_339 rfl (lv_at hl 3 rfl) ?_
  refine fint_i (k := (k + 1)) (n := (n + 6)) (W2 := (fun uu => (WX κ x a a2 ++ (WC κ a uu.1 br ++ (WC κ a2 τ bt ++ (WM κ mm σ th kp ++ (WL κ o uu.2))))))) [0, 1, 2, 3, 4, 5, 6, 7, 19] [8, 9, 10, 11, 12, 13, 14, 15, 16, 17, 18] [11, 12, 13, 14, 15, 16, 17, 18, 0, 1, 2, 3, 4, 5, 6, 7, 8, 9, 10, 19] hW hA (vx_runSX (As := [.ref x, .int (J (sx xs ((4 * i) + 1))), .ref o]) (rest := []) F ((m_L_turnCosy l κ hstk x a a2 σ br o g (sx xs (4 * i + 1)) hz1 hI) _) (vx_cwSW 3 hts gL_law_L_turnCosy rfl rfl rfl (by decide +kernel) ⟨(Nat.le_of_ble_eq_true rfl), (Nat.le_of_ble_eq_true rfl)⟩) (pre_SL hN9 hK hT hW hA [0, 1, 2, 3, 4, 5, 6, 7, 19] rfl (by decide)) rfl rfl hl.1 rfl (lv_room (Nat.le_of_ble_eq_true rfl)) dL_law_340 ⟨(by first | exact Nat.le_of_ble_eq_true rfl | omega | (dsimp only [rm_law, rm_L_turnCosy]; omega)), (by first | exact Nat.le_of_ble_eq_true rfl | omega | (dsimp only [rm_law, rm_L_turnCosy]; omega))⟩) rfl rfl rfl (by decide) rfl (fun _ => rfl) rfl (by first | exact Nat.le_of_ble_eq_true rfl | omega | (dsimp only [rm_law, rm_L_turnCosy]; omega)) (by first | exact Nat.le_of_ble_eq_true rfl | omega | (dsimp only [rm_law, rm_L_turnCosy]; omega)) (fun E ce q9 H locs hX hW g1 g2 g3 => False.elim hX) (fun r_2 uu H locs hp_1 hW => ?_)
  rcases hp_1 with ⟨hv, rfl, rfl⟩ | ⟨hv, rfl, rfl⟩
  · skip
    have hW : St κ A s.heap H _ (WX κ x a a2 ++ (WC κ a (up σ 3 ((sx xs (4 * i + 1)).toNat) (1 - σ 3 (sx xs (4 * i + 1)).toNat)) br ++ (WC κ a2 τ bt ++ (WM κ mm σ th kp ++ (WL κ o (vp_updL g 0 ((J (1 - σ 3 (sx xs (4 * i + 1)).toNat)).toInt64))))))) := hW
    refine lv_istore (lv' := [(5, .int (J 0)), (0, .ref b), (1, .ref x), (2, .ref (mm 0)), (3, .ref o), (4, .int (J (4 * (i : Int))))]) hx hb dL_law_343 hl (by decide) rfl (fun ls hl => ?_)
    refine lv_aload_n hx hb dL_law_345 rfl (lv_at hl 3 rfl) ?_
    refine lv_aload_n hx hb dL_law_346 rfl (lv_at hl 1 rfl) ?_
    refine lv_iload hx hb dL_law_347 (lv_at hl 5 rfl) ?_
    refine jv_iconst hx hb dL_law_349 ?_
    refine jv_iadd hx hb dL_law_350 ?_
    refine js_ld (xs := xs) hx hb hX hbl hbA hW ((4 * i) + 1) (by omega) (by omega) hL dL_law_351 ?_
    refine fin_i (k := (k + 1)) (n := (n + 6)) (W2 := (fun u2 => (WX κ x a a2 ++ (WC κ a (up σ 3 ((sx xs (4 * i + 1)).toNat) (1 - σ 3 (sx xs (4 * i + 1)).toNat)) br ++ (WC κ a2 τ bt ++ (WM κ mm u2.1 u2.2 kp ++ (WL κ o (vp_updL g 0 ((J (1 - σ 3 (sx xs (4 * i + 1)).toNat)).toInt64))))))))) [15, 16, 17, 18] [0, 1, 2, 3, 4, 5, 6, 7, 8, 9, 10, 11, 12, 13, 14, 19] [0, 1, 2, 3, 4, 5, 6, 7, 8, 9, 10, 11, 12, 13, 14, 16, 17, 18, 19, 15] hW hA (va_runV (As := [.int (J (sx xs ((4 * i) + 1)))]) (rest := []) F ((m_X2_turnCosy l κ mm σ th kp (sx xs (4 * i + 1)) hz1 hI) _) (cwV 1 hts gL_law_X2_turnCosy rfl rfl rfl (by decide +kernel) ⟨(Nat.le_of_ble_eq_true rfl), (Nat.le_of_ble_eq_true rfl)⟩) (pre_V hK hW [15, 16, 17, 18] rfl (by decide) 2 15 rfl rfl) rfl rfl hl.1 rfl (lv_room (Nat.le_of_ble_eq_true rfl)) dL_law_352 ⟨(by first | exact Nat.le_of_ble_eq_true rfl | omega | (dsimp only [rm_law, rm_X2_turnCosy]; omega)), (by first | exact Nat.le_of_ble_eq_true rfl | omega | (dsimp only [rm_law, rm_X2_turnCosy]; omega))⟩) rfl rfl rfl (by decide) rfl (fun _ => rfl) (by first | exact Nat.le_of_ble_eq_true rfl | omega | (dsimp only [rm_law, rm_X2_turnCosy]; omega)) (by first | exact Nat.le_of_ble_eq_true rfl | omega | (dsimp only [rm_law, rm_X2_turnCosy]; omega)) (fun r_4 u2 H locs hp_3 hW => ?_)
    rcases hp_3 with ⟨h2, rfl, rfl⟩ | ⟨h2, rfl, rfl⟩
    · skip
      have hW : St κ A s.heap H _ (WX κ x a a2 ++ (WC κ a (up σ 3 ((sx xs (4 * i + 1)).toNat) (1 - σ 3 (sx xs (4 * i + 1)).toNat)) br ++ (WC κ a2 τ bt ++ (WM κ mm (up σ 3 ((sx xs (4 * i + 1)).toNat) (1 - σ 3 (sx xs (4 * i + 1)).toNat)) 0 kp ++ (WL κ o (vp_updL g 0 ((J (1 - σ 3 (sx xs (4 * i + 1)).toNat)).toInt64))))))) := hW
      have h9 := hI.at (sx xs (4 * i + 1)).toNat (by omega)
      refine lv_istore (lv' := [(6, .int (J (1 - σ 3 (sx xs (4 * i + 1)).toNat))), (5, .int (J 0)), (0, .ref b), (1, .ref x), (2, .ref (mm 0)), (3, .ref o), (4, .int (J (4 * (i : Int))))]) hx hb dL_law_355 hl (by decide) rfl (fun ls hl => ?_)
      refine lv_aload_n hx hb dL_law_357 rfl (lv_at hl 4 rfl) ?_
      refine fin_i (k := (k + 1)) (n := (n + 6)) (W2 := (fun _ => (WX κ x a a2 ++ (WC κ a (up σ 3 ((sx xs (4 * i + 1)).toNat) (1 - σ 3 (sx xs (4 * i + 1)).toNat)) br ++ (WC κ a2 τ bt ++ (WM κ mm (up σ 3 ((sx xs (4 * i + 1)).toNat) (1 - σ 3 (sx xs (4 * i + 1)).toNat)) 0 kp ++ (WL κ o (vp_updL g 0 ((J (1 - σ 3 (sx xs (4 * i + 1)).toNat)).toInt64))))))))) [15, 16, 17, 18] [0, 1, 2, 3, 4, 5, 6, 7, 8, 9, 10, 11, 12, 13, 14, 19] [0, 1, 2, 3, 4, 5, 6, 7, 8, 9, 10, 11, 12, 13, 14, 16, 17, 18, 19, 15] hW hA (va_runV (As := []) (rest := []) F ((m_X2_thrown l κ mm (up σ 3 ((sx xs (4 * i + 1)).toNat) (1 - σ 3 (sx xs (4 * i + 1)).toNat)) 0 kp) _) (cwV 0 hts gL_law_X2_thrown rfl rfl rfl (by decide +kernel) ⟨(Nat.le_of_ble_eq_true rfl), (Nat.le_of_ble_eq_true rfl)⟩) (pre_V hK hW [15, 16, 17, 18] rfl (by decide) 2 15 rfl rfl) rfl rfl hl.1 rfl (lv_room (Nat.le_of_ble_eq_true rfl)) dL_law_358 ⟨(by first | exact Nat.le_of_ble_eq_true rfl | omega | (dsimp only [rm_law, rm_X2_thrown]; omega)), (by first | exact Nat.le_of_ble_eq_true rfl | omega | (dsimp only [rm_law, rm_X2_thrown]; omega))⟩) rfl rfl rfl (by decide) rfl (fun _ => rfl) (by first | exact Nat.le_of_ble_eq_true rfl | omega | (dsimp only [rm_law, rm_X2_thrown]; omega)) (by first | exact Nat.le_of_ble_eq_true rfl | omega | (dsimp only [rm_law, rm_X2_thrown]; omega)) (fun r_6 u H locs hp_5 hW => ?_)
      subst hp_5
      refine lv_iload hx hb dL_law_361 (lv_at hl 1 rfl) ?_
      refine lv_icmp_eq (tgt := 368) hx hb dL_law_363 (by decide) (fun _ => ?_) (fun h => absurd rfl h)
      refine lv_iload hx hb dL_law_368 (lv_at hl 1 rfl) ?_
      refine jv_if_ne hx hb 392 dL_law_370 (by decide) ⟨by omega, by omega⟩ (fun h => by exfalso; omega) (fun h => ?_)
      refine lv_aload_n hx hb dL_law_373 rfl (lv_at hl 5 rfl) ?_
      refine jv_iconst hx hb dL_law_374 ?_
      refine jv_lald (g := (vp_updL g 0 ((J (1 - σ 3 (sx xs (4 * i + 1)).toNat)).toInt64))) hx hb hK hW 19 rfl dL_law_375 ?_
      refine lv_iload hx hb dL_law_376 (lv_at hl 0 rfl) ?_
      refine jv_if_eq hx hb 385 dL_law_378 (by decide) ⟨by omega, by omega⟩ (fun h_7 => ?_) (fun h_7 => ?_)
      · skip
        refine lv_lconst (v := 0) hx hb dL_law_385 rfl ?_
        refine jv_lcmp hx hb (by show _ = ((J (1 - σ 3 (sx xs (4 * i + 1)).toNat)).toInt64); rw [show (1 - σ 3 (sx xs (4 * i + 1)).toNat : Int) = 0 by have h9 := hI.at (sx xs (4 * i + 1)).toNat (by omega); omega]; rfl) dL_law_386 ?_
        refine jv_if_eq hx hb 392 dL_law_387 (by decide) ⟨by omega, by omega⟩ (fun h => ?_) (fun h => by exfalso; omega)
        refine lv_goto (tgt := 1521) hx hb dL_law_392 (by decide) ?_
        refine W.widen (k := k + 300) (n := n + 2000) (by omega) (by omega) ?_
        exact next (up σ 3 ((sx xs (4 * i + 1)).toNat) (1 - σ 3 (sx xs (4 * i + 1)).toNat)) τ br bt kp 0 (vp_updL g 0 ((J (1 - σ 3 (sx xs (4 * i + 1)).toNat)).toInt64)) _ _ _ (hI.u3 (by have h9 := hI.at (sx xs (4 * i + 1)).toNat (by omega); omega)) (Int.le_trans hB0 (by omega)) (Int.le_trans hC0 (by omega)) hW (lv_sub hl [2, 3, 4, 5, 6] rfl)
      · skip
        refine lv_lconst (v := 1) hx hb dL_law_381 rfl ?_
        refine lv_goto (tgt := 386) hx hb dL_law_382 (by decide) ?_
        refine jv_lcmp hx hb (by show _ = ((J (1 - σ 3 (sx xs (4 * i + 1)).toNat)).toInt64); rw [show (1 - σ 3 (sx xs (4 * i + 1)).toNat : Int) = 1 by have h9 := hI.at (sx xs (4 * i + 1)).toNat (by omega); omega]; rfl) dL_law_386 ?_
        refine jv_if_eq hx hb 392 dL_law_387 (by decide) ⟨by omega, by omega⟩ (fun h => ?_) (fun h => by exfalso; omega)
        refine lv_goto (tgt := 1521) hx hb dL_law_392 (by decide) ?_
        refine W.widen (k := k + 300) (n := n + 2000) (by omega) (by omega) ?_
        exact next (up σ 3 ((sx xs (4 * i + 1)).toNat) (1 - σ 3 (sx xs (4 * i + 1)).toNat)) τ br bt kp 0 (vp_updL g 0 ((J (1 - σ 3 (sx xs (4 * i + 1)).toNat)).toInt64)) _ _ _ (hI.u3 (by have h9 := hI.at (sx xs (4 * i + 1)).toNat (by omega); omega)) (Int.le_trans hB0 (by omega)) (Int.le_trans hC0 (by omega)) hW (lv_sub hl [2, 3, 4, 5, 6] rfl)
    · exact (h2 hv).elim
  · skip
    have hW : St κ A s.heap H _ (WX κ x a a2 ++ (WC κ a σ br ++ (WC κ a2 τ bt ++ (WM κ mm σ th kp ++ (WL κ o g))))) := hW
    refine lv_istore (lv' := [(5, .int (J 1)), (0, .ref b), (1, .ref x), (2, .ref (mm 0)), (3, .ref o), (4, .int (J (4 * (i : Int))))]) hx hb dL_law_343 hl (by decide) rfl (fun ls hl => ?_)
    refine lv_aload_n hx hb dL_law_345 rfl (lv_at hl 3 rfl) ?_
    refine lv_aload_n hx hb dL_law_346 rfl (lv_at hl 1 rfl) ?_
    refine lv_iload hx hb dL_law_347 (lv_at hl 5 rfl) ?_
    refine jv_iconst hx hb dL_law_349 ?_
    refine jv_iadd hx hb dL_law_350 ?_
    refine js_ld (xs := xs) hx hb hX hbl hbA hW ((4 * i) + 1) (by omega) (by omega) hL dL_law_351 ?_
    refine fin_i (k := (k + 1)) (n := (n + 6)) (W2 := (fun u2 => (WX κ x a a2 ++ (WC κ a σ br ++ (WC κ a2 τ bt ++ (WM κ mm u2.1 u2.2 kp ++ (WL κ o g))))))) [15, 16, 17, 18] [0, 1, 2, 3, 4, 5, 6, 7, 8, 9, 10, 11, 12, 13, 14, 19] [0, 1, 2, 3, 4, 5, 6, 7, 8, 9, 10, 11, 12, 13, 14, 16, 17, 18, 19, 15] hW hA (va_runV (As := [.int (J (sx xs ((4 * i) + 1)))]) (rest := []) F ((m_X2_turnCosy l κ mm σ th kp (sx xs (4 * i + 1)) hz1 hI) _) (cwV 1 hts gL_law_X2_turnCosy rfl rfl rfl (by decide +kernel) ⟨(Nat.le_of_ble_eq_true rfl), (Nat.le_of_ble_eq_true rfl)⟩) (pre_V hK hW [15, 16, 17, 18] rfl (by decide) 2 15 rfl rfl) rfl rfl hl.1 rfl (lv_room (Nat.le_of_ble_eq_true rfl)) dL_law_352 ⟨(by first | exact Nat.le_of_ble_eq_true rfl | omega | (dsimp only [rm_law, rm_X2_turnCosy]; omega)), (by first | exact Nat.le_of_ble_eq_true rfl | omega | (dsimp only [rm_law, rm_X2_turnCosy]; omega))⟩) rfl rfl rfl (by decide) rfl (fun _ => rfl) (by first | exact Nat.le_of_ble_eq_true rfl | omega | (dsimp only [rm_law, rm_X2_turnCosy]; omega)) (by first | exact Nat.le_of_ble_eq_true rfl | omega | (dsimp only [rm_law, rm_X2_turnCosy]; omega)) (fun r_9 u2 H locs hp_8 hW => ?_)
    rcases hp_8 with ⟨h2, rfl, rfl⟩ | ⟨h2, rfl, rfl⟩
    · exact (hv h2).elim
    · skip
      have hW : St κ A s.heap H _ (WX κ x a a2 ++ (WC κ a σ br ++ (WC κ a2 τ bt ++ (WM κ mm σ 1 kp ++ (WL κ o g))))) := hW
      refine lv_istore (lv' := [(6, .int (J 0)), (5, .int (J 1)), (0, .ref b), (1, .ref x), (2, .ref (mm 0)), (3, .ref o), (4, .int (J (4 * (i : Int))))]) hx hb dL_law_355 hl (by decide) rfl (fun ls hl => ?_)
      refine lv_aload_n hx hb dL_law_357 rfl (lv_at hl 4 rfl) ?_
      refine fin_i (k := (k + 1)) (n := (n + 6)) (W2 := (fun _ => (WX κ x a a2 ++ (WC κ a σ br ++ (WC κ a2 τ bt ++ (WM κ mm σ 1 kp ++ (WL κ o g))))))) [15, 16, 17, 18] [0, 1, 2, 3, 4, 5, 6, 7, 8, 9, 10, 11, 12, 13, 14, 19] [0, 1, 2, 3, 4, 5, 6, 7, 8, 9, 10, 11, 12, 13, 14, 16, 17, 18, 19, 15] hW hA (va_runV (As := []) (rest := []) F ((m_X2_thrown l κ mm σ 1 kp) _) (cwV 0 hts gL_law_X2_thrown rfl rfl rfl (by decide +kernel) ⟨(Nat.le_of_ble_eq_true rfl), (Nat.le_of_ble_eq_true rfl)⟩) (pre_V hK hW [15, 16, 17, 18] rfl (by decide) 2 15 rfl rfl) rfl rfl hl.1 rfl (lv_room (Nat.le_of_ble_eq_true rfl)) dL_law_358 ⟨(by first | exact Nat.le_of_ble_eq_true rfl | omega | (dsimp only [rm_law, rm_X2_thrown]; omega)), (by first | exact Nat.le_of_ble_eq_true rfl | omega | (dsimp only [rm_law, rm_X2_thrown]; omega))⟩) rfl rfl rfl (by decide) rfl (fun _ => rfl) (by first | exact Nat.le_of_ble_eq_true rfl | omega | (dsimp only [rm_law, rm_X2_thrown]; omega)) (by first | exact Nat.le_of_ble_eq_true rfl | omega | (dsimp only [rm_law, rm_X2_thrown]; omega)) (fun r_11 u H locs hp_10 hW => ?_)
      subst hp_10
      refine lv_iload hx hb dL_law_361 (lv_at hl 1 rfl) ?_
      refine lv_icmp_eq (tgt := 368) hx hb dL_law_363 (by decide) (fun _ => ?_) (fun h => absurd rfl h)
      refine lv_iload hx hb dL_law_368 (lv_at hl 1 rfl) ?_
      refine jv_if_ne hx hb 392 dL_law_370 (by decide) ⟨by omega, by omega⟩ (fun h => ?_) (fun h => by exfalso; omega)
      refine lv_goto (tgt := 1521) hx hb dL_law_392 (by decide) ?_
      refine W.widen (k := k + 300) (n := n + 2000) (by omega) (by omega) ?_
      exact next σ τ br bt kp 1 g _ _ _ hI (by omega) (by omega) hW (lv_sub hl [2, 3, 4, 5, 6] rfl)

set_option maxHeartbeats 4000000 in
set_option maxRecDepth 100000 in
/-- the law: c1 -/
theorem law_c1 {P : Program} {l : Launch} {e : Env} {s : State} {m : MethodId} {below : List Frame} {meth : Method} {c : Code} {Q : State → Prop} {b L : Nat} {xs : Nat → Int32} {κ : Kp} {A : Nat → Prop} {x o : Nat} {a a2 mm : Nat → Nat} (hstk : l.stackTraces = false) (F : CallFix P m c cL_law 9 s #[Value.ref b] wsL_law RL) (hK : Kx κ s) (hT : Tk A s s.heap) (hN9 : Ncx s) (hA : ∀ q, s.heap.size ≤ q → A q) (hX : va_X b L xs s s.heap) (hbl : b < s.heap.size) (hbA : ¬ A b) (hL : L ≤ 2048) {i : Nat} (hi : 4 * i + 4 ≤ L) {k n : Nat} (hk : k + 300 ≤ 601024) (hn : n + 2000 ≤ 7293034) {σ τ : Sg} {br bt kp : Nat → Int} {th : Int} {g : Nat → Int64} (hI : Inv σ) (hB0 : σ 5 0 ≤ 60 * (i : Int)) (hC0 : σ 5 1 ≤ 60 * (i : Int))
    (next : LNext P l e s m below meth c Q κ A b x o a a2 mm i k n) {H : Heap} {locs : List Loc} {ls : Array Slot} (hW : St κ A s.heap H locs (WB κ x a a2 mm o σ τ br bt kp th g)) (hl : lv_has ls 9 (LLoc b x o mm i)) : W P l e rm_law s m #[Value.ref b] below meth c H locs k n Q (F0 m 264 ls []) := by
  obtain ⟨hx, hb, hml, hown, hts⟩ := id F
  have hN := hI.hN
  have hN10 := hI.n10
  have hB : σ 5 0 ≤ 100000000 := by omega
  have hC : σ 5 1 ≤ 100000000 := by omega
  have hz1 := sx_in xs (4 * i + 1)
  have hz2 := sx_in xs (4 * i + 2)
  have hz3 := sx_in xs (4 * i + 3)
  refine lv_aload_n hx hb dL_law_264 rfl (lv_at hl 1 rfl) ?_
  refine lv_aload_n hx hb dL_law_265 rfl (lv_at hl 0 rfl) ?_
  refine lv_iload hx hb dL_law_266 (lv_at hl 4 rfl) ?_
  refine jv_iconst hx hb dL_law_268 ?_
  refine jv_iadd hx hb dL_law_269 ?_
  refine js_ld (xs := xs) hx hb hX hbl hbA hW ((4 * i) + 1) (by omega) (by omega) hL dL_law_270 ?_
  refine lv_aload_n hx hb dL_law_271 rfl (lv_at hl 0 rfl) ?_
  refine lv_iload hx hb dL_law_272 (lv_at hl 4 rfl) ?_
  refine jv_iconst hx hb dL_law_274 ?_
  refine jv_iadd hx hb dL_law_275 ?_
  refine js_ld (xs := xs) hx hb hX hbl hbA hW ((4 * i) + 2) (by omega) (by omega) hL dL_law_276 ?_
  refine lv_aload_n hx hb dL_law_277 rfl (lv_at hl 3 rfl) ?_
  refine fint_i (k := (k + 3)) (n := (n + 18)) (W2 := (fun uu => (WX κ x a a2 ++ (WC κ a uu.1 br ++ (WC κ a2 τ bt ++ (WM κ mm σ th kp ++ (WL κ o uu.2))))))) [0, 1, 2, 3, 4, 5, 6, 7, 19] [8, 9, 10, 11, 12, 13, 14, 15, 16, 17, 18] [11, 12, 13, 14, 15, 16, 17, 18, 0, 1, 2, 3, 4, 5, 6, 7, 8, 9, 10, 19] hW hA (vx_runSX (As := [.ref x, .int (J (sx xs ((4 * i) + 1))), .int (J (sx xs ((4 * i) + 2))), .ref o]) (rest := []) F ((m_L_tune l κ hstk x a a2 σ br o g (sx xs (4 * i + 1)) (sx xs (4 * i + 2)) ⟨hz1, hz2⟩ hI) _) (vx_cwSW 4 hts gL_law_L_tune rfl rfl rfl (by decide +kernel) ⟨(Nat.le_of_ble_eq_true rfl), (Nat.le_of_ble_eq_true rfl)⟩) (pre_SL hN9 hK hT hW hA [0, 1, 2, 3, 4, 5, 6, 7, 19] rfl (by decide)) rfl rfl hl.1 rfl (lv_room (Nat.le_of_ble_eq_true rfl)) dL_law_278 ⟨(by first | exact Nat.le_of_ble_eq_true rfl | omega | (dsimp only [rm_law, rm_L_tune]; omega)), (by first | exact Nat.le_of_ble_eq_true rfl | omega | (dsimp only [rm_law, rm_L_tune]; omega))⟩) rfl rfl rfl (by decide) rfl (fun _ => rfl) rfl (by first | exact Nat.le_of_ble_eq_true rfl | omega | (dsimp only [rm_law, rm_L_tune]; omega)) (by first | exact Nat.le_of_ble_eq_true rfl | omega | (dsimp only [rm_law, rm_L_tune]; omega)) (fun E ce q9 H locs hX hW g1 g2 g3 => False.elim hX) (fun r_2 uu H locs hp_1 hW => ?_)
  rcases hp_1 with ⟨hv, rfl, rfl⟩ | ⟨hv, rfl, rfl⟩ | ⟨hv, rfl, rfl⟩
  · skip
    have hW : St κ A s.heap H _ (WX κ x a a2 ++ (WC κ a (up σ 0 ((sx xs (4 * i + 1)).toNat) (σ 0 (sx xs (4 * i + 1)).toNat + (sx xs (4 * i + 2)))) br ++ (WC κ a2 τ bt ++ (WM κ mm σ th kp ++ (WL κ o (vp_updL g 0 ((J (σ 0 (sx xs (4 * i + 1)).toNat + (sx xs (4 * i + 2)))).toInt64))))))) := hW
    refine lv_istore (lv' := [(5, .int (J 0)), (0, .ref b), (1, .ref x), (2, .ref (mm 0)), (3, .ref o), (4, .int (J (4 * (i : Int))))]) hx hb dL_law_281 hl (by decide) rfl (fun ls hl => ?_)
    refine lv_aload_n hx hb dL_law_283 rfl (lv_at hl 3 rfl) ?_
    refine lv_aload_n hx hb dL_law_284 rfl (lv_at hl 1 rfl) ?_
    refine lv_iload hx hb dL_law_285 (lv_at hl 5 rfl) ?_
    refine jv_iconst hx hb dL_law_287 ?_
    refine jv_iadd hx hb dL_law_288 ?_
    refine js_ld (xs := xs) hx hb hX hbl hbA hW ((4 * i) + 1) (by omega) (by omega) hL dL_law_289 ?_
    refine lv_aload_n hx hb dL_law_290 rfl (lv_at hl 1 rfl) ?_
    refine lv_iload hx hb dL_law_291 (lv_at hl 5 rfl) ?_
    refine jv_iconst hx hb dL_law_293 ?_
    refine jv_iadd hx hb dL_law_294 ?_
    refine js_ld (xs := xs) hx hb hX hbl hbA hW ((4 * i) + 2) (by omega) (by omega) hL dL_law_295 ?_
    refine fin_i (k := (k + 3)) (n := (n + 18)) (W2 := (fun u2 => (WX κ x a a2 ++ (WC κ a (up σ 0 ((sx xs (4 * i + 1)).toNat) (σ 0 (sx xs (4 * i + 1)).toNat + (sx xs (4 * i + 2)))) br ++ (WC κ a2 τ bt ++ (WM κ mm u2.1 u2.2 kp ++ (WL κ o (vp_updL g 0 ((J (σ 0 (sx xs (4 * i + 1)).toNat + (sx xs (4 * i + 2)))).toInt64))))))))) [15, 16, 17, 18] [0, 1, 2, 3, 4, 5, 6, 7, 8, 9, 10, 11, 12, 13, 14, 19] [0, 1, 2, 3, 4, 5, 6, 7, 8, 9, 10, 11, 12, 13, 14, 16, 17, 18, 19, 15] hW hA (va_runV (As := [.int (J (sx xs ((4 * i) + 1))), .int (J (sx xs ((4 * i) + 2)))]) (rest := []) F ((m_X2_tune l κ mm σ th kp (sx xs (4 * i + 1)) (sx xs (4 * i + 2)) ⟨hz1, hz2⟩ hI) _) (cwV 2 hts gL_law_X2_tune rfl rfl rfl (by decide +kernel) ⟨(Nat.le_of_ble_eq_true rfl), (Nat.le_of_ble_eq_true rfl)⟩) (pre_V hK hW [15, 16, 17, 18] rfl (by decide) 2 15 rfl rfl) rfl rfl hl.1 rfl (lv_room (Nat.le_of_ble_eq_true rfl)) dL_law_296 ⟨(by first | exact Nat.le_of_ble_eq_true rfl | omega | (dsimp only [rm_law, rm_X2_tune]; omega)), (by first | exact Nat.le_of_ble_eq_true rfl | omega | (dsimp only [rm_law, rm_X2_tune]; omega))⟩) rfl rfl rfl (by decide) rfl (fun _ => rfl) (by first | exact Nat.le_of_ble_eq_true rfl | omega | (dsimp only [rm_law, rm_X2_tune]; omega)) (by first | exact Nat.le_of_ble_eq_true rfl | omega | (dsimp only [rm_law, rm_X2_tune]; omega)) (fun r_4 u2 H locs hp_3 hW => ?_)
    rcases hp_3 with ⟨h2, rfl, rfl⟩ | ⟨h2, rfl, rfl⟩ | ⟨h2, rfl, rfl⟩
    · skip
      have hW : St κ A s.heap H _ (WX κ x a a2 ++ (WC κ a (up σ 0 ((sx xs (4 * i + 1)).toNat) (σ 0 (sx xs (4 * i + 1)).toNat + (sx xs (4 * i + 2)))) br ++ (WC κ a2 τ bt ++ (WM κ mm (up σ 0 ((sx xs (4 * i + 1)).toNat) (σ 0 (sx xs (4 * i + 1)).toNat + (sx xs (4 * i + 2)))) 0 kp ++ (WL κ o (vp_updL g 0 ((J (σ 0 (sx xs (4 * i + 1)).toNat + (sx xs (4 * i + 2)))).toInt64))))))) := hW
      refine lv_istore (lv' := [(6, .int (J (σ 0 (sx xs (4 * i + 1)).toNat + (sx xs (4 * i + 2))))), (5, .int (J 0)), (0, .ref b), (1, .ref x), (2, .ref (mm 0)), (3, .ref o), (4, .int (J (4 * (i : Int))))]) hx hb dL_law_299 hl (by decide) rfl (fun ls hl => ?_)
      refine lv_aload_n hx hb dL_law_301 rfl (lv_at hl 4 rfl) ?_
      refine fin_i (k := (k + 3)) (n := (n + 18)) (W2 := (fun _ => (WX κ x a a2 ++ (WC κ a (up σ 0 ((sx xs (4 * i + 1)).toNat) (σ 0 (sx xs (4 * i + 1)).toNat + (sx xs (4 * i + 2)))) br ++ (WC κ a2 τ bt ++ (WM κ mm (up σ 0 ((sx xs (4 * i + 1)).toNat) (σ 0 (sx xs (4 * i + 1)).toNat + (sx xs (4 * i + 2)))) 0 kp ++ (WL κ o (vp_updL g 0 ((J (σ 0 (sx xs (4 * i + 1)).toNat + (sx xs (4 * i + 2)))).toInt64))))))))) [15, 16, 17, 18] [0, 1, 2, 3, 4, 5, 6, 7, 8, 9, 10, 11, 12, 13, 14, 19] [0, 1, 2, 3, 4, 5, 6, 7, 8, 9, 10, 11, 12, 13, 14, 16, 17, 18, 19, 15] hW hA (va_runV (As := []) (rest := []) F ((m_X2_thrown l κ mm (up σ 0 ((sx xs (4 * i + 1)).toNat) (σ 0 (sx xs (4 * i + 1)).toNat + (sx xs (4 * i + 2)))) 0 kp) _) (cwV 0 hts gL_law_X2_thrown rfl rfl rfl (by decide +kernel) ⟨(Nat.le_of_ble_eq_true rfl), (Nat.le_of_ble_eq_true rfl)⟩) (pre_V hK hW [15, 16, 17, 18] rfl (by decide) 2 15 rfl rfl) rfl rfl hl.1 rfl (lv_room (Nat.le_of_ble_eq_true rfl)) dL_law_302 ⟨(by first | exact Nat.le_of_ble_eq_true rfl | omega | (dsimp only [rm_law, rm_X2_thrown]; omega)), (by first | exact Nat.le_of_ble_eq_true rfl | omega | (dsimp only [rm_law, rm_X2_thrown]; omega))⟩) rfl rfl rfl (by decide) rfl (fun _ => rfl) (by first | exact Nat.le_of_ble_eq_true rfl | omega | (dsimp only [rm_law, rm_X2_thrown]; omega)) (by first | exact Nat.le_of_ble_eq_true rfl | omega | (dsimp only [rm_law, rm_X2_thrown]; omega)) (fun r_6 u H locs hp_5 hW => ?_)
      subst hp_5
      refine lv_iload hx hb dL_law_305 (lv_at hl 1 rfl) ?_
      refine lv_icmp_eq (tgt := 312) hx hb dL_law_307 (by decide) (fun _ => ?_) (fun h => absurd rfl h)
      refine lv_iload hx hb dL_law_312 (lv_at hl 1 rfl) ?_
      refine jv_if_ne hx hb 329 dL_law_314 (by decide) ⟨by omega, by omega⟩ (fun h => by exfalso; omega) (fun h => ?_)
      refine lv_aload_n hx hb dL_law_317 rfl (lv_at hl 5 rfl) ?_
      refine jv_iconst hx hb dL_law_318 ?_
      refine jv_lald (g := (vp_updL g 0 ((J (σ 0 (sx xs (4 * i + 1)).toNat + (sx xs (4 * i + 2)))).toInt64))) hx hb hK hW 19 rfl dL_law_319 ?_
      refine lv_iload hx hb dL_law_320 (lv_at hl 0 rfl) ?_
      refine lv_i2l hx hb dL_law_322 rfl ?_
      refine jv_lcmp hx hb rfl dL_law_323 ?_
      refine jv_if_eq hx hb 329 dL_law_324 (by decide) ⟨by omega, by omega⟩ (fun h => ?_) (fun h => by exfalso; omega)
      refine lv_goto (tgt := 1521) hx hb dL_law_329 (by decide) ?_
      refine W.widen (k := k + 300) (n := n + 2000) (by omega) (by omega) ?_
      exact next (up σ 0 ((sx xs (4 * i + 1)).toNat) (σ 0 (sx xs (4 * i + 1)).toNat + (sx xs (4 * i + 2)))) τ br bt kp 0 (vp_updL g 0 ((J (σ 0 (sx xs (4 * i + 1)).toNat + (sx xs (4 * i + 2)))).toInt64)) _ _ _ (hI.u0 hv.2.2) (Int.le_trans hB0 (by omega)) (Int.le_trans hC0 (by omega)) hW (lv_sub hl [2, 3, 4, 5, 6] rfl)
    · exact (h2 hv.1).elim
    · exact (h2.2 hv.2).elim
  · skip
    have hW : St κ A s.heap H _ (WX κ x a a2 ++ (WC κ a σ br ++ (WC κ a2 τ bt ++ (WM κ mm σ th kp ++ (WL κ o g))))) := hW
    refine lv_istore (lv' := [(5, .int (J 1)), (0, .ref b), (1, .ref x), (2, .ref (mm 0)), (3, .ref o), (4, .int (J (4 * (i : Int))))]) hx hb dL_law_281 hl (by decide) rfl (fun ls hl => ?_)
    refine lv_aload_n hx hb dL_law_283 rfl (lv_at hl 3 rfl) ?_
    refine lv_aload_n hx hb dL_law_284 rfl (lv_at hl 1 rfl) ?_
    refine lv_iload hx hb dL_law_285 (lv_at hl 5 rfl) ?_
    refine jv_iconst hx hb dL_law_287 ?_
    refine jv_iadd hx hb dL_law_288 ?_
    refine js_ld (xs := xs) hx hb hX hbl hbA hW ((4 * i) + 1) (by omega) (by omega) hL dL_law_289 ?_
    refine lv_aload_n hx hb dL_law_290 rfl (lv_at hl 1 rfl) ?_
    refine lv_iload hx hb dL_law_291 (lv_at hl 5 rfl) ?_
    refine jv_iconst hx hb dL_law_293 ?_
    refine jv_iadd hx hb dL_law_294 ?_
    refine js_ld (xs := xs) hx hb hX hbl hbA hW ((4 * i) + 2) (by omega) (by omega) hL dL_law_295 ?_
    refine fin_i (k := (k + 3)) (n := (n + 18)) (W2 := (fun u2 => (WX κ x a a2 ++ (WC κ a σ br ++ (WC κ a2 τ bt ++ (WM κ mm u2.1 u2.2 kp ++ (WL κ o g))))))) [15, 16, 17, 18] [0, 1, 2, 3, 4, 5, 6, 7, 8, 9, 10, 11, 12, 13, 14, 19] [0, 1, 2, 3, 4, 5, 6, 7, 8, 9, 10, 11, 12, 13, 14, 16, 17, 18, 19, 15] hW hA (va_runV (As := [.int (J (sx xs ((4 * i) + 1))), .int (J (sx xs ((4 * i) + 2)))]) (rest := []) F ((m_X2_tune l κ mm σ th kp (sx xs (4 * i + 1)) (sx xs (4 * i + 2)) ⟨hz1, hz2⟩ hI) _) (cwV 2 hts gL_law_X2_tune rfl rfl rfl (by decide +kernel) ⟨(Nat.le_of_ble_eq_true rfl), (Nat.le_of_ble_eq_true rfl)⟩) (pre_V hK hW [15, 16, 17, 18] rfl (by decide) 2 15 rfl rfl) rfl rfl hl.1 rfl (lv_room (Nat.le_of_ble_eq_true rfl)) dL_law_296 ⟨(by first | exact Nat.le_of_ble_eq_true rfl | omega | (dsimp only [rm_law, rm_X2_tune]; omega)), (by first | exact Nat.le_of_ble_eq_true rfl | omega | (dsimp only [rm_law, rm_X2_tune]; omega))⟩) rfl rfl rfl (by decide) rfl (fun _ => rfl) (by first | exact Nat.le_of_ble_eq_true rfl | omega | (dsimp only [rm_law, rm_X2_tune]; omega)) (by first | exact Nat.le_of_ble_eq_true rfl | omega | (dsimp only [rm_law, rm_X2_tune]; omega)) (fun r_8 u2 H locs hp_7 hW => ?_)
    rcases hp_7 with ⟨h2, rfl, rfl⟩ | ⟨h2, rfl, rfl⟩ | ⟨h2, rfl, rfl⟩
    · exact (hv h2.1).elim
    · skip
      have hW : St κ A s.heap H _ (WX κ x a a2 ++ (WC κ a σ br ++ (WC κ a2 τ bt ++ (WM κ mm σ 1 kp ++ (WL κ o g))))) := hW
      refine lv_istore (lv' := [(6, .int (J 0)), (5, .int (J 1)), (0, .ref b), (1, .ref x), (2, .ref (mm 0)), (3, .ref o), (4, .int (J (4 * (i : Int))))]) hx hb dL_law_299 hl (by decide) rfl (fun ls hl => ?_)
      refine lv_aload_n hx hb dL_law_301 rfl (lv_at hl 4 rfl) ?_
      refine fin_i (k := (k + 3)) (n := (n + 18)) (W2 := (fun _ => (WX κ x a a2 ++ (WC κ a σ br ++ (WC κ a2 τ bt ++ (WM κ mm σ 1 kp ++ (WL κ o g))))))) [15, 16, 17, 18] [0, 1, 2, 3, 4, 5, 6, 7, 8, 9, 10, 11, 12, 13, 14, 19] [0, 1, 2, 3, 4, 5, 6, 7, 8, 9, 10, 11, 12, 13, 14, 16, 17, 18, 19, 15] hW hA (va_runV (As := []) (rest := []) F ((m_X2_thrown l κ mm σ 1 kp) _) (cwV 0 hts gL_law_X2_thrown rfl rfl rfl (by decide +kernel) ⟨(Nat.le_of_ble_eq_true rfl), (Nat.le_of_ble_eq_true rfl)⟩) (pre_V hK hW [15, 16, 17, 18] rfl (by decide) 2 15 rfl rfl) rfl rfl hl.1 rfl (lv_room (Nat.le_of_ble_eq_true rfl)) dL_law_302 ⟨(by first | exact Nat.le_of_ble_eq_true rfl | omega | (dsimp only [rm_law, rm_X2_thrown]; omega)), (by first | exact Nat.le_of_ble_eq_true rfl | omega | (dsimp only [rm_law, rm_X2_thrown]; omega))⟩) rfl rfl rfl (by decide) rfl (fun _ => rfl) (by first | exact Nat.le_of_ble_eq_true rfl | omega | (dsimp only [rm_law, rm_X2_thrown]; omega)) (by first | exact Nat.le_of_ble_eq_true rfl | omega | (dsimp only [rm_law, rm_X2_thrown]; omega)) (fun r_10 u H locs hp_9 hW => ?_)
      subst hp_9
      refine lv_iload hx hb dL_law_305 (lv_at hl 1 rfl) ?_
      refine lv_icmp_eq (tgt := 312) hx hb dL_law_307 (by decide) (fun _ => ?_) (fun h => absurd rfl h)
      refine lv_iload hx hb dL_law_312 (lv_at hl 1 rfl) ?_
      refine jv_if_ne hx hb 329 dL_law_314 (by decide) ⟨by omega, by omega⟩ (fun h => ?_) (fun h => by exfalso; omega)
      refine lv_goto (tgt := 1521) hx hb dL_law_329 (by decide) ?_
      refine W.widen (k := k + 300) (n := n + 2000) (by omega) (by omega) ?_
      exact next σ τ br bt kp 1 g _ _ _ hI (by omega) (by omega) hW (lv_sub hl [2, 3, 4, 5, 6] rfl)
    · exact (hv h2.1).elim
  · skip
    have hW : St κ A s.heap H _ (WX κ x a a2 ++ (WC κ a σ br ++ (WC κ a2 τ bt ++ (WM κ mm σ th kp ++ (WL κ o g))))) := hW
    refine lv_istore (lv' := [(5, .int (J 2)), (0, .ref b), (1, .ref x), (2, .ref (mm 0)), (3, .ref o), (4, .int (J (4 * (i : Int))))]) hx hb dL_law_281 hl (by decide) rfl (fun ls hl => ?_)
    refine lv_aload_n hx hb dL_law_283 rfl (lv_at hl 3 rfl) ?_
    refine lv_aload_n hx hb dL_law_284 rfl (lv_at hl 1 rfl) ?_
    refine lv_iload hx hb dL_law_285 (lv_at hl 5 rfl) ?_
    refine jv_iconst hx hb dL_law_287 ?_
    refine jv_iadd hx hb dL_law_288 ?_
    refine js_ld (xs := xs) hx hb hX hbl hbA hW ((4 * i) + 1) (by omega) (by omega) hL dL_law_289 ?_
    refine lv_aload_n hx hb dL_law_290 rfl (lv_at hl 1 rfl) ?_
    refine lv_iload hx hb dL_law_291 (lv_at hl 5 rfl) ?_
    refine jv_iconst hx hb dL_law_293 ?_
    refine jv_iadd hx hb dL_law_294 ?_
    refine js_ld (xs := xs) hx hb hX hbl hbA hW ((4 * i) + 2) (by omega) (by omega) hL dL_law_295 ?_
    refine fin_i (k := (k + 3)) (n := (n + 18)) (W2 := (fun u2 => (WX κ x a a2 ++ (WC κ a σ br ++ (WC κ a2 τ bt ++ (WM κ mm u2.1 u2.2 kp ++ (WL κ o g))))))) [15, 16, 17, 18] [0, 1, 2, 3, 4, 5, 6, 7, 8, 9, 10, 11, 12, 13, 14, 19] [0, 1, 2, 3, 4, 5, 6, 7, 8, 9, 10, 11, 12, 13, 14, 16, 17, 18, 19, 15] hW hA (va_runV (As := [.int (J (sx xs ((4 * i) + 1))), .int (J (sx xs ((4 * i) + 2)))]) (rest := []) F ((m_X2_tune l κ mm σ th kp (sx xs (4 * i + 1)) (sx xs (4 * i + 2)) ⟨hz1, hz2⟩ hI) _) (cwV 2 hts gL_law_X2_tune rfl rfl rfl (by decide +kernel) ⟨(Nat.le_of_ble_eq_true rfl), (Nat.le_of_ble_eq_true rfl)⟩) (pre_V hK hW [15, 16, 17, 18] rfl (by decide) 2 15 rfl rfl) rfl rfl hl.1 rfl (lv_room (Nat.le_of_ble_eq_true rfl)) dL_law_296 ⟨(by first | exact Nat.le_of_ble_eq_true rfl | omega | (dsimp only [rm_law, rm_X2_tune]; omega)), (by first | exact Nat.le_of_ble_eq_true rfl | omega | (dsimp only [rm_law, rm_X2_tune]; omega))⟩) rfl rfl rfl (by decide) rfl (fun _ => rfl) (by first | exact Nat.le_of_ble_eq_true rfl | omega | (dsimp only [rm_law, rm_X2_tune]; omega)) (by first | exact Nat.le_of_ble_eq_true rfl | omega | (dsimp only [rm_law, rm_X2_tune]; omega)) (fun r_12 u2 H locs hp_11 hW => ?_)
    rcases hp_11 with ⟨h2, rfl, rfl⟩ | ⟨h2, rfl, rfl⟩ | ⟨h2, rfl, rfl⟩
    · exact (hv.2 h2.2).elim
    · exact (h2 hv.1).elim
    · skip
      have hW : St κ A s.heap H _ (WX κ x a a2 ++ (WC κ a σ br ++ (WC κ a2 τ bt ++ (WM κ mm σ 2 kp ++ (WL κ o g))))) := hW
      refine lv_istore (lv' := [(6, .int (J 0)), (5, .int (J 2)), (0, .ref b), (1, .ref x), (2, .ref (mm 0)), (3, .ref o), (4, .int (J (4 * (i : Int))))]) hx hb dL_law_299 hl (by decide) rfl (fun ls hl => ?_)
      refine lv_aload_n hx hb dL_law_301 rfl (lv_at hl 4 rfl) ?_
      refine fin_i (k := (k + 3)) (n := (n + 18)) (W2 := (fun _ => (WX κ x a a2 ++ (WC κ a σ br ++ (WC κ a2 τ bt ++ (WM κ mm σ 2 kp ++ (WL κ o g))))))) [15, 16, 17, 18] [0, 1, 2, 3, 4, 5, 6, 7, 8, 9, 10, 11, 12, 13, 14, 19] [0, 1, 2, 3, 4, 5, 6, 7, 8, 9, 10, 11, 12, 13, 14, 16, 17, 18, 19, 15] hW hA (va_runV (As := []) (rest := []) F ((m_X2_thrown l κ mm σ 2 kp) _) (cwV 0 hts gL_law_X2_thrown rfl rfl rfl (by decide +kernel) ⟨(Nat.le_of_ble_eq_true rfl), (Nat.le_of_ble_eq_true rfl)⟩) (pre_V hK hW [15, 16, 17, 18] rfl (by decide) 2 15 rfl rfl) rfl rfl hl.1 rfl (lv_room (Nat.le_of_ble_eq_true rfl)) dL_law_302 ⟨(by first | exact Nat.le_of_ble_eq_true rfl | omega | (dsimp only [rm_law, rm_X2_thrown]; omega)), (by first | exact Nat.le_of_ble_eq_true rfl | omega | (dsimp only [rm_law, rm_X2_thrown]; omega))⟩) rfl rfl rfl (by decide) rfl (fun _ => rfl) (by first | exact Nat.le_of_ble_eq_true rfl | omega | (dsimp only [rm_law, rm_X2_thrown]; omega)) (by first | exact Nat.le_of_ble_eq_true rfl | omega | (dsimp only [rm_law, rm_X2_thrown]; omega)) (fun r_14 u H locs hp_13 hW => ?_)
      subst hp_13
      refine lv_iload hx hb dL_law_305 (lv_at hl 1 rfl) ?_
      refine lv_icmp_eq (tgt := 312) hx hb dL_law_307 (by decide) (fun _ => ?_) (fun h => absurd rfl h)
      refine lv_iload hx hb dL_law_312 (lv_at hl 1 rfl) ?_
      refine jv_if_ne hx hb 329 dL_law_314 (by decide) ⟨by omega, by omega⟩ (fun h => ?_) (fun h => by exfalso; omega)
      refine lv_goto (tgt := 1521) hx hb dL_law_329 (by decide) ?_
      refine W.widen (k := k + 300) (n := n + 2000) (by omega) (by omega) ?_
      exact next σ τ br bt kp 2 g _ _ _ hI (by omega) (by omega) hW (lv_sub hl [2, 3, 4, 5, 6] rfl)
