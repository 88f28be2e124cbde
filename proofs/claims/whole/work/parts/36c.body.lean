set_option maxHeartbeats 4000000 in
set_option maxRecDepth 100000 in
/-- the law: c8 -/
theorem law_c8 {P : Program} {l : Launch} {e : Env} {s : State} {m : MethodId} {below : List Frame} {meth : Method} {c : Code} {Q : State → Prop} {b L : Nat} {xs : Nat → Int32} {κ : Kp} {A : Nat → Prop} {x o : Nat} {a a2 mm : Nat → Nat} (hstk : l.stackTraces = false) (F : CallFix P m c cL_law 9 s #[Value.ref b] wsL_law RL) (hK : Kx κ s) (hT : Tk A s s.heap) (hN9 : Ncx s) (hA : ∀ q, s.heap.size ≤ q → A q) (hX : va_X b L xs s s.heap) (hbl : b < s.heap.size) (hbA : ¬ A b) (hL : L ≤ 2048) {i : Nat} (hi : 4 * i + 4 ≤ L) {k n : Nat} (hk : k + 300 ≤ 601024) (hn : n + 2000 ≤ 7293034) {σ τ : Sg} {br bt kp : Nat → Int} {th : Int} {g : Nat → Int64} (hI : Inv σ) (hB0 : σ 5 0 ≤ 60 * (i : Int)) (hC0 : σ 5 1 ≤ 60 * (i : Int))
    (next : LNext P l e s m below meth c Q κ A b x o a a2 mm i k n) {H : Heap} {locs : List Loc} {ls : Array Slot} (hW : St κ A s.heap H locs (WB κ x a a2 mm o σ τ br bt kp th g)) (hl : lv_has ls 9 (LLoc b x o mm i)) : W P l e rm_law s m #[Value.ref b] below meth c H locs k n Q (F0 m 656 ls []) := by
  obtain ⟨hx, hb, hml, hown, hts⟩ := id F
  have hN := hI.hN
  have hN10 := hI.n10
  have hB : σ 5 0 ≤ 100000000 := by omega
  have hC : σ 5 1 ≤ 100000000 := by omega
  have hz1 := sx_in xs (4 * i + 1)
  have hz2 := sx_in xs (4 * i + 2)
  have hz3 := sx_in xs (4 * i + 3)
  refine lv_aload_n hx hb dL_law_656 rfl (lv_at hl 1 rfl) ?_
  refine lv_aload_n hx hb dL_law_657 rfl (lv_at hl 0 rfl) ?_
  refine lv_iload hx hb dL_law_658 (lv_at hl 4 rfl) ?_
  refine jv_iconst hx hb dL_law_660 ?_
  refine jv_iadd hx hb dL_law_661 ?_
  refine js_ld (xs := xs) hx hb hX hbl hbA hW ((4 * i) + 1) (by omega) (by omega) hL dL_law_662 ?_
  refine lv_aload_n hx hb dL_law_663 rfl (lv_at hl 3 rfl) ?_
  refine fint_i (k := (k + 2)) (n := (n + 12)) (W2 := (fun uu => (WX κ x a a2 ++ (WC κ a σ br ++ (WC κ a2 τ bt ++ (WM κ mm σ th kp ++ (WL κ o uu))))))) [0, 1, 2, 3, 4, 5, 6, 7, 19] [8, 9, 10, 11, 12, 13, 14, 15, 16, 17, 18] [11, 12, 13, 14, 15, 16, 17, 18, 0, 1, 2, 3, 4, 5, 6, 7, 8, 9, 10, 19] hW hA (vx_runSX (As := [.ref x, .int (J (sx xs ((4 * i) + 1))), .ref o]) (rest := []) F ((m_L_partOf l κ hstk x a a2 σ br o g (sx xs (4 * i + 1)) hz1 hI) _) (vx_cwSW 3 hts gL_law_L_partOf rfl rfl rfl (by decide +kernel) ⟨(Nat.le_of_ble_eq_true rfl), (Nat.le_of_ble_eq_true rfl)⟩) (pre_SL hN9 hK hT hW hA [0, 1, 2, 3, 4, 5, 6, 7, 19] rfl (by decide)) rfl rfl hl.1 rfl (lv_room (Nat.le_of_ble_eq_true rfl)) dL_law_664 ⟨(by first | exact Nat.le_of_ble_eq_true rfl | omega | (dsimp only [rm_law, rm_L_partOf]; omega)), (by first | exact Nat.le_of_ble_eq_true rfl | omega | (dsimp only [rm_law, rm_L_partOf]; omega))⟩) rfl rfl rfl (by decide) rfl (fun _ => rfl) rfl (by first | exact Nat.le_of_ble_eq_true rfl | omega | (dsimp only [rm_law, rm_L_partOf]; omega)) (by first | exact Nat.le_of_ble_eq_true rfl | omega | (dsimp only [rm_law, rm_L_partOf]; omega)) (fun E ce q9 H locs hX hW g1 g2 g3 => False.elim hX) (fun r_2 uu H locs hp_1 hW => ?_)
  rcases hp_1 with ⟨hv, rfl, rfl⟩ | ⟨hv, rfl, hu⟩
  · skip
    have hW : St κ A s.heap H _ (WX κ x a a2 ++ (WC κ a σ br ++ (WC κ a2 τ bt ++ (WM κ mm σ th kp ++ (WL κ o (vp_updL g 0 ((J (σ 4 (sx xs (4 * i + 1)).toNat)).toInt64))))))) := hW
    refine lv_istore (lv' := [(5, .int (J 0)), (0, .ref b), (1, .ref x), (2, .ref (mm 0)), (3, .ref o), (4, .int (J (4 * (i : Int))))]) hx hb dL_law_667 hl (by decide) rfl (fun ls hl => ?_)
    refine lv_aload_n hx hb dL_law_669 rfl (lv_at hl 3 rfl) ?_
    refine lv_aload_n hx hb dL_law_670 rfl (lv_at hl 1 rfl) ?_
    refine lv_iload hx hb dL_law_671 (lv_at hl 5 rfl) ?_
    refine jv_iconst hx hb dL_law_673 ?_
    refine jv_iadd hx hb dL_law_674 ?_
    refine js_ld (xs := xs) hx hb hX hbl hbA hW ((4 * i) + 1) (by omega) (by omega) hL dL_law_675 ?_
    refine fin_i (k := (k + 2)) (n := (n + 12)) (W2 := (fun u2 => (WX κ x a a2 ++ (WC κ a σ br ++ (WC κ a2 τ bt ++ (WM κ mm σ u2 kp ++ (WL κ o (vp_updL g 0 ((J (σ 4 (sx xs (4 * i + 1)).toNat)).toInt64))))))))) [15, 16, 17, 18] [0, 1, 2, 3, 4, 5, 6, 7, 8, 9, 10, 11, 12, 13, 14, 19] [0, 1, 2, 3, 4, 5, 6, 7, 8, 9, 10, 11, 12, 13, 14, 16, 17, 18, 19, 15] hW hA (va_runV (As := [.int (J (sx xs ((4 * i) + 1)))]) (rest := []) F ((m_X2_partOf l κ mm σ th kp (sx xs (4 * i + 1)) hz1 hI) _) (cwV 1 hts gL_law_X2_partOf rfl rfl rfl (by decide +kernel) ⟨(Nat.le_of_ble_eq_true rfl), (Nat.le_of_ble_eq_true rfl)⟩) (pre_V hK hW [15, 16, 17, 18] rfl (by decide) 2 15 rfl rfl) rfl rfl hl.1 rfl (lv_room (Nat.le_of_ble_eq_true rfl)) dL_law_676 ⟨(by first | exact Nat.le_of_ble_eq_true rfl | omega | (dsimp only [rm_law, rm_X2_partOf]; omega)), (by first | exact Nat.le_of_ble_eq_true rfl | omega | (dsimp only [rm_law, rm_X2_partOf]; omega))⟩) rfl rfl rfl (by decide) rfl (fun _ => rfl) (by first | exact Nat.le_of_ble_eq_true rfl | omega | (dsimp only [rm_law, rm_X2_partOf]; omega)) (by first | exact Nat.le_of_ble_eq_true rfl | omega | (dsimp only [rm_law, rm_X2_partOf]; omega)) (fun r_4 u2 H locs hp_3 hW => ?_)
    rcases hp_3 with ⟨h2, rfl, rfl⟩ | ⟨h2, rfl, rfl⟩
    · skip
      have hW : St κ A s.heap H _ (WX κ x a a2 ++ (WC κ a σ br ++ (WC κ a2 τ bt ++ (WM κ mm σ 0 kp ++ (WL κ o (vp_updL g 0 ((J (σ 4 (sx xs (4 * i + 1)).toNat)).toInt64))))))) := hW
      refine lv_istore (lv' := [(6, .int (J (σ 4 (sx xs (4 * i + 1)).toNat))), (5, .int (J 0)), (0, .ref b), (1, .ref x), (2, .ref (mm 0)), (3, .ref o), (4, .int (J (4 * (i : Int))))]) hx hb dL_law_679 hl (by decide) rfl (fun ls hl => ?_)
      refine lv_aload_n hx hb dL_law_681 rfl (lv_at hl 4 rfl) ?_
      refine fin_i (k := (k + 2)) (n := (n + 12)) (W2 := (fun _ => (WX κ x a a2 ++ (WC κ a σ br ++ (WC κ a2 τ bt ++ (WM κ mm σ 0 kp ++ (WL κ o (vp_updL g 0 ((J (σ 4 (sx xs (4 * i + 1)).toNat)).toInt64))))))))) [15, 16, 17, 18] [0, 1, 2, 3, 4, 5, 6, 7, 8, 9, 10, 11, 12, 13, 14, 19] [0, 1, 2, 3, 4, 5, 6, 7, 8, 9, 10, 11, 12, 13, 14, 16, 17, 18, 19, 15] hW hA (va_runV (As := []) (rest := []) F ((m_X2_thrown l κ mm σ 0 kp) _) (cwV 0 hts gL_law_X2_thrown rfl rfl rfl (by decide +kernel) ⟨(Nat.le_of_ble_eq_true rfl), (Nat.le_of_ble_eq_true rfl)⟩) (pre_V hK hW [15, 16, 17, 18] rfl (by decide) 2 15 rfl rfl) rfl rfl hl.1 rfl (lv_room (Nat.le_of_ble_eq_true rfl)) dL_law_682 ⟨(by first | exact Nat.le_of_ble_eq_true rfl | omega | (dsimp only [rm_law, rm_X2_thrown]; omega)), (by first | exact Nat.le_of_ble_eq_true rfl | omega | (dsimp only [rm_law, rm_X2_thrown]; omega))⟩) rfl rfl rfl (by decide) rfl (fun _ => rfl) (by first | exact Nat.le_of_ble_eq_true rfl | omega | (dsimp only [rm_law, rm_X2_thrown]; omega)) (by first | exact Nat.le_of_ble_eq_true rfl | omega | (dsimp only [rm_law, rm_X2_thrown]; omega)) (fun r_6 u H locs hp_5 hW => ?_)
      subst hp_5
      refine lv_iload hx hb dL_law_685 (lv_at hl 1 rfl) ?_
      refine lv_icmp_eq (tgt := 692) hx hb dL_law_687 (by decide) (fun _ => ?_) (fun h => absurd rfl h)
      refine lv_iload hx hb dL_law_692 (lv_at hl 1 rfl) ?_
      refine jv_if_ne hx hb 709 dL_law_694 (by decide) ⟨by omega, by omega⟩ (fun h => by exfalso; omega) (fun h => ?_)
      refine lv_aload_n hx hb dL_law_697 rfl (lv_at hl 5 rfl) ?_
      refine jv_iconst hx hb dL_law_698 ?_
      refine jv_lald (g := (vp_updL g 0 ((J (σ 4 (sx xs (4 * i + 1)).toNat)).toInt64))) hx hb hK hW 19 rfl dL_law_699 ?_
      refine lv_iload hx hb dL_law_700 (lv_at hl 0 rfl) ?_
      refine lv_i2l hx hb dL_law_702 rfl ?_
      refine jv_lcmp hx hb rfl dL_law_703 ?_
      refine jv_if_eq hx hb 709 dL_law_704 (by decide) ⟨by omega, by omega⟩ (fun h => ?_) (fun h => by exfalso; omega)
      refine lv_goto (tgt := 1521) hx hb dL_law_709 (by decide) ?_
      refine W.widen (k := k + 300) (n := n + 2000) (by omega) (by omega) ?_
      exact next σ τ br bt kp 0 (vp_updL g 0 ((J (σ 4 (sx xs (4 * i + 1)).toNat)).toInt64)) _ _ _ hI (by omega) (by omega) hW (lv_sub hl [2, 3, 4, 5, 6] rfl)
    · exact (h2 hv).elim
  · skip
    have hu := hu.symm
    subst hu
    have hW : St κ A s.heap H _ (WX κ x a a2 ++ (WC κ a σ br ++ (WC κ a2 τ bt ++ (WM κ mm σ th kp ++ (WL κ o g))))) := hW
    refine lv_istore (lv' := [(5, .int (J 1)), (0, .ref b), (1, .ref x), (2, .ref (mm 0)), (3, .ref o), (4, .int (J (4 * (i : Int))))]) hx hb dL_law_667 hl (by decide) rfl (fun ls hl => ?_)
    refine lv_aload_n hx hb dL_law_669 rfl (lv_at hl 3 rfl) ?_
    refine lv_aload_n hx hb dL_law_670 rfl (lv_at hl 1 rfl) ?_
    refine lv_iload hx hb dL_law_671 (lv_at hl 5 rfl) ?_
    refine jv_iconst hx hb dL_law_673 ?_
    refine jv_iadd hx hb dL_law_674 ?_
    refine js_ld (xs := xs) hx hb hX hbl hbA hW ((4 * i) + 1) (by omega) (by omega) hL dL_law_675 ?_
    refine fin_i (k := (k + 2)) (n := (n + 12)) (W2 := (fun u2 => (WX κ x a a2 ++ (WC κ a σ br ++ (WC κ a2 τ bt ++ (WM κ mm σ u2 kp ++ (WL κ o g))))))) [15, 16, 17, 18] [0, 1, 2, 3, 4, 5, 6, 7, 8, 9, 10, 11, 12, 13, 14, 19] [0, 1, 2, 3, 4, 5, 6, 7, 8, 9, 10, 11, 12, 13, 14, 16, 17, 18, 19, 15] hW hA (va_runV (As := [.int (J (sx xs ((4 * i) + 1)))]) (rest := []) F ((m_X2_partOf l κ mm σ th kp (sx xs (4 * i + 1)) hz1 hI) _) (cwV 1 hts gL_law_X2_partOf rfl rfl rfl (by decide +kernel) ⟨(Nat.le_of_ble_eq_true rfl), (Nat.le_of_ble_eq_true rfl)⟩) (pre_V hK hW [15, 16, 17, 18] rfl (by decide) 2 15 rfl rfl) rfl rfl hl.1 rfl (lv_room (Nat.le_of_ble_eq_true rfl)) dL_law_676 ⟨(by first | exact Nat.le_of_ble_eq_true rfl | omega | (dsimp only [rm_law, rm_X2_partOf]; omega)), (by first | exact Nat.le_of_ble_eq_true rfl | omega | (dsimp only [rm_law, rm_X2_partOf]; omega))⟩) rfl rfl rfl (by decide) rfl (fun _ => rfl) (by first | exact Nat.le_of_ble_eq_true rfl | omega | (dsimp only [rm_law, rm_X2_partOf]; omega)) (by first | exact Nat.le_of_ble_eq_true rfl | omega | (dsimp only [rm_law, rm_X2_partOf]; omega)) (fun r_8 u2 H locs hp_7 hW => ?_)
    rcases hp_7 with ⟨h2, rfl, rfl⟩ | ⟨h2, rfl, rfl⟩
    · exact (hv h2).elim
    · skip
      have hW : St κ A s.heap H _ (WX κ x a a2 ++ (WC κ a σ br ++ (WC κ a2 τ bt ++ (WM κ mm σ 1 kp ++ (WL κ o g))))) := hW
      refine lv_istore (lv' := [(6, .int (J 0)), (5, .int (J 1)), (0, .ref b), (1, .ref x), (2, .ref (mm 0)), (3, .ref o), (4, .int (J (4 * (i : Int))))]) hx hb dL_law_679 hl (by decide) rfl (fun ls hl => ?_)
      refine lv_aload_n hx hb dL_law_681 rfl (lv_at hl 4 rfl) ?_
      refine fin_i (k := (k + 2)) (n := (n + 12)) (W2 := (fun _ => (WX κ x a a2 ++ (WC κ a σ br ++ (WC κ a2 τ bt ++ (WM κ mm σ 1 kp ++ (WL κ o g))))))) [15, 16, 17, 18] [0, 1, 2, 3, 4, 5, 6, 7, 8, 9, 10, 11, 12, 13, 14, 19] [0, 1, 2, 3, 4, 5, 6, 7, 8, 9, 10, 11, 12, 13, 14, 16, 17, 18, 19, 15] hW hA (va_runV (As := []) (rest := []) F ((m_X2_thrown l κ mm σ 1 kp) _) (cwV 0 hts gL_law_X2_thrown rfl rfl rfl (by decide +kernel) ⟨(Nat.le_of_ble_eq_true rfl), (Nat.le_of_ble_eq_true rfl)⟩) (pre_V hK hW [15, 16, 17, 18] rfl (by decide) 2 15 rfl rfl) rfl rfl hl.1 rfl (lv_room (Nat.le_of_ble_eq_true rfl)) dL_law_682 ⟨(by first | exact Nat.le_of_ble_eq_true rfl | omega | (dsimp only [rm_law, rm_X2_thrown]; omega)), (by first | exact Nat.le_of_ble_eq_true rfl | omega | (dsimp only [rm_law, rm_X2_thrown]; omega))⟩) rfl rfl rfl (by decide) rfl (fun _ => rfl) (by first | exact Nat.le_of_ble_eq_true rfl | omega | (dsimp only [rm_law, rm_X2_thrown]; omega)) (by first | exact Nat.le_of_ble_eq_true rfl | omega | (dsimp only [rm_law, rm_X2_thrown]; omega)) (fun r_10 u H locs hp_9 hW => ?_)
      subst hp_9
      refine lv_iload hx hb dL_law_685 (lv_at hl 1 rfl) ?_
      refine lv_icmp_eq (tgt := 692) hx hb dL_law_687 (by decide) (fun _ => ?_) (fun h => absurd rfl h)
      refine lv_iload hx hb dL_law_692 (lv_at hl 1 rfl) ?_
      refine jv_if_ne hx hb 709 dL_law_694 (by decide) ⟨by omega, by omega⟩ (fun h => ?_) (fun h => by exfalso; omega)
      refine lv_goto (tgt := 1521) hx hb dL_law_709 (by decide) ?_
      refine W.widen (k := k + 300) (n := n + 2000) (by omega) (by omega) ?_
      exact next σ τ br bt kp 1 g _ _ _ hI (by omega) (by omega) hW (lv_sub hl [2, 3, 4, 5, 6] rfl)

set_option maxHeartbeats 4000000 in
set_option maxRecDepth 100000 in
/-- the law: c9 -/
theorem law_c9 {P : Program} {l : Launch} {e : Env} {s : State} {m : MethodId} {below : List Frame} {meth : Method} {c : Code} {Q : State → Prop} {b L : Nat} {xs : Nat → Int32} {κ : Kp} {A : Nat → Prop} {x o : Nat} {a a2 mm : Nat → Nat} (hstk : l.stackTraces = false) (F : CallFix P m c cL_law 9 s #[Value.ref b] wsL_law RL) (hK : Kx κ s) (hT : Tk A s s.heap) (hN9 : Ncx s) (hA : ∀ q, s.heap.size ≤ q → A q) (hX : va_X b L xs s s.heap) (hbl : b < s.heap.size) (hbA : ¬ A b) (hL : L ≤ 2048) {i : Nat} (hi : 4 * i + 4 ≤ L) {k n : Nat} (hk : k + 300 ≤ 601024) (hn : n + 2000 ≤ 7293034) {σ τ : Sg} {br bt kp : Nat → Int} {th : Int} {g : Nat → Int64} (hI : Inv σ) (hB0 : σ 5 0 ≤ 60 * (i : Int)) (hC0 : σ 5 1 ≤ 60 * (i : Int))
    (next : LNext P l e s m below meth c Q κ A b x o a a2 mm i k n) {H : Heap} {locs : List Loc} {ls : Array Slot} (hW : St κ A s.heap H locs (WB κ x a a2 mm o σ τ br bt kp th g)) (hl : lv_has ls 9 (LLoc b x o mm i)) : W P l e rm_law s m #[Value.ref b] below meth c H locs k n Q (F0 m 712 ls []) := by
  obtain ⟨hx, hb, hml, hown, hts⟩ := id F
  have hN := hI.hN
  have hN10 := hI.n10
  have hB : σ 5 0 ≤ 100000000 := by omega
  have hC : σ 5 1 ≤ 100000000 := by omega
  have hz1 := sx_in xs (4 * i + 1)
  have hz2 := sx_in xs (4 * i + 2)
  have hz3 := sx_in xs (4 * i + 3)
  refine lv_aload_n hx hb dL_law_712 rfl (lv_at hl 1 rfl) ?_
  refine lv_aload_n hx hb dL_law_713 rfl (lv_at hl 0 rfl) ?_
  refine lv_iload hx hb dL_law_714 (lv_at hl 4 rfl) ?_
  refine jv_iconst hx hb dL_law_716 ?_
  refine jv_iadd hx hb dL_law_717 ?_
  refine js_ld (xs := xs) hx hb hX hbl hbA hW ((4 * i) + 1) (by omega) (by omega) hL dL_law_718 ?_
  refine lv_aload_n hx hb dL_law_719 rfl (lv_at hl 3 rfl) ?_
  refine fint_i (k := (k + 2)) (n := (n + 12)) (W2 := (fun uu => (WX κ x a a2 ++ (WC κ a σ br ++ (WC κ a2 τ bt ++ (WM κ mm σ th kp ++ (WL κ o uu))))))) [0, 1, 2, 3, 4, 5, 6, 7, 19] [8, 9, 10, 11, 12, 13, 14, 15, 16, 17, 18] [11, 12, 13, 14, 15, 16, 17, 18, 0, 1, 2, 3, 4, 5, 6, 7, 8, 9, 10, 19] hW hA (vx_runSX (As := [.ref x, .int (J (sx xs ((4 * i) + 1))), .ref o]) (rest := []) F ((m_L_pitchOf l κ hstk x a a2 σ br o g (sx xs (4 * i + 1)) hz1 hI) _) (vx_cwSW 3 hts gL_law_L_pitchOf rfl rfl rfl (by decide +kernel) ⟨(Nat.le_of_ble_eq_true rfl), (Nat.le_of_ble_eq_true rfl)⟩) (pre_SL hN9 hK hT hW hA [0, 1, 2, 3, 4, 5, 6, 7, 19] rfl (by decide)) rfl rfl hl.1 rfl (lv_room (Nat.le_of_ble_eq_true rfl)) dL_law_720 ⟨(by first | exact Nat.le_of_ble_eq_true rfl | omega | (dsimp only [rm_law, rm_L_pitchOf]; omega)), (by first | exact Nat.le_of_ble_eq_true rfl | omega | (dsimp only [rm_law, rm_L_pitchOf]; omega))⟩) rfl rfl rfl (by decide) rfl (fun _ => rfl) rfl (by first | exact Nat.le_of_ble_eq_true rfl | omega | (dsimp only [rm_law, rm_L_pitchOf]; omega)) (by first | exact Nat.le_of_ble_eq_true rfl | omega | (dsimp only [rm_law, rm_L_pitchOf]; omega)) (fun E ce q9 H locs hX hW g1 g2 g3 => False.elim hX) (fun r_2 uu H locs hp_1 hW => ?_)
  rcases hp_1 with ⟨hv, rfl, rfl⟩ | ⟨hv, rfl, hu⟩
  · skip
    have hW : St κ A s.heap H _ (WX κ x a a2 ++ (WC κ a σ br ++ (WC κ a2 τ bt ++ (WM κ mm σ th kp ++ (WL κ o (vp_updL g 0 ((J (σ 0 (sx xs (4 * i + 1)).toNat)).toInt64))))))) := hW
    refine lv_istore (lv' := [(5, .int (J 0)), (0, .ref b), (1, .ref x), (2, .ref (mm 0)), (3, .ref o), (4, .int (J (4 * (i : Int))))]) hx hb dL_law_723 hl (by decide) rfl (fun ls hl => ?_)
    refine lv_aload_n hx hb dL_law_725 rfl (lv_at hl 3 rfl) ?_
    refine lv_aload_n hx hb dL_law_726 rfl (lv_at hl 1 rfl) ?_
    refine lv_iload hx hb dL_law_727 (lv_at hl 5 rfl) ?_
    refine jv_iconst hx hb dL_law_729 ?_
    refine jv_iadd hx hb dL_law_730 ?_
    refine js_ld (xs := xs) hx hb hX hbl hbA hW ((4 * i) + 1) (by omega) (by omega) hL dL_law_731 ?_
    refine fin_i (k := (k + 2)) (n := (n + 12)) (W2 := (fun u2 => (WX κ x a a2 ++ (WC κ a σ br ++ (WC κ a2 τ bt ++ (WM κ mm σ u2 kp ++ (WL κ o (vp_updL g 0 ((J (σ 0 (sx xs (4 * i + 1)).toNat)).toInt64))))))))) [15, 16, 17, 18] [0, 1, 2, 3, 4, 5, 6, 7, 8, 9, 10, 11, 12, 13, 14, 19] [0, 1, 2, 3, 4, 5, 6, 7, 8, 9, 10, 11, 12, 13, 14, 16, 17, 18, 19, 15] hW hA (va_runV (As := [.int (J (sx xs ((4 * i) + 1)))]) (rest := []) F ((m_X2_pitchOf l κ mm σ th kp (sx xs (4 * i + 1)) hz1 hI) _) (cwV 1 hts gL_law_X2_pitchOf rfl rfl rfl (by decide +kernel) ⟨(Nat.le_of_ble_eq_true rfl), (Nat.le_of_ble_eq_true rfl)⟩) (pre_V hK hW [15, 16, 17, 18] rfl (by decide) 2 15 rfl rfl) rfl rfl hl.1 rfl (lv_room (Nat.le_of_ble_eq_true rfl)) dL_law_732 ⟨(by first | exact Nat.le_of_ble_eq_true rfl | omega | (dsimp only [rm_law, rm_X2_pitchOf]; omega)), (by first | exact Nat.le_of_ble_eq_true rfl | omega | (dsimp only [rm_law, rm_X2_pitchOf]; omega))⟩) rfl rfl rfl (by decide) rfl (fun _ => rfl) (by first | exact Nat.le_of_ble_eq_true rfl | omega | (dsimp only [rm_law, rm_X2_pitchOf]; omega)) (by first | exact Nat.le_of_ble_eq_true rfl | omega | (dsimp only [rm_law, rm_X2_pitchOf]; omega)) (fun r_4 u2 H locs hp_3 hW => ?_)
    rcases hp_3 with ⟨h2, rfl, rfl⟩ | ⟨h2, rfl, rfl⟩
    · skip
      have hW : St κ A s.heap H _ (WX κ x a a2 ++ (WC κ a σ br ++ (WC κ a2 τ bt ++ (WM κ mm σ 0 kp ++ (WL κ o (vp_updL g 0 ((J (σ 0 (sx xs (4 * i + 1)).toNat)).toInt64))))))) := hW
      refine lv_istore (lv' := [(6, .int (J (σ 0 (sx xs (4 * i + 1)).toNat))), (5, .int (J 0)), (0, .ref b), (1, .ref x), (2, .ref (mm 0)), (3, .ref o), (4, .int (J (4 * (i : Int))))]) hx hb dL_law_735 hl (by decide) rfl (fun ls hl => ?_)
      refine lv_aload_n hx hb dL_law_737 rfl (lv_at hl 4 rfl) ?_
      refine fin_i (k := (k + 2)) (n := (n + 12)) (W2 := (fun _ => (WX κ x a a2 ++ (WC κ a σ br ++ (WC κ a2 τ bt ++ (WM κ mm σ 0 kp ++ (WL κ o (vp_updL g 0 ((J (σ 0 (sx xs (4 * i + 1)).toNat)).toInt64))))))))) [15, 16, 17, 18] [0, 1, 2, 3, 4, 5, 6, 7, 8, 9, 10, 11, 12, 13, 14, 19] [0, 1, 2, 3, 4, 5, 6, 7, 8, 9, 10, 11, 12, 13, 14, 16, 17, 18, 19, 15] hW hA (va_runV (As := []) (rest := []) F ((m_X2_thrown l κ mm σ 0 kp) _) (cwV 0 hts gL_law_X2_thrown rfl rfl rfl (by decide +kernel) ⟨(Nat.le_of_ble_eq_true rfl), (Nat.le_of_ble_eq_true rfl)⟩) (pre_V hK hW [15, 16, 17, 18] rfl (by decide) 2 15 rfl rfl) rfl rfl hl.1 rfl (lv_room (Nat.le_of_ble_eq_true rfl)) dL_law_738 ⟨(by first | exact Nat.le_of_ble_eq_true rfl | omega | (dsimp only [rm_law, rm_X2_thrown]; omega)), (by first | exact Nat.le_of_ble_eq_true rfl | omega | (dsimp only [rm_law, rm_X2_thrown]; omega))⟩) rfl rfl rfl (by decide) rfl (fun _ => rfl) (by first | exact Nat.le_of_ble_eq_true rfl | omega | (dsimp only [rm_law, rm_X2_thrown]; omega)) (by first | exact Nat.le_of_ble_eq_true rfl | omega | (dsimp only [rm_law, rm_X2_thrown]; omega)) (fun r_6 u H locs hp_5 hW => ?_)
      subst hp_5
      refine lv_iload hx hb dL_law_741 (lv_at hl 1 rfl) ?_
      refine lv_icmp_eq (tgt := 748) hx hb dL_law_743 (by decide) (fun _ => ?_) (fun h => absurd rfl h)
      refine lv_iload hx hb dL_law_748 (lv_at hl 1 rfl) ?_
      refine jv_if_ne hx hb 765 dL_law_750 (by decide) ⟨by omega, by omega⟩ (fun h => by exfalso; omega) (fun h => ?_)
      refine lv_aload_n hx hb dL_law_753 rfl (lv_at hl 5 rfl) ?_
      refine jv_iconst hx hb dL_law_754 ?_
      refine jv_lald (g := (vp_updL g 0 ((J (σ 0 (sx xs (4 * i + 1)).toNat)).toInt64))) hx hb hK hW 19 rfl dL_law_755 ?_
      refine lv_iload hx hb dL_law_756 (lv_at hl 0 rfl) ?_
      refine lv_i2l hx hb dL_law_758 rfl ?_
      refine jv_lcmp hx hb rfl dL_law_759 ?_
      refine jv_if_eq hx hb 765 dL_law_760 (by decide) ⟨by omega, by omega⟩ (fun h => ?_) (fun h => by exfalso; omega)
      refine lv_goto (tgt := 1521) hx hb dL_law_765 (by decide) ?_
      refine W.widen (k := k + 300) (n := n + 2000) (by omega) (by omega) ?_
      exact next σ τ br bt kp 0 (vp_updL g 0 ((J (σ 0 (sx xs (4 * i + 1)).toNat)).toInt64)) _ _ _ hI (by omega) (by omega) hW (lv_sub hl [2, 3, 4, 5, 6] rfl)
    · exact (h2 hv).elim
  · skip
    have hu := hu.symm
    subst hu
    have hW : St κ A s.heap H _ (WX κ x a a2 ++ (WC κ a σ br ++ (WC κ a2 τ bt ++ (WM κ mm σ th kp ++ (WL κ o g))))) := hW
    refine lv_istore (lv' := [(5, .int (J 1)), (0, .ref b), (1, .ref x), (2, .ref (mm 0)), (3, .ref o), (4, .int (J (4 * (i : Int))))]) hx hb dL_law_723 hl (by decide) rfl (fun ls hl => ?_)
    refine lv_aload_n hx hb dL_law_725 rfl (lv_at hl 3 rfl) ?_
    refine lv_aload_n hx hb dL_law_726 rfl (lv_at hl 1 rfl) ?_
    refine lv_iload hx hb dL_law_727 (lv_at hl 5 rfl) ?_
    refine jv_iconst hx hb dL_law_729 ?_
    refine jv_iadd hx hb dL_law_730 ?_
    refine js_ld (xs := xs) hx hb hX hbl hbA hW ((4 * i) + 1) (by omega) (by omega) hL dL_law_731 ?_
    refine fin_i (k := (k + 2)) (n := (n + 12)) (W2 := (fun u2 => (WX κ x a a2 ++ (WC κ a σ br ++ (WC κ a2 τ bt ++ (WM κ mm σ u2 kp ++ (WL κ o g))))))) [15, 16, 17, 18] [0, 1, 2, 3, 4, 5, 6, 7, 8, 9, 10, 11, 12, 13, 14, 19] [0, 1, 2, 3, 4, 5, 6, 7, 8, 9, 10, 11, 12, 13, 14, 16, 17, 18, 19, 15] hW hA (va_runV (As := [.int (J (sx xs ((4 * i) + 1)))]) (rest := []) F ((m_X2_pitchOf l κ mm σ th kp (sx xs (4 * i + 1)) hz1 hI) _) (cwV 1 hts gL_law_X2_pitchOf rfl rfl rfl (by decide +kernel) ⟨(Nat.le_of_ble_eq_true rfl), (Nat.le_of_ble_eq_true rfl)⟩) (pre_V hK hW [15, 16, 17, 18] rfl (by decide) 2 15 rfl rfl) rfl rfl hl.1 rfl (lv_room (Nat.le_of_ble_eq_true rfl)) dL_law_732 ⟨(by first | exact Nat.le_of_ble_eq_true rfl | omega | (dsimp only [rm_law, rm_X2_pitchOf]; omega)), (by first | exact Nat.le_of_ble_eq_true rfl | omega | (dsimp only [rm_law, rm_X2_pitchOf]; omega))⟩) rfl rfl rfl (by decide) rfl (fun _ => rfl) (by first | exact Nat.le_of_ble_eq_true rfl | omega | (dsimp only [rm_law, rm_X2_pitchOf]; omega)) (by first | exact Nat.le_of_ble_eq_true rfl | omega | (dsimp only [rm_law, rm_X2_pitchOf]; omega)) (fun r_8 u2 H locs hp_7 hW => ?_)
    rcases hp_7 with ⟨h2, rfl, rfl⟩ | ⟨h2, rfl, rfl⟩
    · exact (hv h2).elim
    · skip
      have hW : St κ A s.heap H _ (WX κ x a a2 ++ (WC κ a σ br ++ (WC κ a2 τ bt ++ (WM κ mm σ 1 kp ++ (WL κ o g))))) := hW
      refine lv_istore (lv' := [(6, .int (J 0)), (5, .int (J 1)), (0, .ref b), (1, .ref x), (2, .ref (mm 0)), (3, .ref o), (4, .int (J (4 * (i : Int))))]) hx hb dL_law_735 hl (by decide) rfl (fun ls hl => ?_)
      refine lv_aload_n hx hb dL_law_737 rfl (lv_at hl 4 rfl) ?_
      refine fin_i (k := (k + 2)) (n := (n + 12)) (W2 := (fun _ => (WX κ x a a2 ++ (WC κ a σ br ++ (WC κ a2 τ bt ++ (WM κ mm σ 1 kp ++ (WL κ o g))))))) [15, 16, 17, 18] [0, 1, 2, 3, 4, 5, 6, 7, 8, 9, 10, 11, 12, 13, 14, 19] [0, 1, 2, 3, 4, 5, 6, 7, 8, 9, 10, 11, 12, 13, 14, 16, 17, 18, 19, 15] hW hA (va_runV (As := []) (rest := []) F ((m_X2_thrown l κ mm σ 1 kp) _) (cwV 0 hts gL_law_X2_thrown rfl rfl rfl (by decide +kernel) ⟨(Nat.le_of_ble_eq_true rfl), (Nat.le_of_ble_eq_true rfl)⟩) (pre_V hK hW [15, 16, 17, 18] rfl (by decide) 2 15 rfl rfl) rfl rfl hl.1 rfl (lv_room (Nat.le_of_ble_eq_true rfl)) dL_law_738 ⟨(by first | exact Nat.le_of_ble_eq_true rfl | omega | (dsimp only [rm_law, rm_X2_thrown]; omega)), (by first | exact Nat.le_of_ble_eq_true rfl | omega | (dsimp only [rm_law, rm_X2_thrown]; omega))⟩) rfl rfl rfl (by decide) rfl (fun _ => rfl) (by first | exact Nat.le_of_ble_eq_true rfl | omega | (dsimp only [rm_law, rm_X2_thrown]; omega)) (by first | exact Nat.le_of_ble_eq_true rfl | omega | (dsimp only [rm_law, rm_X2_thrown]; omega)) (fun r_10 u H locs hp_9 hW => ?_)
      subst hp_9
      refine lv_iload hx hb dL_law_741 (lv_at hl 1 rfl) ?_
      refine lv_icmp_eq (tgt := 748) hx hb dL_law_743 (by decide) (fun _ => ?_) (fun h => absurd rfl h)
      refine lv_iload hx hb dL_law_748 (lv_at hl 1 rfl) ?_
      refine jv_if_ne hx hb 765 dL_law_750 (by decide) ⟨by omega, by omega⟩ (fun h => ?_) (fun h => by exfalso; omega)
      refine lv_goto (tgt := 1521) hx hb dL_law_765 (by decide) ?_
      refine W.widen (k := k + 300) (n := n + 2000) (by omega) (by omega) ?_
      exact next σ τ br bt kp 1 g _ _ _ hI (by omega) (by omega) hW (lv_sub hl [2, 3, 4, 5, 6] rfl)

set_option maxHeartbeats 4000000 in
set_option maxRecDepth 100000 in
/-- the law: c10 -/
theorem law_c10 {P : Program} {l : Launch} {e : Env} {s : State} {m : MethodId} {below : List Frame} {meth : Method} {c : Code} {Q : State → Prop} {b L : Nat} {xs : Nat → Int32} {κ : Kp} {A : Nat → Prop} {x o : Nat} {a a2 mm : Nat → Nat} (hstk : l.stackTraces = false) (F : CallFix P m c cL_law 9 s #[Value.ref b] wsL_law RL) (hK : Kx κ s) (hT : Tk A s s.heap) (hN9 : Ncx s) (hA : ∀ q, s.heap.size ≤ q → A q) (hX : va_X b L xs s s.heap) (hbl : b < s.heap.size) (hbA : ¬ A b) (hL : L ≤ 2048) {i : Nat} (hi : 4 * i + 4 ≤ L) {k n : Nat} (hk : k + 300 ≤ 601024) (hn : n + 2000 ≤ 7293034) {σ τ : Sg} {br bt kp : Nat → Int} {th : Int} {g : Nat → Int64} (hI : Inv σ) (hB0 : σ 5 0 ≤ 60 * (i : Int)) (hC0 : σ 5 1 ≤ 60 * (i : Int))
    (next : LNext P l e s m below meth c Q κ A b x o a a2 mm i k n) {H : Heap} {locs : List Loc} {ls : Array Slot} (hW : St κ A s.heap H locs (WB κ x a a2 mm o σ τ br bt kp th g)) (hl : lv_has ls 9 (LLoc b x o mm i)) : W P l e rm_law s m #[Value.ref b] below meth c H locs k n Q (F0 m 768 ls []) := by
  obtain ⟨hx, hb, hml, hown, hts⟩ := id F
  have hN := hI.hN
  have hN10 := hI.n10
  have hB : σ 5 0 ≤ 100000000 := by omega
  have hC : σ 5 1 ≤ 100000000 := by omega
  have hz1 := sx_in xs (4 * i + 1)
  have hz2 := sx_in xs (4 * i + 2)
  have hz3 := sx_in xs (4 * i + 3)
  refine lv_aload_n hx hb dL_law_768 rfl (lv_at hl 1 rfl) ?_
  refine lv_aload_n hx hb dL_law_769 rfl (lv_at hl 0 rfl) ?_
  refine lv_iload hx hb dL_law_770 (lv_at hl 4 rfl) ?_
  refine jv_iconst hx hb dL_law_772 ?_
  refine jv_iadd hx hb dL_law_773 ?_
  refine js_ld (xs := xs) hx hb hX hbl hbA hW ((4 * i) + 1) (by omega) (by omega) hL dL_law_774 ?_
  refine lv_aload_n hx hb dL_law_775 rfl (lv_at hl 3 rfl) ?_
  refine fint_i (k := (k + 2)) (n := (n + 12)) (W2 := (fun uu => (WX κ x a a2 ++ (WC κ a σ br ++ (WC κ a2 τ bt ++ (WM κ mm σ th kp ++ (WL κ o uu))))))) [0, 1, 2, 3, 4, 5, 6, 7, 19] [8, 9, 10, 11, 12, 13, 14, 15, 16, 17, 18] [11, 12, 13, 14, 15, 16, 17, 18, 0, 1, 2, 3, 4, 5, 6, 7, 8, 9, 10, 19] hW hA (vx_runSX (As := [.ref x, .int (J (sx xs ((4 * i) + 1))), .ref o]) (rest := []) F ((m_L_teaOf l κ hstk x a a2 σ br o g (sx xs (4 * i + 1)) hz1 hI) _) (vx_cwSW 3 hts gL_law_L_teaOf rfl rfl rfl (by decide +kernel) ⟨(Nat.le_of_ble_eq_true rfl), (Nat.le_of_ble_eq_true rfl)⟩) (pre_SL hN9 hK hT hW hA [0, 1, 2, 3, 4, 5, 6, 7, 19] rfl (by decide)) rfl rfl hl.1 rfl (lv_room (Nat.le_of_ble_eq_true rfl)) dL_law_776 ⟨(by first | exact Nat.le_of_ble_eq_true rfl | omega | (dsimp only [rm_law, rm_L_teaOf]; omega)), (by first | exact Nat.le_of_ble_eq_true rfl | omega | (dsimp only [rm_law, rm_L_teaOf]; omega))⟩) rfl rfl rfl (by decide) rfl (fun _ => rfl) rfl (by first | exact Nat.le_of_ble_eq_true rfl | omega | (dsimp only [rm_law, rm_L_teaOf]; omega)) (by first | exact Nat.le_of_ble_eq_true rfl | omega | (dsimp only [rm_law, rm_L_teaOf]; omega)) (fun E ce q9 H locs hX hW g1 g2 g3 => False.elim hX) (fun r_2 uu H locs hp_1 hW => ?_)
  rcases hp_1 with ⟨hv, rfl, rfl⟩ | ⟨hv, rfl, hu⟩
  · skip
    have hW : St κ A s.heap H _ (WX κ x a a2 ++ (WC κ a σ br ++ (WC κ a2 τ bt ++ (WM κ mm σ th kp ++ (WL κ o (vp_updL g 0 ((J (σ 1 (sx xs (4 * i + 1)).toNat)).toInt64))))))) := hW
    refine lv_istore (lv' := [(5, .int (J 0)), (0, .ref b), (1, .ref x), (2, .ref (mm 0)), (3, .ref o), (4, .int (J (4 * (i : Int))))]) hx hb dL_law_779 hl (by decide) rfl (fun ls hl => ?_)
    refine lv_aload_n hx hb dL_law_781 rfl (lv_at hl 3 rfl) ?_
    refine lv_aload_n hx hb dL_law_782 rfl (lv_at hl 1 rfl) ?_
    refine lv_iload hx hb dL_law_783 (lv_at hl 5 rfl) ?_
    refine jv_iconst hx hb dL_law_785 ?_
    refine jv_iadd hx hb dL_law_786 ?_
    refine js_ld (xs := xs) hx hb hX hbl hbA hW ((4 * i) + 1) (by omega) (by omega) hL dL_law_787 ?_
    refine fin_i (k := (k + 2)) (n := (n + 12)) (W2 := (fun u2 => (WX κ x a a2 ++ (WC κ a σ br ++ (WC κ a2 τ bt ++ (WM κ mm σ u2 kp ++ (WL κ o (vp_updL g 0 ((J (σ 1 (sx xs (4 * i + 1)).toNat)).toInt64))))))))) [15, 16, 17, 18] [0, 1, 2, 3, 4, 5, 6, 7, 8, 9, 10, 11, 12, 13, 14, 19] [0, 1, 2, 3, 4, 5, 6, 7, 8, 9, 10, 11, 12, 13, 14, 16, 17, 18, 19, 15] hW hA (va_runV (As := [.int (J (sx xs ((4 * i) + 1)))]) (rest := []) F ((m_X2_teaOf l κ mm σ th kp (sx xs (4 * i + 1)) hz1 hI) _) (cwV 1 hts gL_law_X2_teaOf rfl rfl rfl (by decide +kernel) ⟨(Nat.le_of_ble_eq_true rfl), (Nat.le_of_ble_eq_true rfl)⟩) (pre_V hK hW [15, 16, 17, 18] rfl (by decide) 2 15 rfl rfl) rfl rfl hl.1 rfl (lv_room (Nat.le_of_ble_eq_true rfl)) dL_law_788 ⟨(by first | exact Nat.le_of_ble_eq_true rfl | omega | (dsimp only [rm_law, rm_X2_teaOf]; omega)), (by first | exact Nat.le_of_ble_eq_true rfl | omega | (dsimp only [rm_law, rm_X2_teaOf]; omega))⟩) rfl rfl rfl (by decide) rfl (fun _ => rfl) (by first | exact Nat.le_of_ble_eq_true rfl | omega | (dsimp only [rm_law, rm_X2_teaOf]; omega)) (by first | exact Nat.le_of_ble_eq_true rfl | omega | (dsimp only [rm_law, rm_X2_teaOf]; omega)) (fun r_4 u2 H locs hp_3 hW => ?_)
    rcases hp_3 with ⟨h2, rfl, rfl⟩ | ⟨h2, rfl, rfl⟩
    · skip
      have hW : St κ A s.heap H _ (WX κ x a a2 ++ (WC κ a σ br ++ (WC κ a2 τ bt ++ (WM κ mm σ 0 kp ++ (WL κ o (vp_updL g 0 ((J (σ 1 (sx xs (4 * i + 1)).toNat)).toInt64))))))) := hW
      refine lv_istore (lv' := [(6, .int (J (σ 1 (sx xs (4 * i + 1)).toNat))), (5, .int (J 0)), (0, .ref b), (1, .ref x), (2, .ref (mm 0)), (3, .ref o), (4, .int (J (4 * (i : Int))))]) hx hb dL_law_791 hl (by decide) rfl (fun ls hl => ?_)
      refine lv_aload_n hx hb dL_law_793 rfl (lv_at hl 4 rfl) ?_
      refine fin_i (k := (k + 2)) (n := (n + 12)) (W2 := (fun _ => (WX κ x a a2 ++ (WC κ a σ br ++ (WC κ a2 τ bt ++ (WM κ mm σ 0 kp ++ (WL κ o (vp_updL g 0 ((J (σ 1 (sx xs (4 * i + 1)).toNat)).toInt64))))))))) [15, 16, 17, 18] [0, 1, 2, 3, 4, 5, 6, 7, 8, 9, 10, 11, 12, 13, 14, 19] [0, 1, 2, 3, 4, 5, 6, 7, 8, 9, 10, 11, 12, 13, 14, 16, 17, 18, 19, 15] hW hA (va_runV (As := []) (rest := []) F ((m_X2_thrown l κ mm σ 0 kp) _) (cwV 0 hts gL_law_X2_thrown rfl rfl rfl (by decide +kernel) ⟨(Nat.le_of_ble_eq_true rfl), (Nat.le_of_ble_eq_true rfl)⟩) (pre_V hK hW [15, 16, 17, 18] rfl (by decide) 2 15 rfl rfl) rfl rfl hl.1 rfl (lv_room (Nat.le_of_ble_eq_true rfl)) dL_law_794 ⟨(by first | exact Nat.le_of_ble_eq_true rfl | omega | (dsimp only [rm_law, rm_X2_thrown]; omega)), (by first | exact Nat.le_of_ble_eq_true rfl | omega | (dsimp only [rm_law, rm_X2_thrown]; omega))⟩) rfl rfl rfl (by decide) rfl (fun _ => rfl) (by first | exact Nat.le_of_ble_eq_true rfl | omega | (dsimp only [rm_law, rm_X2_thrown]; omega)) (by first | exact Nat.le_of_ble_eq_true rfl | omega | (dsimp only [rm_law, rm_X2_thrown]; omega)) (fun r_6 u H locs hp_5 hW => ?_)
      subst hp_5
      refine lv_iload hx hb dL_law_797 (lv_at hl 1 rfl) ?_
      refine lv_icmp_eq (tgt := 804) hx hb dL_law_799 (by decide) (fun _ => ?_) (fun h => absurd rfl h)
      refine lv_iload hx hb dL_law_804 (lv_at hl 1 rfl) ?_
      refine jv_if_ne hx hb 821 dL_law_806 (by decide) ⟨by omega, by omega⟩ (fun h => by exfalso; omega) (fun h => ?_)
      refine lv_aload_n hx hb dL_law_809 rfl (lv_at hl 5 rfl) ?_
      refine jv_iconst hx hb dL_law_810 ?_
      refine jv_lald (g := (vp_updL g 0 ((J (σ 1 (sx xs (4 * i + 1)).toNat)).toInt64))) hx hb hK hW 19 rfl dL_law_811 ?_
      refine lv_iload hx hb dL_law_812 (lv_at hl 0 rfl) ?_
      refine lv_i2l hx hb dL_law_814 rfl ?_
      refine jv_lcmp hx hb rfl dL_law_815 ?_
      refine jv_if_eq hx hb 821 dL_law_816 (by decide) ⟨by omega, by omega⟩ (fun h => ?_) (fun h => by exfalso; omega)
      refine lv_goto (tgt := 1521) hx hb dL_law_821 (by decide) ?_
      refine W.widen (k := k + 300) (n := n + 2000) (by omega) (by omega) ?_
      exact next σ τ br bt kp 0 (vp_updL g 0 ((J (σ 1 (sx xs (4 * i + 1)).toNat)).toInt64)) _ _ _ hI (by omega) (by omega) hW (lv_sub hl [2, 3, 4, 5, 6] rfl)
    · exact (h2 hv).elim
  · skip
    have hu := hu.symm
    subst hu
    have hW : St κ A s.heap H _ (WX κ x a a2 ++ (WC κ a σ br ++ (WC κ a2 τ bt ++ (WM κ mm σ th kp ++ (WL κ o g))))) := hW
    refine lv_istore (lv' := [(5, .int (J 1)), (0, .ref b), (1, .ref x), (2, .ref (mm 0)), (3, .ref o), (4, .int (J (4 * (i : Int))))]) hx hb dL_law_779 hl (by decide) rfl (fun ls hl => ?_)
    refine lv_aload_n hx hb dL_law_781 rfl (lv_at hl 3 rfl) ?_
    refine lv_aload_n hx hb dL_law_782 rfl (lv_at hl 1 rfl) ?_
    refine lv_iload hx hb dL_law_783 (lv_at hl 5 rfl) ?_
    refine jv_iconst hx hb dL_law_785 ?_
    refine jv_iadd hx hb dL_law_786 ?_
    refine js_ld (xs := xs) hx hb hX hbl hbA hW ((4 * i) + 1) (by omega) (by omega) hL dL_law_787 ?_
    refine fin_i (k := (k + 2)) (n := (n + 12)) (W2 := (fun u2 => (WX κ x a a2 ++ (WC κ a σ br ++ (WC κ a2 τ bt ++ (WM κ mm σ u2 kp ++ (WL κ o g))))))) [15, 16, 17, 18] [0, 1, 2, 3, 4, 5, 6, 7, 8, 9, 10, 11, 12, 13, 14, 19] [0, 1, 2, 3, 4, 5, 6, 7, 8, 9, 10, 11, 12, 13, 14, 16, 17, 18, 19, 15] hW hA (va_runV (As := [.int (J (sx xs ((4 * i) + 1)))]) (rest := []) F ((m_X2_teaOf l κ mm σ th kp (sx xs (4 * i + 1)) hz1 hI) _) (cwV 1 hts gL_law_X2_teaOf rfl rfl rfl (by decide +kernel) ⟨(Nat.le_of_ble_eq_true rfl), (Nat.le_of_ble_eq_true rfl)⟩) (pre_V hK hW [15, 16, 17, 18] rfl (by decide) 2 15 rfl rfl) rfl rfl hl.1 rfl (lv_room (Nat.le_of_ble_eq_true rfl)) dL_law_788 ⟨(by first | exact Nat.le_of_ble_eq_true rfl | omega | (dsimp only [rm_law, rm_X2_teaOf]; omega)), (by first | exact Nat.le_of_ble_eq_true rfl | omega | (dsimp only [rm_law, rm_X2_teaOf]; omega))⟩) rfl rfl rfl (by decide) rfl (fun _ => rfl) (by first | exact Nat.le_of_ble_eq_true rfl | omega | (dsimp only [rm_law, rm_X2_teaOf]; omega)) (by first | exact Nat.le_of_ble_eq_true rfl | omega | (dsimp only [rm_law, rm_X2_teaOf]; omega)) (fun r_8 u2 H locs hp_7 hW => ?_)
    rcases hp_7 with ⟨h2, rfl, rfl⟩ | ⟨h2, rfl, rfl⟩
    · exact (hv h2).elim
    · skip
      have hW : St κ A s.heap H _ (WX κ x a a2 ++ (WC κ a σ br ++ (WC κ a2 τ bt ++ (WM κ mm σ 1 kp ++ (WL κ o g))))) := hW
      refine lv_istore (lv' := [(6, .int (J 0)), (5, .int (J 1)), (0, .ref b), (1, .ref x), (2, .ref (mm 0)), (3, .ref o), (4, .int (J (4 * (i : Int))))]) hx hb dL_law_791 hl (by decide) rfl (fun ls hl => ?_)
      refine lv_aload_n hx hb dL_law_793 rfl (lv_at hl 4 rfl) ?_
      refine fin_i (k := (k + 2)) (n := (n + 12)) (W2 := (fun _ => (WX κ x a a2 ++ (WC κ a σ br ++ (WC κ a2 τ bt ++ (WM κ mm σ 1 kp ++ (WL κ o g))))))) [15, 16, 17, 18] [0, 1, 2, 3, 4, 5, 6, 7, 8, 9, 10, 11, 12, 13, 14, 19] [0, 1, 2, 3, 4, 5, 6, 7, 8, 9, 10, 11, 12, 13, 14, 16, 17, 18, 19, 15] hW hA (va_runV (As := []) (rest := []) F ((m_X2_thrown l κ mm σ 1 kp) _) (cwV 0 hts gL_law_X2_thrown rfl rfl rfl (by decide +kernel) ⟨(Nat.le_of_ble_eq_true rfl), (Nat.le_of_ble_eq_true rfl)⟩) (pre_V hK hW [15, 16, 17, 18] rfl (by decide) 2 15 rfl rfl) rfl rfl hl.1 rfl (lv_room (Nat.le_of_ble_eq_true rfl)) dL_law_794 ⟨(by first | exact Nat.le_of_ble_eq_true rfl | omega | (dsimp only [rm_law, rm_X2_thrown]; omega)), (by first | exact Nat.le_of_ble_eq_true rfl | omega | (dsimp only [rm_law, rm_X2_thrown]; omega))⟩) rfl rfl rfl (by decide) rfl (fun _ => rfl) (by first | exact Nat.le_of_ble_eq_true rfl | omega | (dsimp only [rm_law, rm_X2_thrown]; omega)) (by first | exact Nat.le_of_ble_eq_true rfl | omega | (dsimp only [rm_law, rm_X2_thrown]; omega)) (fun r_10 u H locs hp_9 hW => ?_)
      subst hp_9
      refine lv_iload hx hb dL_law_797 (lv_at hl 1 rfl) ?_
      refine lv_icmp_eq (tgt := 804) hx hb dL_law_799 (by decide) (fun _ => ?_) (fun h => absurd rfl h)
      refine lv_iload hx hb dL_law_804 (lv_at hl 1 rfl) ?_
      refine jv_if_ne hx hb 821 dL_law_806 (by decide) ⟨by omega, by omega⟩ (fun h => ?_) (fun h => by exfalso; omega)
      refine lv_goto (tgt := 1521) hx hb dL_law_821 (by decide) ?_
      refine W.widen (k := k + 300) (n := n + 2000) (by omega) (by omega) ?_
      exact next σ τ br bt kp 1 g _ _ _ hI (by omega) (by omega) hW (lv_sub hl [2, 3, 4, 5, 6] rfl)

set_option maxHeartbeats 4000000 in
set_option maxRecDepth 100000 in
/-- the law: c11 -/
theorem law_c11 {P : Program} {l : Launch} {e : Env} {s : State} {m : MethodId} {below : List Frame} {meth : Method} {c : Code} {Q : State → Prop} {b L : Nat} {xs : Nat → Int32} {κ : Kp} {A : Nat → Prop} {x o : Nat} {a a2 mm : Nat → Nat} (hstk : l.stackTraces = false) (F : CallFix P m c cL_law 9 s #[Value.ref b] wsL_law RL) (hK : Kx κ s) (hT : Tk A s s.heap) (hN9 : Ncx s) (hA : ∀ q, s.heap.size ≤ q → A q) (hX : va_X b L xs s s.heap) (hbl : b < s.heap.size) (hbA : ¬ A b) (hL : L ≤ 2048) {i : Nat} (hi : 4 * i + 4 ≤ L) {k n : Nat} (hk : k + 300 ≤ 601024) (hn : n + 2000 ≤ 7293034) {σ τ : Sg} {br bt kp : Nat → Int} {th : Int} {g : Nat → Int64} (hI : Inv σ) (hB0 : σ 5 0 ≤ 60 * (i : Int)) (hC0 : σ 5 1 ≤ 60 * (i : Int))
    (next : LNext P l e s m below meth c Q κ A b x o a a2 mm i k n) {H : Heap} {locs : List Loc} {ls : Array Slot} (hW : St κ A s.heap H locs (WB κ x a a2 mm o σ τ br bt kp th g)) (hl : lv_has ls 9 (LLoc b x o mm i)) : W P l e rm_law s m #[Value.ref b] below meth c H locs k n Q (F0 m 824 ls []) := by
  obtain ⟨hx, hb, hml, hown, hts⟩ := id F
  have hN := hI.hN
  have hN10 := hI.n10
  have hB : σ 5 0 ≤ 100000000 := by omega
  have hC : σ 5 1 ≤ 100000000 := by omega
  have hz1 := sx_in xs (4 * i + 1)
  have hz2 := sx_in xs (4 * i + 2)
  have hz3 := sx_in xs (4 * i + 3)
  refine lv_aload_n hx hb dL_law_824 rfl (lv_at hl 1 rfl) ?_
  refine lv_aload_n hx hb dL_law_825 rfl (lv_at hl 0 rfl) ?_
  refine lv_iload hx hb dL_law_826 (lv_at hl 4 rfl) ?_
  refine jv_iconst hx hb dL_law_828 ?_
  refine jv_iadd hx hb dL_law_829 ?_
  refine js_ld (xs := xs) hx hb hX hbl hbA hW ((4 * i) + 1) (by omega) (by omega) hL dL_law_830 ?_
  refine lv_aload_n hx hb dL_law_831 rfl (lv_at hl 3 rfl) ?_
  refine fint_i (k := (k + 2)) (n := (n + 12)) (W2 := (fun uu => (WX κ x a a2 ++ (WC κ a σ br ++ (WC κ a2 τ bt ++ (WM κ mm σ th kp ++ (WL κ o uu))))))) [0, 1, 2, 3, 4, 5, 6, 7, 19] [8, 9, 10, 11, 12, 13, 14, 15, 16, 17, 18] [11, 12, 13, 14, 15, 16, 17, 18, 0, 1, 2, 3, 4, 5, 6, 7, 8, 9, 10, 19] hW hA (vx_runSX (As := [.ref x, .int (J (sx xs ((4 * i) + 1))), .ref o]) (rest := []) F ((m_L_crackOf l κ hstk x a a2 σ br o g (sx xs (4 * i + 1)) hz1 hI) _) (vx_cwSW 3 hts gL_law_L_crackOf rfl rfl rfl (by decide +kernel) ⟨(Nat.le_of_ble_eq_true rfl), (Nat.le_of_ble_eq_true rfl)⟩) (pre_SL hN9 hK hT hW hA [0, 1, 2, 3, 4, 5, 6, 7, 19] rfl (by decide)) rfl rfl hl.1 rfl (lv_room (Nat.le_of_ble_eq_true rfl)) dL_law_832 ⟨(by first | exact Nat.le_of_ble_eq_true rfl | omega | (dsimp only [rm_law, rm_L_crackOf]; omega)), (by first | exact Nat.le_of_ble_eq_true rfl | omega | (dsimp only [rm_law, rm_L_crackOf]; omega))⟩) rfl rfl rfl (by decide) rfl (fun _ => rfl) rfl (by first | exact Nat.le_of_ble_eq_true rfl | omega | (dsimp only [rm_law, rm_L_crackOf]; omega)) (by first | exact Nat.le_of_ble_eq_true rfl | omega | (dsimp only [rm_law, rm_L_crackOf]; omega)) (fun E ce q9 H locs hX hW g1 g2 g3 => False.elim hX) (fun r_2 uu H locs hp_1 hW => ?_)
  rcases hp_1 with ⟨hv, rfl, rfl⟩ | ⟨hv, rfl, hu⟩
  · skip
    have hW : St κ A s.heap H _ (WX κ x a a2 ++ (WC κ a σ br ++ (WC κ a2 τ bt ++ (WM κ mm σ th kp ++ (WL κ o (vp_updL g 0 ((J (σ 2 (sx xs (4 * i + 1)).toNat)).toInt64))))))) := hW
    refine lv_istore (lv' := [(5, .int (J 0)), (0, .ref b), (1, .ref x), (2, .ref (mm 0)), (3, .ref o), (4, .int (J (4 * (i : Int))))]) hx hb dL_law_835 hl (by decide) rfl (fun ls hl => ?_)
    refine lv_aload_n hx hb dL_law_837 rfl (lv_at hl 3 rfl) ?_
    refine lv_aload_n hx hb dL_law_838 rfl (lv_at hl 1 rfl) ?_
    refine lv_iload hx hb dL_law_839 (lv_at hl 5 rfl) ?_
    refine jv_iconst hx hb dL_law_841 ?_
    refine jv_iadd hx hb dL_law_842 ?_
    refine js_ld (xs := xs) hx hb hX hbl hbA hW ((4 * i) + 1) (by omega) (by omega) hL dL_law_843 ?_
    refine fin_i (k := (k + 2)) (n := (n + 12)) (W2 := (fun u2 => (WX κ x a a2 ++ (WC κ a σ br ++ (WC κ a2 τ bt ++ (WM κ mm σ u2 kp ++ (WL κ o (vp_updL g 0 ((J (σ 2 (sx xs (4 * i + 1)).toNat)).toInt64))))))))) [15, 16, 17, 18] [0, 1, 2, 3, 4, 5, 6, 7, 8, 9, 10, 11, 12, 13, 14, 19] [0, 1, 2, 3, 4, 5, 6, 7, 8, 9, 10, 11, 12, 13, 14, 16, 17, 18, 19, 15] hW hA (va_runV (As := [.int (J (sx xs ((4 * i) + 1)))]) (rest := []) F ((m_X2_crackOf l κ mm σ th kp (sx xs (4 * i + 1)) hz1 hI) _) (cwV 1 hts gL_law_X2_crackOf rfl rfl rfl (by decide +kernel) ⟨(Nat.le_of_ble_eq_true rfl), (Nat.le_of_ble_eq_true rfl)⟩) (pre_V hK hW [15, 16, 17, 18] rfl (by decide) 2 15 rfl rfl) rfl rfl hl.1 rfl (lv_room (Nat.le_of_ble_eq_true rfl)) dL_law_844 ⟨(by first | exact Nat.le_of_ble_eq_true rfl | omega | (dsimp only [rm_law, rm_X2_crackOf]; omega)), (by first | exact Nat.le_of_ble_eq_true rfl | omega | (dsimp only [rm_law, rm_X2_crackOf]; omega))⟩) rfl rfl rfl (by decide) rfl (fun _ => rfl) (by first | exact Nat.le_of_ble_eq_true rfl | omega | (dsimp only [rm_law, rm_X2_crackOf]; omega)) (by first | exact Nat.le_of_ble_eq_true rfl | omega | (dsimp only [rm_law, rm_X2_crackOf]; omega)) (fun r_4 u2 H locs hp_3 hW => ?_)
    rcases hp_3 with ⟨h2, rfl, rfl⟩ | ⟨h2, rfl, rfl⟩
    · skip
      have hW : St κ A s.heap H _ (WX κ x a a2 ++ (WC κ a σ br ++ (WC κ a2 τ bt ++ (WM κ mm σ 0 kp ++ (WL κ o (vp_updL g 0 ((J (σ 2 (sx xs (4 * i + 1)).toNat)).toInt64))))))) := hW
      refine lv_istore (lv' := [(6, .int (J (σ 2 (sx xs (4 * i + 1)).toNat))), (5, .int (J 0)), (0, .ref b), (1, .ref x), (2, .ref (mm 0)), (3, .ref o), (4, .int (J (4 * (i : Int))))]) hx hb dL_law_847 hl (by decide) rfl (fun ls hl => ?_)
      refine lv_aload_n hx hb dL_law_849 rfl (lv_at hl 4 rfl) ?_
      refine fin_i (k := (k + 2)) (n := (n + 12)) (W2 := (fun _ => (WX κ x a a2 ++ (WC κ a σ br ++ (WC κ a2 τ bt ++ (WM κ mm σ 0 kp ++ (WL κ o (vp_updL g 0 ((J (σ 2 (sx xs (4 * i + 1)).toNat)).toInt64))))))))) [15, 16, 17, 18] [0, 1, 2, 3, 4, 5, 6, 7, 8, 9, 10, 11, 12, 13, 14, 19] [0, 1, 2, 3, 4, 5, 6, 7, 8, 9, 10, 11, 12, 13, 14, 16, 17, 18, 19, 15] hW hA (va_runV (As := []) (rest := []) F ((m_X2_thrown l κ mm σ 0 kp) _) (cwV 0 hts gL_law_X2_thrown rfl rfl rfl (by decide +kernel) ⟨(Nat.le_of_ble_eq_true rfl), (Nat.le_of_ble_eq_true rfl)⟩) (pre_V hK hW [15, 16, 17, 18] rfl (by decide) 2 15 rfl rfl) rfl rfl hl.1 rfl (lv_room (Nat.le_of_ble_eq_true rfl)) dL_law_850 ⟨(by first | exact Nat.le_of_ble_eq_true rfl | omega | (dsimp only [rm_law, rm_X2_thrown]; omega)), (by first | exact Nat.le_of_ble_eq_true rfl | omega | (dsimp only [rm_law, rm_X2_thrown]; omega))⟩) rfl rfl rfl (by decide) rfl (fun _ => rfl) (by first | exact Nat.le_of_ble_eq_true rfl | omega | (dsimp only [rm_law, rm_X2_thrown]; omega)) (by first | exact Nat.le_of_ble_eq_true rfl | omega | (dsimp only [rm_law, rm_X2_thrown]; omega)) (fun r_6 u H locs hp_5 hW => ?_)
      subst hp_5
      refine lv_iload hx hb dL_law_853 (lv_at hl 1 rfl) ?_
      refine lv_icmp_eq (tgt := 860) hx hb dL_law_855 (by decide) (fun _ => ?_) (fun h => absurd rfl h)
      refine lv_iload hx hb dL_law_860 (lv_at hl 1 rfl) ?_
      refine jv_if_ne hx hb 877 dL_law_862 (by decide) ⟨by omega, by omega⟩ (fun h => by exfalso; omega) (fun h => ?_)
      refine lv_aload_n hx hb dL_law_865 rfl (lv_at hl 5 rfl) ?_
      refine jv_iconst hx hb dL_law_866 ?_
      refine jv_lald (g := (vp_updL g 0 ((J (σ 2 (sx xs (4 * i + 1)).toNat)).toInt64))) hx hb hK hW 19 rfl dL_law_867 ?_
      refine lv_iload hx hb dL_law_868 (lv_at hl 0 rfl) ?_
      refine lv_i2l hx hb dL_law_870 rfl ?_
      refine jv_lcmp hx hb rfl dL_law_871 ?_
      refine jv_if_eq hx hb 877 dL_law_872 (by decide) ⟨by omega, by omega⟩ (fun h => ?_) (fun h => by exfalso; omega)
      refine lv_goto (tgt := 1521) hx hb dL_law_877 (by decide) ?_
      refine W.widen (k := k + 300) (n := n + 2000) (by omega) (by omega) ?_
      exact next σ τ br bt kp 0 (vp_updL g 0 ((J (σ 2 (sx xs (4 * i + 1)).toNat)).toInt64)) _ _ _ hI (by omega) (by omega) hW (lv_sub hl [2, 3, 4, 5, 6] rfl)
    · exact (h2 hv).elim
  · skip
    have hu := hu.symm
    subst hu
    have hW : St κ A s.heap H _ (WX κ x a a2 ++ (WC κ a σ br ++ (WC κ a2 τ bt ++ (WM κ mm σ th kp ++ (WL κ o g))))) := hW
    refine lv_istore (lv' := [(5, .int (J 1)), (0, .ref b), (1, .ref x), (2, .ref (mm 0)), (3, .ref o), (4, .int (J (4 * (i : Int))))]) hx hb dL_law_835 hl (by decide) rfl (fun ls hl => ?_)
    refine lv_aload_n hx hb dL_law_837 rfl (lv_at hl 3 rfl) ?_
    refine lv_aload_n hx hb dL_law_838 rfl (lv_at hl 1 rfl) ?_
    refine lv_iload hx hb dL_law_839 (lv_at hl 5 rfl) ?_
    refine jv_iconst hx hb dL_law_841 ?_
    refine jv_iadd hx hb dL_law_842 ?_
    refine js_ld (xs := xs) hx hb hX hbl hbA hW ((4 * i) + 1) (by omega) (by omega) hL dL_law_843 ?_
    refine fin_i (k := (k + 2)) (n := (n + 12)) (W2 := (fun u2 => (WX κ x a a2 ++ (WC κ a σ br ++ (WC κ a2 τ bt ++ (WM κ mm σ u2 kp ++ (WL κ o g))))))) [15, 16, 17, 18] [0, 1, 2, 3, 4, 5, 6, 7, 8, 9, 10, 11, 12, 13, 14, 19] [0, 1, 2, 3, 4, 5, 6, 7, 8, 9, 10, 11, 12, 13, 14, 16, 17, 18, 19, 15] hW hA (va_runV (As := [.int (J (sx xs ((4 * i) + 1)))]) (rest := []) F ((m_X2_crackOf l κ mm σ th kp (sx xs (4 * i + 1)) hz1 hI) _) (cwV 1 hts gL_law_X2_crackOf rfl rfl rfl (by decide +kernel) ⟨(Nat.le_of_ble_eq_true rfl), (Nat.le_of_ble_eq_true rfl)⟩) (pre_V hK hW [15, 16, 17, 18] rfl (by decide) 2 15 rfl rfl) rfl rfl hl.1 rfl (lv_room (Nat.le_of_ble_eq_true rfl)) dL_law_844 ⟨(by first | exact Nat.le_of_ble_eq_true rfl | omega | (dsimp only [rm_law, rm_X2_crackOf]; omega)), (by first | exact Nat.le_of_ble_eq_true rfl | omega | (dsimp only [rm_law, rm_X2_crackOf]; omega))⟩) rfl rfl rfl (by decide) rfl (fun _ => rfl) (by first | exact Nat.le_of_ble_eq_true rfl | omega | (dsimp only [rm_law, rm_X2_crackOf]; omega)) (by first | exact Nat.le_of_ble_eq_true rfl | omega | (dsimp only [rm_law, rm_X2_crackOf]; omega)) (fun r_8 u2 H locs hp_7 hW => ?_)
    rcases hp_7 with ⟨h2, rfl, rfl⟩ | ⟨h2, rfl, rfl⟩
    · exact (hv h2).elim
    · skip
      have hW : St κ A s.heap H _ (WX κ x a a2 ++ (WC κ a σ br ++ (WC κ a2 τ bt ++ (WM κ mm σ 1 kp ++ (WL κ o g))))) := hW
      refine lv_istore (lv' := [(6, .int (J 0)), (5, .int (J 1)), (0, .ref b), (1, .ref x), (2, .ref (mm 0)), (3, .ref o), (4, .int (J (4 * (i : Int))))]) hx hb dL_law_847 hl (by decide) rfl (fun ls hl => ?_)
      refine lv_aload_n hx hb dL_law_849 rfl (lv_at hl 4 rfl) ?_
      refine fin_i (k := (k + 2)) (n := (n + 12)) (W2 := (fun _ => (WX κ x a a2 ++ (WC κ a σ br ++ (WC κ a2 τ bt ++ (WM κ mm σ 1 kp ++ (WL κ o g))))))) [15, 16, 17, 18] [0, 1, 2, 3, 4, 5, 6, 7, 8, 9, 10, 11, 12, 13, 14, 19] [0, 1, 2, 3, 4, 5, 6, 7, 8, 9, 10, 11, 12, 13, 14, 16, 17, 18, 19, 15] hW hA (va_runV (As := []) (rest := []) F ((m_X2_thrown l κ mm σ 1 kp) _) (cwV 0 hts gL_law_X2_thrown rfl rfl rfl (by decide +kernel) ⟨(Nat.le_of_ble_eq_true rfl), (Nat.le_of_ble_eq_true rfl)⟩) (pre_V hK hW [15, 16, 17, 18] rfl (by decide) 2 15 rfl rfl) rfl rfl hl.1 rfl (lv_room (Nat.le_of_ble_eq_true rfl)) dL_law_850 ⟨(by first | exact Nat.le_of_ble_eq_true rfl | omega | (dsimp only [rm_law, rm_X2_thrown]; omega)), (by first | exact Nat.le_of_ble_eq_true rfl | omega | (dsimp only [rm_law, rm_X2_thrown]; omega))⟩) rfl rfl rfl (by decide) rfl (fun _ => rfl) (by first | exact Nat.le_of_ble_eq_true rfl | omega | (dsimp only [rm_law, rm_X2_thrown]; omega)) (by first | exact Nat.le_of_ble_eq_true rfl | omega | (dsimp only [rm_law, rm_X2_thrown]; omega)) (fun r_10 u H locs hp_9 hW => ?_)
      subst hp_9
      refine lv_iload hx hb dL_law_853 (lv_at hl 1 rfl) ?_
      refine lv_icmp_eq (tgt := 860) hx hb dL_law_855 (by decide) (fun _ => ?_) (fun h => absurd rfl h)
      refine lv_iload hx hb dL_law_860 (lv_at hl 1 rfl) ?_
      refine jv_if_ne hx hb 877 dL_law_862 (by decide) ⟨by omega, by omega⟩ (fun h => ?_) (fun h => by exfalso; omega)
      refine lv_goto (tgt := 1521) hx hb dL_law_877 (by decide) ?_
      refine W.widen (k := k + 300) (n := n + 2000) (by omega) (by omega) ?_
      exact next σ τ br bt kp 1 g _ _ _ hI (by omega) (by omega) hW (lv_sub hl [2, 3, 4, 5, 6] rfl)

set_option maxHeartbeats 4000000 in
set_option maxRecDepth 100000 in
/-- the law: c13 -/
theorem law_c13 {P : Program} {l : Launch} {e : Env} {s : State} {m : MethodId} {below : List Frame} {meth : Method} {c : Code} {Q : State → Prop} {b L : Nat} {xs : Nat → Int32} {κ : Kp} {A : Nat → Prop} {x o : Nat} {a a2 mm : Nat → Nat} (hstk : l.stackTraces = false) (F : CallFix P m c cL_law 9 s #[Value.ref b] wsL_law RL) (hK : Kx κ s) (hT : Tk A s s.heap) (hN9 : Ncx s) (hA : ∀ q, s.heap.size ≤ q → A q) (hX : va_X b L xs s s.heap) (hbl : b < s.heap.size) (hbA : ¬ A b) (hL : L ≤ 2048) {i : Nat} (hi : 4 * i + 4 ≤ L) {k n : Nat} (hk : k + 300 ≤ 601024) (hn : n + 2000 ≤ 7293034) {σ τ : Sg} {br bt kp : Nat → Int} {th : Int} {g : Nat → Int64} (hI : Inv σ) (hB0 : σ 5 0 ≤ 60 * (i : Int)) (hC0 : σ 5 1 ≤ 60 * (i : Int))
    (next : LNext P l e s m below meth c Q κ A b x o a a2 mm i k n) {H : Heap} {locs : List Loc} {ls : Array Slot} (hW : St κ A s.heap H locs (WB κ x a a2 mm o σ τ br bt kp th g)) (hl : lv_has ls 9 (LLoc b x o mm i)) : W P l e rm_law s m #[Value.ref b] below meth c H locs k n Q (F0 m 943 ls []) := by
  obtain ⟨hx, hb, hml, hown, hts⟩ := id F
  have hN := hI.hN
  have hN10 := hI.n10
  have hB : σ 5 0 ≤ 100000000 := by omega
  have hC : σ 5 1 ≤ 100000000 := by omega
  have hz1 := sx_in xs (4 * i + 1)
  have hz2 := sx_in xs (4 * i + 2)
  have hz3 := sx_in xs (4 * i + 3)
  refine lv_aload_n hx hb dL_law_943 rfl (lv_at hl 1 rfl) ?_
  refine lv_aload_n hx hb dL_law_944 rfl (lv_at hl 0 rfl) ?_
  refine lv_iload hx hb dL_law_945 (lv_at hl 4 rfl) ?_
  refine jv_iconst hx hb dL_law_947 ?_
  refine jv_iadd hx hb dL_law_948 ?_
  refine js_ld (xs := xs) hx hb hX hbl hbA hW ((4 * i) + 1) (by omega) (by omega) hL dL_law_949 ?_
  refine lv_aload_n hx hb dL_law_950 rfl (lv_at hl 3 rfl) ?_
  refine fint_i (k := (k + 1)) (n := (n + 6)) (W2 := (fun uu => (WX κ x a a2 ++ (WC κ a σ br ++ (WC κ a2 τ bt ++ (WM κ mm σ th kp ++ (WL κ o uu))))))) [0, 1, 2, 3, 4, 5, 6, 7, 19] [8, 9, 10, 11, 12, 13, 14, 15, 16, 17, 18] [11, 12, 13, 14, 15, 16, 17, 18, 0, 1, 2, 3, 4, 5, 6, 7, 8, 9, 10, 19] hW hA (vx_runSX (As := [.ref x, .int (J (sx xs ((4 * i) + 1))), .ref o]) (rest := []) F ((m_L_soundingOf l κ hstk x a a2 σ br o g (sx xs (4 * i + 1)) hz1 hI) _) (vx_cwSW 3 hts gL_law_L_soundingOf rfl rfl rfl (by decide +kernel) ⟨(Nat.le_of_ble_eq_true rfl), (Nat.le_of_ble_eq_true rfl)⟩) (pre_SL hN9 hK hT hW hA [0, 1, 2, 3, 4, 5, 6, 7, 19] rfl (by decide)) rfl rfl hl.1 rfl (lv_room (Nat.le_of_ble_eq_true rfl)) dL_law_951 ⟨(by first | exact Nat.le_of_ble_eq_true rfl | omega | (dsimp only [rm_law, rm_L_soundingOf]; omega)), (by first | exact Nat.le_of_ble_eq_true rfl | omega | (dsimp only [rm_law, rm_L_soundingOf]; omega))⟩) rfl rfl rfl (by decide) rfl (fun _ => rfl) rfl (by first | exact Nat.le_of_ble_eq_true rfl | omega | (dsimp only [rm_law, rm_L_soundingOf]; omega)) (by first | exact Nat.le_of_ble_eq_true rfl | omega | (dsimp only [rm_law, rm_L_soundingOf]; omega)) (fun E ce q9 H locs hX hW g1 g2 g3 => False.elim hX) (fun r_2 uu H locs hp_1 hW => ?_)
  rcases hp_1 with ⟨hv, rfl, rfl⟩ | ⟨hv, rfl, hu⟩
  · skip
    have hW : St κ A s.heap H _ (WX κ x a a2 ++ (WC κ a σ br ++ (WC κ a2 τ bt ++ (WM κ mm σ th kp ++ (WL κ o (vp_updL g 0 ((J (fb_ct (snp σ (sx xs (4 * i + 1))) (nn σ) : Int)).toInt64))))))) := hW
    refine lv_istore (lv' := [(5, .int (J 0)), (0, .ref b), (1, .ref x), (2, .ref (mm 0)), (3, .ref o), (4, .int (J (4 * (i : Int))))]) hx hb dL_law_954 hl (by decide) rfl (fun ls hl => ?_)
    refine lv_aload_n hx hb dL_law_956 rfl (lv_at hl 3 rfl) ?_
    refine lv_aload_n hx hb dL_law_957 rfl (lv_at hl 1 rfl) ?_
    refine lv_iload hx hb dL_law_958 (lv_at hl 5 rfl) ?_
    refine jv_iconst hx hb dL_law_960 ?_
    refine jv_iadd hx hb dL_law_961 ?_
    refine js_ld (xs := xs) hx hb hX hbl hbA hW ((4 * i) + 1) (by omega) (by omega) hL dL_law_962 ?_
    refine fin_i (k := (k + 1)) (n := (n + 6)) (W2 := (fun u2 => (WX κ x a a2 ++ (WC κ a σ br ++ (WC κ a2 τ bt ++ (WM κ mm σ u2 kp ++ (WL κ o (vp_updL g 0 ((J (fb_ct (snp σ (sx xs (4 * i + 1))) (nn σ) : Int)).toInt64))))))))) [15, 16, 17, 18] [0, 1, 2, 3, 4, 5, 6, 7, 8, 9, 10, 11, 12, 13, 14, 19] [0, 1, 2, 3, 4, 5, 6, 7, 8, 9, 10, 11, 12, 13, 14, 16, 17, 18, 19, 15] hW hA (va_runV (As := [.int (J (sx xs ((4 * i) + 1)))]) (rest := []) F ((m_X2_soundingOf l κ mm σ th kp (sx xs (4 * i + 1)) hz1 hI) _) (cwV 1 hts gL_law_X2_soundingOf rfl rfl rfl (by decide +kernel) ⟨(Nat.le_of_ble_eq_true rfl), (Nat.le_of_ble_eq_true rfl)⟩) (pre_V hK hW [15, 16, 17, 18] rfl (by decide) 2 15 rfl rfl) rfl rfl hl.1 rfl (lv_room (Nat.le_of_ble_eq_true rfl)) dL_law_963 ⟨(by first | exact Nat.le_of_ble_eq_true rfl | omega | (dsimp only [rm_law, rm_X2_soundingOf]; omega)), (by first | exact Nat.le_of_ble_eq_true rfl | omega | (dsimp only [rm_law, rm_X2_soundingOf]; omega))⟩) rfl rfl rfl (by decide) rfl (fun _ => rfl) (by first | exact Nat.le_of_ble_eq_true rfl | omega | (dsimp only [rm_law, rm_X2_soundingOf]; omega)) (by first | exact Nat.le_of_ble_eq_true rfl | omega | (dsimp only [rm_law, rm_X2_soundingOf]; omega)) (fun r_4 u2 H locs hp_3 hW => ?_)
    rcases hp_3 with ⟨h2, rfl, rfl⟩ | ⟨h2, rfl, rfl⟩
    · skip
      have hW : St κ A s.heap H _ (WX κ x a a2 ++ (WC κ a σ br ++ (WC κ a2 τ bt ++ (WM κ mm σ 0 kp ++ (WL κ o (vp_updL g 0 ((J (fb_ct (snp σ (sx xs (4 * i + 1))) (nn σ) : Int)).toInt64))))))) := hW
      refine lv_istore (lv' := [(6, .int (J (fb_ct (snp σ (sx xs (4 * i + 1))) (nn σ) : Int))), (5, .int (J 0)), (0, .ref b), (1, .ref x), (2, .ref (mm 0)), (3, .ref o), (4, .int (J (4 * (i : Int))))]) hx hb dL_law_966 hl (by decide) rfl (fun ls hl => ?_)
      refine lv_aload_n hx hb dL_law_968 rfl (lv_at hl 4 rfl) ?_
      refine fin_i (k := (k + 1)) (n := (n + 6)) (W2 := (fun _ => (WX κ x a a2 ++ (WC κ a σ br ++ (WC κ a2 τ bt ++ (WM κ mm σ 0 kp ++ (WL κ o (vp_updL g 0 ((J (fb_ct (snp σ (sx xs (4 * i + 1))) (nn σ) : Int)).toInt64))))))))) [15, 16, 17, 18] [0, 1, 2, 3, 4, 5, 6, 7, 8, 9, 10, 11, 12, 13, 14, 19] [0, 1, 2, 3, 4, 5, 6, 7, 8, 9, 10, 11, 12, 13, 14, 16, 17, 18, 19, 15] hW hA (va_runV (As := []) (rest := []) F ((m_X2_thrown l κ mm σ 0 kp) _) (cwV 0 hts gL_law_X2_thrown rfl rfl rfl (by decide +kernel) ⟨(Nat.le_of_ble_eq_true rfl), (Nat.le_of_ble_eq_true rfl)⟩) (pre_V hK hW [15, 16, 17, 18] rfl (by decide) 2 15 rfl rfl) rfl rfl hl.1 rfl (lv_room (Nat.le_of_ble_eq_true rfl)) dL_law_969 ⟨(by first | exact Nat.le_of_ble_eq_true rfl | omega | (dsimp only [rm_law, rm_X2_thrown]; omega)), (by first | exact Nat.le_of_ble_eq_true rfl | omega | (dsimp only [rm_law, rm_X2_thrown]; omega))⟩) rfl rfl rfl (by decide) rfl (fun _ => rfl) (by first | exact Nat.le_of_ble_eq_true rfl | omega | (dsimp only [rm_law, rm_X2_thrown]; omega)) (by first | exact Nat.le_of_ble_eq_true rfl | omega | (dsimp only [rm_law, rm_X2_thrown]; omega)) (fun r_6 u H locs hp_5 hW => ?_)
      subst hp_5
      refine lv_iload hx hb dL_law_972 (lv_at hl 1 rfl) ?_
      refine lv_icmp_eq (tgt := 979) hx hb dL_law_974 (by decide) (fun _ => ?_) (fun h => absurd rfl h)
      refine lv_iload hx hb dL_law_979 (lv_at hl 1 rfl) ?_
      refine jv_if_ne hx hb 996 dL_law_981 (by decide) ⟨by omega, by omega⟩ (fun h => by exfalso; omega) (fun h => ?_)
      refine lv_aload_n hx hb dL_law_984 rfl (lv_at hl 5 rfl) ?_
      refine jv_iconst hx hb dL_law_985 ?_
      refine jv_lald (g := (vp_updL g 0 ((J (fb_ct (snp σ (sx xs (4 * i + 1))) (nn σ) : Int)).toInt64))) hx hb hK hW 19 rfl dL_law_986 ?_
      refine lv_iload hx hb dL_law_987 (lv_at hl 0 rfl) ?_
      refine lv_i2l hx hb dL_law_989 rfl ?_
      refine jv_lcmp hx hb rfl dL_law_990 ?_
      refine jv_if_eq hx hb 996 dL_law_991 (by decide) ⟨by omega, by omega⟩ (fun h => ?_) (fun h => by exfalso; omega)
      refine lv_goto (tgt := 1521) hx hb dL_law_996 (by decide) ?_
      refine W.widen (k := k + 300) (n := n + 2000) (by omega) (by omega) ?_
      exact next σ τ br bt kp 0 (vp_updL g 0 ((J (fb_ct (snp σ (sx xs (4 * i + 1))) (nn σ) : Int)).toInt64)) _ _ _ hI (by omega) (by omega) hW (lv_sub hl [2, 3, 4, 5, 6] rfl)
    · exact (h2 hv).elim
  · skip
    have hu := hu.symm
    subst hu
    have hW : St κ A s.heap H _ (WX κ x a a2 ++ (WC κ a σ br ++ (WC κ a2 τ bt ++ (WM κ mm σ th kp ++ (WL κ o g))))) := hW
    refine lv_istore (lv' := [(5, .int (J 1)), (0, .ref b), (1, .ref x), (2, .ref (mm 0)), (3, .ref o), (4, .int (J (4 * (i : Int))))]) hx hb dL_law_954 hl (by decide) rfl (fun ls hl => ?_)
    refine lv_aload_n hx hb dL_law_956 rfl (lv_at hl 3 rfl) ?_
    refine lv_aload_n hx hb dL_law_957 rfl (lv_at hl 1 rfl) ?_
    refine lv_iload hx hb dL_law_958 (lv_at hl 5 rfl) ?_
    refine jv_iconst hx hb dL_law_960 ?_
    refine jv_iadd hx hb dL_law_961 ?_
    refine js_ld (xs := xs) hx hb hX hbl hbA hW ((4 * i) + 1) (by omega) (by omega) hL dL_law_962 ?_
    refine fin_i (k := (k + 1)) (n := (n + 6)) (W2 := (fun u2 => (WX κ x a a2 ++ (WC κ a σ br ++ (WC κ a2 τ bt ++ (WM κ mm σ u2 kp ++ (WL κ o g))))))) [15, 16, 17, 18] [0, 1, 2, 3, 4, 5, 6, 7, 8, 9, 10, 11, 12, 13, 14, 19] [0, 1, 2, 3, 4, 5, 6, 7, 8, 9, 10, 11, 12, 13, 14, 16, 17, 18, 19, 15] hW hA (va_runV (As := [.int (J (sx xs ((4 * i) + 1)))]) (rest := []) F ((m_X2_soundingOf l κ mm σ th kp (sx xs (4 * i + 1)) hz1 hI) _) (cwV 1 hts gL_law_X2_soundingOf rfl rfl rfl (by decide +kernel) ⟨(Nat.le_of_ble_eq_true rfl), (Nat.le_of_ble_eq_true rfl)⟩) (pre_V hK hW [15, 16, 17, 18] rfl (by decide) 2 15 rfl rfl) rfl rfl hl.1 rfl (lv_room (Nat.le_of_ble_eq_true rfl)) dL_law_963 ⟨(by first | exact Nat.le_of_ble_eq_true rfl | omega | (dsimp only [rm_law, rm_X2_soundingOf]; omega)), (by first | exact Nat.le_of_ble_eq_true rfl | omega | (dsimp only [rm_law, rm_X2_soundingOf]; omega))⟩) rfl rfl rfl (by decide) rfl (fun _ => rfl) (by first | exact Nat.le_of_ble_eq_true rfl | omega | (dsimp only [rm_law, rm_X2_soundingOf]; omega)) (by first | exact Nat.le_of_ble_eq_true rfl | omega | (dsimp only [rm_law, rm_X2_soundingOf]; omega)) (fun r_8 u2 H locs hp_7 hW => ?_)
    rcases hp_7 with ⟨h2, rfl, rfl⟩ | ⟨h2, rfl, rfl⟩
    · exact (hv h2).elim
    · skip
      have hW : St κ A s.heap H _ (WX κ x a a2 ++ (WC κ a σ br ++ (WC κ a2 τ bt ++ (WM κ mm σ 1 kp ++ (WL κ o g))))) := hW
      refine lv_istore (lv' := [(6, .int (J 0)), (5, .int (J 1)), (0, .ref b), (1, .ref x), (2, .ref (mm 0)), (3, .ref o), (4, .int (J (4 * (i : Int))))]) hx hb dL_law_966 hl (by decide) rfl (fun ls hl => ?_)
      refine lv_aload_n hx hb dL_law_968 rfl (lv_at hl 4 rfl) ?_
      refine fin_i (k := (k + 1)) (n := (n + 6)) (W2 := (fun _ => (WX κ x a a2 ++ (WC κ a σ br ++ (WC κ a2 τ bt ++ (WM κ mm σ 1 kp ++ (WL κ o g))))))) [15, 16, 17, 18] [0, 1, 2, 3, 4, 5, 6, 7, 8, 9, 10, 11, 12, 13, 14, 19] [0, 1, 2, 3, 4, 5, 6, 7, 8, 9, 10, 11, 12, 13, 14, 16, 17, 18, 19, 15] hW hA (va_runV (As := []) (rest := []) F ((m_X2_thrown l κ mm σ 1 kp) _) (cwV 0 hts gL_law_X2_thrown rfl rfl rfl (by decide +kernel) ⟨(Nat.le_of_ble_eq_true rfl), (Nat.le_of_ble_eq_true rfl)⟩) (pre_V hK hW [15, 16, 17, 18] rfl (by decide) 2 15 rfl rfl) rfl rfl hl.1 rfl (lv_room (Nat.le_of_ble_eq_true rfl)) dL_law_969 ⟨(by first | exact Nat.le_of_ble_eq_true rfl | omega | (dsimp only [rm_law, rm_X2_thrown]; omega)), (by first | exact Nat.le_of_ble_eq_true rfl | omega | (dsimp only [rm_law, rm_X2_thrown]; omega))⟩) rfl rfl rfl (by decide) rfl (fun _ => rfl) (by first | exact Nat.le_of_ble_eq_true rfl | omega | (dsimp only [rm_law, rm_X2_thrown]; omega)) (by first | exact Nat.le_of_ble_eq_true rfl | omega | (dsimp only [rm_law, rm_X2_thrown]; omega)) (fun r_10 u H locs hp_9 hW => ?_)
      subst hp_9
      refine lv_iload hx hb dL_law_972 (lv_at hl 1 rfl) ?_
      refine lv_icmp_eq (tgt := 979) hx hb dL_law_974 (by decide) (fun _ => ?_) (fun h => absurd rfl h)
      refine lv_iload hx hb dL_law_979 (lv_at hl 1 rfl) ?_
      refine jv_if_ne hx hb 996 dL_law_981 (by decide) ⟨by omega, by omega⟩ (fun h => ?_) (fun h => by exfalso; omega)
      refine lv_goto (tgt := 1521) hx hb dL_law_996 (by decide) ?_
      refine W.widen (k := k + 300) (n := n + 2000) (by omega) (by omega) ?_
      exact next σ τ br bt kp 1 g _ _ _ hI (by omega) (by omega) hW (lv_sub hl [2, 3, 4, 5, 6] rfl)
