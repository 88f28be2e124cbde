set_option maxHeartbeats 4000000 in
set_option maxRecDepth 100000 in
/-- the law: c23 -/
theorem law_c23 {P : Program} {l : Launch} {e : Env} {s : State} {m : MethodId} {below : List Frame} {meth : Method} {c : Code} {Q : State → Prop} {b L : Nat} {xs : Nat → Int32} {κ : Kp} {A : Nat → Prop} {x o : Nat} {a a2 mm : Nat → Nat} (hstk : l.stackTraces = false) (F : CallFix P m c cL_law 9 s #[Value.ref b] wsL_law RL) (hK : Kx κ s) (hT : Tk A s s.heap) (hN9 : Ncx s) (hA : ∀ q, s.heap.size ≤ q → A q) (hX : va_X b L xs s s.heap) (hbl : b < s.heap.size) (hbA : ¬ A b) (hL : L ≤ 2048) {i : Nat} (hi : 4 * i + 4 ≤ L) {k n : Nat} (hk : k + 300 ≤ 601024) (hn : n + 2000 ≤ 7293034) {σ τ : Sg} {br bt kp : Nat → Int} {th : Int} {g : Nat → Int64} (hI : Inv σ) (hB0 : σ 5 0 ≤ 60 * (i : Int)) (hC0 : σ 5 1 ≤ 60 * (i : Int))
    (next : LNext P l e s m below meth c Q κ A b x o a a2 mm i k n) {H : Heap} {locs : List Loc} {ls : Array Slot} (hW : St κ A s.heap H locs (WB κ x a a2 mm o σ τ br bt kp th g)) (hl : lv_has ls 9 (LLoc b x o mm i)) : W P l e rm_law s m #[Value.ref b] below meth c H locs k n Q (F0 m 1276 ls []) := by
  obtain ⟨hx, hb, hml, hown, hts⟩ := id F
  have hN := hI.hN
  have hN10 := hI.n10
  have hB : σ 5 0 ≤ 100000000 := by omega
  have hC : σ 5 1 ≤ 100000000 := by omega
  have hz1 := sx_in xs (4 * i + 1)
  have hz2 := sx_in xs (4 * i + 2)
  have hz3 := sx_in xs (4 * i + 3)
  refine lv_aload_n hx hb dL_law_1276 rfl (lv_at hl 1 rfl) ?_
  refine fin_i (k := k) (n := n) (W2 := (fun _ => (WX κ x a a2 ++ (WC κ a σ br ++ (WC κ a2 τ bt ++ (WM κ mm σ th kp ++ (WL κ o g))))))) [0, 1, 2, 3, 4, 5, 6, 7] [8, 9, 10, 11, 12, 13, 14, 15, 16, 17, 18, 19] [12, 13, 14, 15, 16, 17, 18, 19, 0, 1, 2, 3, 4, 5, 6, 7, 8, 9, 10, 11] hW hA (va_runV (As := []) (rest := []) F ((m_X1_isClear l κ x a a2 σ br hI) _) (cwV 0 hts gL_law_X1_isClear rfl rfl rfl (by decide +kernel) ⟨(Nat.le_of_ble_eq_true rfl), (Nat.le_of_ble_eq_true rfl)⟩) (pre_V hK hW [0, 1, 2, 3, 4, 5, 6, 7] rfl (by decide) 1 0 rfl rfl) rfl rfl hl.1 rfl (lv_room (Nat.le_of_ble_eq_true rfl)) dL_law_1277 ⟨(by first | exact Nat.le_of_ble_eq_true rfl | omega | (dsimp only [rm_law, rm_X1_isClear]; omega)), (by first | exact Nat.le_of_ble_eq_true rfl | omega | (dsimp only [rm_law, rm_X1_isClear]; omega))⟩) rfl rfl rfl (by decide) rfl (fun _ => rfl) (by first | exact Nat.le_of_ble_eq_true rfl | omega | (dsimp only [rm_law, rm_X1_isClear]; omega)) (by first | exact Nat.le_of_ble_eq_true rfl | omega | (dsimp only [rm_law, rm_X1_isClear]; omega)) (fun r_2 u H locs hp_1 hW => ?_)
  subst hp_1
  refine lv_aload_n hx hb dL_law_1280 rfl (lv_at hl 2 rfl) ?_
  refine fin_i (k := k) (n := n) (W2 := (fun _ => (WX κ x a a2 ++ (WC κ a σ br ++ (WC κ a2 τ bt ++ (WM κ mm σ 0 kp ++ (WL κ o g))))))) [15, 16, 17, 18] [0, 1, 2, 3, 4, 5, 6, 7, 8, 9, 10, 11, 12, 13, 14, 19] [0, 1, 2, 3, 4, 5, 6, 7, 8, 9, 10, 11, 12, 13, 14, 16, 17, 18, 19, 15] hW hA (va_runV (As := []) (rest := [.int (J (bi (ic σ)))]) F ((m_X2_isClear l κ mm σ th kp hI) _) (cwV 0 hts gL_law_X2_isClear rfl rfl rfl (by decide +kernel) ⟨(Nat.le_of_ble_eq_true rfl), (Nat.le_of_ble_eq_true rfl)⟩) (pre_V hK hW [15, 16, 17, 18] rfl (by decide) 2 15 rfl rfl) rfl rfl hl.1 rfl (lv_room (Nat.le_of_ble_eq_true rfl)) dL_law_1281 ⟨(by first | exact Nat.le_of_ble_eq_true rfl | omega | (dsimp only [rm_law, rm_X2_isClear]; omega)), (by first | exact Nat.le_of_ble_eq_true rfl | omega | (dsimp only [rm_law, rm_X2_isClear]; omega))⟩) rfl rfl rfl (by decide) rfl (fun _ => rfl) (by first | exact Nat.le_of_ble_eq_true rfl | omega | (dsimp only [rm_law, rm_X2_isClear]; omega)) (by first | exact Nat.le_of_ble_eq_true rfl | omega | (dsimp only [rm_law, rm_X2_isClear]; omega)) (fun r_4 u H locs hp_3 hW => ?_)
  subst hp_3
  refine lv_icmp_eq (tgt := 1521) hx hb dL_law_1284 (by decide) (fun _ => ?_) (fun h => absurd rfl h)
  refine W.widen (k := k + 300) (n := n + 2000) (by omega) (by omega) ?_
  exact next σ τ br bt kp 0 g _ _ _ hI (by omega) (by omega) hW (lv_sub hl [0, 1, 2, 3, 4] rfl)

set_option maxHeartbeats 4000000 in
set_option maxRecDepth 100000 in
/-- the law: c24 -/
theorem law_c24 {P : Program} {l : Launch} {e : Env} {s : State} {m : MethodId} {below : List Frame} {meth : Method} {c : Code} {Q : State → Prop} {b L : Nat} {xs : Nat → Int32} {κ : Kp} {A : Nat → Prop} {x o : Nat} {a a2 mm : Nat → Nat} (hstk : l.stackTraces = false) (F : CallFix P m c cL_law 9 s #[Value.ref b] wsL_law RL) (hK : Kx κ s) (hT : Tk A s s.heap) (hN9 : Ncx s) (hA : ∀ q, s.heap.size ≤ q → A q) (hX : va_X b L xs s s.heap) (hbl : b < s.heap.size) (hbA : ¬ A b) (hL : L ≤ 2048) {i : Nat} (hi : 4 * i + 4 ≤ L) {k n : Nat} (hk : k + 300 ≤ 601024) (hn : n + 2000 ≤ 7293034) {σ τ : Sg} {br bt kp : Nat → Int} {th : Int} {g : Nat → Int64} (hI : Inv σ) (hB0 : σ 5 0 ≤ 60 * (i : Int)) (hC0 : σ 5 1 ≤ 60 * (i : Int))
    (next : LNext P l e s m below meth c Q κ A b x o a a2 mm i k n) {H : Heap} {locs : List Loc} {ls : Array Slot} (hW : St κ A s.heap H locs (WB κ x a a2 mm o σ τ br bt kp th g)) (hl : lv_has ls 9 (LLoc b x o mm i)) : W P l e rm_law s m #[Value.ref b] below meth c H locs k n Q (F0 m 1289 ls []) := by
  obtain ⟨hx, hb, hml, hown, hts⟩ := id F
  have hN := hI.hN
  have hN10 := hI.n10
  have hB : σ 5 0 ≤ 100000000 := by omega
  have hC : σ 5 1 ≤ 100000000 := by omega
  have hz1 := sx_in xs (4 * i + 1)
  have hz2 := sx_in xs (4 * i + 2)
  have hz3 := sx_in xs (4 * i + 3)
  refine lv_aload_n hx hb dL_law_1289 rfl (lv_at hl 1 rfl) ?_
  refine fin_i (k := k) (n := n) (W2 := (fun _ => (WX κ x a a2 ++ (WC κ a σ br ++ (WC κ a2 τ bt ++ (WM κ mm σ th kp ++ (WL κ o g))))))) [0, 1, 2, 3, 4, 5, 6, 7] [8, 9, 10, 11, 12, 13, 14, 15, 16, 17, 18, 19] [12, 13, 14, 15, 16, 17, 18, 19, 0, 1, 2, 3, 4, 5, 6, 7, 8, 9, 10, 11] hW hA (va_runV (As := []) (rest := []) F ((m_X1_cadences l κ x a a2 σ br hI) _) (cwV 0 hts gL_law_X1_cadences rfl rfl rfl (by decide +kernel) ⟨(Nat.le_of_ble_eq_true rfl), (Nat.le_of_ble_eq_true rfl)⟩) (pre_V hK hW [0, 1, 2, 3, 4, 5, 6, 7] rfl (by decide) 1 0 rfl rfl) rfl rfl hl.1 rfl (lv_room (Nat.le_of_ble_eq_true rfl)) dL_law_1290 ⟨(by first | exact Nat.le_of_ble_eq_true rfl | omega | (dsimp only [rm_law, rm_X1_cadences]; omega)), (by first | exact Nat.le_of_ble_eq_true rfl | omega | (dsimp only [rm_law, rm_X1_cadences]; omega))⟩) rfl rfl rfl (by decide) rfl (fun _ => rfl) (by first | exact Nat.le_of_ble_eq_true rfl | omega | (dsimp only [rm_law, rm_X1_cadences]; omega)) (by first | exact Nat.le_of_ble_eq_true rfl | omega | (dsimp only [rm_law, rm_X1_cadences]; omega)) (fun r_2 u H locs hp_1 hW => ?_)
  subst hp_1
  refine lv_aload_n hx hb dL_law_1293 rfl (lv_at hl 2 rfl) ?_
  refine fin_i (k := k) (n := n) (W2 := (fun _ => (WX κ x a a2 ++ (WC κ a σ br ++ (WC κ a2 τ bt ++ (WM κ mm σ 0 kp ++ (WL κ o g))))))) [15, 16, 17, 18] [0, 1, 2, 3, 4, 5, 6, 7, 8, 9, 10, 11, 12, 13, 14, 19] [0, 1, 2, 3, 4, 5, 6, 7, 8, 9, 10, 11, 12, 13, 14, 16, 17, 18, 19, 15] hW hA (va_runV (As := []) (rest := [.int (J (σ 5 1))]) F ((m_X2_cadences l κ mm σ th kp hI) _) (cwV 0 hts gL_law_X2_cadences rfl rfl rfl (by decide +kernel) ⟨(Nat.le_of_ble_eq_true rfl), (Nat.le_of_ble_eq_true rfl)⟩) (pre_V hK hW [15, 16, 17, 18] rfl (by decide) 2 15 rfl rfl) rfl rfl hl.1 rfl (lv_room (Nat.le_of_ble_eq_true rfl)) dL_law_1294 ⟨(by first | exact Nat.le_of_ble_eq_true rfl | omega | (dsimp only [rm_law, rm_X2_cadences]; omega)), (by first | exact Nat.le_of_ble_eq_true rfl | omega | (dsimp only [rm_law, rm_X2_cadences]; omega))⟩) rfl rfl rfl (by decide) rfl (fun _ => rfl) (by first | exact Nat.le_of_ble_eq_true rfl | omega | (dsimp only [rm_law, rm_X2_cadences]; omega)) (by first | exact Nat.le_of_ble_eq_true rfl | omega | (dsimp only [rm_law, rm_X2_cadences]; omega)) (fun r_4 u H locs hp_3 hW => ?_)
  subst hp_3
  refine lv_icmp_eq (tgt := 1521) hx hb dL_law_1297 (by decide) (fun _ => ?_) (fun h => absurd rfl h)
  refine W.widen (k := k + 300) (n := n + 2000) (by omega) (by omega) ?_
  exact next σ τ br bt kp 0 g _ _ _ hI (by omega) (by omega) hW (lv_sub hl [0, 1, 2, 3, 4] rfl)

set_option maxHeartbeats 4000000 in
set_option maxRecDepth 100000 in
/-- the law: c26 -/
theorem law_c26 {P : Program} {l : Launch} {e : Env} {s : State} {m : MethodId} {below : List Frame} {meth : Method} {c : Code} {Q : State → Prop} {b L : Nat} {xs : Nat → Int32} {κ : Kp} {A : Nat → Prop} {x o : Nat} {a a2 mm : Nat → Nat} (hstk : l.stackTraces = false) (F : CallFix P m c cL_law 9 s #[Value.ref b] wsL_law RL) (hK : Kx κ s) (hT : Tk A s s.heap) (hN9 : Ncx s) (hA : ∀ q, s.heap.size ≤ q → A q) (hX : va_X b L xs s s.heap) (hbl : b < s.heap.size) (hbA : ¬ A b) (hL : L ≤ 2048) {i : Nat} (hi : 4 * i + 4 ≤ L) {k n : Nat} (hk : k + 300 ≤ 601024) (hn : n + 2000 ≤ 7293034) {σ τ : Sg} {br bt kp : Nat → Int} {th : Int} {g : Nat → Int64} (hI : Inv σ) (hB0 : σ 5 0 ≤ 60 * (i : Int)) (hC0 : σ 5 1 ≤ 60 * (i : Int))
    (next : LNext P l e s m below meth c Q κ A b x o a a2 mm i k n) {H : Heap} {locs : List Loc} {ls : Array Slot} (hW : St κ A s.heap H locs (WB κ x a a2 mm o σ τ br bt kp th g)) (hl : lv_has ls 9 (LLoc b x o mm i)) : W P l e rm_law s m #[Value.ref b] below meth c H locs k n Q (F0 m 1358 ls []) := by
  obtain ⟨hx, hb, hml, hown, hts⟩ := id F
  have hN := hI.hN
  have hN10 := hI.n10
  have hB : σ 5 0 ≤ 100000000 := by omega
  have hC : σ 5 1 ≤ 100000000 := by omega
  have hz1 := sx_in xs (4 * i + 1)
  have hz2 := sx_in xs (4 * i + 2)
  have hz3 := sx_in xs (4 * i + 3)
  refine lv_aload_n hx hb dL_law_1358 rfl (lv_at hl 1 rfl) ?_
  refine fin_i (k := k) (n := n) (W2 := (fun _ => (WX κ x a a2 ++ (WC κ a σ br ++ (WC κ a2 τ bt ++ (WM κ mm σ th kp ++ (WL κ o g))))))) [0, 1, 2, 3, 4, 5, 6, 7] [8, 9, 10, 11, 12, 13, 14, 15, 16, 17, 18, 19] [12, 13, 14, 15, 16, 17, 18, 19, 0, 1, 2, 3, 4, 5, 6, 7, 8, 9, 10, 11] hW hA (va_runV (As := []) (rest := []) F ((m_X1_bestToMute l κ x a a2 σ br hI) _) (cwV 0 hts gL_law_X1_bestToMute rfl rfl rfl (by decide +kernel) ⟨(Nat.le_of_ble_eq_true rfl), (Nat.le_of_ble_eq_true rfl)⟩) (pre_V hK hW [0, 1, 2, 3, 4, 5, 6, 7] rfl (by decide) 1 0 rfl rfl) rfl rfl hl.1 rfl (lv_room (Nat.le_of_ble_eq_true rfl)) dL_law_1359 ⟨(by first | exact Nat.le_of_ble_eq_true rfl | omega | (dsimp only [rm_law, rm_X1_bestToMute]; omega)), (by first | exact Nat.le_of_ble_eq_true rfl | omega | (dsimp only [rm_law, rm_X1_bestToMute]; omega))⟩) rfl rfl rfl (by decide) rfl (fun _ => rfl) (by first | exact Nat.le_of_ble_eq_true rfl | omega | (dsimp only [rm_law, rm_X1_bestToMute]; omega)) (by first | exact Nat.le_of_ble_eq_true rfl | omega | (dsimp only [rm_law, rm_X1_bestToMute]; omega)) (fun r_2 u H locs hp_1 hW => ?_)
  subst hp_1
  refine lv_aload_n hx hb dL_law_1362 rfl (lv_at hl 2 rfl) ?_
  refine fin_i (k := k) (n := n) (W2 := (fun _ => (WX κ x a a2 ++ (WC κ a σ br ++ (WC κ a2 τ bt ++ (WM κ mm σ 0 kp ++ (WL κ o g))))))) [15, 16, 17, 18] [0, 1, 2, 3, 4, 5, 6, 7, 8, 9, 10, 11, 12, 13, 14, 19] [0, 1, 2, 3, 4, 5, 6, 7, 8, 9, 10, 11, 12, 13, 14, 16, 17, 18, 19, 15] hW hA (va_runV (As := []) (rest := [.int (J (fm σ))]) F ((m_X2_bestToMute l κ mm σ th kp hI) _) (cwV 0 hts gL_law_X2_bestToMute rfl rfl rfl (by decide +kernel) ⟨(Nat.le_of_ble_eq_true rfl), (Nat.le_of_ble_eq_true rfl)⟩) (pre_V hK hW [15, 16, 17, 18] rfl (by decide) 2 15 rfl rfl) rfl rfl hl.1 rfl (lv_room (Nat.le_of_ble_eq_true rfl)) dL_law_1363 ⟨(by first | exact Nat.le_of_ble_eq_true rfl | omega | (dsimp only [rm_law, rm_X2_bestToMute]; omega)), (by first | exact Nat.le_of_ble_eq_true rfl | omega | (dsimp only [rm_law, rm_X2_bestToMute]; omega))⟩) rfl rfl rfl (by decide) rfl (fun _ => rfl) (by first | exact Nat.le_of_ble_eq_true rfl | omega | (dsimp only [rm_law, rm_X2_bestToMute]; omega)) (by first | exact Nat.le_of_ble_eq_true rfl | omega | (dsimp only [rm_law, rm_X2_bestToMute]; omega)) (fun r_4 u H locs hp_3 hW => ?_)
  subst hp_3
  refine lv_icmp_eq (tgt := 1521) hx hb dL_law_1366 (by decide) (fun _ => ?_) (fun h => absurd rfl h)
  refine W.widen (k := k + 300) (n := n + 2000) (by omega) (by omega) ?_
  exact next σ τ br bt kp 0 g _ _ _ hI (by omega) (by omega) hW (lv_sub hl [0, 1, 2, 3, 4] rfl)

set_option maxHeartbeats 4000000 in
set_option maxRecDepth 100000 in
/-- the law: c28 -/
theorem law_c28 {P : Program} {l : Launch} {e : Env} {s : State} {m : MethodId} {below : List Frame} {meth : Method} {c : Code} {Q : State → Prop} {b L : Nat} {xs : Nat → Int32} {κ : Kp} {A : Nat → Prop} {x o : Nat} {a a2 mm : Nat → Nat} (hstk : l.stackTraces = false) (F : CallFix P m c cL_law 9 s #[Value.ref b] wsL_law RL) (hK : Kx κ s) (hT : Tk A s s.heap) (hN9 : Ncx s) (hA : ∀ q, s.heap.size ≤ q → A q) (hX : va_X b L xs s s.heap) (hbl : b < s.heap.size) (hbA : ¬ A b) (hL : L ≤ 2048) {i : Nat} (hi : 4 * i + 4 ≤ L) {k n : Nat} (hk : k + 300 ≤ 601024) (hn : n + 2000 ≤ 7293034) {σ τ : Sg} {br bt kp : Nat → Int} {th : Int} {g : Nat → Int64} (hI : Inv σ) (hB0 : σ 5 0 ≤ 60 * (i : Int)) (hC0 : σ 5 1 ≤ 60 * (i : Int))
    (next : LNext P l e s m below meth c Q κ A b x o a a2 mm i k n) {H : Heap} {locs : List Loc} {ls : Array Slot} (hW : St κ A s.heap H locs (WB κ x a a2 mm o σ τ br bt kp th g)) (hl : lv_has ls 9 (LLoc b x o mm i)) : W P l e rm_law s m #[Value.ref b] below meth c H locs k n Q (F0 m 1427 ls []) := by
  obtain ⟨hx, hb, hml, hown, hts⟩ := id F
  have hN := hI.hN
  have hN10 := hI.n10
  have hB : σ 5 0 ≤ 100000000 := by omega
  have hC : σ 5 1 ≤ 100000000 := by omega
  have hz1 := sx_in xs (4 * i + 1)
  have hz2 := sx_in xs (4 * i + 2)
  have hz3 := sx_in xs (4 * i + 3)
  refine lv_aload_n hx hb dL_law_1427 rfl (lv_at hl 1 rfl) ?_
  refine fin_i (k := k) (n := n) (W2 := (fun τ1 => (WX κ x a a2 ++ (WC κ a σ br ++ (WC κ a2 τ1 bt ++ (WM κ mm σ th kp ++ (WL κ o g))))))) [0, 1, 2, 3, 4, 5, 6, 7, 8, 9, 10, 11, 12, 13, 14] [15, 16, 17, 18, 19] [5, 6, 7, 8, 9, 10, 11, 12, 13, 14, 15, 16, 17, 18, 19, 0, 1, 2, 3, 4] hW hA (va_runV (As := []) (rest := []) F ((m_X1_beatsUntilSilence l κ x a a2 σ br τ bt hI (by omega)) _) (cwV 0 hts gL_law_X1_beatsUntilSilence rfl rfl rfl (by decide +kernel) ⟨(Nat.le_of_ble_eq_true rfl), (Nat.le_of_ble_eq_true rfl)⟩) (pre_V hK hW [0, 1, 2, 3, 4, 5, 6, 7, 8, 9, 10, 11, 12, 13, 14] rfl (by decide) 1 0 rfl rfl) rfl rfl hl.1 rfl (lv_room (Nat.le_of_ble_eq_true rfl)) dL_law_1428 ⟨(by first | exact Nat.le_of_ble_eq_true rfl | omega | (dsimp only [rm_law, rm_X1_beatsUntilSilence]; omega)), (by first | exact Nat.le_of_ble_eq_true rfl | omega | (dsimp only [rm_law, rm_X1_beatsUntilSilence]; omega))⟩) rfl rfl rfl (by decide) rfl (fun _ => rfl) (by first | exact Nat.le_of_ble_eq_true rfl | omega | (dsimp only [rm_law, rm_X1_beatsUntilSilence]; omega)) (by first | exact Nat.le_of_ble_eq_true rfl | omega | (dsimp only [rm_law, rm_X1_beatsUntilSilence]; omega)) (fun r_2 τ1 H locs hp_1 hW => ?_)
  subst hp_1
  refine lv_aload_n hx hb dL_law_1431 rfl (lv_at hl 2 rfl) ?_
  refine fin_i (k := k) (n := n) (W2 := (fun _ => (WX κ x a a2 ++ (WC κ a σ br ++ (WC κ a2 τ1 bt ++ (WM κ mm σ 0 (nowf σ) ++ (WL κ o g))))))) [15, 16, 17, 18] [0, 1, 2, 3, 4, 5, 6, 7, 8, 9, 10, 11, 12, 13, 14, 19] [0, 1, 2, 3, 4, 5, 6, 7, 8, 9, 10, 11, 12, 13, 14, 16, 17, 18, 19, 15] hW hA (va_runV (As := []) (rest := [.int (J (su σ : Int))]) F ((m_X2_beatsUntilSilence l κ mm σ th kp hI hB) _) (cwV 0 hts gL_law_X2_beatsUntilSilence rfl rfl rfl (by decide +kernel) ⟨(Nat.le_of_ble_eq_true rfl), (Nat.le_of_ble_eq_true rfl)⟩) (pre_V hK hW [15, 16, 17, 18] rfl (by decide) 2 15 rfl rfl) rfl rfl hl.1 rfl (lv_room (Nat.le_of_ble_eq_true rfl)) dL_law_1432 ⟨(by first | exact Nat.le_of_ble_eq_true rfl | omega | (dsimp only [rm_law, rm_X2_beatsUntilSilence]; omega)), (by first | exact Nat.le_of_ble_eq_true rfl | omega | (dsimp only [rm_law, rm_X2_beatsUntilSilence]; omega))⟩) rfl rfl rfl (by decide) rfl (fun _ => rfl) (by first | exact Nat.le_of_ble_eq_true rfl | omega | (dsimp only [rm_law, rm_X2_beatsUntilSilence]; omega)) (by first | exact Nat.le_of_ble_eq_true rfl | omega | (dsimp only [rm_law, rm_X2_beatsUntilSilence]; omega)) (fun r_4 u H locs hp_3 hW => ?_)
  subst hp_3
  refine lv_icmp_eq (tgt := 1521) hx hb dL_law_1435 (by decide) (fun _ => ?_) (fun h => absurd rfl h)
  refine W.widen (k := k + 300) (n := n + 2000) (by omega) (by omega) ?_
  exact next σ τ1 br bt (nowf σ) 0 g _ _ _ hI (by omega) (by omega) hW (lv_sub hl [0, 1, 2, 3, 4] rfl)

set_option maxHeartbeats 4000000 in
set_option maxRecDepth 100000 in
/-- the law: c29 -/
theorem law_c29 {P : Program} {l : Launch} {e : Env} {s : State} {m : MethodId} {below : List Frame} {meth : Method} {c : Code} {Q : State → Prop} {b L : Nat} {xs : Nat → Int32} {κ : Kp} {A : Nat → Prop} {x o : Nat} {a a2 mm : Nat → Nat} (hstk : l.stackTraces = false) (F : CallFix P m c cL_law 9 s #[Value.ref b] wsL_law RL) (hK : Kx κ s) (hT : Tk A s s.heap) (hN9 : Ncx s) (hA : ∀ q, s.heap.size ≤ q → A q) (hX : va_X b L xs s s.heap) (hbl : b < s.heap.size) (hbA : ¬ A b) (hL : L ≤ 2048) {i : Nat} (hi : 4 * i + 4 ≤ L) {k n : Nat} (hk : k + 300 ≤ 601024) (hn : n + 2000 ≤ 7293034) {σ τ : Sg} {br bt kp : Nat → Int} {th : Int} {g : Nat → Int64} (hI : Inv σ) (hB0 : σ 5 0 ≤ 60 * (i : Int)) (hC0 : σ 5 1 ≤ 60 * (i : Int))
    (next : LNext P l e s m below meth c Q κ A b x o a a2 mm i k n) {H : Heap} {locs : List Loc} {ls : Array Slot} (hW : St κ A s.heap H locs (WB κ x a a2 mm o σ τ br bt kp th g)) (hl : lv_has ls 9 (LLoc b x o mm i)) : W P l e rm_law s m #[Value.ref b] below meth c H locs k n Q (F0 m 1440 ls []) := by
  obtain ⟨hx, hb, hml, hown, hts⟩ := id F
  have hN := hI.hN
  have hN10 := hI.n10
  have hB : σ 5 0 ≤ 100000000 := by omega
  have hC : σ 5 1 ≤ 100000000 := by omega
  have hz1 := sx_in xs (4 * i + 1)
  have hz2 := sx_in xs (4 * i + 2)
  have hz3 := sx_in xs (4 * i + 3)
  refine lv_aload_n hx hb dL_law_1440 rfl (lv_at hl 1 rfl) ?_
  refine fin_i (k := k) (n := n) (W2 := (fun τ2 => (WX κ x a a2 ++ (WC κ a σ br ++ (WC κ a2 τ2 bt ++ (WM κ mm σ th kp ++ (WL κ o g))))))) [0, 1, 2, 3, 4, 5, 6, 7, 8, 9, 10, 11, 12, 13, 14] [15, 16, 17, 18, 19] [5, 6, 7, 8, 9, 10, 11, 12, 13, 14, 15, 16, 17, 18, 19, 0, 1, 2, 3, 4] hW hA (va_runV (As := []) (rest := []) F ((m_X1_beatsUntilCadence l κ x a a2 σ br τ bt hI (by omega) (by omega)) _) (cwV 0 hts gL_law_X1_beatsUntilCadence rfl rfl rfl (by decide +kernel) ⟨(Nat.le_of_ble_eq_true rfl), (Nat.le_of_ble_eq_true rfl)⟩) (pre_V hK hW [0, 1, 2, 3, 4, 5, 6, 7, 8, 9, 10, 11, 12, 13, 14] rfl (by decide) 1 0 rfl rfl) rfl rfl hl.1 rfl (lv_room (Nat.le_of_ble_eq_true rfl)) dL_law_1441 ⟨(by first | exact Nat.le_of_ble_eq_true rfl | omega | (dsimp only [rm_law, rm_X1_beatsUntilCadence]; omega)), (by first | exact Nat.le_of_ble_eq_true rfl | omega | (dsimp only [rm_law, rm_X1_beatsUntilCadence]; omega))⟩) rfl rfl rfl (by decide) rfl (fun _ => rfl) (by first | exact Nat.le_of_ble_eq_true rfl | omega | (dsimp only [rm_law, rm_X1_beatsUntilCadence]; omega)) (by first | exact Nat.le_of_ble_eq_true rfl | omega | (dsimp only [rm_law, rm_X1_beatsUntilCadence]; omega)) (fun r_2 τ2 H locs hp_1 hW => ?_)
  subst hp_1
  refine lv_aload_n hx hb dL_law_1444 rfl (lv_at hl 2 rfl) ?_
  refine fin_i (k := k) (n := n) (W2 := (fun _ => (WX κ x a a2 ++ (WC κ a σ br ++ (WC κ a2 τ2 bt ++ (WM κ mm σ 0 (nowf σ) ++ (WL κ o g))))))) [15, 16, 17, 18] [0, 1, 2, 3, 4, 5, 6, 7, 8, 9, 10, 11, 12, 13, 14, 19] [0, 1, 2, 3, 4, 5, 6, 7, 8, 9, 10, 11, 12, 13, 14, 16, 17, 18, 19, 15] hW hA (va_runV (As := []) (rest := [.int (J (uc σ))]) F ((m_X2_beatsUntilCadence l κ mm σ th kp hI hB) _) (cwV 0 hts gL_law_X2_beatsUntilCadence rfl rfl rfl (by decide +kernel) ⟨(Nat.le_of_ble_eq_true rfl), (Nat.le_of_ble_eq_true rfl)⟩) (pre_V hK hW [15, 16, 17, 18] rfl (by decide) 2 15 rfl rfl) rfl rfl hl.1 rfl (lv_room (Nat.le_of_ble_eq_true rfl)) dL_law_1445 ⟨(by first | exact Nat.le_of_ble_eq_true rfl | omega | (dsimp only [rm_law, rm_X2_beatsUntilCadence]; omega)), (by first | exact Nat.le_of_ble_eq_true rfl | omega | (dsimp only [rm_law, rm_X2_beatsUntilCadence]; omega))⟩) rfl rfl rfl (by decide) rfl (fun _ => rfl) (by first | exact Nat.le_of_ble_eq_true rfl | omega | (dsimp only [rm_law, rm_X2_beatsUntilCadence]; omega)) (by first | exact Nat.le_of_ble_eq_true rfl | omega | (dsimp only [rm_law, rm_X2_beatsUntilCadence]; omega)) (fun r_4 u H locs hp_3 hW => ?_)
  subst hp_3
  refine lv_icmp_eq (tgt := 1521) hx hb dL_law_1448 (by decide) (fun _ => ?_) (fun h => absurd rfl h)
  refine W.widen (k := k + 300) (n := n + 2000) (by omega) (by omega) ?_
  exact next σ τ2 br bt (nowf σ) 0 g _ _ _ hI (by omega) (by omega) hW (lv_sub hl [0, 1, 2, 3, 4] rfl)

set_option maxHeartbeats 4000000 in
set_option maxRecDepth 100000 in
/-- the law: c30 -/
theorem law_c30 {P : Program} {l : Launch} {e : Env} {s : State} {m : MethodId} {below : List Frame} {meth : Method} {c : Code} {Q : State → Prop} {b L : Nat} {xs : Nat → Int32} {κ : Kp} {A : Nat → Prop} {x o : Nat} {a a2 mm : Nat → Nat} (hstk : l.stackTraces = false) (F : CallFix P m c cL_law 9 s #[Value.ref b] wsL_law RL) (hK : Kx κ s) (hT : Tk A s s.heap) (hN9 : Ncx s) (hA : ∀ q, s.heap.size ≤ q → A q) (hX : va_X b L xs s s.heap) (hbl : b < s.heap.size) (hbA : ¬ A b) (hL : L ≤ 2048) {i : Nat} (hi : 4 * i + 4 ≤ L) {k n : Nat} (hk : k + 300 ≤ 601024) (hn : n + 2000 ≤ 7293034) {σ τ : Sg} {br bt kp : Nat → Int} {th : Int} {g : Nat → Int64} (hI : Inv σ) (hB0 : σ 5 0 ≤ 60 * (i : Int)) (hC0 : σ 5 1 ≤ 60 * (i : Int))
    (next : LNext P l e s m below meth c Q κ A b x o a a2 mm i k n) {H : Heap} {locs : List Loc} {ls : Array Slot} (hW : St κ A s.heap H locs (WB κ x a a2 mm o σ τ br bt kp th g)) (hl : lv_has ls 9 (LLoc b x o mm i)) : W P l e rm_law s m #[Value.ref b] below meth c H locs k n Q (F0 m 1453 ls []) := by
  obtain ⟨hx, hb, hml, hown, hts⟩ := id F
  have hN := hI.hN
  have hN10 := hI.n10
  have hB : σ 5 0 ≤ 100000000 := by omega
  have hC : σ 5 1 ≤ 100000000 := by omega
  have hz1 := sx_in xs (4 * i + 1)
  have hz2 := sx_in xs (4 * i + 2)
  have hz3 := sx_in xs (4 * i + 3)
  refine lv_aload_n hx hb dL_law_1453 rfl (lv_at hl 1 rfl) ?_
  refine fin_i (k := k) (n := n) (W2 := (fun br1 => (WX κ x a a2 ++ (WC κ a σ br1 ++ (WC κ a2 τ bt ++ (WM κ mm σ th kp ++ (WL κ o g))))))) [0, 1, 2, 3, 4, 5, 6, 7] [8, 9, 10, 11, 12, 13, 14, 15, 16, 17, 18, 19] [12, 13, 14, 15, 16, 17, 18, 19, 0, 1, 2, 3, 4, 5, 6, 7, 8, 9, 10, 11] hW hA (va_runV (As := []) (rest := []) F ((m_X1_greatestAccord l κ x a a2 σ br hI) _) (cwV 0 hts gL_law_X1_greatestAccord rfl rfl rfl (by decide +kernel) ⟨(Nat.le_of_ble_eq_true rfl), (Nat.le_of_ble_eq_true rfl)⟩) (pre_V hK hW [0, 1, 2, 3, 4, 5, 6, 7] rfl (by decide) 1 0 rfl rfl) rfl rfl hl.1 rfl (lv_room (Nat.le_of_ble_eq_true rfl)) dL_law_1454 ⟨(by first | exact Nat.le_of_ble_eq_true rfl | omega | (dsimp only [rm_law, rm_X1_greatestAccord]; omega)), (by first | exact Nat.le_of_ble_eq_true rfl | omega | (dsimp only [rm_law, rm_X1_greatestAccord]; omega))⟩) rfl rfl rfl (by decide) rfl (fun _ => rfl) (by first | exact Nat.le_of_ble_eq_true rfl | omega | (dsimp only [rm_law, rm_X1_greatestAccord]; omega)) (by first | exact Nat.le_of_ble_eq_true rfl | omega | (dsimp only [rm_law, rm_X1_greatestAccord]; omega)) (fun r_2 br1 H locs hp_1 hW => ?_)
  subst hp_1
  refine lv_aload_n hx hb dL_law_1457 rfl (lv_at hl 2 rfl) ?_
  refine fin_i (k := k) (n := n) (W2 := (fun _ => (WX κ x a a2 ++ (WC κ a σ br1 ++ (WC κ a2 τ bt ++ (WM κ mm σ 0 kp ++ (WL κ o g))))))) [15, 16, 17, 18] [0, 1, 2, 3, 4, 5, 6, 7, 8, 9, 10, 11, 12, 13, 14, 19] [0, 1, 2, 3, 4, 5, 6, 7, 8, 9, 10, 11, 12, 13, 14, 16, 17, 18, 19, 15] hW hA (va_runV (As := []) (rest := [.int (J (ga σ : Int))]) F ((m_X2_greatestAccord l κ mm σ th kp hI) _) (cwV 0 hts gL_law_X2_greatestAccord rfl rfl rfl (by decide +kernel) ⟨(Nat.le_of_ble_eq_true rfl), (Nat.le_of_ble_eq_true rfl)⟩) (pre_V hK hW [15, 16, 17, 18] rfl (by decide) 2 15 rfl rfl) rfl rfl hl.1 rfl (lv_room (Nat.le_of_ble_eq_true rfl)) dL_law_1458 ⟨(by first | exact Nat.le_of_ble_eq_true rfl | omega | (dsimp only [rm_law, rm_X2_greatestAccord]; omega)), (by first | exact Nat.le_of_ble_eq_true rfl | omega | (dsimp only [rm_law, rm_X2_greatestAccord]; omega))⟩) rfl rfl rfl (by decide) rfl (fun _ => rfl) (by first | exact Nat.le_of_ble_eq_true rfl | omega | (dsimp only [rm_law, rm_X2_greatestAccord]; omega)) (by first | exact Nat.le_of_ble_eq_true rfl | omega | (dsimp only [rm_law, rm_X2_greatestAccord]; omega)) (fun r_4 u H locs hp_3 hW => ?_)
  subst hp_3
  refine lv_icmp_eq (tgt := 1521) hx hb dL_law_1461 (by decide) (fun _ => ?_) (fun h => absurd rfl h)
  refine W.widen (k := k + 300) (n := n + 2000) (by omega) (by omega) ?_
  exact next σ τ br1 bt kp 0 g _ _ _ hI (by omega) (by omega) hW (lv_sub hl [0, 1, 2, 3, 4] rfl)

set_option maxHeartbeats 4000000 in
set_option maxRecDepth 100000 in
/-- the law: c32 -/
theorem law_c32 {P : Program} {l : Launch} {e : Env} {s : State} {m : MethodId} {below : List Frame} {meth : Method} {c : Code} {Q : State → Prop} {b L : Nat} {xs : Nat → Int32} {κ : Kp} {A : Nat → Prop} {x o : Nat} {a a2 mm : Nat → Nat} (hstk : l.stackTraces = false) (F : CallFix P m c cL_law 9 s #[Value.ref b] wsL_law RL) (hK : Kx κ s) (hT : Tk A s s.heap) (hN9 : Ncx s) (hA : ∀ q, s.heap.size ≤ q → A q) (hX : va_X b L xs s s.heap) (hbl : b < s.heap.size) (hbA : ¬ A b) (hL : L ≤ 2048) {i : Nat} (hi : 4 * i + 4 ≤ L) {k n : Nat} (hk : k + 300 ≤ 601024) (hn : n + 2000 ≤ 7293034) {σ τ : Sg} {br bt kp : Nat → Int} {th : Int} {g : Nat → Int64} (hI : Inv σ) (hB0 : σ 5 0 ≤ 60 * (i : Int)) (hC0 : σ 5 1 ≤ 60 * (i : Int))
    (next : LNext P l e s m below meth c Q κ A b x o a a2 mm i k n) {H : Heap} {locs : List Loc} {ls : Array Slot} (hW : St κ A s.heap H locs (WB κ x a a2 mm o σ τ br bt kp th g)) (hl : lv_has ls 9 (LLoc b x o mm i)) : W P l e rm_law s m #[Value.ref b] below meth c H locs k n Q (F0 m 1507 ls []) := by
  obtain ⟨hx, hb, hml, hown, hts⟩ := id F
  have hN := hI.hN
  have hN10 := hI.n10
  have hB : σ 5 0 ≤ 100000000 := by omega
  have hC : σ 5 1 ≤ 100000000 := by omega
  have hz1 := sx_in xs (4 * i + 1)
  have hz2 := sx_in xs (4 * i + 2)
  have hz3 := sx_in xs (4 * i + 3)
  refine lv_aload_n hx hb dL_law_1507 rfl (lv_at hl 1 rfl) ?_
  refine fint_l (k := (k + 140)) (n := (n + 840)) (W2 := (fun ud => (WX κ x a a2 ++ (WC κ a σ ud.2 ++ (WC κ a2 ud.1 bt ++ (WM κ mm σ th kp ++ (WL κ o g))))))) [0, 1, 2, 3, 4, 5, 6, 7, 8, 9, 10, 11, 12, 13, 14] [15, 16, 17, 18, 19] [5, 6, 7, 8, 9, 10, 11, 12, 13, 14, 15, 16, 17, 18, 19, 0, 1, 2, 3, 4] hW hA (vx_runV (As := []) (rest := []) F ((m_X1_digest l κ hstk x a a2 σ br τ bt hI hB hC) _) (cwV 0 hts gL_law_X1_digest rfl rfl rfl (by decide +kernel) ⟨(Nat.le_of_ble_eq_true rfl), (Nat.le_of_ble_eq_true rfl)⟩) (pre_VT hK hT hW hA [0, 1, 2, 3, 4, 5, 6, 7, 8, 9, 10, 11, 12, 13, 14] rfl (by decide) 1 0 rfl rfl) rfl rfl hl.1 rfl (lv_room (Nat.le_of_ble_eq_true rfl)) dL_law_1508 ⟨(by first | exact Nat.le_of_ble_eq_true rfl | omega | (dsimp only [rm_law, rm_X1_digest]; omega)), (by first | exact Nat.le_of_ble_eq_true rfl | omega | (dsimp only [rm_law, rm_X1_digest]; omega))⟩) rfl rfl rfl (by decide) rfl (fun _ => rfl) rfl (by first | exact Nat.le_of_ble_eq_true rfl | omega | (dsimp only [rm_law, rm_X1_digest]; omega)) (by first | exact Nat.le_of_ble_eq_true rfl | omega | (dsimp only [rm_law, rm_X1_digest]; omega)) (fun E ce q9 H locs hX hW g1 g2 g3 => False.elim hX) (fun r_2 ud H locs hp_1 hW => ?_)
  subst hp_1
  refine lv_aload_n hx hb dL_law_1511 rfl (lv_at hl 2 rfl) ?_
  refine fin_l (k := ((k + 140) + 11)) (n := ((n + 840) + 83)) (W2 := (fun _ => (WX κ x a a2 ++ (WC κ a σ ud.2 ++ (WC κ a2 ud.1 bt ++ (WM κ mm σ 0 (nowf σ) ++ (WL κ o g))))))) [15, 16, 17, 18] [0, 1, 2, 3, 4, 5, 6, 7, 8, 9, 10, 11, 12, 13, 14, 19] [0, 1, 2, 3, 4, 5, 6, 7, 8, 9, 10, 11, 12, 13, 14, 16, 17, 18, 19, 15] hW hA (va_runV (As := []) (rest := [.long (dg σ)]) F ((m_X2_digest l κ mm σ th kp hI hB) _) (cwV 0 hts gL_law_X2_digest rfl rfl rfl (by decide +kernel) ⟨(Nat.le_of_ble_eq_true rfl), (Nat.le_of_ble_eq_true rfl)⟩) (pre_V hK hW [15, 16, 17, 18] rfl (by decide) 2 15 rfl rfl) rfl rfl hl.1 rfl (lv_room (Nat.le_of_ble_eq_true rfl)) dL_law_1512 ⟨(by first | exact Nat.le_of_ble_eq_true rfl | omega | (dsimp only [rm_law, rm_X2_digest]; omega)), (by first | exact Nat.le_of_ble_eq_true rfl | omega | (dsimp only [rm_law, rm_X2_digest]; omega))⟩) rfl rfl rfl (by decide) rfl (fun _ => rfl) (by first | exact Nat.le_of_ble_eq_true rfl | omega | (dsimp only [rm_law, rm_X2_digest]; omega)) (by first | exact Nat.le_of_ble_eq_true rfl | omega | (dsimp only [rm_law, rm_X2_digest]; omega)) (fun r_4 u H locs hp_3 hW => ?_)
  subst hp_3
  refine jv_lcmp hx hb rfl dL_law_1515 ?_
  refine jv_if_eq hx hb 1521 dL_law_1516 (by decide) ⟨by omega, by omega⟩ (fun h => ?_) (fun h => by exfalso; omega)
  refine W.widen (k := k + 300) (n := n + 2000) (by omega) (by omega) ?_
  exact next σ ud.1 ud.2 bt (nowf σ) 0 g _ _ _ hI (by omega) (by omega) hW (lv_sub hl [0, 1, 2, 3, 4] rfl)

set_option maxHeartbeats 4000000 in
set_option maxRecDepth 100000 in
/-- the law: c31 -/
theorem law_c31 {P : Program} {l : Launch} {e : Env} {s : State} {m : MethodId} {below : List Frame} {meth : Method} {c : Code} {Q : State → Prop} {b L : Nat} {xs : Nat → Int32} {κ : Kp} {A : Nat → Prop} {x o : Nat} {a a2 mm : Nat → Nat} (hstk : l.stackTraces = false) (F : CallFix P m c cL_law 9 s #[Value.ref b] wsL_law RL) (hK : Kx κ s) (hT : Tk A s s.heap) (hN9 : Ncx s) (hA : ∀ q, s.heap.size ≤ q → A q) (hX : va_X b L xs s s.heap) (hbl : b < s.heap.size) (hbA : ¬ A b) (hL : L ≤ 2048) {i : Nat} (hi : 4 * i + 4 ≤ L) {k n : Nat} (hk : k + 300 ≤ 601024) (hn : n + 2000 ≤ 7293034) {σ τ : Sg} {br bt kp : Nat → Int} {th : Int} {g : Nat → Int64} (hI : Inv σ) (hB0 : σ 5 0 ≤ 60 * (i : Int)) (hC0 : σ 5 1 ≤ 60 * (i : Int))
    (next : LNext P l e s m below meth c Q κ A b x o a a2 mm i k n) {H : Heap} {locs : List Loc} {ls : Array Slot} (hW : St κ A s.heap H locs (WB κ x a a2 mm o σ τ br bt kp th g)) (hl : lv_has ls 9 (LLoc b x o mm i)) : W P l e rm_law s m #[Value.ref b] below meth c H locs k n Q (F0 m 1466 ls []) := by
  obtain ⟨hx, hb, hml, hown, hts⟩ := id F
  have hN := hI.hN
  have hN10 := hI.n10
  have hB : σ 5 0 ≤ 100000000 := by omega
  have hC : σ 5 1 ≤ 100000000 := by omega
  obtain ⟨cv, hcv⟩ := cmp_J (Op.cmpValue (FP.dcmp (mp σ) (mp σ)) .l)
  have hcv1 := hcv.1
  have hz1 := sx_in xs (4 * i + 1)
  have hz2 := sx_in xs (4 * i + 2)
  have hz3 := sx_in xs (4 * i + 3)
  refine lv_aload_n hx hb dL_law_1466 rfl (lv_at hl 1 rfl) ?_
  refine fin_d (k := k) (n := n) (W2 := (fun _ => (WX κ x a a2 ++ (WC κ a σ br ++ (WC κ a2 τ bt ++ (WM κ mm σ th kp ++ (WL κ o g))))))) [0, 1, 2, 3, 4, 5, 6, 7] [8, 9, 10, 11, 12, 13, 14, 15, 16, 17, 18, 19] [12, 13, 14, 15, 16, 17, 18, 19, 0, 1, 2, 3, 4, 5, 6, 7, 8, 9, 10, 11] hW hA (va_runV (As := []) (rest := []) F ((m_X1_meanPitch l κ x a a2 σ br hI) _) (cwV 0 hts gL_law_X1_meanPitch rfl rfl rfl (by decide +kernel) ⟨(Nat.le_of_ble_eq_true rfl), (Nat.le_of_ble_eq_true rfl)⟩) (pre_V hK hW [0, 1, 2, 3, 4, 5, 6, 7] rfl (by decide) 1 0 rfl rfl) rfl rfl hl.1 rfl (lv_room (Nat.le_of_ble_eq_true rfl)) dL_law_1467 ⟨(by first | exact Nat.le_of_ble_eq_true rfl | omega | (dsimp only [rm_law, rm_X1_meanPitch]; omega)), (by first | exact Nat.le_of_ble_eq_true rfl | omega | (dsimp only [rm_law, rm_X1_meanPitch]; omega))⟩) rfl rfl rfl (by decide) rfl (fun _ => rfl) (by first | exact Nat.le_of_ble_eq_true rfl | omega | (dsimp only [rm_law, rm_X1_meanPitch]; omega)) (by first | exact Nat.le_of_ble_eq_true rfl | omega | (dsimp only [rm_law, rm_X1_meanPitch]; omega)) (fun r_2 u H locs hp_1 hW => ?_)
  subst hp_1
  refine lv_dstore (lv' := [(5, .double (mp σ)), (0, .ref b), (1, .ref x), (2, .ref (mm 0)), (3, .ref o), (4, .int (J (4 * (i : Int))))]) hx hb dL_law_1470 hl (by decide) rfl (fun ls hl => ?_)
  refine lv_aload_n hx hb dL_law_1472 rfl (lv_at hl 3 rfl) ?_
  refine fin_d (k := k) (n := n) (W2 := (fun _ => (WX κ x a a2 ++ (WC κ a σ br ++ (WC κ a2 τ bt ++ (WM κ mm σ 0 kp ++ (WL κ o g))))))) [15, 16, 17, 18] [0, 1, 2, 3, 4, 5, 6, 7, 8, 9, 10, 11, 12, 13, 14, 19] [0, 1, 2, 3, 4, 5, 6, 7, 8, 9, 10, 11, 12, 13, 14, 16, 17, 18, 19, 15] hW hA (va_runV (As := []) (rest := []) F ((m_X2_meanPitch l κ mm σ th kp hI) _) (cwV 0 hts gL_law_X2_meanPitch rfl rfl rfl (by decide +kernel) ⟨(Nat.le_of_ble_eq_true rfl), (Nat.le_of_ble_eq_true rfl)⟩) (pre_V hK hW [15, 16, 17, 18] rfl (by decide) 2 15 rfl rfl) rfl rfl hl.1 rfl (lv_room (Nat.le_of_ble_eq_true rfl)) dL_law_1473 ⟨(by first | exact Nat.le_of_ble_eq_true rfl | omega | (dsimp only [rm_law, rm_X2_meanPitch]; omega)), (by first | exact Nat.le_of_ble_eq_true rfl | omega | (dsimp only [rm_law, rm_X2_meanPitch]; omega))⟩) rfl rfl rfl (by decide) rfl (fun _ => rfl) (by first | exact Nat.le_of_ble_eq_true rfl | omega | (dsimp only [rm_law, rm_X2_meanPitch]; omega)) (by first | exact Nat.le_of_ble_eq_true rfl | omega | (dsimp only [rm_law, rm_X2_meanPitch]; omega)) (fun r_4 u H locs hp_3 hW => ?_)
  subst hp_3
  refine lv_dstore (lv' := [(7, .double (mp σ)), (5, .double (mp σ)), (0, .ref b), (1, .ref x), (2, .ref (mm 0)), (3, .ref o), (4, .int (J (4 * (i : Int))))]) hx hb dL_law_1476 hl (by decide) rfl (fun ls hl => ?_)
  refine lv_dload hx hb dL_law_1478 (lv_at hl 1 rfl) ?_
  refine lv_dload hx hb dL_law_1480 (lv_at hl 0 rfl) ?_
  refine lv_dcmp hx hb dL_law_1482 ?_
  refine jv_top hcv.2 ?_
  refine jv_if_eq hx hb 1504 dL_law_1483 (by decide) ⟨by omega, by omega⟩ (fun h_5 => ?_) (fun h_5 => ?_)
  · skip
    refine lv_goto (tgt := 1521) hx hb dL_law_1504 (by decide) ?_
    refine W.widen (k := k + 300) (n := n + 2000) (by omega) (by omega) ?_
    exact next σ τ br bt kp 0 g _ _ _ hI (by omega) (by omega) hW (lv_sub hl [2, 3, 4, 5, 6] rfl)
  · skip
    refine lv_dload hx hb dL_law_1486 (lv_at hl 1 rfl) ?_
    refine lv_dload hx hb dL_law_1488 (lv_at hl 1 rfl) ?_
    refine lv_dcmp hx hb dL_law_1490 ?_
    refine jv_top hcv.2 ?_
    refine jv_if_eq hx hb 1502 dL_law_1491 (by decide) ⟨by omega, by omega⟩ (fun h_6 => ?_) (fun h_6 => ?_)
    · skip
      exfalso
      omega
    · skip
      refine lv_dload hx hb dL_law_1494 (lv_at hl 0 rfl) ?_
      refine lv_dload hx hb dL_law_1496 (lv_at hl 0 rfl) ?_
      refine lv_dcmp hx hb dL_law_1498 ?_
      refine jv_top hcv.2 ?_
      refine jv_if_ne hx hb 1504 dL_law_1499 (by decide) ⟨by omega, by omega⟩ (fun h_7 => ?_) (fun h_7 => ?_)
      · skip
        refine lv_goto (tgt := 1521) hx hb dL_law_1504 (by decide) ?_
        refine W.widen (k := k + 300) (n := n + 2000) (by omega) (by omega) ?_
        exact next σ τ br bt kp 0 g _ _ _ hI (by omega) (by omega) hW (lv_sub hl [2, 3, 4, 5, 6] rfl)
      · skip
        exfalso
        omega
