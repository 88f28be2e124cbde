set_option maxHeartbeats 4000000 in
set_option maxRecDepth 100000 in
/-- the law: c20 -/
theorem law_c20 {P : Program} {l : Launch} {e : Env} {s : State} {m : MethodId} {below : List Frame} {meth : Method} {c : Code} {Q : State → Prop} {b L : Nat} {xs : Nat → Int32} {κ : Kp} {A : Nat → Prop} {x o : Nat} {a a2 mm : Nat → Nat} (hstk : l.stackTraces = false) (F : CallFix P m c cL_law 9 s #[Value.ref b] wsL_law RL) (hK : Kx κ s) (hT : Tk A s s.heap) (hN9 : Ncx s) (hA : ∀ q, s.heap.size ≤ q → A q) (hX : va_X b L xs s s.heap) (hbl : b < s.heap.size) (hbA : ¬ A b) (hL : L ≤ 2048) {i : Nat} (hi : 4 * i + 4 ≤ L) {k n : Nat} (hk : k + 300 ≤ 601024) (hn : n + 2000 ≤ 7293034) {σ τ : Sg} {br bt kp : Nat → Int} {th : Int} {g : Nat → Int64} (hI : Inv σ) (hB0 : σ 5 0 ≤ 60 * (i : Int)) (hC0 : σ 5 1 ≤ 60 * (i : Int))
    (next : LNext P l e s m below meth c Q κ A b x o a a2 mm i k n) {H : Heap} {locs : List Loc} {ls : Array Slot} (hW : St κ A s.heap H locs (WB κ x a a2 mm o σ τ br bt kp th g)) (hl : lv_has ls 9 (LLoc b x o mm i)) : W P l e rm_law s m #[Value.ref b] below meth c H locs k n Q (F0 m 1194 ls []) := by
  obtain ⟨hx, hb, hml, hown, hts⟩ := id F
  have hN := hI.hN
  have hN10 := hI.n10
  have hB : σ 5 0 ≤ 100000000 := by omega
  have hC : σ 5 1 ≤ 100000000 := by omega
  have hz1 := sx_in xs (4 * i + 1)
  have hz2 := sx_in xs (4 * i + 2)
  have hz3 := sx_in xs (4 * i + 3)
  refine lv_aload_n hx hb dL_law_1194 rfl (lv_at hl 1 rfl) ?_
  refine lv_aload_n hx hb dL_law_1195 rfl (lv_at hl 0 rfl) ?_
  refine lv_iload hx hb dL_law_1196 (lv_at hl 4 rfl) ?_
  refine jv_iconst hx hb dL_law_1198 ?_
  refine jv_iadd hx hb dL_law_1199 ?_
  refine js_ld (xs := xs) hx hb hX hbl hbA hW ((4 * i) + 1) (by omega) (by omega) hL dL_law_1200 ?_
  refine lv_aload_n hx hb dL_law_1201 rfl (lv_at hl 3 rfl) ?_
  refine fint_i (k := (k + 2)) (n := (n + 12)) (W2 := (fun uu => (WX κ x a a2 ++ (WC κ a σ br ++ (WC κ a2 τ bt ++ (WM κ mm σ th kp ++ (WL κ o uu))))))) [0, 1, 2, 3, 4, 5, 6, 7, 19] [8, 9, 10, 11, 12, 13, 14, 15, 16, 17, 18] [11, 12, 13, 14, 15, 16, 17, 18, 0, 1, 2, 3, 4, 5, 6, 7, 8, 9, 10, 19] hW hA (vx_runSX (As := [.ref x, .int (J (sx xs ((4 * i) + 1))), .ref o]) (rest := []) F ((m_L_clashesOf l κ hstk x a a2 σ br o g (sx xs (4 * i + 1)) hz1 hI) _) (vx_cwSW 3 hts gL_law_L_clashesOf rfl rfl rfl (by decide +kernel) ⟨(Nat.le_of_ble_eq_true rfl), (Nat.le_of_ble_eq_true rfl)⟩) (pre_SL hN9 hK hT hW hA [0, 1, 2, 3, 4, 5, 6, 7, 19] rfl (by decide)) rfl rfl hl.1 rfl (lv_room (Nat.le_of_ble_eq_true rfl)) dL_law_1202 ⟨(by first | exact Nat.le_of_ble_eq_true rfl | omega | (dsimp only [rm_law, rm_L_clashesOf]; omega)), (by first | exact Nat.le_of_ble_eq_true rfl | omega | (dsimp only [rm_law, rm_L_clashesOf]; omega))⟩) rfl rfl rfl (by decide) rfl (fun _ => rfl) rfl (by first | exact Nat.le_of_ble_eq_true rfl | omega | (dsimp only [rm_law, rm_L_clashesOf]; omega)) (by first | exact Nat.le_of_ble_eq_true rfl | omega | (dsimp only [rm_law, rm_L_clashesOf]; omega)) (fun E ce q9 H locs hX hW g1 g2 g3 => False.elim hX) (fun r_2 uu H locs hp_1 hW => ?_)
  rcases hp_1 with ⟨hv, rfl, rfl⟩ | ⟨hv, rfl, hu⟩
  · skip
    have hW : St κ A s.heap H _ (WX κ x a a2 ++ (WC κ a σ br ++ (WC κ a2 τ bt ++ (WM κ mm σ th kp ++ (WL κ o (vp_updL g 0 ((J (cof σ (sx xs (4 * i + 1)).toNat)).toInt64))))))) := hW
    refine lv_istore (lv' := [(5, .int (J 0)), (0, .ref b), (1, .ref x), (2, .ref (mm 0)), (3, .ref o), (4, .int (J (4 * (i : Int))))]) hx hb dL_law_1205 hl (by decide) rfl (fun ls hl => ?_)
    refine lv_aload_n hx hb dL_law_1207 rfl (lv_at hl 3 rfl) ?_
    refine lv_aload_n hx hb dL_law_1208 rfl (lv_at hl 1 rfl) ?_
    refine lv_iload hx hb dL_law_1209 (lv_at hl 5 rfl) ?_
    refine jv_iconst hx hb dL_law_1211 ?_
    refine jv_iadd hx hb dL_law_1212 ?_
    refine js_ld (xs := xs) hx hb hX hbl hbA hW ((4 * i) + 1) (by omega) (by omega) hL dL_law_1213 ?_
    refine fin_i (k := (k + 2)) (n := (n + 12)) (W2 := (fun u2 => (WX κ x a a2 ++ (WC κ a σ br ++ (WC κ a2 τ bt ++ (WM κ mm σ u2 kp ++ (WL κ o (vp_updL g 0 ((J (cof σ (sx xs (4 * i + 1)).toNat)).toInt64))))))))) [15, 16, 17, 18] [0, 1, 2, 3, 4, 5, 6, 7, 8, 9, 10, 11, 12, 13, 14, 19] [0, 1, 2, 3, 4, 5, 6, 7, 8, 9, 10, 11, 12, 13, 14, 16, 17, 18, 19, 15] hW hA (va_runV (As := [.int (J (sx xs ((4 * i) + 1)))]) (rest := []) F ((m_X2_clashesOf l κ mm σ th kp (sx xs (4 * i + 1)) hz1 hI) _) (cwV 1 hts gL_law_X2_clashesOf rfl rfl rfl (by decide +kernel) ⟨(Nat.le_of_ble_eq_true rfl), (Nat.le_of_ble_eq_true rfl)⟩) (pre_V hK hW [15, 16, 17, 18] rfl (by decide) 2 15 rfl rfl) rfl rfl hl.1 rfl (lv_room (Nat.le_of_ble_eq_true rfl)) dL_law_1214 ⟨(by first | exact Nat.le_of_ble_eq_true rfl | omega | (dsimp only [rm_law, rm_X2_clashesOf]; omega)), (by first | exact Nat.le_of_ble_eq_true rfl | omega | (dsimp only [rm_law, rm_X2_clashesOf]; omega))⟩) rfl rfl rfl (by decide) rfl (fun _ => rfl) (by first | exact Nat.le_of_ble_eq_true rfl | omega | (dsimp only [rm_law, rm_X2_clashesOf]; omega)) (by first | exact Nat.le_of_ble_eq_true rfl | omega | (dsimp only [rm_law, rm_X2_clashesOf]; omega)) (fun r_4 u2 H locs hp_3 hW => ?_)
    rcases hp_3 with ⟨h2, rfl, rfl⟩ | ⟨h2, rfl, rfl⟩
    · skip
      have hW : St κ A s.heap H _ (WX κ x a a2 ++ (WC κ a σ br ++ (WC κ a2 τ bt ++ (WM κ mm σ 0 kp ++ (WL κ o (vp_updL g 0 ((J (cof σ (sx xs (4 * i + 1)).toNat)).toInt64))))))) := hW
      refine lv_istore (lv' := [(6, .int (J (cof σ (sx xs (4 * i + 1)).toNat))), (5, .int (J 0)), (0, .ref b), (1, .ref x), (2, .ref (mm 0)), (3, .ref o), (4, .int (J (4 * (i : Int))))]) hx hb dL_law_1217 hl (by decide) rfl (fun ls hl => ?_)
      refine lv_aload_n hx hb dL_law_1219 rfl (lv_at hl 4 rfl) ?_
      refine fin_i (k := (k + 2)) (n := (n + 12)) (W2 := (fun _ => (WX κ x a a2 ++ (WC κ a σ br ++ (WC κ a2 τ bt ++ (WM κ mm σ 0 kp ++ (WL κ o (vp_updL g 0 ((J (cof σ (sx xs (4 * i + 1)).toNat)).toInt64))))))))) [15, 16, 17, 18] [0, 1, 2, 3, 4, 5, 6, 7, 8, 9, 10, 11, 12, 13, 14, 19] [0, 1, 2, 3, 4, 5, 6, 7, 8, 9, 10, 11, 12, 13, 14, 16, 17, 18, 19, 15] hW hA (va_runV (As := []) (rest := []) F ((m_X2_thrown l κ mm σ 0 kp) _) (cwV 0 hts gL_law_X2_thrown rfl rfl rfl (by decide +kernel) ⟨(Nat.le_of_ble_eq_true rfl), (Nat.le_of_ble_eq_true rfl)⟩) (pre_V hK hW [15, 16, 17, 18] rfl (by decide) 2 15 rfl rfl) rfl rfl hl.1 rfl (lv_room (Nat.le_of_ble_eq_true rfl)) dL_law_1220 ⟨(by first | exact Nat.le_of_ble_eq_true rfl | omega | (dsimp only [rm_law, rm_X2_thrown]; omega)), (by first | exact Nat.le_of_ble_eq_true rfl | omega | (dsimp only [rm_law, rm_X2_thrown]; omega))⟩) rfl rfl rfl (by decide) rfl (fun _ => rfl) (by first | exact Nat.le_of_ble_eq_true rfl | omega | (dsimp only [rm_law, rm_X2_thrown]; omega)) (by first | exact Nat.le_of_ble_eq_true rfl | omega | (dsimp only [rm_law, rm_X2_thrown]; omega)) (fun r_6 u H locs hp_5 hW => ?_)
      subst hp_5
      refine lv_iload hx hb dL_law_1223 (lv_at hl 1 rfl) ?_
      refine lv_icmp_eq (tgt := 1230) hx hb dL_law_1225 (by decide) (fun _ => ?_) (fun h => absurd rfl h)
      refine lv_iload hx hb dL_law_1230 (lv_at hl 1 rfl) ?_
      refine jv_if_ne hx hb 1247 dL_law_1232 (by decide) ⟨by omega, by omega⟩ (fun h => by exfalso; omega) (fun h => ?_)
      refine lv_aload_n hx hb dL_law_1235 rfl (lv_at hl 5 rfl) ?_
      refine jv_iconst hx hb dL_law_1236 ?_
      refine jv_lald (g := (vp_updL g 0 ((J (cof σ (sx xs (4 * i + 1)).toNat)).toInt64))) hx hb hK hW 19 rfl dL_law_1237 ?_
      refine lv_iload hx hb dL_law_1238 (lv_at hl 0 rfl) ?_
      refine lv_i2l hx hb dL_law_1240 rfl ?_
      refine jv_lcmp hx hb rfl dL_law_1241 ?_
      refine jv_if_eq hx hb 1247 dL_law_1242 (by decide) ⟨by omega, by omega⟩ (fun h => ?_) (fun h => by exfalso; omega)
      refine lv_goto (tgt := 1521) hx hb dL_law_1247 (by decide) ?_
      refine W.widen (k := k + 300) (n := n + 2000) (by omega) (by omega) ?_
      exact next σ τ br bt kp 0 (vp_updL g 0 ((J (cof σ (sx xs (4 * i + 1)).toNat)).toInt64)) _ _ _ hI (by omega) (by omega) hW (lv_sub hl [2, 3, 4, 5, 6] rfl)
    · exact (h2 hv).elim
  · skip
    have hu := hu.symm
    subst hu
    have hW : St κ A s.heap H _ (WX κ x a a2 ++ (WC κ a σ br ++ (WC κ a2 τ bt ++ (WM κ mm σ th kp ++ (WL κ o g))))) := hW
    refine lv_istore (lv' := [(5, .int (J 1)), (0, .ref b), (1, .ref x), (2, .ref (mm 0)), (3, .ref o), (4, .int (J (4 * (i : Int))))]) hx hb dL_law_1205 hl (by decide) rfl (fun ls hl => ?_)
    refine lv_aload_n hx hb dL_law_1207 rfl (lv_at hl 3 rfl) ?_
    refine lv_aload_n hx hb dL_law_1208 rfl (lv_at hl 1 rfl) ?_
    refine lv_iload hx hb dL_law_1209 (lv_at hl 5 rfl) ?_
    refine jv_iconst hx hb dL_law_1211 ?_
    refine jv_iadd hx hb dL_law_1212 ?_
    refine js_ld (xs := xs) hx hb hX hbl hbA hW ((4 * i) + 1) (by omega) (by omega) hL dL_law_1213 ?_
    refine fin_i (k := (k + 2)) (n := (n + 12)) (W2 := (fun u2 => (WX κ x a a2 ++ (WC κ a σ br ++ (WC κ a2 τ bt ++ (WM κ mm σ u2 kp ++ (WL κ o g))))))) [15, 16, 17, 18] [0, 1, 2, 3, 4, 5, 6, 7, 8, 9, 10, 11, 12, 13, 14, 19] [0, 1, 2, 3, 4, 5, 6, 7, 8, 9, 10, 11, 12, 13, 14, 16, 17, 18, 19, 15] hW hA (va_runV (As := [.int (J (sx xs ((4 * i) + 1)))]) (rest := []) F ((m_X2_clashesOf l κ mm σ th kp (sx xs (4 * i + 1)) hz1 hI) _) (cwV 1 hts gL_law_X2_clashesOf rfl rfl rfl (by decide +kernel) ⟨(Nat.le_of_ble_eq_true rfl), (Nat.le_of_ble_eq_true rfl)⟩) (pre_V hK hW [15, 16, 17, 18] rfl (by decide) 2 15 rfl rfl) rfl rfl hl.1 rfl (lv_room (Nat.le_of_ble_eq_true rfl)) dL_law_1214 ⟨(by first | exact Nat.le_of_ble_eq_true rfl | omega | (dsimp only [rm_law, rm_X2_clashesOf]; omega)), (by first | exact Nat.le_of_ble_eq_true rfl | omega | (dsimp only [rm_law, rm_X2_clashesOf]; omega))⟩) rfl rfl rfl (by decide) rfl (fun _ => rfl) (by first | exact Nat.le_of_ble_eq_true rfl | omega | (dsimp only [rm_law, rm_X2_clashesOf]; omega)) (by first | exact Nat.le_of_ble_eq_true rfl | omega | (dsimp only [rm_law, rm_X2_clashesOf]; omega)) (fun r_8 u2 H locs hp_7 hW => ?_)
    rcases hp_7 with ⟨h2, rfl, rfl⟩ | ⟨h2, rfl, rfl⟩
    · exact (hv h2).elim
    · skip
      have hW : St κ A s.heap H _ (WX κ x a a2 ++ (WC κ a σ br ++ (WC κ a2 τ bt ++ (WM κ mm σ 1 kp ++ (WL κ o g))))) := hW
      refine lv_istore (lv' := [(6, .int (J 0)), (5, .int (J 1)), (0, .ref b), (1, .ref x), (2, .ref (mm 0)), (3, .ref o), (4, .int (J (4 * (i : Int))))]) hx hb dL_law_1217 hl (by decide) rfl (fun ls hl => ?_)
      refine lv_aload_n hx hb dL_law_1219 rfl (lv_at hl 4 rfl) ?_
      refine fin_i (k := (k + 2)) (n := (n + 12)) (W2 := (fun _ => (WX κ x a a2 ++ (WC κ a σ br ++ (WC κ a2 τ bt ++ (WM κ mm σ 1 kp ++ (WL κ o g))))))) [15, 16, 17, 18] [0, 1, 2, 3, 4, 5, 6, 7, 8, 9, 10, 11, 12, 13, 14, 19] [0, 1, 2, 3, 4, 5, 6, 7, 8, 9, 10, 11, 12, 13, 14, 16, 17, 18, 19, 15] hW hA (va_runV (As := []) (rest := []) F ((m_X2_thrown l κ mm σ 1 kp) _) (cwV 0 hts gL_law_X2_thrown rfl rfl rfl (by decide +kernel) ⟨(Nat.le_of_ble_eq_true rfl), (Nat.le_of_ble_eq_true rfl)⟩) (pre_V hK hW [15, 16, 17, 18] rfl (by decide) 2 15 rfl rfl) rfl rfl hl.1 rfl (lv_room (Nat.le_of_ble_eq_true rfl)) dL_law_1220 ⟨(by first | exact Nat.le_of_ble_eq_true rfl | omega | (dsimp only [rm_law, rm_X2_thrown]; omega)), (by first | exact Nat.le_of_ble_eq_true rfl | omega | (dsimp only [rm_law, rm_X2_thrown]; omega))⟩) rfl rfl rfl (by decide) rfl (fun _ => rfl) (by first | exact Nat.le_of_ble_eq_true rfl | omega | (dsimp only [rm_law, rm_X2_thrown]; omega)) (by first | exact Nat.le_of_ble_eq_true rfl | omega | (dsimp only [rm_law, rm_X2_thrown]; omega)) (fun r_10 u H locs hp_9 hW => ?_)
      subst hp_9
      refine lv_iload hx hb dL_law_1223 (lv_at hl 1 rfl) ?_
      refine lv_icmp_eq (tgt := 1230) hx hb dL_law_1225 (by decide) (fun _ => ?_) (fun h => absurd rfl h)
      refine lv_iload hx hb dL_law_1230 (lv_at hl 1 rfl) ?_
      refine jv_if_ne hx hb 1247 dL_law_1232 (by decide) ⟨by omega, by omega⟩ (fun h => ?_) (fun h => by exfalso; omega)
      refine lv_goto (tgt := 1521) hx hb dL_law_1247 (by decide) ?_
      refine W.widen (k := k + 300) (n := n + 2000) (by omega) (by omega) ?_
      exact next σ τ br bt kp 1 g _ _ _ hI (by omega) (by omega) hW (lv_sub hl [2, 3, 4, 5, 6] rfl)

set_option maxHeartbeats 4000000 in
set_option maxRecDepth 100000 in
/-- the law: c25 -/
theorem law_c25 {P : Program} {l : Launch} {e : Env} {s : State} {m : MethodId} {below : List Frame} {meth : Method} {c : Code} {Q : State → Prop} {b L : Nat} {xs : Nat → Int32} {κ : Kp} {A : Nat → Prop} {x o : Nat} {a a2 mm : Nat → Nat} (hstk : l.stackTraces = false) (F : CallFix P m c cL_law 9 s #[Value.ref b] wsL_law RL) (hK : Kx κ s) (hT : Tk A s s.heap) (hN9 : Ncx s) (hA : ∀ q, s.heap.size ≤ q → A q) (hX : va_X b L xs s s.heap) (hbl : b < s.heap.size) (hbA : ¬ A b) (hL : L ≤ 2048) {i : Nat} (hi : 4 * i + 4 ≤ L) {k n : Nat} (hk : k + 300 ≤ 601024) (hn : n + 2000 ≤ 7293034) {σ τ : Sg} {br bt kp : Nat → Int} {th : Int} {g : Nat → Int64} (hI : Inv σ) (hB0 : σ 5 0 ≤ 60 * (i : Int)) (hC0 : σ 5 1 ≤ 60 * (i : Int))
    (next : LNext P l e s m below meth c Q κ A b x o a a2 mm i k n) {H : Heap} {locs : List Loc} {ls : Array Slot} (hW : St κ A s.heap H locs (WB κ x a a2 mm o σ τ br bt kp th g)) (hl : lv_has ls 9 (LLoc b x o mm i)) : W P l e rm_law s m #[Value.ref b] below meth c H locs k n Q (F0 m 1302 ls []) := by
  obtain ⟨hx, hb, hml, hown, hts⟩ := id F
  have hN := hI.hN
  have hN10 := hI.n10
  have hB : σ 5 0 ≤ 100000000 := by omega
  have hC : σ 5 1 ≤ 100000000 := by omega
  have hz1 := sx_in xs (4 * i + 1)
  have hz2 := sx_in xs (4 * i + 2)
  have hz3 := sx_in xs (4 * i + 3)
  refine lv_aload_n hx hb dL_law_1302 rfl (lv_at hl 1 rfl) ?_
  refine lv_aload_n hx hb dL_law_1303 rfl (lv_at hl 0 rfl) ?_
  refine lv_iload hx hb dL_law_1304 (lv_at hl 4 rfl) ?_
  refine jv_iconst hx hb dL_law_1306 ?_
  refine jv_iadd hx hb dL_law_1307 ?_
  refine js_ld (xs := xs) hx hb hX hbl hbA hW ((4 * i) + 1) (by omega) (by omega) hL dL_law_1308 ?_
  refine lv_aload_n hx hb dL_law_1309 rfl (lv_at hl 3 rfl) ?_
  refine fint_i (k := (k + 2)) (n := (n + 12)) (W2 := (fun uu => (WX κ x a a2 ++ (WC κ a σ br ++ (WC κ a2 τ bt ++ (WM κ mm σ th kp ++ (WL κ o uu))))))) [0, 1, 2, 3, 4, 5, 6, 7, 19] [8, 9, 10, 11, 12, 13, 14, 15, 16, 17, 18] [11, 12, 13, 14, 15, 16, 17, 18, 0, 1, 2, 3, 4, 5, 6, 7, 8, 9, 10, 19] hW hA (vx_runSX (As := [.ref x, .int (J (sx xs ((4 * i) + 1))), .ref o]) (rest := []) F ((m_L_bestTuning l κ hstk x a a2 σ br o g (sx xs (4 * i + 1)) hz1 hI) _) (vx_cwSW 3 hts gL_law_L_bestTuning rfl rfl rfl (by decide +kernel) ⟨(Nat.le_of_ble_eq_true rfl), (Nat.le_of_ble_eq_true rfl)⟩) (pre_SL hN9 hK hT hW hA [0, 1, 2, 3, 4, 5, 6, 7, 19] rfl (by decide)) rfl rfl hl.1 rfl (lv_room (Nat.le_of_ble_eq_true rfl)) dL_law_1310 ⟨(by first | exact Nat.le_of_ble_eq_true rfl | omega | (dsimp only [rm_law, rm_L_bestTuning]; omega)), (by first | exact Nat.le_of_ble_eq_true rfl | omega | (dsimp only [rm_law, rm_L_bestTuning]; omega))⟩) rfl rfl rfl (by decide) rfl (fun _ => rfl) rfl (by first | exact Nat.le_of_ble_eq_true rfl | omega | (dsimp only [rm_law, rm_L_bestTuning]; omega)) (by first | exact Nat.le_of_ble_eq_true rfl | omega | (dsimp only [rm_law, rm_L_bestTuning]; omega)) (fun E ce q9 H locs hX hW g1 g2 g3 => False.elim hX) (fun r_2 uu H locs hp_1 hW => ?_)
  rcases hp_1 with ⟨hv, rfl, rfl⟩ | ⟨hv, rfl, hu⟩
  · skip
    have hW : St κ A s.heap H _ (WX κ x a a2 ++ (WC κ a σ br ++ (WC κ a2 τ bt ++ (WM κ mm σ th kp ++ (WL κ o (vp_updL g 0 ((J (btu σ (sx xs (4 * i + 1)).toNat)).toInt64))))))) := hW
    refine lv_istore (lv' := [(5, .int (J 0)), (0, .ref b), (1, .ref x), (2, .ref (mm 0)), (3, .ref o), (4, .int (J (4 * (i : Int))))]) hx hb dL_law_1313 hl (by decide) rfl (fun ls hl => ?_)
    refine lv_aload_n hx hb dL_law_1315 rfl (lv_at hl 3 rfl) ?_
    refine lv_aload_n hx hb dL_law_1316 rfl (lv_at hl 1 rfl) ?_
    refine lv_iload hx hb dL_law_1317 (lv_at hl 5 rfl) ?_
    refine jv_iconst hx hb dL_law_1319 ?_
    refine jv_iadd hx hb dL_law_1320 ?_
    refine js_ld (xs := xs) hx hb hX hbl hbA hW ((4 * i) + 1) (by omega) (by omega) hL dL_law_1321 ?_
    refine fin_i (k := (k + 2)) (n := (n + 12)) (W2 := (fun u2 => (WX κ x a a2 ++ (WC κ a σ br ++ (WC κ a2 τ bt ++ (WM κ mm σ u2 kp ++ (WL κ o (vp_updL g 0 ((J (btu σ (sx xs (4 * i + 1)).toNat)).toInt64))))))))) [15, 16, 17, 18] [0, 1, 2, 3, 4, 5, 6, 7, 8, 9, 10, 11, 12, 13, 14, 19] [0, 1, 2, 3, 4, 5, 6, 7, 8, 9, 10, 11, 12, 13, 14, 16, 17, 18, 19, 15] hW hA (va_runV (As := [.int (J (sx xs ((4 * i) + 1)))]) (rest := []) F ((m_X2_bestTuning l κ mm σ th kp (sx xs (4 * i + 1)) hz1 hI) _) (cwV 1 hts gL_law_X2_bestTuning rfl rfl rfl (by decide +kernel) ⟨(Nat.le_of_ble_eq_true rfl), (Nat.le_of_ble_eq_true rfl)⟩) (pre_V hK hW [15, 16, 17, 18] rfl (by decide) 2 15 rfl rfl) rfl rfl hl.1 rfl (lv_room (Nat.le_of_ble_eq_true rfl)) dL_law_1322 ⟨(by first | exact Nat.le_of_ble_eq_true rfl | omega | (dsimp only [rm_law, rm_X2_bestTuning]; omega)), (by first | exact Nat.le_of_ble_eq_true rfl | omega | (dsimp only [rm_law, rm_X2_bestTuning]; omega))⟩) rfl rfl rfl (by decide) rfl (fun _ => rfl) (by first | exact Nat.le_of_ble_eq_true rfl | omega | (dsimp only [rm_law, rm_X2_bestTuning]; omega)) (by first | exact Nat.le_of_ble_eq_true rfl | omega | (dsimp only [rm_law, rm_X2_bestTuning]; omega)) (fun r_4 u2 H locs hp_3 hW => ?_)
    rcases hp_3 with ⟨h2, rfl, rfl⟩ | ⟨h2, rfl, rfl⟩
    · skip
      have hW : St κ A s.heap H _ (WX κ x a a2 ++ (WC κ a σ br ++ (WC κ a2 τ bt ++ (WM κ mm σ 0 kp ++ (WL κ o (vp_updL g 0 ((J (btu σ (sx xs (4 * i + 1)).toNat)).toInt64))))))) := hW
      refine lv_istore (lv' := [(6, .int (J (btu σ (sx xs (4 * i + 1)).toNat))), (5, .int (J 0)), (0, .ref b), (1, .ref x), (2, .ref (mm 0)), (3, .ref o), (4, .int (J (4 * (i : Int))))]) hx hb dL_law_1325 hl (by decide) rfl (fun ls hl => ?_)
      refine lv_aload_n hx hb dL_law_1327 rfl (lv_at hl 4 rfl) ?_
      refine fin_i (k := (k + 2)) (n := (n + 12)) (W2 := (fun _ => (WX κ x a a2 ++ (WC κ a σ br ++ (WC κ a2 τ bt ++ (WM κ mm σ 0 kp ++ (WL κ o (vp_updL g 0 ((J (btu σ (sx xs (4 * i + 1)).toNat)).toInt64))))))))) [15, 16, 17, 18] [0, 1, 2, 3, 4, 5, 6, 7, 8, 9, 10, 11, 12, 13, 14, 19] [0, 1, 2, 3, 4, 5, 6, 7, 8, 9, 10, 11, 12, 13, 14, 16, 17, 18, 19, 15] hW hA (va_runV (As := []) (rest := []) F ((m_X2_thrown l κ mm σ 0 kp) _) (cwV 0 hts gL_law_X2_thrown rfl rfl rfl (by decide +kernel) ⟨(Nat.le_of_ble_eq_true rfl), (Nat.le_of_ble_eq_true rfl)⟩) (pre_V hK hW [15, 16, 17, 18] rfl (by decide) 2 15 rfl rfl) rfl rfl hl.1 rfl (lv_room (Nat.le_of_ble_eq_true rfl)) dL_law_1328 ⟨(by first | exact Nat.le_of_ble_eq_true rfl | omega | (dsimp only [rm_law, rm_X2_thrown]; omega)), (by first | exact Nat.le_of_ble_eq_true rfl | omega | (dsimp only [rm_law, rm_X2_thrown]; omega))⟩) rfl rfl rfl (by decide) rfl (fun _ => rfl) (by first | exact Nat.le_of_ble_eq_true rfl | omega | (dsimp only [rm_law, rm_X2_thrown]; omega)) (by first | exact Nat.le_of_ble_eq_true rfl | omega | (dsimp only [rm_law, rm_X2_thrown]; omega)) (fun r_6 u H locs hp_5 hW => ?_)
      subst hp_5
      refine lv_iload hx hb dL_law_1331 (lv_at hl 1 rfl) ?_
      refine lv_icmp_eq (tgt := 1338) hx hb dL_law_1333 (by decide) (fun _ => ?_) (fun h => absurd rfl h)
      refine lv_iload hx hb dL_law_1338 (lv_at hl 1 rfl) ?_
      refine jv_if_ne hx hb 1355 dL_law_1340 (by decide) ⟨by omega, by omega⟩ (fun h => by exfalso; omega) (fun h => ?_)
      refine lv_aload_n hx hb dL_law_1343 rfl (lv_at hl 5 rfl) ?_
      refine jv_iconst hx hb dL_law_1344 ?_
      refine jv_lald (g := (vp_updL g 0 ((J (btu σ (sx xs (4 * i + 1)).toNat)).toInt64))) hx hb hK hW 19 rfl dL_law_1345 ?_
      refine lv_iload hx hb dL_law_1346 (lv_at hl 0 rfl) ?_
      refine lv_i2l hx hb dL_law_1348 rfl ?_
      refine jv_lcmp hx hb rfl dL_law_1349 ?_
      refine jv_if_eq hx hb 1355 dL_law_1350 (by decide) ⟨by omega, by omega⟩ (fun h => ?_) (fun h => by exfalso; omega)
      refine lv_goto (tgt := 1521) hx hb dL_law_1355 (by decide) ?_
      refine W.widen (k := k + 300) (n := n + 2000) (by omega) (by omega) ?_
      exact next σ τ br bt kp 0 (vp_updL g 0 ((J (btu σ (sx xs (4 * i + 1)).toNat)).toInt64)) _ _ _ hI (by omega) (by omega) hW (lv_sub hl [2, 3, 4, 5, 6] rfl)
    · exact (h2 hv).elim
  · skip
    have hu := hu.symm
    subst hu
    have hW : St κ A s.heap H _ (WX κ x a a2 ++ (WC κ a σ br ++ (WC κ a2 τ bt ++ (WM κ mm σ th kp ++ (WL κ o g))))) := hW
    refine lv_istore (lv' := [(5, .int (J 1)), (0, .ref b), (1, .ref x), (2, .ref (mm 0)), (3, .ref o), (4, .int (J (4 * (i : Int))))]) hx hb dL_law_1313 hl (by decide) rfl (fun ls hl => ?_)
    refine lv_aload_n hx hb dL_law_1315 rfl (lv_at hl 3 rfl) ?_
    refine lv_aload_n hx hb dL_law_1316 rfl (lv_at hl 1 rfl) ?_
    refine lv_iload hx hb dL_law_1317 (lv_at hl 5 rfl) ?_
    refine jv_iconst hx hb dL_law_1319 ?_
    refine jv_iadd hx hb dL_law_1320 ?_
    refine js_ld (xs := xs) hx hb hX hbl hbA hW ((4 * i) + 1) (by omega) (by omega) hL dL_law_1321 ?_
    refine fin_i (k := (k + 2)) (n := (n + 12)) (W2 := (fun u2 => (WX κ x a a2 ++ (WC κ a σ br ++ (WC κ a2 τ bt ++ (WM κ mm σ u2 kp ++ (WL κ o g))))))) [15, 16, 17, 18] [0, 1, 2, 3, 4, 5, 6, 7, 8, 9, 10, 11, 12, 13, 14, 19] [0, 1, 2, 3, 4, 5, 6, 7, 8, 9, 10, 11, 12, 13, 14, 16, 17, 18, 19, 15] hW hA (va_runV (As := [.int (J (sx xs ((4 * i) + 1)))]) (rest := []) F ((m_X2_bestTuning l κ mm σ th kp (sx xs (4 * i + 1)) hz1 hI) _) (cwV 1 hts gL_law_X2_bestTuning rfl rfl rfl (by decide +kernel) ⟨(Nat.le_of_ble_eq_true rfl), (Nat.le_of_ble_eq_true rfl)⟩) (pre_V hK hW [15, 16, 17, 18] rfl (by decide) 2 15 rfl rfl) rfl rfl hl.1 rfl (lv_room (Nat.le_of_ble_eq_true rfl)) dL_law_1322 ⟨(by first | exact Nat.le_of_ble_eq_true rfl | omega | (dsimp only [rm_law, rm_X2_bestTuning]; omega)), (by first | exact Nat.le_of_ble_eq_true rfl | omega | (dsimp only [rm_law, rm_X2_bestTuning]; omega))⟩) rfl rfl rfl (by decide) rfl (fun _ => rfl) (by first | exact Nat.le_of_ble_eq_true rfl | omega | (dsimp only [rm_law, rm_X2_bestTuning]; omega)) (by first | exact Nat.le_of_ble_eq_true rfl | omega | (dsimp only [rm_law, rm_X2_bestTuning]; omega)) (fun r_8 u2 H locs hp_7 hW => ?_)
    rcases hp_7 with ⟨h2, rfl, rfl⟩ | ⟨h2, rfl, rfl⟩
    · exact (hv h2).elim
    · skip
      have hW : St κ A s.heap H _ (WX κ x a a2 ++ (WC κ a σ br ++ (WC κ a2 τ bt ++ (WM κ mm σ 1 kp ++ (WL κ o g))))) := hW
      refine lv_istore (lv' := [(6, .int (J 0)), (5, .int (J 1)), (0, .ref b), (1, .ref x), (2, .ref (mm 0)), (3, .ref o), (4, .int (J (4 * (i : Int))))]) hx hb dL_law_1325 hl (by decide) rfl (fun ls hl => ?_)
      refine lv_aload_n hx hb dL_law_1327 rfl (lv_at hl 4 rfl) ?_
      refine fin_i (k := (k + 2)) (n := (n + 12)) (W2 := (fun _ => (WX κ x a a2 ++ (WC κ a σ br ++ (WC κ a2 τ bt ++ (WM κ mm σ 1 kp ++ (WL κ o g))))))) [15, 16, 17, 18] [0, 1, 2, 3, 4, 5, 6, 7, 8, 9, 10, 11, 12, 13, 14, 19] [0, 1, 2, 3, 4, 5, 6, 7, 8, 9, 10, 11, 12, 13, 14, 16, 17, 18, 19, 15] hW hA (va_runV (As := []) (rest := []) F ((m_X2_thrown l κ mm σ 1 kp) _) (cwV 0 hts gL_law_X2_thrown rfl rfl rfl (by decide +kernel) ⟨(Nat.le_of_ble_eq_true rfl), (Nat.le_of_ble_eq_true rfl)⟩) (pre_V hK hW [15, 16, 17, 18] rfl (by decide) 2 15 rfl rfl) rfl rfl hl.1 rfl (lv_room (Nat.le_of_ble_eq_true rfl)) dL_law_1328 ⟨(by first | exact Nat.le_of_ble_eq_true rfl | omega | (dsimp only [rm_law, rm_X2_thrown]; omega)), (by first | exact Nat.le_of_ble_eq_true rfl | omega | (dsimp only [rm_law, rm_X2_thrown]; omega))⟩) rfl rfl rfl (by decide) rfl (fun _ => rfl) (by first | exact Nat.le_of_ble_eq_true rfl | omega | (dsimp only [rm_law, rm_X2_thrown]; omega)) (by first | exact Nat.le_of_ble_eq_true rfl | omega | (dsimp only [rm_law, rm_X2_thrown]; omega)) (fun r_10 u H locs hp_9 hW => ?_)
      subst hp_9
      refine lv_iload hx hb dL_law_1331 (lv_at hl 1 rfl) ?_
      refine lv_icmp_eq (tgt := 1338) hx hb dL_law_1333 (by decide) (fun _ => ?_) (fun h => absurd rfl h)
      refine lv_iload hx hb dL_law_1338 (lv_at hl 1 rfl) ?_
      refine jv_if_ne hx hb 1355 dL_law_1340 (by decide) ⟨by omega, by omega⟩ (fun h => ?_) (fun h => by exfalso; omega)
      refine lv_goto (tgt := 1521) hx hb dL_law_1355 (by decide) ?_
      refine W.widen (k := k + 300) (n := n + 2000) (by omega) (by omega) ?_
      exact next σ τ br bt kp 1 g _ _ _ hI (by omega) (by omega) hW (lv_sub hl [2, 3, 4, 5, 6] rfl)

set_option maxHeartbeats 4000000 in
set_option maxRecDepth 100000 in
/-- the law: c12 -/
theorem law_c12 {P : Program} {l : Launch} {e : Env} {s : State} {m : MethodId} {below : List Frame} {meth : Method} {c : Code} {Q : State → Prop} {b L : Nat} {xs : Nat → Int32} {κ : Kp} {A : Nat → Prop} {x o : Nat} {a a2 mm : Nat → Nat} (hstk : l.stackTraces = false) (F : CallFix P m c cL_law 9 s #[Value.ref b] wsL_law RL) (hK : Kx κ s) (hT : Tk A s s.heap) (hN9 : Ncx s) (hA : ∀ q, s.heap.size ≤ q → A q) (hX : va_X b L xs s s.heap) (hbl : b < s.heap.size) (hbA : ¬ A b) (hL : L ≤ 2048) {i : Nat} (hi : 4 * i + 4 ≤ L) {k n : Nat} (hk : k + 300 ≤ 601024) (hn : n + 2000 ≤ 7293034) {σ τ : Sg} {br bt kp : Nat → Int} {th : Int} {g : Nat → Int64} (hI : Inv σ) (hB0 : σ 5 0 ≤ 60 * (i : Int)) (hC0 : σ 5 1 ≤ 60 * (i : Int))
    (next : LNext P l e s m below meth c Q κ A b x o a a2 mm i k n) {H : Heap} {locs : List Loc} {ls : Array Slot} (hW : St κ A s.heap H locs (WB κ x a a2 mm o σ τ br bt kp th g)) (hl : lv_has ls 9 (LLoc b x o mm i)) : W P l e rm_law s m #[Value.ref b] below meth c H locs k n Q (F0 m 880 ls []) := by
  obtain ⟨hx, hb, hml, hown, hts⟩ := id F
  have hN := hI.hN
  have hN10 := hI.n10
  have hB : σ 5 0 ≤ 100000000 := by omega
  have hC : σ 5 1 ≤ 100000000 := by omega
  have hz1 := sx_in xs (4 * i + 1)
  have hz2 := sx_in xs (4 * i + 2)
  have hz3 := sx_in xs (4 * i + 3)
  refine lv_aload_n hx hb dL_law_880 rfl (lv_at hl 1 rfl) ?_
  refine lv_aload_n hx hb dL_law_881 rfl (lv_at hl 0 rfl) ?_
  refine lv_iload hx hb dL_law_882 (lv_at hl 4 rfl) ?_
  refine jv_iconst hx hb dL_law_884 ?_
  refine jv_iadd hx hb dL_law_885 ?_
  refine js_ld (xs := xs) hx hb hX hbl hbA hW ((4 * i) + 1) (by omega) (by omega) hL dL_law_886 ?_
  refine lv_aload_n hx hb dL_law_887 rfl (lv_at hl 3 rfl) ?_
  refine fint_i (k := (k + 2)) (n := (n + 12)) (W2 := (fun uu => (WX κ x a a2 ++ (WC κ a σ br ++ (WC κ a2 τ bt ++ (WM κ mm σ th kp ++ (WL κ o uu))))))) [0, 1, 2, 3, 4, 5, 6, 7, 19] [8, 9, 10, 11, 12, 13, 14, 15, 16, 17, 18] [11, 12, 13, 14, 15, 16, 17, 18, 0, 1, 2, 3, 4, 5, 6, 7, 8, 9, 10, 19] hW hA (vx_runSX (As := [.ref x, .int (J (sx xs ((4 * i) + 1))), .ref o]) (rest := []) F ((m_L_sounds l κ hstk x a a2 σ br o g (sx xs (4 * i + 1)) hz1 hI) _) (vx_cwSW 3 hts gL_law_L_sounds rfl rfl rfl (by decide +kernel) ⟨(Nat.le_of_ble_eq_true rfl), (Nat.le_of_ble_eq_true rfl)⟩) (pre_SL hN9 hK hT hW hA [0, 1, 2, 3, 4, 5, 6, 7, 19] rfl (by decide)) rfl rfl hl.1 rfl (lv_room (Nat.le_of_ble_eq_true rfl)) dL_law_888 ⟨(by first | exact Nat.le_of_ble_eq_true rfl | omega | (dsimp only [rm_law, rm_L_sounds]; omega)), (by first | exact Nat.le_of_ble_eq_true rfl | omega | (dsimp only [rm_law, rm_L_sounds]; omega))⟩) rfl rfl rfl (by decide) rfl (fun _ => rfl) rfl (by first | exact Nat.le_of_ble_eq_true rfl | omega | (dsimp only [rm_law, rm_L_sounds]; omega)) (by first | exact Nat.le_of_ble_eq_true rfl | omega | (dsimp only [rm_law, rm_L_sounds]; omega)) (fun E ce q9 H locs hX hW g1 g2 g3 => False.elim hX) (fun r_2 uu H locs hp_1 hW => ?_)
  rcases hp_1 with ⟨hv, rfl, rfl⟩ | ⟨hv, rfl, hu⟩
  · skip
    have hW : St κ A s.heap H _ (WX κ x a a2 ++ (WC κ a σ br ++ (WC κ a2 τ bt ++ (WM κ mm σ th kp ++ (WL κ o (vp_updL g 0 ((J (bi (sn σ (sx xs (4 * i + 1)).toNat))).toInt64))))))) := hW
    refine lv_istore (lv' := [(5, .int (J 0)), (0, .ref b), (1, .ref x), (2, .ref (mm 0)), (3, .ref o), (4, .int (J (4 * (i : Int))))]) hx hb dL_law_891 hl (by decide) rfl (fun ls hl => ?_)
    refine lv_aload_n hx hb dL_law_893 rfl (lv_at hl 3 rfl) ?_
    refine lv_aload_n hx hb dL_law_894 rfl (lv_at hl 1 rfl) ?_
    refine lv_iload hx hb dL_law_895 (lv_at hl 5 rfl) ?_
    refine jv_iconst hx hb dL_law_897 ?_
    refine jv_iadd hx hb dL_law_898 ?_
    refine js_ld (xs := xs) hx hb hX hbl hbA hW ((4 * i) + 1) (by omega) (by omega) hL dL_law_899 ?_
    refine fin_i (k := (k + 2)) (n := (n + 12)) (W2 := (fun u2 => (WX κ x a a2 ++ (WC κ a σ br ++ (WC κ a2 τ bt ++ (WM κ mm σ u2 kp ++ (WL κ o (vp_updL g 0 ((J (bi (sn σ (sx xs (4 * i + 1)).toNat))).toInt64))))))))) [15, 16, 17, 18] [0, 1, 2, 3, 4, 5, 6, 7, 8, 9, 10, 11, 12, 13, 14, 19] [0, 1, 2, 3, 4, 5, 6, 7, 8, 9, 10, 11, 12, 13, 14, 16, 17, 18, 19, 15] hW hA (va_runV (As := [.int (J (sx xs ((4 * i) + 1)))]) (rest := []) F ((m_X2_sounds l κ mm σ th kp (sx xs (4 * i + 1)) hz1 hI) _) (cwV 1 hts gL_law_X2_sounds rfl rfl rfl (by decide +kernel) ⟨(Nat.le_of_ble_eq_true rfl), (Nat.le_of_ble_eq_true rfl)⟩) (pre_V hK hW [15, 16, 17, 18] rfl (by decide) 2 15 rfl rfl) rfl rfl hl.1 rfl (lv_room (Nat.le_of_ble_eq_true rfl)) dL_law_900 ⟨(by first | exact Nat.le_of_ble_eq_true rfl | omega | (dsimp only [rm_law, rm_X2_sounds]; omega)), (by first | exact Nat.le_of_ble_eq_true rfl | omega | (dsimp only [rm_law, rm_X2_sounds]; omega))⟩) rfl rfl rfl (by decide) rfl (fun _ => rfl) (by first | exact Nat.le_of_ble_eq_true rfl | omega | (dsimp only [rm_law, rm_X2_sounds]; omega)) (by first | exact Nat.le_of_ble_eq_true rfl | omega | (dsimp only [rm_law, rm_X2_sounds]; omega)) (fun r_4 u2 H locs hp_3 hW => ?_)
    rcases hp_3 with ⟨h2, rfl, rfl⟩ | ⟨h2, rfl, rfl⟩
    · skip
      have hW : St κ A s.heap H _ (WX κ x a a2 ++ (WC κ a σ br ++ (WC κ a2 τ bt ++ (WM κ mm σ 0 kp ++ (WL κ o (vp_updL g 0 ((J (bi (sn σ (sx xs (4 * i + 1)).toNat))).toInt64))))))) := hW
      refine lv_istore (lv' := [(6, .int (J (bi (sn σ (sx xs (4 * i + 1)).toNat)))), (5, .int (J 0)), (0, .ref b), (1, .ref x), (2, .ref (mm 0)), (3, .ref o), (4, .int (J (4 * (i : Int))))]) hx hb dL_law_903 hl (by decide) rfl (fun ls hl => ?_)
      refine lv_aload_n hx hb dL_law_905 rfl (lv_at hl 4 rfl) ?_
      refine fin_i (k := (k + 2)) (n := (n + 12)) (W2 := (fun _ => (WX κ x a a2 ++ (WC κ a σ br ++ (WC κ a2 τ bt ++ (WM κ mm σ 0 kp ++ (WL κ o (vp_updL g 0 ((J (bi (sn σ (sx xs (4 * i + 1)).toNat))).toInt64))))))))) [15, 16, 17, 18] [0, 1, 2, 3, 4, 5, 6, 7, 8, 9, 10, 11, 12, 13, 14, 19] [0, 1, 2, 3, 4, 5, 6, 7, 8, 9, 10, 11, 12, 13, 14, 16, 17, 18, 19, 15] hW hA (va_runV (As := []) (rest := []) F ((m_X2_thrown l κ mm σ 0 kp) _) (cwV 0 hts gL_law_X2_thrown rfl rfl rfl (by decide +kernel) ⟨(Nat.le_of_ble_eq_true rfl), (Nat.le_of_ble_eq_true rfl)⟩) (pre_V hK hW [15, 16, 17, 18] rfl (by decide) 2 15 rfl rfl) rfl rfl hl.1 rfl (lv_room (Nat.le_of_ble_eq_true rfl)) dL_law_906 ⟨(by first | exact Nat.le_of_ble_eq_true rfl | omega | (dsimp only [rm_law, rm_X2_thrown]; omega)), (by first | exact Nat.le_of_ble_eq_true rfl | omega | (dsimp only [rm_law, rm_X2_thrown]; omega))⟩) rfl rfl rfl (by decide) rfl (fun _ => rfl) (by first | exact Nat.le_of_ble_eq_true rfl | omega | (dsimp only [rm_law, rm_X2_thrown]; omega)) (by first | exact Nat.le_of_ble_eq_true rfl | omega | (dsimp only [rm_law, rm_X2_thrown]; omega)) (fun r_6 u H locs hp_5 hW => ?_)
      subst hp_5
      refine lv_iload hx hb dL_law_909 (lv_at hl 1 rfl) ?_
      refine lv_icmp_eq (tgt := 916) hx hb dL_law_911 (by decide) (fun _ => ?_) (fun h => absurd rfl h)
      refine lv_iload hx hb dL_law_916 (lv_at hl 1 rfl) ?_
      refine jv_if_ne hx hb 940 dL_law_918 (by decide) ⟨by omega, by omega⟩ (fun h => by exfalso; omega) (fun h => ?_)
      refine lv_aload_n hx hb dL_law_921 rfl (lv_at hl 5 rfl) ?_
      refine jv_iconst hx hb dL_law_922 ?_
      refine jv_lald (g := (vp_updL g 0 ((J (bi (sn σ (sx xs (4 * i + 1)).toNat))).toInt64))) hx hb hK hW 19 rfl dL_law_923 ?_
      refine lv_iload hx hb dL_law_924 (lv_at hl 0 rfl) ?_
      refine jv_ifb_eq (b := (sn σ (sx xs (4 * i + 1)).toNat)) hx hb 933 dL_law_926 (by decide) (fun h_7 => ?_) (fun h_7 => ?_)
      · skip
        refine lv_lconst (v := 0) hx hb dL_law_933 rfl ?_
        refine jv_lcmp hx hb (by show _ = ((J (bi (sn σ (sx xs (4 * i + 1)).toNat))).toInt64); rw [h_7]; rfl) dL_law_934 ?_
        refine jv_if_eq hx hb 940 dL_law_935 (by decide) ⟨by omega, by omega⟩ (fun h => ?_) (fun h => by exfalso; omega)
        refine lv_goto (tgt := 1521) hx hb dL_law_940 (by decide) ?_
        refine W.widen (k := k + 300) (n := n + 2000) (by omega) (by omega) ?_
        exact next σ τ br bt kp 0 (vp_updL g 0 ((J (bi (sn σ (sx xs (4 * i + 1)).toNat))).toInt64)) _ _ _ hI (by omega) (by omega) hW (lv_sub hl [2, 3, 4, 5, 6] rfl)
      · skip
        refine lv_lconst (v := 1) hx hb dL_law_929 rfl ?_
        refine lv_goto (tgt := 934) hx hb dL_law_930 (by decide) ?_
        refine jv_lcmp hx hb (by show _ = ((J (bi (sn σ (sx xs (4 * i + 1)).toNat))).toInt64); rw [h_7]; rfl) dL_law_934 ?_
        refine jv_if_eq hx hb 940 dL_law_935 (by decide) ⟨by omega, by omega⟩ (fun h => ?_) (fun h => by exfalso; omega)
        refine lv_goto (tgt := 1521) hx hb dL_law_940 (by decide) ?_
        refine W.widen (k := k + 300) (n := n + 2000) (by omega) (by omega) ?_
        exact next σ τ br bt kp 0 (vp_updL g 0 ((J (bi (sn σ (sx xs (4 * i + 1)).toNat))).toInt64)) _ _ _ hI (by omega) (by omega) hW (lv_sub hl [2, 3, 4, 5, 6] rfl)
    · exact (h2 hv).elim
  · skip
    have hu := hu.symm
    subst hu
    have hW : St κ A s.heap H _ (WX κ x a a2 ++ (WC κ a σ br ++ (WC κ a2 τ bt ++ (WM κ mm σ th kp ++ (WL κ o g))))) := hW
    refine lv_istore (lv' := [(5, .int (J 1)), (0, .ref b), (1, .ref x), (2, .ref (mm 0)), (3, .ref o), (4, .int (J (4 * (i : Int))))]) hx hb dL_law_891 hl (by decide) rfl (fun ls hl => ?_)
    refine lv_aload_n hx hb dL_law_893 rfl (lv_at hl 3 rfl) ?_
    refine lv_aload_n hx hb dL_law_894 rfl (lv_at hl 1 rfl) ?_
    refine lv_iload hx hb dL_law_895 (lv_at hl 5 rfl) ?_
    refine jv_iconst hx hb dL_law_897 ?_
    refine jv_iadd hx hb dL_law_898 ?_
    refine js_ld (xs := xs) hx hb hX hbl hbA hW ((4 * i) + 1) (by omega) (by omega) hL dL_law_899 ?_
    refine fin_i (k := (k + 2)) (n := (n + 12)) (W2 := (fun u2 => (WX κ x a a2 ++ (WC κ a σ br ++ (WC κ a2 τ bt ++ (WM κ mm σ u2 kp ++ (WL κ o g))))))) [15, 16, 17, 18] [0, 1, 2, 3, 4, 5, 6, 7, 8, 9, 10, 11, 12, 13, 14, 19] [0, 1, 2, 3, 4, 5, 6, 7, 8, 9, 10, 11, 12, 13, 14, 16, 17, 18, 19, 15] hW hA (va_runV (As := [.int (J (sx xs ((4 * i) + 1)))]) (rest := []) F ((m_X2_sounds l κ mm σ th kp (sx xs (4 * i + 1)) hz1 hI) _) (cwV 1 hts gL_law_X2_sounds rfl rfl rfl (by decide +kernel) ⟨(Nat.le_of_ble_eq_true rfl), (Nat.le_of_ble_eq_true rfl)⟩) (pre_V hK hW [15, 16, 17, 18] rfl (by decide) 2 15 rfl rfl) rfl rfl hl.1 rfl (lv_room (Nat.le_of_ble_eq_true rfl)) dL_law_900 ⟨(by first | exact Nat.le_of_ble_eq_true rfl | omega | (dsimp only [rm_law, rm_X2_sounds]; omega)), (by first | exact Nat.le_of_ble_eq_true rfl | omega | (dsimp only [rm_law, rm_X2_sounds]; omega))⟩) rfl rfl rfl (by decide) rfl (fun _ => rfl) (by first | exact Nat.le_of_ble_eq_true rfl | omega | (dsimp only [rm_law, rm_X2_sounds]; omega)) (by first | exact Nat.le_of_ble_eq_true rfl | omega | (dsimp only [rm_law, rm_X2_sounds]; omega)) (fun r_9 u2 H locs hp_8 hW => ?_)
    rcases hp_8 with ⟨h2, rfl, rfl⟩ | ⟨h2, rfl, rfl⟩
    · exact (hv h2).elim
    · skip
      have hW : St κ A s.heap H _ (WX κ x a a2 ++ (WC κ a σ br ++ (WC κ a2 τ bt ++ (WM κ mm σ 1 kp ++ (WL κ o g))))) := hW
      refine lv_istore (lv' := [(6, .int (J 0)), (5, .int (J 1)), (0, .ref b), (1, .ref x), (2, .ref (mm 0)), (3, .ref o), (4, .int (J (4 * (i : Int))))]) hx hb dL_law_903 hl (by decide) rfl (fun ls hl => ?_)
      refine lv_aload_n hx hb dL_law_905 rfl (lv_at hl 4 rfl) ?_
      refine fin_i (k := (k + 2)) (n := (n + 12)) (W2 := (fun _ => (WX κ x a a2 ++ (WC κ a σ br ++ (WC κ a2 τ bt ++ (WM κ mm σ 1 kp ++ (WL κ o g))))))) [15, 16, 17, 18] [0, 1, 2, 3, 4, 5, 6, 7, 8, 9, 10, 11, 12, 13, 14, 19] [0, 1, 2, 3, 4, 5, 6, 7, 8, 9, 10, 11, 12, 13, 14, 16, 17, 18, 19, 15] hW hA (va_runV (As := []) (rest := []) F ((m_X2_thrown l κ mm σ 1 kp) _) (cwV 0 hts gL_law_X2_thrown rfl rfl rfl (by decide +kernel) ⟨(Nat.le_of_ble_eq_true rfl), (Nat.le_of_ble_eq_true rfl)⟩) (pre_V hK hW [15, 16, 17, 18] rfl (by decide) 2 15 rfl rfl) rfl rfl hl.1 rfl (lv_room (Nat.le_of_ble_eq_true rfl)) dL_law_906 ⟨(by first | exact Nat.le_of_ble_eq_true rfl | omega | (dsimp only [rm_law, rm_X2_thrown]; omega)), (by first | exact Nat.le_of_ble_eq_true rfl | omega | (dsimp only [rm_law, rm_X2_thrown]; omega))⟩) rfl rfl rfl (by decide) rfl (fun _ => rfl) (by first | exact Nat.le_of_ble_eq_true rfl | omega | (dsimp only [rm_law, rm_X2_thrown]; omega)) (by first | exact Nat.le_of_ble_eq_true rfl | omega | (dsimp only [rm_law, rm_X2_thrown]; omega)) (fun r_11 u H locs hp_10 hW => ?_)
      subst hp_10
      refine lv_iload hx hb dL_law_909 (lv_at hl 1 rfl) ?_
      refine lv_icmp_eq (tgt := 916) hx hb dL_law_911 (by decide) (fun _ => ?_) (fun h => absurd rfl h)
      refine lv_iload hx hb dL_law_916 (lv_at hl 1 rfl) ?_
      refine jv_if_ne hx hb 940 dL_law_918 (by decide) ⟨by omega, by omega⟩ (fun h => ?_) (fun h => by exfalso; omega)
      refine lv_goto (tgt := 1521) hx hb dL_law_940 (by decide) ?_
      refine W.widen (k := k + 300) (n := n + 2000) (by omega) (by omega) ?_
      exact next σ τ br bt kp 1 g _ _ _ hI (by omega) (by omega) hW (lv_sub hl [2, 3, 4, 5, 6] rfl)

set_option maxHeartbeats 4000000 in
set_option maxRecDepth 100000 in
/-- the law: c16 -/
theorem law_c16 {P : Program} {l : Launch} {e : Env} {s : State} {m : MethodId} {below : List Frame} {meth : Method} {c : Code} {Q : State → Prop} {b L : Nat} {xs : Nat → Int32} {κ : Kp} {A : Nat → Prop} {x o : Nat} {a a2 mm : Nat → Nat} (hstk : l.stackTraces = false) (F : CallFix P m c cL_law 9 s #[Value.ref b] wsL_law RL) (hK : Kx κ s) (hT : Tk A s s.heap) (hN9 : Ncx s) (hA : ∀ q, s.heap.size ≤ q → A q) (hX : va_X b L xs s s.heap) (hbl : b < s.heap.size) (hbA : ¬ A b) (hL : L ≤ 2048) {i : Nat} (hi : 4 * i + 4 ≤ L) {k n : Nat} (hk : k + 300 ≤ 601024) (hn : n + 2000 ≤ 7293034) {σ τ : Sg} {br bt kp : Nat → Int} {th : Int} {g : Nat → Int64} (hI : Inv σ) (hB0 : σ 5 0 ≤ 60 * (i : Int)) (hC0 : σ 5 1 ≤ 60 * (i : Int))
    (next : LNext P l e s m below meth c Q κ A b x o a a2 mm i k n) {H : Heap} {locs : List Loc} {ls : Array Slot} (hW : St κ A s.heap H locs (WB κ x a a2 mm o σ τ br bt kp th g)) (hl : lv_has ls 9 (LLoc b x o mm i)) : W P l e rm_law s m #[Value.ref b] below meth c H locs k n Q (F0 m 1025 ls []) := by
  obtain ⟨hx, hb, hml, hown, hts⟩ := id F
  have hN := hI.hN
  have hN10 := hI.n10
  have hB : σ 5 0 ≤ 100000000 := by omega
  have hC : σ 5 1 ≤ 100000000 := by omega
  have hz1 := sx_in xs (4 * i + 1)
  have hz2 := sx_in xs (4 * i + 2)
  have hz3 := sx_in xs (4 * i + 3)
  refine lv_aload_n hx hb dL_law_1025 rfl (lv_at hl 1 rfl) ?_
  refine lv_aload_n hx hb dL_law_1026 rfl (lv_at hl 0 rfl) ?_
  refine lv_iload hx hb dL_law_1027 (lv_at hl 4 rfl) ?_
  refine jv_iconst hx hb dL_law_1029 ?_
  refine jv_iadd hx hb dL_law_1030 ?_
  refine js_ld (xs := xs) hx hb hX hbl hbA hW ((4 * i) + 1) (by omega) (by omega) hL dL_law_1031 ?_
  refine lv_aload_n hx hb dL_law_1032 rfl (lv_at hl 0 rfl) ?_
  refine lv_iload hx hb dL_law_1033 (lv_at hl 4 rfl) ?_
  refine jv_iconst hx hb dL_law_1035 ?_
  refine jv_iadd hx hb dL_law_1036 ?_
  refine js_ld (xs := xs) hx hb hX hbl hbA hW ((4 * i) + 2) (by omega) (by omega) hL dL_law_1037 ?_
  refine lv_aload_n hx hb dL_law_1038 rfl (lv_at hl 3 rfl) ?_
  refine fint_i (k := (k + 2)) (n := (n + 12)) (W2 := (fun uu => (WX κ x a a2 ++ (WC κ a σ br ++ (WC κ a2 τ bt ++ (WM κ mm σ th kp ++ (WL κ o uu))))))) [0, 1, 2, 3, 4, 5, 6, 7, 19] [8, 9, 10, 11, 12, 13, 14, 15, 16, 17, 18] [11, 12, 13, 14, 15, 16, 17, 18, 0, 1, 2, 3, 4, 5, 6, 7, 8, 9, 10, 19] hW hA (vx_runSX (As := [.ref x, .int (J (sx xs ((4 * i) + 1))), .int (J (sx xs ((4 * i) + 2))), .ref o]) (rest := []) F ((m_L_interval l κ hstk x a a2 σ br o g (sx xs (4 * i + 1)) (sx xs (4 * i + 2)) ⟨hz1, hz2⟩ hI) _) (vx_cwSW 4 hts gL_law_L_interval rfl rfl rfl (by decide +kernel) ⟨(Nat.le_of_ble_eq_true rfl), (Nat.le_of_ble_eq_true rfl)⟩) (pre_SL hN9 hK hT hW hA [0, 1, 2, 3, 4, 5, 6, 7, 19] rfl (by decide)) rfl rfl hl.1 rfl (lv_room (Nat.le_of_ble_eq_true rfl)) dL_law_1039 ⟨(by first | exact Nat.le_of_ble_eq_true rfl | omega | (dsimp only [rm_law, rm_L_interval]; omega)), (by first | exact Nat.le_of_ble_eq_true rfl | omega | (dsimp only [rm_law, rm_L_interval]; omega))⟩) rfl rfl rfl (by decide) rfl (fun _ => rfl) rfl (by first | exact Nat.le_of_ble_eq_true rfl | omega | (dsimp only [rm_law, rm_L_interval]; omega)) (by first | exact Nat.le_of_ble_eq_true rfl | omega | (dsimp only [rm_law, rm_L_interval]; omega)) (fun E ce q9 H locs hX hW g1 g2 g3 => False.elim hX) (fun r_2 uu H locs hp_1 hW => ?_)
  rcases hp_1 with ⟨hv, rfl, rfl⟩ | ⟨hv, rfl, hu⟩
  · skip
    have hW : St κ A s.heap H _ (WX κ x a a2 ++ (WC κ a σ br ++ (WC κ a2 τ bt ++ (WM κ mm σ th kp ++ (WL κ o (vp_updL g 0 ((J (iab (σ 0 (sx xs (4 * i + 1)).toNat - σ 0 (sx xs (4 * i + 2)).toNat))).toInt64))))))) := hW
    refine lv_istore (lv' := [(5, .int (J 0)), (0, .ref b), (1, .ref x), (2, .ref (mm 0)), (3, .ref o), (4, .int (J (4 * (i : Int))))]) hx hb dL_law_1042 hl (by decide) rfl (fun ls hl => ?_)
    refine lv_aload_n hx hb dL_law_1044 rfl (lv_at hl 3 rfl) ?_
    refine lv_aload_n hx hb dL_law_1045 rfl (lv_at hl 1 rfl) ?_
    refine lv_iload hx hb dL_law_1046 (lv_at hl 5 rfl) ?_
    refine jv_iconst hx hb dL_law_1048 ?_
    refine jv_iadd hx hb dL_law_1049 ?_
    refine js_ld (xs := xs) hx hb hX hbl hbA hW ((4 * i) + 1) (by omega) (by omega) hL dL_law_1050 ?_
    refine lv_aload_n hx hb dL_law_1051 rfl (lv_at hl 1 rfl) ?_
    refine lv_iload hx hb dL_law_1052 (lv_at hl 5 rfl) ?_
    refine jv_iconst hx hb dL_law_1054 ?_
    refine jv_iadd hx hb dL_law_1055 ?_
    refine js_ld (xs := xs) hx hb hX hbl hbA hW ((4 * i) + 2) (by omega) (by omega) hL dL_law_1056 ?_
    refine fin_i (k := (k + 2)) (n := (n + 12)) (W2 := (fun u2 => (WX κ x a a2 ++ (WC κ a σ br ++ (WC κ a2 τ bt ++ (WM κ mm σ u2 kp ++ (WL κ o (vp_updL g 0 ((J (iab (σ 0 (sx xs (4 * i + 1)).toNat - σ 0 (sx xs (4 * i + 2)).toNat))).toInt64))))))))) [15, 16, 17, 18] [0, 1, 2, 3, 4, 5, 6, 7, 8, 9, 10, 11, 12, 13, 14, 19] [0, 1, 2, 3, 4, 5, 6, 7, 8, 9, 10, 11, 12, 13, 14, 16, 17, 18, 19, 15] hW hA (va_runV (As := [.int (J (sx xs ((4 * i) + 1))), .int (J (sx xs ((4 * i) + 2)))]) (rest := []) F ((m_X2_interval l κ mm σ th kp (sx xs (4 * i + 1)) (sx xs (4 * i + 2)) ⟨hz1, hz2⟩ hI) _) (cwV 2 hts gL_law_X2_interval rfl rfl rfl (by decide +kernel) ⟨(Nat.le_of_ble_eq_true rfl), (Nat.le_of_ble_eq_true rfl)⟩) (pre_V hK hW [15, 16, 17, 18] rfl (by decide) 2 15 rfl rfl) rfl rfl hl.1 rfl (lv_room (Nat.le_of_ble_eq_true rfl)) dL_law_1057 ⟨(by first | exact Nat.le_of_ble_eq_true rfl | omega | (dsimp only [rm_law, rm_X2_interval]; omega)), (by first | exact Nat.le_of_ble_eq_true rfl | omega | (dsimp only [rm_law, rm_X2_interval]; omega))⟩) rfl rfl rfl (by decide) rfl (fun _ => rfl) (by first | exact Nat.le_of_ble_eq_true rfl | omega | (dsimp only [rm_law, rm_X2_interval]; omega)) (by first | exact Nat.le_of_ble_eq_true rfl | omega | (dsimp only [rm_law, rm_X2_interval]; omega)) (fun r_4 u2 H locs hp_3 hW => ?_)
    rcases hp_3 with ⟨h2, rfl, rfl⟩ | ⟨h2, rfl, rfl⟩
    · skip
      have hW : St κ A s.heap H _ (WX κ x a a2 ++ (WC κ a σ br ++ (WC κ a2 τ bt ++ (WM κ mm σ 0 kp ++ (WL κ o (vp_updL g 0 ((J (iab (σ 0 (sx xs (4 * i + 1)).toNat - σ 0 (sx xs (4 * i + 2)).toNat))).toInt64))))))) := hW
      refine lv_istore (lv' := [(6, .int (J (iab (σ 0 (sx xs (4 * i + 1)).toNat - σ 0 (sx xs (4 * i + 2)).toNat)))), (5, .int (J 0)), (0, .ref b), (1, .ref x), (2, .ref (mm 0)), (3, .ref o), (4, .int (J (4 * (i : Int))))]) hx hb dL_law_1060 hl (by decide) rfl (fun ls hl => ?_)
      refine lv_aload_n hx hb dL_law_1062 rfl (lv_at hl 4 rfl) ?_
      refine fin_i (k := (k + 2)) (n := (n + 12)) (W2 := (fun _ => (WX κ x a a2 ++ (WC κ a σ br ++ (WC κ a2 τ bt ++ (WM κ mm σ 0 kp ++ (WL κ o (vp_updL g 0 ((J (iab (σ 0 (sx xs (4 * i + 1)).toNat - σ 0 (sx xs (4 * i + 2)).toNat))).toInt64))))))))) [15, 16, 17, 18] [0, 1, 2, 3, 4, 5, 6, 7, 8, 9, 10, 11, 12, 13, 14, 19] [0, 1, 2, 3, 4, 5, 6, 7, 8, 9, 10, 11, 12, 13, 14, 16, 17, 18, 19, 15] hW hA (va_runV (As := []) (rest := []) F ((m_X2_thrown l κ mm σ 0 kp) _) (cwV 0 hts gL_law_X2_thrown rfl rfl rfl (by decide +kernel) ⟨(Nat.le_of_ble_eq_true rfl), (Nat.le_of_ble_eq_true rfl)⟩) (pre_V hK hW [15, 16, 17, 18] rfl (by decide) 2 15 rfl rfl) rfl rfl hl.1 rfl (lv_room (Nat.le_of_ble_eq_true rfl)) dL_law_1063 ⟨(by first | exact Nat.le_of_ble_eq_true rfl | omega | (dsimp only [rm_law, rm_X2_thrown]; omega)), (by first | exact Nat.le_of_ble_eq_true rfl | omega | (dsimp only [rm_law, rm_X2_thrown]; omega))⟩) rfl rfl rfl (by decide) rfl (fun _ => rfl) (by first | exact Nat.le_of_ble_eq_true rfl | omega | (dsimp only [rm_law, rm_X2_thrown]; omega)) (by first | exact Nat.le_of_ble_eq_true rfl | omega | (dsimp only [rm_law, rm_X2_thrown]; omega)) (fun r_6 u H locs hp_5 hW => ?_)
      subst hp_5
      refine lv_iload hx hb dL_law_1066 (lv_at hl 1 rfl) ?_
      refine lv_icmp_eq (tgt := 1073) hx hb dL_law_1068 (by decide) (fun _ => ?_) (fun h => absurd rfl h)
      refine lv_iload hx hb dL_law_1073 (lv_at hl 1 rfl) ?_
      refine jv_if_ne hx hb 1090 dL_law_1075 (by decide) ⟨by omega, by omega⟩ (fun h => by exfalso; omega) (fun h => ?_)
      refine lv_aload_n hx hb dL_law_1078 rfl (lv_at hl 5 rfl) ?_
      refine jv_iconst hx hb dL_law_1079 ?_
      refine jv_lald (g := (vp_updL g 0 ((J (iab (σ 0 (sx xs (4 * i + 1)).toNat - σ 0 (sx xs (4 * i + 2)).toNat))).toInt64))) hx hb hK hW 19 rfl dL_law_1080 ?_
      refine lv_iload hx hb dL_law_1081 (lv_at hl 0 rfl) ?_
      refine lv_i2l hx hb dL_law_1083 rfl ?_
      refine jv_lcmp hx hb rfl dL_law_1084 ?_
      refine jv_if_eq hx hb 1090 dL_law_1085 (by decide) ⟨by omega, by omega⟩ (fun h => ?_) (fun h => by exfalso; omega)
      refine lv_goto (tgt := 1521) hx hb dL_law_1090 (by decide) ?_
      refine W.widen (k := k + 300) (n := n + 2000) (by omega) (by omega) ?_
      exact next σ τ br bt kp 0 (vp_updL g 0 ((J (iab (σ 0 (sx xs (4 * i + 1)).toNat - σ 0 (sx xs (4 * i + 2)).toNat))).toInt64)) _ _ _ hI (by omega) (by omega) hW (lv_sub hl [2, 3, 4, 5, 6] rfl)
    · exact (h2 hv).elim
  · skip
    have hu := hu.symm
    subst hu
    have hW : St κ A s.heap H _ (WX κ x a a2 ++ (WC κ a σ br ++ (WC κ a2 τ bt ++ (WM κ mm σ th kp ++ (WL κ o g))))) := hW
    refine lv_istore (lv' := [(5, .int (J 1)), (0, .ref b), (1, .ref x), (2, .ref (mm 0)), (3, .ref o), (4, .int (J (4 * (i : Int))))]) hx hb dL_law_1042 hl (by decide) rfl (fun ls hl => ?_)
    refine lv_aload_n hx hb dL_law_1044 rfl (lv_at hl 3 rfl) ?_
    refine lv_aload_n hx hb dL_law_1045 rfl (lv_at hl 1 rfl) ?_
    refine lv_iload hx hb dL_law_1046 (lv_at hl 5 rfl) ?_
    refine jv_iconst hx hb dL_law_1048 ?_
    refine jv_iadd hx hb dL_law_1049 ?_
    refine js_ld (xs := xs) hx hb hX hbl hbA hW ((4 * i) + 1) (by omega) (by omega) hL dL_law_1050 ?_
    refine lv_aload_n hx hb dL_law_1051 rfl (lv_at hl 1 rfl) ?_
    refine lv_iload hx hb dL_law_1052 (lv_at hl 5 rfl) ?_
    refine jv_iconst hx hb dL_law_1054 ?_
    refine jv_iadd hx hb dL_law_1055 ?_
    refine js_ld (xs := xs) hx hb hX hbl hbA hW ((4 * i) + 2) (by omega) (by omega) hL dL_law_1056 ?_
    refine fin_i (k := (k + 2)) (n := (n + 12)) (W2 := (fun u2 => (WX κ x a a2 ++ (WC κ a σ br ++ (WC κ a2 τ bt ++ (WM κ mm σ u2 kp ++ (WL κ o g))))))) [15, 16, 17, 18] [0, 1, 2, 3, 4, 5, 6, 7, 8, 9, 10, 11, 12, 13, 14, 19] [0, 1, 2, 3, 4, 5, 6, 7, 8, 9, 10, 11, 12, 13, 14, 16, 17, 18, 19, 15] hW hA (va_runV (As := [.int (J (sx xs ((4 * i) + 1))), .int (J (sx xs ((4 * i) + 2)))]) (rest := []) F ((m_X2_interval l κ mm σ th kp (sx xs (4 * i + 1)) (sx xs (4 * i + 2)) ⟨hz1, hz2⟩ hI) _) (cwV 2 hts gL_law_X2_interval rfl rfl rfl (by decide +kernel) ⟨(Nat.le_of_ble_eq_true rfl), (Nat.le_of_ble_eq_true rfl)⟩) (pre_V hK hW [15, 16, 17, 18] rfl (by decide) 2 15 rfl rfl) rfl rfl hl.1 rfl (lv_room (Nat.le_of_ble_eq_true rfl)) dL_law_1057 ⟨(by first | exact Nat.le_of_ble_eq_true rfl | omega | (dsimp only [rm_law, rm_X2_interval]; omega)), (by first | exact Nat.le_of_ble_eq_true rfl | omega | (dsimp only [rm_law, rm_X2_interval]; omega))⟩) rfl rfl rfl (by decide) rfl (fun _ => rfl) (by first | exact Nat.le_of_ble_eq_true rfl | omega | (dsimp only [rm_law, rm_X2_interval]; omega)) (by first | exact Nat.le_of_ble_eq_true rfl | omega | (dsimp only [rm_law, rm_X2_interval]; omega)) (fun r_8 u2 H locs hp_7 hW => ?_)
    rcases hp_7 with ⟨h2, rfl, rfl⟩ | ⟨h2, rfl, rfl⟩
    · exact (hv h2).elim
    · skip
      have hW : St κ A s.heap H _ (WX κ x a a2 ++ (WC κ a σ br ++ (WC κ a2 τ bt ++ (WM κ mm σ 1 kp ++ (WL κ o g))))) := hW
      refine lv_istore (lv' := [(6, .int (J 0)), (5, .int (J 1)), (0, .ref b), (1, .ref x), (2, .ref (mm 0)), (3, .ref o), (4, .int (J (4 * (i : Int))))]) hx hb dL_law_1060 hl (by decide) rfl (fun ls hl => ?_)
      refine lv_aload_n hx hb dL_law_1062 rfl (lv_at hl 4 rfl) ?_
      refine fin_i (k := (k + 2)) (n := (n + 12)) (W2 := (fun _ => (WX κ x a a2 ++ (WC κ a σ br ++ (WC κ a2 τ bt ++ (WM κ mm σ 1 kp ++ (WL κ o g))))))) [15, 16, 17, 18] [0, 1, 2, 3, 4, 5, 6, 7, 8, 9, 10, 11, 12, 13, 14, 19] [0, 1, 2, 3, 4, 5, 6, 7, 8, 9, 10, 11, 12, 13, 14, 16, 17, 18, 19, 15] hW hA (va_runV (As := []) (rest := []) F ((m_X2_thrown l κ mm σ 1 kp) _) (cwV 0 hts gL_law_X2_thrown rfl rfl rfl (by decide +kernel) ⟨(Nat.le_of_ble_eq_true rfl), (Nat.le_of_ble_eq_true rfl)⟩) (pre_V hK hW [15, 16, 17, 18] rfl (by decide) 2 15 rfl rfl) rfl rfl hl.1 rfl (lv_room (Nat.le_of_ble_eq_true rfl)) dL_law_1063 ⟨(by first | exact Nat.le_of_ble_eq_true rfl | omega | (dsimp only [rm_law, rm_X2_thrown]; omega)), (by first | exact Nat.le_of_ble_eq_true rfl | omega | (dsimp only [rm_law, rm_X2_thrown]; omega))⟩) rfl rfl rfl (by decide) rfl (fun _ => rfl) (by first | exact Nat.le_of_ble_eq_true rfl | omega | (dsimp only [rm_law, rm_X2_thrown]; omega)) (by first | exact Nat.le_of_ble_eq_true rfl | omega | (dsimp only [rm_law, rm_X2_thrown]; omega)) (fun r_10 u H locs hp_9 hW => ?_)
      subst hp_9
      refine lv_iload hx hb dL_law_1066 (lv_at hl 1 rfl) ?_
      refine lv_icmp_eq (tgt := 1073) hx hb dL_law_1068 (by decide) (fun _ => ?_) (fun h => absurd rfl h)
      refine lv_iload hx hb dL_law_1073 (lv_at hl 1 rfl) ?_
      refine jv_if_ne hx hb 1090 dL_law_1075 (by decide) ⟨by omega, by omega⟩ (fun h => ?_) (fun h => by exfalso; omega)
      refine lv_goto (tgt := 1521) hx hb dL_law_1090 (by decide) ?_
      refine W.widen (k := k + 300) (n := n + 2000) (by omega) (by omega) ?_
      exact next σ τ br bt kp 1 g _ _ _ hI (by omega) (by omega) hW (lv_sub hl [2, 3, 4, 5, 6] rfl)

set_option maxHeartbeats 4000000 in
set_option maxRecDepth 100000 in
/-- the law: c17 -/
theorem law_c17 {P : Program} {l : Launch} {e : Env} {s : State} {m : MethodId} {below : List Frame} {meth : Method} {c : Code} {Q : State → Prop} {b L : Nat} {xs : Nat → Int32} {κ : Kp} {A : Nat → Prop} {x o : Nat} {a a2 mm : Nat → Nat} (hstk : l.stackTraces = false) (F : CallFix P m c cL_law 9 s #[Value.ref b] wsL_law RL) (hK : Kx κ s) (hT : Tk A s s.heap) (hN9 : Ncx s) (hA : ∀ q, s.heap.size ≤ q → A q) (hX : va_X b L xs s s.heap) (hbl : b < s.heap.size) (hbA : ¬ A b) (hL : L ≤ 2048) {i : Nat} (hi : 4 * i + 4 ≤ L) {k n : Nat} (hk : k + 300 ≤ 601024) (hn : n + 2000 ≤ 7293034) {σ τ : Sg} {br bt kp : Nat → Int} {th : Int} {g : Nat → Int64} (hI : Inv σ) (hB0 : σ 5 0 ≤ 60 * (i : Int)) (hC0 : σ 5 1 ≤ 60 * (i : Int))
    (next : LNext P l e s m below meth c Q κ A b x o a a2 mm i k n) {H : Heap} {locs : List Loc} {ls : Array Slot} (hW : St κ A s.heap H locs (WB κ x a a2 mm o σ τ br bt kp th g)) (hl : lv_has ls 9 (LLoc b x o mm i)) : W P l e rm_law s m #[Value.ref b] below meth c H locs k n Q (F0 m 1093 ls []) := by
  obtain ⟨hx, hb, hml, hown, hts⟩ := id F
  have hN := hI.hN
  have hN10 := hI.n10
  have hB : σ 5 0 ≤ 100000000 := by omega
  have hC : σ 5 1 ≤ 100000000 := by omega
  have hz1 := sx_in xs (4 * i + 1)
  have hz2 := sx_in xs (4 * i + 2)
  have hz3 := sx_in xs (4 * i + 3)
  refine lv_aload_n hx hb dL_law_1093 rfl (lv_at hl 1 rfl) ?_
  refine lv_aload_n hx hb dL_law_1094 rfl (lv_at hl 0 rfl) ?_
  refine lv_iload hx hb dL_law_1095 (lv_at hl 4 rfl) ?_
  refine jv_iconst hx hb dL_law_1097 ?_
  refine jv_iadd hx hb dL_law_1098 ?_
  refine js_ld (xs := xs) hx hb hX hbl hbA hW ((4 * i) + 1) (by omega) (by omega) hL dL_law_1099 ?_
  refine lv_aload_n hx hb dL_law_1100 rfl (lv_at hl 0 rfl) ?_
  refine lv_iload hx hb dL_law_1101 (lv_at hl 4 rfl) ?_
  refine jv_iconst hx hb dL_law_1103 ?_
  refine jv_iadd hx hb dL_law_1104 ?_
  refine js_ld (xs := xs) hx hb hX hbl hbA hW ((4 * i) + 2) (by omega) (by omega) hL dL_law_1105 ?_
  refine lv_aload_n hx hb dL_law_1106 rfl (lv_at hl 3 rfl) ?_
  refine fint_i (k := (k + 2)) (n := (n + 12)) (W2 := (fun uu => (WX κ x a a2 ++ (WC κ a σ br ++ (WC κ a2 τ bt ++ (WM κ mm σ th kp ++ (WL κ o uu))))))) [0, 1, 2, 3, 4, 5, 6, 7, 19] [8, 9, 10, 11, 12, 13, 14, 15, 16, 17, 18] [11, 12, 13, 14, 15, 16, 17, 18, 0, 1, 2, 3, 4, 5, 6, 7, 8, 9, 10, 19] hW hA (vx_runSX (As := [.ref x, .int (J (sx xs ((4 * i) + 1))), .int (J (sx xs ((4 * i) + 2))), .ref o]) (rest := []) F ((m_L_areInAccord l κ hstk x a a2 σ br o g (sx xs (4 * i + 1)) (sx xs (4 * i + 2)) ⟨hz1, hz2⟩ hI) _) (vx_cwSW 4 hts gL_law_L_areInAccord rfl rfl rfl (by decide +kernel) ⟨(Nat.le_of_ble_eq_true rfl), (Nat.le_of_ble_eq_true rfl)⟩) (pre_SL hN9 hK hT hW hA [0, 1, 2, 3, 4, 5, 6, 7, 19] rfl (by decide)) rfl rfl hl.1 rfl (lv_room (Nat.le_of_ble_eq_true rfl)) dL_law_1107 ⟨(by first | exact Nat.le_of_ble_eq_true rfl | omega | (dsimp only [rm_law, rm_L_areInAccord]; omega)), (by first | exact Nat.le_of_ble_eq_true rfl | omega | (dsimp only [rm_law, rm_L_areInAccord]; omega))⟩) rfl rfl rfl (by decide) rfl (fun _ => rfl) rfl (by first | exact Nat.le_of_ble_eq_true rfl | omega | (dsimp only [rm_law, rm_L_areInAccord]; omega)) (by first | exact Nat.le_of_ble_eq_true rfl | omega | (dsimp only [rm_law, rm_L_areInAccord]; omega)) (fun E ce q9 H locs hX hW g1 g2 g3 => False.elim hX) (fun r_2 uu H locs hp_1 hW => ?_)
  rcases hp_1 with ⟨hv, rfl, rfl⟩ | ⟨hv, rfl, hu⟩
  · skip
    have hW : St κ A s.heap H _ (WX κ x a a2 ++ (WC κ a σ br ++ (WC κ a2 τ bt ++ (WM κ mm σ th kp ++ (WL κ o (vp_updL g 0 ((J (bi (ac (σ 0 (sx xs (4 * i + 1)).toNat) (σ 0 (sx xs (4 * i + 2)).toNat)))).toInt64))))))) := hW
    refine lv_istore (lv' := [(5, .int (J 0)), (0, .ref b), (1, .ref x), (2, .ref (mm 0)), (3, .ref o), (4, .int (J (4 * (i : Int))))]) hx hb dL_law_1110 hl (by decide) rfl (fun ls hl => ?_)
    refine lv_aload_n hx hb dL_law_1112 rfl (lv_at hl 3 rfl) ?_
    refine lv_aload_n hx hb dL_law_1113 rfl (lv_at hl 1 rfl) ?_
    refine lv_iload hx hb dL_law_1114 (lv_at hl 5 rfl) ?_
    refine jv_iconst hx hb dL_law_1116 ?_
    refine jv_iadd hx hb dL_law_1117 ?_
    refine js_ld (xs := xs) hx hb hX hbl hbA hW ((4 * i) + 1) (by omega) (by omega) hL dL_law_1118 ?_
    refine lv_aload_n hx hb dL_law_1119 rfl (lv_at hl 1 rfl) ?_
    refine lv_iload hx hb dL_law_1120 (lv_at hl 5 rfl) ?_
    refine jv_iconst hx hb dL_law_1122 ?_
    refine jv_iadd hx hb dL_law_1123 ?_
    refine js_ld (xs := xs) hx hb hX hbl hbA hW ((4 * i) + 2) (by omega) (by omega) hL dL_law_1124 ?_
    refine fin_i (k := (k + 2)) (n := (n + 12)) (W2 := (fun u2 => (WX κ x a a2 ++ (WC κ a σ br ++ (WC κ a2 τ bt ++ (WM κ mm σ u2 kp ++ (WL κ o (vp_updL g 0 ((J (bi (ac (σ 0 (sx xs (4 * i + 1)).toNat) (σ 0 (sx xs (4 * i + 2)).toNat)))).toInt64))))))))) [15, 16, 17, 18] [0, 1, 2, 3, 4, 5, 6, 7, 8, 9, 10, 11, 12, 13, 14, 19] [0, 1, 2, 3, 4, 5, 6, 7, 8, 9, 10, 11, 12, 13, 14, 16, 17, 18, 19, 15] hW hA (va_runV (As := [.int (J (sx xs ((4 * i) + 1))), .int (J (sx xs ((4 * i) + 2)))]) (rest := []) F ((m_X2_areInAccord l κ mm σ th kp (sx xs (4 * i + 1)) (sx xs (4 * i + 2)) ⟨hz1, hz2⟩ hI) _) (cwV 2 hts gL_law_X2_areInAccord rfl rfl rfl (by decide +kernel) ⟨(Nat.le_of_ble_eq_true rfl), (Nat.le_of_ble_eq_true rfl)⟩) (pre_V hK hW [15, 16, 17, 18] rfl (by decide) 2 15 rfl rfl) rfl rfl hl.1 rfl (lv_room (Nat.le_of_ble_eq_true rfl)) dL_law_1125 ⟨(by first | exact Nat.le_of_ble_eq_true rfl | omega | (dsimp only [rm_law, rm_X2_areInAccord]; omega)), (by first | exact Nat.le_of_ble_eq_true rfl | omega | (dsimp only [rm_law, rm_X2_areInAccord]; omega))⟩) rfl rfl rfl (by decide) rfl (fun _ => rfl) (by first | exact Nat.le_of_ble_eq_true rfl | omega | (dsimp only [rm_law, rm_X2_areInAccord]; omega)) (by first | exact Nat.le_of_ble_eq_true rfl | omega | (dsimp only [rm_law, rm_X2_areInAccord]; omega)) (fun r_4 u2 H locs hp_3 hW => ?_)
    rcases hp_3 with ⟨h2, rfl, rfl⟩ | ⟨h2, rfl, rfl⟩
    · skip
      have hW : St κ A s.heap H _ (WX κ x a a2 ++ (WC κ a σ br ++ (WC κ a2 τ bt ++ (WM κ mm σ 0 kp ++ (WL κ o (vp_updL g 0 ((J (bi (ac (σ 0 (sx xs (4 * i + 1)).toNat) (σ 0 (sx xs (4 * i + 2)).toNat)))).toInt64))))))) := hW
      refine lv_istore (lv' := [(6, .int (J (bi (ac (σ 0 (sx xs (4 * i + 1)).toNat) (σ 0 (sx xs (4 * i + 2)).toNat))))), (5, .int (J 0)), (0, .ref b), (1, .ref x), (2, .ref (mm 0)), (3, .ref o), (4, .int (J (4 * (i : Int))))]) hx hb dL_law_1128 hl (by decide) rfl (fun ls hl => ?_)
      refine lv_aload_n hx hb dL_law_1130 rfl (lv_at hl 4 rfl) ?_
      refine fin_i (k := (k + 2)) (n := (n + 12)) (W2 := (fun _ => (WX κ x a a2 ++ (WC κ a σ br ++ (WC κ a2 τ bt ++ (WM κ mm σ 0 kp ++ (WL κ o (vp_updL g 0 ((J (bi (ac (σ 0 (sx xs (4 * i + 1)).toNat) (σ 0 (sx xs (4 * i + 2)).toNat)))).toInt64))))))))) [15, 16, 17, 18] [0, 1, 2, 3, 4, 5, 6, 7, 8, 9, 10, 11, 12, 13, 14, 19] [0, 1, 2, 3, 4, 5, 6, 7, 8, 9, 10, 11, 12, 13, 14, 16, 17, 18, 19, 15] hW hA (va_runV (As := []) (rest := []) F ((m_X2_thrown l κ mm σ 0 kp) _) (cwV 0 hts gL_law_X2_thrown rfl rfl rfl (by decide +kernel) ⟨(Nat.le_of_ble_eq_true rfl), (Nat.le_of_ble_eq_true rfl)⟩) (pre_V hK hW [15, 16, 17, 18] rfl (by decide) 2 15 rfl rfl) rfl rfl hl.1 rfl (lv_room (Nat.le_of_ble_eq_true rfl)) dL_law_1131 ⟨(by first | exact Nat.le_of_ble_eq_true rfl | omega | (dsimp only [rm_law, rm_X2_thrown]; omega)), (by first | exact Nat.le_of_ble_eq_true rfl | omega | (dsimp only [rm_law, rm_X2_thrown]; omega))⟩) rfl rfl rfl (by decide) rfl (fun _ => rfl) (by first | exact Nat.le_of_ble_eq_true rfl | omega | (dsimp only [rm_law, rm_X2_thrown]; omega)) (by first | exact Nat.le_of_ble_eq_true rfl | omega | (dsimp only [rm_law, rm_X2_thrown]; omega)) (fun r_6 u H locs hp_5 hW => ?_)
      subst hp_5
      refine lv_iload hx hb dL_law_1134 (lv_at hl 1 rfl) ?_
      refine lv_icmp_eq (tgt := 1141) hx hb dL_law_1136 (by decide) (fun _ => ?_) (fun h => absurd rfl h)
      refine lv_iload hx hb dL_law_1141 (lv_at hl 1 rfl) ?_
      refine jv_if_ne hx hb 1165 dL_law_1143 (by decide) ⟨by omega, by omega⟩ (fun h => by exfalso; omega) (fun h => ?_)
      refine lv_aload_n hx hb dL_law_1146 rfl (lv_at hl 5 rfl) ?_
      refine jv_iconst hx hb dL_law_1147 ?_
      refine jv_lald (g := (vp_updL g 0 ((J (bi (ac (σ 0 (sx xs (4 * i + 1)).toNat) (σ 0 (sx xs (4 * i + 2)).toNat)))).toInt64))) hx hb hK hW 19 rfl dL_law_1148 ?_
      refine lv_iload hx hb dL_law_1149 (lv_at hl 0 rfl) ?_
      refine jv_ifb_eq (b := (ac (σ 0 (sx xs (4 * i + 1)).toNat) (σ 0 (sx xs (4 * i + 2)).toNat))) hx hb 1158 dL_law_1151 (by decide) (fun h_7 => ?_) (fun h_7 => ?_)
      · skip
        refine lv_lconst (v := 0) hx hb dL_law_1158 rfl ?_
        refine jv_lcmp hx hb (by show _ = ((J (bi (ac (σ 0 (sx xs (4 * i + 1)).toNat) (σ 0 (sx xs (4 * i + 2)).toNat)))).toInt64); rw [h_7]; rfl) dL_law_1159 ?_
        refine jv_if_eq hx hb 1165 dL_law_1160 (by decide) ⟨by omega, by omega⟩ (fun h => ?_) (fun h => by exfalso; omega)
        refine lv_goto (tgt := 1521) hx hb dL_law_1165 (by decide) ?_
        refine W.widen (k := k + 300) (n := n + 2000) (by omega) (by omega) ?_
        exact next σ τ br bt kp 0 (vp_updL g 0 ((J (bi (ac (σ 0 (sx xs (4 * i + 1)).toNat) (σ 0 (sx xs (4 * i + 2)).toNat)))).toInt64)) _ _ _ hI (by omega) (by omega) hW (lv_sub hl [2, 3, 4, 5, 6] rfl)
      · skip
        refine lv_lconst (v := 1) hx hb dL_law_1154 rfl ?_
        refine lv_goto (tgt := 1159) hx hb dL_law_1155 (by decide) ?_
        refine jv_lcmp hx hb (by show _ = ((J (bi (ac (σ 0 (sx xs (4 * i + 1)).toNat) (σ 0 (sx xs (4 * i + 2)).toNat)))).toInt64); rw [h_7]; rfl) dL_law_1159 ?_
        refine jv_if_eq hx hb 1165 dL_law_1160 (by decide) ⟨by omega, by omega⟩ (fun h => ?_) (fun h => by exfalso; omega)
        refine lv_goto (tgt := 1521) hx hb dL_law_1165 (by decide) ?_
        refine W.widen (k := k + 300) (n := n + 2000) (by omega) (by omega) ?_
        exact next σ τ br bt kp 0 (vp_updL g 0 ((J (bi (ac (σ 0 (sx xs (4 * i + 1)).toNat) (σ 0 (sx xs (4 * i + 2)).toNat)))).toInt64)) _ _ _ hI (by omega) (by omega) hW (lv_sub hl [2, 3, 4, 5, 6] rfl)
    · exact (h2 hv).elim
  · skip
    have hu := hu.symm
    subst hu
    have hW : St κ A s.heap H _ (WX κ x a a2 ++ (WC κ a σ br ++ (WC κ a2 τ bt ++ (WM κ mm σ th kp ++ (WL κ o g))))) := hW
    refine lv_istore (lv' := [(5, .int (J 1)), (0, .ref b), (1, .ref x), (2, .ref (mm 0)), (3, .ref o), (4, .int (J (4 * (i : Int))))]) hx hb dL_law_1110 hl (by decide) rfl (fun ls hl => ?_)
    refine lv_aload_n hx hb dL_law_1112 rfl (lv_at hl 3 rfl) ?_
    refine lv_aload_n hx hb dL_law_1113 rfl (lv_at hl 1 rfl) ?_
    refine lv_iload hx hb dL_law_1114 (lv_at hl 5 rfl) ?_
    refine jv_iconst hx hb dL_law_1116 ?_
    refine jv_iadd hx hb dL_law_1117 ?_
    refine js_ld (xs := xs) hx hb hX hbl hbA hW ((4 * i) + 1) (by omega) (by omega) hL dL_law_1118 ?_
    refine lv_aload_n hx hb dL_law_1119 rfl (lv_at hl 1 rfl) ?_
    refine lv_iload hx hb dL_law_1120 (lv_at hl 5 rfl) ?_
    refine jv_iconst hx hb dL_law_1122 ?_
    refine jv_iadd hx hb dL_law_1123 ?_
    refine js_ld (xs := xs) hx hb hX hbl hbA hW ((4 * i) + 2) (by omega) (by omega) hL dL_law_1124 ?_
    refine fin_i (k := (k + 2)) (n := (n + 12)) (W2 := (fun u2 => (WX κ x a a2 ++ (WC κ a σ br ++ (WC κ a2 τ bt ++ (WM κ mm σ u2 kp ++ (WL κ o g))))))) [15, 16, 17, 18] [0, 1, 2, 3, 4, 5, 6, 7, 8, 9, 10, 11, 12, 13, 14, 19] [0, 1, 2, 3, 4, 5, 6, 7, 8, 9, 10, 11, 12, 13, 14, 16, 17, 18, 19, 15] hW hA (va_runV (As := [.int (J (sx xs ((4 * i) + 1))), .int (J (sx xs ((4 * i) + 2)))]) (rest := []) F ((m_X2_areInAccord l κ mm σ th kp (sx xs (4 * i + 1)) (sx xs (4 * i + 2)) ⟨hz1, hz2⟩ hI) _) (cwV 2 hts gL_law_X2_areInAccord rfl rfl rfl (by decide +kernel) ⟨(Nat.le_of_ble_eq_true rfl), (Nat.le_of_ble_eq_true rfl)⟩) (pre_V hK hW [15, 16, 17, 18] rfl (by decide) 2 15 rfl rfl) rfl rfl hl.1 rfl (lv_room (Nat.le_of_ble_eq_true rfl)) dL_law_1125 ⟨(by first | exact Nat.le_of_ble_eq_true rfl | omega | (dsimp only [rm_law, rm_X2_areInAccord]; omega)), (by first | exact Nat.le_of_ble_eq_true rfl | omega | (dsimp only [rm_law, rm_X2_areInAccord]; omega))⟩) rfl rfl rfl (by decide) rfl (fun _ => rfl) (by first | exact Nat.le_of_ble_eq_true rfl | omega | (dsimp only [rm_law, rm_X2_areInAccord]; omega)) (by first | exact Nat.le_of_ble_eq_true rfl | omega | (dsimp only [rm_law, rm_X2_areInAccord]; omega)) (fun r_9 u2 H locs hp_8 hW => ?_)
    rcases hp_8 with ⟨h2, rfl, rfl⟩ | ⟨h2, rfl, rfl⟩
    · exact (hv h2).elim
    · skip
      have hW : St κ A s.heap H _ (WX κ x a a2 ++ (WC κ a σ br ++ (WC κ a2 τ bt ++ (WM κ mm σ 1 kp ++ (WL κ o g))))) := hW
      refine lv_istore (lv' := [(6, .int (J 0)), (5, .int (J 1)), (0, .ref b), (1, .ref x), (2, .ref (mm 0)), (3, .ref o), (4, .int (J (4 * (i : Int))))]) hx hb dL_law_1128 hl (by decide) rfl (fun ls hl => ?_)
      refine lv_aload_n hx hb dL_law_1130 rfl (lv_at hl 4 rfl) ?_
      refine fin_i (k := (k + 2)) (n := (n + 12)) (W2 := (fun _ => (WX κ x a a2 ++ (WC κ a σ br ++ (WC κ a2 τ bt ++ (WM κ mm σ 1 kp ++ (WL κ o g))))))) [15, 16, 17, 18] [0, 1, 2, 3, 4, 5, 6, 7, 8, 9, 10, 11, 12, 13, 14, 19] [0, 1, 2, 3, 4, 5, 6, 7, 8, 9, 10, 11, 12, 13, 14, 16, 17, 18, 19, 15] hW hA (va_runV (As := []) (rest := []) F ((m_X2_thrown l κ mm σ 1 kp) _) (cwV 0 hts gL_law_X2_thrown rfl rfl rfl (by decide +kernel) ⟨(Nat.le_of_ble_eq_true rfl), (Nat.le_of_ble_eq_true rfl)⟩) (pre_V hK hW [15, 16, 17, 18] rfl (by decide) 2 15 rfl rfl) rfl rfl hl.1 rfl (lv_room (Nat.le_of_ble_eq_true rfl)) dL_law_1131 ⟨(by first | exact Nat.le_of_ble_eq_true rfl | omega | (dsimp only [rm_law, rm_X2_thrown]; omega)), (by first | exact Nat.le_of_ble_eq_true rfl | omega | (dsimp only [rm_law, rm_X2_thrown]; omega))⟩) rfl rfl rfl (by decide) rfl (fun _ => rfl) (by first | exact Nat.le_of_ble_eq_true rfl | omega | (dsimp only [rm_law, rm_X2_thrown]; omega)) (by first | exact Nat.le_of_ble_eq_true rfl | omega | (dsimp only [rm_law, rm_X2_thrown]; omega)) (fun r_11 u H locs hp_10 hW => ?_)
      subst hp_10
      refine lv_iload hx hb dL_law_1134 (lv_at hl 1 rfl) ?_
      refine lv_icmp_eq (tgt := 1141) hx hb dL_law_1136 (by decide) (fun _ => ?_) (fun h => absurd rfl h)
      refine lv_iload hx hb dL_law_1141 (lv_at hl 1 rfl) ?_
      refine jv_if_ne hx hb 1165 dL_law_1143 (by decide) ⟨by omega, by omega⟩ (fun h => ?_) (fun h => by exfalso; omega)
      refine lv_goto (tgt := 1521) hx hb dL_law_1165 (by decide) ?_
      refine W.widen (k := k + 300) (n := n + 2000) (by omega) (by omega) ?_
      exact next σ τ br bt kp 1 g _ _ _ hI (by omega) (by omega) hW (lv_sub hl [2, 3, 4, 5, 6] rfl)
