set_option maxHeartbeats 4000000 in
set_option maxRecDepth 100000 in
theorem whole_start {p : Program} {e : Env} {s : State} {m : MethodId} {below : List Frame} {meth : Method} {c : Code} (l : Launch) (hflags : l.flags = flags0) {b L : Nat} {xs : Nat → Int32} (hL : L ≤ 260) (C0 : lw_At p s m meth c b L xs) : W p l e room_1 s m #[Value.ref b] below meth c s.heap [] 0 0 (lw_Z below #[Value.ref b] s) (entryFrame m ([Value.ref b] : List Value).toArray 25) := by
  obtain ⟨hx, hb, hr, hml, hown0, hts0, hX, hbl, hlocks, hgv⟩ := C0
  have hL : L ≤ 2048 := Nat.le_trans hL (by decide)
  obtain ⟨κ, hK⟩ := st_K hts0
  have hown : s.vm.findClass RL = some m.cls := hown0
  have hts : ∀ w ∈ wsL_law, w.before #[Value.ref b] s = true := fun w h => hts0 w (wsL_law_in w h)
  have F : CallFix p m c cL_law 25 s #[Value.ref b] wsL_law RL := ⟨hx, hb, hml, hown, hts⟩
  have hn1 : ∀ w ∈ wsX10, w ∈ wsL_law := inlX1
  have hW : St κ (fun q : Nat => s.heap.size ≤ q) s.heap s.heap [] ([] : va_W) := ⟨fun k q h => by simp at h, ⟨fun i j p q h => by simp at h, fun k q h => by simp at h⟩, va_S.rf⟩
  have hl := lv_entry ([.ref b]) (n := 25) (Nat.le_of_ble_eq_true rfl)
  rw [lg_entry_eq]
  generalize (lg_sl ([.ref b]) ++ List.replicate (25 - (lg_sl ([.ref b])).length) Slot.unset).toArray = ls at hl ⊢
  have hl : lv_has ls 25 [(0, .ref b)] := hl
  show W p l e rm_law s m #[Value.ref b] below meth c s.heap [] 0 0 (lw_Z below #[Value.ref b] s) (F0 m 0 ls [])
  generalize hAe : (fun q : Nat => s.heap.size ≤ q) = A at hW
  have hA : ∀ q : Nat, s.heap.size ≤ q → A q := fun q h => by rw [← hAe]; exact h
  have hbA : ¬ A b := by rw [← hAe]; exact Nat.not_le.mpr hbl
  refine jv_new (κ := κ) (T := TX1) (N := 2) (ci := 1) hx hb hts hn1 tyX1 tyX1_ok hown (List.mem_of_getElem? (i := 0) rfl) (List.mem_of_getElem? (i := 1) rfl) (List.mem_of_getElem? (i := 2) rfl) hK hW hA rfl [.null, .null] (by decide) 1 2 (by first | exact Nat.le_of_ble_eq_true rfl | omega | (dsimp only [rm_law]; omega)) (by first | exact Nat.le_of_ble_eq_true rfl | omega | (dsimp only [rm_law]; omega)) (by first | exact Nat.le_of_ble_eq_true rfl | omega | (dsimp only [rm_law]; omega)) (by first | exact Nat.le_of_ble_eq_true rfl | omega | (dsimp only [rm_law]; omega)) dL_law_0 (fun q_1 H hW => ?_)
  have hW : St κ A s.heap H _ ([(q_1, .inr (1, [.null, .null]))]) := hW
  refine lv_dup hx hb dL_law_3 rfl ?_
  refine fin_v (k := 15) (n := 142) (W2 := (fun ux => (WX κ q_1 ux.1 ux.2 ++ (WC κ ux.1 zs (fun _ => 0) ++ WC κ ux.2 zs (fun _ => 0))))) [0] [] [0, 1, 2, 3, 4, 5, 6, 7, 8, 9, 10, 11, 12, 13, 14] hW hA (va_runI (As := []) (rest := [.ref q_1]) F ((m_X1_init l κ q_1) _) (cwI 0 hts gL_law_X1_init rfl rfl rfl (hts _ (List.mem_of_getElem? (i := 2) rfl)) (hts _ (List.mem_of_getElem? (i := 9) rfl)) (hts _ (List.mem_of_getElem? (i := 10) rfl)) rfl (by decide +kernel) ⟨(Nat.le_of_ble_eq_true rfl), (Nat.le_of_ble_eq_true rfl)⟩) (pre_S hK hW [0] rfl (by decide)) rfl rfl hl.1 rfl (lv_room (Nat.le_of_ble_eq_true rfl)) dL_law_4 ⟨(by first | exact Nat.le_of_ble_eq_true rfl | omega | (dsimp only [rm_law, rm_X1_init]; omega)), (by first | exact Nat.le_of_ble_eq_true rfl | omega | (dsimp only [rm_law, rm_X1_init]; omega))⟩) rfl rfl rfl (by decide) rfl (fun _ => rfl) (by first | exact Nat.le_of_ble_eq_true rfl | omega | (dsimp only [rm_law, rm_X1_init]; omega)) (by first | exact Nat.le_of_ble_eq_true rfl | omega | (dsimp only [rm_law, rm_X1_init]; omega)) (fun ux H locs hp_2 hW => ?_)
  have hW : St κ A s.heap H locs ((WX κ q_1 ux.1 ux.2 ++ (WC κ ux.1 zs (fun _ => 0) ++ (WC κ ux.2 zs (fun _ => 0)))) ++ RP κ ([] : List Nat) zs) := hW.eqP (List.append_nil _)
  refine lv_astore_n (lv' := [(1, .ref q_1), (0, .ref b)]) hx hb dL_law_7 rfl hl (by decide) rfl (fun ls hl => ?_)
  refine lv_aload_n hx hb dL_law_8 rfl (lv_at hl 0 rfl) ?_
  refine lv_aload_n hx hb dL_law_9 rfl (lv_at hl 1 rfl) ?_
  refine fina_r (k := 45) (n := 342) (W2 := (fun ub_4 o_3 => ((WX κ q_1 ux.1 ux.2 ++ (WC κ ux.1 ub_4.1 (fun _ => 0) ++ (WC κ ux.2 zs (fun _ => 0) ++ (WS κ o_3 ub_4.2.1 ub_4.2.2 (ub_4.1 5 0) (ub_4.1 5 1) (ub_4.1 5 2))))) ++ RP κ ub_4.2.2 ub_4.1))) hW (va_freeP hW.2.1 hW.2.2 hA [0, 1, 2, 3, 4, 5, 6, 7] rfl) (va_runS (As := [.ref q_1, .ref b]) (rest := []) F ((m_L_build l κ q_1 ux.1 ux.2 (fun _ => 0) b L xs hL) _) (va_cwS 2 hts gL_law_L_build rfl rfl rfl (by decide +kernel) ⟨(Nat.le_of_ble_eq_true rfl), (Nat.le_of_ble_eq_true rfl)⟩) (pre_SBQ hX hbl hbA hA hK hW [0, 1, 2, 3, 4, 5, 6, 7] rfl (by decide)) rfl rfl hl.1 rfl (lv_room (Nat.le_of_ble_eq_true rfl)) dL_law_10 ⟨(by first | exact Nat.le_of_ble_eq_true rfl | omega | (dsimp only [rm_law, rm_L_build]; omega)), (by first | exact Nat.le_of_ble_eq_true rfl | omega | (dsimp only [rm_law, rm_L_build]; omega))⟩) (fun u r H1 locs1 g1 g2 g3 g4 => St.joinP hW hA [0, 1, 2, 3, 4, 5, 6, 7] [8, 9, 10, 11, 12, 13, 14] [7, 8, 9, 10, 11, 12, 13, 14, 0, 1, 2, 3, 4, 5, 6, 15, 16] rfl rfl rfl (by decide) rfl rfl g1 g2 g3 g4) (by first | exact Nat.le_of_ble_eq_true rfl | omega | (dsimp only [rm_law, rm_L_build]; omega)) (by first | exact Nat.le_of_ble_eq_true rfl | omega | (dsimp only [rm_law, rm_L_build]; omega)) (fun ub_4 o_3 H locs hp_5 hW => ?_)
  obtain ⟨hG, hp0, hb0, hc0⟩ := hp_5
  refine lv_astore_n (lv' := [(2, .ref o_3), (1, .ref q_1), (0, .ref b)]) hx hb dL_law_13 rfl hl (by decide) rfl (fun ls hl => ?_)
  refine lv_aload_n hx hb dL_law_14 rfl (lv_at hl 0 rfl) ?_
  refine lv_ifnonnull (tgt := 20) hx hb dL_law_15 (by decide) ?_
  refine jv_iconst hx hb dL_law_20 ?_
  refine lv_istore_n (lv' := [(3, .int (J 0)), (2, .ref o_3), (1, .ref q_1), (0, .ref b)]) hx hb dL_law_21 rfl hl (by decide) rfl (fun ls hl => ?_)
  refine W.widen (k := 100 + 9 * 0) (n := 1000 + 78 * 0) (by omega) (by omega) ?_
  subst hAe
  exact law_loop F hr hlocks hK hX hbl hL 10 0 rfl ub_4.1 zs (fun _ => 0) ub_4.2.2 ub_4.2.1 _ _ _ hG hp0 (by omega) (by omega) hW (lv_sub hl [3, 2, 1, 0] rfl)
