set_option maxHeartbeats 4000000 in
set_option maxRecDepth 100000 in
theorem whole_start {p : Program} {e : Env} {s : State} {m : MethodId} {below : List Frame} {meth : Method} {c : Code} (l : Launch) (hflags : l.flags = flags0) {b L : Nat} {xs : Nat → Int32} (hL : L ≤ 2048) (C0 : lw_At p s m meth c b L xs) : W p l e room_1 s m #[Value.ref b] below meth c s.heap [] 0 0 (lw_Z below #[Value.ref b] s) (entryFrame m ([Value.ref b] : List Value).toArray 9) := by
  obtain ⟨hx, hb, hr, hml, hown0, hts0, hX, hbl, hlocks, hgv⟩ := C0
  have hgs := flat_of_before _ hgv
  obtain ⟨κ, hK⟩ := st_K hts0
  have hT := st_T hts0 hgs
  have hN9 : Ncx s := st_N hgs
  have hstk : l.stackTraces = false := st_F hflags
  have hown : s.vm.findClass RL = some m.cls := hown0
  have hts : ∀ w ∈ wsL_law, w.before #[Value.ref b] s = true := fun w h => hts0 w (wsL_law_in w h)
  have F : CallFix p m c cL_law 9 s #[Value.ref b] wsL_law RL := ⟨hx, hb, hml, hown, hts⟩
  have hn1 : ∀ w ∈ wsX10, w ∈ wsL_law := inlX1
  have hn2 : ∀ w ∈ wsX20, w ∈ wsL_law := inlX2
  have hW : St κ (fun q : Nat => s.heap.size ≤ q) s.heap s.heap [] ([] : va_W) := ⟨fun k q h => by simp at h, ⟨fun i j p q h => by simp at h, fun k q h => by simp at h⟩, va_S.rf⟩
  have hl := lv_entry ([.ref b]) (n := 9) (Nat.le_of_ble_eq_true rfl)
  rw [lg_entry_eq]
  generalize (lg_sl ([.ref b]) ++ List.replicate (9 - (lg_sl ([.ref b])).length) Slot.unset).toArray = ls at hl ⊢
  have hl : lv_has ls 9 [(0, .ref b)] := hl
  show W p l e rm_law s m #[Value.ref b] below meth c s.heap [] 0 0 (lw_Z below #[Value.ref b] s) (F0 m 0 ls [])
  generalize hAe : (fun q : Nat => s.heap.size ≤ q) = A at hW hT
  have hA : ∀ q : Nat, s.heap.size ≤ q → A q := fun q h => by rw [← hAe]; exact h
  refine jv_new (κ := κ) (T := TX1) (N := 2) (ci := 1) hx hb hts hn1 tyX1 tyX1_ok hown (List.mem_of_getElem? (i := 0) rfl) (List.mem_of_getElem? (i := 1) rfl) (List.mem_of_getElem? (i := 2) rfl) hK hW hA rfl [.null, .null] (by decide) 1 2 (by first | exact Nat.le_of_ble_eq_true rfl | omega | (dsimp only [rm_law]; omega)) (by first | exact Nat.le_of_ble_eq_true rfl | omega | (dsimp only [rm_law]; omega)) (by first | exact Nat.le_of_ble_eq_true rfl | omega | (dsimp only [rm_law]; omega)) (by first | exact Nat.le_of_ble_eq_true rfl | omega | (dsimp only [rm_law]; omega)) dL_law_0 (fun q_1 H hW => ?_)
  have hW : St κ A s.heap H _ ([(q_1, .inr (1, [.null, .null]))]) := hW
  refine lv_dup hx hb dL_law_3 rfl ?_
  refine fin_v (k := 15) (n := 142) (W2 := (fun ux => (WX κ q_1 ux.1 ux.2 ++ (WC κ ux.1 zs (fun _ => 0) ++ WC κ ux.2 zs (fun _ => 0))))) [0] [] [0, 1, 2, 3, 4, 5, 6, 7, 8, 9, 10, 11, 12, 13, 14] hW hA (va_runI (As := []) (rest := [.ref q_1]) F ((m_X1_init l κ q_1) _) (cwI 0 hts gL_law_X1_init rfl rfl rfl (hts _ (List.mem_of_getElem? (i := 2) rfl)) (hts _ (List.mem_of_getElem? (i := 7) rfl)) (hts _ (List.mem_of_getElem? (i := 8) rfl)) rfl (by decide +kernel) ⟨(Nat.le_of_ble_eq_true rfl), (Nat.le_of_ble_eq_true rfl)⟩) (pre_S hK hW [0] rfl (by decide)) rfl rfl hl.1 rfl (lv_room (Nat.le_of_ble_eq_true rfl)) dL_law_4 ⟨(by first | exact Nat.le_of_ble_eq_true rfl | omega | (dsimp only [rm_law, rm_X1_init]; omega)), (by first | exact Nat.le_of_ble_eq_true rfl | omega | (dsimp only [rm_law, rm_X1_init]; omega))⟩) rfl rfl rfl (by decide) rfl (fun _ => rfl) (by first | exact Nat.le_of_ble_eq_true rfl | omega | (dsimp only [rm_law, rm_X1_init]; omega)) (by first | exact Nat.le_of_ble_eq_true rfl | omega | (dsimp only [rm_law, rm_X1_init]; omega)) (fun ux H locs hp_2 hW => ?_)
  refine lv_astore_n (lv' := [(1, .ref q_1), (0, .ref b)]) hx hb dL_law_7 rfl hl (by decide) rfl (fun ls hl => ?_)
  refine jv_new (κ := κ) (T := TX2) (N := 6) (ci := 2) hx hb hts hn2 tyX2 tyX2_ok hown (List.mem_of_getElem? (i := 3) rfl) (List.mem_of_getElem? (i := 4) rfl) (List.mem_of_getElem? (i := 5) rfl) hK hW hA rfl [.int (J 0), .int (J 0), .int (J 0), .null, .null, .null] (by decide) 16 148 (by first | exact Nat.le_of_ble_eq_true rfl | omega | (dsimp only [rm_law]; omega)) (by first | exact Nat.le_of_ble_eq_true rfl | omega | (dsimp only [rm_law]; omega)) (by first | exact Nat.le_of_ble_eq_true rfl | omega | (dsimp only [rm_law]; omega)) (by first | exact Nat.le_of_ble_eq_true rfl | omega | (dsimp only [rm_law]; omega)) dL_law_8 (fun q_3 H hW => ?_)
  have hW : St κ A s.heap H _ (WX κ q_1 ux.1 ux.2 ++ (WC κ ux.1 zs (fun _ => 0) ++ WC κ ux.2 zs (fun _ => 0)) ++ ([(q_3, .inr (2, [.int (J 0), .int (J 0), .int (J 0), .null, .null, .null]))])) := hW
  refine lv_dup hx hb dL_law_11 rfl ?_
  refine fin_v (k := 19) (n := 224) (W2 := (fun um => (WX κ q_1 ux.1 ux.2 ++ (WC κ ux.1 zs (fun _ => 0) ++ WC κ ux.2 zs (fun _ => 0)) ++ (WM κ um zs 0 (fun _ => 0))))) [15] [0, 1, 2, 3, 4, 5, 6, 7, 8, 9, 10, 11, 12, 13, 14] [0, 1, 2, 3, 4, 5, 6, 7, 8, 9, 10, 11, 12, 13, 14, 15, 16, 17, 18] hW hA (va_runI (As := []) (rest := [.ref q_3]) F ((m_X2_init l κ q_3) _) (cwI 0 hts gL_law_X2_init rfl rfl rfl (hts _ (List.mem_of_getElem? (i := 5) rfl)) (hts _ (List.mem_of_getElem? (i := 29) rfl)) (hts _ (List.mem_of_getElem? (i := 30) rfl)) rfl (by decide +kernel) ⟨(Nat.le_of_ble_eq_true rfl), (Nat.le_of_ble_eq_true rfl)⟩) (pre_S hK hW [15] rfl (by decide)) rfl rfl hl.1 rfl (lv_room (Nat.le_of_ble_eq_true rfl)) dL_law_12 ⟨(by first | exact Nat.le_of_ble_eq_true rfl | omega | (dsimp only [rm_law, rm_X2_init]; omega)), (by first | exact Nat.le_of_ble_eq_true rfl | omega | (dsimp only [rm_law, rm_X2_init]; omega))⟩) rfl rfl rfl (by decide) rfl (fun _ => rfl) (by first | exact Nat.le_of_ble_eq_true rfl | omega | (dsimp only [rm_law, rm_X2_init]; omega)) (by first | exact Nat.le_of_ble_eq_true rfl | omega | (dsimp only [rm_law, rm_X2_init]; omega)) (fun um H locs hp_4 hW => ?_)
  rw [← hp_4]
  refine lv_astore_n (lv' := [(2, .ref (um 0)), (1, .ref q_1), (0, .ref b)]) hx hb dL_law_15 rfl hl (by decide) rfl (fun ls hl => ?_)
  refine jv_iconst hx hb dL_law_16 ?_
  refine jv_newl (κ := κ) hx hb hts (List.mem_of_getElem? (i := 6) rfl) hK hW hA 20 225 (by first | exact Nat.le_of_ble_eq_true rfl | omega | (dsimp only [rm_law]; omega)) (by first | exact Nat.le_of_ble_eq_true rfl | omega | (dsimp only [rm_law]; omega)) (by first | exact Nat.le_of_ble_eq_true rfl | omega | (dsimp only [rm_law]; omega)) (by first | exact Nat.le_of_ble_eq_true rfl | omega | (dsimp only [rm_law]; omega)) dL_law_17 (fun q_5 H hW => ?_)
  have hW : St κ A s.heap H _ (WX κ q_1 ux.1 ux.2 ++ (WC κ ux.1 zs (fun _ => 0) ++ WC κ ux.2 zs (fun _ => 0)) ++ (WM κ um zs 0 (fun _ => 0) ++ (WL κ q_5 (fun _ => 0)))) := hW
  refine lv_astore_n (lv' := [(3, .ref q_5), (2, .ref (um 0)), (1, .ref q_1), (0, .ref b)]) hx hb dL_law_19 rfl hl (by decide) rfl (fun ls hl => ?_)
  refine jv_iconst hx hb dL_law_20 ?_
  refine lv_istore (lv' := [(4, .int (J 0)), (3, .ref q_5), (2, .ref (um 0)), (1, .ref q_1), (0, .ref b)]) hx hb dL_law_21 hl (by decide) rfl (fun ls hl => ?_)
  refine W.widen (k := 100 + 300 * 0) (n := 1000 + 2000 * 0) (by omega) (by omega) ?_
  have hl : lv_has ls 9 (LLoc b q_1 q_5 um 0) := lv_sub hl [4, 3, 2, 1, 0] rfl
  have hW : St κ A s.heap _ _ (WB κ q_1 ux.1 ux.2 um q_5 zs zs (fun _ => 0) (fun _ => 0) (fun _ => 0) 0 (fun _ => 0)) := hW
  subst hAe
  exact law_loop hstk F hr hlocks hK hT hN9 hX hbl hL 513 0 rfl zs zs (fun _ => 0) (fun _ => 0) (fun _ => 0) 0 (fun _ => 0) _ _ _ Inv_zs (by decide) (by decide) hW hl
