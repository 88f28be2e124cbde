set_option maxHeartbeats 4000000 in
set_option maxRecDepth 100000 in
/-- the law: in the end all is as by hand -/
theorem law_Z {P : Program} {l : Launch} {e : Env} {s : State} {m : MethodId} {below : List Frame} {meth : Method} {c : Code} {Q : State → Prop} {b L : Nat} {xs : Nat → Int32} {κ : Kp} {A : Nat → Prop} (F : CallFix P m c cL_law 25 s #[Value.ref b] wsL_law RL) (hK : Kx κ s) (hA : ∀ q, s.heap.size ≤ q → A q) (hX : va_X b L xs s s.heap) (hbl : b < s.heap.size) (hbA : ¬ A b) (hL : L ≤ 2048) {x q pp : Nat} {a a2 : Nat → Nat} {M : List Nat} {σ τ : Sg} {br bt : Nat → Int} {tm : Nat} (htm : tm < 10) {v : Int32} {k0 n0 : Nat} (hk0 : k0 + 20 ≤ 600130) (hn0 : n0 + 200 ≤ 7301080) (hG : Gd σ M) (hp0 : 0 < nn σ) (hB : σ 5 0 ≤ 900000) (hC : σ 5 1 ≤ 900000) 
    (next1236 : ∀ (H : Heap) (locs : List Loc) (ls : Array Slot), St κ A s.heap H locs ((WX κ x a a2 ++ (WC κ a σ br ++ (WC κ a2 τ bt ++ (WS κ q pp M (σ 5 0) (σ 5 1) (σ 5 2))))) ++ RP κ M σ) → lv_has ls 25 [] → W P l e rm_law s m #[Value.ref b] below meth c H locs (k0 + 1) (n0 + 4) Q (F0 m 1236 ls [.int (J 1)]))
    {H : Heap} {locs : List Loc} {ls : Array Slot} (hW : St κ A s.heap H locs ((WX κ x a a2 ++ (WC κ a σ br ++ (WC κ a2 τ bt ++ (WS κ q pp M (σ 5 0) (σ 5 1) (σ 5 2))))) ++ RP κ M σ)) (hl : lv_has ls 25 [(0, .ref b), (1, .ref x), (2, .ref q)]) : W P l e rm_law s m #[Value.ref b] below meth c H locs k0 n0 Q (F0 m 1231 ls []) := by
  obtain ⟨hx, hb, hml, hown, hts⟩ := id F
  have hI := hG.1
  have hLn := hG.2.1
  have hN := hI.hN
  have hN10 := hI.n10
  have hnn := hI.1
  have hb50 := hI.2.1
  have hb51 := hI.2.2.1
  refine lv_aload_n hx hb dL_law_1231 rfl (lv_at hl 2 rfl) ?_
  refine lv_aload_n hx hb dL_law_1232 rfl (lv_at hl 1 rfl) ?_
  refine fina_i (k := (k0 + 1)) (n := (n0 + 4)) (W2 := (fun _ => ((WX κ x a a2 ++ (WC κ a σ br ++ (WC κ a2 τ bt ++ (WS κ q pp M (σ 5 0) (σ 5 1) (σ 5 2))))) ++ RP κ M σ))) hW (va_freeP hW.2.1 hW.2.2 hA [0, 1, 2, 3, 4, 5, 6, 7, 15, 16] rfl) (va_runV (As := [.ref x]) (rest := []) F ((m_X2_isSame l κ x a a2 br q pp M σ hLn hI (by omega) (by omega)) _) (cwV 1 hts gL_law_X2_isSame rfl rfl rfl (by decide +kernel) ⟨(Nat.le_of_ble_eq_true rfl), (Nat.le_of_ble_eq_true rfl)⟩) (pre_VP hK hW [0, 1, 2, 3, 4, 5, 6, 7, 15, 16] rfl (by decide) 2 15 rfl rfl) rfl rfl hl.1 rfl (lv_room (Nat.le_of_ble_eq_true rfl)) dL_law_1233 ⟨(by first | exact Nat.le_of_ble_eq_true rfl | omega | (dsimp only [rm_law, rm_X2_isSame]; omega)), (by first | exact Nat.le_of_ble_eq_true rfl | omega | (dsimp only [rm_law, rm_X2_isSame]; omega))⟩) (fun u H1 locs1 g1 g2 g3 g4 => St.joinP hW hA [0, 1, 2, 3, 4, 5, 6, 7, 15, 16] [8, 9, 10, 11, 12, 13, 14] [7, 8, 9, 10, 11, 12, 13, 14, 0, 1, 2, 3, 4, 5, 6, 15, 16] rfl rfl rfl (by decide) rfl rfl g1 g2 g3 g4) (by first | exact Nat.le_of_ble_eq_true rfl | omega | (dsimp only [rm_law, rm_X2_isSame]; omega)) (by first | exact Nat.le_of_ble_eq_true rfl | omega | (dsimp only [rm_law, rm_X2_isSame]; omega)) (fun r_2 u H locs hp_1 hW => ?_)
  subst hp_1
  refine W.widen (k := k0 + 1) (n := n0 + 4) (by omega) (by omega) ?_
  exact next1236  _ _ _  hW (lv_sub hl [] rfl)
