abbrev rm_X2_init : Room := { frames := 1, cells := 1, slots := 0, locals := 20 }
set_option maxHeartbeats 4000000 in
set_option maxRecDepth 100000 in
/-- a new one by hand -/
theorem m_X2_init (l : Launch) (κ : Kp) (h0 : Nat) : CGv l yX2_init wsX2_init rm_X2_init κ [.ref h0] ([(h0, .inr (2, [.int (J 0), .int (J 0), .int (J 0), .null]))]) (fun (_ : Nat) => True) (fun (u : Nat) => WS κ h0 u ([] : List Nat) 0 0 0) := by
  refine entry_v (by decide) rfl (Nat.le_of_ble_eq_true rfl) ?_
  intro P e s m args below meth c ls A Q F hname hK hA hret hW hl
  obtain ⟨hx, hb, hml, hown, hts⟩ := id F
  have hn2 : ∀ w ∈ wsX20, w ∈ wsX2_init := by decide +kernel
  refine lv_aload_n hx hb dX2_init_0 rfl (lv_at hl 0 rfl) ?_
  refine W.objInit hx hb hown (hts _ (List.mem_of_getElem? (i := 1) rfl)) (hts _ (List.mem_of_getElem? (i := 2) rfl)) (hts _ (List.mem_of_getElem? (i := 3) rfl)) rfl (by rw [hml]; exact hl.1) rfl dX2_init_1 (Nat.le_of_ble_eq_true rfl) (Nat.le_of_ble_eq_true rfl) ?_
  refine W.eq (g2 := F0 m 4 ls []) rfl ?_
  refine lv_aload_n hx hb dX2_init_4 rfl (lv_at hl 0 rfl) ?_
  refine jv_iconst hx hb dX2_init_5 ?_
  refine jv_newq hx hb hts hown (List.mem_of_getElem? (i := 4) rfl) (hK.2.2.2.1) hW hA 0 (by omega) 1 0 (by first | exact Nat.le_of_ble_eq_true rfl | omega | (dsimp only [rm_X2_init]; omega)) (by first | exact Nat.le_of_ble_eq_true rfl | omega | (dsimp only [rm_X2_init]; omega)) (by first | exact Nat.le_of_ble_eq_true rfl | omega | (dsimp only [rm_X2_init]; omega)) (by first | exact Nat.le_of_ble_eq_true rfl | omega | (dsimp only [rm_X2_init]; omega)) dX2_init_6 (fun q_1 H hW => ?_)
  have hW : St κ A s.heap H _ ([(h0, .inr (2, [.int (J 0), .int (J 0), .int (J 0), .null]))] ++ (WQ κ q_1 0 (fun _ => none))) := hW
  refine jv_put (T := TX2) (N := 4) (ws' := ([(h0, .inr (2, [.int (J 0), .int (J 0), .int (J 0), .ref q_1]))] ++ (WQ κ q_1 0 (fun _ => none)))) hx hb hts hn2 tyX2 tyX2_ok nmX2 hown hK hW 0 rfl rfl 3 (by decide) (List.mem_of_getElem? (i := 5) rfl) rfl rfl rfl (Nat.le_of_ble_eq_true rfl) rfl dX2_init_9 (fun H locs hW => ?_)
  exact hret q_1 (hW.eqP (WS_0 κ h0 q_1)) dX2_init_12 (by first | exact Nat.le_of_ble_eq_true rfl | omega | (dsimp only [rm_X2_init]; omega)) (by first | exact Nat.le_of_ble_eq_true rfl | omega | (dsimp only [rm_X2_init]; omega)) trivial

abbrev rm_X2_with : Room := { frames := 0, cells := 1, slots := 11, locals := 0 }
set_option maxHeartbeats 4000000 in
set_option maxRecDepth 100000 in
/-- a row of references with one more -/
theorem m_X2_with (l : Launch) (κ : Kp) (pp q : Nat) (L : List Nat) (σ : Sg) (g : Nat → Int) (hL : L.length ≤ 10) : CGr l yX2_with wsX2_with rm_X2_with κ [.ref pp, .ref q] ((WQ κ pp L.length (fun i => L[i]?) ++ (WA κ q 5 g)) ++ RP κ L σ) (fun (_ : Unit) => True) (fun (_ : Unit) r => (WQ κ pp L.length (fun i => L[i]?) ++ (WA κ q 5 g ++ WQ κ r (L ++ [q]).length (fun i => (L ++ [q])[i]?))) ++ RP κ L σ) := by
  refine entry_r (Or.inr ⟨_, rfl⟩) (by decide) rfl (Nat.le_of_ble_eq_true rfl) ?_
  intro P e s m args below meth c ls A Q F hname hK hA hret hW hl
  obtain ⟨hx, hb, hml, hown, hts⟩ := id F
  refine lv_aload_n hx hb dX2_with_0 rfl (lv_at hl 0 rfl) ?_
  refine jv_qlen hx hb hK (hK.2.2.2.1) hW 0 rfl dX2_with_1 ?_
  refine jv_iconst hx hb dX2_with_2 ?_
  refine jv_iadd hx hb dX2_with_3 ?_
  refine jv_eq (y := ((L.length + 1 : Nat) : Int)) (by omega) ?_
  refine jv_newq hx hb hts hown (List.mem_of_getElem? (i := 1) rfl) (hK.2.2.2.1) hW hA (L.length + 1) (by omega) 1 11 (by first | exact Nat.le_of_ble_eq_true rfl | omega | (dsimp only [rm_X2_with]; omega)) (by first | exact Nat.le_of_ble_eq_true rfl | omega | (dsimp only [rm_X2_with]; omega)) (by first | exact Nat.le_of_ble_eq_true rfl | omega | (dsimp only [rm_X2_with]; omega)) (by first | exact Nat.le_of_ble_eq_true rfl | omega | (dsimp only [rm_X2_with]; omega)) dX2_with_4 (fun q_1 H hW => ?_)
  have hW := hW.swap
  have hW : St κ A s.heap H _ ((WQ κ pp L.length (fun i => L[i]?) ++ (WA κ q 5 g ++ (WQ κ q_1 (L.length + 1) (fun _ => none)))) ++ RP κ L σ) := hW
  refine lv_astore_n (lv' := [(2, .ref q_1), (0, .ref pp), (1, .ref q)]) hx hb dX2_with_7 rfl hl (by decide) rfl (fun ls hl => ?_)
  refine jv_iconst hx hb dX2_with_8 ?_
  refine lv_istore_n (lv' := [(3, .int (J 0)), (2, .ref q_1), (0, .ref pp), (1, .ref q)]) hx hb dX2_with_9 rfl hl (by decide) rfl (fun ls hl => ?_)
  suffices hlp : ∀ (n i : Nat), i ≤ L.length → L.length < i + n → ∀ (H : Heap) (locs : List Loc) (ls : Array Slot), St κ A s.heap H locs ((WQ κ pp L.length (fun i => L[i]?) ++ (WA κ q 5 g ++ (WQ κ q_1 (L.length + 1) (wqf L i)))) ++ RP κ L σ) → lv_has ls 4 [(3, .int (J (i : Int))), (2, .ref q_1), (0, .ref pp), (1, .ref q)] → W P l e rm_X2_with s m args below meth c H locs 1 11 Q (F0 m 10 ls []) from
    hlp (L.length + 1) 0 (Nat.zero_le _) (by omega)  _ _ _  (by rw [wqf_0]; exact hW) hl
  intro n
  induction n with
  | zero => intro i h1 h2; exact absurd h2 (by omega)
  | succ n ih =>
    intro i hi hn  H locs ls  hW hl
    refine lv_iload_n hx hb dX2_with_10 rfl (lv_at hl 0 rfl) ?_
    refine lv_aload_n hx hb dX2_with_11 rfl (lv_at hl 2 rfl) ?_
    refine jv_qlen hx hb hK (hK.2.2.2.1) hW 0 rfl dX2_with_12 ?_
    refine jv_icmp_ge hx hb 28 dX2_with_13 (by decide) ⟨by omega, by omega⟩ ⟨by omega, by omega⟩ (fun h_2 => ?_) (fun h_2 => ?_)
    · skip
      have hi : i = L.length := by omega
      subst hi
      refine lv_aload_n hx hb dX2_with_28 rfl (lv_at hl 1 rfl) ?_
      refine lv_aload_n hx hb dX2_with_29 rfl (lv_at hl 2 rfl) ?_
      refine jv_qlen hx hb hK (hK.2.2.2.1) hW 0 rfl dX2_with_30 ?_
      refine lv_aload_n hx hb dX2_with_31 rfl (lv_at hl 3 rfl) ?_
      refine jv_qst (f := (wqf L L.length)) (ws' := ((WQ κ pp L.length (fun i => L[i]?) ++ (WA κ q 5 g ++ (WQ κ q_1 (L.length + 1) (va_up (wqf L L.length) L.length (some q))))) ++ RP κ L σ)) hx hb hK (hK.2.2.2.1) hW 2 rfl L.length q ⟨1, 5, _, rfl⟩ rfl (by omega) (by omega) rfl dX2_with_32 (fun H locs hW => ?_)
      refine lv_aload_n hx hb dX2_with_33 rfl (lv_at hl 1 rfl) ?_
      exact hret () (by rw [len_1, ← wqf_end]; exact hW) dX2_with_34 (by first | exact Nat.le_of_ble_eq_true rfl | omega | (dsimp only [rm_X2_with]; omega)) (by first | exact Nat.le_of_ble_eq_true rfl | omega | (dsimp only [rm_X2_with]; omega)) trivial
    · skip
      refine lv_aload_n hx hb dX2_with_16 rfl (lv_at hl 1 rfl) ?_
      refine lv_iload_n hx hb dX2_with_17 rfl (lv_at hl 0 rfl) ?_
      refine lv_aload_n hx hb dX2_with_18 rfl (lv_at hl 2 rfl) ?_
      refine lv_iload_n hx hb dX2_with_19 rfl (lv_at hl 0 rfl) ?_
      refine jv_qld hx hb (hK.2.2.2.1) hW 0 rfl i (la L i) rfl (by omega) (by omega) (la_get (by omega)) dX2_with_20 ?_
      refine jv_qst (f := (wqf L i)) (ws' := ((WQ κ pp L.length (fun i => L[i]?) ++ (WA κ q 5 g ++ (WQ κ q_1 (L.length + 1) (va_up (wqf L i) i (some (la L i)))))) ++ RP κ L σ)) hx hb hK (hK.2.2.2.1) hW 2 rfl i (la L i) ((RP_at hW (i := i) (by omega)).elim fun q h => ⟨q, 5, _, h⟩) rfl (by omega) (by omega) rfl dX2_with_21 (fun H locs hW => ?_)
      refine jv_iinc (k := 0) (z := (i : Int)) (lv' := [(3, .int (J ((i : Int) + 1))), (2, .ref q_1), (0, .ref pp), (1, .ref q)]) hx hb dX2_with_22 hl rfl (by decide) rfl (fun ls hl => ?_)
      refine lv_goto (tgt := 10) hx hb dX2_with_25 (by decide) ?_
      exact ih (i + 1) (by omega) (by omega)  _ _ _  (by rw [← wqf_up (by omega)]; exact hW) hl

abbrev rm_L_below : Room := { frames := 0, cells := 0, slots := 0, locals := 0 }
set_option maxHeartbeats 4000000 in
set_option maxRecDepth 100000 in
/-- a number below another one, out of any -/
theorem m_L_below (l : Launch) (κ : Kp) (v : Int32) (n : Nat) (hn : 0 < n ∧ n < 1000) : CGi l yL_below wsL_below rm_L_below κ [.int v, .int (J (n : Int))] ([] : va_W) (fun r (u : Nat) => r = J (u : Int) ∧ u < n) (fun (u : Nat) => ([] : va_W)) := by
  refine entry_i (by decide) rfl (Nat.le_of_ble_eq_true rfl) ?_
  intro P e s m args below meth c ls A Q F hname hK hA hret hW hl
  obtain ⟨hx, hb, hml, hown, hts⟩ := id F
  refine lv_iload_n hx hb dL_below_0 rfl (lv_at hl 0 rfl) ?_
  refine lv_ldc (v := 2147483647) hx hb hown (hts _ (List.mem_of_getElem? (i := 1) rfl)) dL_below_1 ?_
  refine lv_iand hx hb dL_below_3 ?_
  obtain ⟨z, hz, ez⟩ := and_max v
  refine jv_top ez ?_
  refine lv_iload_n hx hb dL_below_4 rfl (lv_at hl 1 rfl) ?_
  refine jv_irem hx hb dL_below_5 (by omega) ?_
  exact hret (z % n) hW dL_below_6 (by first | exact Nat.le_of_ble_eq_true rfl | omega | (dsimp only [rm_L_below]; omega)) (by first | exact Nat.le_of_ble_eq_true rfl | omega | (dsimp only [rm_L_below]; omega)) (⟨rfl, Nat.mod_lt _ hn.1⟩)

abbrev rm_L_cell : Room := { frames := 0, cells := 0, slots := 0, locals := 0 }
set_option maxHeartbeats 4000000 in
set_option maxRecDepth 100000 in
/-- a number of the script, or one made of its place -/
theorem m_L_cell (l : Launch) (κ : Kp) (b L : Nat) (xs : Nat → Int32) (hL : L ≤ 2048) (k : Nat) (hk : k < 1000) : CBi l yL_cell wsL_cell rm_L_cell κ [.ref b, .int (J (k : Int))] ([] : va_W) b L xs (fun (_ : Int32) (_ : Unit) => True) (fun (_ : Unit) => ([] : va_W)) := by
  refine entry_bi (by decide) rfl (Nat.le_of_ble_eq_true rfl) ?_
  intro P e s m args below meth c ls A Q F hK hX hbl hbA hA hret hW hl
  obtain ⟨hx, hb, hml, hown, hts⟩ := id F
  refine lv_iload_n hx hb dL_cell_0 rfl (lv_at hl 1 rfl) ?_
  refine lv_aload_n hx hb dL_cell_1 rfl (lv_at hl 0 rfl) ?_
  refine js_len (xs := xs) hx hb hX hbl hbA hW dL_cell_2 ?_
  refine jv_icmp_ge hx hb 12 dL_cell_3 (by decide) ⟨by omega, by omega⟩ ⟨by omega, by omega⟩ (fun h_1 => ?_) (fun h_1 => ?_)
  · skip
    refine lv_ldc (v := 790386105) hx hb hown (hts _ (List.mem_of_getElem? (i := 1) rfl)) dL_cell_12 ?_
    refine lv_iload_n hx hb dL_cell_14 rfl (lv_at hl 1 rfl) ?_
    refine jv_iconst hx hb dL_cell_15 ?_
    refine jv_iadd hx hb dL_cell_16 ?_
    refine lv_imul hx hb dL_cell_17 ?_
    exact hret () hW dL_cell_18 (by first | exact Nat.le_of_ble_eq_true rfl | omega | (dsimp only [rm_L_cell]; omega)) (by first | exact Nat.le_of_ble_eq_true rfl | omega | (dsimp only [rm_L_cell]; omega)) trivial
  · skip
    refine lv_aload_n hx hb dL_cell_6 rfl (lv_at hl 0 rfl) ?_
    refine lv_iload_n hx hb dL_cell_7 rfl (lv_at hl 1 rfl) ?_
    refine js_ld (xs := xs) hx hb hX hbl hbA hW k rfl (by omega) hL dL_cell_8 ?_
    refine lv_goto (tgt := 18) hx hb dL_cell_9 (by decide) ?_
    exact hret () hW dL_cell_18 (by first | exact Nat.le_of_ble_eq_true rfl | omega | (dsimp only [rm_L_cell]; omega)) (by first | exact Nat.le_of_ble_eq_true rfl | omega | (dsimp only [rm_L_cell]; omega)) trivial
