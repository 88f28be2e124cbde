abbrev rm_L_build : Room := { frames := 2, cells := 30, slots := 200, locals := 47 }
set_option maxHeartbeats 4000000 in
set_option maxRecDepth 100000 in
/-- a choir that cells choose -/
theorem m_L_build (l : Launch) (κ : Kp) (x : Nat) (a a2 : Nat → Nat) (br : Nat → Int) (b L : Nat) (xs : Nat → Int32) (hL : L ≤ 2048) : CBr l yL_build wsL_build rm_L_build κ [.ref x, .ref b] ((WX κ x a a2 ++ (WC κ a zs br)) ++ RP κ ([] : List Nat) zs) b L xs (fun u => Gd u.1 u.2.2 ∧ 0 < nn u.1 ∧ u.1 5 0 = 0 ∧ u.1 5 1 = 0) (fun (u : Sg × Nat × List Nat) r => (WX κ x a a2 ++ (WC κ a u.1 br ++ WS κ r u.2.1 u.2.2 (u.1 5 0) (u.1 5 1) (u.1 5 2))) ++ RP κ u.2.2 u.1) := by
  refine entry_br (Or.inl ⟨_, rfl⟩) (by decide) rfl (Nat.le_of_ble_eq_true rfl) ?_
  intro P e s m args below meth c ls A Q F hK hX hbl hbA hA hret hW hl
  obtain ⟨hx, hb, hml, hown, hts⟩ := id F
  have hn2 : ∀ w ∈ wsX20, w ∈ wsL_build := by decide +kernel
  refine jv_new (κ := κ) (T := TX2) (N := 4) (ci := 2) hx hb hts hn2 tyX2 tyX2_ok hown (List.mem_of_getElem? (i := 1) rfl) (List.mem_of_getElem? (i := 2) rfl) (List.mem_of_getElem? (i := 3) rfl) hK hW hA rfl [.int (J 0), .int (J 0), .int (J 0), .null] (by decide) 1 4 (by first | exact Nat.le_of_ble_eq_true rfl | omega | (dsimp only [rm_L_build]; omega)) (by first | exact Nat.le_of_ble_eq_true rfl | omega | (dsimp only [rm_L_build]; omega)) (by first | exact Nat.le_of_ble_eq_true rfl | omega | (dsimp only [rm_L_build]; omega)) (by first | exact Nat.le_of_ble_eq_true rfl | omega | (dsimp only [rm_L_build]; omega)) dL_build_0 (fun q_1 H hW => ?_)
  have hW := hW.swap
  have hW : St κ A s.heap H _ ((WX κ x a a2 ++ (WC κ a zs br ++ ([(q_1, .inr (2, [.int (J 0), .int (J 0), .int (J 0), .null]))]))) ++ RP κ ([] : List Nat) zs) := hW
  refine lv_dup hx hb dL_build_3 rfl ?_
  refine fina_v (k := 2) (n := 4) (W2 := (fun pp => ((WX κ x a a2 ++ (WC κ a zs br ++ (WS κ q_1 pp ([] : List Nat) 0 0 0))) ++ RP κ ([] : List Nat) zs))) hW (va_free hW.2.1 hW.2.2 hA [8] rfl) (va_runIN (As := []) (rest := [.ref q_1]) F ((m_X2_init l κ q_1) _) ⟨va_cnB 0 hts gL_build_X2_init_n52 rfl rfl rfl (hK.2.2.2.2) (hts _ (List.mem_of_getElem? (i := 3) rfl)) (by decide +kernel) ⟨(Nat.le_of_ble_eq_true rfl), (Nat.le_of_ble_eq_true rfl)⟩, rfl, hts _ (List.mem_of_getElem? (i := 6) rfl)⟩ (pre_S hK hW [8] rfl (by decide)) rfl rfl hl.1 rfl (lv_room (Nat.le_of_ble_eq_true rfl)) dL_build_4 ⟨(by first | exact Nat.le_of_ble_eq_true rfl | omega | (dsimp only [rm_L_build, rm_X2_init]; omega)), (by first | exact Nat.le_of_ble_eq_true rfl | omega | (dsimp only [rm_L_build, rm_X2_init]; omega))⟩) (fun u H1 locs1 g1 g2 g3 g4 => St.joinQ hW hA [8] [0, 1, 2, 3, 4, 5, 6, 7] [0, 1, 2, 3, 4, 5, 6, 7, 8, 9] rfl rfl rfl (by decide) rfl rfl g1 g2 g3 g4) (by first | exact Nat.le_of_ble_eq_true rfl | omega | (dsimp only [rm_L_build, rm_X2_init]; omega)) (by first | exact Nat.le_of_ble_eq_true rfl | omega | (dsimp only [rm_L_build, rm_X2_init]; omega)) (fun pp H locs hp_2 hW => ?_)
  refine lv_astore_n (lv' := [(2, .ref q_1), (0, .ref x), (1, .ref b)]) hx hb dL_build_7 rfl hl (by decide) rfl (fun ls hl => ?_)
  refine jv_iconst hx hb dL_build_8 ?_
  refine lv_aload_n hx hb dL_build_9 rfl (lv_at hl 2 rfl) ?_
  refine jv_iconst hx hb dL_build_10 ?_
  refine fina_i (k := 2) (n := 4) (W2 := (fun _ => ((WX κ x a a2 ++ (WC κ a zs br ++ (WS κ q_1 pp ([] : List Nat) 0 0 0))) ++ RP κ ([] : List Nat) zs))) hW (va_free hW.2.1 hW.2.2 hA [] rfl) (va_runS (As := [.ref b, .int (J 0)]) (rest := [.int (J 2)]) F ((m_L_cell l κ b L xs hL 0 (by omega)) _) (va_cwS 2 hts gL_build_L_cell rfl rfl rfl (by decide +kernel) ⟨(Nat.le_of_ble_eq_true rfl), (Nat.le_of_ble_eq_true rfl)⟩) (pre_SBP hX hbl hbA hA hK hW [] rfl (by decide)) rfl rfl hl.1 rfl (lv_room (Nat.le_of_ble_eq_true rfl)) dL_build_11 ⟨(by first | exact Nat.le_of_ble_eq_true rfl | omega | (dsimp only [rm_L_build, rm_L_cell]; omega)), (by first | exact Nat.le_of_ble_eq_true rfl | omega | (dsimp only [rm_L_build, rm_L_cell]; omega))⟩) (fun u H1 locs1 g1 g2 g3 g4 => St.joinQ hW hA [] [0, 1, 2, 3, 4, 5, 6, 7, 8, 9] [0, 1, 2, 3, 4, 5, 6, 7, 8, 9] rfl rfl rfl (by decide) rfl rfl g1 g2 g3 g4) (by first | exact Nat.le_of_ble_eq_true rfl | omega | (dsimp only [rm_L_build, rm_L_cell]; omega)) (by first | exact Nat.le_of_ble_eq_true rfl | omega | (dsimp only [rm_L_build, rm_L_cell]; omega)) (fun v_3 u H locs hp_4 hW => ?_)
  refine jv_bipush hx hb 8 dL_build_14 (by decide +kernel) ?_
  refine fina_i (k := 2) (n := 4) (W2 := (fun z_5 => ((WX κ x a a2 ++ (WC κ a zs br ++ (WS κ q_1 pp ([] : List Nat) 0 0 0))) ++ RP κ ([] : List Nat) zs))) hW (va_free hW.2.1 hW.2.2 hA [] rfl) (va_runS (As := [.int v_3, .int (J 8)]) (rest := [.int (J 2)]) F ((m_L_below l κ v_3 8 ⟨by omega, by omega⟩) _) (va_cwS 2 hts gL_build_L_below rfl rfl rfl (by decide +kernel) ⟨(Nat.le_of_ble_eq_true rfl), (Nat.le_of_ble_eq_true rfl)⟩) (pre_S hK hW [] rfl (by decide)) rfl rfl hl.1 rfl (lv_room (Nat.le_of_ble_eq_true rfl)) dL_build_16 ⟨(by first | exact Nat.le_of_ble_eq_true rfl | omega | (dsimp only [rm_L_build, rm_L_below]; omega)), (by first | exact Nat.le_of_ble_eq_true rfl | omega | (dsimp only [rm_L_build, rm_L_below]; omega))⟩) (fun u H1 locs1 g1 g2 g3 g4 => St.joinQ hW hA [] [0, 1, 2, 3, 4, 5, 6, 7, 8, 9] [0, 1, 2, 3, 4, 5, 6, 7, 8, 9] rfl rfl rfl (by decide) rfl rfl g1 g2 g3 g4) (by first | exact Nat.le_of_ble_eq_true rfl | omega | (dsimp only [rm_L_build, rm_L_below]; omega)) (by first | exact Nat.le_of_ble_eq_true rfl | omega | (dsimp only [rm_L_build, rm_L_below]; omega)) (fun r_7 z_5 H locs hp_6 hW => ?_)
  obtain ⟨rfl, hz_5⟩ := hp_6
  refine jv_iadd hx hb dL_build_19 ?_
  refine jv_eq (y := ((2 + z_5 : Nat) : Int)) (by omega) ?_
  refine lv_istore_n (lv' := [(3, .int (J ((2 + z_5) : Int))), (2, .ref q_1), (0, .ref x), (1, .ref b)]) hx hb dL_build_20 rfl hl (by decide) rfl (fun ls hl => ?_)
  refine jv_iconst hx hb dL_build_21 ?_
  refine lv_istore (lv' := [(4, .int (J 0)), (3, .int (J ((2 + z_5) : Int))), (2, .ref q_1), (0, .ref x), (1, .ref b)]) hx hb dL_build_22 hl (by decide) rfl (fun ls hl => ?_)
  refine W.widen (k := 5 + 2 * 0) (n := 20 + 16 * 0) (by omega) (by omega) ?_
  suffices hlp : ∀ (n i : Nat), i ≤ (2 + z_5) → (2 + z_5) < i + n → ∀ (τ : Sg), ∀ (M : List Nat), ∀ (pp : Nat), ∀ (H : Heap) (locs : List Loc) (ls : Array Slot), (Gd τ M ∧ nn τ = i ∧ τ 5 0 = 0 ∧ τ 5 1 = 0) → St κ A s.heap H locs ((WX κ x a a2 ++ (WC κ a τ br ++ (WS κ q_1 pp M (τ 5 0) (τ 5 1) (τ 5 2)))) ++ RP κ M τ) → lv_has ls 7 [(4, .int (J (i : Int))), (3, .int (J ((2 + z_5) : Int))), (2, .ref q_1), (0, .ref x), (1, .ref b)] → W P l e rm_L_build s m args below meth c H locs (5 + 2 * i) (20 + 16 * i) Q (F0 m 24 ls []) from
    hlp ((2 + z_5) + 1) 0 (Nat.zero_le _) (by omega) zs ([] : List Nat) pp _ _ _ (⟨gd_zs, rfl, rfl, rfl⟩) hW hl
  intro n
  induction n with
  | zero => intro i h1 h2; exact absurd h2 (by omega)
  | succ n ih =>
    intro i hi hn τ M pp H locs ls q_G hW hl
    obtain ⟨hG, hni, hb0, hc0⟩ := q_G
    have hI := hG.1
    have hLn := hG.2.1
    have hN := hI.hN
    have hN10 := hI.n10
    have hnn := hI.1
    refine lv_iload hx hb dL_build_24 (lv_at hl 0 rfl) ?_
    refine lv_iload_n hx hb dL_build_26 rfl (lv_at hl 1 rfl) ?_
    refine jv_icmp_ge hx hb 130 dL_build_27 (by decide) ⟨by omega, by omega⟩ ⟨by omega, by omega⟩ (fun h_8 => ?_) (fun h_8 => ?_)
    · skip
      refine lv_aload_n hx hb dL_build_130 rfl (lv_at hl 2 rfl) ?_
      exact hret (τ, pp, M) hW dL_build_131 (by first | exact Nat.le_of_ble_eq_true rfl | omega | (dsimp only [rm_L_build]; omega)) (by first | exact Nat.le_of_ble_eq_true rfl | omega | (dsimp only [rm_L_build]; omega)) (⟨hG, by show 0 < nn τ; omega, hb0, hc0⟩)
    · skip
      refine lv_aload_n hx hb dL_build_30 rfl (lv_at hl 4 rfl) ?_
      refine jv_iconst hx hb dL_build_31 ?_
      refine lv_iload hx hb dL_build_32 (lv_at hl 0 rfl) ?_
      refine jv_iadd hx hb dL_build_34 ?_
      refine jv_eq (y := ((1 + i : Nat) : Int)) (by omega) ?_
      refine fina_i (k := (5 + 2 * i)) (n := (20 + 16 * i)) (W2 := (fun _ => ((WX κ x a a2 ++ (WC κ a τ br ++ (WS κ q_1 pp M (τ 5 0) (τ 5 1) (τ 5 2)))) ++ RP κ M τ))) hW (va_free hW.2.1 hW.2.2 hA [] rfl) (va_runS (As := [.ref b, .int (J ((1 + i) : Int))]) (rest := []) F ((m_L_cell l κ b L xs hL (1 + i) (by omega)) _) (va_cwS 2 hts gL_build_L_cell rfl rfl rfl (by decide +kernel) ⟨(Nat.le_of_ble_eq_true rfl), (Nat.le_of_ble_eq_true rfl)⟩) (pre_SBP hX hbl hbA hA hK hW [] rfl (by decide)) rfl rfl hl.1 rfl (lv_room (Nat.le_of_ble_eq_true rfl)) dL_build_35 ⟨(by first | exact Nat.le_of_ble_eq_true rfl | omega | (dsimp only [rm_L_build, rm_L_cell]; omega)), (by first | exact Nat.le_of_ble_eq_true rfl | omega | (dsimp only [rm_L_build, rm_L_cell]; omega))⟩) (fun u H1 locs1 g1 g2 g3 g4 => St.joinQ hW hA [] [0, 1, 2, 3, 4, 5, 6, 7, 8, 9] [0, 1, 2, 3, 4, 5, 6, 7, 8, 9] rfl rfl rfl (by decide) rfl rfl g1 g2 g3 g4) (by first | exact Nat.le_of_ble_eq_true rfl | omega | (dsimp only [rm_L_build, rm_L_cell]; omega)) (by first | exact Nat.le_of_ble_eq_true rfl | omega | (dsimp only [rm_L_build, rm_L_cell]; omega)) (fun v_9 u H locs hp_10 hW => ?_)
      refine jv_iconst hx hb dL_build_38 ?_
      refine lv_ishr hx hb dL_build_39 ?_
      refine lv_topi (fun y_11 hy_11 => ?_)
      refine lv_istore (lv' := [(5, .int y_11), (4, .int (J (i : Int))), (3, .int (J ((2 + z_5) : Int))), (2, .ref q_1), (0, .ref x), (1, .ref b)]) hx hb dL_build_40 hl (by decide) rfl (fun ls hl => ?_)
      refine jv_iconst hx hb dL_build_42 ?_
      refine jv_newi (κ := κ) hx hb hts (List.mem_of_getElem? (i := 4) rfl) hK hW hA 5 (by omega) ((5 + 2 * i) + 1) ((20 + 16 * i) + 5) (by first | exact Nat.le_of_ble_eq_true rfl | omega | (dsimp only [rm_L_build]; omega)) (by first | exact Nat.le_of_ble_eq_true rfl | omega | (dsimp only [rm_L_build]; omega)) (by first | exact Nat.le_of_ble_eq_true rfl | omega | (dsimp only [rm_L_build]; omega)) (by first | exact Nat.le_of_ble_eq_true rfl | omega | (dsimp only [rm_L_build]; omega)) dL_build_43 (fun q_12 H hW => ?_)
      have hW := hW.swap
      have hW : St κ A s.heap H _ ((WX κ x a a2 ++ (WC κ a τ br ++ (WS κ q_1 pp M (τ 5 0) (τ 5 1) (τ 5 2) ++ (WA κ q_12 5 (fun _ => 0))))) ++ RP κ M τ) := hW
      refine lv_dup hx hb dL_build_45 rfl ?_
      refine jv_iconst hx hb dL_build_46 ?_
      refine lv_iload hx hb dL_build_47 (lv_at hl 0 rfl) ?_
      refine jv_iconst hx hb dL_build_49 ?_
      refine fina_i (k := ((5 + 2 * i) + 1)) (n := ((20 + 16 * i) + 5)) (W2 := (fun z_13 => ((WX κ x a a2 ++ (WC κ a τ br ++ (WS κ q_1 pp M (τ 5 0) (τ 5 1) (τ 5 2) ++ (WA κ q_12 5 (fun _ => 0))))) ++ RP κ M τ))) hW (va_free hW.2.1 hW.2.2 hA [] rfl) (va_runS (As := [.int y_11, .int (J 4)]) (rest := [.int (J 0), .ref q_12, .ref q_12]) F ((m_L_below l κ y_11 4 ⟨by omega, by omega⟩) _) (va_cwS 2 hts gL_build_L_below rfl rfl rfl (by decide +kernel) ⟨(Nat.le_of_ble_eq_true rfl), (Nat.le_of_ble_eq_true rfl)⟩) (pre_S hK hW [] rfl (by decide)) rfl rfl hl.1 rfl (lv_room (Nat.le_of_ble_eq_true rfl)) dL_build_50 ⟨(by first | exact Nat.le_of_ble_eq_true rfl | omega | (dsimp only [rm_L_build, rm_L_below]; omega)), (by first | exact Nat.le_of_ble_eq_true rfl | omega | (dsimp only [rm_L_build, rm_L_below]; omega))⟩) (fun u H1 locs1 g1 g2 g3 g4 => St.joinQ hW hA [] [0, 1, 2, 3, 4, 5, 6, 7, 8, 9, 10] [0, 1, 2, 3, 4, 5, 6, 7, 8, 9, 10] rfl rfl rfl (by decide) rfl rfl g1 g2 g3 g4) (by first | exact Nat.le_of_ble_eq_true rfl | omega | (dsimp only [rm_L_build, rm_L_below]; omega)) (by first | exact Nat.le_of_ble_eq_true rfl | omega | (dsimp only [rm_L_build, rm_L_below]; omega)) (fun r_15 z_13 H locs hp_14 hW => ?_)
      obtain ⟨rfl, hz_13⟩ := hp_14
      refine jv_iast (g := (fun _ => 0)) (ws' := ((WX κ x a a2 ++ (WC κ a τ br ++ (WS κ q_1 pp M (τ 5 0) (τ 5 1) (τ 5 2) ++ (WA κ q_12 5 (upi (fun _ => 0) 0 (z_13 : Int)))))) ++ RP κ M τ)) hx hb hK hW 10 rfl 0 rfl (by omega) (by decide) rfl dL_build_53 (fun H locs hW => ?_)
      refine lv_dup hx hb dL_build_54 rfl ?_
      refine jv_iconst hx hb dL_build_55 ?_
      refine lv_iload hx hb dL_build_56 (lv_at hl 0 rfl) ?_
      refine jv_iconst hx hb dL_build_58 ?_
      refine lv_ishr hx hb dL_build_59 ?_
      refine jv_bipush hx hb 36 dL_build_60 (by decide +kernel) ?_
      refine fina_i (k := ((5 + 2 * i) + 1)) (n := ((20 + 16 * i) + 5)) (W2 := (fun z_16 => ((WX κ x a a2 ++ (WC κ a τ br ++ (WS κ q_1 pp M (τ 5 0) (τ 5 1) (τ 5 2) ++ (WA κ q_12 5 (upi (fun _ => 0) 0 (z_13 : Int)))))) ++ RP κ M τ))) hW (va_free hW.2.1 hW.2.2 hA [] rfl) (va_runS (As := [.int (y_11 >>> ((J 3) &&& 31)), .int (J 36)]) (rest := [.int (J 1), .ref q_12, .ref q_12]) F ((m_L_below l κ (y_11 >>> ((J 3) &&& 31)) 36 ⟨by omega, by omega⟩) _) (va_cwS 2 hts gL_build_L_below rfl rfl rfl (by decide +kernel) ⟨(Nat.le_of_ble_eq_true rfl), (Nat.le_of_ble_eq_true rfl)⟩) (pre_S hK hW [] rfl (by decide)) rfl rfl hl.1 rfl (lv_room (Nat.le_of_ble_eq_true rfl)) dL_build_62 ⟨(by first | exact Nat.le_of_ble_eq_true rfl | omega | (dsimp only [rm_L_build, rm_L_below]; omega)), (by first | exact Nat.le_of_ble_eq_true rfl | omega | (dsimp only [rm_L_build, rm_L_below]; omega))⟩) (fun u H1 locs1 g1 g2 g3 g4 => St.joinQ hW hA [] [0, 1, 2, 3, 4, 5, 6, 7, 8, 9, 10] [0, 1, 2, 3, 4, 5, 6, 7, 8, 9, 10] rfl rfl rfl (by decide) rfl rfl g1 g2 g3 g4) (by first | exact Nat.le_of_ble_eq_true rfl | omega | (dsimp only [rm_L_build, rm_L_below]; omega)) (by first | exact Nat.le_of_ble_eq_true rfl | omega | (dsimp only [rm_L_build, rm_L_below]; omega)) (fun r_18 z_16 H locs hp_17 hW => ?_)
      obtain ⟨rfl, hz_16⟩ := hp_17
      refine jv_iast (g := (upi (fun _ => 0) 0 (z_13 : Int))) (ws' := ((WX κ x a a2 ++ (WC κ a τ br ++ (WS κ q_1 pp M (τ 5 0) (τ 5 1) (τ 5 2) ++ (WA κ q_12 5 (upi (upi (fun _ => 0) 0 (z_13 : Int)) 1 (z_16 : Int)))))) ++ RP κ M τ)) hx hb hK hW 10 rfl 1 rfl (by omega) (by decide) rfl dL_build_65 (fun H locs hW => ?_)
      refine lv_dup hx hb dL_build_66 rfl ?_
      refine jv_iconst hx hb dL_build_67 ?_
      refine lv_iload hx hb dL_build_68 (lv_at hl 0 rfl) ?_
      refine jv_iconst hx hb dL_build_70 ?_
      refine lv_ishr hx hb dL_build_71 ?_
      refine jv_bipush hx hb 21 dL_build_72 (by decide +kernel) ?_
      refine fina_i (k := ((5 + 2 * i) + 1)) (n := ((20 + 16 * i) + 5)) (W2 := (fun z_19 => ((WX κ x a a2 ++ (WC κ a τ br ++ (WS κ q_1 pp M (τ 5 0) (τ 5 1) (τ 5 2) ++ (WA κ q_12 5 (upi (upi (fun _ => 0) 0 (z_13 : Int)) 1 (z_16 : Int)))))) ++ RP κ M τ))) hW (va_free hW.2.1 hW.2.2 hA [] rfl) (va_runS (As := [.int (y_11 >>> ((J 5) &&& 31)), .int (J 21)]) (rest := [.int (J 2), .ref q_12, .ref q_12]) F ((m_L_below l κ (y_11 >>> ((J 5) &&& 31)) 21 ⟨by omega, by omega⟩) _) (va_cwS 2 hts gL_build_L_below rfl rfl rfl (by decide +kernel) ⟨(Nat.le_of_ble_eq_true rfl), (Nat.le_of_ble_eq_true rfl)⟩) (pre_S hK hW [] rfl (by decide)) rfl rfl hl.1 rfl (lv_room (Nat.le_of_ble_eq_true rfl)) dL_build_74 ⟨(by first | exact Nat.le_of_ble_eq_true rfl | omega | (dsimp only [rm_L_build, rm_L_below]; omega)), (by first | exact Nat.le_of_ble_eq_true rfl | omega | (dsimp only [rm_L_build, rm_L_below]; omega))⟩) (fun u H1 locs1 g1 g2 g3 g4 => St.joinQ hW hA [] [0, 1, 2, 3, 4, 5, 6, 7, 8, 9, 10] [0, 1, 2, 3, 4, 5, 6, 7, 8, 9, 10] rfl rfl rfl (by decide) rfl rfl g1 g2 g3 g4) (by first | exact Nat.le_of_ble_eq_true rfl | omega | (dsimp only [rm_L_build, rm_L_below]; omega)) (by first | exact Nat.le_of_ble_eq_true rfl | omega | (dsimp only [rm_L_build, rm_L_below]; omega)) (fun r_21 z_19 H locs hp_20 hW => ?_)
      obtain ⟨rfl, hz_19⟩ := hp_20
      refine jv_iast (g := (upi (upi (fun _ => 0) 0 (z_13 : Int)) 1 (z_16 : Int))) (ws' := ((WX κ x a a2 ++ (WC κ a τ br ++ (WS κ q_1 pp M (τ 5 0) (τ 5 1) (τ 5 2) ++ (WA κ q_12 5 (upi (upi (upi (fun _ => 0) 0 (z_13 : Int)) 1 (z_16 : Int)) 2 (z_19 : Int)))))) ++ RP κ M τ)) hx hb hK hW 10 rfl 2 rfl (by omega) (by decide) rfl dL_build_77 (fun H locs hW => ?_)
      refine lv_dup hx hb dL_build_78 rfl ?_
      refine jv_iconst hx hb dL_build_79 ?_
      refine jv_iconst hx hb dL_build_80 ?_
      refine jv_iast (g := (upi (upi (upi (fun _ => 0) 0 (z_13 : Int)) 1 (z_16 : Int)) 2 (z_19 : Int))) (ws' := ((WX κ x a a2 ++ (WC κ a τ br ++ (WS κ q_1 pp M (τ 5 0) (τ 5 1) (τ 5 2) ++ (WA κ q_12 5 (upi (upi (upi (upi (fun _ => 0) 0 (z_13 : Int)) 1 (z_16 : Int)) 2 (z_19 : Int)) 3 0))))) ++ RP κ M τ)) hx hb hK hW 10 rfl 3 rfl (by omega) (by decide) rfl dL_build_81 (fun H locs hW => ?_)
      refine lv_dup hx hb dL_build_82 rfl ?_
      refine jv_iconst hx hb dL_build_83 ?_
      refine jv_iconst hx hb dL_build_84 ?_
      refine jv_iast (g := (upi (upi (upi (upi (fun _ => 0) 0 (z_13 : Int)) 1 (z_16 : Int)) 2 (z_19 : Int)) 3 0)) (ws' := ((WX κ x a a2 ++ (WC κ a τ br ++ (WS κ q_1 pp M (τ 5 0) (τ 5 1) (τ 5 2) ++ (WA κ q_12 5 (upi (upi (upi (upi (upi (fun _ => 0) 0 (z_13 : Int)) 1 (z_16 : Int)) 2 (z_19 : Int)) 3 0) 4 0))))) ++ RP κ M τ)) hx hb hK hW 10 rfl 4 rfl (by omega) (by decide) rfl dL_build_85 (fun H locs hW => ?_)
      refine lv_astore (lv' := [(6, .ref q_12), (5, .int y_11), (4, .int (J (i : Int))), (3, .int (J ((2 + z_5) : Int))), (2, .ref q_1), (0, .ref x), (1, .ref b)]) hx hb dL_build_86 hl (by decide) rfl (fun ls hl => ?_)
      refine lv_aload_n hx hb dL_build_88 rfl (lv_at hl 4 rfl) ?_
      refine lv_aload_n hx hb dL_build_89 rfl (lv_at hl 4 rfl) ?_
      refine jv_get (T := TX2) (N := 4) (v := .ref pp) hx hb hts hn2 hown hK hW 8 rfl rfl 3 (by decide) (List.mem_of_getElem? (i := 5) rfl) rfl dL_build_90 ?_
      refine lv_aload hx hb dL_build_93 (lv_at hl 0 rfl) ?_
      have hW : St κ A s.heap _ _ ((WX κ x a a2 ++ (WC κ a τ br ++ ([(q_1, .inr (2, [.int (J (τ 5 0)), .int (J (τ 5 1)), .int (J (τ 5 2)), .ref pp]))] ++ (WQ κ pp M.length (fun i => M[i]?) ++ (WA κ q_12 5 (upi (upi (upi (upi (upi (fun _ => 0) 0 (z_13 : Int)) 1 (z_16 : Int)) 2 (z_19 : Int)) 3 0) 4 0)))))) ++ RP κ M τ) := hW
      refine fina_r (k := (((5 + 2 * i) + 1) + 1)) (n := (((20 + 16 * i) + 5) + 11)) (W2 := (fun _ w_22 => ((WX κ x a a2 ++ (WC κ a τ br ++ ([(q_1, .inr (2, [.int (J (τ 5 0)), .int (J (τ 5 1)), .int (J (τ 5 2)), .ref pp]))] ++ (WQ κ pp M.length (fun i => M[i]?) ++ (WA κ q_12 5 (upi (upi (upi (upi (upi (fun _ => 0) 0 (z_13 : Int)) 1 (z_16 : Int)) 2 (z_19 : Int)) 3 0) 4 0) ++ (WQ κ w_22 ((M ++ [q_12]).length) (fun i => (M ++ [q_12])[i]?))))))) ++ RP κ M τ))) hW (va_freeP hW.2.1 hW.2.2 hA [9, 10] rfl) (va_runS (As := [.ref pp, .ref q_12]) (rest := [.ref q_1]) F ((m_X2_with l κ pp q_12 M τ (upi (upi (upi (upi (upi (fun _ => 0) 0 (z_13 : Int)) 1 (z_16 : Int)) 2 (z_19 : Int)) 3 0) 4 0) (by omega)) _) (va_cwS 2 hts gL_build_X2_with rfl rfl rfl (by decide +kernel) ⟨(Nat.le_of_ble_eq_true rfl), (Nat.le_of_ble_eq_true rfl)⟩) (pre_SP hK hW [9, 10] rfl (by decide)) rfl rfl hl.1 rfl (lv_room (Nat.le_of_ble_eq_true rfl)) dL_build_95 ⟨(by first | exact Nat.le_of_ble_eq_true rfl | omega | (dsimp only [rm_L_build, rm_X2_with]; omega)), (by first | exact Nat.le_of_ble_eq_true rfl | omega | (dsimp only [rm_L_build, rm_X2_with]; omega))⟩) (fun u r H1 locs1 g1 g2 g3 g4 => St.joinP hW hA [9, 10] [0, 1, 2, 3, 4, 5, 6, 7, 8] [0, 1, 2, 3, 4, 5, 6, 7, 8, 9, 10, 11] rfl rfl rfl (by decide) rfl rfl g1 g2 g3 g4) (by first | exact Nat.le_of_ble_eq_true rfl | omega | (dsimp only [rm_L_build, rm_X2_with]; omega)) (by first | exact Nat.le_of_ble_eq_true rfl | omega | (dsimp only [rm_L_build, rm_X2_with]; omega)) (fun u w_22 H locs hp_23 hW => ?_)
      refine jv_put (T := TX2) (N := 4) (ws' := ((WX κ x a a2 ++ (WC κ a τ br ++ ([(q_1, .inr (2, [.int (J (τ 5 0)), .int (J (τ 5 1)), .int (J (τ 5 2)), .ref w_22]))] ++ (WQ κ pp M.length (fun i => M[i]?) ++ (WA κ q_12 5 (upi (upi (upi (upi (upi (fun _ => 0) 0 (z_13 : Int)) 1 (z_16 : Int)) 2 (z_19 : Int)) 3 0) 4 0) ++ (WQ κ w_22 ((M ++ [q_12]).length) (fun i => (M ++ [q_12])[i]?))))))) ++ RP κ M τ)) hx hb hts hn2 tyX2 tyX2_ok nmX2 hown hK hW 8 rfl rfl 3 (by decide) (List.mem_of_getElem? (i := 5) rfl) rfl rfl rfl (Nat.le_of_ble_eq_true rfl) rfl dL_build_98 (fun H locs hW => ?_)
      have hW : St κ A s.heap _ _ ((WX κ x a a2 ++ (WC κ a τ br ++ (WS κ q_1 w_22 (M ++ [q_12]) (τ 5 0) (τ 5 1) (τ 5 2) ++ (WA κ q_12 5 (upi (upi (upi (upi (upi (fun _ => 0) 0 (z_13 : Int)) 1 (z_16 : Int)) 2 (z_19 : Int)) 3 0) 4 0))))) ++ RP κ M τ) := hW.part [0, 1, 2, 3, 4, 5, 6, 7, 8, 11, 10] (by decide) rfl
      refine lv_aload_n hx hb dL_build_101 rfl (lv_at hl 5 rfl) ?_
      refine lv_aload hx hb dL_build_102 (lv_at hl 0 rfl) ?_
      refine jv_iconst hx hb dL_build_104 ?_
      refine jv_iald (g := (upi (upi (upi (upi (upi (fun _ => 0) 0 (z_13 : Int)) 1 (z_16 : Int)) 2 (z_19 : Int)) 3 0) 4 0)) hx hb hK hW 10 rfl 0 rfl (by omega) (by decide) dL_build_105 ?_
      refine jv_eq (y := (z_13 : Int)) (by rfl) ?_
      refine lv_aload hx hb dL_build_106 (lv_at hl 0 rfl) ?_
      refine jv_iconst hx hb dL_build_108 ?_
      refine jv_iald (g := (upi (upi (upi (upi (upi (fun _ => 0) 0 (z_13 : Int)) 1 (z_16 : Int)) 2 (z_19 : Int)) 3 0) 4 0)) hx hb hK hW 10 rfl 1 rfl (by omega) (by decide) dL_build_109 ?_
      refine jv_eq (y := (z_16 : Int)) (by rfl) ?_
      refine lv_aload hx hb dL_build_110 (lv_at hl 0 rfl) ?_
      refine jv_iconst hx hb dL_build_112 ?_
      refine jv_iald (g := (upi (upi (upi (upi (upi (fun _ => 0) 0 (z_13 : Int)) 1 (z_16 : Int)) 2 (z_19 : Int)) 3 0) 4 0)) hx hb hK hW 10 rfl 2 rfl (by omega) (by decide) dL_build_113 ?_
      refine jv_eq (y := (z_19 : Int)) (by rfl) ?_
      refine fina_i (k := (((5 + 2 * i) + 1) + 1)) (n := (((20 + 16 * i) + 5) + 11)) (W2 := (fun _ => ((WX κ x a a2 ++ (WC κ a (up (up (up (up τ 4 (τ 5 3).toNat (z_13 : Int)) 0 (τ 5 3).toNat (z_16 : Int)) 1 (τ 5 3).toNat (z_19 : Int)) 5 3 (τ 5 3 + 1)) br ++ (WS κ q_1 w_22 (M ++ [q_12]) (τ 5 0) (τ 5 1) (τ 5 2) ++ (WA κ q_12 5 (upi (upi (upi (upi (upi (fun _ => 0) 0 (z_13 : Int)) 1 (z_16 : Int)) 2 (z_19 : Int)) 3 0) 4 0))))) ++ RP κ M τ))) hW (va_free hW.2.1 hW.2.2 hA [0, 1, 2, 3, 4, 5, 6, 7] rfl) (va_runV (As := [.int (J (z_13 : Int)), .int (J (z_16 : Int)), .int (J (z_19 : Int))]) (rest := []) F ((m_X1_addPot l κ x a a2 τ br (z_13 : Int) (z_16 : Int) (z_19 : Int) ⟨by omega, by omega, by omega⟩ (by omega) hI) _) (cwV 3 hts gL_build_X1_addPot rfl rfl rfl (by decide +kernel) ⟨(Nat.le_of_ble_eq_true rfl), (Nat.le_of_ble_eq_true rfl)⟩) (pre_V hK hW [0, 1, 2, 3, 4, 5, 6, 7] rfl (by decide) 1 0 rfl rfl) rfl rfl hl.1 rfl (lv_room (Nat.le_of_ble_eq_true rfl)) dL_build_114 ⟨(by first | exact Nat.le_of_ble_eq_true rfl | omega | (dsimp only [rm_L_build, rm_X1_addPot]; omega)), (by first | exact Nat.le_of_ble_eq_true rfl | omega | (dsimp only [rm_L_build, rm_X1_addPot]; omega))⟩) (fun u H1 locs1 g1 g2 g3 g4 => St.joinQ hW hA [0, 1, 2, 3, 4, 5, 6, 7] [8, 9, 10] [3, 4, 5, 6, 7, 8, 9, 10, 0, 1, 2] rfl rfl rfl (by decide) rfl rfl g1 g2 g3 g4) (by first | exact Nat.le_of_ble_eq_true rfl | omega | (dsimp only [rm_L_build, rm_X1_addPot]; omega)) (by first | exact Nat.le_of_ble_eq_true rfl | omega | (dsimp only [rm_L_build, rm_X1_addPot]; omega)) (fun r_25 u H locs hp_24 hW => ?_)
      subst hp_24
      refine lv_iload hx hb dL_build_117 (lv_at hl 2 rfl) ?_
      refine jv_icmp_eq hx hb 124 dL_build_119 (by decide) ⟨by omega, by omega⟩ ⟨by omega, by omega⟩ (fun h_26 => ?_) (fun h_26 => by exfalso; omega)
      refine jv_iinc (k := 2) (z := (i : Int)) (lv' := [(4, .int (J ((i : Int) + 1))), (6, .ref q_12), (5, .int y_11), (3, .int (J ((2 + z_5) : Int))), (2, .ref q_1), (0, .ref x), (1, .ref b)]) hx hb dL_build_124 hl rfl (by decide) rfl (fun ls hl => ?_)
      refine lv_goto (tgt := 24) hx hb dL_build_127 (by decide) ?_
      exact ih (i + 1) (by omega) (by omega) (adS τ (nn τ) (z_13 : Int) (z_16 : Int) (z_19 : Int)) (M ++ [q_12]) w_22 _ _ _ (⟨gd_add hG hN (by omega) (by omega) (by omega) (by omega), by rw [adS_nn hN, hni], hb0, hc0⟩) (RP_push (X := (WX κ x a a2 ++ (WC κ a (adS τ (nn τ) (z_13 : Int) (z_16 : Int) (z_19 : Int)) br ++ (WS κ q_1 w_22 (M ++ [q_12]) (τ 5 0) (τ 5 1) (τ 5 2))))) (τ := (adS τ (nn τ) (z_13 : Int) (z_16 : Int) (z_19 : Int))) hW (fun k hk => by rw [hLn]; exact adS_own (hG.2.2 (nn τ) (Nat.le_refl _)) k hk) (fun i hi => adS_rows (by omega))) (lv_sub hl [0, 3, 4, 5, 6] rfl)
