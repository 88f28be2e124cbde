abbrev rm_X2_isSame : Room := { frames := 6, cells := 1, slots := 4, locals := 130 }
set_option maxHeartbeats 4000000 in
set_option maxRecDepth 100000 in
/-- is all as by hand -/
theorem m_X2_isSame (l : Launch) (κ : Kp) (x : Nat) (a a2 : Nat → Nat) (br : Nat → Int) (q pp : Nat) (L : List Nat) (σ : Sg) (hLn : L.length = nn σ) (hI : Inv σ) (hB : σ 5 0 ≤ 1000000000) (hC : σ 5 1 ≤ 1000000000) : CGi l yX2_isSame wsX2_isSame rm_X2_isSame κ [.ref q, .ref x] ((WX κ x a a2 ++ (WC κ a σ br ++ (WS κ q pp L (σ 5 0) (σ 5 1) (σ 5 2)))) ++ RP κ L σ) (fun r (_ : Unit) => r = J 1) (fun (_ : Unit) => ((WX κ x a a2 ++ (WC κ a σ br ++ (WS κ q pp L (σ 5 0) (σ 5 1) (σ 5 2)))) ++ RP κ L σ)) := by
  refine entry_z (by decide) rfl (Nat.le_of_ble_eq_true rfl) ?_
  intro P e s m args below meth c ls A Q F hname hK hA hret hW hl
  obtain ⟨hx, hb, hml, hown, hts⟩ := id F
  have hn2 : ∀ w ∈ wsX20, w ∈ wsX2_isSame := by decide +kernel
  have hN := hI.hN
  have hN10 := hI.n10
  have hnn := hI.1
  have hb50 := hI.2.1
  have hb51 := hI.2.2.1
  refine lv_aload_n hx hb dX2_isSame_0 rfl (lv_at hl 0 rfl) ?_
  refine jv_get (T := TX2) (N := 4) (v := .ref pp) hx hb hts hn2 hown hK hW 8 rfl rfl 3 (by decide) (List.mem_of_getElem? (i := 1) rfl) rfl dX2_isSame_1 ?_
  refine jv_qlen hx hb hK (hK.2.2.2.1) hW 9 rfl dX2_isSame_4 ?_
  refine jv_eq (y := (nn σ : Int)) (by rw [hLn]) ?_
  refine lv_istore_n (lv' := [(2, .int (J (nn σ : Int))), (0, .ref q), (1, .ref x)]) hx hb dX2_isSame_5 rfl hl (by decide) rfl (fun ls hl => ?_)
  refine jv_iconst hx hb dX2_isSame_6 ?_
  refine jv_newi (κ := κ) hx hb hts (List.mem_of_getElem? (i := 2) rfl) hK hW hA 4 (by omega) 1 4 (by first | exact Nat.le_of_ble_eq_true rfl | omega | (dsimp only [rm_X2_isSame]; omega)) (by first | exact Nat.le_of_ble_eq_true rfl | omega | (dsimp only [rm_X2_isSame]; omega)) (by first | exact Nat.le_of_ble_eq_true rfl | omega | (dsimp only [rm_X2_isSame]; omega)) (by first | exact Nat.le_of_ble_eq_true rfl | omega | (dsimp only [rm_X2_isSame]; omega)) dX2_isSame_7 (fun q_1 H hW => ?_)
  have hW := hW.swap
  have hW : St κ A s.heap H _ ((WX κ x a a2 ++ (WC κ a σ br ++ (WS κ q pp L (σ 5 0) (σ 5 1) (σ 5 2) ++ (WA κ q_1 4 (fun _ => 0))))) ++ RP κ L σ) := hW
  refine lv_astore_n (lv' := [(3, .ref q_1), (2, .int (J (nn σ : Int))), (0, .ref q), (1, .ref x)]) hx hb dX2_isSame_9 rfl hl (by decide) rfl (fun ls hl => ?_)
  refine jv_iconst hx hb dX2_isSame_10 ?_
  refine lv_istore (lv' := [(4, .int (J (-1))), (3, .ref q_1), (2, .int (J (nn σ : Int))), (0, .ref q), (1, .ref x)]) hx hb dX2_isSame_11 hl (by decide) rfl (fun ls hl => ?_)
  refine jv_iconst hx hb dX2_isSame_13 ?_
  refine lv_istore (lv' := [(5, .int (J (-1))), (4, .int (J (-1))), (3, .ref q_1), (2, .int (J (nn σ : Int))), (0, .ref q), (1, .ref x)]) hx hb dX2_isSame_14 hl (by decide) rfl (fun ls hl => ?_)
  refine jv_iconst hx hb dX2_isSame_16 ?_
  refine lv_istore (lv' := [(6, .int (J 0)), (5, .int (J (-1))), (4, .int (J (-1))), (3, .ref q_1), (2, .int (J (nn σ : Int))), (0, .ref q), (1, .ref x)]) hx hb dX2_isSame_17 hl (by decide) rfl (fun ls hl => ?_)
  refine lv_iload_n hx hb dX2_isSame_19 rfl (lv_at hl 4 rfl) ?_
  refine jv_iconst hx hb dX2_isSame_20 ?_
  refine jv_isub hx hb dX2_isSame_21 ?_
  refine lv_istore (lv' := [(7, .int (J ((nn σ : Int) - 1))), (6, .int (J 0)), (5, .int (J (-1))), (4, .int (J (-1))), (3, .ref q_1), (2, .int (J (nn σ : Int))), (0, .ref q), (1, .ref x)]) hx hb dX2_isSame_22 hl (by decide) rfl (fun ls hl => ?_)
  suffices hlp : ∀ (n i : Nat), i ≤ (nn σ) → (nn σ) < i + n → ∀ (j u1 u2 t : Int), ∀ (g : Nat → Int), ∀ (H : Heap) (locs : List Loc) (ls : Array Slot), (j = (nn σ : Int) - 1 - (i : Int)) → (-1 ≤ u1 ∧ u1 ≤ 10) → (-1 ≤ u2 ∧ u2 ≤ 10) → (t = psum σ (nn σ) - psum σ (nn σ - i)) → (hsI σ (nn σ) (nn σ - i) u1) → (lwI σ (nn σ) (nn σ - i) u2) → (ptI σ (nn σ) (nn σ - i) g) → St κ A s.heap H locs ((WX κ x a a2 ++ (WC κ a σ br ++ (WS κ q pp L (σ 5 0) (σ 5 1) (σ 5 2) ++ (WA κ q_1 4 g)))) ++ RP κ L σ) → lv_has ls 10 [(7, .int (J j)), (6, .int (J t)), (5, .int (J u2)), (4, .int (J u1)), (3, .ref q_1), (2, .int (J (nn σ : Int))), (0, .ref q), (1, .ref x)] → W P l e rm_X2_isSame s m args below meth c H locs 1 4 Q (F0 m 24 ls []) from
    hlp ((nn σ) + 1) 0 (Nat.zero_le _) (by omega) ((nn σ : Int) - 1) (-1) (-1) 0 (fun _ => 0) _ _ _ (by omega) (by omega) (by omega) (by show (0 : Int) = psum σ (nn σ) - psum σ (nn σ); omega) (hsI_0 σ (nn σ)) (lwI_0 σ (nn σ)) (ptI_0 σ (nn σ)) hW hl
  intro n
  induction n with
  | zero => intro i h1 h2; exact absurd h2 (by omega)
  | succ n ih =>
    intro i hi hn j u1 u2 t g H locs ls q_j q_u1 q_u2 q_t q_h q_l q_g hW hl
    refine lv_iload hx hb dX2_isSame_24 (lv_at hl 0 rfl) ?_
    refine jv_if_lt hx hb 213 dX2_isSame_26 (by decide) ⟨by omega, by omega⟩ (fun h_2 => ?_) (fun h_2 => ?_)
    · skip
      have hz0 : nn σ - i = 0 := by omega
      rw [hz0] at q_h q_l q_g q_t
      have e4 := hsI_end q_h
      have e5 := lwI_end hI q_l
      have q_t2 : t = psum σ (nn σ) := by rw [q_t]; show _ - (0 : Int) = _; omega
      have hpr := psum_rng hI (nn σ) hN10
      clear ih
      refine jv_iconst hx hb dX2_isSame_213 ?_
      refine lv_istore (lv' := [(7, .int (J 0)), (6, .int (J t)), (5, .int (J u2)), (4, .int (J u1)), (3, .ref q_1), (2, .int (J (nn σ : Int))), (0, .ref q), (1, .ref x)]) hx hb dX2_isSame_214 hl (by decide) rfl (fun ls hl => ?_)
      suffices hlz : ∀ (n z : Nat), z ≤ 4 → 4 < z + n → ∀ (H : Heap) (locs : List Loc) (ls : Array Slot), St κ A s.heap H locs ((WX κ x a a2 ++ (WC κ a σ br ++ (WS κ q pp L (σ 5 0) (σ 5 1) (σ 5 2) ++ (WA κ q_1 4 g)))) ++ RP κ L σ) → lv_has ls 10 [(7, .int (J (z : Int))), (6, .int (J t)), (5, .int (J u2)), (4, .int (J u1)), (3, .ref q_1), (2, .int (J (nn σ : Int))), (0, .ref q), (1, .ref x)] → W P l e rm_X2_isSame s m args below meth c H locs 1 4 Q (F0 m 216 ls []) from
        hlz (4 + 1) 0 (Nat.zero_le _) (by omega)  _ _ _  hW hl
      intro n
      induction n with
      | zero => intro z h1 h2; exact absurd h2 (by omega)
      | succ n ih_hlz =>
        intro z hi hn  H locs ls  hW hl
        refine lv_iload hx hb dX2_isSame_216 (lv_at hl 0 rfl) ?_
        refine jv_iconst hx hb dX2_isSame_218 ?_
        refine jv_icmp_ge hx hb 243 dX2_isSame_219 (by decide) ⟨by omega, by omega⟩ ⟨by omega, by omega⟩ (fun h_3 => ?_) (fun h_3 => ?_)
        · skip
          have hns := ns_le σ
          have hmr := hm_rng hN10
          have hcr := ccl_rng hN10
          have hbi := bi_rng (ic σ)
          refine lv_aload_n hx hb dX2_isSame_243 rfl (lv_at hl 7 rfl) ?_
          refine fina_i (k := 1) (n := 4) (W2 := (fun _ => ((WX κ x a a2 ++ (WC κ a σ br ++ (WS κ q pp L (σ 5 0) (σ 5 1) (σ 5 2) ++ (WA κ q_1 4 g)))) ++ RP κ L σ))) hW (va_free hW.2.1 hW.2.2 hA [0, 1, 2, 3, 4, 5, 6, 7] rfl) (va_runV (As := []) (rest := []) F ((m_X1_pots l κ x a a2 σ br hI) _) (cwV 0 hts gX2_isSame_X1_pots rfl rfl rfl (by decide +kernel) ⟨(Nat.le_of_ble_eq_true rfl), (Nat.le_of_ble_eq_true rfl)⟩) (pre_V hK hW [0, 1, 2, 3, 4, 5, 6, 7] rfl (by decide) 1 0 rfl rfl) rfl rfl hl.1 rfl (lv_room (Nat.le_of_ble_eq_true rfl)) dX2_isSame_244 ⟨(by first | exact Nat.le_of_ble_eq_true rfl | omega | (dsimp only [rm_X2_isSame, rm_X1_pots]; omega)), (by first | exact Nat.le_of_ble_eq_true rfl | omega | (dsimp only [rm_X2_isSame, rm_X1_pots]; omega))⟩) (fun u H1 locs1 g1 g2 g3 g4 => St.joinQ hW hA [0, 1, 2, 3, 4, 5, 6, 7] [8, 9, 10] [3, 4, 5, 6, 7, 8, 9, 10, 0, 1, 2] rfl rfl rfl (by decide) rfl rfl g1 g2 g3 g4) (by first | exact Nat.le_of_ble_eq_true rfl | omega | (dsimp only [rm_X2_isSame, rm_X1_pots]; omega)) (by first | exact Nat.le_of_ble_eq_true rfl | omega | (dsimp only [rm_X2_isSame, rm_X1_pots]; omega)) (fun r_5 u H locs hp_4 hW => ?_)
          subst hp_4
          refine lv_iload_n hx hb dX2_isSame_247 rfl (lv_at hl 5 rfl) ?_
          refine jv_icmp_ne hx hb 367 dX2_isSame_248 (by decide) ⟨by omega, by omega⟩ ⟨by omega, by omega⟩ (fun h_6 => by exfalso; omega) (fun h_6 => ?_)
          refine lv_aload_n hx hb dX2_isSame_251 rfl (lv_at hl 7 rfl) ?_
          refine fina_i (k := 1) (n := 4) (W2 := (fun _ => ((WX κ x a a2 ++ (WC κ a σ br ++ (WS κ q pp L (σ 5 0) (σ 5 1) (σ 5 2) ++ (WA κ q_1 4 g)))) ++ RP κ L σ))) hW (va_free hW.2.1 hW.2.2 hA [0, 1, 2, 3, 4, 5, 6, 7] rfl) (va_runV (As := []) (rest := []) F ((m_X1_beats l κ x a a2 σ br hI) _) (cwV 0 hts gX2_isSame_X1_beats rfl rfl rfl (by decide +kernel) ⟨(Nat.le_of_ble_eq_true rfl), (Nat.le_of_ble_eq_true rfl)⟩) (pre_V hK hW [0, 1, 2, 3, 4, 5, 6, 7] rfl (by decide) 1 0 rfl rfl) rfl rfl hl.1 rfl (lv_room (Nat.le_of_ble_eq_true rfl)) dX2_isSame_252 ⟨(by first | exact Nat.le_of_ble_eq_true rfl | omega | (dsimp only [rm_X2_isSame, rm_X1_beats]; omega)), (by first | exact Nat.le_of_ble_eq_true rfl | omega | (dsimp only [rm_X2_isSame, rm_X1_beats]; omega))⟩) (fun u H1 locs1 g1 g2 g3 g4 => St.joinQ hW hA [0, 1, 2, 3, 4, 5, 6, 7] [8, 9, 10] [3, 4, 5, 6, 7, 8, 9, 10, 0, 1, 2] rfl rfl rfl (by decide) rfl rfl g1 g2 g3 g4) (by first | exact Nat.le_of_ble_eq_true rfl | omega | (dsimp only [rm_X2_isSame, rm_X1_beats]; omega)) (by first | exact Nat.le_of_ble_eq_true rfl | omega | (dsimp only [rm_X2_isSame, rm_X1_beats]; omega)) (fun r_8 u H locs hp_7 hW => ?_)
          subst hp_7
          refine lv_aload_n hx hb dX2_isSame_255 rfl (lv_at hl 6 rfl) ?_
          refine jv_get (T := TX2) (N := 4) (v := .int (J (σ 5 0))) hx hb hts hn2 hown hK hW 8 rfl rfl 0 (by decide) (List.mem_of_getElem? (i := 3) rfl) rfl dX2_isSame_256 ?_
          refine jv_icmp_ne hx hb 367 dX2_isSame_259 (by decide) ⟨by omega, by omega⟩ ⟨by omega, by omega⟩ (fun h_9 => by exfalso; omega) (fun h_9 => ?_)
          refine lv_aload_n hx hb dX2_isSame_262 rfl (lv_at hl 7 rfl) ?_
          refine fina_i (k := 1) (n := 4) (W2 := (fun _ => ((WX κ x a a2 ++ (WC κ a σ br ++ (WS κ q pp L (σ 5 0) (σ 5 1) (σ 5 2) ++ (WA κ q_1 4 g)))) ++ RP κ L σ))) hW (va_free hW.2.1 hW.2.2 hA [0, 1, 2, 3, 4, 5, 6, 7] rfl) (va_runV (As := []) (rest := []) F ((m_X1_sounding l κ x a a2 σ br hI) _) (cwV 0 hts gX2_isSame_X1_sounding rfl rfl rfl (by decide +kernel) ⟨(Nat.le_of_ble_eq_true rfl), (Nat.le_of_ble_eq_true rfl)⟩) (pre_V hK hW [0, 1, 2, 3, 4, 5, 6, 7] rfl (by decide) 1 0 rfl rfl) rfl rfl hl.1 rfl (lv_room (Nat.le_of_ble_eq_true rfl)) dX2_isSame_263 ⟨(by first | exact Nat.le_of_ble_eq_true rfl | omega | (dsimp only [rm_X2_isSame, rm_X1_sounding]; omega)), (by first | exact Nat.le_of_ble_eq_true rfl | omega | (dsimp only [rm_X2_isSame, rm_X1_sounding]; omega))⟩) (fun u H1 locs1 g1 g2 g3 g4 => St.joinQ hW hA [0, 1, 2, 3, 4, 5, 6, 7] [8, 9, 10] [3, 4, 5, 6, 7, 8, 9, 10, 0, 1, 2] rfl rfl rfl (by decide) rfl rfl g1 g2 g3 g4) (by first | exact Nat.le_of_ble_eq_true rfl | omega | (dsimp only [rm_X2_isSame, rm_X1_sounding]; omega)) (by first | exact Nat.le_of_ble_eq_true rfl | omega | (dsimp only [rm_X2_isSame, rm_X1_sounding]; omega)) (fun r_11 u H locs hp_10 hW => ?_)
          subst hp_10
          refine lv_aload_n hx hb dX2_isSame_266 rfl (lv_at hl 6 rfl) ?_
          refine fina_i (k := 1) (n := 4) (W2 := (fun _ => ((WX κ x a a2 ++ (WC κ a σ br ++ (WS κ q pp L (σ 5 0) (σ 5 1) (σ 5 2) ++ (WA κ q_1 4 g)))) ++ RP κ L σ))) hW (va_freeP hW.2.1 hW.2.2 hA [8, 9] rfl) (va_runV (As := []) (rest := [.int (J (ns σ : Int))]) F ((m_X2_sounding l κ q pp L σ (σ 5 0) (σ 5 1) (σ 5 2) hLn hI) _) (cwV 0 hts gX2_isSame_X2_sounding rfl rfl rfl (by decide +kernel) ⟨(Nat.le_of_ble_eq_true rfl), (Nat.le_of_ble_eq_true rfl)⟩) (pre_VP hK hW [8, 9] rfl (by decide) 2 8 rfl rfl) rfl rfl hl.1 rfl (lv_room (Nat.le_of_ble_eq_true rfl)) dX2_isSame_267 ⟨(by first | exact Nat.le_of_ble_eq_true rfl | omega | (dsimp only [rm_X2_isSame, rm_X2_sounding]; omega)), (by first | exact Nat.le_of_ble_eq_true rfl | omega | (dsimp only [rm_X2_isSame, rm_X2_sounding]; omega))⟩) (fun u H1 locs1 g1 g2 g3 g4 => St.joinP hW hA [8, 9] [0, 1, 2, 3, 4, 5, 6, 7, 10] [0, 1, 2, 3, 4, 5, 6, 7, 9, 10, 8] rfl rfl rfl (by decide) rfl rfl g1 g2 g3 g4) (by first | exact Nat.le_of_ble_eq_true rfl | omega | (dsimp only [rm_X2_isSame, rm_X2_sounding]; omega)) (by first | exact Nat.le_of_ble_eq_true rfl | omega | (dsimp only [rm_X2_isSame, rm_X2_sounding]; omega)) (fun r_13 u H locs hp_12 hW => ?_)
          subst hp_12
          refine jv_icmp_ne hx hb 367 dX2_isSame_270 (by decide) ⟨by omega, by omega⟩ ⟨by omega, by omega⟩ (fun h_14 => by exfalso; omega) (fun h_14 => ?_)
          refine lv_aload_n hx hb dX2_isSame_273 rfl (lv_at hl 7 rfl) ?_
          refine fina_i (k := 1) (n := 4) (W2 := (fun _ => ((WX κ x a a2 ++ (WC κ a σ br ++ (WS κ q pp L (σ 5 0) (σ 5 1) (σ 5 2) ++ (WA κ q_1 4 g)))) ++ RP κ L σ))) hW (va_free hW.2.1 hW.2.2 hA [0, 1, 2, 3, 4, 5, 6, 7] rfl) (va_runV (As := []) (rest := []) F ((m_X1_harmony l κ x a a2 σ br hI) _) (cwV 0 hts gX2_isSame_X1_harmony rfl rfl rfl (by decide +kernel) ⟨(Nat.le_of_ble_eq_true rfl), (Nat.le_of_ble_eq_true rfl)⟩) (pre_V hK hW [0, 1, 2, 3, 4, 5, 6, 7] rfl (by decide) 1 0 rfl rfl) rfl rfl hl.1 rfl (lv_room (Nat.le_of_ble_eq_true rfl)) dX2_isSame_274 ⟨(by first | exact Nat.le_of_ble_eq_true rfl | omega | (dsimp only [rm_X2_isSame, rm_X1_harmony]; omega)), (by first | exact Nat.le_of_ble_eq_true rfl | omega | (dsimp only [rm_X2_isSame, rm_X1_harmony]; omega))⟩) (fun u H1 locs1 g1 g2 g3 g4 => St.joinQ hW hA [0, 1, 2, 3, 4, 5, 6, 7] [8, 9, 10] [3, 4, 5, 6, 7, 8, 9, 10, 0, 1, 2] rfl rfl rfl (by decide) rfl rfl g1 g2 g3 g4) (by first | exact Nat.le_of_ble_eq_true rfl | omega | (dsimp only [rm_X2_isSame, rm_X1_harmony]; omega)) (by first | exact Nat.le_of_ble_eq_true rfl | omega | (dsimp only [rm_X2_isSame, rm_X1_harmony]; omega)) (fun r_16 u H locs hp_15 hW => ?_)
          subst hp_15
          refine lv_aload_n hx hb dX2_isSame_277 rfl (lv_at hl 6 rfl) ?_
          refine fina_i (k := 1) (n := 4) (W2 := (fun _ => ((WX κ x a a2 ++ (WC κ a σ br ++ (WS κ q pp L (σ 5 0) (σ 5 1) (σ 5 2) ++ (WA κ q_1 4 g)))) ++ RP κ L σ))) hW (va_freeP hW.2.1 hW.2.2 hA [8, 9] rfl) (va_runV (As := []) (rest := [.int (J (hm σ))]) F ((m_X2_harmony l κ q pp L σ (σ 5 0) (σ 5 1) (σ 5 2) hLn hI) _) (cwV 0 hts gX2_isSame_X2_harmony rfl rfl rfl (by decide +kernel) ⟨(Nat.le_of_ble_eq_true rfl), (Nat.le_of_ble_eq_true rfl)⟩) (pre_VP hK hW [8, 9] rfl (by decide) 2 8 rfl rfl) rfl rfl hl.1 rfl (lv_room (Nat.le_of_ble_eq_true rfl)) dX2_isSame_278 ⟨(by first | exact Nat.le_of_ble_eq_true rfl | omega | (dsimp only [rm_X2_isSame, rm_X2_harmony]; omega)), (by first | exact Nat.le_of_ble_eq_true rfl | omega | (dsimp only [rm_X2_isSame, rm_X2_harmony]; omega))⟩) (fun u H1 locs1 g1 g2 g3 g4 => St.joinP hW hA [8, 9] [0, 1, 2, 3, 4, 5, 6, 7, 10] [0, 1, 2, 3, 4, 5, 6, 7, 9, 10, 8] rfl rfl rfl (by decide) rfl rfl g1 g2 g3 g4) (by first | exact Nat.le_of_ble_eq_true rfl | omega | (dsimp only [rm_X2_isSame, rm_X2_harmony]; omega)) (by first | exact Nat.le_of_ble_eq_true rfl | omega | (dsimp only [rm_X2_isSame, rm_X2_harmony]; omega)) (fun r_18 u H locs hp_17 hW => ?_)
          subst hp_17
          refine jv_icmp_ne hx hb 367 dX2_isSame_281 (by decide) ⟨by omega, by omega⟩ ⟨by omega, by omega⟩ (fun h_19 => by exfalso; omega) (fun h_19 => ?_)
          refine lv_aload_n hx hb dX2_isSame_284 rfl (lv_at hl 7 rfl) ?_
          refine fina_i (k := 1) (n := 4) (W2 := (fun _ => ((WX κ x a a2 ++ (WC κ a σ br ++ (WS κ q pp L (σ 5 0) (σ 5 1) (σ 5 2) ++ (WA κ q_1 4 g)))) ++ RP κ L σ))) hW (va_free hW.2.1 hW.2.2 hA [0, 1, 2, 3, 4, 5, 6, 7] rfl) (va_runV (As := []) (rest := []) F ((m_X1_clashes l κ x a a2 σ br hI) _) (cwV 0 hts gX2_isSame_X1_clashes rfl rfl rfl (by decide +kernel) ⟨(Nat.le_of_ble_eq_true rfl), (Nat.le_of_ble_eq_true rfl)⟩) (pre_V hK hW [0, 1, 2, 3, 4, 5, 6, 7] rfl (by decide) 1 0 rfl rfl) rfl rfl hl.1 rfl (lv_room (Nat.le_of_ble_eq_true rfl)) dX2_isSame_285 ⟨(by first | exact Nat.le_of_ble_eq_true rfl | omega | (dsimp only [rm_X2_isSame, rm_X1_clashes]; omega)), (by first | exact Nat.le_of_ble_eq_true rfl | omega | (dsimp only [rm_X2_isSame, rm_X1_clashes]; omega))⟩) (fun u H1 locs1 g1 g2 g3 g4 => St.joinQ hW hA [0, 1, 2, 3, 4, 5, 6, 7] [8, 9, 10] [3, 4, 5, 6, 7, 8, 9, 10, 0, 1, 2] rfl rfl rfl (by decide) rfl rfl g1 g2 g3 g4) (by first | exact Nat.le_of_ble_eq_true rfl | omega | (dsimp only [rm_X2_isSame, rm_X1_clashes]; omega)) (by first | exact Nat.le_of_ble_eq_true rfl | omega | (dsimp only [rm_X2_isSame, rm_X1_clashes]; omega)) (fun r_21 u H locs hp_20 hW => ?_)
          subst hp_20
          refine lv_aload_n hx hb dX2_isSame_288 rfl (lv_at hl 6 rfl) ?_
          refine fina_i (k := 1) (n := 4) (W2 := (fun _ => ((WX κ x a a2 ++ (WC κ a σ br ++ (WS κ q pp L (σ 5 0) (σ 5 1) (σ 5 2) ++ (WA κ q_1 4 g)))) ++ RP κ L σ))) hW (va_freeP hW.2.1 hW.2.2 hA [8, 9] rfl) (va_runV (As := []) (rest := [.int (J (ccl σ))]) F ((m_X2_clashes l κ q pp L σ (σ 5 0) (σ 5 1) (σ 5 2) hLn hI) _) (cwV 0 hts gX2_isSame_X2_clashes rfl rfl rfl (by decide +kernel) ⟨(Nat.le_of_ble_eq_true rfl), (Nat.le_of_ble_eq_true rfl)⟩) (pre_VP hK hW [8, 9] rfl (by decide) 2 8 rfl rfl) rfl rfl hl.1 rfl (lv_room (Nat.le_of_ble_eq_true rfl)) dX2_isSame_289 ⟨(by first | exact Nat.le_of_ble_eq_true rfl | omega | (dsimp only [rm_X2_isSame, rm_X2_clashes]; omega)), (by first | exact Nat.le_of_ble_eq_true rfl | omega | (dsimp only [rm_X2_isSame, rm_X2_clashes]; omega))⟩) (fun u H1 locs1 g1 g2 g3 g4 => St.joinP hW hA [8, 9] [0, 1, 2, 3, 4, 5, 6, 7, 10] [0, 1, 2, 3, 4, 5, 6, 7, 9, 10, 8] rfl rfl rfl (by decide) rfl rfl g1 g2 g3 g4) (by first | exact Nat.le_of_ble_eq_true rfl | omega | (dsimp only [rm_X2_isSame, rm_X2_clashes]; omega)) (by first | exact Nat.le_of_ble_eq_true rfl | omega | (dsimp only [rm_X2_isSame, rm_X2_clashes]; omega)) (fun r_23 u H locs hp_22 hW => ?_)
          subst hp_22
          refine jv_icmp_ne hx hb 367 dX2_isSame_292 (by decide) ⟨by omega, by omega⟩ ⟨by omega, by omega⟩ (fun h_24 => by exfalso; omega) (fun h_24 => ?_)
          refine lv_aload_n hx hb dX2_isSame_295 rfl (lv_at hl 7 rfl) ?_
          refine fina_i (k := 1) (n := 4) (W2 := (fun _ => ((WX κ x a a2 ++ (WC κ a σ br ++ (WS κ q pp L (σ 5 0) (σ 5 1) (σ 5 2) ++ (WA κ q_1 4 g)))) ++ RP κ L σ))) hW (va_free hW.2.1 hW.2.2 hA [0, 1, 2, 3, 4, 5, 6, 7] rfl) (va_runV (As := []) (rest := []) F ((m_X1_harshest l κ x a a2 σ br hI) _) (cwV 0 hts gX2_isSame_X1_harshest rfl rfl rfl (by decide +kernel) ⟨(Nat.le_of_ble_eq_true rfl), (Nat.le_of_ble_eq_true rfl)⟩) (pre_V hK hW [0, 1, 2, 3, 4, 5, 6, 7] rfl (by decide) 1 0 rfl rfl) rfl rfl hl.1 rfl (lv_room (Nat.le_of_ble_eq_true rfl)) dX2_isSame_296 ⟨(by first | exact Nat.le_of_ble_eq_true rfl | omega | (dsimp only [rm_X2_isSame, rm_X1_harshest]; omega)), (by first | exact Nat.le_of_ble_eq_true rfl | omega | (dsimp only [rm_X2_isSame, rm_X1_harshest]; omega))⟩) (fun u H1 locs1 g1 g2 g3 g4 => St.joinQ hW hA [0, 1, 2, 3, 4, 5, 6, 7] [8, 9, 10] [3, 4, 5, 6, 7, 8, 9, 10, 0, 1, 2] rfl rfl rfl (by decide) rfl rfl g1 g2 g3 g4) (by first | exact Nat.le_of_ble_eq_true rfl | omega | (dsimp only [rm_X2_isSame, rm_X1_harshest]; omega)) (by first | exact Nat.le_of_ble_eq_true rfl | omega | (dsimp only [rm_X2_isSame, rm_X1_harshest]; omega)) (fun r_26 u H locs hp_25 hW => ?_)
          subst hp_25
          refine lv_iload hx hb dX2_isSame_299 (lv_at hl 3 rfl) ?_
          refine jv_icmp_ne hx hb 367 dX2_isSame_301 (by decide) ⟨by omega, by omega⟩ ⟨by omega, by omega⟩ (fun h_27 => by exfalso; omega) (fun h_27 => ?_)
          refine lv_aload_n hx hb dX2_isSame_304 rfl (lv_at hl 7 rfl) ?_
          refine fina_i (k := 1) (n := 4) (W2 := (fun _ => ((WX κ x a a2 ++ (WC κ a σ br ++ (WS κ q pp L (σ 5 0) (σ 5 1) (σ 5 2) ++ (WA κ q_1 4 g)))) ++ RP κ L σ))) hW (va_free hW.2.1 hW.2.2 hA [0, 1, 2, 3, 4, 5, 6, 7] rfl) (va_runV (As := []) (rest := []) F ((m_X1_lowest l κ x a a2 σ br hI) _) (cwV 0 hts gX2_isSame_X1_lowest rfl rfl rfl (by decide +kernel) ⟨(Nat.le_of_ble_eq_true rfl), (Nat.le_of_ble_eq_true rfl)⟩) (pre_V hK hW [0, 1, 2, 3, 4, 5, 6, 7] rfl (by decide) 1 0 rfl rfl) rfl rfl hl.1 rfl (lv_room (Nat.le_of_ble_eq_true rfl)) dX2_isSame_305 ⟨(by first | exact Nat.le_of_ble_eq_true rfl | omega | (dsimp only [rm_X2_isSame, rm_X1_lowest]; omega)), (by first | exact Nat.le_of_ble_eq_true rfl | omega | (dsimp only [rm_X2_isSame, rm_X1_lowest]; omega))⟩) (fun u H1 locs1 g1 g2 g3 g4 => St.joinQ hW hA [0, 1, 2, 3, 4, 5, 6, 7] [8, 9, 10] [3, 4, 5, 6, 7, 8, 9, 10, 0, 1, 2] rfl rfl rfl (by decide) rfl rfl g1 g2 g3 g4) (by first | exact Nat.le_of_ble_eq_true rfl | omega | (dsimp only [rm_X2_isSame, rm_X1_lowest]; omega)) (by first | exact Nat.le_of_ble_eq_true rfl | omega | (dsimp only [rm_X2_isSame, rm_X1_lowest]; omega)) (fun r_29 u H locs hp_28 hW => ?_)
          subst hp_28
          refine lv_iload hx hb dX2_isSame_308 (lv_at hl 2 rfl) ?_
          refine jv_icmp_ne hx hb 367 dX2_isSame_310 (by decide) ⟨by omega, by omega⟩ ⟨by omega, by omega⟩ (fun h_30 => by exfalso; omega) (fun h_30 => ?_)
          refine lv_aload_n hx hb dX2_isSame_313 rfl (lv_at hl 7 rfl) ?_
          refine fina_i (k := 1) (n := 4) (W2 := (fun _ => ((WX κ x a a2 ++ (WC κ a σ br ++ (WS κ q pp L (σ 5 0) (σ 5 1) (σ 5 2) ++ (WA κ q_1 4 g)))) ++ RP κ L σ))) hW (va_free hW.2.1 hW.2.2 hA [0, 1, 2, 3, 4, 5, 6, 7] rfl) (va_runV (As := []) (rest := []) F ((m_X1_isClear l κ x a a2 σ br hI) _) (cwV 0 hts gX2_isSame_X1_isClear rfl rfl rfl (by decide +kernel) ⟨(Nat.le_of_ble_eq_true rfl), (Nat.le_of_ble_eq_true rfl)⟩) (pre_V hK hW [0, 1, 2, 3, 4, 5, 6, 7] rfl (by decide) 1 0 rfl rfl) rfl rfl hl.1 rfl (lv_room (Nat.le_of_ble_eq_true rfl)) dX2_isSame_314 ⟨(by first | exact Nat.le_of_ble_eq_true rfl | omega | (dsimp only [rm_X2_isSame, rm_X1_isClear]; omega)), (by first | exact Nat.le_of_ble_eq_true rfl | omega | (dsimp only [rm_X2_isSame, rm_X1_isClear]; omega))⟩) (fun u H1 locs1 g1 g2 g3 g4 => St.joinQ hW hA [0, 1, 2, 3, 4, 5, 6, 7] [8, 9, 10] [3, 4, 5, 6, 7, 8, 9, 10, 0, 1, 2] rfl rfl rfl (by decide) rfl rfl g1 g2 g3 g4) (by first | exact Nat.le_of_ble_eq_true rfl | omega | (dsimp only [rm_X2_isSame, rm_X1_isClear]; omega)) (by first | exact Nat.le_of_ble_eq_true rfl | omega | (dsimp only [rm_X2_isSame, rm_X1_isClear]; omega)) (fun r_32 u H locs hp_31 hW => ?_)
          subst hp_31
          refine lv_aload_n hx hb dX2_isSame_317 rfl (lv_at hl 6 rfl) ?_
          refine fina_i (k := 1) (n := 4) (W2 := (fun _ => ((WX κ x a a2 ++ (WC κ a σ br ++ (WS κ q pp L (σ 5 0) (σ 5 1) (σ 5 2) ++ (WA κ q_1 4 g)))) ++ RP κ L σ))) hW (va_freeP hW.2.1 hW.2.2 hA [8, 9] rfl) (va_runV (As := []) (rest := [.int (J (bi (ic σ)))]) F ((m_X2_isClear l κ q pp L σ (σ 5 0) (σ 5 1) (σ 5 2) hLn hI) _) (cwV 0 hts gX2_isSame_X2_isClear rfl rfl rfl (by decide +kernel) ⟨(Nat.le_of_ble_eq_true rfl), (Nat.le_of_ble_eq_true rfl)⟩) (pre_VP hK hW [8, 9] rfl (by decide) 2 8 rfl rfl) rfl rfl hl.1 rfl (lv_room (Nat.le_of_ble_eq_true rfl)) dX2_isSame_318 ⟨(by first | exact Nat.le_of_ble_eq_true rfl | omega | (dsimp only [rm_X2_isSame, rm_X2_isClear]; omega)), (by first | exact Nat.le_of_ble_eq_true rfl | omega | (dsimp only [rm_X2_isSame, rm_X2_isClear]; omega))⟩) (fun u H1 locs1 g1 g2 g3 g4 => St.joinP hW hA [8, 9] [0, 1, 2, 3, 4, 5, 6, 7, 10] [0, 1, 2, 3, 4, 5, 6, 7, 9, 10, 8] rfl rfl rfl (by decide) rfl rfl g1 g2 g3 g4) (by first | exact Nat.le_of_ble_eq_true rfl | omega | (dsimp only [rm_X2_isSame, rm_X2_isClear]; omega)) (by first | exact Nat.le_of_ble_eq_true rfl | omega | (dsimp only [rm_X2_isSame, rm_X2_isClear]; omega)) (fun r_34 u H locs hp_33 hW => ?_)
          subst hp_33
          refine jv_icmp_ne hx hb 367 dX2_isSame_321 (by decide) ⟨by omega, by omega⟩ ⟨by omega, by omega⟩ (fun h_35 => by exfalso; omega) (fun h_35 => ?_)
          refine lv_aload_n hx hb dX2_isSame_324 rfl (lv_at hl 7 rfl) ?_
          refine fina_i (k := 1) (n := 4) (W2 := (fun _ => ((WX κ x a a2 ++ (WC κ a σ br ++ (WS κ q pp L (σ 5 0) (σ 5 1) (σ 5 2) ++ (WA κ q_1 4 g)))) ++ RP κ L σ))) hW (va_free hW.2.1 hW.2.2 hA [0, 1, 2, 3, 4, 5, 6, 7] rfl) (va_runV (As := []) (rest := []) F ((m_X1_cadences l κ x a a2 σ br hI) _) (cwV 0 hts gX2_isSame_X1_cadences rfl rfl rfl (by decide +kernel) ⟨(Nat.le_of_ble_eq_true rfl), (Nat.le_of_ble_eq_true rfl)⟩) (pre_V hK hW [0, 1, 2, 3, 4, 5, 6, 7] rfl (by decide) 1 0 rfl rfl) rfl rfl hl.1 rfl (lv_room (Nat.le_of_ble_eq_true rfl)) dX2_isSame_325 ⟨(by first | exact Nat.le_of_ble_eq_true rfl | omega | (dsimp only [rm_X2_isSame, rm_X1_cadences]; omega)), (by first | exact Nat.le_of_ble_eq_true rfl | omega | (dsimp only [rm_X2_isSame, rm_X1_cadences]; omega))⟩) (fun u H1 locs1 g1 g2 g3 g4 => St.joinQ hW hA [0, 1, 2, 3, 4, 5, 6, 7] [8, 9, 10] [3, 4, 5, 6, 7, 8, 9, 10, 0, 1, 2] rfl rfl rfl (by decide) rfl rfl g1 g2 g3 g4) (by first | exact Nat.le_of_ble_eq_true rfl | omega | (dsimp only [rm_X2_isSame, rm_X1_cadences]; omega)) (by first | exact Nat.le_of_ble_eq_true rfl | omega | (dsimp only [rm_X2_isSame, rm_X1_cadences]; omega)) (fun r_37 u H locs hp_36 hW => ?_)
          subst hp_36
          refine lv_aload_n hx hb dX2_isSame_328 rfl (lv_at hl 6 rfl) ?_
          refine jv_get (T := TX2) (N := 4) (v := .int (J (σ 5 1))) hx hb hts hn2 hown hK hW 8 rfl rfl 1 (by decide) (List.mem_of_getElem? (i := 4) rfl) rfl dX2_isSame_329 ?_
          refine jv_icmp_ne hx hb 367 dX2_isSame_332 (by decide) ⟨by omega, by omega⟩ ⟨by omega, by omega⟩ (fun h_38 => by exfalso; omega) (fun h_38 => ?_)
          refine lv_aload_n hx hb dX2_isSame_335 rfl (lv_at hl 7 rfl) ?_
          refine fina_d (k := 1) (n := 4) (W2 := (fun _ => ((WX κ x a a2 ++ (WC κ a σ br ++ (WS κ q pp L (σ 5 0) (σ 5 1) (σ 5 2) ++ (WA κ q_1 4 g)))) ++ RP κ L σ))) hW (va_free hW.2.1 hW.2.2 hA [0, 1, 2, 3, 4, 5, 6, 7] rfl) (va_runV (As := []) (rest := []) F ((m_X1_meanPitch l κ x a a2 σ br hI) _) (cwV 0 hts gX2_isSame_X1_meanPitch rfl rfl rfl (by decide +kernel) ⟨(Nat.le_of_ble_eq_true rfl), (Nat.le_of_ble_eq_true rfl)⟩) (pre_V hK hW [0, 1, 2, 3, 4, 5, 6, 7] rfl (by decide) 1 0 rfl rfl) rfl rfl hl.1 rfl (lv_room (Nat.le_of_ble_eq_true rfl)) dX2_isSame_336 ⟨(by first | exact Nat.le_of_ble_eq_true rfl | omega | (dsimp only [rm_X2_isSame, rm_X1_meanPitch]; omega)), (by first | exact Nat.le_of_ble_eq_true rfl | omega | (dsimp only [rm_X2_isSame, rm_X1_meanPitch]; omega))⟩) (fun u H1 locs1 g1 g2 g3 g4 => St.joinQ hW hA [0, 1, 2, 3, 4, 5, 6, 7] [8, 9, 10] [3, 4, 5, 6, 7, 8, 9, 10, 0, 1, 2] rfl rfl rfl (by decide) rfl rfl g1 g2 g3 g4) (by first | exact Nat.le_of_ble_eq_true rfl | omega | (dsimp only [rm_X2_isSame, rm_X1_meanPitch]; omega)) (by first | exact Nat.le_of_ble_eq_true rfl | omega | (dsimp only [rm_X2_isSame, rm_X1_meanPitch]; omega)) (fun r_40 u H locs hp_39 hW => ?_)
          subst hp_39
          refine lv_aload_n hx hb dX2_isSame_339 rfl (lv_at hl 6 rfl) ?_
          refine fina_i (k := 1) (n := 4) (W2 := (fun _ => ((WX κ x a a2 ++ (WC κ a σ br ++ (WS κ q pp L (σ 5 0) (σ 5 1) (σ 5 2) ++ (WA κ q_1 4 g)))) ++ RP κ L σ))) hW (va_freeP hW.2.1 hW.2.2 hA [8, 9] rfl) (va_runV (As := []) (rest := [.double (mp σ)]) F ((m_X2_sounding l κ q pp L σ (σ 5 0) (σ 5 1) (σ 5 2) hLn hI) _) (cwV 0 hts gX2_isSame_X2_sounding rfl rfl rfl (by decide +kernel) ⟨(Nat.le_of_ble_eq_true rfl), (Nat.le_of_ble_eq_true rfl)⟩) (pre_VP hK hW [8, 9] rfl (by decide) 2 8 rfl rfl) rfl rfl hl.1 rfl (lv_room (Nat.le_of_ble_eq_true rfl)) dX2_isSame_340 ⟨(by first | exact Nat.le_of_ble_eq_true rfl | omega | (dsimp only [rm_X2_isSame, rm_X2_sounding]; omega)), (by first | exact Nat.le_of_ble_eq_true rfl | omega | (dsimp only [rm_X2_isSame, rm_X2_sounding]; omega))⟩) (fun u H1 locs1 g1 g2 g3 g4 => St.joinP hW hA [8, 9] [0, 1, 2, 3, 4, 5, 6, 7, 10] [0, 1, 2, 3, 4, 5, 6, 7, 9, 10, 8] rfl rfl rfl (by decide) rfl rfl g1 g2 g3 g4) (by first | exact Nat.le_of_ble_eq_true rfl | omega | (dsimp only [rm_X2_isSame, rm_X2_sounding]; omega)) (by first | exact Nat.le_of_ble_eq_true rfl | omega | (dsimp only [rm_X2_isSame, rm_X2_sounding]; omega)) (fun r_42 u H locs hp_41 hW => ?_)
          subst hp_41
          refine jv_if_ne hx hb 350 dX2_isSame_343 (by decide) ⟨by omega, by omega⟩ (fun h_43 => ?_) (fun h_43 => ?_)
          · skip
            refine lv_iload hx hb dX2_isSame_350 (lv_at hl 1 rfl) ?_
            refine lv_i2d hx hb dX2_isSame_352 ?_
            refine lv_aload_n hx hb dX2_isSame_353 rfl (lv_at hl 6 rfl) ?_
            refine fina_i (k := 1) (n := 4) (W2 := (fun _ => ((WX κ x a a2 ++ (WC κ a σ br ++ (WS κ q pp L (σ 5 0) (σ 5 1) (σ 5 2) ++ (WA κ q_1 4 g)))) ++ RP κ L σ))) hW (va_freeP hW.2.1 hW.2.2 hA [8, 9] rfl) (va_runV (As := []) (rest := [.double (FP.i2d (J t)), .double (mp σ)]) F ((m_X2_sounding l κ q pp L σ (σ 5 0) (σ 5 1) (σ 5 2) hLn hI) _) (cwV 0 hts gX2_isSame_X2_sounding rfl rfl rfl (by decide +kernel) ⟨(Nat.le_of_ble_eq_true rfl), (Nat.le_of_ble_eq_true rfl)⟩) (pre_VP hK hW [8, 9] rfl (by decide) 2 8 rfl rfl) rfl rfl hl.1 rfl (lv_room (Nat.le_of_ble_eq_true rfl)) dX2_isSame_354 ⟨(by first | exact Nat.le_of_ble_eq_true rfl | omega | (dsimp only [rm_X2_isSame, rm_X2_sounding]; omega)), (by first | exact Nat.le_of_ble_eq_true rfl | omega | (dsimp only [rm_X2_isSame, rm_X2_sounding]; omega))⟩) (fun u H1 locs1 g1 g2 g3 g4 => St.joinP hW hA [8, 9] [0, 1, 2, 3, 4, 5, 6, 7, 10] [0, 1, 2, 3, 4, 5, 6, 7, 9, 10, 8] rfl rfl rfl (by decide) rfl rfl g1 g2 g3 g4) (by first | exact Nat.le_of_ble_eq_true rfl | omega | (dsimp only [rm_X2_isSame, rm_X2_sounding]; omega)) (by first | exact Nat.le_of_ble_eq_true rfl | omega | (dsimp only [rm_X2_isSame, rm_X2_sounding]; omega)) (fun r_45 u H locs hp_44 hW => ?_)
            subst hp_44
            refine lv_i2d hx hb dX2_isSame_357 ?_
            refine lv_ddiv hx hb dX2_isSame_358 (by have h := dd_ok t.toNat (by omega) (ns σ - 1) (by omega); rw [← J_nat, ← J_nat, show ((t.toNat : Nat) : Int) = t by omega, show ((ns σ - 1 + 1 : Nat) : Int) = (ns σ : Int) by omega] at h; exact h) ?_
            refine lv_dcmp hx hb dX2_isSame_359 ?_
            refine jv_top (y := J 0) (by rw [show FP.ddiv (FP.i2d (J t)) (FP.i2d (J (ns σ : Int))) = mp σ from (by unfold mp; rw [if_neg (by omega), q_t2])]; exact mp_cmp hI) ?_
            refine jv_if_ne hx hb 367 dX2_isSame_360 (by decide) ⟨by omega, by omega⟩ (fun h_46 => by exfalso; omega) (fun h_46 => ?_)
            refine jv_iconst hx hb dX2_isSame_363 ?_
            refine lv_goto (tgt := 368) hx hb dX2_isSame_364 (by decide) ?_
            exact hret () (hW.part [0, 1, 2, 3, 4, 5, 6, 7, 8, 9] (by decide) rfl) dX2_isSame_368 (by first | exact Nat.le_of_ble_eq_true rfl | omega | (dsimp only [rm_X2_isSame]; omega)) (by first | exact Nat.le_of_ble_eq_true rfl | omega | (dsimp only [rm_X2_isSame]; omega)) (by first | exact zr_01 (Or.inl rfl) | exact zr_01 (Or.inr rfl) | exact zr_b _ | exact zr_01 (by omega)) rfl
          · skip
            refine lv_dconst0 hx hb dX2_isSame_346 ?_
            refine lv_goto (tgt := 359) hx hb dX2_isSame_347 (by decide) ?_
            refine lv_dcmp hx hb dX2_isSame_359 ?_
            refine jv_top (y := J 0) (by rw [show FP.dconst0 = mp σ from (by unfold mp; rw [if_pos (by omega)])]; exact mp_cmp hI) ?_
            refine jv_if_ne hx hb 367 dX2_isSame_360 (by decide) ⟨by omega, by omega⟩ (fun h_47 => by exfalso; omega) (fun h_47 => ?_)
            refine jv_iconst hx hb dX2_isSame_363 ?_
            refine lv_goto (tgt := 368) hx hb dX2_isSame_364 (by decide) ?_
            exact hret () (hW.part [0, 1, 2, 3, 4, 5, 6, 7, 8, 9] (by decide) rfl) dX2_isSame_368 (by first | exact Nat.le_of_ble_eq_true rfl | omega | (dsimp only [rm_X2_isSame]; omega)) (by first | exact Nat.le_of_ble_eq_true rfl | omega | (dsimp only [rm_X2_isSame]; omega)) (by first | exact zr_01 (Or.inl rfl) | exact zr_01 (Or.inr rfl) | exact zr_b _ | exact zr_01 (by omega)) rfl
        · skip
          have hgz := ptI_end q_g (z := z) (by omega)
          have hcz := fb_ct_le (snp σ (z : Int)) (nn σ)
          refine lv_aload_n hx hb dX2_isSame_222 rfl (lv_at hl 7 rfl) ?_
          refine lv_iload hx hb dX2_isSame_223 (lv_at hl 0 rfl) ?_
          refine fina_i (k := 1) (n := 4) (W2 := (fun _ => ((WX κ x a a2 ++ (WC κ a σ br ++ (WS κ q pp L (σ 5 0) (σ 5 1) (σ 5 2) ++ (WA κ q_1 4 g)))) ++ RP κ L σ))) hW (va_free hW.2.1 hW.2.2 hA [0, 1, 2, 3, 4, 5, 6, 7] rfl) (va_runV (As := [.int (J (z : Int))]) (rest := []) F ((m_X1_soundingOf l κ x a a2 σ br z (by omega) hI) _) (cwV 1 hts gX2_isSame_X1_soundingOf rfl rfl rfl (by decide +kernel) ⟨(Nat.le_of_ble_eq_true rfl), (Nat.le_of_ble_eq_true rfl)⟩) (pre_V hK hW [0, 1, 2, 3, 4, 5, 6, 7] rfl (by decide) 1 0 rfl rfl) rfl rfl hl.1 rfl (lv_room (Nat.le_of_ble_eq_true rfl)) dX2_isSame_225 ⟨(by first | exact Nat.le_of_ble_eq_true rfl | omega | (dsimp only [rm_X2_isSame, rm_X1_soundingOf]; omega)), (by first | exact Nat.le_of_ble_eq_true rfl | omega | (dsimp only [rm_X2_isSame, rm_X1_soundingOf]; omega))⟩) (fun u H1 locs1 g1 g2 g3 g4 => St.joinQ hW hA [0, 1, 2, 3, 4, 5, 6, 7] [8, 9, 10] [3, 4, 5, 6, 7, 8, 9, 10, 0, 1, 2] rfl rfl rfl (by decide) rfl rfl g1 g2 g3 g4) (by first | exact Nat.le_of_ble_eq_true rfl | omega | (dsimp only [rm_X2_isSame, rm_X1_soundingOf]; omega)) (by first | exact Nat.le_of_ble_eq_true rfl | omega | (dsimp only [rm_X2_isSame, rm_X1_soundingOf]; omega)) (fun r_49 u H locs hp_48 hW => ?_)
          subst hp_48
          refine lv_aload_n hx hb dX2_isSame_228 rfl (lv_at hl 4 rfl) ?_
          refine lv_iload hx hb dX2_isSame_229 (lv_at hl 0 rfl) ?_
          refine jv_iald (g := g) hx hb hK hW 10 rfl z rfl (by omega) (by decide) dX2_isSame_231 ?_
          refine jv_icmp_eq hx hb 237 dX2_isSame_232 (by decide) ⟨by omega, by omega⟩ ⟨by omega, by omega⟩ (fun h_50 => ?_) (fun h_50 => by exfalso; omega)
          refine jv_iinc (k := 0) (z := (z : Int)) (lv' := [(7, .int (J ((z : Int) + 1))), (6, .int (J t)), (5, .int (J u2)), (4, .int (J u1)), (3, .ref q_1), (2, .int (J (nn σ : Int))), (0, .ref q), (1, .ref x)]) hx hb dX2_isSame_237 hl rfl (by decide) rfl (fun ls hl => ?_)
          refine lv_goto (tgt := 216) hx hb dX2_isSame_240 (by decide) ?_
          exact ih_hlz (z + 1) (by omega) (by omega)  _ _ _  hW hl
    · skip
      obtain ⟨p, hp⟩ : ∃ p : Nat, nn σ - i = p + 1 := ⟨nn σ - i - 1, by omega⟩
      obtain rfl : j = (p : Int) := by omega
      rw [hp] at q_h q_l q_g q_t
      have hp2 : nn σ - (i + 1) = p := by omega
      have hpn : p < nn σ := by omega
      have hbp := hI.at p (by omega)
      have hcp := cof_rng hN10 p
      have hbs := bi_rng (sn σ p)
      refine lv_aload_n hx hb dX2_isSame_29 rfl (lv_at hl 6 rfl) ?_
      refine jv_get (T := TX2) (N := 4) (v := .ref pp) hx hb hts hn2 hown hK hW 8 rfl rfl 3 (by decide) (List.mem_of_getElem? (i := 1) rfl) rfl dX2_isSame_30 ?_
      refine lv_iload hx hb dX2_isSame_33 (lv_at hl 0 rfl) ?_
      refine jv_qld hx hb (hK.2.2.2.1) hW 9 rfl p (la L p) rfl (by omega) (by omega) (la_get (by omega)) dX2_isSame_35 ?_
      refine lv_astore (lv' := [(8, .ref (la L p)), (7, .int (J (p : Int))), (6, .int (J t)), (5, .int (J u2)), (4, .int (J u1)), (3, .ref q_1), (2, .int (J (nn σ : Int))), (0, .ref q), (1, .ref x)]) hx hb dX2_isSame_36 hl (by decide) rfl (fun ls hl => ?_)
      refine lv_aload_n hx hb dX2_isSame_38 rfl (lv_at hl 7 rfl) ?_
      refine lv_iload hx hb dX2_isSame_39 (lv_at hl 1 rfl) ?_
      refine fina_i (k := 1) (n := 4) (W2 := (fun _ => ((WX κ x a a2 ++ (WC κ a σ br ++ (WS κ q pp L (σ 5 0) (σ 5 1) (σ 5 2) ++ (WA κ q_1 4 g)))) ++ RP κ L σ))) hW (va_freeP hW.2.1 hW.2.2 hA [8, 9] rfl) (va_runV (As := [.int (J (p : Int))]) (rest := []) F ((m_X2_clashesOf l κ q pp L σ (σ 5 0) (σ 5 1) (σ 5 2) hLn hI p (by omega)) _) (cwV 1 hts gX2_isSame_X2_clashesOf rfl rfl rfl (by decide +kernel) ⟨(Nat.le_of_ble_eq_true rfl), (Nat.le_of_ble_eq_true rfl)⟩) (pre_VP hK hW [8, 9] rfl (by decide) 2 8 rfl rfl) rfl rfl hl.1 rfl (lv_room (Nat.le_of_ble_eq_true rfl)) dX2_isSame_41 ⟨(by first | exact Nat.le_of_ble_eq_true rfl | omega | (dsimp only [rm_X2_isSame, rm_X2_clashesOf]; omega)), (by first | exact Nat.le_of_ble_eq_true rfl | omega | (dsimp only [rm_X2_isSame, rm_X2_clashesOf]; omega))⟩) (fun u H1 locs1 g1 g2 g3 g4 => St.joinP hW hA [8, 9] [0, 1, 2, 3, 4, 5, 6, 7, 10] [0, 1, 2, 3, 4, 5, 6, 7, 9, 10, 8] rfl rfl rfl (by decide) rfl rfl g1 g2 g3 g4) (by first | exact Nat.le_of_ble_eq_true rfl | omega | (dsimp only [rm_X2_isSame, rm_X2_clashesOf]; omega)) (by first | exact Nat.le_of_ble_eq_true rfl | omega | (dsimp only [rm_X2_isSame, rm_X2_clashesOf]; omega)) (fun r_52 u H locs hp_51 hW => ?_)
      subst hp_51
      refine lv_istore (lv' := [(9, .int (J (cof σ p))), (8, .ref (la L p)), (7, .int (J (p : Int))), (6, .int (J t)), (5, .int (J u2)), (4, .int (J u1)), (3, .ref q_1), (2, .int (J (nn σ : Int))), (0, .ref q), (1, .ref x)]) hx hb dX2_isSame_44 hl (by decide) rfl (fun ls hl => ?_)
      refine lv_aload_n hx hb dX2_isSame_46 rfl (lv_at hl 9 rfl) ?_
      refine lv_iload hx hb dX2_isSame_47 (lv_at hl 2 rfl) ?_
      refine fina_i (k := 1) (n := 4) (W2 := (fun _ => ((WX κ x a a2 ++ (WC κ a σ br ++ (WS κ q pp L (σ 5 0) (σ 5 1) (σ 5 2) ++ (WA κ q_1 4 g)))) ++ RP κ L σ))) hW (va_free hW.2.1 hW.2.2 hA [0, 1, 2, 3, 4, 5, 6, 7] rfl) (va_runV (As := [.int (J (p : Int))]) (rest := []) F ((m_X1_partOf l κ x a a2 σ br p (by omega) hI) _) (cwV 1 hts gX2_isSame_X1_partOf rfl rfl rfl (by decide +kernel) ⟨(Nat.le_of_ble_eq_true rfl), (Nat.le_of_ble_eq_true rfl)⟩) (pre_V hK hW [0, 1, 2, 3, 4, 5, 6, 7] rfl (by decide) 1 0 rfl rfl) rfl rfl hl.1 rfl (lv_room (Nat.le_of_ble_eq_true rfl)) dX2_isSame_49 ⟨(by first | exact Nat.le_of_ble_eq_true rfl | omega | (dsimp only [rm_X2_isSame, rm_X1_partOf]; omega)), (by first | exact Nat.le_of_ble_eq_true rfl | omega | (dsimp only [rm_X2_isSame, rm_X1_partOf]; omega))⟩) (fun u H1 locs1 g1 g2 g3 g4 => St.joinQ hW hA [0, 1, 2, 3, 4, 5, 6, 7] [8, 9, 10] [3, 4, 5, 6, 7, 8, 9, 10, 0, 1, 2] rfl rfl rfl (by decide) rfl rfl g1 g2 g3 g4) (by first | exact Nat.le_of_ble_eq_true rfl | omega | (dsimp only [rm_X2_isSame, rm_X1_partOf]; omega)) (by first | exact Nat.le_of_ble_eq_true rfl | omega | (dsimp only [rm_X2_isSame, rm_X1_partOf]; omega)) (fun r_54 u H locs hp_53 hW => ?_)
      subst hp_53
      refine lv_aload hx hb dX2_isSame_52 (lv_at hl 1 rfl) ?_
      refine jv_iconst hx hb dX2_isSame_54 ?_
      refine jv_rld hx hb hK hW (i := p) (by omega) 0 rfl (by decide) dX2_isSame_55 ?_
      refine jv_eq (y := (σ 4 p)) rfl ?_
      refine jv_icmp_ne hx hb 124 dX2_isSame_56 (by decide) ⟨by omega, by omega⟩ ⟨by omega, by omega⟩ (fun h_55 => by exfalso; omega) (fun h_55 => ?_)
      refine lv_aload_n hx hb dX2_isSame_59 rfl (lv_at hl 9 rfl) ?_
      refine lv_iload hx hb dX2_isSame_60 (lv_at hl 2 rfl) ?_
      refine fina_i (k := 1) (n := 4) (W2 := (fun _ => ((WX κ x a a2 ++ (WC κ a σ br ++ (WS κ q pp L (σ 5 0) (σ 5 1) (σ 5 2) ++ (WA κ q_1 4 g)))) ++ RP κ L σ))) hW (va_free hW.2.1 hW.2.2 hA [0, 1, 2, 3, 4, 5, 6, 7] rfl) (va_runV (As := [.int (J (p : Int))]) (rest := []) F ((m_X1_pitchOf l κ x a a2 σ br p (by omega) hI) _) (cwV 1 hts gX2_isSame_X1_pitchOf rfl rfl rfl (by decide +kernel) ⟨(Nat.le_of_ble_eq_true rfl), (Nat.le_of_ble_eq_true rfl)⟩) (pre_V hK hW [0, 1, 2, 3, 4, 5, 6, 7] rfl (by decide) 1 0 rfl rfl) rfl rfl hl.1 rfl (lv_room (Nat.le_of_ble_eq_true rfl)) dX2_isSame_62 ⟨(by first | exact Nat.le_of_ble_eq_true rfl | omega | (dsimp only [rm_X2_isSame, rm_X1_pitchOf]; omega)), (by first | exact Nat.le_of_ble_eq_true rfl | omega | (dsimp only [rm_X2_isSame, rm_X1_pitchOf]; omega))⟩) (fun u H1 locs1 g1 g2 g3 g4 => St.joinQ hW hA [0, 1, 2, 3, 4, 5, 6, 7] [8, 9, 10] [3, 4, 5, 6, 7, 8, 9, 10, 0, 1, 2] rfl rfl rfl (by decide) rfl rfl g1 g2 g3 g4) (by first | exact Nat.le_of_ble_eq_true rfl | omega | (dsimp only [rm_X2_isSame, rm_X1_pitchOf]; omega)) (by first | exact Nat.le_of_ble_eq_true rfl | omega | (dsimp only [rm_X2_isSame, rm_X1_pitchOf]; omega)) (fun r_57 u H locs hp_56 hW => ?_)
      subst hp_56
      refine lv_aload hx hb dX2_isSame_65 (lv_at hl 1 rfl) ?_
      refine jv_iconst hx hb dX2_isSame_67 ?_
      refine jv_rld hx hb hK hW (i := p) (by omega) 1 rfl (by decide) dX2_isSame_68 ?_
      refine jv_eq (y := (σ 0 p)) rfl ?_
      refine jv_icmp_ne hx hb 124 dX2_isSame_69 (by decide) ⟨by omega, by omega⟩ ⟨by omega, by omega⟩ (fun h_58 => by exfalso; omega) (fun h_58 => ?_)
      refine lv_aload_n hx hb dX2_isSame_72 rfl (lv_at hl 9 rfl) ?_
      refine lv_iload hx hb dX2_isSame_73 (lv_at hl 2 rfl) ?_
      refine fina_i (k := 1) (n := 4) (W2 := (fun _ => ((WX κ x a a2 ++ (WC κ a σ br ++ (WS κ q pp L (σ 5 0) (σ 5 1) (σ 5 2) ++ (WA κ q_1 4 g)))) ++ RP κ L σ))) hW (va_free hW.2.1 hW.2.2 hA [0, 1, 2, 3, 4, 5, 6, 7] rfl) (va_runV (As := [.int (J (p : Int))]) (rest := []) F ((m_X1_teaOf l κ x a a2 σ br p (by omega) hI) _) (cwV 1 hts gX2_isSame_X1_teaOf rfl rfl rfl (by decide +kernel) ⟨(Nat.le_of_ble_eq_true rfl), (Nat.le_of_ble_eq_true rfl)⟩) (pre_V hK hW [0, 1, 2, 3, 4, 5, 6, 7] rfl (by decide) 1 0 rfl rfl) rfl rfl hl.1 rfl (lv_room (Nat.le_of_ble_eq_true rfl)) dX2_isSame_75 ⟨(by first | exact Nat.le_of_ble_eq_true rfl | omega | (dsimp only [rm_X2_isSame, rm_X1_teaOf]; omega)), (by first | exact Nat.le_of_ble_eq_true rfl | omega | (dsimp only [rm_X2_isSame, rm_X1_teaOf]; omega))⟩) (fun u H1 locs1 g1 g2 g3 g4 => St.joinQ hW hA [0, 1, 2, 3, 4, 5, 6, 7] [8, 9, 10] [3, 4, 5, 6, 7, 8, 9, 10, 0, 1, 2] rfl rfl rfl (by decide) rfl rfl g1 g2 g3 g4) (by first | exact Nat.le_of_ble_eq_true rfl | omega | (dsimp only [rm_X2_isSame, rm_X1_teaOf]; omega)) (by first | exact Nat.le_of_ble_eq_true rfl | omega | (dsimp only [rm_X2_isSame, rm_X1_teaOf]; omega)) (fun r_60 u H locs hp_59 hW => ?_)
      subst hp_59
      refine lv_aload hx hb dX2_isSame_78 (lv_at hl 1 rfl) ?_
      refine jv_iconst hx hb dX2_isSame_80 ?_
      refine jv_rld hx hb hK hW (i := p) (by omega) 2 rfl (by decide) dX2_isSame_81 ?_
      refine jv_eq (y := (σ 1 p)) rfl ?_
      refine jv_icmp_ne hx hb 124 dX2_isSame_82 (by decide) ⟨by omega, by omega⟩ ⟨by omega, by omega⟩ (fun h_61 => by exfalso; omega) (fun h_61 => ?_)
      refine lv_aload_n hx hb dX2_isSame_85 rfl (lv_at hl 9 rfl) ?_
      refine lv_iload hx hb dX2_isSame_86 (lv_at hl 2 rfl) ?_
      refine fina_i (k := 1) (n := 4) (W2 := (fun _ => ((WX κ x a a2 ++ (WC κ a σ br ++ (WS κ q pp L (σ 5 0) (σ 5 1) (σ 5 2) ++ (WA κ q_1 4 g)))) ++ RP κ L σ))) hW (va_free hW.2.1 hW.2.2 hA [0, 1, 2, 3, 4, 5, 6, 7] rfl) (va_runV (As := [.int (J (p : Int))]) (rest := []) F ((m_X1_crackOf l κ x a a2 σ br p (by omega) hI) _) (cwV 1 hts gX2_isSame_X1_crackOf rfl rfl rfl (by decide +kernel) ⟨(Nat.le_of_ble_eq_true rfl), (Nat.le_of_ble_eq_true rfl)⟩) (pre_V hK hW [0, 1, 2, 3, 4, 5, 6, 7] rfl (by decide) 1 0 rfl rfl) rfl rfl hl.1 rfl (lv_room (Nat.le_of_ble_eq_true rfl)) dX2_isSame_88 ⟨(by first | exact Nat.le_of_ble_eq_true rfl | omega | (dsimp only [rm_X2_isSame, rm_X1_crackOf]; omega)), (by first | exact Nat.le_of_ble_eq_true rfl | omega | (dsimp only [rm_X2_isSame, rm_X1_crackOf]; omega))⟩) (fun u H1 locs1 g1 g2 g3 g4 => St.joinQ hW hA [0, 1, 2, 3, 4, 5, 6, 7] [8, 9, 10] [3, 4, 5, 6, 7, 8, 9, 10, 0, 1, 2] rfl rfl rfl (by decide) rfl rfl g1 g2 g3 g4) (by first | exact Nat.le_of_ble_eq_true rfl | omega | (dsimp only [rm_X2_isSame, rm_X1_crackOf]; omega)) (by first | exact Nat.le_of_ble_eq_true rfl | omega | (dsimp only [rm_X2_isSame, rm_X1_crackOf]; omega)) (fun r_63 u H locs hp_62 hW => ?_)
      subst hp_62
      refine lv_aload hx hb dX2_isSame_91 (lv_at hl 1 rfl) ?_
      refine jv_iconst hx hb dX2_isSame_93 ?_
      refine jv_rld hx hb hK hW (i := p) (by omega) 3 rfl (by decide) dX2_isSame_94 ?_
      refine jv_eq (y := (σ 2 p)) rfl ?_
      refine jv_icmp_ne hx hb 124 dX2_isSame_95 (by decide) ⟨by omega, by omega⟩ ⟨by omega, by omega⟩ (fun h_64 => by exfalso; omega) (fun h_64 => ?_)
      refine lv_aload_n hx hb dX2_isSame_98 rfl (lv_at hl 9 rfl) ?_
      refine lv_iload hx hb dX2_isSame_99 (lv_at hl 2 rfl) ?_
      refine fina_i (k := 1) (n := 4) (W2 := (fun _ => ((WX κ x a a2 ++ (WC κ a σ br ++ (WS κ q pp L (σ 5 0) (σ 5 1) (σ 5 2) ++ (WA κ q_1 4 g)))) ++ RP κ L σ))) hW (va_free hW.2.1 hW.2.2 hA [0, 1, 2, 3, 4, 5, 6, 7] rfl) (va_runV (As := [.int (J (p : Int))]) (rest := []) F ((m_X1_sounds l κ x a a2 σ br p (by omega) hI) _) (cwV 1 hts gX2_isSame_X1_sounds rfl rfl rfl (by decide +kernel) ⟨(Nat.le_of_ble_eq_true rfl), (Nat.le_of_ble_eq_true rfl)⟩) (pre_V hK hW [0, 1, 2, 3, 4, 5, 6, 7] rfl (by decide) 1 0 rfl rfl) rfl rfl hl.1 rfl (lv_room (Nat.le_of_ble_eq_true rfl)) dX2_isSame_101 ⟨(by first | exact Nat.le_of_ble_eq_true rfl | omega | (dsimp only [rm_X2_isSame, rm_X1_sounds]; omega)), (by first | exact Nat.le_of_ble_eq_true rfl | omega | (dsimp only [rm_X2_isSame, rm_X1_sounds]; omega))⟩) (fun u H1 locs1 g1 g2 g3 g4 => St.joinQ hW hA [0, 1, 2, 3, 4, 5, 6, 7] [8, 9, 10] [3, 4, 5, 6, 7, 8, 9, 10, 0, 1, 2] rfl rfl rfl (by decide) rfl rfl g1 g2 g3 g4) (by first | exact Nat.le_of_ble_eq_true rfl | omega | (dsimp only [rm_X2_isSame, rm_X1_sounds]; omega)) (by first | exact Nat.le_of_ble_eq_true rfl | omega | (dsimp only [rm_X2_isSame, rm_X1_sounds]; omega)) (fun r_66 u H locs hp_65 hW => ?_)
      subst hp_65
      refine lv_aload_n hx hb dX2_isSame_104 rfl (lv_at hl 8 rfl) ?_
      refine lv_iload hx hb dX2_isSame_105 (lv_at hl 2 rfl) ?_
      refine fina_i (k := 1) (n := 4) (W2 := (fun _ => ((WX κ x a a2 ++ (WC κ a σ br ++ (WS κ q pp L (σ 5 0) (σ 5 1) (σ 5 2) ++ (WA κ q_1 4 g)))) ++ RP κ L σ))) hW (va_freeP hW.2.1 hW.2.2 hA [8, 9] rfl) (va_runV (As := [.int (J (p : Int))]) (rest := [.int (J (bi (sn σ p)))]) F ((m_X2_sounds l κ q pp L σ (σ 5 0) (σ 5 1) (σ 5 2) hLn hI p (by omega)) _) (cwV 1 hts gX2_isSame_X2_sounds rfl rfl rfl (by decide +kernel) ⟨(Nat.le_of_ble_eq_true rfl), (Nat.le_of_ble_eq_true rfl)⟩) (pre_VP hK hW [8, 9] rfl (by decide) 2 8 rfl rfl) rfl rfl hl.1 rfl (lv_room (Nat.le_of_ble_eq_true rfl)) dX2_isSame_107 ⟨(by first | exact Nat.le_of_ble_eq_true rfl | omega | (dsimp only [rm_X2_isSame, rm_X2_sounds]; omega)), (by first | exact Nat.le_of_ble_eq_true rfl | omega | (dsimp only [rm_X2_isSame, rm_X2_sounds]; omega))⟩) (fun u H1 locs1 g1 g2 g3 g4 => St.joinP hW hA [8, 9] [0, 1, 2, 3, 4, 5, 6, 7, 10] [0, 1, 2, 3, 4, 5, 6, 7, 9, 10, 8] rfl rfl rfl (by decide) rfl rfl g1 g2 g3 g4) (by first | exact Nat.le_of_ble_eq_true rfl | omega | (dsimp only [rm_X2_isSame, rm_X2_sounds]; omega)) (by first | exact Nat.le_of_ble_eq_true rfl | omega | (dsimp only [rm_X2_isSame, rm_X2_sounds]; omega)) (fun r_68 u H locs hp_67 hW => ?_)
      subst hp_67
      refine jv_icmp_ne hx hb 124 dX2_isSame_110 (by decide) ⟨by omega, by omega⟩ ⟨by omega, by omega⟩ (fun h_69 => by exfalso; omega) (fun h_69 => ?_)
      refine lv_aload_n hx hb dX2_isSame_113 rfl (lv_at hl 9 rfl) ?_
      refine lv_iload hx hb dX2_isSame_114 (lv_at hl 2 rfl) ?_
      refine fina_i (k := 1) (n := 4) (W2 := (fun _ => ((WX κ x a a2 ++ (WC κ a σ br ++ (WS κ q pp L (σ 5 0) (σ 5 1) (σ 5 2) ++ (WA κ q_1 4 g)))) ++ RP κ L σ))) hW (va_free hW.2.1 hW.2.2 hA [0, 1, 2, 3, 4, 5, 6, 7] rfl) (va_runV (As := [.int (J (p : Int))]) (rest := []) F ((m_X1_clashesOf l κ x a a2 σ br p (by omega) hI) _) (cwV 1 hts gX2_isSame_X1_clashesOf rfl rfl rfl (by decide +kernel) ⟨(Nat.le_of_ble_eq_true rfl), (Nat.le_of_ble_eq_true rfl)⟩) (pre_V hK hW [0, 1, 2, 3, 4, 5, 6, 7] rfl (by decide) 1 0 rfl rfl) rfl rfl hl.1 rfl (lv_room (Nat.le_of_ble_eq_true rfl)) dX2_isSame_116 ⟨(by first | exact Nat.le_of_ble_eq_true rfl | omega | (dsimp only [rm_X2_isSame, rm_X1_clashesOf]; omega)), (by first | exact Nat.le_of_ble_eq_true rfl | omega | (dsimp only [rm_X2_isSame, rm_X1_clashesOf]; omega))⟩) (fun u H1 locs1 g1 g2 g3 g4 => St.joinQ hW hA [0, 1, 2, 3, 4, 5, 6, 7] [8, 9, 10] [3, 4, 5, 6, 7, 8, 9, 10, 0, 1, 2] rfl rfl rfl (by decide) rfl rfl g1 g2 g3 g4) (by first | exact Nat.le_of_ble_eq_true rfl | omega | (dsimp only [rm_X2_isSame, rm_X1_clashesOf]; omega)) (by first | exact Nat.le_of_ble_eq_true rfl | omega | (dsimp only [rm_X2_isSame, rm_X1_clashesOf]; omega)) (fun r_71 u H locs hp_70 hW => ?_)
      subst hp_70
      refine lv_iload hx hb dX2_isSame_119 (lv_at hl 0 rfl) ?_
      refine jv_icmp_eq hx hb 126 dX2_isSame_121 (by decide) ⟨by omega, by omega⟩ ⟨by omega, by omega⟩ (fun h_72 => ?_) (fun h_72 => by exfalso; omega)
      have j151 : ∀ (v : Int), hsI σ (nn σ) p v → (-1 ≤ v ∧ v ≤ 10) → ∀ (H : Heap) (locs : List Loc) (ls : Array Slot), St κ A s.heap H locs ((WX κ x a a2 ++ (WC κ a σ br ++ (WS κ q pp L (σ 5 0) (σ 5 1) (σ 5 2) ++ (WA κ q_1 4 g)))) ++ RP κ L σ) → lv_has ls 10 [(9, .int (J (cof σ p))), (8, .ref (la L p)), (7, .int (J (p : Int))), (6, .int (J t)), (5, .int (J u2)), (4, .int (J v)), (3, .ref q_1), (2, .int (J (nn σ : Int))), (0, .ref q), (1, .ref x)] → W P l e rm_X2_isSame s m args below meth c H locs 1 4 Q (F0 m 151 ls []) := by
        intro v q_v q_v2 H locs ls hW hl
        refine lv_aload_n hx hb dX2_isSame_151 rfl (lv_at hl 8 rfl) ?_
        refine lv_iload hx hb dX2_isSame_152 (lv_at hl 2 rfl) ?_
        refine fina_i (k := 1) (n := 4) (W2 := (fun _ => ((WX κ x a a2 ++ (WC κ a σ br ++ (WS κ q pp L (σ 5 0) (σ 5 1) (σ 5 2) ++ (WA κ q_1 4 g)))) ++ RP κ L σ))) hW (va_freeP hW.2.1 hW.2.2 hA [8, 9] rfl) (va_runV (As := [.int (J (p : Int))]) (rest := []) F ((m_X2_sounds l κ q pp L σ (σ 5 0) (σ 5 1) (σ 5 2) hLn hI p (by omega)) _) (cwV 1 hts gX2_isSame_X2_sounds rfl rfl rfl (by decide +kernel) ⟨(Nat.le_of_ble_eq_true rfl), (Nat.le_of_ble_eq_true rfl)⟩) (pre_VP hK hW [8, 9] rfl (by decide) 2 8 rfl rfl) rfl rfl hl.1 rfl (lv_room (Nat.le_of_ble_eq_true rfl)) dX2_isSame_154 ⟨(by first | exact Nat.le_of_ble_eq_true rfl | omega | (dsimp only [rm_X2_isSame, rm_X2_sounds]; omega)), (by first | exact Nat.le_of_ble_eq_true rfl | omega | (dsimp only [rm_X2_isSame, rm_X2_sounds]; omega))⟩) (fun u H1 locs1 g1 g2 g3 g4 => St.joinP hW hA [8, 9] [0, 1, 2, 3, 4, 5, 6, 7, 10] [0, 1, 2, 3, 4, 5, 6, 7, 9, 10, 8] rfl rfl rfl (by decide) rfl rfl g1 g2 g3 g4) (by first | exact Nat.le_of_ble_eq_true rfl | omega | (dsimp only [rm_X2_isSame, rm_X2_sounds]; omega)) (by first | exact Nat.le_of_ble_eq_true rfl | omega | (dsimp only [rm_X2_isSame, rm_X2_sounds]; omega)) (fun r_74 u H locs hp_73 hW => ?_)
        subst hp_73
        refine jv_ifb_ne (b := (sn σ p)) hx hb 163 dX2_isSame_157 (by decide) (fun h_75 => ?_) (fun h_75 => ?_)
        · skip
          refine lv_aload_n hx hb dX2_isSame_163 rfl (lv_at hl 6 rfl) ?_
          refine lv_aload hx hb dX2_isSame_164 (lv_at hl 1 rfl) ?_
          refine jv_iconst hx hb dX2_isSame_166 ?_
          refine jv_rld hx hb hK hW (i := p) (by omega) 0 rfl (by decide) dX2_isSame_167 ?_
          refine jv_eq (y := (σ 4 p)) rfl ?_
          refine lv_dup2_11 hx hb dX2_isSame_168 rfl rfl ?_
          refine jv_iald (g := g) hx hb hK hW 10 rfl ((σ 4 p).toNat) (by omega) (by omega) (by decide) dX2_isSame_169 ?_
          refine jv_iconst hx hb dX2_isSame_170 ?_
          refine jv_iadd hx hb dX2_isSame_171 ?_
          refine jv_iast (g := g) (ws' := ((WX κ x a a2 ++ (WC κ a σ br ++ (WS κ q pp L (σ 5 0) (σ 5 1) (σ 5 2) ++ (WA κ q_1 4 (upi g ((σ 4 p).toNat) ((g ((σ 4 p).toNat)) + 1)))))) ++ RP κ L σ)) hx hb hK hW 10 rfl ((σ 4 p).toNat) (by omega) (by omega) (by decide) rfl dX2_isSame_172 (fun H locs hW => ?_)
          refine lv_iload hx hb dX2_isSame_173 (lv_at hl 3 rfl) ?_
          refine lv_aload hx hb dX2_isSame_175 (lv_at hl 1 rfl) ?_
          refine jv_iconst hx hb dX2_isSame_177 ?_
          refine jv_rld hx hb hK hW (i := p) (by omega) 1 rfl (by decide) dX2_isSame_178 ?_
          refine jv_eq (y := (σ 0 p)) rfl ?_
          refine jv_iadd hx hb dX2_isSame_179 ?_
          refine lv_istore (lv' := [(6, .int (J (t + (σ 0 p)))), (9, .int (J (cof σ p))), (8, .ref (la L p)), (7, .int (J (p : Int))), (5, .int (J u2)), (4, .int (J v)), (3, .ref q_1), (2, .int (J (nn σ : Int))), (0, .ref q), (1, .ref x)]) hx hb dX2_isSame_180 hl (by decide) rfl (fun ls hl => ?_)
          refine lv_iload hx hb dX2_isSame_182 (lv_at hl 4 rfl) ?_
          refine jv_if_lt hx hb 203 dX2_isSame_184 (by decide) ⟨by omega, by omega⟩ (fun h_76 => ?_) (fun h_76 => ?_)
          · skip
            refine lv_iload hx hb dX2_isSame_203 (lv_at hl 3 rfl) ?_
            refine lv_istore (lv' := [(5, .int (J (p : Int))), (6, .int (J (t + (σ 0 p)))), (9, .int (J (cof σ p))), (8, .ref (la L p)), (7, .int (J (p : Int))), (4, .int (J v)), (3, .ref q_1), (2, .int (J (nn σ : Int))), (0, .ref q), (1, .ref x)]) hx hb dX2_isSame_205 hl (by decide) rfl (fun ls hl => ?_)
            refine jv_iinc (k := 4) (z := (p : Int)) (lv' := [(7, .int (J ((p : Int) + (-1)))), (5, .int (J (p : Int))), (6, .int (J (t + (σ 0 p)))), (9, .int (J (cof σ p))), (8, .ref (la L p)), (4, .int (J v)), (3, .ref q_1), (2, .int (J (nn σ : Int))), (0, .ref q), (1, .ref x)]) hx hb dX2_isSame_207 hl rfl (by decide) rfl (fun ls hl => ?_)
            refine lv_goto (tgt := 24) hx hb dX2_isSame_210 (by decide) ?_
            exact ih (i + 1) (by omega) (by omega) ((p : Int) + (-1)) v (p : Int) (t + (σ 0 p)) (upi g ((σ 4 p).toNat) ((g ((σ 4 p).toNat)) + 1)) _ _ _ (by omega) q_v2 (by omega) (by rw [hp2]; have e := psum_y h_75; omega) (by rw [hp2]; exact q_v) (by rw [hp2]; exact lwI_y q_l hpn h_75 (Or.inl (by omega))) (by rw [hp2]; exact ptI_y q_g h_75 (by omega)) hW (lv_sub hl [0, 2, 1, 5, 6, 7, 8, 9] rfl)
          · skip
            obtain ⟨d, hd1, rfl⟩ := (lwI_b q_l).resolve_left (fun h => by omega)
            have hbd := hI.at d (by omega)
            refine lv_aload hx hb dX2_isSame_187 (lv_at hl 2 rfl) ?_
            refine jv_iconst hx hb dX2_isSame_189 ?_
            refine jv_rld hx hb hK hW (i := p) (by omega) 1 rfl (by decide) dX2_isSame_190 ?_
            refine jv_eq (y := (σ 0 p)) rfl ?_
            refine lv_aload_n hx hb dX2_isSame_191 rfl (lv_at hl 8 rfl) ?_
            refine jv_get (T := TX2) (N := 4) (v := .ref pp) hx hb hts hn2 hown hK hW 8 rfl rfl 3 (by decide) (List.mem_of_getElem? (i := 1) rfl) rfl dX2_isSame_192 ?_
            refine lv_iload hx hb dX2_isSame_195 (lv_at hl 4 rfl) ?_
            refine jv_qld hx hb (hK.2.2.2.1) hW 9 rfl d (la L d) rfl (by omega) (by omega) (la_get (by omega)) dX2_isSame_197 ?_
            refine jv_iconst hx hb dX2_isSame_198 ?_
            refine jv_rld hx hb hK hW (i := d) (by omega) 1 rfl (by decide) dX2_isSame_199 ?_
            refine jv_eq (y := (σ 0 d)) rfl ?_
            refine jv_icmp_gt hx hb 207 dX2_isSame_200 (by decide) ⟨by omega, by omega⟩ ⟨by omega, by omega⟩ (fun h_77 => ?_) (fun h_77 => ?_)
            · skip
              refine jv_iinc (k := 3) (z := (p : Int)) (lv' := [(7, .int (J ((p : Int) + (-1)))), (6, .int (J (t + (σ 0 p)))), (9, .int (J (cof σ p))), (8, .ref (la L p)), (5, .int (J (d : Int))), (4, .int (J v)), (3, .ref q_1), (2, .int (J (nn σ : Int))), (0, .ref q), (1, .ref x)]) hx hb dX2_isSame_207 hl rfl (by decide) rfl (fun ls hl => ?_)
              refine lv_goto (tgt := 24) hx hb dX2_isSame_210 (by decide) ?_
              exact ih (i + 1) (by omega) (by omega) ((p : Int) + (-1)) v (d : Int) (t + (σ 0 p)) (upi g ((σ 4 p).toNat) ((g ((σ 4 p).toNat)) + 1)) _ _ _ (by omega) q_v2 (by omega) (by rw [hp2]; have e := psum_y h_75; omega) (by rw [hp2]; exact q_v) (by rw [hp2]; exact lwI_n q_l (by omega)) (by rw [hp2]; exact ptI_y q_g h_75 (by omega)) hW (lv_sub hl [0, 1, 4, 5, 6, 7, 8, 9] rfl)
            · skip
              refine lv_iload hx hb dX2_isSame_203 (lv_at hl 3 rfl) ?_
              refine lv_istore (lv' := [(5, .int (J (p : Int))), (6, .int (J (t + (σ 0 p)))), (9, .int (J (cof σ p))), (8, .ref (la L p)), (7, .int (J (p : Int))), (4, .int (J v)), (3, .ref q_1), (2, .int (J (nn σ : Int))), (0, .ref q), (1, .ref x)]) hx hb dX2_isSame_205 hl (by decide) rfl (fun ls hl => ?_)
              refine jv_iinc (k := 4) (z := (p : Int)) (lv' := [(7, .int (J ((p : Int) + (-1)))), (5, .int (J (p : Int))), (6, .int (J (t + (σ 0 p)))), (9, .int (J (cof σ p))), (8, .ref (la L p)), (4, .int (J v)), (3, .ref q_1), (2, .int (J (nn σ : Int))), (0, .ref q), (1, .ref x)]) hx hb dX2_isSame_207 hl rfl (by decide) rfl (fun ls hl => ?_)
              refine lv_goto (tgt := 24) hx hb dX2_isSame_210 (by decide) ?_
              exact ih (i + 1) (by omega) (by omega) ((p : Int) + (-1)) v (p : Int) (t + (σ 0 p)) (upi g ((σ 4 p).toNat) ((g ((σ 4 p).toNat)) + 1)) _ _ _ (by omega) q_v2 (by omega) (by rw [hp2]; have e := psum_y h_75; omega) (by rw [hp2]; exact q_v) (by rw [hp2]; exact lwI_y q_l hpn h_75 (Or.inr ⟨d, rfl, by omega⟩)) (by rw [hp2]; exact ptI_y q_g h_75 (by omega)) hW (lv_sub hl [0, 2, 1, 5, 6, 7, 8, 9] rfl)
        · skip
          refine lv_goto (tgt := 207) hx hb dX2_isSame_160 (by decide) ?_
          refine jv_iinc (k := 2) (z := (p : Int)) (lv' := [(7, .int (J ((p : Int) + (-1)))), (9, .int (J (cof σ p))), (8, .ref (la L p)), (6, .int (J t)), (5, .int (J u2)), (4, .int (J v)), (3, .ref q_1), (2, .int (J (nn σ : Int))), (0, .ref q), (1, .ref x)]) hx hb dX2_isSame_207 hl rfl (by decide) rfl (fun ls hl => ?_)
          refine lv_goto (tgt := 24) hx hb dX2_isSame_210 (by decide) ?_
          exact ih (i + 1) (by omega) (by omega) ((p : Int) + (-1)) v u2 t g _ _ _ (by omega) q_v2 (by omega) (by rw [hp2]; have e := psum_n h_75; omega) (by rw [hp2]; exact q_v) (by rw [hp2]; exact lwI_no q_l h_75) (by rw [hp2]; exact ptI_n q_g h_75) hW (lv_sub hl [0, 3, 4, 5, 6, 7, 8, 9] rfl)
      refine lv_iload hx hb dX2_isSame_126 (lv_at hl 0 rfl) ?_
      refine jv_if_le hx hb 151 dX2_isSame_128 (by decide) ⟨by omega, by omega⟩ (fun h_78 => ?_) (fun h_78 => ?_)
      · skip
        exact j151 u1 (hsI_no q_h (by omega)) (by omega) _ _ _ hW hl
      · skip
        refine lv_iload hx hb dX2_isSame_131 (lv_at hl 5 rfl) ?_
        refine jv_if_lt hx hb 147 dX2_isSame_133 (by decide) ⟨by omega, by omega⟩ (fun h_79 => ?_) (fun h_79 => ?_)
        · skip
          refine lv_iload hx hb dX2_isSame_147 (lv_at hl 2 rfl) ?_
          refine lv_istore (lv' := [(4, .int (J (p : Int))), (9, .int (J (cof σ p))), (8, .ref (la L p)), (7, .int (J (p : Int))), (6, .int (J t)), (5, .int (J u2)), (3, .ref q_1), (2, .int (J (nn σ : Int))), (0, .ref q), (1, .ref x)]) hx hb dX2_isSame_149 hl (by decide) rfl (fun ls hl => ?_)
          exact j151 (p : Int) (hsI_y q_h hpn (by omega) (Or.inl (by omega))) (by omega) _ _ _ hW (lv_sub hl [1, 2, 3, 4, 5, 0, 6, 7, 8, 9] rfl)
        · skip
          obtain ⟨b, hb1, rfl⟩ := (hsI_b q_h).resolve_left (fun h => by omega)
          have hcb := cof_rng hN10 b
          refine lv_iload hx hb dX2_isSame_136 (lv_at hl 0 rfl) ?_
          refine lv_aload_n hx hb dX2_isSame_138 rfl (lv_at hl 8 rfl) ?_
          refine lv_iload hx hb dX2_isSame_139 (lv_at hl 5 rfl) ?_
          refine fina_i (k := 1) (n := 4) (W2 := (fun _ => ((WX κ x a a2 ++ (WC κ a σ br ++ (WS κ q pp L (σ 5 0) (σ 5 1) (σ 5 2) ++ (WA κ q_1 4 g)))) ++ RP κ L σ))) hW (va_freeP hW.2.1 hW.2.2 hA [8, 9] rfl) (va_runV (As := [.int (J (b : Int))]) (rest := [.int (J (cof σ p))]) F ((m_X2_clashesOf l κ q pp L σ (σ 5 0) (σ 5 1) (σ 5 2) hLn hI b (by omega)) _) (cwV 1 hts gX2_isSame_X2_clashesOf rfl rfl rfl (by decide +kernel) ⟨(Nat.le_of_ble_eq_true rfl), (Nat.le_of_ble_eq_true rfl)⟩) (pre_VP hK hW [8, 9] rfl (by decide) 2 8 rfl rfl) rfl rfl hl.1 rfl (lv_room (Nat.le_of_ble_eq_true rfl)) dX2_isSame_141 ⟨(by first | exact Nat.le_of_ble_eq_true rfl | omega | (dsimp only [rm_X2_isSame, rm_X2_clashesOf]; omega)), (by first | exact Nat.le_of_ble_eq_true rfl | omega | (dsimp only [rm_X2_isSame, rm_X2_clashesOf]; omega))⟩) (fun u H1 locs1 g1 g2 g3 g4 => St.joinP hW hA [8, 9] [0, 1, 2, 3, 4, 5, 6, 7, 10] [0, 1, 2, 3, 4, 5, 6, 7, 9, 10, 8] rfl rfl rfl (by decide) rfl rfl g1 g2 g3 g4) (by first | exact Nat.le_of_ble_eq_true rfl | omega | (dsimp only [rm_X2_isSame, rm_X2_clashesOf]; omega)) (by first | exact Nat.le_of_ble_eq_true rfl | omega | (dsimp only [rm_X2_isSame, rm_X2_clashesOf]; omega)) (fun r_81 u H locs hp_80 hW => ?_)
          subst hp_80
          refine jv_icmp_lt hx hb 151 dX2_isSame_144 (by decide) ⟨by omega, by omega⟩ ⟨by omega, by omega⟩ (fun h_82 => ?_) (fun h_82 => ?_)
          · skip
            exact j151 (b : Int) (hsI_n q_h (by omega)) (by omega) _ _ _ hW hl
          · skip
            refine lv_iload hx hb dX2_isSame_147 (lv_at hl 2 rfl) ?_
            refine lv_istore (lv' := [(4, .int (J (p : Int))), (9, .int (J (cof σ p))), (8, .ref (la L p)), (7, .int (J (p : Int))), (6, .int (J t)), (5, .int (J u2)), (3, .ref q_1), (2, .int (J (nn σ : Int))), (0, .ref q), (1, .ref x)]) hx hb dX2_isSame_149 hl (by decide) rfl (fun ls hl => ?_)
            exact j151 (p : Int) (hsI_y q_h hpn (by omega) (Or.inr ⟨b, rfl, by omega⟩)) (by omega) _ _ _ hW (lv_sub hl [1, 2, 3, 4, 5, 0, 6, 7, 8, 9] rfl)
