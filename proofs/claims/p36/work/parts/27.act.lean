abbrev rm_L_act : Room := { frames := 8, cells := 2, slots := 16, locals := 173 }
set_option maxHeartbeats 4000000 in
set_option maxRecDepth 100000 in
/-- something that a number chooses, done to both -/
theorem m_L_act (l : Launch) (κ : Kp) (x : Nat) (a a2 : Nat → Nat) (br : Nat → Int) (q pp : Nat) (L : List Nat) (σ : Sg) (v : Int32) (hG : Gd σ L) (hp0 : 0 < nn σ) (hB : σ 5 0 ≤ 1000000) : CGi l yL_act wsL_act rm_L_act κ [.ref x, .ref q, .int v] ((WX κ x a a2 ++ (WC κ a σ br ++ (WS κ q pp L (σ 5 0) (σ 5 1) (σ 5 2)))) ++ RP κ L σ) (fun r (u : Sg × Nat × List Nat) => r = J 1 ∧ AG σ u.1 u.2.2) (fun (u : Sg × Nat × List Nat) => (WX κ x a a2 ++ (WC κ a u.1 br ++ WS κ q u.2.1 u.2.2 (u.1 5 0) (u.1 5 1) (u.1 5 2))) ++ RP κ u.2.2 u.1) := by
  refine entry_z (by decide) rfl (Nat.le_of_ble_eq_true rfl) ?_
  intro P e s m args below meth c ls A Q F hname hK hA hret hW hl
  obtain ⟨hx, hb, hml, hown, hts⟩ := id F
  have hn2 : ∀ w ∈ wsX20, w ∈ wsL_act := by decide +kernel
  have hI := hG.1
  have hLn := hG.2.1
  have hN := hI.hN
  have hN10 := hI.n10
  have hnn := hI.1
  refine lv_aload_n hx hb dL_act_0 rfl (lv_at hl 1 rfl) ?_
  refine jv_get (T := TX2) (N := 4) (v := .ref pp) hx hb hts hn2 hown hK hW 8 rfl rfl 3 (by decide) (List.mem_of_getElem? (i := 1) rfl) rfl dL_act_1 ?_
  refine jv_qlen hx hb hK (hK.2.2.2.1) hW 9 rfl dL_act_4 ?_
  refine jv_eq (y := (nn σ : Int)) (by rw [hLn]) ?_
  refine lv_istore_n (lv' := [(3, .int (J (nn σ : Int))), (0, .ref x), (1, .ref q), (2, .int v)]) hx hb dL_act_5 rfl hl (by decide) rfl (fun ls hl => ?_)
  refine lv_iload_n hx hb dL_act_6 rfl (lv_at hl 0 rfl) ?_
  refine jv_if_ne hx hb 14 dL_act_7 (by decide) ⟨by omega, by omega⟩ (fun h_1 => ?_) (fun h_1 => by exfalso; omega)
  refine lv_iload_n hx hb dL_act_14 rfl (lv_at hl 3 rfl) ?_
  refine jv_iconst hx hb dL_act_15 ?_
  refine lv_ishr hx hb dL_act_16 ?_
  refine lv_iload_n hx hb dL_act_17 rfl (lv_at hl 0 rfl) ?_
  refine fina_i (k := 0) (n := 0) (W2 := (fun z_2 => ((WX κ x a a2 ++ (WC κ a σ br ++ (WS κ q pp L (σ 5 0) (σ 5 1) (σ 5 2)))) ++ RP κ L σ))) hW (va_free hW.2.1 hW.2.2 hA [] rfl) (va_runS (As := [.int (v >>> ((J 3) &&& 31)), .int (J (nn σ : Int))]) (rest := []) F ((m_L_below l κ (v >>> ((J 3) &&& 31)) (nn σ) ⟨by omega, by omega⟩) _) (va_cwS 2 hts gL_act_L_below rfl rfl rfl (by decide +kernel) ⟨(Nat.le_of_ble_eq_true rfl), (Nat.le_of_ble_eq_true rfl)⟩) (pre_S hK hW [] rfl (by decide)) rfl rfl hl.1 rfl (lv_room (Nat.le_of_ble_eq_true rfl)) dL_act_18 ⟨(by first | exact Nat.le_of_ble_eq_true rfl | omega | (dsimp only [rm_L_act, rm_L_below]; omega)), (by first | exact Nat.le_of_ble_eq_true rfl | omega | (dsimp only [rm_L_act, rm_L_below]; omega))⟩) (fun u H1 locs1 g1 g2 g3 g4 => St.joinQ hW hA [] [0, 1, 2, 3, 4, 5, 6, 7, 8, 9] [0, 1, 2, 3, 4, 5, 6, 7, 8, 9] rfl rfl rfl (by decide) rfl rfl g1 g2 g3 g4) (by first | exact Nat.le_of_ble_eq_true rfl | omega | (dsimp only [rm_L_act, rm_L_below]; omega)) (by first | exact Nat.le_of_ble_eq_true rfl | omega | (dsimp only [rm_L_act, rm_L_below]; omega)) (fun r_4 z_2 H locs hp_3 hW => ?_)
  obtain ⟨rfl, hz_2⟩ := hp_3
  refine lv_istore (lv' := [(4, .int (J (z_2 : Int))), (3, .int (J (nn σ : Int))), (0, .ref x), (1, .ref q), (2, .int v)]) hx hb dL_act_21 hl (by decide) rfl (fun ls hl => ?_)
  refine lv_iload_n hx hb dL_act_23 rfl (lv_at hl 1 rfl) ?_
  refine jv_if_eq hx hb 36 dL_act_24 (by decide) ⟨by omega, by omega⟩ (fun h_5 => by exfalso; omega) (fun h_5 => ?_)
  refine lv_iload_n hx hb dL_act_27 rfl (lv_at hl 4 rfl) ?_
  refine jv_bipush hx hb 14 dL_act_28 (by decide +kernel) ?_
  refine fina_i (k := 0) (n := 0) (W2 := (fun z_6 => ((WX κ x a a2 ++ (WC κ a σ br ++ (WS κ q pp L (σ 5 0) (σ 5 1) (σ 5 2)))) ++ RP κ L σ))) hW (va_free hW.2.1 hW.2.2 hA [] rfl) (va_runS (As := [.int v, .int (J 14)]) (rest := []) F ((m_L_below l κ v 14 ⟨by omega, by omega⟩) _) (va_cwS 2 hts gL_act_L_below rfl rfl rfl (by decide +kernel) ⟨(Nat.le_of_ble_eq_true rfl), (Nat.le_of_ble_eq_true rfl)⟩) (pre_S hK hW [] rfl (by decide)) rfl rfl hl.1 rfl (lv_room (Nat.le_of_ble_eq_true rfl)) dL_act_30 ⟨(by first | exact Nat.le_of_ble_eq_true rfl | omega | (dsimp only [rm_L_act, rm_L_below]; omega)), (by first | exact Nat.le_of_ble_eq_true rfl | omega | (dsimp only [rm_L_act, rm_L_below]; omega))⟩) (fun u H1 locs1 g1 g2 g3 g4 => St.joinQ hW hA [] [0, 1, 2, 3, 4, 5, 6, 7, 8, 9] [0, 1, 2, 3, 4, 5, 6, 7, 8, 9] rfl rfl rfl (by decide) rfl rfl g1 g2 g3 g4) (by first | exact Nat.le_of_ble_eq_true rfl | omega | (dsimp only [rm_L_act, rm_L_below]; omega)) (by first | exact Nat.le_of_ble_eq_true rfl | omega | (dsimp only [rm_L_act, rm_L_below]; omega)) (fun r_8 z_6 H locs hp_7 hW => ?_)
  obtain ⟨rfl, hz_6⟩ := hp_7
  refine jv_if_ne hx hb 129 dL_act_33 (by decide) ⟨by omega, by omega⟩ (fun h_9 => ?_) (fun h_9 => ?_)
  · skip
    refine lv_aload_n hx hb dL_act_129 rfl (lv_at hl 3 rfl) ?_
    refine jv_get (T := TX2) (N := 4) (v := .ref pp) hx hb hts hn2 hown hK hW 8 rfl rfl 3 (by decide) (List.mem_of_getElem? (i := 1) rfl) rfl dL_act_130 ?_
    refine lv_iload hx hb dL_act_133 (lv_at hl 0 rfl) ?_
    refine jv_qld hx hb (hK.2.2.2.1) hW 9 rfl z_2 (la L z_2) rfl (by omega) (by omega) (la_get (by omega)) dL_act_135 ?_
    refine lv_astore (lv' := [(5, .ref (la L z_2)), (4, .int (J (z_2 : Int))), (3, .int (J (nn σ : Int))), (0, .ref x), (1, .ref q), (2, .int v)]) hx hb dL_act_136 hl (by decide) rfl (fun ls hl => ?_)
    have hbp := hI.at z_2 (by omega)
    refine lv_iload_n hx hb dL_act_138 rfl (lv_at hl 5 rfl) ?_
    refine jv_bipush hx hb 14 dL_act_139 (by decide +kernel) ?_
    refine fina_i (k := 0) (n := 0) (W2 := (fun z_10 => ((WX κ x a a2 ++ (WC κ a σ br ++ (WS κ q pp L (σ 5 0) (σ 5 1) (σ 5 2)))) ++ RP κ L σ))) hW (va_free hW.2.1 hW.2.2 hA [] rfl) (va_runS (As := [.int v, .int (J 14)]) (rest := []) F ((m_L_below l κ v 14 ⟨by omega, by omega⟩) _) (va_cwS 2 hts gL_act_L_below rfl rfl rfl (by decide +kernel) ⟨(Nat.le_of_ble_eq_true rfl), (Nat.le_of_ble_eq_true rfl)⟩) (pre_S hK hW [] rfl (by decide)) rfl rfl hl.1 rfl (lv_room (Nat.le_of_ble_eq_true rfl)) dL_act_141 ⟨(by first | exact Nat.le_of_ble_eq_true rfl | omega | (dsimp only [rm_L_act, rm_L_below]; omega)), (by first | exact Nat.le_of_ble_eq_true rfl | omega | (dsimp only [rm_L_act, rm_L_below]; omega))⟩) (fun u H1 locs1 g1 g2 g3 g4 => St.joinQ hW hA [] [0, 1, 2, 3, 4, 5, 6, 7, 8, 9] [0, 1, 2, 3, 4, 5, 6, 7, 8, 9] rfl rfl rfl (by decide) rfl rfl g1 g2 g3 g4) (by first | exact Nat.le_of_ble_eq_true rfl | omega | (dsimp only [rm_L_act, rm_L_below]; omega)) (by first | exact Nat.le_of_ble_eq_true rfl | omega | (dsimp only [rm_L_act, rm_L_below]; omega)) (fun r_12 z_10 H locs hp_11 hW => ?_)
    obtain ⟨rfl, hz_10⟩ := hp_11
    have j196 : ∀ (H : Heap) (locs : List Loc) (ls : Array Slot), St κ A s.heap H locs ((WX κ x a a2 ++ (WC κ a σ br ++ (WS κ q pp L (σ 5 0) (σ 5 1) (σ 5 2)))) ++ RP κ L σ) → lv_has ls 9 [(5, .ref (la L z_2)), (4, .int (J (z_2 : Int))), (3, .int (J (nn σ : Int))), (0, .ref x), (1, .ref q), (2, .int v)] → W P l e rm_L_act s m args below meth c H locs 0 0 Q (F0 m 196 ls []) := by
      intro H locs ls hW hl
      refine lv_iload_n hx hb dL_act_196 rfl (lv_at hl 5 rfl) ?_
      refine jv_iconst hx hb dL_act_197 ?_
      refine lv_ishr hx hb dL_act_198 ?_
      refine jv_bipush hx hb 25 dL_act_199 (by decide +kernel) ?_
      refine fina_i (k := 0) (n := 0) (W2 := (fun z_13 => ((WX κ x a a2 ++ (WC κ a σ br ++ (WS κ q pp L (σ 5 0) (σ 5 1) (σ 5 2)))) ++ RP κ L σ))) hW (va_free hW.2.1 hW.2.2 hA [] rfl) (va_runS (As := [.int (v >>> ((J 5) &&& 31)), .int (J 25)]) (rest := []) F ((m_L_below l κ (v >>> ((J 5) &&& 31)) 25 ⟨by omega, by omega⟩) _) (va_cwS 2 hts gL_act_L_below rfl rfl rfl (by decide +kernel) ⟨(Nat.le_of_ble_eq_true rfl), (Nat.le_of_ble_eq_true rfl)⟩) (pre_S hK hW [] rfl (by decide)) rfl rfl hl.1 rfl (lv_room (Nat.le_of_ble_eq_true rfl)) dL_act_201 ⟨(by first | exact Nat.le_of_ble_eq_true rfl | omega | (dsimp only [rm_L_act, rm_L_below]; omega)), (by first | exact Nat.le_of_ble_eq_true rfl | omega | (dsimp only [rm_L_act, rm_L_below]; omega))⟩) (fun u H1 locs1 g1 g2 g3 g4 => St.joinQ hW hA [] [0, 1, 2, 3, 4, 5, 6, 7, 8, 9] [0, 1, 2, 3, 4, 5, 6, 7, 8, 9] rfl rfl rfl (by decide) rfl rfl g1 g2 g3 g4) (by first | exact Nat.le_of_ble_eq_true rfl | omega | (dsimp only [rm_L_act, rm_L_below]; omega)) (by first | exact Nat.le_of_ble_eq_true rfl | omega | (dsimp only [rm_L_act, rm_L_below]; omega)) (fun r_15 z_13 H locs hp_14 hW => ?_)
      obtain ⟨rfl, hz_13⟩ := hp_14
      refine jv_bipush hx hb 12 dL_act_204 (by decide +kernel) ?_
      refine jv_isub hx hb dL_act_206 ?_
      refine lv_istore (lv' := [(6, .int (J ((z_13 : Int) - 12))), (5, .ref (la L z_2)), (4, .int (J (z_2 : Int))), (3, .int (J (nn σ : Int))), (0, .ref x), (1, .ref q), (2, .int v)]) hx hb dL_act_207 hl (by decide) rfl (fun ls hl => ?_)
      refine lv_aload hx hb dL_act_209 (lv_at hl 1 rfl) ?_
      refine jv_iconst hx hb dL_act_211 ?_
      refine jv_rld hx hb hK hW (i := z_2) (by omega) 1 rfl (by decide) dL_act_212 ?_
      refine jv_eq (y := (σ 0 z_2)) rfl ?_
      refine lv_iload hx hb dL_act_213 (lv_at hl 0 rfl) ?_
      refine jv_iadd hx hb dL_act_215 ?_
      refine jv_if_lt hx hb 231 dL_act_216 (by decide) ⟨by omega, by omega⟩ (fun h_16 => ?_) (fun h_16 => ?_)
      · skip
        refine jv_iconst hx hb dL_act_231 ?_
        exact hret (σ, pp, L) hW dL_act_232 (by first | exact Nat.le_of_ble_eq_true rfl | omega | (dsimp only [rm_L_act]; omega)) (by first | exact Nat.le_of_ble_eq_true rfl | omega | (dsimp only [rm_L_act]; omega)) (by first | exact zr_01 (Or.inl rfl) | exact zr_01 (Or.inr rfl) | exact zr_b _ | exact zr_01 (by omega)) (⟨rfl, ag_rf hG⟩)
      · skip
        refine lv_aload hx hb dL_act_219 (lv_at hl 1 rfl) ?_
        refine jv_iconst hx hb dL_act_221 ?_
        refine jv_rld hx hb hK hW (i := z_2) (by omega) 1 rfl (by decide) dL_act_222 ?_
        refine jv_eq (y := (σ 0 z_2)) rfl ?_
        refine lv_iload hx hb dL_act_223 (lv_at hl 0 rfl) ?_
        refine jv_iadd hx hb dL_act_225 ?_
        refine jv_bipush hx hb 35 dL_act_226 (by decide +kernel) ?_
        refine jv_icmp_le hx hb 233 dL_act_228 (by decide) ⟨by omega, by omega⟩ ⟨by omega, by omega⟩ (fun h_17 => ?_) (fun h_17 => ?_)
        · skip
          refine lv_aload hx hb dL_act_233 (lv_at hl 1 rfl) ?_
          refine jv_iconst hx hb dL_act_235 ?_
          refine lv_dup2_11 hx hb dL_act_236 rfl rfl ?_
          refine jv_rld hx hb hK hW (i := z_2) (by omega) 1 rfl (by decide) dL_act_237 ?_
          refine jv_eq (y := (σ 0 z_2)) rfl ?_
          refine lv_iload hx hb dL_act_238 (lv_at hl 0 rfl) ?_
          refine jv_iadd hx hb dL_act_240 ?_
          refine jv_rst hx hb hK hW (i := z_2) (by omega) 1 rfl (by decide) dL_act_241 (fun H locs hW => ?_)
          have hW : St κ A s.heap H locs ((WX κ x a a2 ++ (WC κ a σ br ++ (WS κ q pp L (σ 5 0) (σ 5 1) (σ 5 2)))) ++ RP κ L (up σ 0 z_2 ((σ 0 z_2) + ((z_13 : Int) - 12)))) := hW
          refine lv_aload_n hx hb dL_act_242 rfl (lv_at hl 4 rfl) ?_
          refine lv_iload hx hb dL_act_243 (lv_at hl 2 rfl) ?_
          refine lv_iload hx hb dL_act_245 (lv_at hl 0 rfl) ?_
          refine fina_i (k := 0) (n := 0) (W2 := (fun _ => ((WX κ x a a2 ++ (WC κ a (up σ 0 z_2 (σ 0 z_2 + ((z_13 : Int) - 12))) br ++ (WS κ q pp L (σ 5 0) (σ 5 1) (σ 5 2)))) ++ RP κ L (up σ 0 z_2 ((σ 0 z_2) + ((z_13 : Int) - 12)))))) hW (va_free hW.2.1 hW.2.2 hA [0, 1, 2, 3, 4, 5, 6, 7] rfl) (va_runV (As := [.int (J (z_2 : Int)), .int (J ((z_13 : Int) - 12))]) (rest := []) F ((m_X1_tune l κ x a a2 σ br z_2 ((z_13 : Int) - 12) (by omega) (by omega) (by omega) hI) _) (cwV 2 hts gL_act_X1_tune rfl rfl rfl (by decide +kernel) ⟨(Nat.le_of_ble_eq_true rfl), (Nat.le_of_ble_eq_true rfl)⟩) (pre_V hK hW [0, 1, 2, 3, 4, 5, 6, 7] rfl (by decide) 1 0 rfl rfl) rfl rfl hl.1 rfl (lv_room (Nat.le_of_ble_eq_true rfl)) dL_act_247 ⟨(by first | exact Nat.le_of_ble_eq_true rfl | omega | (dsimp only [rm_L_act, rm_X1_tune]; omega)), (by first | exact Nat.le_of_ble_eq_true rfl | omega | (dsimp only [rm_L_act, rm_X1_tune]; omega))⟩) (fun u H1 locs1 g1 g2 g3 g4 => St.joinQ hW hA [0, 1, 2, 3, 4, 5, 6, 7] [8, 9] [2, 3, 4, 5, 6, 7, 8, 9, 0, 1] rfl rfl rfl (by decide) rfl rfl g1 g2 g3 g4) (by first | exact Nat.le_of_ble_eq_true rfl | omega | (dsimp only [rm_L_act, rm_X1_tune]; omega)) (by first | exact Nat.le_of_ble_eq_true rfl | omega | (dsimp only [rm_L_act, rm_X1_tune]; omega)) (fun r_19 u H locs hp_18 hW => ?_)
          subst hp_18
          refine lv_aload hx hb dL_act_250 (lv_at hl 1 rfl) ?_
          refine jv_iconst hx hb dL_act_252 ?_
          refine jv_rld hx hb hK hW (i := z_2) (by omega) 1 rfl (by decide) dL_act_253 ?_
          refine jv_eq (y := ((σ 0 z_2) + ((z_13 : Int) - 12))) (show (upi (σ 0) z_2 ((σ 0 z_2) + ((z_13 : Int) - 12))) z_2 = (σ 0 z_2) + ((z_13 : Int) - 12) from upi_s _ _ _) ?_
          refine jv_icmp_ne hx hb 261 dL_act_254 (by decide) ⟨by omega, by omega⟩ ⟨by omega, by omega⟩ (fun h_20 => by exfalso; omega) (fun h_20 => ?_)
          refine jv_iconst hx hb dL_act_257 ?_
          refine lv_goto (tgt := 262) hx hb dL_act_258 (by decide) ?_
          exact hret ((up σ 0 z_2 ((σ 0 z_2) + ((z_13 : Int) - 12))), pp, L) hW dL_act_262 (by first | exact Nat.le_of_ble_eq_true rfl | omega | (dsimp only [rm_L_act]; omega)) (by first | exact Nat.le_of_ble_eq_true rfl | omega | (dsimp only [rm_L_act]; omega)) (by first | exact zr_01 (Or.inl rfl) | exact zr_01 (Or.inr rfl) | exact zr_b _ | exact zr_01 (by omega)) (⟨rfl, ag_up hG (by decide) (by omega) (hI.u0 (by omega))⟩)
        · skip
          refine jv_iconst hx hb dL_act_231 ?_
          exact hret (σ, pp, L) hW dL_act_232 (by first | exact Nat.le_of_ble_eq_true rfl | omega | (dsimp only [rm_L_act]; omega)) (by first | exact Nat.le_of_ble_eq_true rfl | omega | (dsimp only [rm_L_act]; omega)) (by first | exact zr_01 (Or.inl rfl) | exact zr_01 (Or.inr rfl) | exact zr_b _ | exact zr_01 (by omega)) (⟨rfl, ag_rf hG⟩)
    have j263 : ∀ (H : Heap) (locs : List Loc) (ls : Array Slot), St κ A s.heap H locs ((WX κ x a a2 ++ (WC κ a σ br ++ (WS κ q pp L (σ 5 0) (σ 5 1) (σ 5 2)))) ++ RP κ L σ) → lv_has ls 9 [(5, .ref (la L z_2)), (4, .int (J (z_2 : Int))), (3, .int (J (nn σ : Int))), (0, .ref x), (1, .ref q), (2, .int v)] → W P l e rm_L_act s m args below meth c H locs 0 0 Q (F0 m 263 ls []) := by
      intro H locs ls hW hl
      refine lv_aload hx hb dL_act_263 (lv_at hl 0 rfl) ?_
      refine jv_iconst hx hb dL_act_265 ?_
      refine jv_iconst hx hb dL_act_266 ?_
      refine lv_aload hx hb dL_act_267 (lv_at hl 0 rfl) ?_
      refine jv_iconst hx hb dL_act_269 ?_
      refine jv_rld hx hb hK hW (i := z_2) (by omega) 4 rfl (by decide) dL_act_270 ?_
      refine jv_eq (y := (σ 3 z_2)) rfl ?_
      refine jv_isub hx hb dL_act_271 ?_
      refine jv_rst hx hb hK hW (i := z_2) (by omega) 4 rfl (by decide) dL_act_272 (fun H locs hW => ?_)
      have hW : St κ A s.heap H locs ((WX κ x a a2 ++ (WC κ a σ br ++ (WS κ q pp L (σ 5 0) (σ 5 1) (σ 5 2)))) ++ RP κ L (up σ 3 z_2 (1 - (σ 3 z_2)))) := hW
      refine lv_aload_n hx hb dL_act_273 rfl (lv_at hl 3 rfl) ?_
      refine lv_iload hx hb dL_act_274 (lv_at hl 1 rfl) ?_
      refine fina_i (k := 0) (n := 0) (W2 := (fun _ => ((WX κ x a a2 ++ (WC κ a (up σ 3 z_2 (1 - σ 3 z_2)) br ++ (WS κ q pp L (σ 5 0) (σ 5 1) (σ 5 2)))) ++ RP κ L (up σ 3 z_2 (1 - (σ 3 z_2)))))) hW (va_free hW.2.1 hW.2.2 hA [0, 1, 2, 3, 4, 5, 6, 7] rfl) (va_runV (As := [.int (J (z_2 : Int))]) (rest := []) F ((m_X1_turnCosy l κ x a a2 σ br z_2 (by omega) hI) _) (cwV 1 hts gL_act_X1_turnCosy rfl rfl rfl (by decide +kernel) ⟨(Nat.le_of_ble_eq_true rfl), (Nat.le_of_ble_eq_true rfl)⟩) (pre_V hK hW [0, 1, 2, 3, 4, 5, 6, 7] rfl (by decide) 1 0 rfl rfl) rfl rfl hl.1 rfl (lv_room (Nat.le_of_ble_eq_true rfl)) dL_act_276 ⟨(by first | exact Nat.le_of_ble_eq_true rfl | omega | (dsimp only [rm_L_act, rm_X1_turnCosy]; omega)), (by first | exact Nat.le_of_ble_eq_true rfl | omega | (dsimp only [rm_L_act, rm_X1_turnCosy]; omega))⟩) (fun u H1 locs1 g1 g2 g3 g4 => St.joinQ hW hA [0, 1, 2, 3, 4, 5, 6, 7] [8, 9] [2, 3, 4, 5, 6, 7, 8, 9, 0, 1] rfl rfl rfl (by decide) rfl rfl g1 g2 g3 g4) (by first | exact Nat.le_of_ble_eq_true rfl | omega | (dsimp only [rm_L_act, rm_X1_turnCosy]; omega)) (by first | exact Nat.le_of_ble_eq_true rfl | omega | (dsimp only [rm_L_act, rm_X1_turnCosy]; omega)) (fun r_22 u H locs hp_21 hW => ?_)
      subst hp_21
      refine lv_aload hx hb dL_act_279 (lv_at hl 0 rfl) ?_
      refine jv_iconst hx hb dL_act_281 ?_
      refine jv_rld hx hb hK hW (i := z_2) (by omega) 4 rfl (by decide) dL_act_282 ?_
      refine jv_eq (y := (1 - (σ 3 z_2))) (show (upi (σ 3) z_2 (1 - (σ 3 z_2))) z_2 = 1 - (σ 3 z_2) from upi_s _ _ _) ?_
      refine jv_iconst hx hb dL_act_283 ?_
      refine jv_icmp_ne hx hb 291 dL_act_284 (by decide) ⟨by omega, by omega⟩ ⟨by omega, by omega⟩ (fun h_23 => ?_) (fun h_23 => ?_)
      · skip
        refine jv_iconst hx hb dL_act_291 ?_
        refine jv_icmp_ne hx hb 299 dL_act_292 (by decide) ⟨by omega, by omega⟩ ⟨by omega, by omega⟩ (fun h_24 => by exfalso; omega) (fun h_24 => ?_)
        refine jv_iconst hx hb dL_act_295 ?_
        refine lv_goto (tgt := 300) hx hb dL_act_296 (by decide) ?_
        exact hret ((up σ 3 z_2 (1 - (σ 3 z_2))), pp, L) hW dL_act_300 (by first | exact Nat.le_of_ble_eq_true rfl | omega | (dsimp only [rm_L_act]; omega)) (by first | exact Nat.le_of_ble_eq_true rfl | omega | (dsimp only [rm_L_act]; omega)) (by first | exact zr_01 (Or.inl rfl) | exact zr_01 (Or.inr rfl) | exact zr_b _ | exact zr_01 (by omega)) (⟨rfl, ag_up hG (by decide) (by omega) (hI.u3 (by omega))⟩)
      · skip
        refine jv_iconst hx hb dL_act_287 ?_
        refine lv_goto (tgt := 292) hx hb dL_act_288 (by decide) ?_
        refine jv_icmp_ne hx hb 299 dL_act_292 (by decide) ⟨by omega, by omega⟩ ⟨by omega, by omega⟩ (fun h_25 => by exfalso; omega) (fun h_25 => ?_)
        refine jv_iconst hx hb dL_act_295 ?_
        refine lv_goto (tgt := 300) hx hb dL_act_296 (by decide) ?_
        exact hret ((up σ 3 z_2 (1 - (σ 3 z_2))), pp, L) hW dL_act_300 (by first | exact Nat.le_of_ble_eq_true rfl | omega | (dsimp only [rm_L_act]; omega)) (by first | exact Nat.le_of_ble_eq_true rfl | omega | (dsimp only [rm_L_act]; omega)) (by first | exact zr_01 (Or.inl rfl) | exact zr_01 (Or.inr rfl) | exact zr_b _ | exact zr_01 (by omega)) (⟨rfl, ag_up hG (by decide) (by omega) (hI.u3 (by omega))⟩)
    have j411 : ∀ (H : Heap) (locs : List Loc) (ls : Array Slot), St κ A s.heap H locs ((WX κ x a a2 ++ (WC κ a σ br ++ (WS κ q pp L (σ 5 0) (σ 5 1) (σ 5 2)))) ++ RP κ L σ) → lv_has ls 9 [(5, .ref (la L z_2)), (4, .int (J (z_2 : Int))), (3, .int (J (nn σ : Int))), (0, .ref x), (1, .ref q), (2, .int v)] → W P l e rm_L_act s m args below meth c H locs 0 0 Q (F0 m 411 ls []) := by
      intro H locs ls hW hl
      refine jv_bipush hx hb 20 dL_act_411 (by decide +kernel) ?_
      refine lv_aload hx hb dL_act_413 (lv_at hl 0 rfl) ?_
      refine jv_iconst hx hb dL_act_415 ?_
      refine jv_rld hx hb hK hW (i := z_2) (by omega) 2 rfl (by decide) dL_act_416 ?_
      refine jv_eq (y := (σ 1 z_2)) rfl ?_
      refine jv_isub hx hb dL_act_417 ?_
      refine lv_istore (lv' := [(6, .int (J (20 - (σ 1 z_2)))), (5, .ref (la L z_2)), (4, .int (J (z_2 : Int))), (3, .int (J (nn σ : Int))), (0, .ref x), (1, .ref q), (2, .int v)]) hx hb dL_act_418 hl (by decide) rfl (fun ls hl => ?_)
      refine lv_aload hx hb dL_act_420 (lv_at hl 1 rfl) ?_
      refine jv_iconst hx hb dL_act_422 ?_
      refine jv_bipush hx hb 20 dL_act_423 (by decide +kernel) ?_
      refine jv_rst hx hb hK hW (i := z_2) (by omega) 2 rfl (by decide) dL_act_425 (fun H locs hW => ?_)
      have hW : St κ A s.heap H locs ((WX κ x a a2 ++ (WC κ a σ br ++ (WS κ q pp L (σ 5 0) (σ 5 1) (σ 5 2)))) ++ RP κ L (up σ 1 z_2 20)) := hW
      refine lv_aload_n hx hb dL_act_426 rfl (lv_at hl 4 rfl) ?_
      refine lv_iload hx hb dL_act_427 (lv_at hl 2 rfl) ?_
      refine fina_i (k := 0) (n := 0) (W2 := (fun _ => ((WX κ x a a2 ++ (WC κ a (up σ 1 z_2 20) br ++ (WS κ q pp L (σ 5 0) (σ 5 1) (σ 5 2)))) ++ RP κ L (up σ 1 z_2 20)))) hW (va_free hW.2.1 hW.2.2 hA [0, 1, 2, 3, 4, 5, 6, 7] rfl) (va_runV (As := [.int (J (z_2 : Int))]) (rest := []) F ((m_X1_fill l κ x a a2 σ br z_2 (by omega) hI) _) (cwV 1 hts gL_act_X1_fill rfl rfl rfl (by decide +kernel) ⟨(Nat.le_of_ble_eq_true rfl), (Nat.le_of_ble_eq_true rfl)⟩) (pre_V hK hW [0, 1, 2, 3, 4, 5, 6, 7] rfl (by decide) 1 0 rfl rfl) rfl rfl hl.1 rfl (lv_room (Nat.le_of_ble_eq_true rfl)) dL_act_429 ⟨(by first | exact Nat.le_of_ble_eq_true rfl | omega | (dsimp only [rm_L_act, rm_X1_fill]; omega)), (by first | exact Nat.le_of_ble_eq_true rfl | omega | (dsimp only [rm_L_act, rm_X1_fill]; omega))⟩) (fun u H1 locs1 g1 g2 g3 g4 => St.joinQ hW hA [0, 1, 2, 3, 4, 5, 6, 7] [8, 9] [2, 3, 4, 5, 6, 7, 8, 9, 0, 1] rfl rfl rfl (by decide) rfl rfl g1 g2 g3 g4) (by first | exact Nat.le_of_ble_eq_true rfl | omega | (dsimp only [rm_L_act, rm_X1_fill]; omega)) (by first | exact Nat.le_of_ble_eq_true rfl | omega | (dsimp only [rm_L_act, rm_X1_fill]; omega)) (fun r_27 u H locs hp_26 hW => ?_)
      subst hp_26
      refine lv_iload hx hb dL_act_432 (lv_at hl 0 rfl) ?_
      refine jv_icmp_ne hx hb 441 dL_act_434 (by decide) ⟨by omega, by omega⟩ ⟨by omega, by omega⟩ (fun h_28 => by exfalso; omega) (fun h_28 => ?_)
      refine jv_iconst hx hb dL_act_437 ?_
      refine lv_goto (tgt := 442) hx hb dL_act_438 (by decide) ?_
      exact hret ((up σ 1 z_2 20), pp, L) hW dL_act_442 (by first | exact Nat.le_of_ble_eq_true rfl | omega | (dsimp only [rm_L_act]; omega)) (by first | exact Nat.le_of_ble_eq_true rfl | omega | (dsimp only [rm_L_act]; omega)) (by first | exact zr_01 (Or.inl rfl) | exact zr_01 (Or.inr rfl) | exact zr_b _ | exact zr_01 (by omega)) (⟨rfl, ag_up hG (by decide) (by omega) (hI.u1 (by omega))⟩)
    have j489 : ∀ (H : Heap) (locs : List Loc) (ls : Array Slot), St κ A s.heap H locs ((WX κ x a a2 ++ (WC κ a σ br ++ (WS κ q pp L (σ 5 0) (σ 5 1) (σ 5 2)))) ++ RP κ L σ) → lv_has ls 9 [(5, .ref (la L z_2)), (4, .int (J (z_2 : Int))), (3, .int (J (nn σ : Int))), (0, .ref x), (1, .ref q), (2, .int v)] → W P l e rm_L_act s m args below meth c H locs 0 0 Q (F0 m 489 ls []) := by
      intro H locs ls hW hl
      refine jv_iconst hx hb dL_act_489 ?_
      refine lv_iload_n hx hb dL_act_490 rfl (lv_at hl 5 rfl) ?_
      refine jv_iconst hx hb dL_act_491 ?_
      refine lv_ishr hx hb dL_act_492 ?_
      refine lv_iload_n hx hb dL_act_493 rfl (lv_at hl 5 rfl) ?_
      refine jv_bipush hx hb 7 dL_act_494 (by decide +kernel) ?_
      refine lv_ishr hx hb dL_act_496 ?_
      refine jv_iconst hx hb dL_act_497 ?_
      refine fina_i (k := 0) (n := 0) (W2 := (fun z_29 => ((WX κ x a a2 ++ (WC κ a σ br ++ (WS κ q pp L (σ 5 0) (σ 5 1) (σ 5 2)))) ++ RP κ L σ))) hW (va_free hW.2.1 hW.2.2 hA [] rfl) (va_runS (As := [.int (v >>> ((J 7) &&& 31)), .int (J 5)]) (rest := [.int (v >>> ((J 4) &&& 31)), .int (J 1)]) F ((m_L_below l κ (v >>> ((J 7) &&& 31)) 5 ⟨by omega, by omega⟩) _) (va_cwS 2 hts gL_act_L_below rfl rfl rfl (by decide +kernel) ⟨(Nat.le_of_ble_eq_true rfl), (Nat.le_of_ble_eq_true rfl)⟩) (pre_S hK hW [] rfl (by decide)) rfl rfl hl.1 rfl (lv_room (Nat.le_of_ble_eq_true rfl)) dL_act_498 ⟨(by first | exact Nat.le_of_ble_eq_true rfl | omega | (dsimp only [rm_L_act, rm_L_below]; omega)), (by first | exact Nat.le_of_ble_eq_true rfl | omega | (dsimp only [rm_L_act, rm_L_below]; omega))⟩) (fun u H1 locs1 g1 g2 g3 g4 => St.joinQ hW hA [] [0, 1, 2, 3, 4, 5, 6, 7, 8, 9] [0, 1, 2, 3, 4, 5, 6, 7, 8, 9] rfl rfl rfl (by decide) rfl rfl g1 g2 g3 g4) (by first | exact Nat.le_of_ble_eq_true rfl | omega | (dsimp only [rm_L_act, rm_L_below]; omega)) (by first | exact Nat.le_of_ble_eq_true rfl | omega | (dsimp only [rm_L_act, rm_L_below]; omega)) (fun r_31 z_29 H locs hp_30 hW => ?_)
      obtain ⟨rfl, hz_29⟩ := hp_30
      refine jv_if_ne hx hb 509 dL_act_501 (by decide) ⟨by omega, by omega⟩ (fun h_32 => ?_) (fun h_32 => ?_)
      · skip
        refine jv_iconst hx hb dL_act_509 ?_
        refine fina_i (k := 0) (n := 0) (W2 := (fun z_33 => ((WX κ x a a2 ++ (WC κ a σ br ++ (WS κ q pp L (σ 5 0) (σ 5 1) (σ 5 2)))) ++ RP κ L σ))) hW (va_free hW.2.1 hW.2.2 hA [] rfl) (va_runS (As := [.int (v >>> ((J 4) &&& 31)), .int (J 4)]) (rest := [.int (J 1)]) F ((m_L_below l κ (v >>> ((J 4) &&& 31)) 4 ⟨by omega, by omega⟩) _) (va_cwS 2 hts gL_act_L_below rfl rfl rfl (by decide +kernel) ⟨(Nat.le_of_ble_eq_true rfl), (Nat.le_of_ble_eq_true rfl)⟩) (pre_S hK hW [] rfl (by decide)) rfl rfl hl.1 rfl (lv_room (Nat.le_of_ble_eq_true rfl)) dL_act_510 ⟨(by first | exact Nat.le_of_ble_eq_true rfl | omega | (dsimp only [rm_L_act, rm_L_below]; omega)), (by first | exact Nat.le_of_ble_eq_true rfl | omega | (dsimp only [rm_L_act, rm_L_below]; omega))⟩) (fun u H1 locs1 g1 g2 g3 g4 => St.joinQ hW hA [] [0, 1, 2, 3, 4, 5, 6, 7, 8, 9] [0, 1, 2, 3, 4, 5, 6, 7, 8, 9] rfl rfl rfl (by decide) rfl rfl g1 g2 g3 g4) (by first | exact Nat.le_of_ble_eq_true rfl | omega | (dsimp only [rm_L_act, rm_L_below]; omega)) (by first | exact Nat.le_of_ble_eq_true rfl | omega | (dsimp only [rm_L_act, rm_L_below]; omega)) (fun r_35 z_33 H locs hp_34 hW => ?_)
        obtain ⟨rfl, hz_33⟩ := hp_34
        refine jv_iadd hx hb dL_act_513 ?_
        refine jv_eq (y := ((1 + z_33 : Nat) : Int)) (by omega) ?_
        refine lv_istore (lv' := [(6, .int (J ((1 + z_33) : Int))), (5, .ref (la L z_2)), (4, .int (J (z_2 : Int))), (3, .int (J (nn σ : Int))), (0, .ref x), (1, .ref q), (2, .int v)]) hx hb dL_act_514 hl (by decide) rfl (fun ls hl => ?_)
        have h51 := pbn_51 σ (1 + z_33)
        refine lv_aload_n hx hb dL_act_516 rfl (lv_at hl 4 rfl) ?_
        refine lv_iload hx hb dL_act_517 (lv_at hl 0 rfl) ?_
        refine fina_i (k := 0) (n := 0) (W2 := (fun _ => ((WX κ x a a2 ++ (WC κ a (pbn σ (1 + z_33)) br ++ (WS κ q pp L (σ 5 0) (σ 5 1) (σ 5 2)))) ++ RP κ L σ))) hW (va_free hW.2.1 hW.2.2 hA [0, 1, 2, 3, 4, 5, 6, 7] rfl) (va_runV (As := [.int (J ((1 + z_33) : Int))]) (rest := []) F ((m_X1_sing l κ x a a2 σ br (1 + z_33) (by omega) hI (by omega)) _) (cwV 1 hts gL_act_X1_sing rfl rfl rfl (by decide +kernel) ⟨(Nat.le_of_ble_eq_true rfl), (Nat.le_of_ble_eq_true rfl)⟩) (pre_V hK hW [0, 1, 2, 3, 4, 5, 6, 7] rfl (by decide) 1 0 rfl rfl) rfl rfl hl.1 rfl (lv_room (Nat.le_of_ble_eq_true rfl)) dL_act_519 ⟨(by first | exact Nat.le_of_ble_eq_true rfl | omega | (dsimp only [rm_L_act, rm_X1_sing]; omega)), (by first | exact Nat.le_of_ble_eq_true rfl | omega | (dsimp only [rm_L_act, rm_X1_sing]; omega))⟩) (fun u H1 locs1 g1 g2 g3 g4 => St.joinQ hW hA [0, 1, 2, 3, 4, 5, 6, 7] [8, 9] [2, 3, 4, 5, 6, 7, 8, 9, 0, 1] rfl rfl rfl (by decide) rfl rfl g1 g2 g3 g4) (by first | exact Nat.le_of_ble_eq_true rfl | omega | (dsimp only [rm_L_act, rm_X1_sing]; omega)) (by first | exact Nat.le_of_ble_eq_true rfl | omega | (dsimp only [rm_L_act, rm_X1_sing]; omega)) (fun r_37 u H locs hp_36 hW => ?_)
        subst hp_36
        refine lv_aload_n hx hb dL_act_522 rfl (lv_at hl 5 rfl) ?_
        refine lv_iload hx hb dL_act_523 (lv_at hl 0 rfl) ?_
        refine fina_i (k := 0) (n := 0) (W2 := (fun _ => ((WX κ x a a2 ++ (WC κ a (pbn σ (1 + z_33)) br ++ (WS κ q pp L (pbn σ (1 + z_33) 5 0) (pbn σ (1 + z_33) 5 1) (pbn σ (1 + z_33) 5 2)))) ++ RP κ L (pbn σ (1 + z_33))))) hW (va_freeP hW.2.1 hW.2.2 hA [8, 9] rfl) (va_runV (As := [.int (J ((1 + z_33) : Int))]) (rest := [.int (J (pbn σ (1 + z_33) 5 1 - σ 5 1))]) F ((m_X2_sing_ l κ q pp L σ  hLn hI (1 + z_33) (by omega) (by omega)) _) (cwV 1 hts gL_act_X2_sing_ rfl rfl rfl (by decide +kernel) ⟨(Nat.le_of_ble_eq_true rfl), (Nat.le_of_ble_eq_true rfl)⟩) (pre_VP hK hW [8, 9] rfl (by decide) 2 8 rfl rfl) rfl rfl hl.1 rfl (lv_room (Nat.le_of_ble_eq_true rfl)) dL_act_525 ⟨(by first | exact Nat.le_of_ble_eq_true rfl | omega | (dsimp only [rm_L_act, rm_X2_sing_]; omega)), (by first | exact Nat.le_of_ble_eq_true rfl | omega | (dsimp only [rm_L_act, rm_X2_sing_]; omega))⟩) (fun u H1 locs1 g1 g2 g3 g4 => St.joinP hW hA [8, 9] [0, 1, 2, 3, 4, 5, 6, 7] [0, 1, 2, 3, 4, 5, 6, 7, 8, 9] rfl rfl rfl (by decide) rfl rfl g1 g2 g3 g4) (by first | exact Nat.le_of_ble_eq_true rfl | omega | (dsimp only [rm_L_act, rm_X2_sing_]; omega)) (by first | exact Nat.le_of_ble_eq_true rfl | omega | (dsimp only [rm_L_act, rm_X2_sing_]; omega)) (fun r_39 u H locs hp_38 hW => ?_)
        subst hp_38
        refine jv_icmp_ne hx hb 535 dL_act_528 (by decide) ⟨by omega, by omega⟩ ⟨by omega, by omega⟩ (fun h_40 => by exfalso; omega) (fun h_40 => ?_)
        refine jv_iconst hx hb dL_act_531 ?_
        refine lv_goto (tgt := 536) hx hb dL_act_532 (by decide) ?_
        exact hret ((pbn σ (1 + z_33)), pp, L) hW dL_act_536 (by first | exact Nat.le_of_ble_eq_true rfl | omega | (dsimp only [rm_L_act]; omega)) (by first | exact Nat.le_of_ble_eq_true rfl | omega | (dsimp only [rm_L_act]; omega)) (by first | exact zr_01 (Or.inl rfl) | exact zr_01 (Or.inr rfl) | exact zr_b _ | exact zr_01 (by omega)) (⟨rfl, ag_pbn hG (by omega)⟩)
      · skip
        refine jv_bipush hx hb 60 dL_act_504 (by decide +kernel) ?_
        refine lv_goto (tgt := 510) hx hb dL_act_506 (by decide) ?_
        refine fina_i (k := 0) (n := 0) (W2 := (fun z_41 => ((WX κ x a a2 ++ (WC κ a σ br ++ (WS κ q pp L (σ 5 0) (σ 5 1) (σ 5 2)))) ++ RP κ L σ))) hW (va_free hW.2.1 hW.2.2 hA [] rfl) (va_runS (As := [.int (v >>> ((J 4) &&& 31)), .int (J 60)]) (rest := [.int (J 1)]) F ((m_L_below l κ (v >>> ((J 4) &&& 31)) 60 ⟨by omega, by omega⟩) _) (va_cwS 2 hts gL_act_L_below rfl rfl rfl (by decide +kernel) ⟨(Nat.le_of_ble_eq_true rfl), (Nat.le_of_ble_eq_true rfl)⟩) (pre_S hK hW [] rfl (by decide)) rfl rfl hl.1 rfl (lv_room (Nat.le_of_ble_eq_true rfl)) dL_act_510 ⟨(by first | exact Nat.le_of_ble_eq_true rfl | omega | (dsimp only [rm_L_act, rm_L_below]; omega)), (by first | exact Nat.le_of_ble_eq_true rfl | omega | (dsimp only [rm_L_act, rm_L_below]; omega))⟩) (fun u H1 locs1 g1 g2 g3 g4 => St.joinQ hW hA [] [0, 1, 2, 3, 4, 5, 6, 7, 8, 9] [0, 1, 2, 3, 4, 5, 6, 7, 8, 9] rfl rfl rfl (by decide) rfl rfl g1 g2 g3 g4) (by first | exact Nat.le_of_ble_eq_true rfl | omega | (dsimp only [rm_L_act, rm_L_below]; omega)) (by first | exact Nat.le_of_ble_eq_true rfl | omega | (dsimp only [rm_L_act, rm_L_below]; omega)) (fun r_43 z_41 H locs hp_42 hW => ?_)
        obtain ⟨rfl, hz_41⟩ := hp_42
        refine jv_iadd hx hb dL_act_513 ?_
        refine jv_eq (y := ((1 + z_41 : Nat) : Int)) (by omega) ?_
        refine lv_istore (lv' := [(6, .int (J ((1 + z_41) : Int))), (5, .ref (la L z_2)), (4, .int (J (z_2 : Int))), (3, .int (J (nn σ : Int))), (0, .ref x), (1, .ref q), (2, .int v)]) hx hb dL_act_514 hl (by decide) rfl (fun ls hl => ?_)
        have h51 := pbn_51 σ (1 + z_41)
        refine lv_aload_n hx hb dL_act_516 rfl (lv_at hl 4 rfl) ?_
        refine lv_iload hx hb dL_act_517 (lv_at hl 0 rfl) ?_
        refine fina_i (k := 0) (n := 0) (W2 := (fun _ => ((WX κ x a a2 ++ (WC κ a (pbn σ (1 + z_41)) br ++ (WS κ q pp L (σ 5 0) (σ 5 1) (σ 5 2)))) ++ RP κ L σ))) hW (va_free hW.2.1 hW.2.2 hA [0, 1, 2, 3, 4, 5, 6, 7] rfl) (va_runV (As := [.int (J ((1 + z_41) : Int))]) (rest := []) F ((m_X1_sing l κ x a a2 σ br (1 + z_41) (by omega) hI (by omega)) _) (cwV 1 hts gL_act_X1_sing rfl rfl rfl (by decide +kernel) ⟨(Nat.le_of_ble_eq_true rfl), (Nat.le_of_ble_eq_true rfl)⟩) (pre_V hK hW [0, 1, 2, 3, 4, 5, 6, 7] rfl (by decide) 1 0 rfl rfl) rfl rfl hl.1 rfl (lv_room (Nat.le_of_ble_eq_true rfl)) dL_act_519 ⟨(by first | exact Nat.le_of_ble_eq_true rfl | omega | (dsimp only [rm_L_act, rm_X1_sing]; omega)), (by first | exact Nat.le_of_ble_eq_true rfl | omega | (dsimp only [rm_L_act, rm_X1_sing]; omega))⟩) (fun u H1 locs1 g1 g2 g3 g4 => St.joinQ hW hA [0, 1, 2, 3, 4, 5, 6, 7] [8, 9] [2, 3, 4, 5, 6, 7, 8, 9, 0, 1] rfl rfl rfl (by decide) rfl rfl g1 g2 g3 g4) (by first | exact Nat.le_of_ble_eq_true rfl | omega | (dsimp only [rm_L_act, rm_X1_sing]; omega)) (by first | exact Nat.le_of_ble_eq_true rfl | omega | (dsimp only [rm_L_act, rm_X1_sing]; omega)) (fun r_45 u H locs hp_44 hW => ?_)
        subst hp_44
        refine lv_aload_n hx hb dL_act_522 rfl (lv_at hl 5 rfl) ?_
        refine lv_iload hx hb dL_act_523 (lv_at hl 0 rfl) ?_
        refine fina_i (k := 0) (n := 0) (W2 := (fun _ => ((WX κ x a a2 ++ (WC κ a (pbn σ (1 + z_41)) br ++ (WS κ q pp L (pbn σ (1 + z_41) 5 0) (pbn σ (1 + z_41) 5 1) (pbn σ (1 + z_41) 5 2)))) ++ RP κ L (pbn σ (1 + z_41))))) hW (va_freeP hW.2.1 hW.2.2 hA [8, 9] rfl) (va_runV (As := [.int (J ((1 + z_41) : Int))]) (rest := [.int (J (pbn σ (1 + z_41) 5 1 - σ 5 1))]) F ((m_X2_sing_ l κ q pp L σ  hLn hI (1 + z_41) (by omega) (by omega)) _) (cwV 1 hts gL_act_X2_sing_ rfl rfl rfl (by decide +kernel) ⟨(Nat.le_of_ble_eq_true rfl), (Nat.le_of_ble_eq_true rfl)⟩) (pre_VP hK hW [8, 9] rfl (by decide) 2 8 rfl rfl) rfl rfl hl.1 rfl (lv_room (Nat.le_of_ble_eq_true rfl)) dL_act_525 ⟨(by first | exact Nat.le_of_ble_eq_true rfl | omega | (dsimp only [rm_L_act, rm_X2_sing_]; omega)), (by first | exact Nat.le_of_ble_eq_true rfl | omega | (dsimp only [rm_L_act, rm_X2_sing_]; omega))⟩) (fun u H1 locs1 g1 g2 g3 g4 => St.joinP hW hA [8, 9] [0, 1, 2, 3, 4, 5, 6, 7] [0, 1, 2, 3, 4, 5, 6, 7, 8, 9] rfl rfl rfl (by decide) rfl rfl g1 g2 g3 g4) (by first | exact Nat.le_of_ble_eq_true rfl | omega | (dsimp only [rm_L_act, rm_X2_sing_]; omega)) (by first | exact Nat.le_of_ble_eq_true rfl | omega | (dsimp only [rm_L_act, rm_X2_sing_]; omega)) (fun r_47 u H locs hp_46 hW => ?_)
        subst hp_46
        refine jv_icmp_ne hx hb 535 dL_act_528 (by decide) ⟨by omega, by omega⟩ ⟨by omega, by omega⟩ (fun h_48 => by exfalso; omega) (fun h_48 => ?_)
        refine jv_iconst hx hb dL_act_531 ?_
        refine lv_goto (tgt := 536) hx hb dL_act_532 (by decide) ?_
        exact hret ((pbn σ (1 + z_41)), pp, L) hW dL_act_536 (by first | exact Nat.le_of_ble_eq_true rfl | omega | (dsimp only [rm_L_act]; omega)) (by first | exact Nat.le_of_ble_eq_true rfl | omega | (dsimp only [rm_L_act]; omega)) (by first | exact zr_01 (Or.inl rfl) | exact zr_01 (Or.inr rfl) | exact zr_b _ | exact zr_01 (by omega)) (⟨rfl, ag_pbn hG (by omega)⟩)
    rcases (show z_10 = 0 ∨ z_10 = 1 ∨ z_10 = 2 ∨ z_10 = 3 ∨ z_10 = 4 ∨ z_10 = 5 ∨ z_10 = 6 ∨ z_10 = 7 ∨ z_10 = 8 ∨ z_10 = 9 ∨ z_10 = 10 ∨ z_10 = 11 ∨ z_10 = 12 ∨ z_10 = 13 by omega) with h | h | h | h | h | h | h | h | h | h | h | h | h | h
    · subst h
      refine lv_tableOut (x := J ((0 : Nat) : Int)) (tgt := 489) hx hb dL_act_144 (by decide +kernel) (by decide) ?_
      exact j489 _ _ _ hW hl
    · subst h
      refine lv_tableIn (x := J ((1 : Nat) : Int)) (off := 52) (tgt := 196) hx hb dL_act_144 (by decide +kernel) (by decide +kernel) (by decide +kernel) (by decide) ?_
      exact j196 _ _ _ hW hl
    · subst h
      refine lv_tableIn (x := J ((2 : Nat) : Int)) (off := 52) (tgt := 196) hx hb dL_act_144 (by decide +kernel) (by decide +kernel) (by decide +kernel) (by decide) ?_
      exact j196 _ _ _ hW hl
    · subst h
      refine lv_tableIn (x := J ((3 : Nat) : Int)) (off := 52) (tgt := 196) hx hb dL_act_144 (by decide +kernel) (by decide +kernel) (by decide +kernel) (by decide) ?_
      exact j196 _ _ _ hW hl
    · subst h
      refine lv_tableIn (x := J ((4 : Nat) : Int)) (off := 119) (tgt := 263) hx hb dL_act_144 (by decide +kernel) (by decide +kernel) (by decide +kernel) (by decide) ?_
      exact j263 _ _ _ hW hl
    · subst h
      refine lv_tableIn (x := J ((5 : Nat) : Int)) (off := 119) (tgt := 263) hx hb dL_act_144 (by decide +kernel) (by decide +kernel) (by decide +kernel) (by decide) ?_
      exact j263 _ _ _ hW hl
    · subst h
      refine lv_tableIn (x := J ((6 : Nat) : Int)) (off := 157) (tgt := 301) hx hb dL_act_144 (by decide +kernel) (by decide +kernel) (by decide +kernel) (by decide) ?_
      refine lv_iload_n hx hb dL_act_301 rfl (lv_at hl 5 rfl) ?_
      refine jv_bipush hx hb 6 dL_act_302 (by decide +kernel) ?_
      refine lv_ishr hx hb dL_act_304 ?_
      refine lv_iload_n hx hb dL_act_305 rfl (lv_at hl 2 rfl) ?_
      refine fina_i (k := 0) (n := 0) (W2 := (fun z_49 => ((WX κ x a a2 ++ (WC κ a σ br ++ (WS κ q pp L (σ 5 0) (σ 5 1) (σ 5 2)))) ++ RP κ L σ))) hW (va_free hW.2.1 hW.2.2 hA [] rfl) (va_runS (As := [.int (v >>> ((J 6) &&& 31)), .int (J (nn σ : Int))]) (rest := []) F ((m_L_below l κ (v >>> ((J 6) &&& 31)) (nn σ) ⟨by omega, by omega⟩) _) (va_cwS 2 hts gL_act_L_below rfl rfl rfl (by decide +kernel) ⟨(Nat.le_of_ble_eq_true rfl), (Nat.le_of_ble_eq_true rfl)⟩) (pre_S hK hW [] rfl (by decide)) rfl rfl hl.1 rfl (lv_room (Nat.le_of_ble_eq_true rfl)) dL_act_306 ⟨(by first | exact Nat.le_of_ble_eq_true rfl | omega | (dsimp only [rm_L_act, rm_L_below]; omega)), (by first | exact Nat.le_of_ble_eq_true rfl | omega | (dsimp only [rm_L_act, rm_L_below]; omega))⟩) (fun u H1 locs1 g1 g2 g3 g4 => St.joinQ hW hA [] [0, 1, 2, 3, 4, 5, 6, 7, 8, 9] [0, 1, 2, 3, 4, 5, 6, 7, 8, 9] rfl rfl rfl (by decide) rfl rfl g1 g2 g3 g4) (by first | exact Nat.le_of_ble_eq_true rfl | omega | (dsimp only [rm_L_act, rm_L_below]; omega)) (by first | exact Nat.le_of_ble_eq_true rfl | omega | (dsimp only [rm_L_act, rm_L_below]; omega)) (fun r_51 z_49 H locs hp_50 hW => ?_)
      obtain ⟨rfl, hz_49⟩ := hp_50
      refine lv_istore (lv' := [(6, .int (J (z_49 : Int))), (5, .ref (la L z_2)), (4, .int (J (z_2 : Int))), (3, .int (J (nn σ : Int))), (0, .ref x), (1, .ref q), (2, .int v)]) hx hb dL_act_309 hl (by decide) rfl (fun ls hl => ?_)
      refine jv_iconst hx hb dL_act_311 ?_
      refine lv_iload_n hx hb dL_act_312 rfl (lv_at hl 6 rfl) ?_
      refine jv_iconst hx hb dL_act_313 ?_
      refine lv_ishr hx hb dL_act_314 ?_
      refine jv_bipush hx hb 20 dL_act_315 (by decide +kernel) ?_
      refine fina_i (k := 0) (n := 0) (W2 := (fun z_52 => ((WX κ x a a2 ++ (WC κ a σ br ++ (WS κ q pp L (σ 5 0) (σ 5 1) (σ 5 2)))) ++ RP κ L σ))) hW (va_free hW.2.1 hW.2.2 hA [] rfl) (va_runS (As := [.int (v >>> ((J 5) &&& 31)), .int (J 20)]) (rest := [.int (J 1)]) F ((m_L_below l κ (v >>> ((J 5) &&& 31)) 20 ⟨by omega, by omega⟩) _) (va_cwS 2 hts gL_act_L_below rfl rfl rfl (by decide +kernel) ⟨(Nat.le_of_ble_eq_true rfl), (Nat.le_of_ble_eq_true rfl)⟩) (pre_S hK hW [] rfl (by decide)) rfl rfl hl.1 rfl (lv_room (Nat.le_of_ble_eq_true rfl)) dL_act_317 ⟨(by first | exact Nat.le_of_ble_eq_true rfl | omega | (dsimp only [rm_L_act, rm_L_below]; omega)), (by first | exact Nat.le_of_ble_eq_true rfl | omega | (dsimp only [rm_L_act, rm_L_below]; omega))⟩) (fun u H1 locs1 g1 g2 g3 g4 => St.joinQ hW hA [] [0, 1, 2, 3, 4, 5, 6, 7, 8, 9] [0, 1, 2, 3, 4, 5, 6, 7, 8, 9] rfl rfl rfl (by decide) rfl rfl g1 g2 g3 g4) (by first | exact Nat.le_of_ble_eq_true rfl | omega | (dsimp only [rm_L_act, rm_L_below]; omega)) (by first | exact Nat.le_of_ble_eq_true rfl | omega | (dsimp only [rm_L_act, rm_L_below]; omega)) (fun r_54 z_52 H locs hp_53 hW => ?_)
      obtain ⟨rfl, hz_52⟩ := hp_53
      refine jv_iadd hx hb dL_act_320 ?_
      refine lv_istore (lv' := [(7, .int (J (1 + (z_52 : Int)))), (6, .int (J (z_49 : Int))), (5, .ref (la L z_2)), (4, .int (J (z_2 : Int))), (3, .int (J (nn σ : Int))), (0, .ref x), (1, .ref q), (2, .int v)]) hx hb dL_act_321 hl (by decide) rfl (fun ls hl => ?_)
      refine lv_iload hx hb dL_act_323 (lv_at hl 1 rfl) ?_
      refine lv_iload hx hb dL_act_325 (lv_at hl 3 rfl) ?_
      refine jv_icmp_ne hx hb 332 dL_act_327 (by decide) ⟨by omega, by omega⟩ ⟨by omega, by omega⟩ (fun h_55 => ?_) (fun h_55 => ?_)
      · skip
        refine jv_iconst hx hb dL_act_332 ?_
        refine lv_istore (lv' := [(8, .int (J 0)), (7, .int (J (1 + (z_52 : Int)))), (6, .int (J (z_49 : Int))), (5, .ref (la L z_2)), (4, .int (J (z_2 : Int))), (3, .int (J (nn σ : Int))), (0, .ref x), (1, .ref q), (2, .int v)]) hx hb dL_act_333 hl (by decide) rfl (fun ls hl => ?_)
        have hpt : z_2 ≠ z_49 := by omega
        have hbt := hI.at z_49 (by omega)
        suffices hlp : ∀ (n i : Nat), i ≤ 20 → 20 < i + n → ∀ (H : Heap) (locs : List Loc) (ls : Array Slot), ((i : Int) ≤ 1 + (z_52 : Int) ∧ (i : Int) ≤ σ 1 z_2 ∧ σ 1 z_49 + (i : Int) ≤ 20) → St κ A s.heap H locs ((WX κ x a a2 ++ (WC κ a σ br ++ (WS κ q pp L (σ 5 0) (σ 5 1) (σ 5 2)))) ++ RP κ L (up (up σ 1 z_2 (σ 1 z_2 - (i : Int))) 1 z_49 (σ 1 z_49 + (i : Int)))) → lv_has ls 9 [(8, .int (J (i : Int))), (7, .int (J (1 + (z_52 : Int)))), (6, .int (J (z_49 : Int))), (5, .ref (la L z_2)), (4, .int (J (z_2 : Int))), (3, .int (J (nn σ : Int))), (0, .ref x), (1, .ref q), (2, .int v)] → W P l e rm_L_act s m args below meth c H locs 0 0 Q (F0 m 335 ls []) from
          hlp (20 + 1) 0 (Nat.zero_le _) (by omega)  _ _ _ (by omega) (by rw [pour_0]; exact hW) hl
        intro n
        induction n with
        | zero => intro i h1 h2; exact absurd h2 (by omega)
        | succ n ih =>
          intro i hi hn  H locs ls q_a hW hl
          refine lv_iload hx hb dL_act_335 (lv_at hl 0 rfl) ?_
          refine lv_iload hx hb dL_act_337 (lv_at hl 1 rfl) ?_
          refine jv_icmp_ge hx hb 390 dL_act_339 (by decide) ⟨by omega, by omega⟩ ⟨by omega, by omega⟩ (fun h_56 => ?_) (fun h_56 => ?_)
          · skip
            have hpt2 : ptea σ z_2 z_49 (1 + (z_52 : Int)) = (i : Int) := by unfold ptea; omega
            refine lv_aload_n hx hb dL_act_390 rfl (lv_at hl 6 rfl) ?_
            refine lv_iload hx hb dL_act_391 (lv_at hl 4 rfl) ?_
            refine lv_iload hx hb dL_act_393 (lv_at hl 2 rfl) ?_
            refine lv_iload hx hb dL_act_395 (lv_at hl 1 rfl) ?_
            refine fina_i (k := 0) (n := 0) (W2 := (fun _ => ((WX κ x a a2 ++ (WC κ a (up (up σ 1 z_2 (σ 1 z_2 - (ptea σ z_2 z_49 (1 + (z_52 : Int))))) 1 z_49 (σ 1 z_49 + (ptea σ z_2 z_49 (1 + (z_52 : Int))))) br ++ (WS κ q pp L (σ 5 0) (σ 5 1) (σ 5 2)))) ++ RP κ L (up (up σ 1 z_2 (σ 1 z_2 - (i : Int))) 1 z_49 (σ 1 z_49 + (i : Int)))))) hW (va_free hW.2.1 hW.2.2 hA [0, 1, 2, 3, 4, 5, 6, 7] rfl) (va_runV (As := [.int (J (z_2 : Int)), .int (J (z_49 : Int)), .int (J (1 + (z_52 : Int)))]) (rest := []) F ((m_X1_pour l κ x a a2 σ br z_2 z_49 (1 + (z_52 : Int)) (by omega) (by omega) (by omega) (by omega) hI) _) (cwV 3 hts gL_act_X1_pour rfl rfl rfl (by decide +kernel) ⟨(Nat.le_of_ble_eq_true rfl), (Nat.le_of_ble_eq_true rfl)⟩) (pre_V hK hW [0, 1, 2, 3, 4, 5, 6, 7] rfl (by decide) 1 0 rfl rfl) rfl rfl hl.1 rfl (lv_room (Nat.le_of_ble_eq_true rfl)) dL_act_397 ⟨(by first | exact Nat.le_of_ble_eq_true rfl | omega | (dsimp only [rm_L_act, rm_X1_pour]; omega)), (by first | exact Nat.le_of_ble_eq_true rfl | omega | (dsimp only [rm_L_act, rm_X1_pour]; omega))⟩) (fun u H1 locs1 g1 g2 g3 g4 => St.joinQ hW hA [0, 1, 2, 3, 4, 5, 6, 7] [8, 9] [2, 3, 4, 5, 6, 7, 8, 9, 0, 1] rfl rfl rfl (by decide) rfl rfl g1 g2 g3 g4) (by first | exact Nat.le_of_ble_eq_true rfl | omega | (dsimp only [rm_L_act, rm_X1_pour]; omega)) (by first | exact Nat.le_of_ble_eq_true rfl | omega | (dsimp only [rm_L_act, rm_X1_pour]; omega)) (fun r_58 u H locs hp_57 hW => ?_)
            subst hp_57
            refine lv_iload hx hb dL_act_400 (lv_at hl 0 rfl) ?_
            refine jv_icmp_ne hx hb 409 dL_act_402 (by decide) ⟨by omega, by omega⟩ ⟨by omega, by omega⟩ (fun h_59 => by exfalso; omega) (fun h_59 => ?_)
            refine jv_iconst hx hb dL_act_405 ?_
            refine lv_goto (tgt := 410) hx hb dL_act_406 (by decide) ?_
            exact hret ((up (up σ 1 z_2 (σ 1 z_2 - (i : Int))) 1 z_49 (σ 1 z_49 + (i : Int))), pp, L) (by rw [hpt2] at hW; exact hW) dL_act_410 (by first | exact Nat.le_of_ble_eq_true rfl | omega | (dsimp only [rm_L_act]; omega)) (by first | exact Nat.le_of_ble_eq_true rfl | omega | (dsimp only [rm_L_act]; omega)) (by first | exact zr_01 (Or.inl rfl) | exact zr_01 (Or.inr rfl) | exact zr_b _ | exact zr_01 (by omega)) (⟨rfl, ag_pour hG (by omega) (by omega) (by omega) (by omega) (by omega)⟩)
          · skip
            refine lv_aload hx hb dL_act_342 (lv_at hl 3 rfl) ?_
            refine jv_iconst hx hb dL_act_344 ?_
            refine jv_rld hx hb hK hW (i := z_2) (by omega) 2 rfl (by decide) dL_act_345 ?_
            refine jv_eq (y := (σ 1 z_2 - (i : Int))) (show (upi (upi (σ 1) z_2 (σ 1 z_2 - (i : Int))) z_49 (σ 1 z_49 + (i : Int))) z_2 = σ 1 z_2 - (i : Int) from (upi_n _ _ (by omega)).trans (upi_s _ _ _)) ?_
            refine jv_if_le hx hb 390 dL_act_346 (by decide) ⟨by omega, by omega⟩ (fun h_60 => ?_) (fun h_60 => ?_)
            · skip
              have hpt2 : ptea σ z_2 z_49 (1 + (z_52 : Int)) = (i : Int) := by unfold ptea; omega
              refine lv_aload_n hx hb dL_act_390 rfl (lv_at hl 6 rfl) ?_
              refine lv_iload hx hb dL_act_391 (lv_at hl 4 rfl) ?_
              refine lv_iload hx hb dL_act_393 (lv_at hl 2 rfl) ?_
              refine lv_iload hx hb dL_act_395 (lv_at hl 1 rfl) ?_
              refine fina_i (k := 0) (n := 0) (W2 := (fun _ => ((WX κ x a a2 ++ (WC κ a (up (up σ 1 z_2 (σ 1 z_2 - (ptea σ z_2 z_49 (1 + (z_52 : Int))))) 1 z_49 (σ 1 z_49 + (ptea σ z_2 z_49 (1 + (z_52 : Int))))) br ++ (WS κ q pp L (σ 5 0) (σ 5 1) (σ 5 2)))) ++ RP κ L (up (up σ 1 z_2 (σ 1 z_2 - (i : Int))) 1 z_49 (σ 1 z_49 + (i : Int)))))) hW (va_free hW.2.1 hW.2.2 hA [0, 1, 2, 3, 4, 5, 6, 7] rfl) (va_runV (As := [.int (J (z_2 : Int)), .int (J (z_49 : Int)), .int (J (1 + (z_52 : Int)))]) (rest := []) F ((m_X1_pour l κ x a a2 σ br z_2 z_49 (1 + (z_52 : Int)) (by omega) (by omega) (by omega) (by omega) hI) _) (cwV 3 hts gL_act_X1_pour rfl rfl rfl (by decide +kernel) ⟨(Nat.le_of_ble_eq_true rfl), (Nat.le_of_ble_eq_true rfl)⟩) (pre_V hK hW [0, 1, 2, 3, 4, 5, 6, 7] rfl (by decide) 1 0 rfl rfl) rfl rfl hl.1 rfl (lv_room (Nat.le_of_ble_eq_true rfl)) dL_act_397 ⟨(by first | exact Nat.le_of_ble_eq_true rfl | omega | (dsimp only [rm_L_act, rm_X1_pour]; omega)), (by first | exact Nat.le_of_ble_eq_true rfl | omega | (dsimp only [rm_L_act, rm_X1_pour]; omega))⟩) (fun u H1 locs1 g1 g2 g3 g4 => St.joinQ hW hA [0, 1, 2, 3, 4, 5, 6, 7] [8, 9] [2, 3, 4, 5, 6, 7, 8, 9, 0, 1] rfl rfl rfl (by decide) rfl rfl g1 g2 g3 g4) (by first | exact Nat.le_of_ble_eq_true rfl | omega | (dsimp only [rm_L_act, rm_X1_pour]; omega)) (by first | exact Nat.le_of_ble_eq_true rfl | omega | (dsimp only [rm_L_act, rm_X1_pour]; omega)) (fun r_62 u H locs hp_61 hW => ?_)
              subst hp_61
              refine lv_iload hx hb dL_act_400 (lv_at hl 0 rfl) ?_
              refine jv_icmp_ne hx hb 409 dL_act_402 (by decide) ⟨by omega, by omega⟩ ⟨by omega, by omega⟩ (fun h_63 => by exfalso; omega) (fun h_63 => ?_)
              refine jv_iconst hx hb dL_act_405 ?_
              refine lv_goto (tgt := 410) hx hb dL_act_406 (by decide) ?_
              exact hret ((up (up σ 1 z_2 (σ 1 z_2 - (i : Int))) 1 z_49 (σ 1 z_49 + (i : Int))), pp, L) (by rw [hpt2] at hW; exact hW) dL_act_410 (by first | exact Nat.le_of_ble_eq_true rfl | omega | (dsimp only [rm_L_act]; omega)) (by first | exact Nat.le_of_ble_eq_true rfl | omega | (dsimp only [rm_L_act]; omega)) (by first | exact zr_01 (Or.inl rfl) | exact zr_01 (Or.inr rfl) | exact zr_b _ | exact zr_01 (by omega)) (⟨rfl, ag_pour hG (by omega) (by omega) (by omega) (by omega) (by omega)⟩)
            · skip
              refine lv_aload_n hx hb dL_act_349 rfl (lv_at hl 7 rfl) ?_
              refine jv_get (T := TX2) (N := 4) (v := .ref pp) hx hb hts hn2 hown hK hW 8 rfl rfl 3 (by decide) (List.mem_of_getElem? (i := 1) rfl) rfl dL_act_350 ?_
              refine lv_iload hx hb dL_act_353 (lv_at hl 2 rfl) ?_
              refine jv_qld hx hb (hK.2.2.2.1) hW 9 rfl z_49 (la L z_49) rfl (by omega) (by omega) (la_get (by omega)) dL_act_355 ?_
              refine jv_iconst hx hb dL_act_356 ?_
              refine jv_rld hx hb hK hW (i := z_49) (by omega) 2 rfl (by decide) dL_act_357 ?_
              refine jv_eq (y := (σ 1 z_49 + (i : Int))) (show (upi (upi (σ 1) z_2 (σ 1 z_2 - (i : Int))) z_49 (σ 1 z_49 + (i : Int))) z_49 = σ 1 z_49 + (i : Int) from upi_s _ _ _) ?_
              refine jv_bipush hx hb 20 dL_act_358 (by decide +kernel) ?_
              refine jv_icmp_ge hx hb 390 dL_act_360 (by decide) ⟨by omega, by omega⟩ ⟨by omega, by omega⟩ (fun h_64 => ?_) (fun h_64 => ?_)
              · skip
                have hpt2 : ptea σ z_2 z_49 (1 + (z_52 : Int)) = (i : Int) := by unfold ptea; omega
                refine lv_aload_n hx hb dL_act_390 rfl (lv_at hl 6 rfl) ?_
                refine lv_iload hx hb dL_act_391 (lv_at hl 4 rfl) ?_
                refine lv_iload hx hb dL_act_393 (lv_at hl 2 rfl) ?_
                refine lv_iload hx hb dL_act_395 (lv_at hl 1 rfl) ?_
                refine fina_i (k := 0) (n := 0) (W2 := (fun _ => ((WX κ x a a2 ++ (WC κ a (up (up σ 1 z_2 (σ 1 z_2 - (ptea σ z_2 z_49 (1 + (z_52 : Int))))) 1 z_49 (σ 1 z_49 + (ptea σ z_2 z_49 (1 + (z_52 : Int))))) br ++ (WS κ q pp L (σ 5 0) (σ 5 1) (σ 5 2)))) ++ RP κ L (up (up σ 1 z_2 (σ 1 z_2 - (i : Int))) 1 z_49 (σ 1 z_49 + (i : Int)))))) hW (va_free hW.2.1 hW.2.2 hA [0, 1, 2, 3, 4, 5, 6, 7] rfl) (va_runV (As := [.int (J (z_2 : Int)), .int (J (z_49 : Int)), .int (J (1 + (z_52 : Int)))]) (rest := []) F ((m_X1_pour l κ x a a2 σ br z_2 z_49 (1 + (z_52 : Int)) (by omega) (by omega) (by omega) (by omega) hI) _) (cwV 3 hts gL_act_X1_pour rfl rfl rfl (by decide +kernel) ⟨(Nat.le_of_ble_eq_true rfl), (Nat.le_of_ble_eq_true rfl)⟩) (pre_V hK hW [0, 1, 2, 3, 4, 5, 6, 7] rfl (by decide) 1 0 rfl rfl) rfl rfl hl.1 rfl (lv_room (Nat.le_of_ble_eq_true rfl)) dL_act_397 ⟨(by first | exact Nat.le_of_ble_eq_true rfl | omega | (dsimp only [rm_L_act, rm_X1_pour]; omega)), (by first | exact Nat.le_of_ble_eq_true rfl | omega | (dsimp only [rm_L_act, rm_X1_pour]; omega))⟩) (fun u H1 locs1 g1 g2 g3 g4 => St.joinQ hW hA [0, 1, 2, 3, 4, 5, 6, 7] [8, 9] [2, 3, 4, 5, 6, 7, 8, 9, 0, 1] rfl rfl rfl (by decide) rfl rfl g1 g2 g3 g4) (by first | exact Nat.le_of_ble_eq_true rfl | omega | (dsimp only [rm_L_act, rm_X1_pour]; omega)) (by first | exact Nat.le_of_ble_eq_true rfl | omega | (dsimp only [rm_L_act, rm_X1_pour]; omega)) (fun r_66 u H locs hp_65 hW => ?_)
                subst hp_65
                refine lv_iload hx hb dL_act_400 (lv_at hl 0 rfl) ?_
                refine jv_icmp_ne hx hb 409 dL_act_402 (by decide) ⟨by omega, by omega⟩ ⟨by omega, by omega⟩ (fun h_67 => by exfalso; omega) (fun h_67 => ?_)
                refine jv_iconst hx hb dL_act_405 ?_
                refine lv_goto (tgt := 410) hx hb dL_act_406 (by decide) ?_
                exact hret ((up (up σ 1 z_2 (σ 1 z_2 - (i : Int))) 1 z_49 (σ 1 z_49 + (i : Int))), pp, L) (by rw [hpt2] at hW; exact hW) dL_act_410 (by first | exact Nat.le_of_ble_eq_true rfl | omega | (dsimp only [rm_L_act]; omega)) (by first | exact Nat.le_of_ble_eq_true rfl | omega | (dsimp only [rm_L_act]; omega)) (by first | exact zr_01 (Or.inl rfl) | exact zr_01 (Or.inr rfl) | exact zr_b _ | exact zr_01 (by omega)) (⟨rfl, ag_pour hG (by omega) (by omega) (by omega) (by omega) (by omega)⟩)
              · skip
                refine lv_aload hx hb dL_act_363 (lv_at hl 3 rfl) ?_
                refine jv_iconst hx hb dL_act_365 ?_
                refine lv_dup2_11 hx hb dL_act_366 rfl rfl ?_
                refine jv_rld hx hb hK hW (i := z_2) (by omega) 2 rfl (by decide) dL_act_367 ?_
                refine jv_eq (y := (σ 1 z_2 - (i : Int))) (show (upi (upi (σ 1) z_2 (σ 1 z_2 - (i : Int))) z_49 (σ 1 z_49 + (i : Int))) z_2 = σ 1 z_2 - (i : Int) from (upi_n _ _ (by omega)).trans (upi_s _ _ _)) ?_
                refine jv_iconst hx hb dL_act_368 ?_
                refine jv_isub hx hb dL_act_369 ?_
                refine jv_rst hx hb hK hW (i := z_2) (by omega) 2 rfl (by decide) dL_act_370 (fun H locs hW => ?_)
                have hW : St κ A s.heap H locs ((WX κ x a a2 ++ (WC κ a σ br ++ (WS κ q pp L (σ 5 0) (σ 5 1) (σ 5 2)))) ++ RP κ L (up (up (up σ 1 z_2 (σ 1 z_2 - (i : Int))) 1 z_49 (σ 1 z_49 + (i : Int))) 1 z_2 ((σ 1 z_2 - (i : Int)) - 1))) := hW
                refine lv_aload_n hx hb dL_act_371 rfl (lv_at hl 7 rfl) ?_
                refine jv_get (T := TX2) (N := 4) (v := .ref pp) hx hb hts hn2 hown hK hW 8 rfl rfl 3 (by decide) (List.mem_of_getElem? (i := 1) rfl) rfl dL_act_372 ?_
                refine lv_iload hx hb dL_act_375 (lv_at hl 2 rfl) ?_
                refine jv_qld hx hb (hK.2.2.2.1) hW 9 rfl z_49 (la L z_49) rfl (by omega) (by omega) (la_get (by omega)) dL_act_377 ?_
                refine jv_iconst hx hb dL_act_378 ?_
                refine lv_dup2_11 hx hb dL_act_379 rfl rfl ?_
                refine jv_rld hx hb hK hW (i := z_49) (by omega) 2 rfl (by decide) dL_act_380 ?_
                refine jv_eq (y := (σ 1 z_49 + (i : Int))) (show (upi (upi (upi (σ 1) z_2 (σ 1 z_2 - (i : Int))) z_49 (σ 1 z_49 + (i : Int))) z_2 ((σ 1 z_2 - (i : Int)) - 1)) z_49 = σ 1 z_49 + (i : Int) from (upi_n _ _ (by omega)).trans (upi_s _ _ _)) ?_
                refine jv_iconst hx hb dL_act_381 ?_
                refine jv_iadd hx hb dL_act_382 ?_
                refine jv_rst hx hb hK hW (i := z_49) (by omega) 2 rfl (by decide) dL_act_383 (fun H locs hW => ?_)
                have hW : St κ A s.heap H locs ((WX κ x a a2 ++ (WC κ a σ br ++ (WS κ q pp L (σ 5 0) (σ 5 1) (σ 5 2)))) ++ RP κ L (up (up (up (up σ 1 z_2 (σ 1 z_2 - (i : Int))) 1 z_49 (σ 1 z_49 + (i : Int))) 1 z_2 ((σ 1 z_2 - (i : Int)) - 1)) 1 z_49 ((σ 1 z_49 + (i : Int)) + 1))) := hW
                refine jv_iinc (k := 0) (z := (i : Int)) (lv' := [(8, .int (J ((i : Int) + 1))), (7, .int (J (1 + (z_52 : Int)))), (6, .int (J (z_49 : Int))), (5, .ref (la L z_2)), (4, .int (J (z_2 : Int))), (3, .int (J (nn σ : Int))), (0, .ref x), (1, .ref q), (2, .int v)]) hx hb dL_act_384 hl rfl (by decide) rfl (fun ls hl => ?_)
                refine lv_goto (tgt := 335) hx hb dL_act_387 (by decide) ?_
                exact ih (i + 1) (by omega) (by omega)  _ _ _ (by omega) (by rw [pour_st σ hpt] at hW; rw [show σ 1 z_2 - ((i + 1 : Nat) : Int) = σ 1 z_2 - (i : Int) - 1 by omega, show σ 1 z_49 + ((i + 1 : Nat) : Int) = σ 1 z_49 + (i : Int) + 1 by omega]; exact hW) hl
      · skip
        refine jv_iconst hx hb dL_act_330 ?_
        exact hret (σ, pp, L) hW dL_act_331 (by first | exact Nat.le_of_ble_eq_true rfl | omega | (dsimp only [rm_L_act]; omega)) (by first | exact Nat.le_of_ble_eq_true rfl | omega | (dsimp only [rm_L_act]; omega)) (by first | exact zr_01 (Or.inl rfl) | exact zr_01 (Or.inr rfl) | exact zr_b _ | exact zr_01 (by omega)) (⟨rfl, ag_rf hG⟩)
    · subst h
      refine lv_tableIn (x := J ((7 : Nat) : Int)) (off := 267) (tgt := 411) hx hb dL_act_144 (by decide +kernel) (by decide +kernel) (by decide +kernel) (by decide) ?_
      exact j411 _ _ _ hW hl
    · subst h
      refine lv_tableIn (x := J ((8 : Nat) : Int)) (off := 267) (tgt := 411) hx hb dL_act_144 (by decide +kernel) (by decide +kernel) (by decide +kernel) (by decide) ?_
      exact j411 _ _ _ hW hl
    · subst h
      refine lv_tableIn (x := J ((9 : Nat) : Int)) (off := 299) (tgt := 443) hx hb dL_act_144 (by decide +kernel) (by decide +kernel) (by decide +kernel) (by decide) ?_
      refine lv_iload_n hx hb dL_act_443 rfl (lv_at hl 5 rfl) ?_
      refine jv_bipush hx hb 7 dL_act_444 (by decide +kernel) ?_
      refine lv_ishr hx hb dL_act_446 ?_
      refine jv_iconst hx hb dL_act_447 ?_
      refine fina_i (k := 0) (n := 0) (W2 := (fun z_68 => ((WX κ x a a2 ++ (WC κ a σ br ++ (WS κ q pp L (σ 5 0) (σ 5 1) (σ 5 2)))) ++ RP κ L σ))) hW (va_free hW.2.1 hW.2.2 hA [] rfl) (va_runS (As := [.int (v >>> ((J 7) &&& 31)), .int (J 3)]) (rest := []) F ((m_L_below l κ (v >>> ((J 7) &&& 31)) 3 ⟨by omega, by omega⟩) _) (va_cwS 2 hts gL_act_L_below rfl rfl rfl (by decide +kernel) ⟨(Nat.le_of_ble_eq_true rfl), (Nat.le_of_ble_eq_true rfl)⟩) (pre_S hK hW [] rfl (by decide)) rfl rfl hl.1 rfl (lv_room (Nat.le_of_ble_eq_true rfl)) dL_act_448 ⟨(by first | exact Nat.le_of_ble_eq_true rfl | omega | (dsimp only [rm_L_act, rm_L_below]; omega)), (by first | exact Nat.le_of_ble_eq_true rfl | omega | (dsimp only [rm_L_act, rm_L_below]; omega))⟩) (fun u H1 locs1 g1 g2 g3 g4 => St.joinQ hW hA [] [0, 1, 2, 3, 4, 5, 6, 7, 8, 9] [0, 1, 2, 3, 4, 5, 6, 7, 8, 9] rfl rfl rfl (by decide) rfl rfl g1 g2 g3 g4) (by first | exact Nat.le_of_ble_eq_true rfl | omega | (dsimp only [rm_L_act, rm_L_below]; omega)) (by first | exact Nat.le_of_ble_eq_true rfl | omega | (dsimp only [rm_L_act, rm_L_below]; omega)) (fun r_70 z_68 H locs hp_69 hW => ?_)
      obtain ⟨rfl, hz_68⟩ := hp_69
      refine jv_if_le hx hb 456 dL_act_451 (by decide) ⟨by omega, by omega⟩ (fun h_71 => ?_) (fun h_71 => ?_)
      · skip
        refine lv_aload hx hb dL_act_456 (lv_at hl 0 rfl) ?_
        refine jv_iconst hx hb dL_act_458 ?_
        refine jv_rld hx hb hK hW (i := z_2) (by omega) 3 rfl (by decide) dL_act_459 ?_
        refine jv_eq (y := (σ 2 z_2)) rfl ?_
        refine lv_istore (lv' := [(6, .int (J (σ 2 z_2))), (5, .ref (la L z_2)), (4, .int (J (z_2 : Int))), (3, .int (J (nn σ : Int))), (0, .ref x), (1, .ref q), (2, .int v)]) hx hb dL_act_460 hl (by decide) rfl (fun ls hl => ?_)
        refine lv_aload hx hb dL_act_462 (lv_at hl 1 rfl) ?_
        refine jv_iconst hx hb dL_act_464 ?_
        refine jv_iconst hx hb dL_act_465 ?_
        refine jv_rst hx hb hK hW (i := z_2) (by omega) 3 rfl (by decide) dL_act_466 (fun H locs hW => ?_)
        have hW : St κ A s.heap H locs ((WX κ x a a2 ++ (WC κ a σ br ++ (WS κ q pp L (σ 5 0) (σ 5 1) (σ 5 2)))) ++ RP κ L (up σ 2 z_2 0)) := hW
        refine lv_aload hx hb dL_act_467 (lv_at hl 1 rfl) ?_
        refine jv_iconst hx hb dL_act_469 ?_
        refine jv_iconst hx hb dL_act_470 ?_
        refine jv_rst hx hb hK hW (i := z_2) (by omega) 2 rfl (by decide) dL_act_471 (fun H locs hW => ?_)
        have hW : St κ A s.heap H locs ((WX κ x a a2 ++ (WC κ a σ br ++ (WS κ q pp L (σ 5 0) (σ 5 1) (σ 5 2)))) ++ RP κ L (up (up σ 2 z_2 0) 1 z_2 0)) := hW
        refine lv_aload_n hx hb dL_act_472 rfl (lv_at hl 4 rfl) ?_
        refine lv_iload hx hb dL_act_473 (lv_at hl 2 rfl) ?_
        refine fina_i (k := 0) (n := 0) (W2 := (fun _ => ((WX κ x a a2 ++ (WC κ a (up (up σ 2 z_2 0) 1 z_2 0) br ++ (WS κ q pp L (σ 5 0) (σ 5 1) (σ 5 2)))) ++ RP κ L (up (up σ 2 z_2 0) 1 z_2 0)))) hW (va_free hW.2.1 hW.2.2 hA [0, 1, 2, 3, 4, 5, 6, 7] rfl) (va_runV (As := [.int (J (z_2 : Int))]) (rest := []) F ((m_X1_mend l κ x a a2 σ br z_2 (by omega) hI) _) (cwV 1 hts gL_act_X1_mend rfl rfl rfl (by decide +kernel) ⟨(Nat.le_of_ble_eq_true rfl), (Nat.le_of_ble_eq_true rfl)⟩) (pre_V hK hW [0, 1, 2, 3, 4, 5, 6, 7] rfl (by decide) 1 0 rfl rfl) rfl rfl hl.1 rfl (lv_room (Nat.le_of_ble_eq_true rfl)) dL_act_475 ⟨(by first | exact Nat.le_of_ble_eq_true rfl | omega | (dsimp only [rm_L_act, rm_X1_mend]; omega)), (by first | exact Nat.le_of_ble_eq_true rfl | omega | (dsimp only [rm_L_act, rm_X1_mend]; omega))⟩) (fun u H1 locs1 g1 g2 g3 g4 => St.joinQ hW hA [0, 1, 2, 3, 4, 5, 6, 7] [8, 9] [2, 3, 4, 5, 6, 7, 8, 9, 0, 1] rfl rfl rfl (by decide) rfl rfl g1 g2 g3 g4) (by first | exact Nat.le_of_ble_eq_true rfl | omega | (dsimp only [rm_L_act, rm_X1_mend]; omega)) (by first | exact Nat.le_of_ble_eq_true rfl | omega | (dsimp only [rm_L_act, rm_X1_mend]; omega)) (fun r_73 u H locs hp_72 hW => ?_)
        subst hp_72
        refine lv_iload hx hb dL_act_478 (lv_at hl 0 rfl) ?_
        refine jv_icmp_ne hx hb 487 dL_act_480 (by decide) ⟨by omega, by omega⟩ ⟨by omega, by omega⟩ (fun h_74 => by exfalso; omega) (fun h_74 => ?_)
        refine jv_iconst hx hb dL_act_483 ?_
        refine lv_goto (tgt := 488) hx hb dL_act_484 (by decide) ?_
        exact hret ((up (up σ 2 z_2 0) 1 z_2 0), pp, L) hW dL_act_488 (by first | exact Nat.le_of_ble_eq_true rfl | omega | (dsimp only [rm_L_act]; omega)) (by first | exact Nat.le_of_ble_eq_true rfl | omega | (dsimp only [rm_L_act]; omega)) (by first | exact zr_01 (Or.inl rfl) | exact zr_01 (Or.inr rfl) | exact zr_b _ | exact zr_01 (by omega)) (⟨rfl, ag_up2 hG (by decide) (by decide) (by omega) (by omega) (hI.u2 (by omega)) ((hI.u2 (by omega)).u1 (by omega))⟩)
      · skip
        refine jv_iconst hx hb dL_act_454 ?_
        exact hret (σ, pp, L) hW dL_act_455 (by first | exact Nat.le_of_ble_eq_true rfl | omega | (dsimp only [rm_L_act]; omega)) (by first | exact Nat.le_of_ble_eq_true rfl | omega | (dsimp only [rm_L_act]; omega)) (by first | exact zr_01 (Or.inl rfl) | exact zr_01 (Or.inr rfl) | exact zr_b _ | exact zr_01 (by omega)) (⟨rfl, ag_rf hG⟩)
    · subst h
      refine lv_tableOut (x := J ((10 : Nat) : Int)) (tgt := 489) hx hb dL_act_144 (by decide +kernel) (by decide) ?_
      exact j489 _ _ _ hW hl
    · subst h
      refine lv_tableOut (x := J ((11 : Nat) : Int)) (tgt := 489) hx hb dL_act_144 (by decide +kernel) (by decide) ?_
      exact j489 _ _ _ hW hl
    · subst h
      refine lv_tableOut (x := J ((12 : Nat) : Int)) (tgt := 489) hx hb dL_act_144 (by decide +kernel) (by decide) ?_
      exact j489 _ _ _ hW hl
    · subst h
      refine lv_tableOut (x := J ((13 : Nat) : Int)) (tgt := 489) hx hb dL_act_144 (by decide +kernel) (by decide) ?_
      exact j489 _ _ _ hW hl
  · skip
    refine jv_iconst hx hb dL_act_36 ?_
    refine jv_newi (κ := κ) hx hb hts (List.mem_of_getElem? (i := 2) rfl) hK hW hA 5 (by omega) 1 5 (by first | exact Nat.le_of_ble_eq_true rfl | omega | (dsimp only [rm_L_act]; omega)) (by first | exact Nat.le_of_ble_eq_true rfl | omega | (dsimp only [rm_L_act]; omega)) (by first | exact Nat.le_of_ble_eq_true rfl | omega | (dsimp only [rm_L_act]; omega)) (by first | exact Nat.le_of_ble_eq_true rfl | omega | (dsimp only [rm_L_act]; omega)) dL_act_37 (fun q_75 H hW => ?_)
    have hW := hW.swap
    have hW : St κ A s.heap H _ ((WX κ x a a2 ++ (WC κ a σ br ++ (WS κ q pp L (σ 5 0) (σ 5 1) (σ 5 2) ++ (WA κ q_75 5 (fun _ => 0))))) ++ RP κ L σ) := hW
    refine lv_dup hx hb dL_act_39 rfl ?_
    refine jv_iconst hx hb dL_act_40 ?_
    refine lv_iload_n hx hb dL_act_41 rfl (lv_at hl 4 rfl) ?_
    refine jv_iconst hx hb dL_act_42 ?_
    refine lv_ishr hx hb dL_act_43 ?_
    refine jv_iconst hx hb dL_act_44 ?_
    refine fina_i (k := 1) (n := 5) (W2 := (fun z_76 => ((WX κ x a a2 ++ (WC κ a σ br ++ (WS κ q pp L (σ 5 0) (σ 5 1) (σ 5 2) ++ (WA κ q_75 5 (fun _ => 0))))) ++ RP κ L σ))) hW (va_free hW.2.1 hW.2.2 hA [] rfl) (va_runS (As := [.int (v >>> ((J 4) &&& 31)), .int (J 4)]) (rest := [.int (J 0), .ref q_75, .ref q_75]) F ((m_L_below l κ (v >>> ((J 4) &&& 31)) 4 ⟨by omega, by omega⟩) _) (va_cwS 2 hts gL_act_L_below rfl rfl rfl (by decide +kernel) ⟨(Nat.le_of_ble_eq_true rfl), (Nat.le_of_ble_eq_true rfl)⟩) (pre_S hK hW [] rfl (by decide)) rfl rfl hl.1 rfl (lv_room (Nat.le_of_ble_eq_true rfl)) dL_act_45 ⟨(by first | exact Nat.le_of_ble_eq_true rfl | omega | (dsimp only [rm_L_act, rm_L_below]; omega)), (by first | exact Nat.le_of_ble_eq_true rfl | omega | (dsimp only [rm_L_act, rm_L_below]; omega))⟩) (fun u H1 locs1 g1 g2 g3 g4 => St.joinQ hW hA [] [0, 1, 2, 3, 4, 5, 6, 7, 8, 9, 10] [0, 1, 2, 3, 4, 5, 6, 7, 8, 9, 10] rfl rfl rfl (by decide) rfl rfl g1 g2 g3 g4) (by first | exact Nat.le_of_ble_eq_true rfl | omega | (dsimp only [rm_L_act, rm_L_below]; omega)) (by first | exact Nat.le_of_ble_eq_true rfl | omega | (dsimp only [rm_L_act, rm_L_below]; omega)) (fun r_78 z_76 H locs hp_77 hW => ?_)
    obtain ⟨rfl, hz_76⟩ := hp_77
    refine jv_iast (g := (fun _ => 0)) (ws' := ((WX κ x a a2 ++ (WC κ a σ br ++ (WS κ q pp L (σ 5 0) (σ 5 1) (σ 5 2) ++ (WA κ q_75 5 (upi (fun _ => 0) 0 (z_76 : Int)))))) ++ RP κ L σ)) hx hb hK hW 10 rfl 0 rfl (by omega) (by decide) rfl dL_act_48 (fun H locs hW => ?_)
    refine lv_dup hx hb dL_act_49 rfl ?_
    refine jv_iconst hx hb dL_act_50 ?_
    refine lv_iload_n hx hb dL_act_51 rfl (lv_at hl 4 rfl) ?_
    refine jv_iconst hx hb dL_act_52 ?_
    refine lv_ishr hx hb dL_act_53 ?_
    refine jv_bipush hx hb 36 dL_act_54 (by decide +kernel) ?_
    refine fina_i (k := 1) (n := 5) (W2 := (fun z_79 => ((WX κ x a a2 ++ (WC κ a σ br ++ (WS κ q pp L (σ 5 0) (σ 5 1) (σ 5 2) ++ (WA κ q_75 5 (upi (fun _ => 0) 0 (z_76 : Int)))))) ++ RP κ L σ))) hW (va_free hW.2.1 hW.2.2 hA [] rfl) (va_runS (As := [.int (v >>> ((J 5) &&& 31)), .int (J 36)]) (rest := [.int (J 1), .ref q_75, .ref q_75]) F ((m_L_below l κ (v >>> ((J 5) &&& 31)) 36 ⟨by omega, by omega⟩) _) (va_cwS 2 hts gL_act_L_below rfl rfl rfl (by decide +kernel) ⟨(Nat.le_of_ble_eq_true rfl), (Nat.le_of_ble_eq_true rfl)⟩) (pre_S hK hW [] rfl (by decide)) rfl rfl hl.1 rfl (lv_room (Nat.le_of_ble_eq_true rfl)) dL_act_56 ⟨(by first | exact Nat.le_of_ble_eq_true rfl | omega | (dsimp only [rm_L_act, rm_L_below]; omega)), (by first | exact Nat.le_of_ble_eq_true rfl | omega | (dsimp only [rm_L_act, rm_L_below]; omega))⟩) (fun u H1 locs1 g1 g2 g3 g4 => St.joinQ hW hA [] [0, 1, 2, 3, 4, 5, 6, 7, 8, 9, 10] [0, 1, 2, 3, 4, 5, 6, 7, 8, 9, 10] rfl rfl rfl (by decide) rfl rfl g1 g2 g3 g4) (by first | exact Nat.le_of_ble_eq_true rfl | omega | (dsimp only [rm_L_act, rm_L_below]; omega)) (by first | exact Nat.le_of_ble_eq_true rfl | omega | (dsimp only [rm_L_act, rm_L_below]; omega)) (fun r_81 z_79 H locs hp_80 hW => ?_)
    obtain ⟨rfl, hz_79⟩ := hp_80
    refine jv_iast (g := (upi (fun _ => 0) 0 (z_76 : Int))) (ws' := ((WX κ x a a2 ++ (WC κ a σ br ++ (WS κ q pp L (σ 5 0) (σ 5 1) (σ 5 2) ++ (WA κ q_75 5 (upi (upi (fun _ => 0) 0 (z_76 : Int)) 1 (z_79 : Int)))))) ++ RP κ L σ)) hx hb hK hW 10 rfl 1 rfl (by omega) (by decide) rfl dL_act_59 (fun H locs hW => ?_)
    refine lv_dup hx hb dL_act_60 rfl ?_
    refine jv_iconst hx hb dL_act_61 ?_
    refine lv_iload_n hx hb dL_act_62 rfl (lv_at hl 4 rfl) ?_
    refine jv_bipush hx hb 6 dL_act_63 (by decide +kernel) ?_
    refine lv_ishr hx hb dL_act_65 ?_
    refine jv_bipush hx hb 21 dL_act_66 (by decide +kernel) ?_
    refine fina_i (k := 1) (n := 5) (W2 := (fun z_82 => ((WX κ x a a2 ++ (WC κ a σ br ++ (WS κ q pp L (σ 5 0) (σ 5 1) (σ 5 2) ++ (WA κ q_75 5 (upi (upi (fun _ => 0) 0 (z_76 : Int)) 1 (z_79 : Int)))))) ++ RP κ L σ))) hW (va_free hW.2.1 hW.2.2 hA [] rfl) (va_runS (As := [.int (v >>> ((J 6) &&& 31)), .int (J 21)]) (rest := [.int (J 2), .ref q_75, .ref q_75]) F ((m_L_below l κ (v >>> ((J 6) &&& 31)) 21 ⟨by omega, by omega⟩) _) (va_cwS 2 hts gL_act_L_below rfl rfl rfl (by decide +kernel) ⟨(Nat.le_of_ble_eq_true rfl), (Nat.le_of_ble_eq_true rfl)⟩) (pre_S hK hW [] rfl (by decide)) rfl rfl hl.1 rfl (lv_room (Nat.le_of_ble_eq_true rfl)) dL_act_68 ⟨(by first | exact Nat.le_of_ble_eq_true rfl | omega | (dsimp only [rm_L_act, rm_L_below]; omega)), (by first | exact Nat.le_of_ble_eq_true rfl | omega | (dsimp only [rm_L_act, rm_L_below]; omega))⟩) (fun u H1 locs1 g1 g2 g3 g4 => St.joinQ hW hA [] [0, 1, 2, 3, 4, 5, 6, 7, 8, 9, 10] [0, 1, 2, 3, 4, 5, 6, 7, 8, 9, 10] rfl rfl rfl (by decide) rfl rfl g1 g2 g3 g4) (by first | exact Nat.le_of_ble_eq_true rfl | omega | (dsimp only [rm_L_act, rm_L_below]; omega)) (by first | exact Nat.le_of_ble_eq_true rfl | omega | (dsimp only [rm_L_act, rm_L_below]; omega)) (fun r_84 z_82 H locs hp_83 hW => ?_)
    obtain ⟨rfl, hz_82⟩ := hp_83
    refine jv_iast (g := (upi (upi (fun _ => 0) 0 (z_76 : Int)) 1 (z_79 : Int))) (ws' := ((WX κ x a a2 ++ (WC κ a σ br ++ (WS κ q pp L (σ 5 0) (σ 5 1) (σ 5 2) ++ (WA κ q_75 5 (upi (upi (upi (fun _ => 0) 0 (z_76 : Int)) 1 (z_79 : Int)) 2 (z_82 : Int)))))) ++ RP κ L σ)) hx hb hK hW 10 rfl 2 rfl (by omega) (by decide) rfl dL_act_71 (fun H locs hW => ?_)
    refine lv_dup hx hb dL_act_72 rfl ?_
    refine jv_iconst hx hb dL_act_73 ?_
    refine jv_iconst hx hb dL_act_74 ?_
    refine jv_iast (g := (upi (upi (upi (fun _ => 0) 0 (z_76 : Int)) 1 (z_79 : Int)) 2 (z_82 : Int))) (ws' := ((WX κ x a a2 ++ (WC κ a σ br ++ (WS κ q pp L (σ 5 0) (σ 5 1) (σ 5 2) ++ (WA κ q_75 5 (upi (upi (upi (upi (fun _ => 0) 0 (z_76 : Int)) 1 (z_79 : Int)) 2 (z_82 : Int)) 3 0))))) ++ RP κ L σ)) hx hb hK hW 10 rfl 3 rfl (by omega) (by decide) rfl dL_act_75 (fun H locs hW => ?_)
    refine lv_dup hx hb dL_act_76 rfl ?_
    refine jv_iconst hx hb dL_act_77 ?_
    refine jv_iconst hx hb dL_act_78 ?_
    refine jv_iast (g := (upi (upi (upi (upi (fun _ => 0) 0 (z_76 : Int)) 1 (z_79 : Int)) 2 (z_82 : Int)) 3 0)) (ws' := ((WX κ x a a2 ++ (WC κ a σ br ++ (WS κ q pp L (σ 5 0) (σ 5 1) (σ 5 2) ++ (WA κ q_75 5 (upi (upi (upi (upi (upi (fun _ => 0) 0 (z_76 : Int)) 1 (z_79 : Int)) 2 (z_82 : Int)) 3 0) 4 0))))) ++ RP κ L σ)) hx hb hK hW 10 rfl 4 rfl (by omega) (by decide) rfl dL_act_79 (fun H locs hW => ?_)
    refine lv_astore (lv' := [(5, .ref q_75), (4, .int (J (z_2 : Int))), (3, .int (J (nn σ : Int))), (0, .ref x), (1, .ref q), (2, .int v)]) hx hb dL_act_80 hl (by decide) rfl (fun ls hl => ?_)
    refine lv_iload_n hx hb dL_act_82 rfl (lv_at hl 2 rfl) ?_
    refine jv_bipush hx hb 10 dL_act_83 (by decide +kernel) ?_
    refine jv_icmp_ne hx hb 90 dL_act_85 (by decide) ⟨by omega, by omega⟩ ⟨by omega, by omega⟩ (fun h_85 => ?_) (fun h_85 => ?_)
    · skip
      refine lv_aload_n hx hb dL_act_90 rfl (lv_at hl 4 rfl) ?_
      refine lv_aload_n hx hb dL_act_91 rfl (lv_at hl 4 rfl) ?_
      refine jv_get (T := TX2) (N := 4) (v := .ref pp) hx hb hts hn2 hown hK hW 8 rfl rfl 3 (by decide) (List.mem_of_getElem? (i := 1) rfl) rfl dL_act_92 ?_
      refine lv_aload hx hb dL_act_95 (lv_at hl 0 rfl) ?_
      have hW : St κ A s.heap _ _ ((WX κ x a a2 ++ (WC κ a σ br ++ ([(q, .inr (2, [.int (J (σ 5 0)), .int (J (σ 5 1)), .int (J (σ 5 2)), .ref pp]))] ++ (WQ κ pp L.length (fun i => L[i]?) ++ (WA κ q_75 5 (upi (upi (upi (upi (upi (fun _ => 0) 0 (z_76 : Int)) 1 (z_79 : Int)) 2 (z_82 : Int)) 3 0) 4 0)))))) ++ RP κ L σ) := hW
      refine fina_r (k := 2) (n := 16) (W2 := (fun _ w_86 => ((WX κ x a a2 ++ (WC κ a σ br ++ ([(q, .inr (2, [.int (J (σ 5 0)), .int (J (σ 5 1)), .int (J (σ 5 2)), .ref pp]))] ++ (WQ κ pp L.length (fun i => L[i]?) ++ (WA κ q_75 5 (upi (upi (upi (upi (upi (fun _ => 0) 0 (z_76 : Int)) 1 (z_79 : Int)) 2 (z_82 : Int)) 3 0) 4 0) ++ (WQ κ w_86 ((L ++ [q_75]).length) (fun i => (L ++ [q_75])[i]?))))))) ++ RP κ L σ))) hW (va_freeP hW.2.1 hW.2.2 hA [9, 10] rfl) (va_runS (As := [.ref pp, .ref q_75]) (rest := [.ref q]) F ((m_X2_with l κ pp q_75 L σ (upi (upi (upi (upi (upi (fun _ => 0) 0 (z_76 : Int)) 1 (z_79 : Int)) 2 (z_82 : Int)) 3 0) 4 0) (by omega)) _) (va_cwS 2 hts gL_act_X2_with rfl rfl rfl (by decide +kernel) ⟨(Nat.le_of_ble_eq_true rfl), (Nat.le_of_ble_eq_true rfl)⟩) (pre_SP hK hW [9, 10] rfl (by decide)) rfl rfl hl.1 rfl (lv_room (Nat.le_of_ble_eq_true rfl)) dL_act_97 ⟨(by first | exact Nat.le_of_ble_eq_true rfl | omega | (dsimp only [rm_L_act, rm_X2_with]; omega)), (by first | exact Nat.le_of_ble_eq_true rfl | omega | (dsimp only [rm_L_act, rm_X2_with]; omega))⟩) (fun u r H1 locs1 g1 g2 g3 g4 => St.joinP hW hA [9, 10] [0, 1, 2, 3, 4, 5, 6, 7, 8] [0, 1, 2, 3, 4, 5, 6, 7, 8, 9, 10, 11] rfl rfl rfl (by decide) rfl rfl g1 g2 g3 g4) (by first | exact Nat.le_of_ble_eq_true rfl | omega | (dsimp only [rm_L_act, rm_X2_with]; omega)) (by first | exact Nat.le_of_ble_eq_true rfl | omega | (dsimp only [rm_L_act, rm_X2_with]; omega)) (fun u w_86 H locs hp_87 hW => ?_)
      refine jv_put (T := TX2) (N := 4) (ws' := ((WX κ x a a2 ++ (WC κ a σ br ++ ([(q, .inr (2, [.int (J (σ 5 0)), .int (J (σ 5 1)), .int (J (σ 5 2)), .ref w_86]))] ++ (WQ κ pp L.length (fun i => L[i]?) ++ (WA κ q_75 5 (upi (upi (upi (upi (upi (fun _ => 0) 0 (z_76 : Int)) 1 (z_79 : Int)) 2 (z_82 : Int)) 3 0) 4 0) ++ (WQ κ w_86 ((L ++ [q_75]).length) (fun i => (L ++ [q_75])[i]?))))))) ++ RP κ L σ)) hx hb hts hn2 tyX2 tyX2_ok nmX2 hown hK hW 8 rfl rfl 3 (by decide) (List.mem_of_getElem? (i := 1) rfl) rfl rfl rfl (Nat.le_of_ble_eq_true rfl) rfl dL_act_100 (fun H locs hW => ?_)
      have hW : St κ A s.heap _ _ ((WX κ x a a2 ++ (WC κ a σ br ++ (WS κ q w_86 (L ++ [q_75]) (σ 5 0) (σ 5 1) (σ 5 2) ++ (WA κ q_75 5 (upi (upi (upi (upi (upi (fun _ => 0) 0 (z_76 : Int)) 1 (z_79 : Int)) 2 (z_82 : Int)) 3 0) 4 0))))) ++ RP κ L σ) := hW.part [0, 1, 2, 3, 4, 5, 6, 7, 8, 11, 10] (by decide) rfl
      refine lv_aload_n hx hb dL_act_103 rfl (lv_at hl 3 rfl) ?_
      refine lv_aload hx hb dL_act_104 (lv_at hl 0 rfl) ?_
      refine jv_iconst hx hb dL_act_106 ?_
      refine jv_iald (g := (upi (upi (upi (upi (upi (fun _ => 0) 0 (z_76 : Int)) 1 (z_79 : Int)) 2 (z_82 : Int)) 3 0) 4 0)) hx hb hK hW 10 rfl 0 rfl (by omega) (by decide) dL_act_107 ?_
      refine jv_eq (y := (z_76 : Int)) (by rfl) ?_
      refine lv_aload hx hb dL_act_108 (lv_at hl 0 rfl) ?_
      refine jv_iconst hx hb dL_act_110 ?_
      refine jv_iald (g := (upi (upi (upi (upi (upi (fun _ => 0) 0 (z_76 : Int)) 1 (z_79 : Int)) 2 (z_82 : Int)) 3 0) 4 0)) hx hb hK hW 10 rfl 1 rfl (by omega) (by decide) dL_act_111 ?_
      refine jv_eq (y := (z_79 : Int)) (by rfl) ?_
      refine lv_aload hx hb dL_act_112 (lv_at hl 0 rfl) ?_
      refine jv_iconst hx hb dL_act_114 ?_
      refine jv_iald (g := (upi (upi (upi (upi (upi (fun _ => 0) 0 (z_76 : Int)) 1 (z_79 : Int)) 2 (z_82 : Int)) 3 0) 4 0)) hx hb hK hW 10 rfl 2 rfl (by omega) (by decide) dL_act_115 ?_
      refine jv_eq (y := (z_82 : Int)) (by rfl) ?_
      refine fina_i (k := 2) (n := 16) (W2 := (fun _ => ((WX κ x a a2 ++ (WC κ a (up (up (up (up σ 4 (σ 5 3).toNat (z_76 : Int)) 0 (σ 5 3).toNat (z_79 : Int)) 1 (σ 5 3).toNat (z_82 : Int)) 5 3 (σ 5 3 + 1)) br ++ (WS κ q w_86 (L ++ [q_75]) (σ 5 0) (σ 5 1) (σ 5 2) ++ (WA κ q_75 5 (upi (upi (upi (upi (upi (fun _ => 0) 0 (z_76 : Int)) 1 (z_79 : Int)) 2 (z_82 : Int)) 3 0) 4 0))))) ++ RP κ L σ))) hW (va_free hW.2.1 hW.2.2 hA [0, 1, 2, 3, 4, 5, 6, 7] rfl) (va_runV (As := [.int (J (z_76 : Int)), .int (J (z_79 : Int)), .int (J (z_82 : Int))]) (rest := []) F ((m_X1_addPot l κ x a a2 σ br (z_76 : Int) (z_79 : Int) (z_82 : Int) ⟨by omega, by omega, by omega⟩ (by omega) hI) _) (cwV 3 hts gL_act_X1_addPot rfl rfl rfl (by decide +kernel) ⟨(Nat.le_of_ble_eq_true rfl), (Nat.le_of_ble_eq_true rfl)⟩) (pre_V hK hW [0, 1, 2, 3, 4, 5, 6, 7] rfl (by decide) 1 0 rfl rfl) rfl rfl hl.1 rfl (lv_room (Nat.le_of_ble_eq_true rfl)) dL_act_116 ⟨(by first | exact Nat.le_of_ble_eq_true rfl | omega | (dsimp only [rm_L_act, rm_X1_addPot]; omega)), (by first | exact Nat.le_of_ble_eq_true rfl | omega | (dsimp only [rm_L_act, rm_X1_addPot]; omega))⟩) (fun u H1 locs1 g1 g2 g3 g4 => St.joinQ hW hA [0, 1, 2, 3, 4, 5, 6, 7] [8, 9, 10] [3, 4, 5, 6, 7, 8, 9, 10, 0, 1, 2] rfl rfl rfl (by decide) rfl rfl g1 g2 g3 g4) (by first | exact Nat.le_of_ble_eq_true rfl | omega | (dsimp only [rm_L_act, rm_X1_addPot]; omega)) (by first | exact Nat.le_of_ble_eq_true rfl | omega | (dsimp only [rm_L_act, rm_X1_addPot]; omega)) (fun r_89 u H locs hp_88 hW => ?_)
      subst hp_88
      refine lv_iload_n hx hb dL_act_119 rfl (lv_at hl 2 rfl) ?_
      refine jv_icmp_ne hx hb 127 dL_act_120 (by decide) ⟨by omega, by omega⟩ ⟨by omega, by omega⟩ (fun h_90 => by exfalso; omega) (fun h_90 => ?_)
      refine jv_iconst hx hb dL_act_123 ?_
      refine lv_goto (tgt := 128) hx hb dL_act_124 (by decide) ?_
      exact hret ((adS σ (nn σ) (z_76 : Int) (z_79 : Int) (z_82 : Int)), w_86, L ++ [q_75]) (RP_push (X := (WX κ x a a2 ++ (WC κ a (adS σ (nn σ) (z_76 : Int) (z_79 : Int) (z_82 : Int)) br ++ (WS κ q w_86 (L ++ [q_75]) (σ 5 0) (σ 5 1) (σ 5 2))))) (τ := (adS σ (nn σ) (z_76 : Int) (z_79 : Int) (z_82 : Int))) hW (fun k hk => by rw [hLn]; exact adS_own (hG.2.2 (nn σ) (Nat.le_refl _)) k hk) (fun i hi => adS_rows (by omega))) dL_act_128 (by first | exact Nat.le_of_ble_eq_true rfl | omega | (dsimp only [rm_L_act]; omega)) (by first | exact Nat.le_of_ble_eq_true rfl | omega | (dsimp only [rm_L_act]; omega)) (by first | exact zr_01 (Or.inl rfl) | exact zr_01 (Or.inr rfl) | exact zr_b _ | exact zr_01 (by omega)) (⟨rfl, ag_add hG hN (by omega) (by omega) (by omega) (by omega)⟩)
    · skip
      refine jv_iconst hx hb dL_act_88 ?_
      exact hret (σ, pp, L) (hW.part [0, 1, 2, 3, 4, 5, 6, 7, 8, 9] (by decide) rfl) dL_act_89 (by first | exact Nat.le_of_ble_eq_true rfl | omega | (dsimp only [rm_L_act]; omega)) (by first | exact Nat.le_of_ble_eq_true rfl | omega | (dsimp only [rm_L_act]; omega)) (by first | exact zr_01 (Or.inl rfl) | exact zr_01 (Or.inr rfl) | exact zr_b _ | exact zr_01 (by omega)) (⟨rfl, ag_rf hG⟩)
