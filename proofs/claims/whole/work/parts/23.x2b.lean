abbrev rm_X2_beat : Room := { frames := 6, cells := 0, slots := 0, locals := 132 }
set_option maxHeartbeats 4000000 in
set_option maxRecDepth 100000 in
/-- beat -/
theorem m_X2_beat (l : Launch) (κ : Kp) (a : Nat → Nat) (σ : Sg) (th : Int) (kp : Nat → Int) (hI : Inv σ) (hB : σ 5 0 ≤ 1000000000) : CGi l yX2_beat wsX2_beat rm_X2_beat κ [.ref (a 0)] (WM κ a σ th kp) (fun r _ => r = J (bi (cadb σ))) (fun (_ : Unit) => WM κ a (pb σ) th kp) := by
  refine entry_i (by decide) rfl (Nat.le_of_ble_eq_true rfl) ?_
  intro P e s m args below meth c ls A Q F hname hK hA hret hW hl
  obtain ⟨hx, hb, hml, hown, hts⟩ := id F
  have hn2 : ∀ w ∈ wsX20, w ∈ wsX2_beat := by decide +kernel
  have hN := hI.hN
  have hN10 := hI.n10
  have hnn := hI.1
  have hcm := cmn_lt σ
  have hst := stn_lt hN10
  have hbt := hI.2.1
  have hcd := hI.2.2.1
  have hca := hI.2.2.2.1
  have hcr := ccl_rng hN10
  refine lv_aload_n hx hb dX2_beat_0 rfl (lv_at hl 0 rfl) ?_
  refine fin_i (k := 0) (n := 0) (W2 := (fun _ => (WM κ a σ th kp))) [0, 1, 2, 3] [] [0, 1, 2, 3] hW hA (va_runV (As := []) (rest := []) F ((m_X2_set l κ a σ th kp  hI) _) (cwV 0 hts gX2_beat_X2_set rfl rfl rfl (by decide +kernel) ⟨(Nat.le_of_ble_eq_true rfl), (Nat.le_of_ble_eq_true rfl)⟩) (pre_V hK hW [0, 1, 2, 3] rfl (by decide) 2 0 rfl rfl) rfl rfl hl.1 rfl (lv_room (Nat.le_of_ble_eq_true rfl)) dX2_beat_1 ⟨(by first | exact Nat.le_of_ble_eq_true rfl | omega | (dsimp only [rm_X2_beat, rm_X2_set]; omega)), (by first | exact Nat.le_of_ble_eq_true rfl | omega | (dsimp only [rm_X2_beat, rm_X2_set]; omega))⟩) rfl rfl rfl (by decide) rfl (fun _ => rfl) (by first | exact Nat.le_of_ble_eq_true rfl | omega | (dsimp only [rm_X2_beat, rm_X2_set]; omega)) (by first | exact Nat.le_of_ble_eq_true rfl | omega | (dsimp only [rm_X2_beat, rm_X2_set]; omega)) (fun r_2 u H locs hp_1 hW => ?_)
  subst hp_1
  refine lv_istore_n (lv' := [(1, .int (J (stn σ : Int))), (0, .ref (a 0))]) hx hb dX2_beat_4 rfl hl (by decide) rfl (fun ls hl => ?_)
  refine lv_aload_n hx hb dX2_beat_5 rfl (lv_at hl 1 rfl) ?_
  refine lv_iload_n hx hb dX2_beat_6 rfl (lv_at hl 0 rfl) ?_
  refine fin_i (k := 0) (n := 0) (W2 := (fun _ => (WM κ a σ th kp))) [0, 1, 2, 3] [] [0, 1, 2, 3] hW hA (va_runV (As := [.int (J (stn σ : Int))]) (rest := []) F ((m_X2_allClashes l κ a σ th kp (stn σ) (by omega) hI) _) (cwV 1 hts gX2_beat_X2_allClashes rfl rfl rfl (by decide +kernel) ⟨(Nat.le_of_ble_eq_true rfl), (Nat.le_of_ble_eq_true rfl)⟩) (pre_V hK hW [0, 1, 2, 3] rfl (by decide) 2 0 rfl rfl) rfl rfl hl.1 rfl (lv_room (Nat.le_of_ble_eq_true rfl)) dX2_beat_7 ⟨(by first | exact Nat.le_of_ble_eq_true rfl | omega | (dsimp only [rm_X2_beat, rm_X2_allClashes]; omega)), (by first | exact Nat.le_of_ble_eq_true rfl | omega | (dsimp only [rm_X2_beat, rm_X2_allClashes]; omega))⟩) rfl rfl rfl (by decide) rfl (fun _ => rfl) (by first | exact Nat.le_of_ble_eq_true rfl | omega | (dsimp only [rm_X2_beat, rm_X2_allClashes]; omega)) (by first | exact Nat.le_of_ble_eq_true rfl | omega | (dsimp only [rm_X2_beat, rm_X2_allClashes]; omega)) (fun r_4 u H locs hp_3 hW => ?_)
  subst hp_3
  refine jv_eq (y := ccl σ) (acl_set σ) ?_
  refine lv_istore_n (lv' := [(2, .int (J (ccl σ))), (1, .int (J (stn σ : Int))), (0, .ref (a 0))]) hx hb dX2_beat_10 rfl hl (by decide) rfl (fun ls hl => ?_)
  have j33 : ∀ (H : Heap) (locs : List Loc) (ls : Array Slot), St κ A s.heap H locs (WM κ a σ th kp) → lv_has ls 8 [(2, .int (J (ccl σ))), (1, .int (J (stn σ : Int))), (0, .ref (a 0))] → W P l e rm_X2_beat s m args below meth c H locs 0 0 Q (F0 m 33 ls [.int (J (bi (cadb σ)))]) := by
    intro H locs ls hW hl
    refine lv_istore_n (lv' := [(3, .int (J (bi (cadb σ)))), (2, .int (J (ccl σ))), (1, .int (J (stn σ : Int))), (0, .ref (a 0))]) hx hb dX2_beat_33 rfl hl (by decide) rfl (fun ls hl => ?_)
    have j50 : ∀ (H : Heap) (locs : List Loc) (ls : Array Slot), St κ A s.heap H locs (WM κ a σ th kp) → lv_has ls 8 [(3, .int (J (bi (cadb σ)))), (2, .int (J (ccl σ))), (1, .int (J (stn σ : Int))), (0, .ref (a 0))] → W P l e rm_X2_beat s m args below meth c H locs 0 0 Q (F0 m 50 ls [.int (J (bi (decide (σ 5 0 % 4 = 0))))]) := by
      intro H locs ls hW hl
      refine lv_istore (lv' := [(4, .int (J (bi (decide (σ 5 0 % 4 = 0))))), (3, .int (J (bi (cadb σ)))), (2, .int (J (ccl σ))), (1, .int (J (stn σ : Int))), (0, .ref (a 0))]) hx hb dX2_beat_50 hl (by decide) rfl (fun ls hl => ?_)
      have j68 : ∀ (H : Heap) (locs : List Loc) (ls : Array Slot), St κ A s.heap H locs (WM κ a σ th kp) → lv_has ls 8 [(4, .int (J (bi (decide (σ 5 0 % 4 = 0))))), (3, .int (J (bi (cadb σ)))), (2, .int (J (ccl σ))), (1, .int (J (stn σ : Int))), (0, .ref (a 0))] → W P l e rm_X2_beat s m args below meth c H locs 0 0 Q (F0 m 68 ls [.int (J (bi (decide (σ 5 0 % 3 = 0))))]) := by
        intro H locs ls hW hl
        refine lv_istore (lv' := [(5, .int (J (bi (decide (σ 5 0 % 3 = 0))))), (4, .int (J (bi (decide (σ 5 0 % 4 = 0))))), (3, .int (J (bi (cadb σ)))), (2, .int (J (ccl σ))), (1, .int (J (stn σ : Int))), (0, .ref (a 0))]) hx hb dX2_beat_68 hl (by decide) rfl (fun ls hl => ?_)
        refine jv_iconst hx hb dX2_beat_70 ?_
        refine lv_istore (lv' := [(6, .int (J 0)), (5, .int (J (bi (decide (σ 5 0 % 3 = 0))))), (4, .int (J (bi (decide (σ 5 0 % 4 = 0))))), (3, .int (J (bi (cadb σ)))), (2, .int (J (ccl σ))), (1, .int (J (stn σ : Int))), (0, .ref (a 0))]) hx hb dX2_beat_71 hl (by decide) rfl (fun ls hl => ?_)
        suffices hlp : ∀ (n i : Nat), i ≤ (nn σ) → (nn σ) < i + n → ∀ (H : Heap) (locs : List Loc) (ls : Array Slot), St κ A s.heap H locs (WM κ a (lp σ i) th kp) → lv_has ls 8 [(6, .int (J (i : Int))), (5, .int (J (bi (decide (σ 5 0 % 3 = 0))))), (4, .int (J (bi (decide (σ 5 0 % 4 = 0))))), (3, .int (J (bi (cadb σ)))), (2, .int (J (ccl σ))), (1, .int (J (stn σ : Int))), (0, .ref (a 0))] → W P l e rm_X2_beat s m args below meth c H locs 0 0 Q (F0 m 73 ls []) from
          hlp ((nn σ) + 1) 0 (Nat.zero_le _) (by omega)  _ _ _  hW hl
        intro n
        induction n with
        | zero => intro i h1 h2; exact absurd h2 (by omega)
        | succ n ih =>
          intro i hi hn  H locs ls  hW hl
          have hIi : Inv (lp σ i) := hI.hlp (by omega)
          have h5 : (lp σ i) 5 0 = σ 5 0 := by rw [lp_5]
          have h51 : (lp σ i) 5 1 = σ 5 1 := by rw [lp_5]
          have h53 : (lp σ i) 5 3 = σ 5 3 := by rw [lp_5]
          have hcmi := cmn_lt (lp σ i)
          refine lv_iload hx hb dX2_beat_73 (lv_at hl 0 rfl) ?_
          refine lv_aload_n hx hb dX2_beat_75 rfl (lv_at hl 6 rfl) ?_
          refine jv_get (T := TX2) (N := 6) (v := .int (J ((lp σ i) 5 3))) hx hb hts hn2 hown hK hW 0 rfl rfl 1 (by decide) (List.mem_of_getElem? (i := 2) rfl) rfl dX2_beat_76 ?_
          refine jv_icmp_ge hx hb 256 dX2_beat_79 (by decide) ⟨by omega, by omega⟩ ⟨by omega, by omega⟩ (fun h_5 => ?_) (fun h_5 => ?_)
          · skip
            have hin : i = nn σ := by omega
            refine lv_aload_n hx hb dX2_beat_256 rfl (lv_at hl 6 rfl) ?_
            refine jv_get (T := TX2) (N := 6) (v := .ref (a 2)) hx hb hts hn2 hown hK hW 0 rfl rfl 4 (by decide) (List.mem_of_getElem? (i := 1) rfl) rfl dX2_beat_257 ?_
            refine jv_iconst hx hb dX2_beat_260 ?_
            refine lv_dup2_11 hx hb dX2_beat_261 rfl rfl ?_
            refine jv_iald (g := (nowf (lp σ i))) hx hb hK hW 2 rfl 1 rfl (by omega) (by decide) dX2_beat_262 ?_
            refine jv_eq (y := ((lp σ i) 5 1)) (nowf_s1 _) ?_
            refine lv_iload_n hx hb dX2_beat_263 rfl (lv_at hl 3 rfl) ?_
            refine jv_iadd hx hb dX2_beat_264 ?_
            refine jv_iast (g := (nowf (lp σ i))) (ws' := (WM κ a (up (lp σ i) 5 1 (((lp σ i) 5 1) + (bi (cadb σ)))) th kp)) hx hb hK hW 2 rfl 1 rfl (by omega) (by decide) (by rw [nowf_q1]; rfl) dX2_beat_265 (fun H locs hW => ?_)
            refine lv_aload_n hx hb dX2_beat_266 rfl (lv_at hl 6 rfl) ?_
            refine jv_get (T := TX2) (N := 6) (v := .ref (a 2)) hx hb hts hn2 hown hK hW 0 rfl rfl 4 (by decide) (List.mem_of_getElem? (i := 1) rfl) rfl dX2_beat_267 ?_
            refine jv_iconst hx hb dX2_beat_270 ?_
            refine lv_iload_n hx hb dX2_beat_271 rfl (lv_at hl 4 rfl) ?_
            refine jv_if_le hx hb 279 dX2_beat_272 (by decide) ⟨by omega, by omega⟩ (fun h_6 => ?_) (fun h_6 => ?_)
            · skip
              refine jv_iconst hx hb dX2_beat_279 ?_
              refine jv_iast (g := (nowf (up (lp σ i) 5 1 (((lp σ i) 5 1) + (bi (cadb σ)))))) (ws' := (WM κ a (up (up (lp σ i) 5 1 (((lp σ i) 5 1) + (bi (cadb σ)))) 5 2 0) th kp)) hx hb hK hW 2 rfl 2 rfl (by omega) (by decide) (by rw [nowf_q2]; rfl) dX2_beat_280 (fun H locs hW => ?_)
              refine lv_aload_n hx hb dX2_beat_281 rfl (lv_at hl 6 rfl) ?_
              refine jv_get (T := TX2) (N := 6) (v := .ref (a 2)) hx hb hts hn2 hown hK hW 0 rfl rfl 4 (by decide) (List.mem_of_getElem? (i := 1) rfl) rfl dX2_beat_282 ?_
              refine jv_iconst hx hb dX2_beat_285 ?_
              refine lv_dup2_11 hx hb dX2_beat_286 rfl rfl ?_
              refine jv_iald (g := (nowf (up (up (lp σ i) 5 1 (((lp σ i) 5 1) + (bi (cadb σ)))) 5 2 0))) hx hb hK hW 2 rfl 0 rfl (by omega) (by decide) dX2_beat_287 ?_
              refine jv_eq (y := ((lp σ i) 5 0)) (nowf_s0 _) ?_
              refine jv_iconst hx hb dX2_beat_288 ?_
              refine jv_iadd hx hb dX2_beat_289 ?_
              refine jv_iast (g := (nowf (up (up (lp σ i) 5 1 (((lp σ i) 5 1) + (bi (cadb σ)))) 5 2 0))) (ws' := (WM κ a (up (up (up (lp σ i) 5 1 (((lp σ i) 5 1) + (bi (cadb σ)))) 5 2 0) 5 0 (((lp σ i) 5 0) + 1)) th kp)) hx hb hK hW 2 rfl 0 rfl (by omega) (by decide) (by rw [nowf_q0]; rfl) dX2_beat_290 (fun H locs hW => ?_)
              refine lv_iload_n hx hb dX2_beat_291 rfl (lv_at hl 3 rfl) ?_
              exact hret () (by subst hin; rw [pb_mod2, show bi (decide (0 < ccl σ)) = 0 by rw [decide_eq_false (by omega)]; rfl]; exact hW) dX2_beat_292 (by first | exact Nat.le_of_ble_eq_true rfl | omega | (dsimp only [rm_X2_beat]; omega)) (by first | exact Nat.le_of_ble_eq_true rfl | omega | (dsimp only [rm_X2_beat]; omega)) rfl
            · skip
              refine jv_iconst hx hb dX2_beat_275 ?_
              refine lv_goto (tgt := 280) hx hb dX2_beat_276 (by decide) ?_
              refine jv_iast (g := (nowf (up (lp σ i) 5 1 (((lp σ i) 5 1) + (bi (cadb σ)))))) (ws' := (WM κ a (up (up (lp σ i) 5 1 (((lp σ i) 5 1) + (bi (cadb σ)))) 5 2 1) th kp)) hx hb hK hW 2 rfl 2 rfl (by omega) (by decide) (by rw [nowf_q2]; rfl) dX2_beat_280 (fun H locs hW => ?_)
              refine lv_aload_n hx hb dX2_beat_281 rfl (lv_at hl 6 rfl) ?_
              refine jv_get (T := TX2) (N := 6) (v := .ref (a 2)) hx hb hts hn2 hown hK hW 0 rfl rfl 4 (by decide) (List.mem_of_getElem? (i := 1) rfl) rfl dX2_beat_282 ?_
              refine jv_iconst hx hb dX2_beat_285 ?_
              refine lv_dup2_11 hx hb dX2_beat_286 rfl rfl ?_
              refine jv_iald (g := (nowf (up (up (lp σ i) 5 1 (((lp σ i) 5 1) + (bi (cadb σ)))) 5 2 1))) hx hb hK hW 2 rfl 0 rfl (by omega) (by decide) dX2_beat_287 ?_
              refine jv_eq (y := ((lp σ i) 5 0)) (nowf_s0 _) ?_
              refine jv_iconst hx hb dX2_beat_288 ?_
              refine jv_iadd hx hb dX2_beat_289 ?_
              refine jv_iast (g := (nowf (up (up (lp σ i) 5 1 (((lp σ i) 5 1) + (bi (cadb σ)))) 5 2 1))) (ws' := (WM κ a (up (up (up (lp σ i) 5 1 (((lp σ i) 5 1) + (bi (cadb σ)))) 5 2 1) 5 0 (((lp σ i) 5 0) + 1)) th kp)) hx hb hK hW 2 rfl 0 rfl (by omega) (by decide) (by rw [nowf_q0]; rfl) dX2_beat_290 (fun H locs hW => ?_)
              refine lv_iload_n hx hb dX2_beat_291 rfl (lv_at hl 3 rfl) ?_
              exact hret () (by subst hin; rw [pb_mod2, show bi (decide (0 < ccl σ)) = 1 by rw [decide_eq_true (by omega)]; rfl]; exact hW) dX2_beat_292 (by first | exact Nat.le_of_ble_eq_true rfl | omega | (dsimp only [rm_X2_beat]; omega)) (by first | exact Nat.le_of_ble_eq_true rfl | omega | (dsimp only [rm_X2_beat]; omega)) rfl
          · skip
            have hbi := hIi.at i (by omega)
            have hcb := cmn_bit (lp σ i) i (by omega)
            have hst1 : (stn σ).testBit i = true → sn (lp σ i) i = true := fun h => by rw [stn_bit, Bool.and_eq_true] at h; rw [lp_sni]; exact h.2
            have hst0 : (stn σ).testBit i = false → sn (lp σ i) i = false := fun h => by rw [stn_bit, decide_eq_true (show i < nn σ by omega), Bool.true_and] at h; rw [lp_sni]; exact h
            refine lv_aload_n hx hb dX2_beat_82 rfl (lv_at hl 6 rfl) ?_
            refine jv_get (T := TX2) (N := 6) (v := .ref (a 2)) hx hb hts hn2 hown hK hW 0 rfl rfl 4 (by decide) (List.mem_of_getElem? (i := 1) rfl) rfl dX2_beat_83 ?_
            refine jv_bipush hx hb 23 dX2_beat_86 (by decide +kernel) ?_
            refine lv_iload hx hb dX2_beat_88 (lv_at hl 0 rfl) ?_
            refine jv_iadd hx hb dX2_beat_90 ?_
            refine jv_iald (g := (nowf (lp σ i))) hx hb hK hW 2 rfl (23 + i) (by omega) (by omega) (by decide) dX2_beat_91 ?_
            refine jv_eq (y := (((lp σ i) 2) i)) (nowf_r2 _ (by omega)) ?_
            refine lv_istore (lv' := [(7, .int (J (((lp σ i) 2) i))), (6, .int (J (i : Int))), (5, .int (J (bi (decide (σ 5 0 % 3 = 0))))), (4, .int (J (bi (decide (σ 5 0 % 4 = 0))))), (3, .int (J (bi (cadb σ)))), (2, .int (J (ccl σ))), (1, .int (J (stn σ : Int))), (0, .ref (a 0))]) hx hb dX2_beat_92 hl (by decide) rfl (fun ls hl => ?_)
            refine lv_iload_n hx hb dX2_beat_94 rfl (lv_at hl 6 rfl) ?_
            refine lv_iload hx hb dX2_beat_95 (lv_at hl 1 rfl) ?_
            refine jv_ishr hx hb (stn σ) i dX2_beat_97 (by omega) (by omega) ?_
            refine jv_iconst hx hb dX2_beat_98 ?_
            refine jv_iand hx hb ((stn σ) / 2 ^ i : Nat) 1 dX2_beat_99 ?_
            refine jv_eq (y := bi ((stn σ).testBit i)) (by rw [bit_mod]; cases (stn σ).testBit i <;> rfl) ?_
            refine jv_iconst hx hb dX2_beat_100 ?_
            refine jv_icmpb_ne (b := ((stn σ).testBit i)) hx hb 214 dX2_beat_101 (by decide) (fun h_7 => ?_) (fun h_7 => ?_)
            · skip
              refine lv_iload hx hb dX2_beat_214 (lv_at hl 2 rfl) ?_
              refine jv_ifb_eq (b := (decide (σ 5 0 % 3 = 0))) hx hb 250 dX2_beat_216 (by decide) (fun h_8 => ?_) (fun h_8 => ?_)
              · skip
                refine jv_iinc (k := 1) (z := (i : Int)) (lv' := [(6, .int (J ((i : Int) + 1))), (7, .int (J (((lp σ i) 2) i))), (5, .int (J (bi (decide (σ 5 0 % 3 = 0))))), (4, .int (J (bi (decide (σ 5 0 % 4 = 0))))), (3, .int (J (bi (cadb σ)))), (2, .int (J (ccl σ))), (1, .int (J (stn σ : Int))), (0, .ref (a 0))]) hx hb dX2_beat_250 hl rfl (by decide) rfl (fun ls hl => ?_)
                refine lv_goto (tgt := 73) hx hb dX2_beat_253 (by decide) ?_
                exact ih (i + 1) (by omega) (by omega)  _ _ _  (by have e3 := of_decide_eq_false h_8; rw [lp_no (hst0 h_7) (fun h => by omega)]; exact hW) (lv_sub hl [0, 2, 3, 4, 5, 6, 7] rfl)
              · skip
                refine lv_aload_n hx hb dX2_beat_219 rfl (lv_at hl 7 rfl) ?_
                refine jv_get (T := TX2) (N := 6) (v := .int (J (cmn (lp σ i) : Int))) hx hb hts hn2 hown hK hW 0 rfl rfl 2 (by decide) (List.mem_of_getElem? (i := 10) rfl) rfl dX2_beat_220 ?_
                refine lv_iload hx hb dX2_beat_223 (lv_at hl 1 rfl) ?_
                refine jv_ishr hx hb (cmn (lp σ i)) i dX2_beat_225 (by omega) (by omega) ?_
                refine jv_iconst hx hb dX2_beat_226 ?_
                refine jv_iand hx hb ((cmn (lp σ i)) / 2 ^ i : Nat) 1 dX2_beat_227 ?_
                refine jv_eq (y := bi ((cmn (lp σ i)).testBit i)) (by rw [bit_mod]; cases (cmn (lp σ i)).testBit i <;> rfl) ?_
                refine jv_iconst hx hb dX2_beat_228 ?_
                refine jv_icmpb_ne (b := ((cmn (lp σ i)).testBit i)) hx hb 250 dX2_beat_229 (by decide) (fun h_9 => ?_) (fun h_9 => ?_)
                · skip
                  refine jv_iinc (k := 1) (z := (i : Int)) (lv' := [(6, .int (J ((i : Int) + 1))), (7, .int (J (((lp σ i) 2) i))), (5, .int (J (bi (decide (σ 5 0 % 3 = 0))))), (4, .int (J (bi (decide (σ 5 0 % 4 = 0))))), (3, .int (J (bi (cadb σ)))), (2, .int (J (ccl σ))), (1, .int (J (stn σ : Int))), (0, .ref (a 0))]) hx hb dX2_beat_250 hl rfl (by decide) rfl (fun ls hl => ?_)
                  refine lv_goto (tgt := 73) hx hb dX2_beat_253 (by decide) ?_
                  exact ih (i + 1) (by omega) (by omega)  _ _ _  (by have ec := of_decide_eq_false (hcb.symm.trans h_9); rw [lp_no (hst0 h_7) (fun h => ec h.1)]; exact hW) (lv_sub hl [0, 2, 3, 4, 5, 6, 7] rfl)
                · skip
                  refine lv_aload_n hx hb dX2_beat_232 rfl (lv_at hl 7 rfl) ?_
                  refine jv_get (T := TX2) (N := 6) (v := .ref (a 2)) hx hb hts hn2 hown hK hW 0 rfl rfl 4 (by decide) (List.mem_of_getElem? (i := 1) rfl) rfl dX2_beat_233 ?_
                  refine jv_bipush hx hb 23 dX2_beat_236 (by decide +kernel) ?_
                  refine lv_iload hx hb dX2_beat_238 (lv_at hl 1 rfl) ?_
                  refine jv_iadd hx hb dX2_beat_240 ?_
                  refine jv_iconst hx hb dX2_beat_241 ?_
                  refine lv_iload hx hb dX2_beat_242 (lv_at hl 0 rfl) ?_
                  refine jv_iconst hx hb dX2_beat_244 ?_
                  refine jv_isub hx hb dX2_beat_245 ?_
                  refine jv_max hx hb hown hml hl hts (List.mem_of_getElem? (i := 3) rfl) (List.mem_of_getElem? (i := 4) rfl) (List.mem_of_getElem? (i := 5) rfl) (List.mem_of_getElem? (i := 6) rfl) (Nat.le_of_ble_eq_true rfl) (Nat.le_of_ble_eq_true rfl) (by first | exact Nat.le_of_ble_eq_true rfl | omega) (by first | exact Nat.le_of_ble_eq_true rfl | omega) ⟨by omega, by omega⟩ ⟨by omega, by omega⟩ dX2_beat_246 ?_
                  refine jv_iast (g := (nowf (lp σ i))) (ws' := (WM κ a (up (lp σ i) 2 i (max 0 ((((lp σ i) 2) i) - 1))) th kp)) hx hb hK hW 2 rfl (23 + i) (by omega) (by omega) (by decide) (by rw [nowf_p2 _ _ (show i < 10 by omega)]; rfl) dX2_beat_249 (fun H locs hW => ?_)
                  refine jv_iinc (k := 1) (z := (i : Int)) (lv' := [(6, .int (J ((i : Int) + 1))), (7, .int (J (((lp σ i) 2) i))), (5, .int (J (bi (decide (σ 5 0 % 3 = 0))))), (4, .int (J (bi (decide (σ 5 0 % 4 = 0))))), (3, .int (J (bi (cadb σ)))), (2, .int (J (ccl σ))), (1, .int (J (stn σ : Int))), (0, .ref (a 0))]) hx hb dX2_beat_250 hl rfl (by decide) rfl (fun ls hl => ?_)
                  refine lv_goto (tgt := 73) hx hb dX2_beat_253 (by decide) ?_
                  exact ih (i + 1) (by omega) (by omega)  _ _ _  (by have ec := of_decide_eq_true (hcb.symm.trans h_9); have e3 := of_decide_eq_true h_8; rw [lp_co (hst0 h_7) ec (by omega)]; exact hW) (lv_sub hl [0, 2, 3, 4, 5, 6, 7] rfl)
            · skip
              refine lv_aload_n hx hb dX2_beat_104 rfl (lv_at hl 7 rfl) ?_
              refine jv_get (T := TX2) (N := 6) (v := .ref (a 2)) hx hb hts hn2 hown hK hW 0 rfl rfl 4 (by decide) (List.mem_of_getElem? (i := 1) rfl) rfl dX2_beat_105 ?_
              refine jv_bipush hx hb 13 dX2_beat_108 (by decide +kernel) ?_
              refine lv_iload hx hb dX2_beat_110 (lv_at hl 1 rfl) ?_
              refine jv_iadd hx hb dX2_beat_112 ?_
              refine jv_iconst hx hb dX2_beat_113 ?_
              refine lv_aload_n hx hb dX2_beat_114 rfl (lv_at hl 7 rfl) ?_
              refine jv_get (T := TX2) (N := 6) (v := .ref (a 2)) hx hb hts hn2 hown hK hW 0 rfl rfl 4 (by decide) (List.mem_of_getElem? (i := 1) rfl) rfl dX2_beat_115 ?_
              refine jv_bipush hx hb 13 dX2_beat_118 (by decide +kernel) ?_
              refine lv_iload hx hb dX2_beat_120 (lv_at hl 1 rfl) ?_
              refine jv_iadd hx hb dX2_beat_122 ?_
              refine jv_iald (g := (nowf (lp σ i))) hx hb hK hW 2 rfl (13 + i) (by omega) (by omega) (by decide) dX2_beat_123 ?_
              refine jv_eq (y := (((lp σ i) 1) i)) (nowf_r1 _ (by omega)) ?_
              refine jv_iconst hx hb dX2_beat_124 ?_
              refine jv_isub hx hb dX2_beat_125 ?_
              refine lv_iload hx hb dX2_beat_126 (lv_at hl 0 rfl) ?_
              refine jv_iconst hx hb dX2_beat_128 ?_
              refine jv_idiv hx hb dX2_beat_129 (by omega) ?_
              refine jv_isub hx hb dX2_beat_130 ?_
              refine jv_max hx hb hown hml hl hts (List.mem_of_getElem? (i := 3) rfl) (List.mem_of_getElem? (i := 4) rfl) (List.mem_of_getElem? (i := 5) rfl) (List.mem_of_getElem? (i := 6) rfl) (Nat.le_of_ble_eq_true rfl) (Nat.le_of_ble_eq_true rfl) (by first | exact Nat.le_of_ble_eq_true rfl | omega) (by first | exact Nat.le_of_ble_eq_true rfl | omega) ⟨by omega, by omega⟩ ⟨by omega, by omega⟩ dX2_beat_131 ?_
              refine jv_iast (g := (nowf (lp σ i))) (ws' := (WM κ a (up (lp σ i) 1 i (max 0 (((((lp σ i) 1) i) - 1) - ((((lp σ i) 2) i) / 3)))) th kp)) hx hb hK hW 2 rfl (13 + i) (by omega) (by omega) (by decide) (by rw [nowf_p1 _ _ (show i < 10 by omega)]; rfl) dX2_beat_134 (fun H locs hW => ?_)
              refine lv_iload hx hb dX2_beat_135 (lv_at hl 3 rfl) ?_
              refine jv_ifb_eq (b := (decide (σ 5 0 % 4 = 0))) hx hb 173 dX2_beat_137 (by decide) (fun h_10 => ?_) (fun h_10 => ?_)
              · skip
                refine lv_aload_n hx hb dX2_beat_173 rfl (lv_at hl 7 rfl) ?_
                refine jv_get (T := TX2) (N := 6) (v := .ref (a 2)) hx hb hts hn2 hown hK hW 0 rfl rfl 4 (by decide) (List.mem_of_getElem? (i := 1) rfl) rfl dX2_beat_174 ?_
                refine jv_bipush hx hb 23 dX2_beat_177 (by decide +kernel) ?_
                refine lv_iload hx hb dX2_beat_179 (lv_at hl 1 rfl) ?_
                refine jv_iadd hx hb dX2_beat_181 ?_
                refine jv_iald (g := (nowf (up (lp σ i) 1 i (max 0 (((((lp σ i) 1) i) - 1) - ((((lp σ i) 2) i) / 3)))))) hx hb hK hW 2 rfl (23 + i) (by omega) (by omega) (by decide) dX2_beat_182 ?_
                refine jv_eq (y := (((lp σ i) 2) i)) (nowf_r2 _ (by omega)) ?_
                refine jv_iconst hx hb dX2_beat_183 ?_
                refine jv_icmp_lt hx hb 250 dX2_beat_184 (by decide) ⟨by omega, by omega⟩ ⟨by omega, by omega⟩ (fun h_11 => ?_) (fun h_11 => ?_)
                · skip
                  refine jv_iinc (k := 1) (z := (i : Int)) (lv' := [(6, .int (J ((i : Int) + 1))), (7, .int (J (((lp σ i) 2) i))), (5, .int (J (bi (decide (σ 5 0 % 3 = 0))))), (4, .int (J (bi (decide (σ 5 0 % 4 = 0))))), (3, .int (J (bi (cadb σ)))), (2, .int (J (ccl σ))), (1, .int (J (stn σ : Int))), (0, .ref (a 0))]) hx hb dX2_beat_250 hl rfl (by decide) rfl (fun ls hl => ?_)
                  refine lv_goto (tgt := 73) hx hb dX2_beat_253 (by decide) ?_
                  exact ih (i + 1) (by omega) (by omega)  _ _ _  (by have e4 := of_decide_eq_false h_10; rw [lp_sn (hst1 h_7), wear_ff (by omega) (by omega)]; exact hW) (lv_sub hl [0, 2, 3, 4, 5, 6, 7] rfl)
                · skip
                  refine lv_aload_n hx hb dX2_beat_187 rfl (lv_at hl 7 rfl) ?_
                  refine jv_get (T := TX2) (N := 6) (v := .ref (a 2)) hx hb hts hn2 hown hK hW 0 rfl rfl 4 (by decide) (List.mem_of_getElem? (i := 1) rfl) rfl dX2_beat_188 ?_
                  refine jv_iconst hx hb dX2_beat_191 ?_
                  refine lv_iload hx hb dX2_beat_192 (lv_at hl 1 rfl) ?_
                  refine jv_iadd hx hb dX2_beat_194 ?_
                  refine jv_iconst hx hb dX2_beat_195 ?_
                  refine lv_aload_n hx hb dX2_beat_196 rfl (lv_at hl 7 rfl) ?_
                  refine jv_get (T := TX2) (N := 6) (v := .ref (a 2)) hx hb hts hn2 hown hK hW 0 rfl rfl 4 (by decide) (List.mem_of_getElem? (i := 1) rfl) rfl dX2_beat_197 ?_
                  refine jv_iconst hx hb dX2_beat_200 ?_
                  refine lv_iload hx hb dX2_beat_201 (lv_at hl 1 rfl) ?_
                  refine jv_iadd hx hb dX2_beat_203 ?_
                  refine jv_iald (g := (nowf (up (lp σ i) 1 i (max 0 (((((lp σ i) 1) i) - 1) - ((((lp σ i) 2) i) / 3)))))) hx hb hK hW 2 rfl (3 + i) (by omega) (by omega) (by decide) dX2_beat_204 ?_
                  refine jv_eq (y := (((lp σ i) 0) i)) (nowf_r0 _ (by omega)) ?_
                  refine jv_iconst hx hb dX2_beat_205 ?_
                  refine jv_isub hx hb dX2_beat_206 ?_
                  refine jv_max hx hb hown hml hl hts (List.mem_of_getElem? (i := 3) rfl) (List.mem_of_getElem? (i := 4) rfl) (List.mem_of_getElem? (i := 5) rfl) (List.mem_of_getElem? (i := 6) rfl) (Nat.le_of_ble_eq_true rfl) (Nat.le_of_ble_eq_true rfl) (by first | exact Nat.le_of_ble_eq_true rfl | omega) (by first | exact Nat.le_of_ble_eq_true rfl | omega) ⟨by omega, by omega⟩ ⟨by omega, by omega⟩ dX2_beat_207 ?_
                  refine jv_iast (g := (nowf (up (lp σ i) 1 i (max 0 (((((lp σ i) 1) i) - 1) - ((((lp σ i) 2) i) / 3)))))) (ws' := (WM κ a (up (up (lp σ i) 1 i (max 0 (((((lp σ i) 1) i) - 1) - ((((lp σ i) 2) i) / 3)))) 0 i (max 0 ((((lp σ i) 0) i) - 1))) th kp)) hx hb hK hW 2 rfl (3 + i) (by omega) (by omega) (by decide) (by rw [nowf_p0 _ _ (show i < 10 by omega)]; rfl) dX2_beat_210 (fun H locs hW => ?_)
                  refine lv_goto (tgt := 250) hx hb dX2_beat_211 (by decide) ?_
                  refine jv_iinc (k := 1) (z := (i : Int)) (lv' := [(6, .int (J ((i : Int) + 1))), (7, .int (J (((lp σ i) 2) i))), (5, .int (J (bi (decide (σ 5 0 % 3 = 0))))), (4, .int (J (bi (decide (σ 5 0 % 4 = 0))))), (3, .int (J (bi (cadb σ)))), (2, .int (J (ccl σ))), (1, .int (J (stn σ : Int))), (0, .ref (a 0))]) hx hb dX2_beat_250 hl rfl (by decide) rfl (fun ls hl => ?_)
                  refine lv_goto (tgt := 73) hx hb dX2_beat_253 (by decide) ?_
                  exact ih (i + 1) (by omega) (by omega)  _ _ _  (by have e4 := of_decide_eq_false h_10; rw [lp_sn (hst1 h_7), wear_ft (by omega) (by omega)]; exact hW) (lv_sub hl [0, 2, 3, 4, 5, 6, 7] rfl)
              · skip
                refine lv_aload_n hx hb dX2_beat_140 rfl (lv_at hl 7 rfl) ?_
                refine jv_get (T := TX2) (N := 6) (v := .ref (a 2)) hx hb hts hn2 hown hK hW 0 rfl rfl 4 (by decide) (List.mem_of_getElem? (i := 1) rfl) rfl dX2_beat_141 ?_
                refine jv_iconst hx hb dX2_beat_144 ?_
                refine lv_iload hx hb dX2_beat_145 (lv_at hl 1 rfl) ?_
                refine jv_iadd hx hb dX2_beat_147 ?_
                refine jv_iald (g := (nowf (up (lp σ i) 1 i (max 0 (((((lp σ i) 1) i) - 1) - ((((lp σ i) 2) i) / 3)))))) hx hb hK hW 2 rfl (3 + i) (by omega) (by omega) (by decide) dX2_beat_148 ?_
                refine jv_eq (y := (((lp σ i) 0) i)) (nowf_r0 _ (by omega)) ?_
                refine jv_bipush hx hb 24 dX2_beat_149 (by decide +kernel) ?_
                refine jv_icmp_lt hx hb 173 dX2_beat_151 (by decide) ⟨by omega, by omega⟩ ⟨by omega, by omega⟩ (fun h_12 => ?_) (fun h_12 => ?_)
                · skip
                  refine lv_aload_n hx hb dX2_beat_173 rfl (lv_at hl 7 rfl) ?_
                  refine jv_get (T := TX2) (N := 6) (v := .ref (a 2)) hx hb hts hn2 hown hK hW 0 rfl rfl 4 (by decide) (List.mem_of_getElem? (i := 1) rfl) rfl dX2_beat_174 ?_
                  refine jv_bipush hx hb 23 dX2_beat_177 (by decide +kernel) ?_
                  refine lv_iload hx hb dX2_beat_179 (lv_at hl 1 rfl) ?_
                  refine jv_iadd hx hb dX2_beat_181 ?_
                  refine jv_iald (g := (nowf (up (lp σ i) 1 i (max 0 (((((lp σ i) 1) i) - 1) - ((((lp σ i) 2) i) / 3)))))) hx hb hK hW 2 rfl (23 + i) (by omega) (by omega) (by decide) dX2_beat_182 ?_
                  refine jv_eq (y := (((lp σ i) 2) i)) (nowf_r2 _ (by omega)) ?_
                  refine jv_iconst hx hb dX2_beat_183 ?_
                  refine jv_icmp_lt hx hb 250 dX2_beat_184 (by decide) ⟨by omega, by omega⟩ ⟨by omega, by omega⟩ (fun h_13 => ?_) (fun h_13 => ?_)
                  · skip
                    refine jv_iinc (k := 1) (z := (i : Int)) (lv' := [(6, .int (J ((i : Int) + 1))), (7, .int (J (((lp σ i) 2) i))), (5, .int (J (bi (decide (σ 5 0 % 3 = 0))))), (4, .int (J (bi (decide (σ 5 0 % 4 = 0))))), (3, .int (J (bi (cadb σ)))), (2, .int (J (ccl σ))), (1, .int (J (stn σ : Int))), (0, .ref (a 0))]) hx hb dX2_beat_250 hl rfl (by decide) rfl (fun ls hl => ?_)
                    refine lv_goto (tgt := 73) hx hb dX2_beat_253 (by decide) ?_
                    exact ih (i + 1) (by omega) (by omega)  _ _ _  (by have e4 := of_decide_eq_true h_10; rw [lp_sn (hst1 h_7), wear_ff (by omega) (by omega)]; exact hW) (lv_sub hl [0, 2, 3, 4, 5, 6, 7] rfl)
                  · skip
                    refine lv_aload_n hx hb dX2_beat_187 rfl (lv_at hl 7 rfl) ?_
                    refine jv_get (T := TX2) (N := 6) (v := .ref (a 2)) hx hb hts hn2 hown hK hW 0 rfl rfl 4 (by decide) (List.mem_of_getElem? (i := 1) rfl) rfl dX2_beat_188 ?_
                    refine jv_iconst hx hb dX2_beat_191 ?_
                    refine lv_iload hx hb dX2_beat_192 (lv_at hl 1 rfl) ?_
                    refine jv_iadd hx hb dX2_beat_194 ?_
                    refine jv_iconst hx hb dX2_beat_195 ?_
                    refine lv_aload_n hx hb dX2_beat_196 rfl (lv_at hl 7 rfl) ?_
                    refine jv_get (T := TX2) (N := 6) (v := .ref (a 2)) hx hb hts hn2 hown hK hW 0 rfl rfl 4 (by decide) (List.mem_of_getElem? (i := 1) rfl) rfl dX2_beat_197 ?_
                    refine jv_iconst hx hb dX2_beat_200 ?_
                    refine lv_iload hx hb dX2_beat_201 (lv_at hl 1 rfl) ?_
                    refine jv_iadd hx hb dX2_beat_203 ?_
                    refine jv_iald (g := (nowf (up (lp σ i) 1 i (max 0 (((((lp σ i) 1) i) - 1) - ((((lp σ i) 2) i) / 3)))))) hx hb hK hW 2 rfl (3 + i) (by omega) (by omega) (by decide) dX2_beat_204 ?_
                    refine jv_eq (y := (((lp σ i) 0) i)) (nowf_r0 _ (by omega)) ?_
                    refine jv_iconst hx hb dX2_beat_205 ?_
                    refine jv_isub hx hb dX2_beat_206 ?_
                    refine jv_max hx hb hown hml hl hts (List.mem_of_getElem? (i := 3) rfl) (List.mem_of_getElem? (i := 4) rfl) (List.mem_of_getElem? (i := 5) rfl) (List.mem_of_getElem? (i := 6) rfl) (Nat.le_of_ble_eq_true rfl) (Nat.le_of_ble_eq_true rfl) (by first | exact Nat.le_of_ble_eq_true rfl | omega) (by first | exact Nat.le_of_ble_eq_true rfl | omega) ⟨by omega, by omega⟩ ⟨by omega, by omega⟩ dX2_beat_207 ?_
                    refine jv_iast (g := (nowf (up (lp σ i) 1 i (max 0 (((((lp σ i) 1) i) - 1) - ((((lp σ i) 2) i) / 3)))))) (ws' := (WM κ a (up (up (lp σ i) 1 i (max 0 (((((lp σ i) 1) i) - 1) - ((((lp σ i) 2) i) / 3)))) 0 i (max 0 ((((lp σ i) 0) i) - 1))) th kp)) hx hb hK hW 2 rfl (3 + i) (by omega) (by omega) (by decide) (by rw [nowf_p0 _ _ (show i < 10 by omega)]; rfl) dX2_beat_210 (fun H locs hW => ?_)
                    refine lv_goto (tgt := 250) hx hb dX2_beat_211 (by decide) ?_
                    refine jv_iinc (k := 1) (z := (i : Int)) (lv' := [(6, .int (J ((i : Int) + 1))), (7, .int (J (((lp σ i) 2) i))), (5, .int (J (bi (decide (σ 5 0 % 3 = 0))))), (4, .int (J (bi (decide (σ 5 0 % 4 = 0))))), (3, .int (J (bi (cadb σ)))), (2, .int (J (ccl σ))), (1, .int (J (stn σ : Int))), (0, .ref (a 0))]) hx hb dX2_beat_250 hl rfl (by decide) rfl (fun ls hl => ?_)
                    refine lv_goto (tgt := 73) hx hb dX2_beat_253 (by decide) ?_
                    exact ih (i + 1) (by omega) (by omega)  _ _ _  (by have e4 := of_decide_eq_true h_10; rw [lp_sn (hst1 h_7), wear_ft (by omega) (by omega)]; exact hW) (lv_sub hl [0, 2, 3, 4, 5, 6, 7] rfl)
                · skip
                  refine lv_aload_n hx hb dX2_beat_154 rfl (lv_at hl 7 rfl) ?_
                  refine jv_get (T := TX2) (N := 6) (v := .ref (a 2)) hx hb hts hn2 hown hK hW 0 rfl rfl 4 (by decide) (List.mem_of_getElem? (i := 1) rfl) rfl dX2_beat_155 ?_
                  refine jv_bipush hx hb 23 dX2_beat_158 (by decide +kernel) ?_
                  refine lv_iload hx hb dX2_beat_160 (lv_at hl 1 rfl) ?_
                  refine jv_iadd hx hb dX2_beat_162 ?_
                  refine jv_bipush hx hb 9 dX2_beat_163 (by decide +kernel) ?_
                  refine lv_iload hx hb dX2_beat_165 (lv_at hl 0 rfl) ?_
                  refine jv_iconst hx hb dX2_beat_167 ?_
                  refine jv_iadd hx hb dX2_beat_168 ?_
                  refine jv_min hx hb hown hml hl hts (List.mem_of_getElem? (i := 7) rfl) (List.mem_of_getElem? (i := 8) rfl) (List.mem_of_getElem? (i := 5) rfl) (List.mem_of_getElem? (i := 9) rfl) (Nat.le_of_ble_eq_true rfl) (Nat.le_of_ble_eq_true rfl) (by first | exact Nat.le_of_ble_eq_true rfl | omega) (by first | exact Nat.le_of_ble_eq_true rfl | omega) ⟨by omega, by omega⟩ ⟨by omega, by omega⟩ dX2_beat_169 ?_
                  refine jv_iast (g := (nowf (up (lp σ i) 1 i (max 0 (((((lp σ i) 1) i) - 1) - ((((lp σ i) 2) i) / 3)))))) (ws' := (WM κ a (up (up (lp σ i) 1 i (max 0 (((((lp σ i) 1) i) - 1) - ((((lp σ i) 2) i) / 3)))) 2 i (min 9 ((((lp σ i) 2) i) + 1))) th kp)) hx hb hK hW 2 rfl (23 + i) (by omega) (by omega) (by decide) (by rw [nowf_p2 _ _ (show i < 10 by omega)]; rfl) dX2_beat_172 (fun H locs hW => ?_)
                  refine lv_aload_n hx hb dX2_beat_173 rfl (lv_at hl 7 rfl) ?_
                  refine jv_get (T := TX2) (N := 6) (v := .ref (a 2)) hx hb hts hn2 hown hK hW 0 rfl rfl 4 (by decide) (List.mem_of_getElem? (i := 1) rfl) rfl dX2_beat_174 ?_
                  refine jv_bipush hx hb 23 dX2_beat_177 (by decide +kernel) ?_
                  refine lv_iload hx hb dX2_beat_179 (lv_at hl 1 rfl) ?_
                  refine jv_iadd hx hb dX2_beat_181 ?_
                  refine jv_iald (g := (nowf (up (up (lp σ i) 1 i (max 0 (((((lp σ i) 1) i) - 1) - ((((lp σ i) 2) i) / 3)))) 2 i (min 9 ((((lp σ i) 2) i) + 1))))) hx hb hK hW 2 rfl (23 + i) (by omega) (by omega) (by decide) dX2_beat_182 ?_
                  refine jv_eq (y := (min 9 ((((lp σ i) 2) i) + 1))) ((nowf_r2 _ (by omega)).trans (upi_s _ _ _)) ?_
                  refine jv_iconst hx hb dX2_beat_183 ?_
                  refine jv_icmp_lt hx hb 250 dX2_beat_184 (by decide) ⟨by omega, by omega⟩ ⟨by omega, by omega⟩ (fun h_14 => ?_) (fun h_14 => ?_)
                  · skip
                    refine jv_iinc (k := 1) (z := (i : Int)) (lv' := [(6, .int (J ((i : Int) + 1))), (7, .int (J (((lp σ i) 2) i))), (5, .int (J (bi (decide (σ 5 0 % 3 = 0))))), (4, .int (J (bi (decide (σ 5 0 % 4 = 0))))), (3, .int (J (bi (cadb σ)))), (2, .int (J (ccl σ))), (1, .int (J (stn σ : Int))), (0, .ref (a 0))]) hx hb dX2_beat_250 hl rfl (by decide) rfl (fun ls hl => ?_)
                    refine lv_goto (tgt := 73) hx hb dX2_beat_253 (by decide) ?_
                    exact ih (i + 1) (by omega) (by omega)  _ _ _  (by have e4 := of_decide_eq_true h_10; rw [lp_sn (hst1 h_7), wear_tf (by omega) (by omega)]; exact hW) (lv_sub hl [0, 2, 3, 4, 5, 6, 7] rfl)
                  · skip
                    refine lv_aload_n hx hb dX2_beat_187 rfl (lv_at hl 7 rfl) ?_
                    refine jv_get (T := TX2) (N := 6) (v := .ref (a 2)) hx hb hts hn2 hown hK hW 0 rfl rfl 4 (by decide) (List.mem_of_getElem? (i := 1) rfl) rfl dX2_beat_188 ?_
                    refine jv_iconst hx hb dX2_beat_191 ?_
                    refine lv_iload hx hb dX2_beat_192 (lv_at hl 1 rfl) ?_
                    refine jv_iadd hx hb dX2_beat_194 ?_
                    refine jv_iconst hx hb dX2_beat_195 ?_
                    refine lv_aload_n hx hb dX2_beat_196 rfl (lv_at hl 7 rfl) ?_
                    refine jv_get (T := TX2) (N := 6) (v := .ref (a 2)) hx hb hts hn2 hown hK hW 0 rfl rfl 4 (by decide) (List.mem_of_getElem? (i := 1) rfl) rfl dX2_beat_197 ?_
                    refine jv_iconst hx hb dX2_beat_200 ?_
                    refine lv_iload hx hb dX2_beat_201 (lv_at hl 1 rfl) ?_
                    refine jv_iadd hx hb dX2_beat_203 ?_
                    refine jv_iald (g := (nowf (up (up (lp σ i) 1 i (max 0 (((((lp σ i) 1) i) - 1) - ((((lp σ i) 2) i) / 3)))) 2 i (min 9 ((((lp σ i) 2) i) + 1))))) hx hb hK hW 2 rfl (3 + i) (by omega) (by omega) (by decide) dX2_beat_204 ?_
                    refine jv_eq (y := (((lp σ i) 0) i)) (nowf_r0 _ (by omega)) ?_
                    refine jv_iconst hx hb dX2_beat_205 ?_
                    refine jv_isub hx hb dX2_beat_206 ?_
                    refine jv_max hx hb hown hml hl hts (List.mem_of_getElem? (i := 3) rfl) (List.mem_of_getElem? (i := 4) rfl) (List.mem_of_getElem? (i := 5) rfl) (List.mem_of_getElem? (i := 6) rfl) (Nat.le_of_ble_eq_true rfl) (Nat.le_of_ble_eq_true rfl) (by first | exact Nat.le_of_ble_eq_true rfl | omega) (by first | exact Nat.le_of_ble_eq_true rfl | omega) ⟨by omega, by omega⟩ ⟨by omega, by omega⟩ dX2_beat_207 ?_
                    refine jv_iast (g := (nowf (up (up (lp σ i) 1 i (max 0 (((((lp σ i) 1) i) - 1) - ((((lp σ i) 2) i) / 3)))) 2 i (min 9 ((((lp σ i) 2) i) + 1))))) (ws' := (WM κ a (up (up (up (lp σ i) 1 i (max 0 (((((lp σ i) 1) i) - 1) - ((((lp σ i) 2) i) / 3)))) 2 i (min 9 ((((lp σ i) 2) i) + 1))) 0 i (max 0 ((((lp σ i) 0) i) - 1))) th kp)) hx hb hK hW 2 rfl (3 + i) (by omega) (by omega) (by decide) (by rw [nowf_p0 _ _ (show i < 10 by omega)]; rfl) dX2_beat_210 (fun H locs hW => ?_)
                    refine lv_goto (tgt := 250) hx hb dX2_beat_211 (by decide) ?_
                    refine jv_iinc (k := 1) (z := (i : Int)) (lv' := [(6, .int (J ((i : Int) + 1))), (7, .int (J (((lp σ i) 2) i))), (5, .int (J (bi (decide (σ 5 0 % 3 = 0))))), (4, .int (J (bi (decide (σ 5 0 % 4 = 0))))), (3, .int (J (bi (cadb σ)))), (2, .int (J (ccl σ))), (1, .int (J (stn σ : Int))), (0, .ref (a 0))]) hx hb dX2_beat_250 hl rfl (by decide) rfl (fun ls hl => ?_)
                    refine lv_goto (tgt := 73) hx hb dX2_beat_253 (by decide) ?_
                    exact ih (i + 1) (by omega) (by omega)  _ _ _  (by have e4 := of_decide_eq_true h_10; rw [lp_sn (hst1 h_7), wear_tt (by omega) (by omega)]; exact hW) (lv_sub hl [0, 2, 3, 4, 5, 6, 7] rfl)
      refine lv_aload_n hx hb dX2_beat_52 rfl (lv_at hl 4 rfl) ?_
      refine jv_get (T := TX2) (N := 6) (v := .ref (a 2)) hx hb hts hn2 hown hK hW 0 rfl rfl 4 (by decide) (List.mem_of_getElem? (i := 1) rfl) rfl dX2_beat_53 ?_
      refine jv_iconst hx hb dX2_beat_56 ?_
      refine jv_iald (g := (nowf σ)) hx hb hK hW 2 rfl 0 rfl (by omega) (by decide) dX2_beat_57 ?_
      refine jv_eq (y := (σ 5 0)) (nowf_s0 _) ?_
      refine jv_iconst hx hb dX2_beat_58 ?_
      refine jv_irem hx hb dX2_beat_59 (by omega) ?_
      refine jv_if_ne hx hb 67 dX2_beat_60 (by decide) ⟨by omega, by omega⟩ (fun h_15 => ?_) (fun h_15 => ?_)
      · skip
        refine jv_iconst hx hb dX2_beat_67 ?_
        refine jv_eq (y := bi (decide (σ 5 0 % 3 = 0))) (by rw [decide_eq_false (by omega)]; rfl) ?_
        exact j68 _ _ _ hW hl
      · skip
        refine jv_iconst hx hb dX2_beat_63 ?_
        refine lv_goto (tgt := 68) hx hb dX2_beat_64 (by decide) ?_
        refine jv_eq (y := bi (decide (σ 5 0 % 3 = 0))) (by rw [decide_eq_true (by omega)]; rfl) ?_
        exact j68 _ _ _ hW hl
    refine lv_aload_n hx hb dX2_beat_34 rfl (lv_at hl 3 rfl) ?_
    refine jv_get (T := TX2) (N := 6) (v := .ref (a 2)) hx hb hts hn2 hown hK hW 0 rfl rfl 4 (by decide) (List.mem_of_getElem? (i := 1) rfl) rfl dX2_beat_35 ?_
    refine jv_iconst hx hb dX2_beat_38 ?_
    refine jv_iald (g := (nowf σ)) hx hb hK hW 2 rfl 0 rfl (by omega) (by decide) dX2_beat_39 ?_
    refine jv_eq (y := (σ 5 0)) (nowf_s0 _) ?_
    refine jv_iconst hx hb dX2_beat_40 ?_
    refine jv_irem hx hb dX2_beat_41 (by omega) ?_
    refine jv_if_ne hx hb 49 dX2_beat_42 (by decide) ⟨by omega, by omega⟩ (fun h_16 => ?_) (fun h_16 => ?_)
    · skip
      refine jv_iconst hx hb dX2_beat_49 ?_
      refine jv_eq (y := bi (decide (σ 5 0 % 4 = 0))) (by rw [decide_eq_false (by omega)]; rfl) ?_
      exact j50 _ _ _ hW hl
    · skip
      refine jv_iconst hx hb dX2_beat_45 ?_
      refine lv_goto (tgt := 50) hx hb dX2_beat_46 (by decide) ?_
      refine jv_eq (y := bi (decide (σ 5 0 % 4 = 0))) (by rw [decide_eq_true (by omega)]; rfl) ?_
      exact j50 _ _ _ hW hl
  refine lv_aload_n hx hb dX2_beat_11 rfl (lv_at hl 2 rfl) ?_
  refine jv_get (T := TX2) (N := 6) (v := .ref (a 2)) hx hb hts hn2 hown hK hW 0 rfl rfl 4 (by decide) (List.mem_of_getElem? (i := 1) rfl) rfl dX2_beat_12 ?_
  refine jv_iconst hx hb dX2_beat_15 ?_
  refine jv_iald (g := (nowf σ)) hx hb hK hW 2 rfl 2 rfl (by omega) (by decide) dX2_beat_16 ?_
  refine jv_eq (y := (σ 5 2)) (nowf_s2 _) ?_
  refine jv_iconst hx hb dX2_beat_17 ?_
  refine jv_icmp_ne hx hb 32 dX2_beat_18 (by decide) ⟨by omega, by omega⟩ ⟨by omega, by omega⟩ (fun h_17 => ?_) (fun h_17 => ?_)
  · skip
    refine jv_iconst hx hb dX2_beat_32 ?_
    refine jv_eq (y := bi (cadb σ)) (by rw [show cadb σ = false by unfold cadb; rw [decide_eq_false (by omega)]; rfl]; rfl) ?_
    exact j33 _ _ _ hW hl
  · skip
    refine lv_aload_n hx hb dX2_beat_21 rfl (lv_at hl 2 rfl) ?_
    refine fin_i (k := 0) (n := 0) (W2 := (fun _ => (WM κ a σ th kp))) [0, 1, 2, 3] [] [0, 1, 2, 3] hW hA (va_runV (As := []) (rest := []) F ((m_X2_clear l κ a σ th kp  hI) _) (cwV 0 hts gX2_beat_X2_clear rfl rfl rfl (by decide +kernel) ⟨(Nat.le_of_ble_eq_true rfl), (Nat.le_of_ble_eq_true rfl)⟩) (pre_V hK hW [0, 1, 2, 3] rfl (by decide) 2 0 rfl rfl) rfl rfl hl.1 rfl (lv_room (Nat.le_of_ble_eq_true rfl)) dX2_beat_22 ⟨(by first | exact Nat.le_of_ble_eq_true rfl | omega | (dsimp only [rm_X2_beat, rm_X2_clear]; omega)), (by first | exact Nat.le_of_ble_eq_true rfl | omega | (dsimp only [rm_X2_beat, rm_X2_clear]; omega))⟩) rfl rfl rfl (by decide) rfl (fun _ => rfl) (by first | exact Nat.le_of_ble_eq_true rfl | omega | (dsimp only [rm_X2_beat, rm_X2_clear]; omega)) (by first | exact Nat.le_of_ble_eq_true rfl | omega | (dsimp only [rm_X2_beat, rm_X2_clear]; omega)) (fun r_19 u H locs hp_18 hW => ?_)
    subst hp_18
    refine jv_ifb_eq (b := (ic σ)) hx hb 32 dX2_beat_25 (by decide) (fun h_20 => ?_) (fun h_20 => ?_)
    · skip
      refine jv_iconst hx hb dX2_beat_32 ?_
      refine jv_eq (y := bi (cadb σ)) (by rw [show cadb σ = false by unfold cadb; rw [h_20]; exact Bool.and_false _]; rfl) ?_
      exact j33 _ _ _ hW hl
    · skip
      refine jv_iconst hx hb dX2_beat_28 ?_
      refine lv_goto (tgt := 33) hx hb dX2_beat_29 (by decide) ?_
      refine jv_eq (y := bi (cadb σ)) (by rw [show cadb σ = true by unfold cadb; rw [h_20, decide_eq_true (by omega)]; rfl]; rfl) ?_
      exact j33 _ _ _ hW hl

abbrev rm_X2_beats : Room := { frames := 7, cells := 0, slots := 0, locals := 159 }
set_option maxHeartbeats 4000000 in
set_option maxRecDepth 100000 in
/-- beats -/
theorem m_X2_beats (l : Launch) (κ : Kp) (a : Nat → Nat) (σ : Sg) (th : Int) (kp : Nat → Int) (k : Nat) (hk : k ≤ 60) (hI : Inv σ) (hB : σ 5 0 ≤ 100000000) : CGi l yX2_beats wsX2_beats rm_X2_beats κ [.ref (a 0), .int (J (k : Int))] (WM κ a σ th kp) (fun r _ => r = J (pbn σ k 5 1 - σ 5 1)) (fun (_ : Unit) => WM κ a (pbn σ k) th kp) := by
  refine entry_i (by decide) rfl (Nat.le_of_ble_eq_true rfl) ?_
  intro P e s m args below meth c ls A Q F hname hK hA hret hW hl
  obtain ⟨hx, hb, hml, hown, hts⟩ := id F
  refine jv_iconst hx hb dX2_beats_0 ?_
  refine lv_istore_n (lv' := [(2, .int (J 0)), (0, .ref (a 0)), (1, .int (J (k : Int)))]) hx hb dX2_beats_1 rfl hl (by decide) rfl (fun ls hl => ?_)
  refine jv_iconst hx hb dX2_beats_2 ?_
  refine lv_istore_n (lv' := [(3, .int (J 0)), (2, .int (J 0)), (0, .ref (a 0)), (1, .int (J (k : Int)))]) hx hb dX2_beats_3 rfl hl (by decide) rfl (fun ls hl => ?_)
  suffices hlp : ∀ (n i : Nat), i ≤ k → k < i + n → ∀ (f : Int), ∀ (H : Heap) (locs : List Loc) (ls : Array Slot), (f = pbn σ i 5 1 - σ 5 1) → St κ A s.heap H locs (WM κ a (pbn σ i) th kp) → lv_has ls 4 [(3, .int (J (i : Int))), (2, .int (J f)), (0, .ref (a 0)), (1, .int (J (k : Int)))] → W P l e rm_X2_beats s m args below meth c H locs 0 0 Q (F0 m 4 ls []) from
    hlp (k + 1) 0 (Nat.zero_le _) (by omega) 0 _ _ _ (by show (0 : Int) = σ 5 1 - σ 5 1; omega) hW hl
  intro n
  induction n with
  | zero => intro i h1 h2; exact absurd h2 (by omega)
  | succ n ih =>
    intro i hi hn f H locs ls q_f hW hl
    have hIi := hI.hpbn i
    have h5 := pbn_50 σ i
    refine lv_iload_n hx hb dX2_beats_4 rfl (lv_at hl 0 rfl) ?_
    refine lv_iload_n hx hb dX2_beats_5 rfl (lv_at hl 3 rfl) ?_
    refine jv_icmp_ge hx hb 22 dX2_beats_6 (by decide) ⟨by omega, by omega⟩ ⟨by omega, by omega⟩ (fun h_1 => ?_) (fun h_1 => ?_)
    · skip
      refine lv_iload_n hx hb dX2_beats_22 rfl (lv_at hl 1 rfl) ?_
      exact hret () (by rw [show i = k by omega] at hW; exact hW) dX2_beats_23 (by first | exact Nat.le_of_ble_eq_true rfl | omega | (dsimp only [rm_X2_beats]; omega)) (by first | exact Nat.le_of_ble_eq_true rfl | omega | (dsimp only [rm_X2_beats]; omega)) (by rw [q_f, show i = k by omega])
    · skip
      refine lv_iload_n hx hb dX2_beats_9 rfl (lv_at hl 1 rfl) ?_
      refine lv_aload_n hx hb dX2_beats_10 rfl (lv_at hl 2 rfl) ?_
      refine fin_i (k := 0) (n := 0) (W2 := (fun _ => (WM κ a (pb (pbn σ i)) th kp))) [0, 1, 2, 3] [] [0, 1, 2, 3] hW hA (va_runV (As := []) (rest := [.int (J f)]) F ((m_X2_beat l κ a (pbn σ i) th kp  hIi (by omega)) _) (cwV 0 hts gX2_beats_X2_beat rfl rfl rfl (by decide +kernel) ⟨(Nat.le_of_ble_eq_true rfl), (Nat.le_of_ble_eq_true rfl)⟩) (pre_V hK hW [0, 1, 2, 3] rfl (by decide) 2 0 rfl rfl) rfl rfl hl.1 rfl (lv_room (Nat.le_of_ble_eq_true rfl)) dX2_beats_11 ⟨(by first | exact Nat.le_of_ble_eq_true rfl | omega | (dsimp only [rm_X2_beats, rm_X2_beat]; omega)), (by first | exact Nat.le_of_ble_eq_true rfl | omega | (dsimp only [rm_X2_beats, rm_X2_beat]; omega))⟩) rfl rfl rfl (by decide) rfl (fun _ => rfl) (by first | exact Nat.le_of_ble_eq_true rfl | omega | (dsimp only [rm_X2_beats, rm_X2_beat]; omega)) (by first | exact Nat.le_of_ble_eq_true rfl | omega | (dsimp only [rm_X2_beats, rm_X2_beat]; omega)) (fun r_3 u H locs hp_2 hW => ?_)
      subst hp_2
      refine jv_iadd hx hb dX2_beats_14 ?_
      refine lv_istore_n (lv' := [(2, .int (J (f + (bi (cadb (pbn σ i)))))), (3, .int (J (i : Int))), (0, .ref (a 0)), (1, .int (J (k : Int)))]) hx hb dX2_beats_15 rfl hl (by decide) rfl (fun ls hl => ?_)
      refine jv_iinc (k := 1) (z := (i : Int)) (lv' := [(3, .int (J ((i : Int) + 1))), (2, .int (J (f + (bi (cadb (pbn σ i)))))), (0, .ref (a 0)), (1, .int (J (k : Int)))]) hx hb dX2_beats_16 hl rfl (by decide) rfl (fun ls hl => ?_)
      refine lv_goto (tgt := 4) hx hb dX2_beats_19 (by decide) ?_
      exact ih (i + 1) (by omega) (by omega) (f + (bi (cadb (pbn σ i)))) _ _ _ (by rw [pbn_cad]; omega) hW hl

abbrev rm_X2_low : Room := { frames := 1, cells := 0, slots := 0, locals := 21 }
set_option maxHeartbeats 4000000 in
set_option maxRecDepth 100000 in
/-- low -/
theorem m_X2_low (l : Launch) (κ : Kp) (a : Nat → Nat) (σ : Sg) (th : Int) (kp : Nat → Int) (hI : Inv σ) : CGi l yX2_low wsX2_low rm_X2_low κ [.ref (a 0)] (WM κ a σ th kp) (fun r _ => r = J (fl σ)) (fun (_ : Unit) => (WM κ a σ th kp)) := by
  refine entry_i (by decide) rfl (Nat.le_of_ble_eq_true rfl) ?_
  intro P e s m args below meth c ls A Q F hname hK hA hret hW hl
  obtain ⟨hx, hb, hml, hown, hts⟩ := id F
  have hn2 : ∀ w ∈ wsX20, w ∈ wsX2_low := by decide +kernel
  have hN := hI.hN
  have hN10 := hI.n10
  have hnn := hI.1
  have hcm := cmn_lt σ
  refine jv_iconst hx hb dX2_low_0 ?_
  refine lv_istore_n (lv' := [(1, .int (J (-1))), (0, .ref (a 0))]) hx hb dX2_low_1 rfl hl (by decide) rfl (fun ls hl => ?_)
  refine jv_iconst hx hb dX2_low_2 ?_
  refine lv_istore_n (lv' := [(2, .int (J 0)), (1, .int (J (-1))), (0, .ref (a 0))]) hx hb dX2_low_3 rfl hl (by decide) rfl (fun ls hl => ?_)
  suffices hlp : ∀ (n i : Nat), i ≤ (nn σ) → (nn σ) < i + n → ∀ (x : Int), ∀ (H : Heap) (locs : List Loc) (ls : Array Slot), (-1 ≤ x ∧ x ≤ 10) → (∃ y : Int, flr σ i = (x, y) ∧ ((x = -1 ∧ y = 36) ∨ ∃ b : Nat, b < i ∧ x = (b : Int) ∧ y = σ 0 b)) → St κ A s.heap H locs (WM κ a σ th kp) → lv_has ls 3 [(2, .int (J (i : Int))), (1, .int (J x)), (0, .ref (a 0))] → W P l e rm_X2_low s m args below meth c H locs 0 0 Q (F0 m 4 ls []) from
    hlp ((nn σ) + 1) 0 (Nat.zero_le _) (by omega) (-1) _ _ _ (by omega) (⟨36, rfl, Or.inl ⟨rfl, rfl⟩⟩) hW hl
  intro n
  induction n with
  | zero => intro i h1 h2; exact absurd h2 (by omega)
  | succ n ih =>
    intro i hi hn x H locs ls q_x hq hW hl
    obtain ⟨y, q, hbq⟩ := hq
    refine lv_iload_n hx hb dX2_low_4 rfl (lv_at hl 0 rfl) ?_
    refine lv_aload_n hx hb dX2_low_5 rfl (lv_at hl 2 rfl) ?_
    refine jv_get (T := TX2) (N := 6) (v := .int (J (σ 5 3))) hx hb hts hn2 hown hK hW 0 rfl rfl 1 (by decide) (List.mem_of_getElem? (i := 1) rfl) rfl dX2_low_6 ?_
    refine jv_icmp_ge hx hb 52 dX2_low_9 (by decide) ⟨by omega, by omega⟩ ⟨by omega, by omega⟩ (fun h_1 => ?_) (fun h_1 => ?_)
    · skip
      refine lv_iload_n hx hb dX2_low_52 rfl (lv_at hl 1 rfl) ?_
      exact hret () hW dX2_low_53 (by first | exact Nat.le_of_ble_eq_true rfl | omega | (dsimp only [rm_X2_low]; omega)) (by first | exact Nat.le_of_ble_eq_true rfl | omega | (dsimp only [rm_X2_low]; omega)) (by rw [show x = fl σ by unfold fl; rw [← show i = nn σ by omega, q]])
    · skip
      have hbi := hI.at i (by omega)
      refine lv_aload_n hx hb dX2_low_12 rfl (lv_at hl 2 rfl) ?_
      refine lv_iload_n hx hb dX2_low_13 rfl (lv_at hl 0 rfl) ?_
      refine fin_i (k := 0) (n := 0) (W2 := (fun _ => (WM κ a σ th kp))) [0, 1, 2, 3] [] [0, 1, 2, 3] hW hA (va_runV (As := [.int (J (i : Int))]) (rest := []) F ((m_X2_heard l κ a σ th kp i (by omega) hI) _) (cwV 1 hts gX2_low_X2_heard rfl rfl rfl (by decide +kernel) ⟨(Nat.le_of_ble_eq_true rfl), (Nat.le_of_ble_eq_true rfl)⟩) (pre_V hK hW [0, 1, 2, 3] rfl (by decide) 2 0 rfl rfl) rfl rfl hl.1 rfl (lv_room (Nat.le_of_ble_eq_true rfl)) dX2_low_14 ⟨(by first | exact Nat.le_of_ble_eq_true rfl | omega | (dsimp only [rm_X2_low, rm_X2_heard]; omega)), (by first | exact Nat.le_of_ble_eq_true rfl | omega | (dsimp only [rm_X2_low, rm_X2_heard]; omega))⟩) rfl rfl rfl (by decide) rfl (fun _ => rfl) (by first | exact Nat.le_of_ble_eq_true rfl | omega | (dsimp only [rm_X2_low, rm_X2_heard]; omega)) (by first | exact Nat.le_of_ble_eq_true rfl | omega | (dsimp only [rm_X2_low, rm_X2_heard]; omega)) (fun r_3 u H locs hp_2 hW => ?_)
      subst hp_2
      refine jv_ifb_eq (b := (sn σ i)) hx hb 46 dX2_low_17 (by decide) (fun h_4 => ?_) (fun h_4 => ?_)
      · skip
        refine jv_iinc (k := 0) (z := (i : Int)) (lv' := [(2, .int (J ((i : Int) + 1))), (1, .int (J x)), (0, .ref (a 0))]) hx hb dX2_low_46 hl rfl (by decide) rfl (fun ls hl => ?_)
        refine lv_goto (tgt := 4) hx hb dX2_low_49 (by decide) ?_
        exact ih (i + 1) (by omega) (by omega) x _ _ _ (by omega) (⟨_, flr_n q (by rw [h_4]; exact fun h => absurd h.1 (by decide)), hbq.imp id (fun ⟨b, h1, h2, h3⟩ => ⟨b, by omega, h2, h3⟩)⟩) hW hl
      · skip
        refine lv_iload_n hx hb dX2_low_20 rfl (lv_at hl 1 rfl) ?_
        refine jv_iconst hx hb dX2_low_21 ?_
        refine jv_icmp_eq hx hb 44 dX2_low_22 (by decide) ⟨by omega, by omega⟩ ⟨by omega, by omega⟩ (fun h_5 => ?_) (fun h_5 => ?_)
        · skip
          refine lv_iload_n hx hb dX2_low_44 rfl (lv_at hl 0 rfl) ?_
          refine lv_istore_n (lv' := [(1, .int (J (i : Int))), (2, .int (J (i : Int))), (0, .ref (a 0))]) hx hb dX2_low_45 rfl hl (by decide) rfl (fun ls hl => ?_)
          refine jv_iinc (k := 1) (z := (i : Int)) (lv' := [(2, .int (J ((i : Int) + 1))), (1, .int (J (i : Int))), (0, .ref (a 0))]) hx hb dX2_low_46 hl rfl (by decide) rfl (fun ls hl => ?_)
          refine lv_goto (tgt := 4) hx hb dX2_low_49 (by decide) ?_
          exact ih (i + 1) (by omega) (by omega) (i : Int) _ _ _ (by omega) (⟨σ 0 i, flr_y q h_4 (by rcases hbq with h | ⟨b, h1, h2, h3⟩ <;> omega), Or.inr ⟨i, by omega, rfl, rfl⟩⟩) hW hl
        · skip
          obtain ⟨b, hb1, rfl, rfl⟩ := hbq.resolve_left (fun h => by omega)
          have hbb := hI.at b (by omega)
          refine lv_aload_n hx hb dX2_low_25 rfl (lv_at hl 2 rfl) ?_
          refine jv_get (T := TX2) (N := 6) (v := .ref (a 2)) hx hb hts hn2 hown hK hW 0 rfl rfl 4 (by decide) (List.mem_of_getElem? (i := 2) rfl) rfl dX2_low_26 ?_
          refine jv_iconst hx hb dX2_low_29 ?_
          refine lv_iload_n hx hb dX2_low_30 rfl (lv_at hl 0 rfl) ?_
          refine jv_iadd hx hb dX2_low_31 ?_
          refine jv_iald (g := (nowf σ)) hx hb hK hW 2 rfl (3 + i) (by omega) (by omega) (by decide) dX2_low_32 ?_
          refine jv_eq (y := (σ 0 i)) (nowf_r0 _ (by omega)) ?_
          refine lv_aload_n hx hb dX2_low_33 rfl (lv_at hl 2 rfl) ?_
          refine jv_get (T := TX2) (N := 6) (v := .ref (a 2)) hx hb hts hn2 hown hK hW 0 rfl rfl 4 (by decide) (List.mem_of_getElem? (i := 2) rfl) rfl dX2_low_34 ?_
          refine jv_iconst hx hb dX2_low_37 ?_
          refine lv_iload_n hx hb dX2_low_38 rfl (lv_at hl 1 rfl) ?_
          refine jv_iadd hx hb dX2_low_39 ?_
          refine jv_iald (g := (nowf σ)) hx hb hK hW 2 rfl (3 + b) (by omega) (by omega) (by decide) dX2_low_40 ?_
          refine jv_eq (y := (σ 0 b)) (nowf_r0 _ (by omega)) ?_
          refine jv_icmp_ge hx hb 46 dX2_low_41 (by decide) ⟨by omega, by omega⟩ ⟨by omega, by omega⟩ (fun h_6 => ?_) (fun h_6 => ?_)
          · skip
            refine jv_iinc (k := 0) (z := (i : Int)) (lv' := [(2, .int (J ((i : Int) + 1))), (1, .int (J (b : Int))), (0, .ref (a 0))]) hx hb dX2_low_46 hl rfl (by decide) rfl (fun ls hl => ?_)
            refine lv_goto (tgt := 4) hx hb dX2_low_49 (by decide) ?_
            exact ih (i + 1) (by omega) (by omega) (b : Int) _ _ _ (by omega) (⟨_, flr_n q (fun h => by have := h.2; omega), Or.inr ⟨b, by omega, rfl, rfl⟩⟩) hW hl
          · skip
            refine lv_iload_n hx hb dX2_low_44 rfl (lv_at hl 0 rfl) ?_
            refine lv_istore_n (lv' := [(1, .int (J (i : Int))), (2, .int (J (i : Int))), (0, .ref (a 0))]) hx hb dX2_low_45 rfl hl (by decide) rfl (fun ls hl => ?_)
            refine jv_iinc (k := 1) (z := (i : Int)) (lv' := [(2, .int (J ((i : Int) + 1))), (1, .int (J (i : Int))), (0, .ref (a 0))]) hx hb dX2_low_46 hl rfl (by decide) rfl (fun ls hl => ?_)
            refine lv_goto (tgt := 4) hx hb dX2_low_49 (by decide) ?_
            exact ih (i + 1) (by omega) (by omega) (i : Int) _ _ _ (by omega) (⟨σ 0 i, flr_y q h_4 (by omega), Or.inr ⟨i, by omega, rfl, rfl⟩⟩) hW hl

abbrev rm_X2_keep : Room := { frames := 1, cells := 0, slots := 0, locals := 40 }
set_option maxHeartbeats 4000000 in
set_option maxRecDepth 100000 in
/-- keep -/
theorem m_X2_keep (l : Launch) (κ : Kp) (a : Nat → Nat) (σ : Sg) (th : Int) (kp : Nat → Int) (hI : Inv σ) : CGv l yX2_keep wsX2_keep rm_X2_keep κ [.ref (a 0)] (WM κ a σ th kp) (fun (_ : Unit) => True) (fun (_ : Unit) => WM κ a σ th (nowf σ)) := by
  refine entry_v (by decide) rfl (Nat.le_of_ble_eq_true rfl) ?_
  intro P e s m args below meth c ls A Q F hname hK hA hret hW hl
  obtain ⟨hx, hb, hml, hown, hts⟩ := id F
  have hn2 : ∀ w ∈ wsX20, w ∈ wsX2_keep := by decide +kernel
  refine lv_aload_n hx hb dX2_keep_0 rfl (lv_at hl 0 rfl) ?_
  refine jv_get (T := TX2) (N := 6) (v := .ref (a 2)) hx hb hts hn2 hown hK hW 0 rfl rfl 4 (by decide) (List.mem_of_getElem? (i := 1) rfl) rfl dX2_keep_1 ?_
  refine jv_iconst hx hb dX2_keep_4 ?_
  refine lv_aload_n hx hb dX2_keep_5 rfl (lv_at hl 0 rfl) ?_
  refine jv_get (T := TX2) (N := 6) (v := .ref (a 3)) hx hb hts hn2 hown hK hW 0 rfl rfl 5 (by decide) (List.mem_of_getElem? (i := 2) rfl) rfl dX2_keep_6 ?_
  refine jv_iconst hx hb dX2_keep_9 ?_
  refine jv_bipush hx hb 33 dX2_keep_10 (by decide +kernel) ?_
  refine jv_copy (f := (nowf σ)) (g := kp) (n := 33) (ws' := (WM κ a σ th (nowf σ))) hx hb hown hml hl hts (List.mem_of_getElem? (i := 3) rfl) (List.mem_of_getElem? (i := 4) rfl) (List.mem_of_getElem? (i := 5) rfl) (List.mem_of_getElem? (i := 6) rfl) hK hW 2 3 0 rfl rfl rfl rfl (by decide) (fun _ _ => rfl) (Nat.le_of_ble_eq_true rfl) (by first | exact Nat.le_of_ble_eq_true rfl | decide +kernel) rfl dX2_keep_12 (fun H locs hW => ?_)
  exact hret () hW dX2_keep_15 (by first | exact Nat.le_of_ble_eq_true rfl | omega | (dsimp only [rm_X2_keep]; omega)) (by first | exact Nat.le_of_ble_eq_true rfl | omega | (dsimp only [rm_X2_keep]; omega)) trivial

abbrev rm_X2_bringBack : Room := { frames := 1, cells := 0, slots := 0, locals := 40 }
set_option maxHeartbeats 4000000 in
set_option maxRecDepth 100000 in
/-- bringBack -/
theorem m_X2_bringBack (l : Launch) (κ : Kp) (a : Nat → Nat) (τ σ : Sg) (th : Int) (h3 : τ 3 = σ 3) (h4 : τ 4 = σ 4) (h5 : τ 5 3 = σ 5 3) : CGv l yX2_bringBack wsX2_bringBack rm_X2_bringBack κ [.ref (a 0)] (WM κ a τ th (nowf σ)) (fun (_ : Unit) => True) (fun (_ : Unit) => WM κ a σ th (nowf σ)) := by
  refine entry_v (by decide) rfl (Nat.le_of_ble_eq_true rfl) ?_
  intro P e s m args below meth c ls A Q F hname hK hA hret hW hl
  obtain ⟨hx, hb, hml, hown, hts⟩ := id F
  have hn2 : ∀ w ∈ wsX20, w ∈ wsX2_bringBack := by decide +kernel
  refine lv_aload_n hx hb dX2_bringBack_0 rfl (lv_at hl 0 rfl) ?_
  refine jv_get (T := TX2) (N := 6) (v := .ref (a 3)) hx hb hts hn2 hown hK hW 0 rfl rfl 5 (by decide) (List.mem_of_getElem? (i := 1) rfl) rfl dX2_bringBack_1 ?_
  refine jv_iconst hx hb dX2_bringBack_4 ?_
  refine lv_aload_n hx hb dX2_bringBack_5 rfl (lv_at hl 0 rfl) ?_
  refine jv_get (T := TX2) (N := 6) (v := .ref (a 2)) hx hb hts hn2 hown hK hW 0 rfl rfl 4 (by decide) (List.mem_of_getElem? (i := 2) rfl) rfl dX2_bringBack_6 ?_
  refine jv_iconst hx hb dX2_bringBack_9 ?_
  refine jv_bipush hx hb 33 dX2_bringBack_10 (by decide +kernel) ?_
  refine jv_copy (f := (nowf σ)) (g := (nowf τ)) (n := 33) (ws' := (WM κ a σ th (nowf σ))) hx hb hown hml hl hts (List.mem_of_getElem? (i := 3) rfl) (List.mem_of_getElem? (i := 4) rfl) (List.mem_of_getElem? (i := 5) rfl) (List.mem_of_getElem? (i := 6) rfl) hK hW 3 2 0 rfl rfl rfl rfl (by decide) (fun _ _ => rfl) (Nat.le_of_ble_eq_true rfl) (by first | exact Nat.le_of_ble_eq_true rfl | decide +kernel) (by unfold WM; rw [cmn_same h3, h4, h5]; rfl) dX2_bringBack_12 (fun H locs hW => ?_)
  exact hret () hW dX2_bringBack_15 (by first | exact Nat.le_of_ble_eq_true rfl | omega | (dsimp only [rm_X2_bringBack]; omega)) (by first | exact Nat.le_of_ble_eq_true rfl | omega | (dsimp only [rm_X2_bringBack]; omega)) trivial

abbrev rm_X2_thrown : Room := { frames := 0, cells := 0, slots := 0, locals := 0 }
set_option maxHeartbeats 4000000 in
set_option maxRecDepth 100000 in
/-- thrown -/
theorem m_X2_thrown (l : Launch) (κ : Kp) (a : Nat → Nat) (σ : Sg) (th : Int) (kp : Nat → Int) : CGi l yX2_thrown wsX2_thrown rm_X2_thrown κ [.ref (a 0)] (WM κ a σ th kp) (fun r (_ : Unit) => r = J th) (fun (_ : Unit) => (WM κ a σ th kp)) := by
  refine entry_i (by decide) rfl (Nat.le_of_ble_eq_true rfl) ?_
  intro P e s m args below meth c ls A Q F hname hK hA hret hW hl
  obtain ⟨hx, hb, hml, hown, hts⟩ := id F
  have hn2 : ∀ w ∈ wsX20, w ∈ wsX2_thrown := by decide +kernel
  refine lv_aload_n hx hb dX2_thrown_0 rfl (lv_at hl 0 rfl) ?_
  refine jv_get (T := TX2) (N := 6) (v := .int (J th)) hx hb hts hn2 hown hK hW 0 rfl rfl 0 (by decide) (List.mem_of_getElem? (i := 1) rfl) rfl dX2_thrown_1 ?_
  exact hret () hW dX2_thrown_4 (by first | exact Nat.le_of_ble_eq_true rfl | omega | (dsimp only [rm_X2_thrown]; omega)) (by first | exact Nat.le_of_ble_eq_true rfl | omega | (dsimp only [rm_X2_thrown]; omega)) rfl
