abbrev rm_X2_meanPitch : Room := { frames := 2, cells := 0, slots := 0, locals := 43 }
set_option maxHeartbeats 4000000 in
set_option maxRecDepth 100000 in
/-- meanPitch -/
theorem m_X2_meanPitch (l : Launch) (κ : Kp) (a : Nat → Nat) (σ : Sg) (th : Int) (kp : Nat → Int) (hI : Inv σ) : CGd l yX2_meanPitch wsX2_meanPitch rm_X2_meanPitch κ [.ref (a 0)] (WM κ a σ th kp) (fun r (_ : Unit) => r = mp σ) (fun (_ : Unit) => WM κ a σ 0 kp) := by
  refine entry_d (by decide) rfl (Nat.le_of_ble_eq_true rfl) ?_
  intro P e s m args below meth c ls A Q F hname hK hA hret hW hl
  obtain ⟨hx, hb, hml, hown, hts⟩ := id F
  have hn2 : ∀ w ∈ wsX20, w ∈ wsX2_meanPitch := by decide +kernel
  have hN := hI.hN
  have hN10 := hI.n10
  have hnn := hI.1
  have hcm := cmn_lt σ
  have hst := stn_lt hN10
  have hs0 := stn_0 hN10
  have hnsl := ns_le σ
  have hpcs := pcn_set hN10
  refine lv_aload_n hx hb dX2_meanPitch_0 rfl (lv_at hl 0 rfl) ?_
  refine jv_iconst hx hb dX2_meanPitch_1 ?_
  refine jv_put (T := TX2) (N := 6) (ws' := (WM κ a σ 0 kp)) hx hb hts hn2 tyX2 tyX2_ok nmX2 hown hK hW 0 rfl rfl 0 (by decide) (List.mem_of_getElem? (i := 1) rfl) rfl rfl rfl (Nat.le_of_ble_eq_true rfl) rfl dX2_meanPitch_2 (fun H locs hW => ?_)
  refine jv_iconst hx hb dX2_meanPitch_5 ?_
  refine lv_istore_n (lv' := [(1, .int (J 0)), (0, .ref (a 0))]) hx hb dX2_meanPitch_6 rfl hl (by decide) rfl (fun ls hl => ?_)
  refine jv_iconst hx hb dX2_meanPitch_7 ?_
  refine lv_istore_n (lv' := [(2, .int (J 0)), (1, .int (J 0)), (0, .ref (a 0))]) hx hb dX2_meanPitch_8 rfl hl (by decide) rfl (fun ls hl => ?_)
  suffices hlp : ∀ (n i : Nat), i ≤ (nn σ) → (nn σ) < i + n → ∀ (f : Int), ∀ (H : Heap) (locs : List Loc) (ls : Array Slot), (f = psum σ i) → St κ A s.heap H locs (WM κ a σ 0 kp) → lv_has ls 3 [(2, .int (J (i : Int))), (1, .int (J f)), (0, .ref (a 0))] → W P l e rm_X2_meanPitch s m args below meth c H locs 0 0 Q (F0 m 9 ls []) from
    hlp ((nn σ) + 1) 0 (Nat.zero_le _) (by omega) 0 _ _ _ rfl hW hl
  intro n
  induction n with
  | zero => intro i h1 h2; exact absurd h2 (by omega)
  | succ n ih =>
    intro i hi hn f H locs ls q_f hW hl
    refine lv_iload_n hx hb dX2_meanPitch_9 rfl (lv_at hl 0 rfl) ?_
    refine lv_aload_n hx hb dX2_meanPitch_10 rfl (lv_at hl 2 rfl) ?_
    refine jv_get (T := TX2) (N := 6) (v := .int (J (σ 5 3))) hx hb hts hn2 hown hK hW 0 rfl rfl 1 (by decide) (List.mem_of_getElem? (i := 2) rfl) rfl dX2_meanPitch_11 ?_
    refine jv_icmp_ge hx hb 46 dX2_meanPitch_14 (by decide) ⟨by omega, by omega⟩ ⟨by omega, by omega⟩ (fun h_1 => ?_) (fun h_1 => ?_)
    · skip
      have hin : i = nn σ := by omega
      subst hin
      have hpr := psum_rng hI (nn σ) hN10
      refine lv_aload_n hx hb dX2_meanPitch_46 rfl (lv_at hl 2 rfl) ?_
      refine fin_i (k := 0) (n := 0) (W2 := (fun _ => (WM κ a σ 0 kp))) [0, 1, 2, 3] [] [0, 1, 2, 3] hW hA (va_runV (As := []) (rest := []) F ((m_X2_set l κ a σ 0 kp  hI) _) (cwV 0 hts gX2_meanPitch_X2_set rfl rfl rfl (by decide +kernel) ⟨(Nat.le_of_ble_eq_true rfl), (Nat.le_of_ble_eq_true rfl)⟩) (pre_V hK hW [0, 1, 2, 3] rfl (by decide) 2 0 rfl rfl) rfl rfl hl.1 rfl (lv_room (Nat.le_of_ble_eq_true rfl)) dX2_meanPitch_47 ⟨(by first | exact Nat.le_of_ble_eq_true rfl | omega | (dsimp only [rm_X2_meanPitch, rm_X2_set]; omega)), (by first | exact Nat.le_of_ble_eq_true rfl | omega | (dsimp only [rm_X2_meanPitch, rm_X2_set]; omega))⟩) rfl rfl rfl (by decide) rfl (fun _ => rfl) (by first | exact Nat.le_of_ble_eq_true rfl | omega | (dsimp only [rm_X2_meanPitch, rm_X2_set]; omega)) (by first | exact Nat.le_of_ble_eq_true rfl | omega | (dsimp only [rm_X2_meanPitch, rm_X2_set]; omega)) (fun r_3 u H locs hp_2 hW => ?_)
      subst hp_2
      refine jv_if_ne hx hb 57 dX2_meanPitch_50 (by decide) ⟨by omega, by omega⟩ (fun h_4 => ?_) (fun h_4 => ?_)
      · skip
        refine lv_iload_n hx hb dX2_meanPitch_57 rfl (lv_at hl 1 rfl) ?_
        refine lv_i2d hx hb dX2_meanPitch_58 ?_
        refine lv_aload_n hx hb dX2_meanPitch_59 rfl (lv_at hl 2 rfl) ?_
        refine fin_i (k := 0) (n := 0) (W2 := (fun _ => (WM κ a σ 0 kp))) [0, 1, 2, 3] [] [0, 1, 2, 3] hW hA (va_runV (As := []) (rest := [.double (FP.i2d (J f))]) F ((m_X2_set l κ a σ 0 kp  hI) _) (cwV 0 hts gX2_meanPitch_X2_set rfl rfl rfl (by decide +kernel) ⟨(Nat.le_of_ble_eq_true rfl), (Nat.le_of_ble_eq_true rfl)⟩) (pre_V hK hW [0, 1, 2, 3] rfl (by decide) 2 0 rfl rfl) rfl rfl hl.1 rfl (lv_room (Nat.le_of_ble_eq_true rfl)) dX2_meanPitch_60 ⟨(by first | exact Nat.le_of_ble_eq_true rfl | omega | (dsimp only [rm_X2_meanPitch, rm_X2_set]; omega)), (by first | exact Nat.le_of_ble_eq_true rfl | omega | (dsimp only [rm_X2_meanPitch, rm_X2_set]; omega))⟩) rfl rfl rfl (by decide) rfl (fun _ => rfl) (by first | exact Nat.le_of_ble_eq_true rfl | omega | (dsimp only [rm_X2_meanPitch, rm_X2_set]; omega)) (by first | exact Nat.le_of_ble_eq_true rfl | omega | (dsimp only [rm_X2_meanPitch, rm_X2_set]; omega)) (fun r_6 u H locs hp_5 hW => ?_)
        subst hp_5
        refine fin_i (k := 0) (n := 0) (W2 := (fun _ => (WM κ a σ 0 kp))) [] [0, 1, 2, 3] [0, 1, 2, 3] hW hA (va_runS (As := [.int (J (stn σ : Int))]) (rest := [.double (FP.i2d (J f))]) F ((m_J6_bitCount_0f7a4 l κ (stn σ) (by omega)) _) (va_cwS 1 hts gX2_meanPitch_J6_bitCount_0f7a4 rfl rfl rfl (by decide +kernel) ⟨(Nat.le_of_ble_eq_true rfl), (Nat.le_of_ble_eq_true rfl)⟩) (pre_S hK hW [] rfl (by decide)) rfl rfl hl.1 rfl (lv_room (Nat.le_of_ble_eq_true rfl)) dX2_meanPitch_63 ⟨(by first | exact Nat.le_of_ble_eq_true rfl | omega | (dsimp only [rm_X2_meanPitch, rm_J6_bitCount_0f7a4]; omega)), (by first | exact Nat.le_of_ble_eq_true rfl | omega | (dsimp only [rm_X2_meanPitch, rm_J6_bitCount_0f7a4]; omega))⟩) rfl rfl rfl (by decide) rfl (fun _ => rfl) (by first | exact Nat.le_of_ble_eq_true rfl | omega | (dsimp only [rm_X2_meanPitch, rm_J6_bitCount_0f7a4]; omega)) (by first | exact Nat.le_of_ble_eq_true rfl | omega | (dsimp only [rm_X2_meanPitch, rm_J6_bitCount_0f7a4]; omega)) (fun r_8 u H locs hp_7 hW => ?_)
        subst hp_7
        refine jv_eq (y := (ns σ : Int)) (by rw [pcn_set hN10]) ?_
        refine lv_i2d hx hb dX2_meanPitch_66 ?_
        refine lv_ddiv hx hb dX2_meanPitch_67 (by have h := dd_ok f.toNat (by omega) (ns σ - 1) (by omega); rw [← J_nat, ← J_nat, show ((f.toNat : Nat) : Int) = f by omega, show ((ns σ - 1 + 1 : Nat) : Int) = (ns σ : Int) by omega] at h; exact h) ?_
        exact hret () hW dX2_meanPitch_68 (by first | exact Nat.le_of_ble_eq_true rfl | omega | (dsimp only [rm_X2_meanPitch]; omega)) (by first | exact Nat.le_of_ble_eq_true rfl | omega | (dsimp only [rm_X2_meanPitch]; omega)) (by unfold mp; rw [if_neg (by omega), q_f])
      · skip
        refine lv_dconst0 hx hb dX2_meanPitch_53 ?_
        refine lv_goto (tgt := 68) hx hb dX2_meanPitch_54 (by decide) ?_
        exact hret () hW dX2_meanPitch_68 (by first | exact Nat.le_of_ble_eq_true rfl | omega | (dsimp only [rm_X2_meanPitch]; omega)) (by first | exact Nat.le_of_ble_eq_true rfl | omega | (dsimp only [rm_X2_meanPitch]; omega)) (by unfold mp; rw [if_pos (by omega)])
    · skip
      have hbi := hI.at i (by omega)
      have hpr := psum_rng hI i (by omega)
      refine lv_iload_n hx hb dX2_meanPitch_17 rfl (lv_at hl 1 rfl) ?_
      refine lv_aload_n hx hb dX2_meanPitch_18 rfl (lv_at hl 2 rfl) ?_
      refine lv_iload_n hx hb dX2_meanPitch_19 rfl (lv_at hl 0 rfl) ?_
      refine fin_i (k := 0) (n := 0) (W2 := (fun _ => (WM κ a σ 0 kp))) [0, 1, 2, 3] [] [0, 1, 2, 3] hW hA (va_runV (As := [.int (J (i : Int))]) (rest := [.int (J f)]) F ((m_X2_heard l κ a σ 0 kp i (by omega) hI) _) (cwV 1 hts gX2_meanPitch_X2_heard rfl rfl rfl (by decide +kernel) ⟨(Nat.le_of_ble_eq_true rfl), (Nat.le_of_ble_eq_true rfl)⟩) (pre_V hK hW [0, 1, 2, 3] rfl (by decide) 2 0 rfl rfl) rfl rfl hl.1 rfl (lv_room (Nat.le_of_ble_eq_true rfl)) dX2_meanPitch_20 ⟨(by first | exact Nat.le_of_ble_eq_true rfl | omega | (dsimp only [rm_X2_meanPitch, rm_X2_heard]; omega)), (by first | exact Nat.le_of_ble_eq_true rfl | omega | (dsimp only [rm_X2_meanPitch, rm_X2_heard]; omega))⟩) rfl rfl rfl (by decide) rfl (fun _ => rfl) (by first | exact Nat.le_of_ble_eq_true rfl | omega | (dsimp only [rm_X2_meanPitch, rm_X2_heard]; omega)) (by first | exact Nat.le_of_ble_eq_true rfl | omega | (dsimp only [rm_X2_meanPitch, rm_X2_heard]; omega)) (fun r_10 u H locs hp_9 hW => ?_)
      subst hp_9
      refine jv_ifb_eq (b := (sn σ i)) hx hb 37 dX2_meanPitch_23 (by decide) (fun h_11 => ?_) (fun h_11 => ?_)
      · skip
        refine jv_iconst hx hb dX2_meanPitch_37 ?_
        refine jv_iadd hx hb dX2_meanPitch_38 ?_
        refine lv_istore_n (lv' := [(1, .int (J (f + 0))), (2, .int (J (i : Int))), (0, .ref (a 0))]) hx hb dX2_meanPitch_39 rfl hl (by decide) rfl (fun ls hl => ?_)
        refine jv_iinc (k := 1) (z := (i : Int)) (lv' := [(2, .int (J ((i : Int) + 1))), (1, .int (J (f + 0))), (0, .ref (a 0))]) hx hb dX2_meanPitch_40 hl rfl (by decide) rfl (fun ls hl => ?_)
        refine lv_goto (tgt := 9) hx hb dX2_meanPitch_43 (by decide) ?_
        exact ih (i + 1) (by omega) (by omega) (f + 0) _ _ _ (by rw [q_f]; simp [psum, h_11]) hW hl
      · skip
        refine lv_aload_n hx hb dX2_meanPitch_26 rfl (lv_at hl 2 rfl) ?_
        refine jv_get (T := TX2) (N := 6) (v := .ref (a 2)) hx hb hts hn2 hown hK hW 0 rfl rfl 4 (by decide) (List.mem_of_getElem? (i := 3) rfl) rfl dX2_meanPitch_27 ?_
        refine jv_iconst hx hb dX2_meanPitch_30 ?_
        refine lv_iload_n hx hb dX2_meanPitch_31 rfl (lv_at hl 0 rfl) ?_
        refine jv_iadd hx hb dX2_meanPitch_32 ?_
        refine jv_iald (g := (nowf σ)) hx hb hK hW 2 rfl (3 + i) (by omega) (by omega) (by decide) dX2_meanPitch_33 ?_
        refine jv_eq (y := (σ 0 i)) (nowf_r0 _ (by omega)) ?_
        refine lv_goto (tgt := 38) hx hb dX2_meanPitch_34 (by decide) ?_
        refine jv_iadd hx hb dX2_meanPitch_38 ?_
        refine lv_istore_n (lv' := [(1, .int (J (f + (σ 0 i)))), (2, .int (J (i : Int))), (0, .ref (a 0))]) hx hb dX2_meanPitch_39 rfl hl (by decide) rfl (fun ls hl => ?_)
        refine jv_iinc (k := 1) (z := (i : Int)) (lv' := [(2, .int (J ((i : Int) + 1))), (1, .int (J (f + (σ 0 i)))), (0, .ref (a 0))]) hx hb dX2_meanPitch_40 hl rfl (by decide) rfl (fun ls hl => ?_)
        refine lv_goto (tgt := 9) hx hb dX2_meanPitch_43 (by decide) ?_
        exact ih (i + 1) (by omega) (by omega) (f + (σ 0 i)) _ _ _ (by rw [q_f]; simp [psum, h_11]) hW hl

abbrev rm_X2_digest : Room := { frames := 8, cells := 11, slots := 83, locals := 180 }
set_option maxHeartbeats 4000000 in
set_option maxRecDepth 100000 in
/-- digest -/
theorem m_X2_digest (l : Launch) (κ : Kp) (a : Nat → Nat) (σ : Sg) (th : Int) (kp : Nat → Int) (hI : Inv σ) (hB : σ 5 0 ≤ 100000000) : CGl l yX2_digest wsX2_digest rm_X2_digest κ [.ref (a 0)] (WM κ a σ th kp) (fun r (_ : Unit) => r = dg σ) (fun (_ : Unit) => WM κ a σ 0 (nowf σ)) := by
  refine entry_l (by decide) rfl (Nat.le_of_ble_eq_true rfl) ?_
  intro P e s m args below meth c ls A Q F hname hK hA hret hW hl
  obtain ⟨hx, hb, hml, hown, hts⟩ := id F
  have hn2 : ∀ w ∈ wsX20, w ∈ wsX2_digest := by decide +kernel
  have hN := hI.hN
  have hN10 := hI.n10
  have hnn := hI.1
  have hcm := cmn_lt σ
  have hstl := stn_lt hN10
  refine lv_aload_n hx hb dX2_digest_0 rfl (lv_at hl 0 rfl) ?_
  refine jv_iconst hx hb dX2_digest_1 ?_
  refine jv_put (T := TX2) (N := 6) (ws' := (WM κ a σ 0 kp)) hx hb hts hn2 tyX2 tyX2_ok nmX2 hown hK hW 0 rfl rfl 0 (by decide) (List.mem_of_getElem? (i := 1) rfl) rfl rfl rfl (Nat.le_of_ble_eq_true rfl) rfl dX2_digest_2 (fun H locs hW => ?_)
  refine lv_aload_n hx hb dX2_digest_5 rfl (lv_at hl 0 rfl) ?_
  refine fin_i (k := 0) (n := 0) (W2 := (fun _ => (WM κ a σ 0 kp))) [0, 1, 2, 3] [] [0, 1, 2, 3] hW hA (va_runV (As := []) (rest := []) F ((m_X2_set l κ a σ 0 kp  hI) _) (cwV 0 hts gX2_digest_X2_set rfl rfl rfl (by decide +kernel) ⟨(Nat.le_of_ble_eq_true rfl), (Nat.le_of_ble_eq_true rfl)⟩) (pre_V hK hW [0, 1, 2, 3] rfl (by decide) 2 0 rfl rfl) rfl rfl hl.1 rfl (lv_room (Nat.le_of_ble_eq_true rfl)) dX2_digest_6 ⟨(by first | exact Nat.le_of_ble_eq_true rfl | omega | (dsimp only [rm_X2_digest, rm_X2_set]; omega)), (by first | exact Nat.le_of_ble_eq_true rfl | omega | (dsimp only [rm_X2_digest, rm_X2_set]; omega))⟩) rfl rfl rfl (by decide) rfl (fun _ => rfl) (by first | exact Nat.le_of_ble_eq_true rfl | omega | (dsimp only [rm_X2_digest, rm_X2_set]; omega)) (by first | exact Nat.le_of_ble_eq_true rfl | omega | (dsimp only [rm_X2_digest, rm_X2_set]; omega)) (fun r_2 u H locs hp_1 hW => ?_)
  subst hp_1
  refine lv_istore_n (lv' := [(1, .int (J (stn σ : Int))), (0, .ref (a 0))]) hx hb dX2_digest_9 rfl hl (by decide) rfl (fun ls hl => ?_)
  refine jv_bipush hx hb 13 dX2_digest_10 (by decide +kernel) ?_
  refine jv_newi (κ := κ) hx hb hts (List.mem_of_getElem? (i := 2) rfl) hK hW hA 13 (by decide) 1 13 (by first | exact Nat.le_of_ble_eq_true rfl | omega | (dsimp only [rm_X2_digest]; omega)) (by first | exact Nat.le_of_ble_eq_true rfl | omega | (dsimp only [rm_X2_digest]; omega)) (by first | exact Nat.le_of_ble_eq_true rfl | omega | (dsimp only [rm_X2_digest]; omega)) (by first | exact Nat.le_of_ble_eq_true rfl | omega | (dsimp only [rm_X2_digest]; omega)) dX2_digest_12 (fun q_3 H hW => ?_)
  have hW : St κ A s.heap H _ (WM κ a σ 0 kp ++ (WA κ q_3 13 (fun _ => 0))) := hW
  refine lv_dup hx hb dX2_digest_14 rfl ?_
  refine jv_iconst hx hb dX2_digest_15 ?_
  refine lv_aload_n hx hb dX2_digest_16 rfl (lv_at hl 1 rfl) ?_
  refine jv_get (T := TX2) (N := 6) (v := .int (J (σ 5 3))) hx hb hts hn2 hown hK hW 0 rfl rfl 1 (by decide) (List.mem_of_getElem? (i := 3) rfl) rfl dX2_digest_17 ?_
  refine jv_iast (g := (fun _ => 0)) (ws' := (WM κ a σ 0 kp ++ (WA κ q_3 13 (upi (fun _ => 0) 0 (σ 5 3))))) hx hb hK hW 4 rfl 0 rfl (by omega) (by decide) rfl dX2_digest_20 (fun H locs hW => ?_)
  refine lv_dup hx hb dX2_digest_21 rfl ?_
  refine jv_iconst hx hb dX2_digest_22 ?_
  refine lv_aload_n hx hb dX2_digest_23 rfl (lv_at hl 1 rfl) ?_
  refine jv_get (T := TX2) (N := 6) (v := .ref (a 2)) hx hb hts hn2 hown hK hW 0 rfl rfl 4 (by decide) (List.mem_of_getElem? (i := 4) rfl) rfl dX2_digest_24 ?_
  refine jv_iconst hx hb dX2_digest_27 ?_
  refine jv_iald (g := (nowf σ)) hx hb hK hW 2 rfl 0 rfl (by omega) (by decide) dX2_digest_28 ?_
  refine jv_eq (y := (σ 5 0)) (nowf_s0 _) ?_
  refine jv_iast (g := (upi (fun _ => 0) 0 (σ 5 3))) (ws' := (WM κ a σ 0 kp ++ (WA κ q_3 13 (upi (upi (fun _ => 0) 0 (σ 5 3)) 1 (σ 5 0))))) hx hb hK hW 4 rfl 1 rfl (by omega) (by decide) rfl dX2_digest_29 (fun H locs hW => ?_)
  refine lv_dup hx hb dX2_digest_30 rfl ?_
  refine jv_iconst hx hb dX2_digest_31 ?_
  refine lv_iload_n hx hb dX2_digest_32 rfl (lv_at hl 0 rfl) ?_
  refine fin_i (k := 1) (n := 13) (W2 := (fun _ => (WM κ a σ 0 kp ++ (WA κ q_3 13 (upi (upi (fun _ => 0) 0 (σ 5 3)) 1 (σ 5 0)))))) [] [0, 1, 2, 3, 4] [0, 1, 2, 3, 4] hW hA (va_runS (As := [.int (J (stn σ : Int))]) (rest := [.int (J 2), .ref q_3, .ref q_3]) F ((m_J6_bitCount_0f7a4 l κ (stn σ) (by omega)) _) (va_cwS 1 hts gX2_digest_J6_bitCount_0f7a4 rfl rfl rfl (by decide +kernel) ⟨(Nat.le_of_ble_eq_true rfl), (Nat.le_of_ble_eq_true rfl)⟩) (pre_S hK hW [] rfl (by decide)) rfl rfl hl.1 rfl (lv_room (Nat.le_of_ble_eq_true rfl)) dX2_digest_33 ⟨(by first | exact Nat.le_of_ble_eq_true rfl | omega | (dsimp only [rm_X2_digest, rm_J6_bitCount_0f7a4]; omega)), (by first | exact Nat.le_of_ble_eq_true rfl | omega | (dsimp only [rm_X2_digest, rm_J6_bitCount_0f7a4]; omega))⟩) rfl rfl rfl (by decide) rfl (fun _ => rfl) (by first | exact Nat.le_of_ble_eq_true rfl | omega | (dsimp only [rm_X2_digest, rm_J6_bitCount_0f7a4]; omega)) (by first | exact Nat.le_of_ble_eq_true rfl | omega | (dsimp only [rm_X2_digest, rm_J6_bitCount_0f7a4]; omega)) (fun r_5 u H locs hp_4 hW => ?_)
  subst hp_4
  refine jv_eq (y := (ns σ : Int)) (by rw [pcn_set hN10]) ?_
  refine jv_iast (g := (upi (upi (fun _ => 0) 0 (σ 5 3)) 1 (σ 5 0))) (ws' := (WM κ a σ 0 kp ++ (WA κ q_3 13 (upi (upi (upi (fun _ => 0) 0 (σ 5 3)) 1 (σ 5 0)) 2 (ns σ : Int))))) hx hb hK hW 4 rfl 2 rfl (by omega) (by decide) rfl dX2_digest_36 (fun H locs hW => ?_)
  refine lv_dup hx hb dX2_digest_37 rfl ?_
  refine jv_iconst hx hb dX2_digest_38 ?_
  refine lv_aload_n hx hb dX2_digest_39 rfl (lv_at hl 1 rfl) ?_
  refine lv_iload_n hx hb dX2_digest_40 rfl (lv_at hl 0 rfl) ?_
  refine fin_i (k := 1) (n := 13) (W2 := (fun _ => (WM κ a σ 0 kp ++ (WA κ q_3 13 (upi (upi (upi (fun _ => 0) 0 (σ 5 3)) 1 (σ 5 0)) 2 (ns σ : Int)))))) [0, 1, 2, 3] [4] [1, 2, 3, 4, 0] hW hA (va_runV (As := [.int (J (stn σ : Int))]) (rest := [.int (J 3), .ref q_3, .ref q_3]) F ((m_X2_harmonyOf l κ a σ 0 kp (stn σ) (by omega) hI) _) (cwV 1 hts gX2_digest_X2_harmonyOf rfl rfl rfl (by decide +kernel) ⟨(Nat.le_of_ble_eq_true rfl), (Nat.le_of_ble_eq_true rfl)⟩) (pre_V hK hW [0, 1, 2, 3] rfl (by decide) 2 0 rfl rfl) rfl rfl hl.1 rfl (lv_room (Nat.le_of_ble_eq_true rfl)) dX2_digest_41 ⟨(by first | exact Nat.le_of_ble_eq_true rfl | omega | (dsimp only [rm_X2_digest, rm_X2_harmonyOf]; omega)), (by first | exact Nat.le_of_ble_eq_true rfl | omega | (dsimp only [rm_X2_digest, rm_X2_harmonyOf]; omega))⟩) rfl rfl rfl (by decide) rfl (fun _ => rfl) (by first | exact Nat.le_of_ble_eq_true rfl | omega | (dsimp only [rm_X2_digest, rm_X2_harmonyOf]; omega)) (by first | exact Nat.le_of_ble_eq_true rfl | omega | (dsimp only [rm_X2_digest, rm_X2_harmonyOf]; omega)) (fun r_7 u H locs hp_6 hW => ?_)
  subst hp_6
  refine jv_eq (y := hm σ) (hmo_set hN10) ?_
  refine jv_iast (g := (upi (upi (upi (fun _ => 0) 0 (σ 5 3)) 1 (σ 5 0)) 2 (ns σ : Int))) (ws' := (WM κ a σ 0 kp ++ (WA κ q_3 13 (upi (upi (upi (upi (fun _ => 0) 0 (σ 5 3)) 1 (σ 5 0)) 2 (ns σ : Int)) 3 (hm σ))))) hx hb hK hW 4 rfl 3 rfl (by omega) (by decide) rfl dX2_digest_44 (fun H locs hW => ?_)
  refine lv_dup hx hb dX2_digest_45 rfl ?_
  refine jv_iconst hx hb dX2_digest_46 ?_
  refine lv_aload_n hx hb dX2_digest_47 rfl (lv_at hl 1 rfl) ?_
  refine lv_iload_n hx hb dX2_digest_48 rfl (lv_at hl 0 rfl) ?_
  refine fin_i (k := 1) (n := 13) (W2 := (fun _ => (WM κ a σ 0 kp ++ (WA κ q_3 13 (upi (upi (upi (upi (fun _ => 0) 0 (σ 5 3)) 1 (σ 5 0)) 2 (ns σ : Int)) 3 (hm σ)))))) [0, 1, 2, 3] [4] [1, 2, 3, 4, 0] hW hA (va_runV (As := [.int (J (stn σ : Int))]) (rest := [.int (J 4), .ref q_3, .ref q_3]) F ((m_X2_allClashes l κ a σ 0 kp (stn σ) (by omega) hI) _) (cwV 1 hts gX2_digest_X2_allClashes rfl rfl rfl (by decide +kernel) ⟨(Nat.le_of_ble_eq_true rfl), (Nat.le_of_ble_eq_true rfl)⟩) (pre_V hK hW [0, 1, 2, 3] rfl (by decide) 2 0 rfl rfl) rfl rfl hl.1 rfl (lv_room (Nat.le_of_ble_eq_true rfl)) dX2_digest_49 ⟨(by first | exact Nat.le_of_ble_eq_true rfl | omega | (dsimp only [rm_X2_digest, rm_X2_allClashes]; omega)), (by first | exact Nat.le_of_ble_eq_true rfl | omega | (dsimp only [rm_X2_digest, rm_X2_allClashes]; omega))⟩) rfl rfl rfl (by decide) rfl (fun _ => rfl) (by first | exact Nat.le_of_ble_eq_true rfl | omega | (dsimp only [rm_X2_digest, rm_X2_allClashes]; omega)) (by first | exact Nat.le_of_ble_eq_true rfl | omega | (dsimp only [rm_X2_digest, rm_X2_allClashes]; omega)) (fun r_9 u H locs hp_8 hW => ?_)
  subst hp_8
  refine jv_eq (y := ccl σ) (acl_set σ) ?_
  refine jv_iast (g := (upi (upi (upi (upi (fun _ => 0) 0 (σ 5 3)) 1 (σ 5 0)) 2 (ns σ : Int)) 3 (hm σ))) (ws' := (WM κ a σ 0 kp ++ (WA κ q_3 13 (upi (upi (upi (upi (upi (fun _ => 0) 0 (σ 5 3)) 1 (σ 5 0)) 2 (ns σ : Int)) 3 (hm σ)) 4 (ccl σ))))) hx hb hK hW 4 rfl 4 rfl (by omega) (by decide) rfl dX2_digest_52 (fun H locs hW => ?_)
  refine lv_dup hx hb dX2_digest_53 rfl ?_
  refine jv_iconst hx hb dX2_digest_54 ?_
  refine lv_aload_n hx hb dX2_digest_55 rfl (lv_at hl 1 rfl) ?_
  refine fin_i (k := 1) (n := 13) (W2 := (fun _ => (WM κ a σ 0 kp ++ (WA κ q_3 13 (upi (upi (upi (upi (upi (fun _ => 0) 0 (σ 5 3)) 1 (σ 5 0)) 2 (ns σ : Int)) 3 (hm σ)) 4 (ccl σ)))))) [0, 1, 2, 3] [4] [1, 2, 3, 4, 0] hW hA (va_runV (As := []) (rest := [.int (J 5), .ref q_3, .ref q_3]) F ((m_X2_harsh l κ a σ 0 kp  hI) _) (cwV 0 hts gX2_digest_X2_harsh rfl rfl rfl (by decide +kernel) ⟨(Nat.le_of_ble_eq_true rfl), (Nat.le_of_ble_eq_true rfl)⟩) (pre_V hK hW [0, 1, 2, 3] rfl (by decide) 2 0 rfl rfl) rfl rfl hl.1 rfl (lv_room (Nat.le_of_ble_eq_true rfl)) dX2_digest_56 ⟨(by first | exact Nat.le_of_ble_eq_true rfl | omega | (dsimp only [rm_X2_digest, rm_X2_harsh]; omega)), (by first | exact Nat.le_of_ble_eq_true rfl | omega | (dsimp only [rm_X2_digest, rm_X2_harsh]; omega))⟩) rfl rfl rfl (by decide) rfl (fun _ => rfl) (by first | exact Nat.le_of_ble_eq_true rfl | omega | (dsimp only [rm_X2_digest, rm_X2_harsh]; omega)) (by first | exact Nat.le_of_ble_eq_true rfl | omega | (dsimp only [rm_X2_digest, rm_X2_harsh]; omega)) (fun r_11 u H locs hp_10 hW => ?_)
  subst hp_10
  refine jv_iast (g := (upi (upi (upi (upi (upi (fun _ => 0) 0 (σ 5 3)) 1 (σ 5 0)) 2 (ns σ : Int)) 3 (hm σ)) 4 (ccl σ))) (ws' := (WM κ a σ 0 kp ++ (WA κ q_3 13 (upi (upi (upi (upi (upi (upi (fun _ => 0) 0 (σ 5 3)) 1 (σ 5 0)) 2 (ns σ : Int)) 3 (hm σ)) 4 (ccl σ)) 5 (hst σ))))) hx hb hK hW 4 rfl 5 rfl (by omega) (by decide) rfl dX2_digest_59 (fun H locs hW => ?_)
  refine lv_dup hx hb dX2_digest_60 rfl ?_
  refine jv_bipush hx hb 6 dX2_digest_61 (by decide +kernel) ?_
  refine lv_aload_n hx hb dX2_digest_63 rfl (lv_at hl 1 rfl) ?_
  refine fin_i (k := 1) (n := 13) (W2 := (fun _ => (WM κ a σ 0 kp ++ (WA κ q_3 13 (upi (upi (upi (upi (upi (upi (fun _ => 0) 0 (σ 5 3)) 1 (σ 5 0)) 2 (ns σ : Int)) 3 (hm σ)) 4 (ccl σ)) 5 (hst σ)))))) [0, 1, 2, 3] [4] [1, 2, 3, 4, 0] hW hA (va_runV (As := []) (rest := [.int (J 6), .ref q_3, .ref q_3]) F ((m_X2_low l κ a σ 0 kp  hI) _) (cwV 0 hts gX2_digest_X2_low rfl rfl rfl (by decide +kernel) ⟨(Nat.le_of_ble_eq_true rfl), (Nat.le_of_ble_eq_true rfl)⟩) (pre_V hK hW [0, 1, 2, 3] rfl (by decide) 2 0 rfl rfl) rfl rfl hl.1 rfl (lv_room (Nat.le_of_ble_eq_true rfl)) dX2_digest_64 ⟨(by first | exact Nat.le_of_ble_eq_true rfl | omega | (dsimp only [rm_X2_digest, rm_X2_low]; omega)), (by first | exact Nat.le_of_ble_eq_true rfl | omega | (dsimp only [rm_X2_digest, rm_X2_low]; omega))⟩) rfl rfl rfl (by decide) rfl (fun _ => rfl) (by first | exact Nat.le_of_ble_eq_true rfl | omega | (dsimp only [rm_X2_digest, rm_X2_low]; omega)) (by first | exact Nat.le_of_ble_eq_true rfl | omega | (dsimp only [rm_X2_digest, rm_X2_low]; omega)) (fun r_13 u H locs hp_12 hW => ?_)
  subst hp_12
  refine jv_iast (g := (upi (upi (upi (upi (upi (upi (fun _ => 0) 0 (σ 5 3)) 1 (σ 5 0)) 2 (ns σ : Int)) 3 (hm σ)) 4 (ccl σ)) 5 (hst σ))) (ws' := (WM κ a σ 0 kp ++ (WA κ q_3 13 (upi (upi (upi (upi (upi (upi (upi (fun _ => 0) 0 (σ 5 3)) 1 (σ 5 0)) 2 (ns σ : Int)) 3 (hm σ)) 4 (ccl σ)) 5 (hst σ)) 6 (fl σ))))) hx hb hK hW 4 rfl 6 rfl (by omega) (by decide) rfl dX2_digest_67 (fun H locs hW => ?_)
  refine lv_dup hx hb dX2_digest_68 rfl ?_
  refine jv_bipush hx hb 7 dX2_digest_69 (by decide +kernel) ?_
  refine lv_aload_n hx hb dX2_digest_71 rfl (lv_at hl 1 rfl) ?_
  refine fin_i (k := 1) (n := 13) (W2 := (fun _ => (WM κ a σ 0 kp ++ (WA κ q_3 13 (upi (upi (upi (upi (upi (upi (upi (fun _ => 0) 0 (σ 5 3)) 1 (σ 5 0)) 2 (ns σ : Int)) 3 (hm σ)) 4 (ccl σ)) 5 (hst σ)) 6 (fl σ)))))) [0, 1, 2, 3] [4] [1, 2, 3, 4, 0] hW hA (va_runV (As := []) (rest := [.int (J 7), .ref q_3, .ref q_3]) F ((m_X2_clear l κ a σ 0 kp  hI) _) (cwV 0 hts gX2_digest_X2_clear rfl rfl rfl (by decide +kernel) ⟨(Nat.le_of_ble_eq_true rfl), (Nat.le_of_ble_eq_true rfl)⟩) (pre_V hK hW [0, 1, 2, 3] rfl (by decide) 2 0 rfl rfl) rfl rfl hl.1 rfl (lv_room (Nat.le_of_ble_eq_true rfl)) dX2_digest_72 ⟨(by first | exact Nat.le_of_ble_eq_true rfl | omega | (dsimp only [rm_X2_digest, rm_X2_clear]; omega)), (by first | exact Nat.le_of_ble_eq_true rfl | omega | (dsimp only [rm_X2_digest, rm_X2_clear]; omega))⟩) rfl rfl rfl (by decide) rfl (fun _ => rfl) (by first | exact Nat.le_of_ble_eq_true rfl | omega | (dsimp only [rm_X2_digest, rm_X2_clear]; omega)) (by first | exact Nat.le_of_ble_eq_true rfl | omega | (dsimp only [rm_X2_digest, rm_X2_clear]; omega)) (fun r_15 u H locs hp_14 hW => ?_)
  subst hp_14
  have j83 : ∀ (H : Heap) (locs : List Loc) (ls : Array Slot), St κ A s.heap H locs (WM κ a σ 0 kp ++ (WA κ q_3 13 (upi (upi (upi (upi (upi (upi (upi (fun _ => 0) 0 (σ 5 3)) 1 (σ 5 0)) 2 (ns σ : Int)) 3 (hm σ)) 4 (ccl σ)) 5 (hst σ)) 6 (fl σ)))) → lv_has ls 11 [(1, .int (J (stn σ : Int))), (0, .ref (a 0))] → W P l e rm_X2_digest s m args below meth c H locs 1 13 Q (F0 m 83 ls [.int (J (bi (ic σ))), .int (J 7), .ref q_3, .ref q_3]) := by
    intro H locs ls hW hl
    refine jv_iast (g := (upi (upi (upi (upi (upi (upi (upi (fun _ => 0) 0 (σ 5 3)) 1 (σ 5 0)) 2 (ns σ : Int)) 3 (hm σ)) 4 (ccl σ)) 5 (hst σ)) 6 (fl σ))) (ws' := (WM κ a σ 0 kp ++ (WA κ q_3 13 (upi (upi (upi (upi (upi (upi (upi (upi (fun _ => 0) 0 (σ 5 3)) 1 (σ 5 0)) 2 (ns σ : Int)) 3 (hm σ)) 4 (ccl σ)) 5 (hst σ)) 6 (fl σ)) 7 (bi (ic σ)))))) hx hb hK hW 4 rfl 7 rfl (by omega) (by decide) rfl dX2_digest_83 (fun H locs hW => ?_)
    refine lv_dup hx hb dX2_digest_84 rfl ?_
    refine jv_bipush hx hb 8 dX2_digest_85 (by decide +kernel) ?_
    refine lv_aload_n hx hb dX2_digest_87 rfl (lv_at hl 1 rfl) ?_
    refine jv_get (T := TX2) (N := 6) (v := .ref (a 2)) hx hb hts hn2 hown hK hW 0 rfl rfl 4 (by decide) (List.mem_of_getElem? (i := 4) rfl) rfl dX2_digest_88 ?_
    refine jv_iconst hx hb dX2_digest_91 ?_
    refine jv_iald (g := (nowf σ)) hx hb hK hW 2 rfl 1 rfl (by omega) (by decide) dX2_digest_92 ?_
    refine jv_eq (y := (σ 5 1)) (nowf_s1 _) ?_
    refine jv_iast (g := (upi (upi (upi (upi (upi (upi (upi (upi (fun _ => 0) 0 (σ 5 3)) 1 (σ 5 0)) 2 (ns σ : Int)) 3 (hm σ)) 4 (ccl σ)) 5 (hst σ)) 6 (fl σ)) 7 (bi (ic σ)))) (ws' := (WM κ a σ 0 kp ++ (WA κ q_3 13 (upi (upi (upi (upi (upi (upi (upi (upi (upi (fun _ => 0) 0 (σ 5 3)) 1 (σ 5 0)) 2 (ns σ : Int)) 3 (hm σ)) 4 (ccl σ)) 5 (hst σ)) 6 (fl σ)) 7 (bi (ic σ))) 8 (σ 5 1))))) hx hb hK hW 4 rfl 8 rfl (by omega) (by decide) rfl dX2_digest_93 (fun H locs hW => ?_)
    refine lv_dup hx hb dX2_digest_94 rfl ?_
    refine jv_bipush hx hb 9 dX2_digest_95 (by decide +kernel) ?_
    refine lv_aload_n hx hb dX2_digest_97 rfl (lv_at hl 1 rfl) ?_
    refine fin_i (k := 1) (n := 13) (W2 := (fun _ => (WM κ a σ 0 kp ++ (WA κ q_3 13 (upi (upi (upi (upi (upi (upi (upi (upi (upi (fun _ => 0) 0 (σ 5 3)) 1 (σ 5 0)) 2 (ns σ : Int)) 3 (hm σ)) 4 (ccl σ)) 5 (hst σ)) 6 (fl σ)) 7 (bi (ic σ))) 8 (σ 5 1)))))) [0, 1, 2, 3] [4] [1, 2, 3, 4, 0] hW hA (va_runV (As := []) (rest := [.int (J 9), .ref q_3, .ref q_3]) F ((m_X2_mute l κ a σ 0 kp  hI) _) (cwV 0 hts gX2_digest_X2_mute rfl rfl rfl (by decide +kernel) ⟨(Nat.le_of_ble_eq_true rfl), (Nat.le_of_ble_eq_true rfl)⟩) (pre_V hK hW [0, 1, 2, 3] rfl (by decide) 2 0 rfl rfl) rfl rfl hl.1 rfl (lv_room (Nat.le_of_ble_eq_true rfl)) dX2_digest_98 ⟨(by first | exact Nat.le_of_ble_eq_true rfl | omega | (dsimp only [rm_X2_digest, rm_X2_mute]; omega)), (by first | exact Nat.le_of_ble_eq_true rfl | omega | (dsimp only [rm_X2_digest, rm_X2_mute]; omega))⟩) rfl rfl rfl (by decide) rfl (fun _ => rfl) (by first | exact Nat.le_of_ble_eq_true rfl | omega | (dsimp only [rm_X2_digest, rm_X2_mute]; omega)) (by first | exact Nat.le_of_ble_eq_true rfl | omega | (dsimp only [rm_X2_digest, rm_X2_mute]; omega)) (fun r_17 u H locs hp_16 hW => ?_)
    subst hp_16
    refine jv_iast (g := (upi (upi (upi (upi (upi (upi (upi (upi (upi (fun _ => 0) 0 (σ 5 3)) 1 (σ 5 0)) 2 (ns σ : Int)) 3 (hm σ)) 4 (ccl σ)) 5 (hst σ)) 6 (fl σ)) 7 (bi (ic σ))) 8 (σ 5 1))) (ws' := (WM κ a σ 0 kp ++ (WA κ q_3 13 (upi (upi (upi (upi (upi (upi (upi (upi (upi (upi (fun _ => 0) 0 (σ 5 3)) 1 (σ 5 0)) 2 (ns σ : Int)) 3 (hm σ)) 4 (ccl σ)) 5 (hst σ)) 6 (fl σ)) 7 (bi (ic σ))) 8 (σ 5 1)) 9 (fm σ))))) hx hb hK hW 4 rfl 9 rfl (by omega) (by decide) rfl dX2_digest_101 (fun H locs hW => ?_)
    refine lv_dup hx hb dX2_digest_102 rfl ?_
    refine jv_bipush hx hb 10 dX2_digest_103 (by decide +kernel) ?_
    refine lv_aload_n hx hb dX2_digest_105 rfl (lv_at hl 1 rfl) ?_
    refine fin_i (k := 1) (n := 13) (W2 := (fun _ => (WM κ a σ 0 (nowf σ) ++ (WA κ q_3 13 (upi (upi (upi (upi (upi (upi (upi (upi (upi (upi (fun _ => 0) 0 (σ 5 3)) 1 (σ 5 0)) 2 (ns σ : Int)) 3 (hm σ)) 4 (ccl σ)) 5 (hst σ)) 6 (fl σ)) 7 (bi (ic σ))) 8 (σ 5 1)) 9 (fm σ)))))) [0, 1, 2, 3] [4] [1, 2, 3, 4, 0] hW hA (va_runV (As := []) (rest := [.int (J 10), .ref q_3, .ref q_3]) F ((m_X2_silence l κ a σ 0 kp  hI (by omega)) _) (cwV 0 hts gX2_digest_X2_silence rfl rfl rfl (by decide +kernel) ⟨(Nat.le_of_ble_eq_true rfl), (Nat.le_of_ble_eq_true rfl)⟩) (pre_V hK hW [0, 1, 2, 3] rfl (by decide) 2 0 rfl rfl) rfl rfl hl.1 rfl (lv_room (Nat.le_of_ble_eq_true rfl)) dX2_digest_106 ⟨(by first | exact Nat.le_of_ble_eq_true rfl | omega | (dsimp only [rm_X2_digest, rm_X2_silence]; omega)), (by first | exact Nat.le_of_ble_eq_true rfl | omega | (dsimp only [rm_X2_digest, rm_X2_silence]; omega))⟩) rfl rfl rfl (by decide) rfl (fun _ => rfl) (by first | exact Nat.le_of_ble_eq_true rfl | omega | (dsimp only [rm_X2_digest, rm_X2_silence]; omega)) (by first | exact Nat.le_of_ble_eq_true rfl | omega | (dsimp only [rm_X2_digest, rm_X2_silence]; omega)) (fun r_19 u H locs hp_18 hW => ?_)
    subst hp_18
    refine jv_iast (g := (upi (upi (upi (upi (upi (upi (upi (upi (upi (upi (fun _ => 0) 0 (σ 5 3)) 1 (σ 5 0)) 2 (ns σ : Int)) 3 (hm σ)) 4 (ccl σ)) 5 (hst σ)) 6 (fl σ)) 7 (bi (ic σ))) 8 (σ 5 1)) 9 (fm σ))) (ws' := (WM κ a σ 0 (nowf σ) ++ (WA κ q_3 13 (upi (upi (upi (upi (upi (upi (upi (upi (upi (upi (upi (fun _ => 0) 0 (σ 5 3)) 1 (σ 5 0)) 2 (ns σ : Int)) 3 (hm σ)) 4 (ccl σ)) 5 (hst σ)) 6 (fl σ)) 7 (bi (ic σ))) 8 (σ 5 1)) 9 (fm σ)) 10 (su σ : Int))))) hx hb hK hW 4 rfl 10 rfl (by omega) (by decide) rfl dX2_digest_109 (fun H locs hW => ?_)
    refine lv_dup hx hb dX2_digest_110 rfl ?_
    refine jv_bipush hx hb 11 dX2_digest_111 (by decide +kernel) ?_
    refine lv_aload_n hx hb dX2_digest_113 rfl (lv_at hl 1 rfl) ?_
    refine fin_i (k := 1) (n := 13) (W2 := (fun _ => (WM κ a σ 0 (nowf σ) ++ (WA κ q_3 13 (upi (upi (upi (upi (upi (upi (upi (upi (upi (upi (upi (fun _ => 0) 0 (σ 5 3)) 1 (σ 5 0)) 2 (ns σ : Int)) 3 (hm σ)) 4 (ccl σ)) 5 (hst σ)) 6 (fl σ)) 7 (bi (ic σ))) 8 (σ 5 1)) 9 (fm σ)) 10 (su σ : Int)))))) [0, 1, 2, 3] [4] [1, 2, 3, 4, 0] hW hA (va_runV (As := []) (rest := [.int (J 11), .ref q_3, .ref q_3]) F ((m_X2_untilCadence l κ a σ 0 (nowf σ)  hI (by omega)) _) (cwV 0 hts gX2_digest_X2_untilCadence rfl rfl rfl (by decide +kernel) ⟨(Nat.le_of_ble_eq_true rfl), (Nat.le_of_ble_eq_true rfl)⟩) (pre_V hK hW [0, 1, 2, 3] rfl (by decide) 2 0 rfl rfl) rfl rfl hl.1 rfl (lv_room (Nat.le_of_ble_eq_true rfl)) dX2_digest_114 ⟨(by first | exact Nat.le_of_ble_eq_true rfl | omega | (dsimp only [rm_X2_digest, rm_X2_untilCadence]; omega)), (by first | exact Nat.le_of_ble_eq_true rfl | omega | (dsimp only [rm_X2_digest, rm_X2_untilCadence]; omega))⟩) rfl rfl rfl (by decide) rfl (fun _ => rfl) (by first | exact Nat.le_of_ble_eq_true rfl | omega | (dsimp only [rm_X2_digest, rm_X2_untilCadence]; omega)) (by first | exact Nat.le_of_ble_eq_true rfl | omega | (dsimp only [rm_X2_digest, rm_X2_untilCadence]; omega)) (fun r_21 u H locs hp_20 hW => ?_)
    subst hp_20
    refine jv_iast (g := (upi (upi (upi (upi (upi (upi (upi (upi (upi (upi (upi (fun _ => 0) 0 (σ 5 3)) 1 (σ 5 0)) 2 (ns σ : Int)) 3 (hm σ)) 4 (ccl σ)) 5 (hst σ)) 6 (fl σ)) 7 (bi (ic σ))) 8 (σ 5 1)) 9 (fm σ)) 10 (su σ : Int))) (ws' := (WM κ a σ 0 (nowf σ) ++ (WA κ q_3 13 (upi (upi (upi (upi (upi (upi (upi (upi (upi (upi (upi (upi (fun _ => 0) 0 (σ 5 3)) 1 (σ 5 0)) 2 (ns σ : Int)) 3 (hm σ)) 4 (ccl σ)) 5 (hst σ)) 6 (fl σ)) 7 (bi (ic σ))) 8 (σ 5 1)) 9 (fm σ)) 10 (su σ : Int)) 11 (uc σ))))) hx hb hK hW 4 rfl 11 rfl (by omega) (by decide) rfl dX2_digest_117 (fun H locs hW => ?_)
    refine lv_dup hx hb dX2_digest_118 rfl ?_
    refine jv_bipush hx hb 12 dX2_digest_119 (by decide +kernel) ?_
    refine lv_aload_n hx hb dX2_digest_121 rfl (lv_at hl 1 rfl) ?_
    refine fin_i (k := 1) (n := 13) (W2 := (fun _ => (WM κ a σ 0 (nowf σ) ++ (WA κ q_3 13 (upi (upi (upi (upi (upi (upi (upi (upi (upi (upi (upi (upi (fun _ => 0) 0 (σ 5 3)) 1 (σ 5 0)) 2 (ns σ : Int)) 3 (hm σ)) 4 (ccl σ)) 5 (hst σ)) 6 (fl σ)) 7 (bi (ic σ))) 8 (σ 5 1)) 9 (fm σ)) 10 (su σ : Int)) 11 (uc σ)))))) [0, 1, 2, 3] [4] [1, 2, 3, 4, 0] hW hA (va_runV (As := []) (rest := [.int (J 12), .ref q_3, .ref q_3]) F ((m_X2_greatest l κ a σ 0 (nowf σ)  hI) _) (cwV 0 hts gX2_digest_X2_greatest rfl rfl rfl (by decide +kernel) ⟨(Nat.le_of_ble_eq_true rfl), (Nat.le_of_ble_eq_true rfl)⟩) (pre_V hK hW [0, 1, 2, 3] rfl (by decide) 2 0 rfl rfl) rfl rfl hl.1 rfl (lv_room (Nat.le_of_ble_eq_true rfl)) dX2_digest_122 ⟨(by first | exact Nat.le_of_ble_eq_true rfl | omega | (dsimp only [rm_X2_digest, rm_X2_greatest]; omega)), (by first | exact Nat.le_of_ble_eq_true rfl | omega | (dsimp only [rm_X2_digest, rm_X2_greatest]; omega))⟩) rfl rfl rfl (by decide) rfl (fun _ => rfl) (by first | exact Nat.le_of_ble_eq_true rfl | omega | (dsimp only [rm_X2_digest, rm_X2_greatest]; omega)) (by first | exact Nat.le_of_ble_eq_true rfl | omega | (dsimp only [rm_X2_digest, rm_X2_greatest]; omega)) (fun r_23 u H locs hp_22 hW => ?_)
    subst hp_22
    refine jv_iast (g := (upi (upi (upi (upi (upi (upi (upi (upi (upi (upi (upi (upi (fun _ => 0) 0 (σ 5 3)) 1 (σ 5 0)) 2 (ns σ : Int)) 3 (hm σ)) 4 (ccl σ)) 5 (hst σ)) 6 (fl σ)) 7 (bi (ic σ))) 8 (σ 5 1)) 9 (fm σ)) 10 (su σ : Int)) 11 (uc σ))) (ws' := (WM κ a σ 0 (nowf σ) ++ (WA κ q_3 13 (upi (upi (upi (upi (upi (upi (upi (upi (upi (upi (upi (upi (upi (fun _ => 0) 0 (σ 5 3)) 1 (σ 5 0)) 2 (ns σ : Int)) 3 (hm σ)) 4 (ccl σ)) 5 (hst σ)) 6 (fl σ)) 7 (bi (ic σ))) 8 (σ 5 1)) 9 (fm σ)) 10 (su σ : Int)) 11 (uc σ)) 12 (ga σ : Int))))) hx hb hK hW 4 rfl 12 rfl (by omega) (by decide) rfl dX2_digest_125 (fun H locs hW => ?_)
    obtain ⟨g1, hg1⟩ : ∃ g : Nat → Int, g = upi (upi (upi (upi (upi (upi (upi (upi (upi (upi (upi (upi (upi (fun _ => 0) 0 (σ 5 3)) 1 (σ 5 0)) 2 (ns σ : Int)) 3 (hm σ)) 4 (ccl σ)) 5 (hst σ)) 6 (fl σ)) 7 (bi (ic σ))) 8 (σ 5 1)) 9 (fm σ)) 10 (su σ : Int)) 11 (uc σ)) 12 (ga σ : Int) := ⟨_, rfl⟩
    have g1v0 : g1 0 = (σ 5 3) := by rw [hg1]; exact (upi_n _ _ (by decide)).trans ((upi_n _ _ (by decide)).trans ((upi_n _ _ (by decide)).trans ((upi_n _ _ (by decide)).trans ((upi_n _ _ (by decide)).trans ((upi_n _ _ (by decide)).trans ((upi_n _ _ (by decide)).trans ((upi_n _ _ (by decide)).trans ((upi_n _ _ (by decide)).trans ((upi_n _ _ (by decide)).trans ((upi_n _ _ (by decide)).trans ((upi_n _ _ (by decide)).trans (upi_s _ _ _))))))))))))
    have g1v1 : g1 1 = (σ 5 0) := by rw [hg1]; exact (upi_n _ _ (by decide)).trans ((upi_n _ _ (by decide)).trans ((upi_n _ _ (by decide)).trans ((upi_n _ _ (by decide)).trans ((upi_n _ _ (by decide)).trans ((upi_n _ _ (by decide)).trans ((upi_n _ _ (by decide)).trans ((upi_n _ _ (by decide)).trans ((upi_n _ _ (by decide)).trans ((upi_n _ _ (by decide)).trans ((upi_n _ _ (by decide)).trans (upi_s _ _ _)))))))))))
    have g1v2 : g1 2 = (ns σ : Int) := by rw [hg1]; exact (upi_n _ _ (by decide)).trans ((upi_n _ _ (by decide)).trans ((upi_n _ _ (by decide)).trans ((upi_n _ _ (by decide)).trans ((upi_n _ _ (by decide)).trans ((upi_n _ _ (by decide)).trans ((upi_n _ _ (by decide)).trans ((upi_n _ _ (by decide)).trans ((upi_n _ _ (by decide)).trans ((upi_n _ _ (by decide)).trans (upi_s _ _ _))))))))))
    have g1v3 : g1 3 = (hm σ) := by rw [hg1]; exact (upi_n _ _ (by decide)).trans ((upi_n _ _ (by decide)).trans ((upi_n _ _ (by decide)).trans ((upi_n _ _ (by decide)).trans ((upi_n _ _ (by decide)).trans ((upi_n _ _ (by decide)).trans ((upi_n _ _ (by decide)).trans ((upi_n _ _ (by decide)).trans ((upi_n _ _ (by decide)).trans (upi_s _ _ _)))))))))
    have g1v4 : g1 4 = (ccl σ) := by rw [hg1]; exact (upi_n _ _ (by decide)).trans ((upi_n _ _ (by decide)).trans ((upi_n _ _ (by decide)).trans ((upi_n _ _ (by decide)).trans ((upi_n _ _ (by decide)).trans ((upi_n _ _ (by decide)).trans ((upi_n _ _ (by decide)).trans ((upi_n _ _ (by decide)).trans (upi_s _ _ _))))))))
    have g1v5 : g1 5 = (hst σ) := by rw [hg1]; exact (upi_n _ _ (by decide)).trans ((upi_n _ _ (by decide)).trans ((upi_n _ _ (by decide)).trans ((upi_n _ _ (by decide)).trans ((upi_n _ _ (by decide)).trans ((upi_n _ _ (by decide)).trans ((upi_n _ _ (by decide)).trans (upi_s _ _ _)))))))
    have g1v6 : g1 6 = (fl σ) := by rw [hg1]; exact (upi_n _ _ (by decide)).trans ((upi_n _ _ (by decide)).trans ((upi_n _ _ (by decide)).trans ((upi_n _ _ (by decide)).trans ((upi_n _ _ (by decide)).trans ((upi_n _ _ (by decide)).trans (upi_s _ _ _))))))
    have g1v7 : g1 7 = (bi (ic σ)) := by rw [hg1]; exact (upi_n _ _ (by decide)).trans ((upi_n _ _ (by decide)).trans ((upi_n _ _ (by decide)).trans ((upi_n _ _ (by decide)).trans ((upi_n _ _ (by decide)).trans (upi_s _ _ _)))))
    have g1v8 : g1 8 = (σ 5 1) := by rw [hg1]; exact (upi_n _ _ (by decide)).trans ((upi_n _ _ (by decide)).trans ((upi_n _ _ (by decide)).trans ((upi_n _ _ (by decide)).trans (upi_s _ _ _))))
    have g1v9 : g1 9 = (fm σ) := by rw [hg1]; exact (upi_n _ _ (by decide)).trans ((upi_n _ _ (by decide)).trans ((upi_n _ _ (by decide)).trans (upi_s _ _ _)))
    have g1v10 : g1 10 = (su σ : Int) := by rw [hg1]; exact (upi_n _ _ (by decide)).trans ((upi_n _ _ (by decide)).trans (upi_s _ _ _))
    have g1v11 : g1 11 = (uc σ) := by rw [hg1]; exact (upi_n _ _ (by decide)).trans (upi_s _ _ _)
    have g1v12 : g1 12 = (ga σ : Int) := by rw [hg1]; exact upi_s _ _ _
    rw [← hg1] at hW
    clear hg1
    refine lv_astore_n (lv' := [(2, .ref q_3), (1, .int (J (stn σ : Int))), (0, .ref (a 0))]) hx hb dX2_digest_126 rfl hl (by decide) rfl (fun ls hl => ?_)
    refine lv_ldc2 (v := 2087) hx hb hown (hts _ (List.mem_of_getElem? (i := 5) rfl)) dX2_digest_127 ?_
    refine lv_lstore_n (lv' := [(3, .long (2087 : Int64)), (2, .ref q_3), (1, .int (J (stn σ : Int))), (0, .ref (a 0))]) hx hb dX2_digest_130 rfl hl (by decide) rfl (fun ls hl => ?_)
    refine lv_aload_n hx hb dX2_digest_131 rfl (lv_at hl 1 rfl) ?_
    refine lv_astore (lv' := [(5, .ref q_3), (3, .long (2087 : Int64)), (2, .ref q_3), (1, .int (J (stn σ : Int))), (0, .ref (a 0))]) hx hb dX2_digest_132 hl (by decide) rfl (fun ls hl => ?_)
    refine lv_aload hx hb dX2_digest_134 (lv_at hl 0 rfl) ?_
    refine va_alen (v := J (13 : Int)) hx hb hK.1 hW.1 4 0 rfl rfl rfl dX2_digest_136 ?_
    refine lv_istore (lv' := [(6, .int (J (13 : Int))), (5, .ref q_3), (3, .long (2087 : Int64)), (2, .ref q_3), (1, .int (J (stn σ : Int))), (0, .ref (a 0))]) hx hb dX2_digest_137 hl (by decide) rfl (fun ls hl => ?_)
    refine jv_iconst hx hb dX2_digest_139 ?_
    refine lv_istore (lv' := [(7, .int (J 0)), (6, .int (J (13 : Int))), (5, .ref q_3), (3, .long (2087 : Int64)), (2, .ref q_3), (1, .int (J (stn σ : Int))), (0, .ref (a 0))]) hx hb dX2_digest_140 hl (by decide) rfl (fun ls hl => ?_)
    suffices hlp1 : ∀ (n j : Nat), j ≤ 13 → 13 < j + n → ∀ (H : Heap) (locs : List Loc) (ls : Array Slot), St κ A s.heap H locs (WM κ a σ 0 (nowf σ) ++ (WA κ q_3 13 g1)) → lv_has ls 11 [(7, .int (J (j : Int))), (6, .int (J (13 : Int))), (5, .ref q_3), (3, .long (fld g1 (2087 : Int64) j)), (0, .ref (a 0))] → W P l e rm_X2_digest s m args below meth c H locs 1 13 Q (F0 m 142 ls []) from
      hlp1 (13 + 1) 0 (Nat.zero_le _) (by omega)  _ _ _  hW (lv_sub hl [0, 1, 2, 3, 6] rfl)
    intro n
    induction n with
    | zero => intro j h1 h2; exact absurd h2 (by omega)
    | succ n ih_hlp1 =>
      intro j hi hn  H locs ls  hW hl
      refine lv_iload hx hb dX2_digest_142 (lv_at hl 0 rfl) ?_
      refine lv_iload hx hb dX2_digest_144 (lv_at hl 1 rfl) ?_
      refine jv_icmp_ge hx hb 172 dX2_digest_146 (by decide) ⟨by omega, by omega⟩ ⟨by omega, by omega⟩ (fun h_24 => ?_) (fun h_24 => ?_)
      · skip
        have hd_g1 : fld g1 (2087 : Int64) j = dg0 σ := by rw [show j = 13 by omega, fld_13, g1v0, g1v1, g1v2, g1v3, g1v4, g1v5, g1v6, g1v7, g1v8, g1v9, g1v10, g1v11, g1v12]; exact dg0_e σ
        rw [hd_g1] at hl
        refine jv_iconst hx hb dX2_digest_172 ?_
        refine lv_istore (lv' := [(5, .int (J 0)), (7, .int (J (j : Int))), (6, .int (J (13 : Int))), (3, .long (dg0 σ)), (0, .ref (a 0))]) hx hb dX2_digest_173 hl (by decide) rfl (fun ls hl => ?_)
        suffices hlp : ∀ (n i : Nat), i ≤ (nn σ) → (nn σ) < i + n → ∀ (H : Heap) (locs : List Loc) (ls : Array Slot), St κ A s.heap H locs (WM κ a σ 0 (nowf σ)) → lv_has ls 11 [(5, .int (J (i : Int))), (3, .long (dl σ (dg0 σ) i)), (0, .ref (a 0))] → W P l e rm_X2_digest s m args below meth c H locs (1 + i) (13 + 7 * i) Q (F0 m 175 ls []) from
          hlp ((nn σ) + 1) 0 (Nat.zero_le _) (by omega)  _ _ _  (hW.sub [0, 1, 2, 3] rfl rfl) (lv_sub hl [0, 3, 4] rfl)
        intro n
        induction n with
        | zero => intro i h1 h2; exact absurd h2 (by omega)
        | succ n ih =>
          intro i hi hn  H locs ls  hW hl
          refine lv_iload hx hb dX2_digest_175 (lv_at hl 0 rfl) ?_
          refine lv_aload_n hx hb dX2_digest_177 rfl (lv_at hl 2 rfl) ?_
          refine jv_get (T := TX2) (N := 6) (v := .int (J (σ 5 3))) hx hb hts hn2 hown hK hW 0 rfl rfl 1 (by decide) (List.mem_of_getElem? (i := 3) rfl) rfl dX2_digest_178 ?_
          refine jv_icmp_ge hx hb 322 dX2_digest_181 (by decide) ⟨by omega, by omega⟩ ⟨by omega, by omega⟩ (fun h_25 => ?_) (fun h_25 => ?_)
          · skip
            refine lv_lload_n hx hb dX2_digest_322 rfl (lv_at hl 1 rfl) ?_
            exact hret () hW dX2_digest_323 (by first | exact Nat.le_of_ble_eq_true rfl | omega | (dsimp only [rm_X2_digest]; omega)) (by first | exact Nat.le_of_ble_eq_true rfl | omega | (dsimp only [rm_X2_digest]; omega)) (by rw [show i = nn σ by omega]; rfl)
          · skip
            have hbi := hI.at i (by omega)
            refine jv_bipush hx hb 7 dX2_digest_184 (by decide +kernel) ?_
            refine jv_newi (κ := κ) hx hb hts (List.mem_of_getElem? (i := 2) rfl) hK hW hA 7 (by decide) ((1 + i) + 1) ((13 + 7 * i) + 7) (by first | exact Nat.le_of_ble_eq_true rfl | omega | (dsimp only [rm_X2_digest]; omega)) (by first | exact Nat.le_of_ble_eq_true rfl | omega | (dsimp only [rm_X2_digest]; omega)) (by first | exact Nat.le_of_ble_eq_true rfl | omega | (dsimp only [rm_X2_digest]; omega)) (by first | exact Nat.le_of_ble_eq_true rfl | omega | (dsimp only [rm_X2_digest]; omega)) dX2_digest_186 (fun q_26 H hW => ?_)
            have hW : St κ A s.heap H _ (WM κ a σ 0 (nowf σ) ++ (WA κ q_26 7 (fun _ => 0))) := hW
            refine lv_dup hx hb dX2_digest_188 rfl ?_
            refine jv_iconst hx hb dX2_digest_189 ?_
            refine lv_aload_n hx hb dX2_digest_190 rfl (lv_at hl 2 rfl) ?_
            refine jv_get (T := TX2) (N := 6) (v := .ref (a 1)) hx hb hts hn2 hown hK hW 0 rfl rfl 3 (by decide) (List.mem_of_getElem? (i := 7) rfl) rfl dX2_digest_191 ?_
            refine lv_iload hx hb dX2_digest_194 (lv_at hl 0 rfl) ?_
            refine jv_iald (g := (σ 4)) hx hb hK hW 1 rfl i rfl (by omega) (by decide) dX2_digest_196 ?_
            refine jv_iast (g := (fun _ => 0)) (ws' := (WM κ a σ 0 (nowf σ) ++ (WA κ q_26 7 (upi (fun _ => 0) 0 (σ 4 i))))) hx hb hK hW 4 rfl 0 rfl (by omega) (by decide) rfl dX2_digest_197 (fun H locs hW => ?_)
            refine lv_dup hx hb dX2_digest_198 rfl ?_
            refine jv_iconst hx hb dX2_digest_199 ?_
            refine lv_aload_n hx hb dX2_digest_200 rfl (lv_at hl 2 rfl) ?_
            refine jv_get (T := TX2) (N := 6) (v := .ref (a 2)) hx hb hts hn2 hown hK hW 0 rfl rfl 4 (by decide) (List.mem_of_getElem? (i := 4) rfl) rfl dX2_digest_201 ?_
            refine jv_iconst hx hb dX2_digest_204 ?_
            refine lv_iload hx hb dX2_digest_205 (lv_at hl 0 rfl) ?_
            refine jv_iadd hx hb dX2_digest_207 ?_
            refine jv_iald (g := (nowf σ)) hx hb hK hW 2 rfl (3 + i) (by omega) (by omega) (by decide) dX2_digest_208 ?_
            refine jv_eq (y := (σ 0 i)) (nowf_r0 _ (by omega)) ?_
            refine jv_iast (g := (upi (fun _ => 0) 0 (σ 4 i))) (ws' := (WM κ a σ 0 (nowf σ) ++ (WA κ q_26 7 (upi (upi (fun _ => 0) 0 (σ 4 i)) 1 (σ 0 i))))) hx hb hK hW 4 rfl 1 rfl (by omega) (by decide) rfl dX2_digest_209 (fun H locs hW => ?_)
            refine lv_dup hx hb dX2_digest_210 rfl ?_
            refine jv_iconst hx hb dX2_digest_211 ?_
            refine lv_aload_n hx hb dX2_digest_212 rfl (lv_at hl 2 rfl) ?_
            refine jv_get (T := TX2) (N := 6) (v := .ref (a 2)) hx hb hts hn2 hown hK hW 0 rfl rfl 4 (by decide) (List.mem_of_getElem? (i := 4) rfl) rfl dX2_digest_213 ?_
            refine jv_bipush hx hb 13 dX2_digest_216 (by decide +kernel) ?_
            refine lv_iload hx hb dX2_digest_218 (lv_at hl 0 rfl) ?_
            refine jv_iadd hx hb dX2_digest_220 ?_
            refine jv_iald (g := (nowf σ)) hx hb hK hW 2 rfl (13 + i) (by omega) (by omega) (by decide) dX2_digest_221 ?_
            refine jv_eq (y := (σ 1 i)) (nowf_r1 _ (by omega)) ?_
            refine jv_iast (g := (upi (upi (fun _ => 0) 0 (σ 4 i)) 1 (σ 0 i))) (ws' := (WM κ a σ 0 (nowf σ) ++ (WA κ q_26 7 (upi (upi (upi (fun _ => 0) 0 (σ 4 i)) 1 (σ 0 i)) 2 (σ 1 i))))) hx hb hK hW 4 rfl 2 rfl (by omega) (by decide) rfl dX2_digest_222 (fun H locs hW => ?_)
            refine lv_dup hx hb dX2_digest_223 rfl ?_
            refine jv_iconst hx hb dX2_digest_224 ?_
            refine lv_aload_n hx hb dX2_digest_225 rfl (lv_at hl 2 rfl) ?_
            refine jv_get (T := TX2) (N := 6) (v := .ref (a 2)) hx hb hts hn2 hown hK hW 0 rfl rfl 4 (by decide) (List.mem_of_getElem? (i := 4) rfl) rfl dX2_digest_226 ?_
            refine jv_bipush hx hb 23 dX2_digest_229 (by decide +kernel) ?_
            refine lv_iload hx hb dX2_digest_231 (lv_at hl 0 rfl) ?_
            refine jv_iadd hx hb dX2_digest_233 ?_
            refine jv_iald (g := (nowf σ)) hx hb hK hW 2 rfl (23 + i) (by omega) (by omega) (by decide) dX2_digest_234 ?_
            refine jv_eq (y := (σ 2 i)) (nowf_r2 _ (by omega)) ?_
            refine jv_iast (g := (upi (upi (upi (fun _ => 0) 0 (σ 4 i)) 1 (σ 0 i)) 2 (σ 1 i))) (ws' := (WM κ a σ 0 (nowf σ) ++ (WA κ q_26 7 (upi (upi (upi (upi (fun _ => 0) 0 (σ 4 i)) 1 (σ 0 i)) 2 (σ 1 i)) 3 (σ 2 i))))) hx hb hK hW 4 rfl 3 rfl (by omega) (by decide) rfl dX2_digest_235 (fun H locs hW => ?_)
            refine lv_dup hx hb dX2_digest_236 rfl ?_
            refine jv_iconst hx hb dX2_digest_237 ?_
            refine lv_aload_n hx hb dX2_digest_238 rfl (lv_at hl 2 rfl) ?_
            refine lv_iload hx hb dX2_digest_239 (lv_at hl 0 rfl) ?_
            refine fin_i (k := ((1 + i) + 1)) (n := ((13 + 7 * i) + 7)) (W2 := (fun _ => (WM κ a σ 0 (nowf σ) ++ (WA κ q_26 7 (upi (upi (upi (upi (fun _ => 0) 0 (σ 4 i)) 1 (σ 0 i)) 2 (σ 1 i)) 3 (σ 2 i)))))) [0, 1, 2, 3] [4] [1, 2, 3, 4, 0] hW hA (va_runV (As := [.int (J (i : Int))]) (rest := [.int (J 4), .ref q_26, .ref q_26]) F ((m_X2_heard l κ a σ 0 (nowf σ) i (by omega) hI) _) (cwV 1 hts gX2_digest_X2_heard rfl rfl rfl (by decide +kernel) ⟨(Nat.le_of_ble_eq_true rfl), (Nat.le_of_ble_eq_true rfl)⟩) (pre_V hK hW [0, 1, 2, 3] rfl (by decide) 2 0 rfl rfl) rfl rfl hl.1 rfl (lv_room (Nat.le_of_ble_eq_true rfl)) dX2_digest_241 ⟨(by first | exact Nat.le_of_ble_eq_true rfl | omega | (dsimp only [rm_X2_digest, rm_X2_heard]; omega)), (by first | exact Nat.le_of_ble_eq_true rfl | omega | (dsimp only [rm_X2_digest, rm_X2_heard]; omega))⟩) rfl rfl rfl (by decide) rfl (fun _ => rfl) (by first | exact Nat.le_of_ble_eq_true rfl | omega | (dsimp only [rm_X2_digest, rm_X2_heard]; omega)) (by first | exact Nat.le_of_ble_eq_true rfl | omega | (dsimp only [rm_X2_digest, rm_X2_heard]; omega)) (fun r_28 u H locs hp_27 hW => ?_)
            subst hp_27
            have j252 : ∀ (H : Heap) (locs : List Loc) (ls : Array Slot), St κ A s.heap H locs (WM κ a σ 0 (nowf σ) ++ (WA κ q_26 7 (upi (upi (upi (upi (fun _ => 0) 0 (σ 4 i)) 1 (σ 0 i)) 2 (σ 1 i)) 3 (σ 2 i)))) → lv_has ls 11 [(5, .int (J (i : Int))), (3, .long (dl σ (dg0 σ) i)), (0, .ref (a 0))] → W P l e rm_X2_digest s m args below meth c H locs ((1 + i) + 1) ((13 + 7 * i) + 7) Q (F0 m 252 ls [.int (J (bi (sn σ i))), .int (J 4), .ref q_26, .ref q_26]) := by
              intro H locs ls hW hl
              refine jv_iast (g := (upi (upi (upi (upi (fun _ => 0) 0 (σ 4 i)) 1 (σ 0 i)) 2 (σ 1 i)) 3 (σ 2 i))) (ws' := (WM κ a σ 0 (nowf σ) ++ (WA κ q_26 7 (upi (upi (upi (upi (upi (fun _ => 0) 0 (σ 4 i)) 1 (σ 0 i)) 2 (σ 1 i)) 3 (σ 2 i)) 4 (bi (sn σ i)))))) hx hb hK hW 4 rfl 4 rfl (by omega) (by decide) rfl dX2_digest_252 (fun H locs hW => ?_)
              refine lv_dup hx hb dX2_digest_253 rfl ?_
              refine jv_iconst hx hb dX2_digest_254 ?_
              refine lv_aload_n hx hb dX2_digest_255 rfl (lv_at hl 2 rfl) ?_
              refine lv_iload hx hb dX2_digest_256 (lv_at hl 0 rfl) ?_
              refine fin_i (k := ((1 + i) + 1)) (n := ((13 + 7 * i) + 7)) (W2 := (fun _ => (WM κ a σ 0 (nowf σ) ++ (WA κ q_26 7 (upi (upi (upi (upi (upi (fun _ => 0) 0 (σ 4 i)) 1 (σ 0 i)) 2 (σ 1 i)) 3 (σ 2 i)) 4 (bi (sn σ i))))))) [0, 1, 2, 3] [4] [1, 2, 3, 4, 0] hW hA (va_runV (As := [.int (J (i : Int))]) (rest := [.int (J 5), .ref q_26, .ref q_26]) F ((m_X2_clashing l κ a σ 0 (nowf σ) i (by omega) hI) _) (cwV 1 hts gX2_digest_X2_clashing rfl rfl rfl (by decide +kernel) ⟨(Nat.le_of_ble_eq_true rfl), (Nat.le_of_ble_eq_true rfl)⟩) (pre_V hK hW [0, 1, 2, 3] rfl (by decide) 2 0 rfl rfl) rfl rfl hl.1 rfl (lv_room (Nat.le_of_ble_eq_true rfl)) dX2_digest_258 ⟨(by first | exact Nat.le_of_ble_eq_true rfl | omega | (dsimp only [rm_X2_digest, rm_X2_clashing]; omega)), (by first | exact Nat.le_of_ble_eq_true rfl | omega | (dsimp only [rm_X2_digest, rm_X2_clashing]; omega))⟩) rfl rfl rfl (by decide) rfl (fun _ => rfl) (by first | exact Nat.le_of_ble_eq_true rfl | omega | (dsimp only [rm_X2_digest, rm_X2_clashing]; omega)) (by first | exact Nat.le_of_ble_eq_true rfl | omega | (dsimp only [rm_X2_digest, rm_X2_clashing]; omega)) (fun r_30 u H locs hp_29 hW => ?_)
              subst hp_29
              refine jv_iast (g := (upi (upi (upi (upi (upi (fun _ => 0) 0 (σ 4 i)) 1 (σ 0 i)) 2 (σ 1 i)) 3 (σ 2 i)) 4 (bi (sn σ i)))) (ws' := (WM κ a σ 0 (nowf σ) ++ (WA κ q_26 7 (upi (upi (upi (upi (upi (upi (fun _ => 0) 0 (σ 4 i)) 1 (σ 0 i)) 2 (σ 1 i)) 3 (σ 2 i)) 4 (bi (sn σ i))) 5 (cof σ i))))) hx hb hK hW 4 rfl 5 rfl (by omega) (by decide) rfl dX2_digest_261 (fun H locs hW => ?_)
              refine lv_dup hx hb dX2_digest_262 rfl ?_
              refine jv_bipush hx hb 6 dX2_digest_263 (by decide +kernel) ?_
              refine lv_aload_n hx hb dX2_digest_265 rfl (lv_at hl 2 rfl) ?_
              refine lv_iload hx hb dX2_digest_266 (lv_at hl 0 rfl) ?_
              refine fin_i (k := ((1 + i) + 1)) (n := ((13 + 7 * i) + 7)) (W2 := (fun _ => (WM κ a σ 0 (nowf σ) ++ (WA κ q_26 7 (upi (upi (upi (upi (upi (upi (fun _ => 0) 0 (σ 4 i)) 1 (σ 0 i)) 2 (σ 1 i)) 3 (σ 2 i)) 4 (bi (sn σ i))) 5 (cof σ i)))))) [0, 1, 2, 3] [4] [1, 2, 3, 4, 0] hW hA (va_runV (As := [.int (J (i : Int))]) (rest := [.int (J 6), .ref q_26, .ref q_26]) F ((m_X2_tuning l κ a σ 0 (nowf σ) i (by omega) hI) _) (cwV 1 hts gX2_digest_X2_tuning rfl rfl rfl (by decide +kernel) ⟨(Nat.le_of_ble_eq_true rfl), (Nat.le_of_ble_eq_true rfl)⟩) (pre_V hK hW [0, 1, 2, 3] rfl (by decide) 2 0 rfl rfl) rfl rfl hl.1 rfl (lv_room (Nat.le_of_ble_eq_true rfl)) dX2_digest_268 ⟨(by first | exact Nat.le_of_ble_eq_true rfl | omega | (dsimp only [rm_X2_digest, rm_X2_tuning]; omega)), (by first | exact Nat.le_of_ble_eq_true rfl | omega | (dsimp only [rm_X2_digest, rm_X2_tuning]; omega))⟩) rfl rfl rfl (by decide) rfl (fun _ => rfl) (by first | exact Nat.le_of_ble_eq_true rfl | omega | (dsimp only [rm_X2_digest, rm_X2_tuning]; omega)) (by first | exact Nat.le_of_ble_eq_true rfl | omega | (dsimp only [rm_X2_digest, rm_X2_tuning]; omega)) (fun r_32 u H locs hp_31 hW => ?_)
              subst hp_31
              refine jv_iast (g := (upi (upi (upi (upi (upi (upi (fun _ => 0) 0 (σ 4 i)) 1 (σ 0 i)) 2 (σ 1 i)) 3 (σ 2 i)) 4 (bi (sn σ i))) 5 (cof σ i))) (ws' := (WM κ a σ 0 (nowf σ) ++ (WA κ q_26 7 (upi (upi (upi (upi (upi (upi (upi (fun _ => 0) 0 (σ 4 i)) 1 (σ 0 i)) 2 (σ 1 i)) 3 (σ 2 i)) 4 (bi (sn σ i))) 5 (cof σ i)) 6 (btu σ i))))) hx hb hK hW 4 rfl 6 rfl (by omega) (by decide) rfl dX2_digest_271 (fun H locs hW => ?_)
              obtain ⟨g2, hg2⟩ : ∃ g : Nat → Int, g = upi (upi (upi (upi (upi (upi (upi (fun _ => 0) 0 (σ 4 i)) 1 (σ 0 i)) 2 (σ 1 i)) 3 (σ 2 i)) 4 (bi (sn σ i))) 5 (cof σ i)) 6 (btu σ i) := ⟨_, rfl⟩
              have g2v0 : g2 0 = (σ 4 i) := by rw [hg2]; exact (upi_n _ _ (by decide)).trans ((upi_n _ _ (by decide)).trans ((upi_n _ _ (by decide)).trans ((upi_n _ _ (by decide)).trans ((upi_n _ _ (by decide)).trans ((upi_n _ _ (by decide)).trans (upi_s _ _ _))))))
              have g2v1 : g2 1 = (σ 0 i) := by rw [hg2]; exact (upi_n _ _ (by decide)).trans ((upi_n _ _ (by decide)).trans ((upi_n _ _ (by decide)).trans ((upi_n _ _ (by decide)).trans ((upi_n _ _ (by decide)).trans (upi_s _ _ _)))))
              have g2v2 : g2 2 = (σ 1 i) := by rw [hg2]; exact (upi_n _ _ (by decide)).trans ((upi_n _ _ (by decide)).trans ((upi_n _ _ (by decide)).trans ((upi_n _ _ (by decide)).trans (upi_s _ _ _))))
              have g2v3 : g2 3 = (σ 2 i) := by rw [hg2]; exact (upi_n _ _ (by decide)).trans ((upi_n _ _ (by decide)).trans ((upi_n _ _ (by decide)).trans (upi_s _ _ _)))
              have g2v4 : g2 4 = (bi (sn σ i)) := by rw [hg2]; exact (upi_n _ _ (by decide)).trans ((upi_n _ _ (by decide)).trans (upi_s _ _ _))
              have g2v5 : g2 5 = (cof σ i) := by rw [hg2]; exact (upi_n _ _ (by decide)).trans (upi_s _ _ _)
              have g2v6 : g2 6 = (btu σ i) := by rw [hg2]; exact upi_s _ _ _
              rw [← hg2] at hW
              clear hg2
              refine lv_astore (lv' := [(6, .ref q_26), (5, .int (J (i : Int))), (3, .long (dl σ (dg0 σ) i)), (0, .ref (a 0))]) hx hb dX2_digest_272 hl (by decide) rfl (fun ls hl => ?_)
              refine lv_aload hx hb dX2_digest_274 (lv_at hl 0 rfl) ?_
              refine lv_astore (lv' := [(7, .ref q_26), (6, .ref q_26), (5, .int (J (i : Int))), (3, .long (dl σ (dg0 σ) i)), (0, .ref (a 0))]) hx hb dX2_digest_276 hl (by decide) rfl (fun ls hl => ?_)
              refine lv_aload hx hb dX2_digest_278 (lv_at hl 0 rfl) ?_
              refine va_alen (v := J (7 : Int)) hx hb hK.1 hW.1 4 0 rfl rfl rfl dX2_digest_280 ?_
              refine lv_istore (lv' := [(8, .int (J (7 : Int))), (7, .ref q_26), (6, .ref q_26), (5, .int (J (i : Int))), (3, .long (dl σ (dg0 σ) i)), (0, .ref (a 0))]) hx hb dX2_digest_281 hl (by decide) rfl (fun ls hl => ?_)
              refine jv_iconst hx hb dX2_digest_283 ?_
              refine lv_istore (lv' := [(9, .int (J 0)), (8, .int (J (7 : Int))), (7, .ref q_26), (6, .ref q_26), (5, .int (J (i : Int))), (3, .long (dl σ (dg0 σ) i)), (0, .ref (a 0))]) hx hb dX2_digest_284 hl (by decide) rfl (fun ls hl => ?_)
              suffices hlp2 : ∀ (n j : Nat), j ≤ 7 → 7 < j + n → ∀ (H : Heap) (locs : List Loc) (ls : Array Slot), St κ A s.heap H locs (WM κ a σ 0 (nowf σ) ++ (WA κ q_26 7 g2)) → lv_has ls 11 [(9, .int (J (j : Int))), (8, .int (J (7 : Int))), (7, .ref q_26), (5, .int (J (i : Int))), (3, .long (fld g2 (dl σ (dg0 σ) i) j)), (0, .ref (a 0))] → W P l e rm_X2_digest s m args below meth c H locs ((1 + i) + 1) ((13 + 7 * i) + 7) Q (F0 m 286 ls []) from
                hlp2 (7 + 1) 0 (Nat.zero_le _) (by omega)  _ _ _  hW (lv_sub hl [0, 1, 2, 4, 5, 6] rfl)
              intro n
              induction n with
              | zero => intro j h1 h2; exact absurd h2 (by omega)
              | succ n ih_hlp2 =>
                intro j hi hn  H locs ls  hW hl
                refine lv_iload hx hb dX2_digest_286 (lv_at hl 0 rfl) ?_
                refine lv_iload hx hb dX2_digest_288 (lv_at hl 1 rfl) ?_
                refine jv_icmp_ge hx hb 316 dX2_digest_290 (by decide) ⟨by omega, by omega⟩ ⟨by omega, by omega⟩ (fun h_33 => ?_) (fun h_33 => ?_)
                · skip
                  have hd_g2 : fld g2 (dl σ (dg0 σ) i) j = dl σ (dg0 σ) (i + 1) := by rw [show j = 7 by omega, fld_7, g2v0, g2v1, g2v2, g2v3, g2v4, g2v5, g2v6]; exact dl_e σ _ i
                  rw [hd_g2] at hl
                  refine jv_iinc (k := 3) (z := (i : Int)) (lv' := [(5, .int (J ((i : Int) + 1))), (9, .int (J (j : Int))), (8, .int (J (7 : Int))), (7, .ref q_26), (3, .long (dl σ (dg0 σ) (i + 1))), (0, .ref (a 0))]) hx hb dX2_digest_316 hl rfl (by decide) rfl (fun ls hl => ?_)
                  refine lv_goto (tgt := 175) hx hb dX2_digest_319 (by decide) ?_
                  exact ih (i + 1) (by omega) (by omega)  _ _ _  (hW.sub [0, 1, 2, 3] rfl rfl) (lv_sub hl [0, 4, 5] rfl)
                · skip
                  refine lv_aload hx hb dX2_digest_293 (lv_at hl 2 rfl) ?_
                  refine lv_iload hx hb dX2_digest_295 (lv_at hl 0 rfl) ?_
                  refine jv_iald (g := g2) hx hb hK hW 4 rfl j rfl (by omega) (by decide) dX2_digest_297 ?_
                  refine lv_istore (lv' := [(10, .int (J (g2 j))), (9, .int (J (j : Int))), (8, .int (J (7 : Int))), (7, .ref q_26), (5, .int (J (i : Int))), (3, .long (fld g2 (dl σ (dg0 σ) i) j)), (0, .ref (a 0))]) hx hb dX2_digest_298 hl (by decide) rfl (fun ls hl => ?_)
                  refine lv_lload_n hx hb dX2_digest_300 rfl (lv_at hl 5 rfl) ?_
                  refine lv_ldc2 (v := 31) hx hb hown (hts _ (List.mem_of_getElem? (i := 6) rfl)) dX2_digest_301 ?_
                  refine lv_lmul hx hb dX2_digest_304 ?_
                  refine lv_iload hx hb dX2_digest_305 (lv_at hl 0 rfl) ?_
                  refine lv_i2l hx hb dX2_digest_307 rfl ?_
                  refine lv_ladd hx hb dX2_digest_308 ?_
                  rw [fld_s]
                  refine lv_lstore_n (lv' := [(3, .long (fld g2 (dl σ (dg0 σ) i) (j + 1))), (10, .int (J (g2 j))), (9, .int (J (j : Int))), (8, .int (J (7 : Int))), (7, .ref q_26), (5, .int (J (i : Int))), (0, .ref (a 0))]) hx hb dX2_digest_309 rfl hl (by decide) rfl (fun ls hl => ?_)
                  refine jv_iinc (k := 2) (z := (j : Int)) (lv' := [(9, .int (J ((j : Int) + 1))), (3, .long (fld g2 (dl σ (dg0 σ) i) (j + 1))), (10, .int (J (g2 j))), (8, .int (J (7 : Int))), (7, .ref q_26), (5, .int (J (i : Int))), (0, .ref (a 0))]) hx hb dX2_digest_310 hl rfl (by decide) rfl (fun ls hl => ?_)
                  refine lv_goto (tgt := 286) hx hb dX2_digest_313 (by decide) ?_
                  exact ih_hlp2 (j + 1) (by omega) (by omega)  _ _ _  hW (lv_sub hl [0, 3, 4, 5, 1, 6] rfl)
            refine jv_ifb_eq (b := (sn σ i)) hx hb 251 dX2_digest_244 (by decide) (fun h_34 => ?_) (fun h_34 => ?_)
            · skip
              refine jv_iconst hx hb dX2_digest_251 ?_
              refine jv_eq (y := bi (sn σ i)) (by rw [h_34]; rfl) ?_
              exact j252 _ _ _ hW hl
            · skip
              refine jv_iconst hx hb dX2_digest_247 ?_
              refine lv_goto (tgt := 252) hx hb dX2_digest_248 (by decide) ?_
              refine jv_eq (y := bi (sn σ i)) (by rw [h_34]; rfl) ?_
              exact j252 _ _ _ hW hl
      · skip
        refine lv_aload hx hb dX2_digest_149 (lv_at hl 2 rfl) ?_
        refine lv_iload hx hb dX2_digest_151 (lv_at hl 0 rfl) ?_
        refine jv_iald (g := g1) hx hb hK hW 4 rfl j rfl (by omega) (by decide) dX2_digest_153 ?_
        refine lv_istore (lv' := [(8, .int (J (g1 j))), (7, .int (J (j : Int))), (6, .int (J (13 : Int))), (5, .ref q_3), (3, .long (fld g1 (2087 : Int64) j)), (0, .ref (a 0))]) hx hb dX2_digest_154 hl (by decide) rfl (fun ls hl => ?_)
        refine lv_lload_n hx hb dX2_digest_156 rfl (lv_at hl 4 rfl) ?_
        refine lv_ldc2 (v := 31) hx hb hown (hts _ (List.mem_of_getElem? (i := 6) rfl)) dX2_digest_157 ?_
        refine lv_lmul hx hb dX2_digest_160 ?_
        refine lv_iload hx hb dX2_digest_161 (lv_at hl 0 rfl) ?_
        refine lv_i2l hx hb dX2_digest_163 rfl ?_
        refine lv_ladd hx hb dX2_digest_164 ?_
        rw [fld_s]
        refine lv_lstore_n (lv' := [(3, .long (fld g1 (2087 : Int64) (j + 1))), (8, .int (J (g1 j))), (7, .int (J (j : Int))), (6, .int (J (13 : Int))), (5, .ref q_3), (0, .ref (a 0))]) hx hb dX2_digest_165 rfl hl (by decide) rfl (fun ls hl => ?_)
        refine jv_iinc (k := 2) (z := (j : Int)) (lv' := [(7, .int (J ((j : Int) + 1))), (3, .long (fld g1 (2087 : Int64) (j + 1))), (8, .int (J (g1 j))), (6, .int (J (13 : Int))), (5, .ref q_3), (0, .ref (a 0))]) hx hb dX2_digest_166 hl rfl (by decide) rfl (fun ls hl => ?_)
        refine lv_goto (tgt := 142) hx hb dX2_digest_169 (by decide) ?_
        exact ih_hlp1 (j + 1) (by omega) (by omega)  _ _ _  hW (lv_sub hl [0, 3, 4, 1, 5] rfl)
  refine jv_ifb_eq (b := (ic σ)) hx hb 82 dX2_digest_75 (by decide) (fun h_35 => ?_) (fun h_35 => ?_)
  · skip
    refine jv_iconst hx hb dX2_digest_82 ?_
    refine jv_eq (y := bi (ic σ)) (by rw [h_35]; rfl) ?_
    exact j83 _ _ _ hW hl
  · skip
    refine jv_iconst hx hb dX2_digest_78 ?_
    refine lv_goto (tgt := 83) hx hb dX2_digest_79 (by decide) ?_
    refine jv_eq (y := bi (ic σ)) (by rw [h_35]; rfl) ?_
    exact j83 _ _ _ hW hl
