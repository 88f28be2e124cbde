abbrev rm_X2_isIn : Room := { frames := 0, cells := 0, slots := 0, locals := 0 }
set_option maxHeartbeats 4000000 in
set_option maxRecDepth 100000 in
/-- isIn -/
theorem m_X2_isIn (l : Launch) (κ : Kp) (v lo hi : Int) (hz : InR v ∧ InR lo ∧ InR hi) : CGi l yX2_isIn wsX2_isIn rm_X2_isIn κ [.int (J v), .int (J lo), .int (J hi)] ([] : va_W) (fun r _ => r = J (bi (decide (lo ≤ v ∧ v ≤ hi)))) (fun (_ : Unit) => ([] : va_W)) := by
  refine entry_z (by decide) rfl (Nat.le_of_ble_eq_true rfl) ?_
  intro P e s m args below meth c ls A Q F hname hK hA hret hW hl
  obtain ⟨hx, hb, hml, hown, hts⟩ := id F
  refine lv_iload_n hx hb dX2_isIn_0 rfl (lv_at hl 0 rfl) ?_
  refine lv_iload_n hx hb dX2_isIn_1 rfl (lv_at hl 1 rfl) ?_
  refine jv_icmp_lt hx hb 14 dX2_isIn_2 (by decide) ⟨by omega, by omega⟩ ⟨by omega, by omega⟩ (fun h_1 => ?_) (fun h_1 => ?_)
  · skip
    refine jv_iconst hx hb dX2_isIn_14 ?_
    exact hret () hW dX2_isIn_15 (by first | exact Nat.le_of_ble_eq_true rfl | omega | (dsimp only [rm_X2_isIn]; omega)) (by first | exact Nat.le_of_ble_eq_true rfl | omega | (dsimp only [rm_X2_isIn]; omega)) (by first | exact zr_01 (Or.inl rfl) | exact zr_01 (Or.inr rfl) | exact zr_b _ | exact zr_01 (by omega)) (J_f (decide_eq_false (by omega)))
  · skip
    refine lv_iload_n hx hb dX2_isIn_5 rfl (lv_at hl 0 rfl) ?_
    refine lv_iload_n hx hb dX2_isIn_6 rfl (lv_at hl 2 rfl) ?_
    refine jv_icmp_gt hx hb 14 dX2_isIn_7 (by decide) ⟨by omega, by omega⟩ ⟨by omega, by omega⟩ (fun h_2 => ?_) (fun h_2 => ?_)
    · skip
      refine jv_iconst hx hb dX2_isIn_14 ?_
      exact hret () hW dX2_isIn_15 (by first | exact Nat.le_of_ble_eq_true rfl | omega | (dsimp only [rm_X2_isIn]; omega)) (by first | exact Nat.le_of_ble_eq_true rfl | omega | (dsimp only [rm_X2_isIn]; omega)) (by first | exact zr_01 (Or.inl rfl) | exact zr_01 (Or.inr rfl) | exact zr_b _ | exact zr_01 (by omega)) (J_f (decide_eq_false (by omega)))
    · skip
      refine jv_iconst hx hb dX2_isIn_10 ?_
      refine lv_goto (tgt := 15) hx hb dX2_isIn_11 (by decide) ?_
      exact hret () hW dX2_isIn_15 (by first | exact Nat.le_of_ble_eq_true rfl | omega | (dsimp only [rm_X2_isIn]; omega)) (by first | exact Nat.le_of_ble_eq_true rfl | omega | (dsimp only [rm_X2_isIn]; omega)) (by first | exact zr_01 (Or.inl rfl) | exact zr_01 (Or.inr rfl) | exact zr_b _ | exact zr_01 (by omega)) (J_t (decide_eq_true (by omega)))

abbrev rm_X2_isPot : Room := { frames := 1, cells := 0, slots := 0, locals := 22 }
set_option maxHeartbeats 4000000 in
set_option maxRecDepth 100000 in
/-- isPot -/
theorem m_X2_isPot (l : Launch) (κ : Kp) (a : Nat → Nat) (σ : Sg) (th : Int) (kp : Nat → Int) (z : Int) (hz : InR z) (hI : Inv σ) : CGi l yX2_isPot wsX2_isPot rm_X2_isPot κ [.ref (a 0), .int (J z)] (WM κ a σ th kp) (fun r _ => r = J (bi (decide (0 ≤ z ∧ z ≤ σ 5 3 - 1)))) (fun (_ : Unit) => (WM κ a σ th kp)) := by
  refine entry_z (by decide) rfl (Nat.le_of_ble_eq_true rfl) ?_
  intro P e s m args below meth c ls A Q F hname hK hA hret hW hl
  obtain ⟨hx, hb, hml, hown, hts⟩ := id F
  have hn2 : ∀ w ∈ wsX20, w ∈ wsX2_isPot := by decide +kernel
  have hN := hI.hN
  have hN10 := hI.n10
  have hnn := hI.1
  have hcm := cmn_lt σ
  refine lv_iload_n hx hb dX2_isPot_0 rfl (lv_at hl 1 rfl) ?_
  refine jv_iconst hx hb dX2_isPot_1 ?_
  refine lv_aload_n hx hb dX2_isPot_2 rfl (lv_at hl 0 rfl) ?_
  refine jv_get (T := TX2) (N := 6) (v := .int (J (σ 5 3))) hx hb hts hn2 hown hK hW 0 rfl rfl 1 (by decide) (List.mem_of_getElem? (i := 1) rfl) rfl dX2_isPot_3 ?_
  refine jv_iconst hx hb dX2_isPot_6 ?_
  refine jv_isub hx hb dX2_isPot_7 ?_
  refine fin_i (k := 0) (n := 0) (W2 := (fun _ => (WM κ a σ th kp))) [] [0, 1, 2, 3] [0, 1, 2, 3] hW hA (va_runS (As := [.int (J z), .int (J 0), .int (J ((σ 5 3) - 1))]) (rest := []) F ((m_X2_isIn l κ z 0 ((σ 5 3) - 1) (by omega)) _) (va_cwS 3 hts gX2_isPot_X2_isIn rfl rfl rfl (by decide +kernel) ⟨(Nat.le_of_ble_eq_true rfl), (Nat.le_of_ble_eq_true rfl)⟩) (pre_S hK hW [] rfl (by decide)) rfl rfl hl.1 rfl (lv_room (Nat.le_of_ble_eq_true rfl)) dX2_isPot_8 ⟨(by first | exact Nat.le_of_ble_eq_true rfl | omega | (dsimp only [rm_X2_isPot, rm_X2_isIn]; omega)), (by first | exact Nat.le_of_ble_eq_true rfl | omega | (dsimp only [rm_X2_isPot, rm_X2_isIn]; omega))⟩) rfl rfl rfl (by decide) rfl (fun _ => rfl) (by first | exact Nat.le_of_ble_eq_true rfl | omega | (dsimp only [rm_X2_isPot, rm_X2_isIn]; omega)) (by first | exact Nat.le_of_ble_eq_true rfl | omega | (dsimp only [rm_X2_isPot, rm_X2_isIn]; omega)) (fun r_2 u H locs hp_1 hW => ?_)
  subst hp_1
  exact hret () hW dX2_isPot_11 (by first | exact Nat.le_of_ble_eq_true rfl | omega | (dsimp only [rm_X2_isPot]; omega)) (by first | exact Nat.le_of_ble_eq_true rfl | omega | (dsimp only [rm_X2_isPot]; omega)) (by first | exact zr_01 (Or.inl rfl) | exact zr_01 (Or.inr rfl) | exact zr_b _ | exact zr_01 (by omega)) rfl

abbrev rm_X2_no : Room := { frames := 0, cells := 0, slots := 0, locals := 0 }
set_option maxHeartbeats 4000000 in
set_option maxRecDepth 100000 in
/-- no -/
theorem m_X2_no (l : Launch) (κ : Kp) (a : Nat → Nat) (σ : Sg) (th : Int) (kp : Nat → Int) (z : Int) (hI : Inv σ) : CGi l yX2_no wsX2_no rm_X2_no κ [.ref (a 0), .int (J z)] (WM κ a σ th kp) (fun r _ => r = J 0) (fun (_ : Unit) => WM κ a σ z kp) := by
  refine entry_i (by decide) rfl (Nat.le_of_ble_eq_true rfl) ?_
  intro P e s m args below meth c ls A Q F hname hK hA hret hW hl
  obtain ⟨hx, hb, hml, hown, hts⟩ := id F
  have hn2 : ∀ w ∈ wsX20, w ∈ wsX2_no := by decide +kernel
  refine lv_aload_n hx hb dX2_no_0 rfl (lv_at hl 0 rfl) ?_
  refine lv_iload_n hx hb dX2_no_1 rfl (lv_at hl 1 rfl) ?_
  refine jv_put (T := TX2) (N := 6) (ws' := (WM κ a σ z kp)) hx hb hts hn2 tyX2 tyX2_ok nmX2 hown hK hW 0 rfl rfl 0 (by decide) (List.mem_of_getElem? (i := 1) rfl) rfl rfl rfl (Nat.le_of_ble_eq_true rfl) rfl dX2_no_2 (fun H locs hW => ?_)
  refine jv_iconst hx hb dX2_no_5 ?_
  exact hret () hW dX2_no_6 (by first | exact Nat.le_of_ble_eq_true rfl | omega | (dsimp only [rm_X2_no]; omega)) (by first | exact Nat.le_of_ble_eq_true rfl | omega | (dsimp only [rm_X2_no]; omega)) rfl

abbrev rm_X2_isNot : Room := { frames := 0, cells := 0, slots := 0, locals := 0 }
set_option maxHeartbeats 4000000 in
set_option maxRecDepth 100000 in
/-- isNot -/
theorem m_X2_isNot (l : Launch) (κ : Kp) (a : Nat → Nat) (σ : Sg) (th : Int) (kp : Nat → Int) (z : Int) (hI : Inv σ) : CGi l yX2_isNot wsX2_isNot rm_X2_isNot κ [.ref (a 0), .int (J z)] (WM κ a σ th kp) (fun r _ => r = J 0) (fun (_ : Unit) => WM κ a σ z kp) := by
  refine entry_z (by decide) rfl (Nat.le_of_ble_eq_true rfl) ?_
  intro P e s m args below meth c ls A Q F hname hK hA hret hW hl
  obtain ⟨hx, hb, hml, hown, hts⟩ := id F
  have hn2 : ∀ w ∈ wsX20, w ∈ wsX2_isNot := by decide +kernel
  refine lv_aload_n hx hb dX2_isNot_0 rfl (lv_at hl 0 rfl) ?_
  refine lv_iload_n hx hb dX2_isNot_1 rfl (lv_at hl 1 rfl) ?_
  refine jv_put (T := TX2) (N := 6) (ws' := (WM κ a σ z kp)) hx hb hts hn2 tyX2 tyX2_ok nmX2 hown hK hW 0 rfl rfl 0 (by decide) (List.mem_of_getElem? (i := 1) rfl) rfl rfl rfl (Nat.le_of_ble_eq_true rfl) rfl dX2_isNot_2 (fun H locs hW => ?_)
  refine jv_iconst hx hb dX2_isNot_5 ?_
  exact hret () hW dX2_isNot_6 (by first | exact Nat.le_of_ble_eq_true rfl | omega | (dsimp only [rm_X2_isNot]; omega)) (by first | exact Nat.le_of_ble_eq_true rfl | omega | (dsimp only [rm_X2_isNot]; omega)) (by first | exact zr_01 (Or.inl rfl) | exact zr_01 (Or.inr rfl) | exact zr_b _ | exact zr_01 (by omega)) rfl

abbrev rm_X2_ok : Room := { frames := 0, cells := 0, slots := 0, locals := 0 }
set_option maxHeartbeats 4000000 in
set_option maxRecDepth 100000 in
/-- ok -/
theorem m_X2_ok (l : Launch) (κ : Kp) (a : Nat → Nat) (σ : Sg) (th : Int) (kp : Nat → Int) (z : Int) (hI : Inv σ) : CGi l yX2_ok wsX2_ok rm_X2_ok κ [.ref (a 0), .int (J z)] (WM κ a σ th kp) (fun r _ => r = J z) (fun (_ : Unit) => WM κ a σ 0 kp) := by
  refine entry_i (by decide) rfl (Nat.le_of_ble_eq_true rfl) ?_
  intro P e s m args below meth c ls A Q F hname hK hA hret hW hl
  obtain ⟨hx, hb, hml, hown, hts⟩ := id F
  have hn2 : ∀ w ∈ wsX20, w ∈ wsX2_ok := by decide +kernel
  refine lv_aload_n hx hb dX2_ok_0 rfl (lv_at hl 0 rfl) ?_
  refine jv_iconst hx hb dX2_ok_1 ?_
  refine jv_put (T := TX2) (N := 6) (ws' := (WM κ a σ 0 kp)) hx hb hts hn2 tyX2 tyX2_ok nmX2 hown hK hW 0 rfl rfl 0 (by decide) (List.mem_of_getElem? (i := 1) rfl) rfl rfl rfl (Nat.le_of_ble_eq_true rfl) rfl dX2_ok_2 (fun H locs hW => ?_)
  refine lv_iload_n hx hb dX2_ok_5 rfl (lv_at hl 1 rfl) ?_
  exact hret () hW dX2_ok_6 (by first | exact Nat.le_of_ble_eq_true rfl | omega | (dsimp only [rm_X2_ok]; omega)) (by first | exact Nat.le_of_ble_eq_true rfl | omega | (dsimp only [rm_X2_ok]; omega)) rfl

abbrev rm_X2_heard : Room := { frames := 0, cells := 0, slots := 0, locals := 0 }
set_option maxHeartbeats 4000000 in
set_option maxRecDepth 100000 in
/-- heard -/
theorem m_X2_heard (l : Launch) (κ : Kp) (a : Nat → Nat) (σ : Sg) (th : Int) (kp : Nat → Int) (p : Nat) (hp : p < 10) (hI : Inv σ) : CGi l yX2_heard wsX2_heard rm_X2_heard κ [.ref (a 0), .int (J (p : Int))] (WM κ a σ th kp) (fun r _ => r = J (bi (sn σ p))) (fun (_ : Unit) => (WM κ a σ th kp)) := by
  refine entry_z (by decide) rfl (Nat.le_of_ble_eq_true rfl) ?_
  intro P e s m args below meth c ls A Q F hname hK hA hret hW hl
  obtain ⟨hx, hb, hml, hown, hts⟩ := id F
  have hn2 : ∀ w ∈ wsX20, w ∈ wsX2_heard := by decide +kernel
  have hN := hI.hN
  have hN10 := hI.n10
  have hnn := hI.1
  have hcm := cmn_lt σ
  have hbp := hI.at p hp
  have hcb := cmn_bit σ p hp
  refine lv_aload_n hx hb dX2_heard_0 rfl (lv_at hl 0 rfl) ?_
  refine jv_get (T := TX2) (N := 6) (v := .ref (a 2)) hx hb hts hn2 hown hK hW 0 rfl rfl 4 (by decide) (List.mem_of_getElem? (i := 1) rfl) rfl dX2_heard_1 ?_
  refine jv_bipush hx hb 13 dX2_heard_4 (by decide +kernel) ?_
  refine lv_iload_n hx hb dX2_heard_6 rfl (lv_at hl 1 rfl) ?_
  refine jv_iadd hx hb dX2_heard_7 ?_
  refine jv_iald (g := (nowf σ)) hx hb hK hW 2 rfl (13 + p) (by omega) (by omega) (by decide) dX2_heard_8 ?_
  refine jv_eq (y := (σ 1 p)) (nowf_r1 _ (by omega)) ?_
  refine jv_if_le hx hb 27 dX2_heard_9 (by decide) ⟨by omega, by omega⟩ (fun h_1 => ?_) (fun h_1 => ?_)
  · skip
    refine jv_iconst hx hb dX2_heard_27 ?_
    exact hret () hW dX2_heard_28 (by first | exact Nat.le_of_ble_eq_true rfl | omega | (dsimp only [rm_X2_heard]; omega)) (by first | exact Nat.le_of_ble_eq_true rfl | omega | (dsimp only [rm_X2_heard]; omega)) (by first | exact zr_01 (Or.inl rfl) | exact zr_01 (Or.inr rfl) | exact zr_b _ | exact zr_01 (by omega)) (J_f (decide_eq_false (by omega)))
  · skip
    refine lv_aload_n hx hb dX2_heard_12 rfl (lv_at hl 0 rfl) ?_
    refine jv_get (T := TX2) (N := 6) (v := .int (J (cmn σ : Int))) hx hb hts hn2 hown hK hW 0 rfl rfl 2 (by decide) (List.mem_of_getElem? (i := 2) rfl) rfl dX2_heard_13 ?_
    refine lv_iload_n hx hb dX2_heard_16 rfl (lv_at hl 1 rfl) ?_
    refine jv_ishr hx hb (cmn σ) p dX2_heard_17 (by omega) (by omega) ?_
    refine jv_iconst hx hb dX2_heard_18 ?_
    refine jv_iand hx hb ((cmn σ) / 2 ^ p : Nat) 1 dX2_heard_19 ?_
    refine jv_eq (y := bi ((cmn σ).testBit p)) (by rw [bit_mod]; cases (cmn σ).testBit p <;> rfl) ?_
    refine jv_ifb_ne (b := ((cmn σ).testBit p)) hx hb 27 dX2_heard_20 (by decide) (fun h_2 => ?_) (fun h_2 => ?_)
    · skip
      refine jv_iconst hx hb dX2_heard_27 ?_
      exact hret () hW dX2_heard_28 (by first | exact Nat.le_of_ble_eq_true rfl | omega | (dsimp only [rm_X2_heard]; omega)) (by first | exact Nat.le_of_ble_eq_true rfl | omega | (dsimp only [rm_X2_heard]; omega)) (by first | exact zr_01 (Or.inl rfl) | exact zr_01 (Or.inr rfl) | exact zr_b _ | exact zr_01 (by omega)) (J_f (decide_eq_false (fun h => by have h1 := of_decide_eq_true (hcb.symm.trans h_2); omega)))
    · skip
      refine jv_iconst hx hb dX2_heard_23 ?_
      refine lv_goto (tgt := 28) hx hb dX2_heard_24 (by decide) ?_
      exact hret () hW dX2_heard_28 (by first | exact Nat.le_of_ble_eq_true rfl | omega | (dsimp only [rm_X2_heard]; omega)) (by first | exact Nat.le_of_ble_eq_true rfl | omega | (dsimp only [rm_X2_heard]; omega)) (by first | exact zr_01 (Or.inl rfl) | exact zr_01 (Or.inr rfl) | exact zr_b _ | exact zr_01 (by omega)) (J_t (decide_eq_true ⟨by omega, by have := of_decide_eq_false (hcb.symm.trans h_2); omega⟩))

abbrev rm_X2_set : Room := { frames := 1, cells := 0, slots := 0, locals := 21 }
set_option maxHeartbeats 4000000 in
set_option maxRecDepth 100000 in
/-- set -/
theorem m_X2_set (l : Launch) (κ : Kp) (a : Nat → Nat) (σ : Sg) (th : Int) (kp : Nat → Int) (hI : Inv σ) : CGi l yX2_set wsX2_set rm_X2_set κ [.ref (a 0)] (WM κ a σ th kp) (fun r _ => r = J (stn σ : Int)) (fun (_ : Unit) => (WM κ a σ th kp)) := by
  refine entry_i (by decide) rfl (Nat.le_of_ble_eq_true rfl) ?_
  intro P e s m args below meth c ls A Q F hname hK hA hret hW hl
  obtain ⟨hx, hb, hml, hown, hts⟩ := id F
  have hn2 : ∀ w ∈ wsX20, w ∈ wsX2_set := by decide +kernel
  have hN := hI.hN
  have hN10 := hI.n10
  have hnn := hI.1
  have hcm := cmn_lt σ
  refine jv_iconst hx hb dX2_set_0 ?_
  refine lv_istore_n (lv' := [(1, .int (J 0)), (0, .ref (a 0))]) hx hb dX2_set_1 rfl hl (by decide) rfl (fun ls hl => ?_)
  refine jv_iconst hx hb dX2_set_2 ?_
  refine lv_istore_n (lv' := [(2, .int (J 0)), (1, .int (J 0)), (0, .ref (a 0))]) hx hb dX2_set_3 rfl hl (by decide) rfl (fun ls hl => ?_)
  suffices hlp : ∀ (n i : Nat), i ≤ (nn σ) → (nn σ) < i + n → ∀ (f : Int), ∀ (H : Heap) (locs : List Loc) (ls : Array Slot), (f = (bm (sn σ) i : Int)) → St κ A s.heap H locs (WM κ a σ th kp) → lv_has ls 3 [(2, .int (J (i : Int))), (1, .int (J f)), (0, .ref (a 0))] → W P l e rm_X2_set s m args below meth c H locs 0 0 Q (F0 m 4 ls []) from
    hlp ((nn σ) + 1) 0 (Nat.zero_le _) (by omega) 0 _ _ _ rfl hW hl
  intro n
  induction n with
  | zero => intro i h1 h2; exact absurd h2 (by omega)
  | succ n ih =>
    intro i hi hn f H locs ls q_f hW hl
    refine lv_iload_n hx hb dX2_set_4 rfl (lv_at hl 0 rfl) ?_
    refine lv_aload_n hx hb dX2_set_5 rfl (lv_at hl 2 rfl) ?_
    refine jv_get (T := TX2) (N := 6) (v := .int (J (σ 5 3))) hx hb hts hn2 hown hK hW 0 rfl rfl 1 (by decide) (List.mem_of_getElem? (i := 1) rfl) rfl dX2_set_6 ?_
    subst q_f
    refine jv_icmp_ge hx hb 32 dX2_set_9 (by decide) ⟨by omega, by omega⟩ ⟨by omega, by omega⟩ (fun h_1 => ?_) (fun h_1 => ?_)
    · skip
      refine lv_iload_n hx hb dX2_set_32 rfl (lv_at hl 1 rfl) ?_
      exact hret () hW dX2_set_33 (by first | exact Nat.le_of_ble_eq_true rfl | omega | (dsimp only [rm_X2_set]; omega)) (by first | exact Nat.le_of_ble_eq_true rfl | omega | (dsimp only [rm_X2_set]; omega)) (by rw [show i = nn σ by omega]; rfl)
    · skip
      refine lv_aload_n hx hb dX2_set_12 rfl (lv_at hl 2 rfl) ?_
      refine lv_iload_n hx hb dX2_set_13 rfl (lv_at hl 0 rfl) ?_
      refine fin_i (k := 0) (n := 0) (W2 := (fun _ => (WM κ a σ th kp))) [0, 1, 2, 3] [] [0, 1, 2, 3] hW hA (va_runV (As := [.int (J (i : Int))]) (rest := []) F ((m_X2_heard l κ a σ th kp i (by omega) hI) _) (cwV 1 hts gX2_set_X2_heard rfl rfl rfl (by decide +kernel) ⟨(Nat.le_of_ble_eq_true rfl), (Nat.le_of_ble_eq_true rfl)⟩) (pre_V hK hW [0, 1, 2, 3] rfl (by decide) 2 0 rfl rfl) rfl rfl hl.1 rfl (lv_room (Nat.le_of_ble_eq_true rfl)) dX2_set_14 ⟨(by first | exact Nat.le_of_ble_eq_true rfl | omega | (dsimp only [rm_X2_set, rm_X2_heard]; omega)), (by first | exact Nat.le_of_ble_eq_true rfl | omega | (dsimp only [rm_X2_set, rm_X2_heard]; omega))⟩) rfl rfl rfl (by decide) rfl (fun _ => rfl) (by first | exact Nat.le_of_ble_eq_true rfl | omega | (dsimp only [rm_X2_set, rm_X2_heard]; omega)) (by first | exact Nat.le_of_ble_eq_true rfl | omega | (dsimp only [rm_X2_set, rm_X2_heard]; omega)) (fun r_3 u H locs hp_2 hW => ?_)
      subst hp_2
      refine jv_ifb_eq (b := (sn σ i)) hx hb 26 dX2_set_17 (by decide) (fun h_4 => ?_) (fun h_4 => ?_)
      · skip
        refine jv_iinc (k := 0) (z := (i : Int)) (lv' := [(2, .int (J ((i : Int) + 1))), (1, .int (J (bm (sn σ) i : Int))), (0, .ref (a 0))]) hx hb dX2_set_26 hl rfl (by decide) rfl (fun ls hl => ?_)
        refine lv_goto (tgt := 4) hx hb dX2_set_29 (by decide) ?_
        exact ih (i + 1) (by omega) (by omega) (bm (sn σ) i : Int) _ _ _ (by rw [bm_no _ i h_4]) hW hl
      · skip
        refine lv_iload_n hx hb dX2_set_20 rfl (lv_at hl 1 rfl) ?_
        refine jv_iconst hx hb dX2_set_21 ?_
        refine lv_iload_n hx hb dX2_set_22 rfl (lv_at hl 0 rfl) ?_
        refine jv_ishl1 hx hb i dX2_set_23 (by omega) ?_
        refine jv_ior hx hb (bm (sn σ) i) (2 ^ i : Nat) dX2_set_24 ?_
        refine lv_istore_n (lv' := [(1, .int (J (((bm (sn σ) i) ||| (2 ^ i : Nat) : Nat) : Int))), (2, .int (J (i : Int))), (0, .ref (a 0))]) hx hb dX2_set_25 rfl hl (by decide) rfl (fun ls hl => ?_)
        refine jv_iinc (k := 1) (z := (i : Int)) (lv' := [(2, .int (J ((i : Int) + 1))), (1, .int (J (((bm (sn σ) i) ||| (2 ^ i : Nat) : Nat) : Int))), (0, .ref (a 0))]) hx hb dX2_set_26 hl rfl (by decide) rfl (fun ls hl => ?_)
        refine lv_goto (tgt := 4) hx hb dX2_set_29 (by decide) ?_
        exact ih (i + 1) (by omega) (by omega) (((bm (sn σ) i) ||| (2 ^ i : Nat) : Nat) : Int) _ _ _ (by rw [bm_or _ i h_4]) hW hl

abbrev rm_X2_apart : Room := { frames := 1, cells := 0, slots := 0, locals := 21 }
set_option maxHeartbeats 4000000 in
set_option maxRecDepth 100000 in
/-- apart -/
theorem m_X2_apart (l : Launch) (κ : Kp) (a : Nat → Nat) (σ : Sg) (th : Int) (kp : Nat → Int) (p q : Nat) (hpq : p < 10 ∧ q < 10) (hI : Inv σ) : CGi l yX2_apart wsX2_apart rm_X2_apart κ [.ref (a 0), .int (J (p : Int)), .int (J (q : Int))] (WM κ a σ th kp) (fun r _ => r = J (iab (σ 0 p - σ 0 q))) (fun (_ : Unit) => (WM κ a σ th kp)) := by
  refine entry_i (by decide) rfl (Nat.le_of_ble_eq_true rfl) ?_
  intro P e s m args below meth c ls A Q F hname hK hA hret hW hl
  obtain ⟨hx, hb, hml, hown, hts⟩ := id F
  have hn2 : ∀ w ∈ wsX20, w ∈ wsX2_apart := by decide +kernel
  have hbp := hI.at p hpq.1
  have hbq := hI.at q hpq.2
  refine lv_aload_n hx hb dX2_apart_0 rfl (lv_at hl 0 rfl) ?_
  refine jv_get (T := TX2) (N := 6) (v := .ref (a 2)) hx hb hts hn2 hown hK hW 0 rfl rfl 4 (by decide) (List.mem_of_getElem? (i := 1) rfl) rfl dX2_apart_1 ?_
  refine jv_iconst hx hb dX2_apart_4 ?_
  refine lv_iload_n hx hb dX2_apart_5 rfl (lv_at hl 1 rfl) ?_
  refine jv_iadd hx hb dX2_apart_6 ?_
  refine jv_iald (g := (nowf σ)) hx hb hK hW 2 rfl (3 + p) (by omega) (by omega) (by decide) dX2_apart_7 ?_
  refine jv_eq (y := (σ 0 p)) (nowf_r0 _ (by omega)) ?_
  refine lv_aload_n hx hb dX2_apart_8 rfl (lv_at hl 0 rfl) ?_
  refine jv_get (T := TX2) (N := 6) (v := .ref (a 2)) hx hb hts hn2 hown hK hW 0 rfl rfl 4 (by decide) (List.mem_of_getElem? (i := 1) rfl) rfl dX2_apart_9 ?_
  refine jv_iconst hx hb dX2_apart_12 ?_
  refine lv_iload_n hx hb dX2_apart_13 rfl (lv_at hl 2 rfl) ?_
  refine jv_iadd hx hb dX2_apart_14 ?_
  refine jv_iald (g := (nowf σ)) hx hb hK hW 2 rfl (3 + q) (by omega) (by omega) (by decide) dX2_apart_15 ?_
  refine jv_eq (y := (σ 0 q)) (nowf_r0 _ (by omega)) ?_
  refine jv_isub hx hb dX2_apart_16 ?_
  refine jv_abs hx hb hown hml hl hts (List.mem_of_getElem? (i := 2) rfl) (List.mem_of_getElem? (i := 3) rfl) (List.mem_of_getElem? (i := 4) rfl) (List.mem_of_getElem? (i := 5) rfl) (Nat.le_of_ble_eq_true rfl) (Nat.le_of_ble_eq_true rfl) (by first | exact Nat.le_of_ble_eq_true rfl | omega) (by first | exact Nat.le_of_ble_eq_true rfl | omega) ⟨by omega, by omega⟩ dX2_apart_17 ?_
  exact hret () hW dX2_apart_20 (by first | exact Nat.le_of_ble_eq_true rfl | omega | (dsimp only [rm_X2_apart]; omega)) (by first | exact Nat.le_of_ble_eq_true rfl | omega | (dsimp only [rm_X2_apart]; omega)) rfl

abbrev rm_X2_accord : Room := { frames := 2, cells := 0, slots := 0, locals := 43 }
set_option maxHeartbeats 4000000 in
set_option maxRecDepth 100000 in
/-- accord -/
theorem m_X2_accord (l : Launch) (κ : Kp) (a : Nat → Nat) (σ : Sg) (th : Int) (kp : Nat → Int) (p q : Nat) (hpq : p < 10 ∧ q < 10) (hI : Inv σ) : CGi l yX2_accord wsX2_accord rm_X2_accord κ [.ref (a 0), .int (J (p : Int)), .int (J (q : Int))] (WM κ a σ th kp) (fun r _ => r = J (bi (ac (σ 0 p) (σ 0 q)))) (fun (_ : Unit) => (WM κ a σ th kp)) := by
  refine entry_z (by decide) rfl (Nat.le_of_ble_eq_true rfl) ?_
  intro P e s m args below meth c ls A Q F hname hK hA hret hW hl
  obtain ⟨hx, hb, hml, hown, hts⟩ := id F
  have hbp := hI.at p hpq.1
  have hbq := hI.at q hpq.2
  have hib : 0 ≤ iab (σ 0 p - σ 0 q) ∧ iab (σ 0 p - σ 0 q) ≤ 35 := by unfold iab; omega
  refine jv_sipush hx hb 953 dX2_accord_0 (by decide +kernel) ?_
  refine lv_aload_n hx hb dX2_accord_3 rfl (lv_at hl 0 rfl) ?_
  refine lv_iload_n hx hb dX2_accord_4 rfl (lv_at hl 1 rfl) ?_
  refine lv_iload_n hx hb dX2_accord_5 rfl (lv_at hl 2 rfl) ?_
  refine fin_i (k := 0) (n := 0) (W2 := (fun _ => (WM κ a σ th kp))) [0, 1, 2, 3] [] [0, 1, 2, 3] hW hA (va_runV (As := [.int (J (p : Int)), .int (J (q : Int))]) (rest := [.int (J 953)]) F ((m_X2_apart l κ a σ th kp p q ⟨by omega, by omega⟩ hI) _) (cwV 2 hts gX2_accord_X2_apart rfl rfl rfl (by decide +kernel) ⟨(Nat.le_of_ble_eq_true rfl), (Nat.le_of_ble_eq_true rfl)⟩) (pre_V hK hW [0, 1, 2, 3] rfl (by decide) 2 0 rfl rfl) rfl rfl hl.1 rfl (lv_room (Nat.le_of_ble_eq_true rfl)) dX2_accord_6 ⟨(by first | exact Nat.le_of_ble_eq_true rfl | omega | (dsimp only [rm_X2_accord, rm_X2_apart]; omega)), (by first | exact Nat.le_of_ble_eq_true rfl | omega | (dsimp only [rm_X2_accord, rm_X2_apart]; omega))⟩) rfl rfl rfl (by decide) rfl (fun _ => rfl) (by first | exact Nat.le_of_ble_eq_true rfl | omega | (dsimp only [rm_X2_accord, rm_X2_apart]; omega)) (by first | exact Nat.le_of_ble_eq_true rfl | omega | (dsimp only [rm_X2_accord, rm_X2_apart]; omega)) (fun r_2 u H locs hp_1 hW => ?_)
  subst hp_1
  refine jv_bipush hx hb 12 dX2_accord_9 (by decide +kernel) ?_
  refine jv_irem hx hb dX2_accord_11 (by omega) ?_
  refine lv_ishr hx hb dX2_accord_12 ?_
  refine jv_iconst hx hb dX2_accord_13 ?_
  refine lv_iand hx hb dX2_accord_14 ?_
  refine jv_top (y := J (bi (ac (σ 0 p) (σ 0 q)))) acb ?_
  refine jv_iconst hx hb dX2_accord_15 ?_
  refine jv_icmpb_ne (b := (ac (σ 0 p) (σ 0 q))) hx hb 23 dX2_accord_16 (by decide) (fun h_3 => ?_) (fun h_3 => ?_)
  · skip
    refine jv_iconst hx hb dX2_accord_23 ?_
    exact hret () hW dX2_accord_24 (by first | exact Nat.le_of_ble_eq_true rfl | omega | (dsimp only [rm_X2_accord]; omega)) (by first | exact Nat.le_of_ble_eq_true rfl | omega | (dsimp only [rm_X2_accord]; omega)) (by first | exact zr_01 (Or.inl rfl) | exact zr_01 (Or.inr rfl) | exact zr_b _ | exact zr_01 (by omega)) (J_f h_3)
  · skip
    refine jv_iconst hx hb dX2_accord_19 ?_
    refine lv_goto (tgt := 24) hx hb dX2_accord_20 (by decide) ?_
    exact hret () hW dX2_accord_24 (by first | exact Nat.le_of_ble_eq_true rfl | omega | (dsimp only [rm_X2_accord]; omega)) (by first | exact Nat.le_of_ble_eq_true rfl | omega | (dsimp only [rm_X2_accord]; omega)) (by first | exact zr_01 (Or.inl rfl) | exact zr_01 (Or.inr rfl) | exact zr_b _ | exact zr_01 (by omega)) (J_t h_3)

abbrev rm_X2_against : Room := { frames := 3, cells := 0, slots := 0, locals := 65 }
set_option maxHeartbeats 4000000 in
set_option maxRecDepth 100000 in
/-- against -/
theorem m_X2_against (l : Launch) (κ : Kp) (a : Nat → Nat) (σ : Sg) (th : Int) (kp : Nat → Int) (p g : Nat) (hp : p < 10) (hg : g < 1024) (hI : Inv σ) : CGi l yX2_against wsX2_against rm_X2_against κ [.ref (a 0), .int (J (p : Int)), .int (J (g : Int))] (WM κ a σ th kp) (fun r _ => r = J (ag σ p g : Int)) (fun (_ : Unit) => (WM κ a σ th kp)) := by
  refine entry_i (by decide) rfl (Nat.le_of_ble_eq_true rfl) ?_
  intro P e s m args below meth c ls A Q F hname hK hA hret hW hl
  obtain ⟨hx, hb, hml, hown, hts⟩ := id F
  have hn2 : ∀ w ∈ wsX20, w ∈ wsX2_against := by decide +kernel
  have hN := hI.hN
  have hN10 := hI.n10
  have hnn := hI.1
  have hcm := cmn_lt σ
  refine jv_iconst hx hb dX2_against_0 ?_
  refine lv_istore_n (lv' := [(3, .int (J 0)), (0, .ref (a 0)), (1, .int (J (p : Int))), (2, .int (J (g : Int)))]) hx hb dX2_against_1 rfl hl (by decide) rfl (fun ls hl => ?_)
  refine jv_iconst hx hb dX2_against_2 ?_
  refine lv_istore (lv' := [(4, .int (J 0)), (3, .int (J 0)), (0, .ref (a 0)), (1, .int (J (p : Int))), (2, .int (J (g : Int)))]) hx hb dX2_against_3 hl (by decide) rfl (fun ls hl => ?_)
  suffices hlp : ∀ (n i : Nat), i ≤ (nn σ) → (nn σ) < i + n → ∀ (f : Int), ∀ (H : Heap) (locs : List Loc) (ls : Array Slot), (f = (fb_ct (agp σ p g) i : Int)) → St κ A s.heap H locs (WM κ a σ th kp) → lv_has ls 5 [(4, .int (J (i : Int))), (3, .int (J f)), (0, .ref (a 0)), (1, .int (J (p : Int))), (2, .int (J (g : Int)))] → W P l e rm_X2_against s m args below meth c H locs 0 0 Q (F0 m 5 ls []) from
    hlp ((nn σ) + 1) 0 (Nat.zero_le _) (by omega) 0 _ _ _ (by simp [fb_ct, fb_sm]) hW hl
  intro n
  induction n with
  | zero => intro i h1 h2; exact absurd h2 (by omega)
  | succ n ih =>
    intro i hi hn f H locs ls q_f hW hl
    refine lv_iload hx hb dX2_against_5 (lv_at hl 0 rfl) ?_
    refine lv_aload_n hx hb dX2_against_7 rfl (lv_at hl 2 rfl) ?_
    refine jv_get (T := TX2) (N := 6) (v := .int (J (σ 5 3))) hx hb hts hn2 hown hK hW 0 rfl rfl 1 (by decide) (List.mem_of_getElem? (i := 1) rfl) rfl dX2_against_8 ?_
    refine jv_icmp_ge hx hb 48 dX2_against_11 (by decide) ⟨by omega, by omega⟩ ⟨by omega, by omega⟩ (fun h_1 => ?_) (fun h_1 => ?_)
    · skip
      refine lv_iload_n hx hb dX2_against_48 rfl (lv_at hl 1 rfl) ?_
      exact hret () hW dX2_against_49 (by first | exact Nat.le_of_ble_eq_true rfl | omega | (dsimp only [rm_X2_against]; omega)) (by first | exact Nat.le_of_ble_eq_true rfl | omega | (dsimp only [rm_X2_against]; omega)) (by rw [q_f, show i = nn σ by omega]; rfl)
    · skip
      refine lv_iload_n hx hb dX2_against_14 rfl (lv_at hl 1 rfl) ?_
      refine lv_iload_n hx hb dX2_against_15 rfl (lv_at hl 4 rfl) ?_
      refine lv_iload hx hb dX2_against_16 (lv_at hl 0 rfl) ?_
      refine jv_ishr hx hb g i dX2_against_18 (by omega) (by omega) ?_
      refine jv_iconst hx hb dX2_against_19 ?_
      refine jv_iand hx hb (g / 2 ^ i : Nat) 1 dX2_against_20 ?_
      refine jv_eq (y := bi (g.testBit i)) (by rw [bit_mod]; cases g.testBit i <;> rfl) ?_
      refine jv_iconst hx hb dX2_against_21 ?_
      refine jv_icmpb_ne (b := (g.testBit i)) hx hb 39 dX2_against_22 (by decide) (fun h_2 => ?_) (fun h_2 => ?_)
      · skip
        refine jv_iconst hx hb dX2_against_39 ?_
        refine jv_iadd hx hb dX2_against_40 ?_
        refine lv_istore_n (lv' := [(3, .int (J (f + 0))), (4, .int (J (i : Int))), (0, .ref (a 0)), (1, .int (J (p : Int))), (2, .int (J (g : Int)))]) hx hb dX2_against_41 rfl hl (by decide) rfl (fun ls hl => ?_)
        refine jv_iinc (k := 1) (z := (i : Int)) (lv' := [(4, .int (J ((i : Int) + 1))), (3, .int (J (f + 0))), (0, .ref (a 0)), (1, .int (J (p : Int))), (2, .int (J (g : Int)))]) hx hb dX2_against_42 hl rfl (by decide) rfl (fun ls hl => ?_)
        refine lv_goto (tgt := 5) hx hb dX2_against_45 (by decide) ?_
        exact ih (i + 1) (by omega) (by omega) (f + 0) _ _ _ (by simp [fb_ct_succ, q_f, agp, h_2]) hW hl
      · skip
        refine lv_aload_n hx hb dX2_against_25 rfl (lv_at hl 2 rfl) ?_
        refine lv_iload_n hx hb dX2_against_26 rfl (lv_at hl 3 rfl) ?_
        refine lv_iload hx hb dX2_against_27 (lv_at hl 0 rfl) ?_
        refine fin_i (k := 0) (n := 0) (W2 := (fun _ => (WM κ a σ th kp))) [0, 1, 2, 3] [] [0, 1, 2, 3] hW hA (va_runV (As := [.int (J (p : Int)), .int (J (i : Int))]) (rest := [.int (J f)]) F ((m_X2_accord l κ a σ th kp p i ⟨by omega, by omega⟩ hI) _) (cwV 2 hts gX2_against_X2_accord rfl rfl rfl (by decide +kernel) ⟨(Nat.le_of_ble_eq_true rfl), (Nat.le_of_ble_eq_true rfl)⟩) (pre_V hK hW [0, 1, 2, 3] rfl (by decide) 2 0 rfl rfl) rfl rfl hl.1 rfl (lv_room (Nat.le_of_ble_eq_true rfl)) dX2_against_29 ⟨(by first | exact Nat.le_of_ble_eq_true rfl | omega | (dsimp only [rm_X2_against, rm_X2_accord]; omega)), (by first | exact Nat.le_of_ble_eq_true rfl | omega | (dsimp only [rm_X2_against, rm_X2_accord]; omega))⟩) rfl rfl rfl (by decide) rfl (fun _ => rfl) (by first | exact Nat.le_of_ble_eq_true rfl | omega | (dsimp only [rm_X2_against, rm_X2_accord]; omega)) (by first | exact Nat.le_of_ble_eq_true rfl | omega | (dsimp only [rm_X2_against, rm_X2_accord]; omega)) (fun r_4 u H locs hp_3 hW => ?_)
        subst hp_3
        refine jv_ifb_ne (b := (ac (σ 0 p) (σ 0 i))) hx hb 39 dX2_against_32 (by decide) (fun h_5 => ?_) (fun h_5 => ?_)
        · skip
          refine jv_iconst hx hb dX2_against_39 ?_
          refine jv_iadd hx hb dX2_against_40 ?_
          refine lv_istore_n (lv' := [(3, .int (J (f + 0))), (4, .int (J (i : Int))), (0, .ref (a 0)), (1, .int (J (p : Int))), (2, .int (J (g : Int)))]) hx hb dX2_against_41 rfl hl (by decide) rfl (fun ls hl => ?_)
          refine jv_iinc (k := 1) (z := (i : Int)) (lv' := [(4, .int (J ((i : Int) + 1))), (3, .int (J (f + 0))), (0, .ref (a 0)), (1, .int (J (p : Int))), (2, .int (J (g : Int)))]) hx hb dX2_against_42 hl rfl (by decide) rfl (fun ls hl => ?_)
          refine lv_goto (tgt := 5) hx hb dX2_against_45 (by decide) ?_
          exact ih (i + 1) (by omega) (by omega) (f + 0) _ _ _ (by simp [fb_ct_succ, q_f, agp, h_2, h_5]) hW hl
        · skip
          refine jv_iconst hx hb dX2_against_35 ?_
          refine lv_goto (tgt := 40) hx hb dX2_against_36 (by decide) ?_
          refine jv_iadd hx hb dX2_against_40 ?_
          refine lv_istore_n (lv' := [(3, .int (J (f + 1))), (4, .int (J (i : Int))), (0, .ref (a 0)), (1, .int (J (p : Int))), (2, .int (J (g : Int)))]) hx hb dX2_against_41 rfl hl (by decide) rfl (fun ls hl => ?_)
          refine jv_iinc (k := 1) (z := (i : Int)) (lv' := [(4, .int (J ((i : Int) + 1))), (3, .int (J (f + 1))), (0, .ref (a 0)), (1, .int (J (p : Int))), (2, .int (J (g : Int)))]) hx hb dX2_against_42 hl rfl (by decide) rfl (fun ls hl => ?_)
          refine lv_goto (tgt := 5) hx hb dX2_against_45 (by decide) ?_
          exact ih (i + 1) (by omega) (by omega) (f + 1) _ _ _ (by simp [fb_ct_succ, q_f, agp, h_2, h_5]) hW hl

abbrev rm_X2_allClashes : Room := { frames := 4, cells := 0, slots := 0, locals := 89 }
set_option maxHeartbeats 4000000 in
set_option maxRecDepth 100000 in
/-- allClashes -/
theorem m_X2_allClashes (l : Launch) (κ : Kp) (a : Nat → Nat) (σ : Sg) (th : Int) (kp : Nat → Int) (g : Nat) (hg : g < 1024) (hI : Inv σ) : CGi l yX2_allClashes wsX2_allClashes rm_X2_allClashes κ [.ref (a 0), .int (J (g : Int))] (WM κ a σ th kp) (fun r _ => r = J (acl σ g)) (fun (_ : Unit) => (WM κ a σ th kp)) := by
  refine entry_i (by decide) rfl (Nat.le_of_ble_eq_true rfl) ?_
  intro P e s m args below meth c ls A Q F hname hK hA hret hW hl
  obtain ⟨hx, hb, hml, hown, hts⟩ := id F
  have hn2 : ∀ w ∈ wsX20, w ∈ wsX2_allClashes := by decide +kernel
  have hN := hI.hN
  have hN10 := hI.n10
  have hnn := hI.1
  have hcm := cmn_lt σ
  refine jv_iconst hx hb dX2_allClashes_0 ?_
  refine lv_istore_n (lv' := [(2, .int (J 0)), (0, .ref (a 0)), (1, .int (J (g : Int)))]) hx hb dX2_allClashes_1 rfl hl (by decide) rfl (fun ls hl => ?_)
  refine jv_iconst hx hb dX2_allClashes_2 ?_
  refine lv_istore_n (lv' := [(3, .int (J 0)), (2, .int (J 0)), (0, .ref (a 0)), (1, .int (J (g : Int)))]) hx hb dX2_allClashes_3 rfl hl (by decide) rfl (fun ls hl => ?_)
  suffices hlp : ∀ (n i : Nat), i ≤ (nn σ) → (nn σ) < i + n → ∀ (f : Int), ∀ (H : Heap) (locs : List Loc) (ls : Array Slot), (f = (fb_sm (asm σ g) i : Int)) → St κ A s.heap H locs (WM κ a σ th kp) → lv_has ls 4 [(3, .int (J (i : Int))), (2, .int (J f)), (0, .ref (a 0)), (1, .int (J (g : Int)))] → W P l e rm_X2_allClashes s m args below meth c H locs 0 0 Q (F0 m 4 ls []) from
    hlp ((nn σ) + 1) 0 (Nat.zero_le _) (by omega) 0 _ _ _ (by simp [fb_ct, fb_sm]) hW hl
  intro n
  induction n with
  | zero => intro i h1 h2; exact absurd h2 (by omega)
  | succ n ih =>
    intro i hi hn f H locs ls q_f hW hl
    refine lv_iload_n hx hb dX2_allClashes_4 rfl (lv_at hl 0 rfl) ?_
    refine lv_aload_n hx hb dX2_allClashes_5 rfl (lv_at hl 2 rfl) ?_
    refine jv_get (T := TX2) (N := 6) (v := .int (J (σ 5 3))) hx hb hts hn2 hown hK hW 0 rfl rfl 1 (by decide) (List.mem_of_getElem? (i := 1) rfl) rfl dX2_allClashes_6 ?_
    refine jv_icmp_ge hx hb 40 dX2_allClashes_9 (by decide) ⟨by omega, by omega⟩ ⟨by omega, by omega⟩ (fun h_1 => ?_) (fun h_1 => ?_)
    · skip
      have hcc := asm_sum hN10 g
      have q2 : f = (fb_sm (asm σ g) (nn σ) : Int) := by rw [q_f, show i = nn σ by omega]
      refine lv_iload_n hx hb dX2_allClashes_40 rfl (lv_at hl 1 rfl) ?_
      refine jv_iconst hx hb dX2_allClashes_41 ?_
      refine jv_idiv hx hb dX2_allClashes_42 (by omega) ?_
      exact hret () hW dX2_allClashes_43 (by first | exact Nat.le_of_ble_eq_true rfl | omega | (dsimp only [rm_X2_allClashes]; omega)) (by first | exact Nat.le_of_ble_eq_true rfl | omega | (dsimp only [rm_X2_allClashes]; omega)) (by rw [q2]; rfl)
    · skip
      refine lv_iload_n hx hb dX2_allClashes_12 rfl (lv_at hl 1 rfl) ?_
      refine lv_iload_n hx hb dX2_allClashes_13 rfl (lv_at hl 3 rfl) ?_
      refine lv_iload_n hx hb dX2_allClashes_14 rfl (lv_at hl 0 rfl) ?_
      refine jv_ishr hx hb g i dX2_allClashes_15 (by omega) (by omega) ?_
      refine jv_iconst hx hb dX2_allClashes_16 ?_
      refine jv_iand hx hb (g / 2 ^ i : Nat) 1 dX2_allClashes_17 ?_
      refine jv_eq (y := bi (g.testBit i)) (by rw [bit_mod]; cases g.testBit i <;> rfl) ?_
      refine jv_iconst hx hb dX2_allClashes_18 ?_
      refine jv_icmpb_ne (b := (g.testBit i)) hx hb 31 dX2_allClashes_19 (by decide) (fun h_2 => ?_) (fun h_2 => ?_)
      · skip
        refine jv_iconst hx hb dX2_allClashes_31 ?_
        refine jv_iadd hx hb dX2_allClashes_32 ?_
        refine lv_istore_n (lv' := [(2, .int (J (f + 0))), (3, .int (J (i : Int))), (0, .ref (a 0)), (1, .int (J (g : Int)))]) hx hb dX2_allClashes_33 rfl hl (by decide) rfl (fun ls hl => ?_)
        refine jv_iinc (k := 1) (z := (i : Int)) (lv' := [(3, .int (J ((i : Int) + 1))), (2, .int (J (f + 0))), (0, .ref (a 0)), (1, .int (J (g : Int)))]) hx hb dX2_allClashes_34 hl rfl (by decide) rfl (fun ls hl => ?_)
        refine lv_goto (tgt := 4) hx hb dX2_allClashes_37 (by decide) ?_
        exact ih (i + 1) (by omega) (by omega) (f + 0) _ _ _ (by simp [fb_sm_succ, q_f, asm, h_2]) hW hl
      · skip
        refine lv_aload_n hx hb dX2_allClashes_22 rfl (lv_at hl 2 rfl) ?_
        refine lv_iload_n hx hb dX2_allClashes_23 rfl (lv_at hl 0 rfl) ?_
        refine lv_iload_n hx hb dX2_allClashes_24 rfl (lv_at hl 3 rfl) ?_
        refine fin_i (k := 0) (n := 0) (W2 := (fun _ => (WM κ a σ th kp))) [0, 1, 2, 3] [] [0, 1, 2, 3] hW hA (va_runV (As := [.int (J (i : Int)), .int (J (g : Int))]) (rest := [.int (J f)]) F ((m_X2_against l κ a σ th kp i g (by omega) (by omega) hI) _) (cwV 2 hts gX2_allClashes_X2_against rfl rfl rfl (by decide +kernel) ⟨(Nat.le_of_ble_eq_true rfl), (Nat.le_of_ble_eq_true rfl)⟩) (pre_V hK hW [0, 1, 2, 3] rfl (by decide) 2 0 rfl rfl) rfl rfl hl.1 rfl (lv_room (Nat.le_of_ble_eq_true rfl)) dX2_allClashes_25 ⟨(by first | exact Nat.le_of_ble_eq_true rfl | omega | (dsimp only [rm_X2_allClashes, rm_X2_against]; omega)), (by first | exact Nat.le_of_ble_eq_true rfl | omega | (dsimp only [rm_X2_allClashes, rm_X2_against]; omega))⟩) rfl rfl rfl (by decide) rfl (fun _ => rfl) (by first | exact Nat.le_of_ble_eq_true rfl | omega | (dsimp only [rm_X2_allClashes, rm_X2_against]; omega)) (by first | exact Nat.le_of_ble_eq_true rfl | omega | (dsimp only [rm_X2_allClashes, rm_X2_against]; omega)) (fun r_4 u H locs hp_3 hW => ?_)
        subst hp_3
        refine lv_goto (tgt := 32) hx hb dX2_allClashes_28 (by decide) ?_
        refine jv_iadd hx hb dX2_allClashes_32 ?_
        refine lv_istore_n (lv' := [(2, .int (J (f + (ag σ i g : Int)))), (3, .int (J (i : Int))), (0, .ref (a 0)), (1, .int (J (g : Int)))]) hx hb dX2_allClashes_33 rfl hl (by decide) rfl (fun ls hl => ?_)
        refine jv_iinc (k := 1) (z := (i : Int)) (lv' := [(3, .int (J ((i : Int) + 1))), (2, .int (J (f + (ag σ i g : Int)))), (0, .ref (a 0)), (1, .int (J (g : Int)))]) hx hb dX2_allClashes_34 hl rfl (by decide) rfl (fun ls hl => ?_)
        refine lv_goto (tgt := 4) hx hb dX2_allClashes_37 (by decide) ?_
        exact ih (i + 1) (by omega) (by omega) (f + (ag σ i g : Int)) _ _ _ (by simp [fb_sm_succ, q_f, asm, h_2]) hW hl

abbrev rm_X2_harmonyOf : Room := { frames := 5, cells := 0, slots := 0, locals := 112 }
set_option maxHeartbeats 4000000 in
set_option maxRecDepth 100000 in
/-- harmonyOf -/
theorem m_X2_harmonyOf (l : Launch) (κ : Kp) (a : Nat → Nat) (σ : Sg) (th : Int) (kp : Nat → Int) (g : Nat) (hg : g < 1024) (hI : Inv σ) : CGi l yX2_harmonyOf wsX2_harmonyOf rm_X2_harmonyOf κ [.ref (a 0), .int (J (g : Int))] (WM κ a σ th kp) (fun r _ => r = J (hmo σ g)) (fun (_ : Unit) => (WM κ a σ th kp)) := by
  refine entry_i (by decide) rfl (Nat.le_of_ble_eq_true rfl) ?_
  intro P e s m args below meth c ls A Q F hname hK hA hret hW hl
  obtain ⟨hx, hb, hml, hown, hts⟩ := id F
  have hN := hI.hN
  have hN10 := hI.n10
  have hnn := hI.1
  have hcm := cmn_lt σ
  have htri := tri_b (pcn_le g)
  refine lv_iload_n hx hb dX2_harmonyOf_0 rfl (lv_at hl 1 rfl) ?_
  refine fin_i (k := 0) (n := 0) (W2 := (fun _ => (WM κ a σ th kp))) [] [0, 1, 2, 3] [0, 1, 2, 3] hW hA (va_runS (As := [.int (J (g : Int))]) (rest := []) F ((m_J6_bitCount_0f7a4 l κ g (by omega)) _) (va_cwS 1 hts gX2_harmonyOf_J6_bitCount_0f7a4 rfl rfl rfl (by decide +kernel) ⟨(Nat.le_of_ble_eq_true rfl), (Nat.le_of_ble_eq_true rfl)⟩) (pre_S hK hW [] rfl (by decide)) rfl rfl hl.1 rfl (lv_room (Nat.le_of_ble_eq_true rfl)) dX2_harmonyOf_1 ⟨(by first | exact Nat.le_of_ble_eq_true rfl | omega | (dsimp only [rm_X2_harmonyOf, rm_J6_bitCount_0f7a4]; omega)), (by first | exact Nat.le_of_ble_eq_true rfl | omega | (dsimp only [rm_X2_harmonyOf, rm_J6_bitCount_0f7a4]; omega))⟩) rfl rfl rfl (by decide) rfl (fun _ => rfl) (by first | exact Nat.le_of_ble_eq_true rfl | omega | (dsimp only [rm_X2_harmonyOf, rm_J6_bitCount_0f7a4]; omega)) (by first | exact Nat.le_of_ble_eq_true rfl | omega | (dsimp only [rm_X2_harmonyOf, rm_J6_bitCount_0f7a4]; omega)) (fun r_2 u H locs hp_1 hW => ?_)
  subst hp_1
  refine lv_istore_n (lv' := [(2, .int (J (pcn g : Int))), (0, .ref (a 0)), (1, .int (J (g : Int)))]) hx hb dX2_harmonyOf_4 rfl hl (by decide) rfl (fun ls hl => ?_)
  refine lv_iload_n hx hb dX2_harmonyOf_5 rfl (lv_at hl 0 rfl) ?_
  refine lv_iload_n hx hb dX2_harmonyOf_6 rfl (lv_at hl 0 rfl) ?_
  refine jv_iconst hx hb dX2_harmonyOf_7 ?_
  refine jv_isub hx hb dX2_harmonyOf_8 ?_
  refine jv_imul hx hb dX2_harmonyOf_9 ?_
  refine jv_iconst hx hb dX2_harmonyOf_10 ?_
  refine jv_idiv hx hb dX2_harmonyOf_11 (by omega) ?_
  refine jv_iconst hx hb dX2_harmonyOf_12 ?_
  refine lv_aload_n hx hb dX2_harmonyOf_13 rfl (lv_at hl 1 rfl) ?_
  refine lv_iload_n hx hb dX2_harmonyOf_14 rfl (lv_at hl 2 rfl) ?_
  refine fin_i (k := 0) (n := 0) (W2 := (fun _ => (WM κ a σ th kp))) [0, 1, 2, 3] [] [0, 1, 2, 3] hW hA (va_runV (As := [.int (J (g : Int))]) (rest := [.int (J 2), .int (J (((pcn g : Int) * ((pcn g : Int) - 1)) / 2))]) F ((m_X2_allClashes l κ a σ th kp g (by omega) hI) _) (cwV 1 hts gX2_harmonyOf_X2_allClashes rfl rfl rfl (by decide +kernel) ⟨(Nat.le_of_ble_eq_true rfl), (Nat.le_of_ble_eq_true rfl)⟩) (pre_V hK hW [0, 1, 2, 3] rfl (by decide) 2 0 rfl rfl) rfl rfl hl.1 rfl (lv_room (Nat.le_of_ble_eq_true rfl)) dX2_harmonyOf_15 ⟨(by first | exact Nat.le_of_ble_eq_true rfl | omega | (dsimp only [rm_X2_harmonyOf, rm_X2_allClashes]; omega)), (by first | exact Nat.le_of_ble_eq_true rfl | omega | (dsimp only [rm_X2_harmonyOf, rm_X2_allClashes]; omega))⟩) rfl rfl rfl (by decide) rfl (fun _ => rfl) (by first | exact Nat.le_of_ble_eq_true rfl | omega | (dsimp only [rm_X2_harmonyOf, rm_X2_allClashes]; omega)) (by first | exact Nat.le_of_ble_eq_true rfl | omega | (dsimp only [rm_X2_harmonyOf, rm_X2_allClashes]; omega)) (fun r_4 u H locs hp_3 hW => ?_)
  subst hp_3
  refine jv_imul hx hb dX2_harmonyOf_18 ?_
  refine jv_isub hx hb dX2_harmonyOf_19 ?_
  exact hret () hW dX2_harmonyOf_20 (by first | exact Nat.le_of_ble_eq_true rfl | omega | (dsimp only [rm_X2_harmonyOf]; omega)) (by first | exact Nat.le_of_ble_eq_true rfl | omega | (dsimp only [rm_X2_harmonyOf]; omega)) rfl

abbrev rm_X2_clear : Room := { frames := 5, cells := 0, slots := 0, locals := 112 }
set_option maxHeartbeats 4000000 in
set_option maxRecDepth 100000 in
/-- clear -/
theorem m_X2_clear (l : Launch) (κ : Kp) (a : Nat → Nat) (σ : Sg) (th : Int) (kp : Nat → Int) (hI : Inv σ) : CGi l yX2_clear wsX2_clear rm_X2_clear κ [.ref (a 0)] (WM κ a σ th kp) (fun r _ => r = J (bi (ic σ))) (fun (_ : Unit) => (WM κ a σ th kp)) := by
  refine entry_z (by decide) rfl (Nat.le_of_ble_eq_true rfl) ?_
  intro P e s m args below meth c ls A Q F hname hK hA hret hW hl
  obtain ⟨hx, hb, hml, hown, hts⟩ := id F
  have hN := hI.hN
  have hN10 := hI.n10
  have hnn := hI.1
  have hcm := cmn_lt σ
  have hst := stn_lt hN10
  have hpc := pcn_set hN10
  have hac := acl_set σ
  have hns := ns_le σ
  have hcr := ccl_rng hN10
  refine lv_aload_n hx hb dX2_clear_0 rfl (lv_at hl 0 rfl) ?_
  refine fin_i (k := 0) (n := 0) (W2 := (fun _ => (WM κ a σ th kp))) [0, 1, 2, 3] [] [0, 1, 2, 3] hW hA (va_runV (As := []) (rest := []) F ((m_X2_set l κ a σ th kp  hI) _) (cwV 0 hts gX2_clear_X2_set rfl rfl rfl (by decide +kernel) ⟨(Nat.le_of_ble_eq_true rfl), (Nat.le_of_ble_eq_true rfl)⟩) (pre_V hK hW [0, 1, 2, 3] rfl (by decide) 2 0 rfl rfl) rfl rfl hl.1 rfl (lv_room (Nat.le_of_ble_eq_true rfl)) dX2_clear_1 ⟨(by first | exact Nat.le_of_ble_eq_true rfl | omega | (dsimp only [rm_X2_clear, rm_X2_set]; omega)), (by first | exact Nat.le_of_ble_eq_true rfl | omega | (dsimp only [rm_X2_clear, rm_X2_set]; omega))⟩) rfl rfl rfl (by decide) rfl (fun _ => rfl) (by first | exact Nat.le_of_ble_eq_true rfl | omega | (dsimp only [rm_X2_clear, rm_X2_set]; omega)) (by first | exact Nat.le_of_ble_eq_true rfl | omega | (dsimp only [rm_X2_clear, rm_X2_set]; omega)) (fun r_2 u H locs hp_1 hW => ?_)
  subst hp_1
  refine fin_i (k := 0) (n := 0) (W2 := (fun _ => (WM κ a σ th kp))) [] [0, 1, 2, 3] [0, 1, 2, 3] hW hA (va_runS (As := [.int (J (stn σ : Int))]) (rest := []) F ((m_J6_bitCount_0f7a4 l κ (stn σ) (by omega)) _) (va_cwS 1 hts gX2_clear_J6_bitCount_0f7a4 rfl rfl rfl (by decide +kernel) ⟨(Nat.le_of_ble_eq_true rfl), (Nat.le_of_ble_eq_true rfl)⟩) (pre_S hK hW [] rfl (by decide)) rfl rfl hl.1 rfl (lv_room (Nat.le_of_ble_eq_true rfl)) dX2_clear_4 ⟨(by first | exact Nat.le_of_ble_eq_true rfl | omega | (dsimp only [rm_X2_clear, rm_J6_bitCount_0f7a4]; omega)), (by first | exact Nat.le_of_ble_eq_true rfl | omega | (dsimp only [rm_X2_clear, rm_J6_bitCount_0f7a4]; omega))⟩) rfl rfl rfl (by decide) rfl (fun _ => rfl) (by first | exact Nat.le_of_ble_eq_true rfl | omega | (dsimp only [rm_X2_clear, rm_J6_bitCount_0f7a4]; omega)) (by first | exact Nat.le_of_ble_eq_true rfl | omega | (dsimp only [rm_X2_clear, rm_J6_bitCount_0f7a4]; omega)) (fun r_4 u H locs hp_3 hW => ?_)
  subst hp_3
  refine jv_iconst hx hb dX2_clear_7 ?_
  refine jv_icmp_le hx hb 26 dX2_clear_8 (by decide) ⟨by omega, by omega⟩ ⟨by omega, by omega⟩ (fun h_5 => ?_) (fun h_5 => ?_)
  · skip
    refine jv_iconst hx hb dX2_clear_26 ?_
    exact hret () hW dX2_clear_27 (by first | exact Nat.le_of_ble_eq_true rfl | omega | (dsimp only [rm_X2_clear]; omega)) (by first | exact Nat.le_of_ble_eq_true rfl | omega | (dsimp only [rm_X2_clear]; omega)) (by first | exact zr_01 (Or.inl rfl) | exact zr_01 (Or.inr rfl) | exact zr_b _ | exact zr_01 (by omega)) (J_f (decide_eq_false (by omega)))
  · skip
    refine lv_aload_n hx hb dX2_clear_11 rfl (lv_at hl 0 rfl) ?_
    refine lv_aload_n hx hb dX2_clear_12 rfl (lv_at hl 0 rfl) ?_
    refine fin_i (k := 0) (n := 0) (W2 := (fun _ => (WM κ a σ th kp))) [0, 1, 2, 3] [] [0, 1, 2, 3] hW hA (va_runV (As := []) (rest := [.ref (a 0)]) F ((m_X2_set l κ a σ th kp  hI) _) (cwV 0 hts gX2_clear_X2_set rfl rfl rfl (by decide +kernel) ⟨(Nat.le_of_ble_eq_true rfl), (Nat.le_of_ble_eq_true rfl)⟩) (pre_V hK hW [0, 1, 2, 3] rfl (by decide) 2 0 rfl rfl) rfl rfl hl.1 rfl (lv_room (Nat.le_of_ble_eq_true rfl)) dX2_clear_13 ⟨(by first | exact Nat.le_of_ble_eq_true rfl | omega | (dsimp only [rm_X2_clear, rm_X2_set]; omega)), (by first | exact Nat.le_of_ble_eq_true rfl | omega | (dsimp only [rm_X2_clear, rm_X2_set]; omega))⟩) rfl rfl rfl (by decide) rfl (fun _ => rfl) (by first | exact Nat.le_of_ble_eq_true rfl | omega | (dsimp only [rm_X2_clear, rm_X2_set]; omega)) (by first | exact Nat.le_of_ble_eq_true rfl | omega | (dsimp only [rm_X2_clear, rm_X2_set]; omega)) (fun r_7 u H locs hp_6 hW => ?_)
    subst hp_6
    refine fin_i (k := 0) (n := 0) (W2 := (fun _ => (WM κ a σ th kp))) [0, 1, 2, 3] [] [0, 1, 2, 3] hW hA (va_runV (As := [.int (J (stn σ : Int))]) (rest := []) F ((m_X2_allClashes l κ a σ th kp (stn σ) (by omega) hI) _) (cwV 1 hts gX2_clear_X2_allClashes rfl rfl rfl (by decide +kernel) ⟨(Nat.le_of_ble_eq_true rfl), (Nat.le_of_ble_eq_true rfl)⟩) (pre_V hK hW [0, 1, 2, 3] rfl (by decide) 2 0 rfl rfl) rfl rfl hl.1 rfl (lv_room (Nat.le_of_ble_eq_true rfl)) dX2_clear_16 ⟨(by first | exact Nat.le_of_ble_eq_true rfl | omega | (dsimp only [rm_X2_clear, rm_X2_allClashes]; omega)), (by first | exact Nat.le_of_ble_eq_true rfl | omega | (dsimp only [rm_X2_clear, rm_X2_allClashes]; omega))⟩) rfl rfl rfl (by decide) rfl (fun _ => rfl) (by first | exact Nat.le_of_ble_eq_true rfl | omega | (dsimp only [rm_X2_clear, rm_X2_allClashes]; omega)) (by first | exact Nat.le_of_ble_eq_true rfl | omega | (dsimp only [rm_X2_clear, rm_X2_allClashes]; omega)) (fun r_9 u H locs hp_8 hW => ?_)
    subst hp_8
    refine jv_if_ne hx hb 26 dX2_clear_19 (by decide) ⟨by omega, by omega⟩ (fun h_10 => ?_) (fun h_10 => ?_)
    · skip
      refine jv_iconst hx hb dX2_clear_26 ?_
      exact hret () hW dX2_clear_27 (by first | exact Nat.le_of_ble_eq_true rfl | omega | (dsimp only [rm_X2_clear]; omega)) (by first | exact Nat.le_of_ble_eq_true rfl | omega | (dsimp only [rm_X2_clear]; omega)) (by first | exact zr_01 (Or.inl rfl) | exact zr_01 (Or.inr rfl) | exact zr_b _ | exact zr_01 (by omega)) (J_f (decide_eq_false (by omega)))
    · skip
      refine jv_iconst hx hb dX2_clear_22 ?_
      refine lv_goto (tgt := 27) hx hb dX2_clear_23 (by decide) ?_
      exact hret () hW dX2_clear_27 (by first | exact Nat.le_of_ble_eq_true rfl | omega | (dsimp only [rm_X2_clear]; omega)) (by first | exact Nat.le_of_ble_eq_true rfl | omega | (dsimp only [rm_X2_clear]; omega)) (by first | exact zr_01 (Or.inl rfl) | exact zr_01 (Or.inr rfl) | exact zr_b _ | exact zr_01 (by omega)) (J_t (decide_eq_true (by omega)))

abbrev rm_X2_clashing : Room := { frames := 4, cells := 0, slots := 0, locals := 89 }
set_option maxHeartbeats 4000000 in
set_option maxRecDepth 100000 in
/-- clashing -/
theorem m_X2_clashing (l : Launch) (κ : Kp) (a : Nat → Nat) (σ : Sg) (th : Int) (kp : Nat → Int) (p : Nat) (hp : p < 10) (hI : Inv σ) : CGi l yX2_clashing wsX2_clashing rm_X2_clashing κ [.ref (a 0), .int (J (p : Int))] (WM κ a σ th kp) (fun r _ => r = J (cof σ p)) (fun (_ : Unit) => (WM κ a σ th kp)) := by
  refine entry_i (by decide) rfl (Nat.le_of_ble_eq_true rfl) ?_
  intro P e s m args below meth c ls A Q F hname hK hA hret hW hl
  obtain ⟨hx, hb, hml, hown, hts⟩ := id F
  have hN := hI.hN
  have hN10 := hI.n10
  have hnn := hI.1
  have hcm := cmn_lt σ
  have hst := stn_lt hN10
  refine lv_aload_n hx hb dX2_clashing_0 rfl (lv_at hl 0 rfl) ?_
  refine lv_iload_n hx hb dX2_clashing_1 rfl (lv_at hl 1 rfl) ?_
  refine fin_i (k := 0) (n := 0) (W2 := (fun _ => (WM κ a σ th kp))) [0, 1, 2, 3] [] [0, 1, 2, 3] hW hA (va_runV (As := [.int (J (p : Int))]) (rest := []) F ((m_X2_heard l κ a σ th kp p (by omega) hI) _) (cwV 1 hts gX2_clashing_X2_heard rfl rfl rfl (by decide +kernel) ⟨(Nat.le_of_ble_eq_true rfl), (Nat.le_of_ble_eq_true rfl)⟩) (pre_V hK hW [0, 1, 2, 3] rfl (by decide) 2 0 rfl rfl) rfl rfl hl.1 rfl (lv_room (Nat.le_of_ble_eq_true rfl)) dX2_clashing_2 ⟨(by first | exact Nat.le_of_ble_eq_true rfl | omega | (dsimp only [rm_X2_clashing, rm_X2_heard]; omega)), (by first | exact Nat.le_of_ble_eq_true rfl | omega | (dsimp only [rm_X2_clashing, rm_X2_heard]; omega))⟩) rfl rfl rfl (by decide) rfl (fun _ => rfl) (by first | exact Nat.le_of_ble_eq_true rfl | omega | (dsimp only [rm_X2_clashing, rm_X2_heard]; omega)) (by first | exact Nat.le_of_ble_eq_true rfl | omega | (dsimp only [rm_X2_clashing, rm_X2_heard]; omega)) (fun r_2 u H locs hp_1 hW => ?_)
  subst hp_1
  refine jv_ifb_eq (b := (sn σ p)) hx hb 20 dX2_clashing_5 (by decide) (fun h_3 => ?_) (fun h_3 => ?_)
  · skip
    refine jv_iconst hx hb dX2_clashing_20 ?_
    exact hret () hW dX2_clashing_21 (by first | exact Nat.le_of_ble_eq_true rfl | omega | (dsimp only [rm_X2_clashing]; omega)) (by first | exact Nat.le_of_ble_eq_true rfl | omega | (dsimp only [rm_X2_clashing]; omega)) (by unfold cof; rw [if_neg (by rw [h_3]; decide)])
  · skip
    refine lv_aload_n hx hb dX2_clashing_8 rfl (lv_at hl 0 rfl) ?_
    refine lv_iload_n hx hb dX2_clashing_9 rfl (lv_at hl 1 rfl) ?_
    refine lv_aload_n hx hb dX2_clashing_10 rfl (lv_at hl 0 rfl) ?_
    refine fin_i (k := 0) (n := 0) (W2 := (fun _ => (WM κ a σ th kp))) [0, 1, 2, 3] [] [0, 1, 2, 3] hW hA (va_runV (As := []) (rest := [.int (J (p : Int)), .ref (a 0)]) F ((m_X2_set l κ a σ th kp  hI) _) (cwV 0 hts gX2_clashing_X2_set rfl rfl rfl (by decide +kernel) ⟨(Nat.le_of_ble_eq_true rfl), (Nat.le_of_ble_eq_true rfl)⟩) (pre_V hK hW [0, 1, 2, 3] rfl (by decide) 2 0 rfl rfl) rfl rfl hl.1 rfl (lv_room (Nat.le_of_ble_eq_true rfl)) dX2_clashing_11 ⟨(by first | exact Nat.le_of_ble_eq_true rfl | omega | (dsimp only [rm_X2_clashing, rm_X2_set]; omega)), (by first | exact Nat.le_of_ble_eq_true rfl | omega | (dsimp only [rm_X2_clashing, rm_X2_set]; omega))⟩) rfl rfl rfl (by decide) rfl (fun _ => rfl) (by first | exact Nat.le_of_ble_eq_true rfl | omega | (dsimp only [rm_X2_clashing, rm_X2_set]; omega)) (by first | exact Nat.le_of_ble_eq_true rfl | omega | (dsimp only [rm_X2_clashing, rm_X2_set]; omega)) (fun r_5 u H locs hp_4 hW => ?_)
    subst hp_4
    refine fin_i (k := 0) (n := 0) (W2 := (fun _ => (WM κ a σ th kp))) [0, 1, 2, 3] [] [0, 1, 2, 3] hW hA (va_runV (As := [.int (J (p : Int)), .int (J (stn σ : Int))]) (rest := []) F ((m_X2_against l κ a σ th kp p (stn σ) (by omega) (by omega) hI) _) (cwV 2 hts gX2_clashing_X2_against rfl rfl rfl (by decide +kernel) ⟨(Nat.le_of_ble_eq_true rfl), (Nat.le_of_ble_eq_true rfl)⟩) (pre_V hK hW [0, 1, 2, 3] rfl (by decide) 2 0 rfl rfl) rfl rfl hl.1 rfl (lv_room (Nat.le_of_ble_eq_true rfl)) dX2_clashing_14 ⟨(by first | exact Nat.le_of_ble_eq_true rfl | omega | (dsimp only [rm_X2_clashing, rm_X2_against]; omega)), (by first | exact Nat.le_of_ble_eq_true rfl | omega | (dsimp only [rm_X2_clashing, rm_X2_against]; omega))⟩) rfl rfl rfl (by decide) rfl (fun _ => rfl) (by first | exact Nat.le_of_ble_eq_true rfl | omega | (dsimp only [rm_X2_clashing, rm_X2_against]; omega)) (by first | exact Nat.le_of_ble_eq_true rfl | omega | (dsimp only [rm_X2_clashing, rm_X2_against]; omega)) (fun r_7 u H locs hp_6 hW => ?_)
    subst hp_6
    refine lv_goto (tgt := 21) hx hb dX2_clashing_17 (by decide) ?_
    exact hret () hW dX2_clashing_21 (by first | exact Nat.le_of_ble_eq_true rfl | omega | (dsimp only [rm_X2_clashing]; omega)) (by first | exact Nat.le_of_ble_eq_true rfl | omega | (dsimp only [rm_X2_clashing]; omega)) (by unfold cof; rw [if_pos h_3, ag_set])
