set_option maxHeartbeats 4000000 in
set_option maxRecDepth 100000 in
/-- the law: what the pots are, two by two -/
theorem law_A {P : Program} {l : Launch} {e : Env} {s : State} {m : MethodId} {below : List Frame} {meth : Method} {c : Code} {Q : State → Prop} {b L : Nat} {xs : Nat → Int32} {κ : Kp} {A : Nat → Prop} (F : CallFix P m c cL_law 25 s #[Value.ref b] wsL_law RL) (hK : Kx κ s) (hA : ∀ q, s.heap.size ≤ q → A q) (hX : va_X b L xs s s.heap) (hbl : b < s.heap.size) (hbA : ¬ A b) (hL : L ≤ 2048) {x q pp : Nat} {a a2 : Nat → Nat} {M : List Nat} {σ τ : Sg} {br bt : Nat → Int} {tm : Nat} (htm : tm < 10) {v : Int32} {k0 n0 : Nat} (hk0 : k0 + 20 ≤ 600130) (hn0 : n0 + 200 ≤ 7301080) (hG : Gd σ M) (hp0 : 0 < nn σ) (hB : σ 5 0 ≤ 900000) (hC : σ 5 1 ≤ 900000) 
    (next421 : ∀ (q1 q2 q3 : Nat) (br1 : Nat → Int) (τ1 : Sg) (H : Heap) (locs : List Loc) (ls : Array Slot), St κ A s.heap H locs ((WX κ x a a2 ++ (WC κ a σ br1 ++ (WC κ a2 τ1 bt ++ (WS κ q pp M (σ 5 0) (σ 5 1) (σ 5 2) ++ (WA κ q1 (nn σ) (σ 1) ++ (WA κ q2 (nn σ) (σ 0) ++ (WZ κ q3 (nn σ) (snb σ)))))))) ++ RP κ M σ) → lv_has ls 25 [(0, .ref b), (1, .ref x), (2, .ref q), (3, .int (J (tm : Int))), (4, .int v), (5, .long (dg σ)), (7, .int (J (nn σ : Int))), (8, .int (J (ns σ : Int))), (9, .int (J (cc2 σ : Int))), (10, .int (J 0)), (11, .ref q1), (12, .ref q2), (13, .ref q3)] → W P l e rm_law s m #[Value.ref b] below meth c H locs (k0 + 3) (n0 + 30) Q (F0 m 421 ls []))
    {H : Heap} {locs : List Loc} {ls : Array Slot} (hW : St κ A s.heap H locs ((WX κ x a a2 ++ (WC κ a σ br ++ (WC κ a2 τ bt ++ (WS κ q pp M (σ 5 0) (σ 5 1) (σ 5 2))))) ++ RP κ M σ)) (hl : lv_has ls 25 [(0, .ref b), (1, .ref x), (2, .ref q), (3, .int (J (tm : Int))), (4, .int v)]) : W P l e rm_law s m #[Value.ref b] below meth c H locs k0 n0 Q (F0 m 82 ls []) := by
  obtain ⟨hx, hb, hml, hown, hts⟩ := id F
  have hI := hG.1
  have hLn := hG.2.1
  have hN := hI.hN
  have hN10 := hI.n10
  have hnn := hI.1
  have hb50 := hI.2.1
  have hb51 := hI.2.2.1
  refine lv_aload_n hx hb dL_law_82 rfl (lv_at hl 1 rfl) ?_
  refine fina_l (k := k0) (n := n0) (W2 := (fun ud => ((WX κ x a a2 ++ (WC κ a σ ud.2 ++ (WC κ a2 ud.1 bt ++ (WS κ q pp M (σ 5 0) (σ 5 1) (σ 5 2))))) ++ RP κ M σ))) hW (va_free hW.2.1 hW.2.2 hA [0, 1, 2, 3, 4, 5, 6, 7, 8, 9, 10, 11, 12, 13, 14] rfl) (va_runV (As := []) (rest := []) F ((m_X1_digest l κ x a a2 σ br τ bt hI (by omega) (by omega)) _) (cwV 0 hts gL_law_X1_digest rfl rfl rfl (by decide +kernel) ⟨(Nat.le_of_ble_eq_true rfl), (Nat.le_of_ble_eq_true rfl)⟩) (pre_V hK hW [0, 1, 2, 3, 4, 5, 6, 7, 8, 9, 10, 11, 12, 13, 14] rfl (by decide) 1 0 rfl rfl) rfl rfl hl.1 rfl (lv_room (Nat.le_of_ble_eq_true rfl)) dL_law_83 ⟨(by first | exact Nat.le_of_ble_eq_true rfl | omega | (dsimp only [rm_law, rm_X1_digest]; omega)), (by first | exact Nat.le_of_ble_eq_true rfl | omega | (dsimp only [rm_law, rm_X1_digest]; omega))⟩) (fun u H1 locs1 g1 g2 g3 g4 => St.joinQ hW hA [0, 1, 2, 3, 4, 5, 6, 7, 8, 9, 10, 11, 12, 13, 14] [15, 16] [2, 3, 4, 5, 6, 7, 8, 9, 10, 11, 12, 13, 14, 15, 16, 0, 1] rfl rfl rfl (by decide) rfl rfl g1 g2 g3 g4) (by first | exact Nat.le_of_ble_eq_true rfl | omega | (dsimp only [rm_law, rm_X1_digest]; omega)) (by first | exact Nat.le_of_ble_eq_true rfl | omega | (dsimp only [rm_law, rm_X1_digest]; omega)) (fun r_2 ud H locs hp_1 hW => ?_)
  subst hp_1
  refine lv_lstore (lv' := [(5, .long (dg σ)), (0, .ref b), (1, .ref x), (2, .ref q), (3, .int (J (tm : Int))), (4, .int v)]) hx hb dL_law_86 hl (by decide) rfl (fun ls hl => ?_)
  refine lv_aload_n hx hb dL_law_88 rfl (lv_at hl 2 rfl) ?_
  refine fina_i (k := k0) (n := n0) (W2 := (fun _ => ((WX κ x a a2 ++ (WC κ a σ ud.2 ++ (WC κ a2 ud.1 bt ++ (WS κ q pp M (σ 5 0) (σ 5 1) (σ 5 2))))) ++ RP κ M σ))) hW (va_free hW.2.1 hW.2.2 hA [0, 1, 2, 3, 4, 5, 6, 7] rfl) (va_runV (As := []) (rest := []) F ((m_X1_pots l κ x a a2 σ ud.2 hI) _) (cwV 0 hts gL_law_X1_pots rfl rfl rfl (by decide +kernel) ⟨(Nat.le_of_ble_eq_true rfl), (Nat.le_of_ble_eq_true rfl)⟩) (pre_V hK hW [0, 1, 2, 3, 4, 5, 6, 7] rfl (by decide) 1 0 rfl rfl) rfl rfl hl.1 rfl (lv_room (Nat.le_of_ble_eq_true rfl)) dL_law_89 ⟨(by first | exact Nat.le_of_ble_eq_true rfl | omega | (dsimp only [rm_law, rm_X1_pots]; omega)), (by first | exact Nat.le_of_ble_eq_true rfl | omega | (dsimp only [rm_law, rm_X1_pots]; omega))⟩) (fun u H1 locs1 g1 g2 g3 g4 => St.joinQ hW hA [0, 1, 2, 3, 4, 5, 6, 7] [8, 9, 10, 11, 12, 13, 14, 15, 16] [9, 10, 11, 12, 13, 14, 15, 16, 0, 1, 2, 3, 4, 5, 6, 7, 8] rfl rfl rfl (by decide) rfl rfl g1 g2 g3 g4) (by first | exact Nat.le_of_ble_eq_true rfl | omega | (dsimp only [rm_law, rm_X1_pots]; omega)) (by first | exact Nat.le_of_ble_eq_true rfl | omega | (dsimp only [rm_law, rm_X1_pots]; omega)) (fun r_4 u H locs hp_3 hW => ?_)
  subst hp_3
  refine jv_eq (y := (nn σ : Int)) hN ?_
  refine lv_istore (lv' := [(7, .int (J (nn σ : Int))), (5, .long (dg σ)), (0, .ref b), (1, .ref x), (2, .ref q), (3, .int (J (tm : Int))), (4, .int v)]) hx hb dL_law_92 hl (by decide) rfl (fun ls hl => ?_)
  refine jv_iconst hx hb dL_law_94 ?_
  refine lv_istore (lv' := [(8, .int (J 0)), (7, .int (J (nn σ : Int))), (5, .long (dg σ)), (0, .ref b), (1, .ref x), (2, .ref q), (3, .int (J (tm : Int))), (4, .int v)]) hx hb dL_law_95 hl (by decide) rfl (fun ls hl => ?_)
  refine jv_iconst hx hb dL_law_97 ?_
  refine lv_istore (lv' := [(9, .int (J 0)), (8, .int (J 0)), (7, .int (J (nn σ : Int))), (5, .long (dg σ)), (0, .ref b), (1, .ref x), (2, .ref q), (3, .int (J (tm : Int))), (4, .int v)]) hx hb dL_law_98 hl (by decide) rfl (fun ls hl => ?_)
  refine jv_iconst hx hb dL_law_100 ?_
  refine lv_istore (lv' := [(10, .int (J 0)), (9, .int (J 0)), (8, .int (J 0)), (7, .int (J (nn σ : Int))), (5, .long (dg σ)), (0, .ref b), (1, .ref x), (2, .ref q), (3, .int (J (tm : Int))), (4, .int v)]) hx hb dL_law_101 hl (by decide) rfl (fun ls hl => ?_)
  refine lv_iload hx hb dL_law_103 (lv_at hl 3 rfl) ?_
  refine jv_newi (κ := κ) hx hb hts (List.mem_of_getElem? (i := 3) rfl) hK hW hA (nn σ) (by omega) (k0 + 1) (n0 + 10) (by first | exact Nat.le_of_ble_eq_true rfl | omega | (dsimp only [rm_law]; omega)) (by first | exact Nat.le_of_ble_eq_true rfl | omega | (dsimp only [rm_law]; omega)) (by first | exact Nat.le_of_ble_eq_true rfl | omega | (dsimp only [rm_law]; omega)) (by first | exact Nat.le_of_ble_eq_true rfl | omega | (dsimp only [rm_law]; omega)) dL_law_105 (fun q_5 H hW => ?_)
  have hW := hW.swap
  have hW : St κ A s.heap H _ ((WX κ x a a2 ++ (WC κ a σ ud.2 ++ (WC κ a2 ud.1 bt ++ (WS κ q pp M (σ 5 0) (σ 5 1) (σ 5 2) ++ (WA κ q_5 (nn σ) (fun _ => 0)))))) ++ RP κ M σ) := hW
  refine lv_astore (lv' := [(11, .ref q_5), (10, .int (J 0)), (9, .int (J 0)), (8, .int (J 0)), (7, .int (J (nn σ : Int))), (5, .long (dg σ)), (0, .ref b), (1, .ref x), (2, .ref q), (3, .int (J (tm : Int))), (4, .int v)]) hx hb dL_law_107 hl (by decide) rfl (fun ls hl => ?_)
  refine lv_iload hx hb dL_law_109 (lv_at hl 4 rfl) ?_
  refine jv_newi (κ := κ) hx hb hts (List.mem_of_getElem? (i := 3) rfl) hK hW hA (nn σ) (by omega) ((k0 + 1) + 1) ((n0 + 10) + 10) (by first | exact Nat.le_of_ble_eq_true rfl | omega | (dsimp only [rm_law]; omega)) (by first | exact Nat.le_of_ble_eq_true rfl | omega | (dsimp only [rm_law]; omega)) (by first | exact Nat.le_of_ble_eq_true rfl | omega | (dsimp only [rm_law]; omega)) (by first | exact Nat.le_of_ble_eq_true rfl | omega | (dsimp only [rm_law]; omega)) dL_law_111 (fun q_6 H hW => ?_)
  have hW := hW.swap
  have hW : St κ A s.heap H _ ((WX κ x a a2 ++ (WC κ a σ ud.2 ++ (WC κ a2 ud.1 bt ++ (WS κ q pp M (σ 5 0) (σ 5 1) (σ 5 2) ++ (WA κ q_5 (nn σ) (fun _ => 0) ++ (WA κ q_6 (nn σ) (fun _ => 0))))))) ++ RP κ M σ) := hW
  refine lv_astore (lv' := [(12, .ref q_6), (11, .ref q_5), (10, .int (J 0)), (9, .int (J 0)), (8, .int (J 0)), (7, .int (J (nn σ : Int))), (5, .long (dg σ)), (0, .ref b), (1, .ref x), (2, .ref q), (3, .int (J (tm : Int))), (4, .int v)]) hx hb dL_law_113 hl (by decide) rfl (fun ls hl => ?_)
  refine lv_iload hx hb dL_law_115 (lv_at hl 5 rfl) ?_
  refine jv_newz (κ := κ) hx hb hts (List.mem_of_getElem? (i := 4) rfl) hK hW hA (nn σ) (by omega) (((k0 + 1) + 1) + 1) (((n0 + 10) + 10) + 10) (by first | exact Nat.le_of_ble_eq_true rfl | omega | (dsimp only [rm_law]; omega)) (by first | exact Nat.le_of_ble_eq_true rfl | omega | (dsimp only [rm_law]; omega)) (by first | exact Nat.le_of_ble_eq_true rfl | omega | (dsimp only [rm_law]; omega)) (by first | exact Nat.le_of_ble_eq_true rfl | omega | (dsimp only [rm_law]; omega)) dL_law_117 (fun q_7 H hW => ?_)
  have hW := hW.swap
  have hW : St κ A s.heap H _ ((WX κ x a a2 ++ (WC κ a σ ud.2 ++ (WC κ a2 ud.1 bt ++ (WS κ q pp M (σ 5 0) (σ 5 1) (σ 5 2) ++ (WA κ q_5 (nn σ) (fun _ => 0) ++ (WA κ q_6 (nn σ) (fun _ => 0) ++ (WZ κ q_7 (nn σ) (fun _ => 0)))))))) ++ RP κ M σ) := hW
  refine lv_astore (lv' := [(13, .ref q_7), (12, .ref q_6), (11, .ref q_5), (10, .int (J 0)), (9, .int (J 0)), (8, .int (J 0)), (7, .int (J (nn σ : Int))), (5, .long (dg σ)), (0, .ref b), (1, .ref x), (2, .ref q), (3, .int (J (tm : Int))), (4, .int v)]) hx hb dL_law_119 hl (by decide) rfl (fun ls hl => ?_)
  have hW : St κ A s.heap H locs ((WX κ x a a2 ++ (WC κ a σ ud.2 ++ (WC κ a2 ud.1 bt ++ (WS κ q pp M (σ 5 0) (σ 5 1) (σ 5 2) ++ (WA κ q_5 (nn σ) (rwf (σ 1) 0) ++ (WA κ q_6 (nn σ) (rwf (σ 0) 0) ++ (WZ κ q_7 (nn σ) (rwf (snb σ) 0)))))))) ++ RP κ M σ) := by rw [rwf_0, rwf_0, rwf_0]; exact hW
  refine W.widen (k := k0 + 3) (n := n0 + 30) (by omega) (by omega) ?_
  refine jv_iconst hx hb dL_law_121 ?_
  refine lv_istore (lv' := [(14, .int (J 0)), (13, .ref q_7), (12, .ref q_6), (11, .ref q_5), (10, .int (J 0)), (9, .int (J 0)), (8, .int (J 0)), (7, .int (J (nn σ : Int))), (5, .long (dg σ)), (0, .ref b), (1, .ref x), (2, .ref q), (3, .int (J (tm : Int))), (4, .int v)]) hx hb dL_law_122 hl (by decide) rfl (fun ls hl => ?_)
  suffices hlp : ∀ (n i : Nat), i ≤ (nn σ) → (nn σ) < i + n → ∀ (c8 c9 : Int), ∀ (H : Heap) (locs : List Loc) (ls : Array Slot), (c8 = (fb_ct (sn σ) i : Int)) → (c9 = (fb_sm (cs σ) i : Int)) → St κ A s.heap H locs ((WX κ x a a2 ++ (WC κ a σ ud.2 ++ (WC κ a2 ud.1 bt ++ (WS κ q pp M (σ 5 0) (σ 5 1) (σ 5 2) ++ (WA κ q_5 (nn σ) (rwf (σ 1) i) ++ (WA κ q_6 (nn σ) (rwf (σ 0) i) ++ (WZ κ q_7 (nn σ) (rwf (snb σ) i)))))))) ++ RP κ M σ) → lv_has ls 25 [(14, .int (J (i : Int))), (13, .ref q_7), (12, .ref q_6), (11, .ref q_5), (10, .int (J 0)), (9, .int (J c9)), (8, .int (J c8)), (7, .int (J (nn σ : Int))), (5, .long (dg σ)), (0, .ref b), (1, .ref x), (2, .ref q), (3, .int (J (tm : Int))), (4, .int v)] → W P l e rm_law s m #[Value.ref b] below meth c H locs (k0 + 3) (n0 + 30) Q (F0 m 124 ls []) from
    hlp ((nn σ) + 1) 0 (Nat.zero_le _) (by omega) 0 0 _ _ _ (by rfl) (by rfl) hW hl
  intro n
  induction n with
  | zero => intro i h1 h2; exact absurd h2 (by omega)
  | succ n ih =>
    intro i hi hn c8 c9 H locs ls q_c8 q_c9 hW hl
    refine lv_iload hx hb dL_law_124 (lv_at hl 0 rfl) ?_
    refine lv_iload hx hb dL_law_126 (lv_at hl 7 rfl) ?_
    refine jv_icmp_ge hx hb 421 dL_law_128 (by decide) ⟨by omega, by omega⟩ ⟨by omega, by omega⟩ (fun h_8 => ?_) (fun h_8 => ?_)
    · skip
      have e8 : c8 = (ns σ : Int) := by rw [q_c8, show i = nn σ by omega]; rfl
      have e9 : c9 = (cc2 σ : Int) := by rw [q_c9, show i = nn σ by omega]; rfl
      rw [e8, e9] at hl
      rw [show i = nn σ by omega] at hW
      have hW := rwf_end (X := (WX κ x a a2 ++ (WC κ a σ ud.2 ++ (WC κ a2 ud.1 bt ++ (WS κ q pp M (σ 5 0) (σ 5 1) (σ 5 2)))))) hW
      refine W.widen (k := k0 + 3) (n := n0 + 30) (by omega) (by omega) ?_
      exact next421 q_5 q_6 q_7 ud.2 ud.1 _ _ _  hW (lv_sub hl [9, 10, 11, 12, 13, 8, 7, 6, 5, 4, 3, 2, 1] rfl)
    · skip
      have hbi := hI.at i (by omega)
      have hci := cof_rng hN10 i
      have hbs := bi_rng (sn σ i)
      refine lv_aload hx hb dL_law_131 (lv_at hl 3 rfl) ?_
      refine lv_iload hx hb dL_law_133 (lv_at hl 0 rfl) ?_
      refine lv_aload_n hx hb dL_law_135 rfl (lv_at hl 10 rfl) ?_
      refine lv_iload hx hb dL_law_136 (lv_at hl 0 rfl) ?_
      refine fina_i (k := (k0 + 3)) (n := (n0 + 30)) (W2 := (fun _ => ((WX κ x a a2 ++ (WC κ a σ ud.2 ++ (WC κ a2 ud.1 bt ++ (WS κ q pp M (σ 5 0) (σ 5 1) (σ 5 2) ++ (WA κ q_5 (nn σ) (rwf (σ 1) i) ++ (WA κ q_6 (nn σ) (rwf (σ 0) i) ++ (WZ κ q_7 (nn σ) (rwf (snb σ) i)))))))) ++ RP κ M σ))) hW (va_free hW.2.1 hW.2.2 hA [0, 1, 2, 3, 4, 5, 6, 7] rfl) (va_runV (As := [.int (J (i : Int))]) (rest := [.int (J (i : Int)), .ref q_5]) F ((m_X1_teaOf l κ x a a2 σ ud.2 i (by omega) hI) _) (cwV 1 hts gL_law_X1_teaOf rfl rfl rfl (by decide +kernel) ⟨(Nat.le_of_ble_eq_true rfl), (Nat.le_of_ble_eq_true rfl)⟩) (pre_V hK hW [0, 1, 2, 3, 4, 5, 6, 7] rfl (by decide) 1 0 rfl rfl) rfl rfl hl.1 rfl (lv_room (Nat.le_of_ble_eq_true rfl)) dL_law_138 ⟨(by first | exact Nat.le_of_ble_eq_true rfl | omega | (dsimp only [rm_law, rm_X1_teaOf]; omega)), (by first | exact Nat.le_of_ble_eq_true rfl | omega | (dsimp only [rm_law, rm_X1_teaOf]; omega))⟩) (fun u H1 locs1 g1 g2 g3 g4 => St.joinQ hW hA [0, 1, 2, 3, 4, 5, 6, 7] [8, 9, 10, 11, 12, 13, 14, 15, 16, 17, 18, 19] [12, 13, 14, 15, 16, 17, 18, 19, 0, 1, 2, 3, 4, 5, 6, 7, 8, 9, 10, 11] rfl rfl rfl (by decide) rfl rfl g1 g2 g3 g4) (by first | exact Nat.le_of_ble_eq_true rfl | omega | (dsimp only [rm_law, rm_X1_teaOf]; omega)) (by first | exact Nat.le_of_ble_eq_true rfl | omega | (dsimp only [rm_law, rm_X1_teaOf]; omega)) (fun r_10 u H locs hp_9 hW => ?_)
      subst hp_9
      refine jv_iast (g := (rwf (σ 1) i)) (ws' := ((WX κ x a a2 ++ (WC κ a σ ud.2 ++ (WC κ a2 ud.1 bt ++ (WS κ q pp M (σ 5 0) (σ 5 1) (σ 5 2) ++ (WA κ q_5 (nn σ) (rwf (σ 1) (i + 1)) ++ (WA κ q_6 (nn σ) (rwf (σ 0) i) ++ (WZ κ q_7 (nn σ) (rwf (snb σ) i)))))))) ++ RP κ M σ)) hx hb hK hW 17 rfl i rfl (by omega) (by omega) (by rw [rwf_up]; rfl) dL_law_141 (fun H locs hW => ?_)
      refine lv_aload hx hb dL_law_142 (lv_at hl 2 rfl) ?_
      refine lv_iload hx hb dL_law_144 (lv_at hl 0 rfl) ?_
      refine lv_aload_n hx hb dL_law_146 rfl (lv_at hl 10 rfl) ?_
      refine lv_iload hx hb dL_law_147 (lv_at hl 0 rfl) ?_
      refine fina_i (k := (k0 + 3)) (n := (n0 + 30)) (W2 := (fun _ => ((WX κ x a a2 ++ (WC κ a σ ud.2 ++ (WC κ a2 ud.1 bt ++ (WS κ q pp M (σ 5 0) (σ 5 1) (σ 5 2) ++ (WA κ q_5 (nn σ) (rwf (σ 1) (i + 1)) ++ (WA κ q_6 (nn σ) (rwf (σ 0) i) ++ (WZ κ q_7 (nn σ) (rwf (snb σ) i)))))))) ++ RP κ M σ))) hW (va_free hW.2.1 hW.2.2 hA [0, 1, 2, 3, 4, 5, 6, 7] rfl) (va_runV (As := [.int (J (i : Int))]) (rest := [.int (J (i : Int)), .ref q_6]) F ((m_X1_pitchOf l κ x a a2 σ ud.2 i (by omega) hI) _) (cwV 1 hts gL_law_X1_pitchOf rfl rfl rfl (by decide +kernel) ⟨(Nat.le_of_ble_eq_true rfl), (Nat.le_of_ble_eq_true rfl)⟩) (pre_V hK hW [0, 1, 2, 3, 4, 5, 6, 7] rfl (by decide) 1 0 rfl rfl) rfl rfl hl.1 rfl (lv_room (Nat.le_of_ble_eq_true rfl)) dL_law_149 ⟨(by first | exact Nat.le_of_ble_eq_true rfl | omega | (dsimp only [rm_law, rm_X1_pitchOf]; omega)), (by first | exact Nat.le_of_ble_eq_true rfl | omega | (dsimp only [rm_law, rm_X1_pitchOf]; omega))⟩) (fun u H1 locs1 g1 g2 g3 g4 => St.joinQ hW hA [0, 1, 2, 3, 4, 5, 6, 7] [8, 9, 10, 11, 12, 13, 14, 15, 16, 17, 18, 19] [12, 13, 14, 15, 16, 17, 18, 19, 0, 1, 2, 3, 4, 5, 6, 7, 8, 9, 10, 11] rfl rfl rfl (by decide) rfl rfl g1 g2 g3 g4) (by first | exact Nat.le_of_ble_eq_true rfl | omega | (dsimp only [rm_law, rm_X1_pitchOf]; omega)) (by first | exact Nat.le_of_ble_eq_true rfl | omega | (dsimp only [rm_law, rm_X1_pitchOf]; omega)) (fun r_12 u H locs hp_11 hW => ?_)
      subst hp_11
      refine jv_iast (g := (rwf (σ 0) i)) (ws' := ((WX κ x a a2 ++ (WC κ a σ ud.2 ++ (WC κ a2 ud.1 bt ++ (WS κ q pp M (σ 5 0) (σ 5 1) (σ 5 2) ++ (WA κ q_5 (nn σ) (rwf (σ 1) (i + 1)) ++ (WA κ q_6 (nn σ) (rwf (σ 0) (i + 1)) ++ (WZ κ q_7 (nn σ) (rwf (snb σ) i)))))))) ++ RP κ M σ)) hx hb hK hW 18 rfl i rfl (by omega) (by omega) (by rw [rwf_up]; rfl) dL_law_152 (fun H locs hW => ?_)
      refine lv_aload hx hb dL_law_153 (lv_at hl 1 rfl) ?_
      refine lv_iload hx hb dL_law_155 (lv_at hl 0 rfl) ?_
      refine lv_aload_n hx hb dL_law_157 rfl (lv_at hl 10 rfl) ?_
      refine lv_iload hx hb dL_law_158 (lv_at hl 0 rfl) ?_
      refine fina_i (k := (k0 + 3)) (n := (n0 + 30)) (W2 := (fun _ => ((WX κ x a a2 ++ (WC κ a σ ud.2 ++ (WC κ a2 ud.1 bt ++ (WS κ q pp M (σ 5 0) (σ 5 1) (σ 5 2) ++ (WA κ q_5 (nn σ) (rwf (σ 1) (i + 1)) ++ (WA κ q_6 (nn σ) (rwf (σ 0) (i + 1)) ++ (WZ κ q_7 (nn σ) (rwf (snb σ) i)))))))) ++ RP κ M σ))) hW (va_free hW.2.1 hW.2.2 hA [0, 1, 2, 3, 4, 5, 6, 7] rfl) (va_runV (As := [.int (J (i : Int))]) (rest := [.int (J (i : Int)), .ref q_7]) F ((m_X1_sounds l κ x a a2 σ ud.2 i (by omega) hI) _) (cwV 1 hts gL_law_X1_sounds rfl rfl rfl (by decide +kernel) ⟨(Nat.le_of_ble_eq_true rfl), (Nat.le_of_ble_eq_true rfl)⟩) (pre_V hK hW [0, 1, 2, 3, 4, 5, 6, 7] rfl (by decide) 1 0 rfl rfl) rfl rfl hl.1 rfl (lv_room (Nat.le_of_ble_eq_true rfl)) dL_law_160 ⟨(by first | exact Nat.le_of_ble_eq_true rfl | omega | (dsimp only [rm_law, rm_X1_sounds]; omega)), (by first | exact Nat.le_of_ble_eq_true rfl | omega | (dsimp only [rm_law, rm_X1_sounds]; omega))⟩) (fun u H1 locs1 g1 g2 g3 g4 => St.joinQ hW hA [0, 1, 2, 3, 4, 5, 6, 7] [8, 9, 10, 11, 12, 13, 14, 15, 16, 17, 18, 19] [12, 13, 14, 15, 16, 17, 18, 19, 0, 1, 2, 3, 4, 5, 6, 7, 8, 9, 10, 11] rfl rfl rfl (by decide) rfl rfl g1 g2 g3 g4) (by first | exact Nat.le_of_ble_eq_true rfl | omega | (dsimp only [rm_law, rm_X1_sounds]; omega)) (by first | exact Nat.le_of_ble_eq_true rfl | omega | (dsimp only [rm_law, rm_X1_sounds]; omega)) (fun r_14 u H locs hp_13 hW => ?_)
      subst hp_13
      refine jv_eq (y := snb σ i) rfl ?_
      refine jv_zast (g := (rwf (snb σ) i)) (ws' := ((WX κ x a a2 ++ (WC κ a σ ud.2 ++ (WC κ a2 ud.1 bt ++ (WS κ q pp M (σ 5 0) (σ 5 1) (σ 5 2) ++ (WA κ q_5 (nn σ) (rwf (σ 1) (i + 1)) ++ (WA κ q_6 (nn σ) (rwf (σ 0) (i + 1)) ++ (WZ κ q_7 (nn σ) (rwf (snb σ) (i + 1))))))))) ++ RP κ M σ)) hx hb hK hW 19 rfl i rfl (by omega) (by omega) (snb_01 _ _) (by rw [rwf_up]; rfl) dL_law_163 (fun H locs hW => ?_)
      refine lv_iload hx hb dL_law_164 (lv_at hl 6 rfl) ?_
      refine lv_aload hx hb dL_law_166 (lv_at hl 1 rfl) ?_
      refine lv_iload hx hb dL_law_168 (lv_at hl 0 rfl) ?_
      refine jv_zald (g := (rwf (snb σ) (i + 1))) hx hb hK hW 19 rfl i rfl (by omega) (by omega) dL_law_170 ?_
      refine jv_eq (y := snb σ i) (rwf_at _ (by omega)) ?_
      refine jv_eq (y := bi (sn σ i)) rfl ?_
      have j179 : ∀ (H : Heap) (locs : List Loc) (ls : Array Slot), St κ A s.heap H locs ((WX κ x a a2 ++ (WC κ a σ ud.2 ++ (WC κ a2 ud.1 bt ++ (WS κ q pp M (σ 5 0) (σ 5 1) (σ 5 2) ++ (WA κ q_5 (nn σ) (rwf (σ 1) (i + 1)) ++ (WA κ q_6 (nn σ) (rwf (σ 0) (i + 1)) ++ (WZ κ q_7 (nn σ) (rwf (snb σ) (i + 1))))))))) ++ RP κ M σ) → lv_has ls 25 [(14, .int (J (i : Int))), (13, .ref q_7), (12, .ref q_6), (11, .ref q_5), (10, .int (J 0)), (9, .int (J c9)), (8, .int (J c8)), (7, .int (J (nn σ : Int))), (5, .long (dg σ)), (0, .ref b), (1, .ref x), (2, .ref q), (3, .int (J (tm : Int))), (4, .int v)] → W P l e rm_law s m #[Value.ref b] below meth c H locs (k0 + 3) (n0 + 30) Q (F0 m 179 ls [.int (J (bi (sn σ i))), .int (J c8)]) := by
        intro H locs ls hW hl
        refine jv_iadd hx hb dL_law_179 ?_
        refine lv_istore (lv' := [(8, .int (J (c8 + (bi (sn σ i))))), (14, .int (J (i : Int))), (13, .ref q_7), (12, .ref q_6), (11, .ref q_5), (10, .int (J 0)), (9, .int (J c9)), (7, .int (J (nn σ : Int))), (5, .long (dg σ)), (0, .ref b), (1, .ref x), (2, .ref q), (3, .int (J (tm : Int))), (4, .int v)]) hx hb dL_law_180 hl (by decide) rfl (fun ls hl => ?_)
        refine lv_iload hx hb dL_law_182 (lv_at hl 6 rfl) ?_
        refine lv_aload_n hx hb dL_law_184 rfl (lv_at hl 10 rfl) ?_
        refine lv_iload hx hb dL_law_185 (lv_at hl 1 rfl) ?_
        refine fina_i (k := (k0 + 3)) (n := (n0 + 30)) (W2 := (fun _ => ((WX κ x a a2 ++ (WC κ a σ ud.2 ++ (WC κ a2 ud.1 bt ++ (WS κ q pp M (σ 5 0) (σ 5 1) (σ 5 2) ++ (WA κ q_5 (nn σ) (rwf (σ 1) (i + 1)) ++ (WA κ q_6 (nn σ) (rwf (σ 0) (i + 1)) ++ (WZ κ q_7 (nn σ) (rwf (snb σ) (i + 1))))))))) ++ RP κ M σ))) hW (va_free hW.2.1 hW.2.2 hA [0, 1, 2, 3, 4, 5, 6, 7] rfl) (va_runV (As := [.int (J (i : Int))]) (rest := [.int (J c9)]) F ((m_X1_clashesOf l κ x a a2 σ ud.2 i (by omega) hI) _) (cwV 1 hts gL_law_X1_clashesOf rfl rfl rfl (by decide +kernel) ⟨(Nat.le_of_ble_eq_true rfl), (Nat.le_of_ble_eq_true rfl)⟩) (pre_V hK hW [0, 1, 2, 3, 4, 5, 6, 7] rfl (by decide) 1 0 rfl rfl) rfl rfl hl.1 rfl (lv_room (Nat.le_of_ble_eq_true rfl)) dL_law_187 ⟨(by first | exact Nat.le_of_ble_eq_true rfl | omega | (dsimp only [rm_law, rm_X1_clashesOf]; omega)), (by first | exact Nat.le_of_ble_eq_true rfl | omega | (dsimp only [rm_law, rm_X1_clashesOf]; omega))⟩) (fun u H1 locs1 g1 g2 g3 g4 => St.joinQ hW hA [0, 1, 2, 3, 4, 5, 6, 7] [8, 9, 10, 11, 12, 13, 14, 15, 16, 17, 18, 19] [12, 13, 14, 15, 16, 17, 18, 19, 0, 1, 2, 3, 4, 5, 6, 7, 8, 9, 10, 11] rfl rfl rfl (by decide) rfl rfl g1 g2 g3 g4) (by first | exact Nat.le_of_ble_eq_true rfl | omega | (dsimp only [rm_law, rm_X1_clashesOf]; omega)) (by first | exact Nat.le_of_ble_eq_true rfl | omega | (dsimp only [rm_law, rm_X1_clashesOf]; omega)) (fun r_16 u H locs hp_15 hW => ?_)
        subst hp_15
        refine jv_iadd hx hb dL_law_190 ?_
        refine lv_istore (lv' := [(9, .int (J (c9 + (cof σ i)))), (8, .int (J (c8 + (bi (sn σ i))))), (14, .int (J (i : Int))), (13, .ref q_7), (12, .ref q_6), (11, .ref q_5), (10, .int (J 0)), (7, .int (J (nn σ : Int))), (5, .long (dg σ)), (0, .ref b), (1, .ref x), (2, .ref q), (3, .int (J (tm : Int))), (4, .int v)]) hx hb dL_law_191 hl (by decide) rfl (fun ls hl => ?_)
        refine lv_aload hx hb dL_law_193 (lv_at hl 4 rfl) ?_
        refine lv_iload hx hb dL_law_195 (lv_at hl 2 rfl) ?_
        refine jv_iald (g := (rwf (σ 0) (i + 1))) hx hb hK hW 18 rfl i rfl (by omega) (by omega) dL_law_197 ?_
        refine jv_eq (y := σ 0 i) (rwf_at _ (by omega)) ?_
        refine jv_if_lt hx hb 293 dL_law_198 (by decide) ⟨by omega, by omega⟩ (fun h_17 => by exfalso; omega) (fun h_17 => ?_)
        refine lv_aload hx hb dL_law_201 (lv_at hl 4 rfl) ?_
        refine lv_iload hx hb dL_law_203 (lv_at hl 2 rfl) ?_
        refine jv_iald (g := (rwf (σ 0) (i + 1))) hx hb hK hW 18 rfl i rfl (by omega) (by omega) dL_law_205 ?_
        refine jv_eq (y := σ 0 i) (rwf_at _ (by omega)) ?_
        refine jv_bipush hx hb 35 dL_law_206 (by decide +kernel) ?_
        refine jv_icmp_gt hx hb 293 dL_law_208 (by decide) ⟨by omega, by omega⟩ ⟨by omega, by omega⟩ (fun h_18 => by exfalso; omega) (fun h_18 => ?_)
        refine lv_aload hx hb dL_law_211 (lv_at hl 5 rfl) ?_
        refine lv_iload hx hb dL_law_213 (lv_at hl 2 rfl) ?_
        refine jv_iald (g := (rwf (σ 1) (i + 1))) hx hb hK hW 17 rfl i rfl (by omega) (by omega) dL_law_215 ?_
        refine jv_eq (y := σ 1 i) (rwf_at _ (by omega)) ?_
        refine jv_if_lt hx hb 293 dL_law_216 (by decide) ⟨by omega, by omega⟩ (fun h_19 => by exfalso; omega) (fun h_19 => ?_)
        refine lv_aload hx hb dL_law_219 (lv_at hl 5 rfl) ?_
        refine lv_iload hx hb dL_law_221 (lv_at hl 2 rfl) ?_
        refine jv_iald (g := (rwf (σ 1) (i + 1))) hx hb hK hW 17 rfl i rfl (by omega) (by omega) dL_law_223 ?_
        refine jv_eq (y := σ 1 i) (rwf_at _ (by omega)) ?_
        refine jv_bipush hx hb 20 dL_law_224 (by decide +kernel) ?_
        refine jv_icmp_gt hx hb 293 dL_law_226 (by decide) ⟨by omega, by omega⟩ ⟨by omega, by omega⟩ (fun h_20 => by exfalso; omega) (fun h_20 => ?_)
        refine lv_aload_n hx hb dL_law_229 rfl (lv_at hl 10 rfl) ?_
        refine lv_iload hx hb dL_law_230 (lv_at hl 2 rfl) ?_
        refine fina_i (k := (k0 + 3)) (n := (n0 + 30)) (W2 := (fun _ => ((WX κ x a a2 ++ (WC κ a σ ud.2 ++ (WC κ a2 ud.1 bt ++ (WS κ q pp M (σ 5 0) (σ 5 1) (σ 5 2) ++ (WA κ q_5 (nn σ) (rwf (σ 1) (i + 1)) ++ (WA κ q_6 (nn σ) (rwf (σ 0) (i + 1)) ++ (WZ κ q_7 (nn σ) (rwf (snb σ) (i + 1))))))))) ++ RP κ M σ))) hW (va_free hW.2.1 hW.2.2 hA [0, 1, 2, 3, 4, 5, 6, 7] rfl) (va_runV (As := [.int (J (i : Int))]) (rest := []) F ((m_X1_crackOf l κ x a a2 σ ud.2 i (by omega) hI) _) (cwV 1 hts gL_law_X1_crackOf rfl rfl rfl (by decide +kernel) ⟨(Nat.le_of_ble_eq_true rfl), (Nat.le_of_ble_eq_true rfl)⟩) (pre_V hK hW [0, 1, 2, 3, 4, 5, 6, 7] rfl (by decide) 1 0 rfl rfl) rfl rfl hl.1 rfl (lv_room (Nat.le_of_ble_eq_true rfl)) dL_law_232 ⟨(by first | exact Nat.le_of_ble_eq_true rfl | omega | (dsimp only [rm_law, rm_X1_crackOf]; omega)), (by first | exact Nat.le_of_ble_eq_true rfl | omega | (dsimp only [rm_law, rm_X1_crackOf]; omega))⟩) (fun u H1 locs1 g1 g2 g3 g4 => St.joinQ hW hA [0, 1, 2, 3, 4, 5, 6, 7] [8, 9, 10, 11, 12, 13, 14, 15, 16, 17, 18, 19] [12, 13, 14, 15, 16, 17, 18, 19, 0, 1, 2, 3, 4, 5, 6, 7, 8, 9, 10, 11] rfl rfl rfl (by decide) rfl rfl g1 g2 g3 g4) (by first | exact Nat.le_of_ble_eq_true rfl | omega | (dsimp only [rm_law, rm_X1_crackOf]; omega)) (by first | exact Nat.le_of_ble_eq_true rfl | omega | (dsimp only [rm_law, rm_X1_crackOf]; omega)) (fun r_22 u H locs hp_21 hW => ?_)
        subst hp_21
        refine jv_if_lt hx hb 293 dL_law_235 (by decide) ⟨by omega, by omega⟩ (fun h_23 => by exfalso; omega) (fun h_23 => ?_)
        refine lv_aload_n hx hb dL_law_238 rfl (lv_at hl 10 rfl) ?_
        refine lv_iload hx hb dL_law_239 (lv_at hl 2 rfl) ?_
        refine fina_i (k := (k0 + 3)) (n := (n0 + 30)) (W2 := (fun _ => ((WX κ x a a2 ++ (WC κ a σ ud.2 ++ (WC κ a2 ud.1 bt ++ (WS κ q pp M (σ 5 0) (σ 5 1) (σ 5 2) ++ (WA κ q_5 (nn σ) (rwf (σ 1) (i + 1)) ++ (WA κ q_6 (nn σ) (rwf (σ 0) (i + 1)) ++ (WZ κ q_7 (nn σ) (rwf (snb σ) (i + 1))))))))) ++ RP κ M σ))) hW (va_free hW.2.1 hW.2.2 hA [0, 1, 2, 3, 4, 5, 6, 7] rfl) (va_runV (As := [.int (J (i : Int))]) (rest := []) F ((m_X1_crackOf l κ x a a2 σ ud.2 i (by omega) hI) _) (cwV 1 hts gL_law_X1_crackOf rfl rfl rfl (by decide +kernel) ⟨(Nat.le_of_ble_eq_true rfl), (Nat.le_of_ble_eq_true rfl)⟩) (pre_V hK hW [0, 1, 2, 3, 4, 5, 6, 7] rfl (by decide) 1 0 rfl rfl) rfl rfl hl.1 rfl (lv_room (Nat.le_of_ble_eq_true rfl)) dL_law_241 ⟨(by first | exact Nat.le_of_ble_eq_true rfl | omega | (dsimp only [rm_law, rm_X1_crackOf]; omega)), (by first | exact Nat.le_of_ble_eq_true rfl | omega | (dsimp only [rm_law, rm_X1_crackOf]; omega))⟩) (fun u H1 locs1 g1 g2 g3 g4 => St.joinQ hW hA [0, 1, 2, 3, 4, 5, 6, 7] [8, 9, 10, 11, 12, 13, 14, 15, 16, 17, 18, 19] [12, 13, 14, 15, 16, 17, 18, 19, 0, 1, 2, 3, 4, 5, 6, 7, 8, 9, 10, 11] rfl rfl rfl (by decide) rfl rfl g1 g2 g3 g4) (by first | exact Nat.le_of_ble_eq_true rfl | omega | (dsimp only [rm_law, rm_X1_crackOf]; omega)) (by first | exact Nat.le_of_ble_eq_true rfl | omega | (dsimp only [rm_law, rm_X1_crackOf]; omega)) (fun r_25 u H locs hp_24 hW => ?_)
        subst hp_24
        refine jv_bipush hx hb 9 dL_law_244 (by decide +kernel) ?_
        refine jv_icmp_gt hx hb 293 dL_law_246 (by decide) ⟨by omega, by omega⟩ ⟨by omega, by omega⟩ (fun h_26 => by exfalso; omega) (fun h_26 => ?_)
        refine lv_aload hx hb dL_law_249 (lv_at hl 3 rfl) ?_
        refine lv_iload hx hb dL_law_251 (lv_at hl 2 rfl) ?_
        refine jv_zald (g := (rwf (snb σ) (i + 1))) hx hb hK hW 19 rfl i rfl (by omega) (by omega) dL_law_253 ?_
        refine jv_eq (y := snb σ i) (rwf_at _ (by omega)) ?_
        refine jv_eq (y := bi (sn σ i)) rfl ?_
        have j265 : ∀ (H : Heap) (locs : List Loc) (ls : Array Slot), St κ A s.heap H locs ((WX κ x a a2 ++ (WC κ a σ ud.2 ++ (WC κ a2 ud.1 bt ++ (WS κ q pp M (σ 5 0) (σ 5 1) (σ 5 2) ++ (WA κ q_5 (nn σ) (rwf (σ 1) (i + 1)) ++ (WA κ q_6 (nn σ) (rwf (σ 0) (i + 1)) ++ (WZ κ q_7 (nn σ) (rwf (snb σ) (i + 1))))))))) ++ RP κ M σ) → lv_has ls 25 [(9, .int (J (c9 + (cof σ i)))), (8, .int (J (c8 + (bi (sn σ i))))), (14, .int (J (i : Int))), (13, .ref q_7), (12, .ref q_6), (11, .ref q_5), (10, .int (J 0)), (7, .int (J (nn σ : Int))), (5, .long (dg σ)), (0, .ref b), (1, .ref x), (2, .ref q), (3, .int (J (tm : Int))), (4, .int v)] → W P l e rm_law s m #[Value.ref b] below meth c H locs (k0 + 3) (n0 + 30) Q (F0 m 265 ls []) := by
          intro H locs ls hW hl
          refine lv_aload hx hb dL_law_265 (lv_at hl 3 rfl) ?_
          refine lv_iload hx hb dL_law_267 (lv_at hl 2 rfl) ?_
          refine jv_zald (g := (rwf (snb σ) (i + 1))) hx hb hK hW 19 rfl i rfl (by omega) (by omega) dL_law_269 ?_
          refine jv_eq (y := snb σ i) (rwf_at _ (by omega)) ?_
          refine jv_eq (y := bi (sn σ i)) rfl ?_
          have j282 : ∀ (H : Heap) (locs : List Loc) (ls : Array Slot), St κ A s.heap H locs ((WX κ x a a2 ++ (WC κ a σ ud.2 ++ (WC κ a2 ud.1 bt ++ (WS κ q pp M (σ 5 0) (σ 5 1) (σ 5 2) ++ (WA κ q_5 (nn σ) (rwf (σ 1) (i + 1)) ++ (WA κ q_6 (nn σ) (rwf (σ 0) (i + 1)) ++ (WZ κ q_7 (nn σ) (rwf (snb σ) (i + 1))))))))) ++ RP κ M σ) → lv_has ls 25 [(9, .int (J (c9 + (cof σ i)))), (8, .int (J (c8 + (bi (sn σ i))))), (14, .int (J (i : Int))), (13, .ref q_7), (12, .ref q_6), (11, .ref q_5), (10, .int (J 0)), (7, .int (J (nn σ : Int))), (5, .long (dg σ)), (0, .ref b), (1, .ref x), (2, .ref q), (3, .int (J (tm : Int))), (4, .int v)] → W P l e rm_law s m #[Value.ref b] below meth c H locs (k0 + 3) (n0 + 30) Q (F0 m 282 ls []) := by
            intro H locs ls hW hl
            refine lv_aload_n hx hb dL_law_282 rfl (lv_at hl 10 rfl) ?_
            refine lv_iload hx hb dL_law_283 (lv_at hl 2 rfl) ?_
            refine lv_iload hx hb dL_law_285 (lv_at hl 2 rfl) ?_
            refine fina_i (k := (k0 + 3)) (n := (n0 + 30)) (W2 := (fun _ => ((WX κ x a a2 ++ (WC κ a σ ud.2 ++ (WC κ a2 ud.1 bt ++ (WS κ q pp M (σ 5 0) (σ 5 1) (σ 5 2) ++ (WA κ q_5 (nn σ) (rwf (σ 1) (i + 1)) ++ (WA κ q_6 (nn σ) (rwf (σ 0) (i + 1)) ++ (WZ κ q_7 (nn σ) (rwf (snb σ) (i + 1))))))))) ++ RP κ M σ))) hW (va_free hW.2.1 hW.2.2 hA [0, 1, 2, 3, 4, 5, 6, 7] rfl) (va_runV (As := [.int (J (i : Int)), .int (J (i : Int))]) (rest := []) F ((m_X1_areInAccord l κ x a a2 σ ud.2 i i (by omega) (by omega) hI) _) (cwV 2 hts gL_law_X1_areInAccord rfl rfl rfl (by decide +kernel) ⟨(Nat.le_of_ble_eq_true rfl), (Nat.le_of_ble_eq_true rfl)⟩) (pre_V hK hW [0, 1, 2, 3, 4, 5, 6, 7] rfl (by decide) 1 0 rfl rfl) rfl rfl hl.1 rfl (lv_room (Nat.le_of_ble_eq_true rfl)) dL_law_287 ⟨(by first | exact Nat.le_of_ble_eq_true rfl | omega | (dsimp only [rm_law, rm_X1_areInAccord]; omega)), (by first | exact Nat.le_of_ble_eq_true rfl | omega | (dsimp only [rm_law, rm_X1_areInAccord]; omega))⟩) (fun u H1 locs1 g1 g2 g3 g4 => St.joinQ hW hA [0, 1, 2, 3, 4, 5, 6, 7] [8, 9, 10, 11, 12, 13, 14, 15, 16, 17, 18, 19] [12, 13, 14, 15, 16, 17, 18, 19, 0, 1, 2, 3, 4, 5, 6, 7, 8, 9, 10, 11] rfl rfl rfl (by decide) rfl rfl g1 g2 g3 g4) (by first | exact Nat.le_of_ble_eq_true rfl | omega | (dsimp only [rm_law, rm_X1_areInAccord]; omega)) (by first | exact Nat.le_of_ble_eq_true rfl | omega | (dsimp only [rm_law, rm_X1_areInAccord]; omega)) (fun r_28 u H locs hp_27 hW => ?_)
            subst hp_27
            refine jv_ifb_ne (b := (ac (σ 0 i) (σ 0 i))) hx hb 295 dL_law_290 (by decide) (fun h_29 => ?_) (fun h_29 => by exfalso; rw [ac_refl] at h_29; cases h_29)
            refine jv_iconst hx hb dL_law_295 ?_
            refine lv_istore (lv' := [(15, .int (J 0)), (9, .int (J (c9 + (cof σ i)))), (8, .int (J (c8 + (bi (sn σ i))))), (14, .int (J (i : Int))), (13, .ref q_7), (12, .ref q_6), (11, .ref q_5), (10, .int (J 0)), (7, .int (J (nn σ : Int))), (5, .long (dg σ)), (0, .ref b), (1, .ref x), (2, .ref q), (3, .int (J (tm : Int))), (4, .int v)]) hx hb dL_law_296 hl (by decide) rfl (fun ls hl => ?_)
            suffices hlq : ∀ (n j : Nat), j ≤ (nn σ) → (nn σ) < j + n → ∀ (H : Heap) (locs : List Loc) (ls : Array Slot), St κ A s.heap H locs ((WX κ x a a2 ++ (WC κ a σ ud.2 ++ (WC κ a2 ud.1 bt ++ (WS κ q pp M (σ 5 0) (σ 5 1) (σ 5 2) ++ (WA κ q_5 (nn σ) (rwf (σ 1) (i + 1)) ++ (WA κ q_6 (nn σ) (rwf (σ 0) (i + 1)) ++ (WZ κ q_7 (nn σ) (rwf (snb σ) (i + 1))))))))) ++ RP κ M σ) → lv_has ls 25 [(15, .int (J (j : Int))), (9, .int (J (c9 + (cof σ i)))), (8, .int (J (c8 + (bi (sn σ i))))), (14, .int (J (i : Int))), (13, .ref q_7), (12, .ref q_6), (11, .ref q_5), (10, .int (J 0)), (7, .int (J (nn σ : Int))), (5, .long (dg σ)), (0, .ref b), (1, .ref x), (2, .ref q), (3, .int (J (tm : Int))), (4, .int v)] → W P l e rm_law s m #[Value.ref b] below meth c H locs (k0 + 3) (n0 + 30) Q (F0 m 298 ls []) from
              hlq ((nn σ) + 1) 0 (Nat.zero_le _) (by omega)  _ _ _  hW hl
            intro n
            induction n with
            | zero => intro j h1 h2; exact absurd h2 (by omega)
            | succ n ih_hlq =>
              intro j hi hn  H locs ls  hW hl
              refine lv_iload hx hb dL_law_298 (lv_at hl 0 rfl) ?_
              refine lv_iload hx hb dL_law_300 (lv_at hl 8 rfl) ?_
              refine jv_icmp_ge hx hb 415 dL_law_302 (by decide) ⟨by omega, by omega⟩ ⟨by omega, by omega⟩ (fun h_30 => ?_) (fun h_30 => ?_)
              · skip
                refine jv_iinc (k := 3) (z := (i : Int)) (lv' := [(14, .int (J ((i : Int) + 1))), (15, .int (J (j : Int))), (9, .int (J (c9 + (cof σ i)))), (8, .int (J (c8 + (bi (sn σ i))))), (13, .ref q_7), (12, .ref q_6), (11, .ref q_5), (10, .int (J 0)), (7, .int (J (nn σ : Int))), (5, .long (dg σ)), (0, .ref b), (1, .ref x), (2, .ref q), (3, .int (J (tm : Int))), (4, .int v)]) hx hb dL_law_415 hl rfl (by decide) rfl (fun ls hl => ?_)
                refine lv_goto (tgt := 124) hx hb dL_law_418 (by decide) ?_
                exact ih (i + 1) (by omega) (by omega) (c8 + (bi (sn σ i))) (c9 + (cof σ i)) _ _ _ (by rw [fb_ct_succ, q_c8]; cases sn σ i <;> simp [bi]) (by rw [fb_sm_succ, q_c9, cof_cs]; omega) hW (lv_sub hl [0, 4, 5, 6, 7, 2, 3, 8, 9, 10, 11, 12, 13, 14] rfl)
              · skip
                have hbj := hI.at j (by omega)
                have hf1 := iab_rng (a := σ 0 i) (b := σ 0 j) (by omega) (by omega)
                have hf2 := iab_rng (a := σ 0 j) (b := σ 0 i) (by omega) (by omega)
                have hf3 := iab_comm (σ 0 i) (σ 0 j)
                have ha1 := bi_rng (ac (σ 0 i) (σ 0 j))
                have ha2 := bi_rng (ac (σ 0 j) (σ 0 i))
                refine lv_aload_n hx hb dL_law_305 rfl (lv_at hl 11 rfl) ?_
                refine lv_iload hx hb dL_law_306 (lv_at hl 3 rfl) ?_
                refine lv_iload hx hb dL_law_308 (lv_at hl 0 rfl) ?_
                refine fina_i (k := (k0 + 3)) (n := (n0 + 30)) (W2 := (fun _ => ((WX κ x a a2 ++ (WC κ a σ ud.2 ++ (WC κ a2 ud.1 bt ++ (WS κ q pp M (σ 5 0) (σ 5 1) (σ 5 2) ++ (WA κ q_5 (nn σ) (rwf (σ 1) (i + 1)) ++ (WA κ q_6 (nn σ) (rwf (σ 0) (i + 1)) ++ (WZ κ q_7 (nn σ) (rwf (snb σ) (i + 1))))))))) ++ RP κ M σ))) hW (va_free hW.2.1 hW.2.2 hA [0, 1, 2, 3, 4, 5, 6, 7] rfl) (va_runV (As := [.int (J (i : Int)), .int (J (j : Int))]) (rest := []) F ((m_X1_interval l κ x a a2 σ ud.2 i j (by omega) (by omega) hI) _) (cwV 2 hts gL_law_X1_interval rfl rfl rfl (by decide +kernel) ⟨(Nat.le_of_ble_eq_true rfl), (Nat.le_of_ble_eq_true rfl)⟩) (pre_V hK hW [0, 1, 2, 3, 4, 5, 6, 7] rfl (by decide) 1 0 rfl rfl) rfl rfl hl.1 rfl (lv_room (Nat.le_of_ble_eq_true rfl)) dL_law_310 ⟨(by first | exact Nat.le_of_ble_eq_true rfl | omega | (dsimp only [rm_law, rm_X1_interval]; omega)), (by first | exact Nat.le_of_ble_eq_true rfl | omega | (dsimp only [rm_law, rm_X1_interval]; omega))⟩) (fun u H1 locs1 g1 g2 g3 g4 => St.joinQ hW hA [0, 1, 2, 3, 4, 5, 6, 7] [8, 9, 10, 11, 12, 13, 14, 15, 16, 17, 18, 19] [12, 13, 14, 15, 16, 17, 18, 19, 0, 1, 2, 3, 4, 5, 6, 7, 8, 9, 10, 11] rfl rfl rfl (by decide) rfl rfl g1 g2 g3 g4) (by first | exact Nat.le_of_ble_eq_true rfl | omega | (dsimp only [rm_law, rm_X1_interval]; omega)) (by first | exact Nat.le_of_ble_eq_true rfl | omega | (dsimp only [rm_law, rm_X1_interval]; omega)) (fun r_32 u H locs hp_31 hW => ?_)
                subst hp_31
                refine lv_istore (lv' := [(16, .int (J (iab (σ 0 i - σ 0 j)))), (15, .int (J (j : Int))), (9, .int (J (c9 + (cof σ i)))), (8, .int (J (c8 + (bi (sn σ i))))), (14, .int (J (i : Int))), (13, .ref q_7), (12, .ref q_6), (11, .ref q_5), (10, .int (J 0)), (7, .int (J (nn σ : Int))), (5, .long (dg σ)), (0, .ref b), (1, .ref x), (2, .ref q), (3, .int (J (tm : Int))), (4, .int v)]) hx hb dL_law_313 hl (by decide) rfl (fun ls hl => ?_)
                refine lv_iload hx hb dL_law_315 (lv_at hl 0 rfl) ?_
                refine lv_aload_n hx hb dL_law_317 rfl (lv_at hl 12 rfl) ?_
                refine lv_iload hx hb dL_law_318 (lv_at hl 1 rfl) ?_
                refine lv_iload hx hb dL_law_320 (lv_at hl 4 rfl) ?_
                refine fina_i (k := (k0 + 3)) (n := (n0 + 30)) (W2 := (fun _ => ((WX κ x a a2 ++ (WC κ a σ ud.2 ++ (WC κ a2 ud.1 bt ++ (WS κ q pp M (σ 5 0) (σ 5 1) (σ 5 2) ++ (WA κ q_5 (nn σ) (rwf (σ 1) (i + 1)) ++ (WA κ q_6 (nn σ) (rwf (σ 0) (i + 1)) ++ (WZ κ q_7 (nn σ) (rwf (snb σ) (i + 1))))))))) ++ RP κ M σ))) hW (va_free hW.2.1 hW.2.2 hA [0, 1, 2, 3, 4, 5, 6, 7] rfl) (va_runV (As := [.int (J (j : Int)), .int (J (i : Int))]) (rest := [.int (J (iab (σ 0 i - σ 0 j)))]) F ((m_X1_interval l κ x a a2 σ ud.2 j i (by omega) (by omega) hI) _) (cwV 2 hts gL_law_X1_interval rfl rfl rfl (by decide +kernel) ⟨(Nat.le_of_ble_eq_true rfl), (Nat.le_of_ble_eq_true rfl)⟩) (pre_V hK hW [0, 1, 2, 3, 4, 5, 6, 7] rfl (by decide) 1 0 rfl rfl) rfl rfl hl.1 rfl (lv_room (Nat.le_of_ble_eq_true rfl)) dL_law_322 ⟨(by first | exact Nat.le_of_ble_eq_true rfl | omega | (dsimp only [rm_law, rm_X1_interval]; omega)), (by first | exact Nat.le_of_ble_eq_true rfl | omega | (dsimp only [rm_law, rm_X1_interval]; omega))⟩) (fun u H1 locs1 g1 g2 g3 g4 => St.joinQ hW hA [0, 1, 2, 3, 4, 5, 6, 7] [8, 9, 10, 11, 12, 13, 14, 15, 16, 17, 18, 19] [12, 13, 14, 15, 16, 17, 18, 19, 0, 1, 2, 3, 4, 5, 6, 7, 8, 9, 10, 11] rfl rfl rfl (by decide) rfl rfl g1 g2 g3 g4) (by first | exact Nat.le_of_ble_eq_true rfl | omega | (dsimp only [rm_law, rm_X1_interval]; omega)) (by first | exact Nat.le_of_ble_eq_true rfl | omega | (dsimp only [rm_law, rm_X1_interval]; omega)) (fun r_34 u H locs hp_33 hW => ?_)
                subst hp_33
                refine jv_icmp_ne hx hb 407 dL_law_325 (by decide) ⟨by omega, by omega⟩ ⟨by omega, by omega⟩ (fun h_35 => by exfalso; omega) (fun h_35 => ?_)
                refine lv_iload hx hb dL_law_328 (lv_at hl 0 rfl) ?_
                refine lv_aload_n hx hb dL_law_330 rfl (lv_at hl 12 rfl) ?_
                refine lv_iload hx hb dL_law_331 (lv_at hl 1 rfl) ?_
                refine fina_i (k := (k0 + 3)) (n := (n0 + 30)) (W2 := (fun _ => ((WX κ x a a2 ++ (WC κ a σ ud.2 ++ (WC κ a2 ud.1 bt ++ (WS κ q pp M (σ 5 0) (σ 5 1) (σ 5 2) ++ (WA κ q_5 (nn σ) (rwf (σ 1) (i + 1)) ++ (WA κ q_6 (nn σ) (rwf (σ 0) (i + 1)) ++ (WZ κ q_7 (nn σ) (rwf (snb σ) (i + 1))))))))) ++ RP κ M σ))) hW (va_free hW.2.1 hW.2.2 hA [0, 1, 2, 3, 4, 5, 6, 7] rfl) (va_runV (As := [.int (J (j : Int))]) (rest := [.int (J (iab (σ 0 i - σ 0 j)))]) F ((m_X1_pitchOf l κ x a a2 σ ud.2 j (by omega) hI) _) (cwV 1 hts gL_law_X1_pitchOf rfl rfl rfl (by decide +kernel) ⟨(Nat.le_of_ble_eq_true rfl), (Nat.le_of_ble_eq_true rfl)⟩) (pre_V hK hW [0, 1, 2, 3, 4, 5, 6, 7] rfl (by decide) 1 0 rfl rfl) rfl rfl hl.1 rfl (lv_room (Nat.le_of_ble_eq_true rfl)) dL_law_333 ⟨(by first | exact Nat.le_of_ble_eq_true rfl | omega | (dsimp only [rm_law, rm_X1_pitchOf]; omega)), (by first | exact Nat.le_of_ble_eq_true rfl | omega | (dsimp only [rm_law, rm_X1_pitchOf]; omega))⟩) (fun u H1 locs1 g1 g2 g3 g4 => St.joinQ hW hA [0, 1, 2, 3, 4, 5, 6, 7] [8, 9, 10, 11, 12, 13, 14, 15, 16, 17, 18, 19] [12, 13, 14, 15, 16, 17, 18, 19, 0, 1, 2, 3, 4, 5, 6, 7, 8, 9, 10, 11] rfl rfl rfl (by decide) rfl rfl g1 g2 g3 g4) (by first | exact Nat.le_of_ble_eq_true rfl | omega | (dsimp only [rm_law, rm_X1_pitchOf]; omega)) (by first | exact Nat.le_of_ble_eq_true rfl | omega | (dsimp only [rm_law, rm_X1_pitchOf]; omega)) (fun r_37 u H locs hp_36 hW => ?_)
                subst hp_36
                refine lv_aload hx hb dL_law_336 (lv_at hl 6 rfl) ?_
                refine lv_iload hx hb dL_law_338 (lv_at hl 4 rfl) ?_
                refine jv_iald (g := (rwf (σ 0) (i + 1))) hx hb hK hW 18 rfl i rfl (by omega) (by omega) dL_law_340 ?_
                refine jv_eq (y := σ 0 i) (rwf_at _ (by omega)) ?_
                refine jv_isub hx hb dL_law_341 ?_
                refine jv_abs hx hb hown hml hl hts (List.mem_of_getElem? (i := 5) rfl) (List.mem_of_getElem? (i := 6) rfl) (List.mem_of_getElem? (i := 7) rfl) (List.mem_of_getElem? (i := 8) rfl) (Nat.le_of_ble_eq_true rfl) (Nat.le_of_ble_eq_true rfl) (by first | exact Nat.le_of_ble_eq_true rfl | omega | (dsimp only [rm_law]; omega)) (by first | exact Nat.le_of_ble_eq_true rfl | omega | (dsimp only [rm_law]; omega)) ⟨by omega, by omega⟩ dL_law_342 ?_
                refine jv_eq (y := iab (σ 0 j - σ 0 i)) rfl ?_
                refine jv_icmp_ne hx hb 407 dL_law_345 (by decide) ⟨by omega, by omega⟩ ⟨by omega, by omega⟩ (fun h_38 => by exfalso; omega) (fun h_38 => ?_)
                refine lv_aload_n hx hb dL_law_348 rfl (lv_at hl 12 rfl) ?_
                refine lv_iload hx hb dL_law_349 (lv_at hl 4 rfl) ?_
                refine lv_iload hx hb dL_law_351 (lv_at hl 1 rfl) ?_
                refine fina_i (k := (k0 + 3)) (n := (n0 + 30)) (W2 := (fun _ => ((WX κ x a a2 ++ (WC κ a σ ud.2 ++ (WC κ a2 ud.1 bt ++ (WS κ q pp M (σ 5 0) (σ 5 1) (σ 5 2) ++ (WA κ q_5 (nn σ) (rwf (σ 1) (i + 1)) ++ (WA κ q_6 (nn σ) (rwf (σ 0) (i + 1)) ++ (WZ κ q_7 (nn σ) (rwf (snb σ) (i + 1))))))))) ++ RP κ M σ))) hW (va_free hW.2.1 hW.2.2 hA [0, 1, 2, 3, 4, 5, 6, 7] rfl) (va_runV (As := [.int (J (i : Int)), .int (J (j : Int))]) (rest := []) F ((m_X1_areInAccord l κ x a a2 σ ud.2 i j (by omega) (by omega) hI) _) (cwV 2 hts gL_law_X1_areInAccord rfl rfl rfl (by decide +kernel) ⟨(Nat.le_of_ble_eq_true rfl), (Nat.le_of_ble_eq_true rfl)⟩) (pre_V hK hW [0, 1, 2, 3, 4, 5, 6, 7] rfl (by decide) 1 0 rfl rfl) rfl rfl hl.1 rfl (lv_room (Nat.le_of_ble_eq_true rfl)) dL_law_353 ⟨(by first | exact Nat.le_of_ble_eq_true rfl | omega | (dsimp only [rm_law, rm_X1_areInAccord]; omega)), (by first | exact Nat.le_of_ble_eq_true rfl | omega | (dsimp only [rm_law, rm_X1_areInAccord]; omega))⟩) (fun u H1 locs1 g1 g2 g3 g4 => St.joinQ hW hA [0, 1, 2, 3, 4, 5, 6, 7] [8, 9, 10, 11, 12, 13, 14, 15, 16, 17, 18, 19] [12, 13, 14, 15, 16, 17, 18, 19, 0, 1, 2, 3, 4, 5, 6, 7, 8, 9, 10, 11] rfl rfl rfl (by decide) rfl rfl g1 g2 g3 g4) (by first | exact Nat.le_of_ble_eq_true rfl | omega | (dsimp only [rm_law, rm_X1_areInAccord]; omega)) (by first | exact Nat.le_of_ble_eq_true rfl | omega | (dsimp only [rm_law, rm_X1_areInAccord]; omega)) (fun r_40 u H locs hp_39 hW => ?_)
                subst hp_39
                refine lv_aload_n hx hb dL_law_356 rfl (lv_at hl 12 rfl) ?_
                refine lv_iload hx hb dL_law_357 (lv_at hl 1 rfl) ?_
                refine lv_iload hx hb dL_law_359 (lv_at hl 4 rfl) ?_
                refine fina_i (k := (k0 + 3)) (n := (n0 + 30)) (W2 := (fun _ => ((WX κ x a a2 ++ (WC κ a σ ud.2 ++ (WC κ a2 ud.1 bt ++ (WS κ q pp M (σ 5 0) (σ 5 1) (σ 5 2) ++ (WA κ q_5 (nn σ) (rwf (σ 1) (i + 1)) ++ (WA κ q_6 (nn σ) (rwf (σ 0) (i + 1)) ++ (WZ κ q_7 (nn σ) (rwf (snb σ) (i + 1))))))))) ++ RP κ M σ))) hW (va_free hW.2.1 hW.2.2 hA [0, 1, 2, 3, 4, 5, 6, 7] rfl) (va_runV (As := [.int (J (j : Int)), .int (J (i : Int))]) (rest := [.int (J (bi (ac (σ 0 i) (σ 0 j))))]) F ((m_X1_areInAccord l κ x a a2 σ ud.2 j i (by omega) (by omega) hI) _) (cwV 2 hts gL_law_X1_areInAccord rfl rfl rfl (by decide +kernel) ⟨(Nat.le_of_ble_eq_true rfl), (Nat.le_of_ble_eq_true rfl)⟩) (pre_V hK hW [0, 1, 2, 3, 4, 5, 6, 7] rfl (by decide) 1 0 rfl rfl) rfl rfl hl.1 rfl (lv_room (Nat.le_of_ble_eq_true rfl)) dL_law_361 ⟨(by first | exact Nat.le_of_ble_eq_true rfl | omega | (dsimp only [rm_law, rm_X1_areInAccord]; omega)), (by first | exact Nat.le_of_ble_eq_true rfl | omega | (dsimp only [rm_law, rm_X1_areInAccord]; omega))⟩) (fun u H1 locs1 g1 g2 g3 g4 => St.joinQ hW hA [0, 1, 2, 3, 4, 5, 6, 7] [8, 9, 10, 11, 12, 13, 14, 15, 16, 17, 18, 19] [12, 13, 14, 15, 16, 17, 18, 19, 0, 1, 2, 3, 4, 5, 6, 7, 8, 9, 10, 11] rfl rfl rfl (by decide) rfl rfl g1 g2 g3 g4) (by first | exact Nat.le_of_ble_eq_true rfl | omega | (dsimp only [rm_law, rm_X1_areInAccord]; omega)) (by first | exact Nat.le_of_ble_eq_true rfl | omega | (dsimp only [rm_law, rm_X1_areInAccord]; omega)) (fun r_42 u H locs hp_41 hW => ?_)
                subst hp_41
                refine jv_icmp_ne hx hb 407 dL_law_364 (by decide) ⟨by omega, by omega⟩ ⟨by omega, by omega⟩ (fun h_43 => by exfalso; exact h_43 (by rw [ac_comm])) (fun h_43 => ?_)
                refine lv_iload hx hb dL_law_367 (lv_at hl 0 rfl) ?_
                refine jv_bipush hx hb 12 dL_law_369 (by decide +kernel) ?_
                refine jv_irem hx hb dL_law_371 (by omega) ?_
                have j386 : ∀ (H : Heap) (locs : List Loc) (ls : Array Slot), St κ A s.heap H locs ((WX κ x a a2 ++ (WC κ a σ ud.2 ++ (WC κ a2 ud.1 bt ++ (WS κ q pp M (σ 5 0) (σ 5 1) (σ 5 2) ++ (WA κ q_5 (nn σ) (rwf (σ 1) (i + 1)) ++ (WA κ q_6 (nn σ) (rwf (σ 0) (i + 1)) ++ (WZ κ q_7 (nn σ) (rwf (snb σ) (i + 1))))))))) ++ RP κ M σ) → lv_has ls 25 [(16, .int (J (iab (σ 0 i - σ 0 j)))), (15, .int (J (j : Int))), (9, .int (J (c9 + (cof σ i)))), (8, .int (J (c8 + (bi (sn σ i))))), (14, .int (J (i : Int))), (13, .ref q_7), (12, .ref q_6), (11, .ref q_5), (10, .int (J 0)), (7, .int (J (nn σ : Int))), (5, .long (dg σ)), (0, .ref b), (1, .ref x), (2, .ref q), (3, .int (J (tm : Int))), (4, .int v)] → W P l e rm_law s m #[Value.ref b] below meth c H locs (k0 + 3) (n0 + 30) Q (F0 m 386 ls []) := by
                  intro H locs ls hW hl
                  refine lv_iload hx hb dL_law_386 (lv_at hl 0 rfl) ?_
                  refine jv_bipush hx hb 12 dL_law_388 (by decide +kernel) ?_
                  refine jv_irem hx hb dL_law_390 (by omega) ?_
                  refine jv_bipush hx hb 6 dL_law_391 (by decide +kernel) ?_
                  refine jv_icmp_ne hx hb 409 dL_law_393 (by decide) ⟨by omega, by omega⟩ ⟨by omega, by omega⟩ (fun h_44 => ?_) (fun h_44 => ?_)
                  · skip
                    refine jv_iinc (k := 1) (z := (j : Int)) (lv' := [(15, .int (J ((j : Int) + 1))), (16, .int (J (iab (σ 0 i - σ 0 j)))), (9, .int (J (c9 + (cof σ i)))), (8, .int (J (c8 + (bi (sn σ i))))), (14, .int (J (i : Int))), (13, .ref q_7), (12, .ref q_6), (11, .ref q_5), (10, .int (J 0)), (7, .int (J (nn σ : Int))), (5, .long (dg σ)), (0, .ref b), (1, .ref x), (2, .ref q), (3, .int (J (tm : Int))), (4, .int v)]) hx hb dL_law_409 hl rfl (by decide) rfl (fun ls hl => ?_)
                    refine lv_goto (tgt := 298) hx hb dL_law_412 (by decide) ?_
                    exact ih_hlq (j + 1) (by omega) (by omega)  _ _ _  hW (lv_sub hl [0, 2, 3, 4, 5, 6, 7, 8, 9, 10, 11, 12, 13, 14, 15] rfl)
                  · skip
                    refine lv_aload_n hx hb dL_law_396 rfl (lv_at hl 12 rfl) ?_
                    refine lv_iload hx hb dL_law_397 (lv_at hl 4 rfl) ?_
                    refine lv_iload hx hb dL_law_399 (lv_at hl 1 rfl) ?_
                    refine fina_i (k := (k0 + 3)) (n := (n0 + 30)) (W2 := (fun _ => ((WX κ x a a2 ++ (WC κ a σ ud.2 ++ (WC κ a2 ud.1 bt ++ (WS κ q pp M (σ 5 0) (σ 5 1) (σ 5 2) ++ (WA κ q_5 (nn σ) (rwf (σ 1) (i + 1)) ++ (WA κ q_6 (nn σ) (rwf (σ 0) (i + 1)) ++ (WZ κ q_7 (nn σ) (rwf (snb σ) (i + 1))))))))) ++ RP κ M σ))) hW (va_free hW.2.1 hW.2.2 hA [0, 1, 2, 3, 4, 5, 6, 7] rfl) (va_runV (As := [.int (J (i : Int)), .int (J (j : Int))]) (rest := []) F ((m_X1_areInAccord l κ x a a2 σ ud.2 i j (by omega) (by omega) hI) _) (cwV 2 hts gL_law_X1_areInAccord rfl rfl rfl (by decide +kernel) ⟨(Nat.le_of_ble_eq_true rfl), (Nat.le_of_ble_eq_true rfl)⟩) (pre_V hK hW [0, 1, 2, 3, 4, 5, 6, 7] rfl (by decide) 1 0 rfl rfl) rfl rfl hl.1 rfl (lv_room (Nat.le_of_ble_eq_true rfl)) dL_law_401 ⟨(by first | exact Nat.le_of_ble_eq_true rfl | omega | (dsimp only [rm_law, rm_X1_areInAccord]; omega)), (by first | exact Nat.le_of_ble_eq_true rfl | omega | (dsimp only [rm_law, rm_X1_areInAccord]; omega))⟩) (fun u H1 locs1 g1 g2 g3 g4 => St.joinQ hW hA [0, 1, 2, 3, 4, 5, 6, 7] [8, 9, 10, 11, 12, 13, 14, 15, 16, 17, 18, 19] [12, 13, 14, 15, 16, 17, 18, 19, 0, 1, 2, 3, 4, 5, 6, 7, 8, 9, 10, 11] rfl rfl rfl (by decide) rfl rfl g1 g2 g3 g4) (by first | exact Nat.le_of_ble_eq_true rfl | omega | (dsimp only [rm_law, rm_X1_areInAccord]; omega)) (by first | exact Nat.le_of_ble_eq_true rfl | omega | (dsimp only [rm_law, rm_X1_areInAccord]; omega)) (fun r_46 u H locs hp_45 hW => ?_)
                    subst hp_45
                    refine jv_ifb_eq (b := (ac (σ 0 i) (σ 0 j))) hx hb 409 dL_law_404 (by decide) (fun h_47 => ?_) (fun h_47 => by exfalso; rw [ac_far6 (by omega)] at h_47; cases h_47)
                    refine jv_iinc (k := 1) (z := (j : Int)) (lv' := [(15, .int (J ((j : Int) + 1))), (16, .int (J (iab (σ 0 i - σ 0 j)))), (9, .int (J (c9 + (cof σ i)))), (8, .int (J (c8 + (bi (sn σ i))))), (14, .int (J (i : Int))), (13, .ref q_7), (12, .ref q_6), (11, .ref q_5), (10, .int (J 0)), (7, .int (J (nn σ : Int))), (5, .long (dg σ)), (0, .ref b), (1, .ref x), (2, .ref q), (3, .int (J (tm : Int))), (4, .int v)]) hx hb dL_law_409 hl rfl (by decide) rfl (fun ls hl => ?_)
                    refine lv_goto (tgt := 298) hx hb dL_law_412 (by decide) ?_
                    exact ih_hlq (j + 1) (by omega) (by omega)  _ _ _  hW (lv_sub hl [0, 2, 3, 4, 5, 6, 7, 8, 9, 10, 11, 12, 13, 14, 15] rfl)
                refine jv_if_ne hx hb 386 dL_law_372 (by decide) ⟨by omega, by omega⟩ (fun h_48 => ?_) (fun h_48 => ?_)
                · skip
                  exact j386 _ _ _ hW hl
                · skip
                  refine lv_aload_n hx hb dL_law_375 rfl (lv_at hl 12 rfl) ?_
                  refine lv_iload hx hb dL_law_376 (lv_at hl 4 rfl) ?_
                  refine lv_iload hx hb dL_law_378 (lv_at hl 1 rfl) ?_
                  refine fina_i (k := (k0 + 3)) (n := (n0 + 30)) (W2 := (fun _ => ((WX κ x a a2 ++ (WC κ a σ ud.2 ++ (WC κ a2 ud.1 bt ++ (WS κ q pp M (σ 5 0) (σ 5 1) (σ 5 2) ++ (WA κ q_5 (nn σ) (rwf (σ 1) (i + 1)) ++ (WA κ q_6 (nn σ) (rwf (σ 0) (i + 1)) ++ (WZ κ q_7 (nn σ) (rwf (snb σ) (i + 1))))))))) ++ RP κ M σ))) hW (va_free hW.2.1 hW.2.2 hA [0, 1, 2, 3, 4, 5, 6, 7] rfl) (va_runV (As := [.int (J (i : Int)), .int (J (j : Int))]) (rest := []) F ((m_X1_areInAccord l κ x a a2 σ ud.2 i j (by omega) (by omega) hI) _) (cwV 2 hts gL_law_X1_areInAccord rfl rfl rfl (by decide +kernel) ⟨(Nat.le_of_ble_eq_true rfl), (Nat.le_of_ble_eq_true rfl)⟩) (pre_V hK hW [0, 1, 2, 3, 4, 5, 6, 7] rfl (by decide) 1 0 rfl rfl) rfl rfl hl.1 rfl (lv_room (Nat.le_of_ble_eq_true rfl)) dL_law_380 ⟨(by first | exact Nat.le_of_ble_eq_true rfl | omega | (dsimp only [rm_law, rm_X1_areInAccord]; omega)), (by first | exact Nat.le_of_ble_eq_true rfl | omega | (dsimp only [rm_law, rm_X1_areInAccord]; omega))⟩) (fun u H1 locs1 g1 g2 g3 g4 => St.joinQ hW hA [0, 1, 2, 3, 4, 5, 6, 7] [8, 9, 10, 11, 12, 13, 14, 15, 16, 17, 18, 19] [12, 13, 14, 15, 16, 17, 18, 19, 0, 1, 2, 3, 4, 5, 6, 7, 8, 9, 10, 11] rfl rfl rfl (by decide) rfl rfl g1 g2 g3 g4) (by first | exact Nat.le_of_ble_eq_true rfl | omega | (dsimp only [rm_law, rm_X1_areInAccord]; omega)) (by first | exact Nat.le_of_ble_eq_true rfl | omega | (dsimp only [rm_law, rm_X1_areInAccord]; omega)) (fun r_50 u H locs hp_49 hW => ?_)
                  subst hp_49
                  refine jv_ifb_eq (b := (ac (σ 0 i) (σ 0 j))) hx hb 407 dL_law_383 (by decide) (fun h_51 => by exfalso; rw [ac_far0 (by omega)] at h_51; cases h_51) (fun h_51 => ?_)
                  exact j386 _ _ _ hW hl
          refine jv_ifb_ne (b := (sn σ i)) hx hb 282 dL_law_270 (by decide) (fun h_52 => ?_) (fun h_52 => ?_)
          · skip
            exact j282 _ _ _ hW hl
          · skip
            have hs2 : cof σ i = 0 := by unfold cof; rw [if_neg (by rw [h_52]; decide)]
            refine lv_aload_n hx hb dL_law_273 rfl (lv_at hl 10 rfl) ?_
            refine lv_iload hx hb dL_law_274 (lv_at hl 2 rfl) ?_
            refine fina_i (k := (k0 + 3)) (n := (n0 + 30)) (W2 := (fun _ => ((WX κ x a a2 ++ (WC κ a σ ud.2 ++ (WC κ a2 ud.1 bt ++ (WS κ q pp M (σ 5 0) (σ 5 1) (σ 5 2) ++ (WA κ q_5 (nn σ) (rwf (σ 1) (i + 1)) ++ (WA κ q_6 (nn σ) (rwf (σ 0) (i + 1)) ++ (WZ κ q_7 (nn σ) (rwf (snb σ) (i + 1))))))))) ++ RP κ M σ))) hW (va_free hW.2.1 hW.2.2 hA [0, 1, 2, 3, 4, 5, 6, 7] rfl) (va_runV (As := [.int (J (i : Int))]) (rest := []) F ((m_X1_clashesOf l κ x a a2 σ ud.2 i (by omega) hI) _) (cwV 1 hts gL_law_X1_clashesOf rfl rfl rfl (by decide +kernel) ⟨(Nat.le_of_ble_eq_true rfl), (Nat.le_of_ble_eq_true rfl)⟩) (pre_V hK hW [0, 1, 2, 3, 4, 5, 6, 7] rfl (by decide) 1 0 rfl rfl) rfl rfl hl.1 rfl (lv_room (Nat.le_of_ble_eq_true rfl)) dL_law_276 ⟨(by first | exact Nat.le_of_ble_eq_true rfl | omega | (dsimp only [rm_law, rm_X1_clashesOf]; omega)), (by first | exact Nat.le_of_ble_eq_true rfl | omega | (dsimp only [rm_law, rm_X1_clashesOf]; omega))⟩) (fun u H1 locs1 g1 g2 g3 g4 => St.joinQ hW hA [0, 1, 2, 3, 4, 5, 6, 7] [8, 9, 10, 11, 12, 13, 14, 15, 16, 17, 18, 19] [12, 13, 14, 15, 16, 17, 18, 19, 0, 1, 2, 3, 4, 5, 6, 7, 8, 9, 10, 11] rfl rfl rfl (by decide) rfl rfl g1 g2 g3 g4) (by first | exact Nat.le_of_ble_eq_true rfl | omega | (dsimp only [rm_law, rm_X1_clashesOf]; omega)) (by first | exact Nat.le_of_ble_eq_true rfl | omega | (dsimp only [rm_law, rm_X1_clashesOf]; omega)) (fun r_54 u H locs hp_53 hW => ?_)
            subst hp_53
            refine jv_if_gt hx hb 293 dL_law_279 (by decide) ⟨by omega, by omega⟩ (fun h_55 => by exfalso; omega) (fun h_55 => ?_)
            exact j282 _ _ _ hW hl
        refine jv_ifb_eq (b := (sn σ i)) hx hb 265 dL_law_254 (by decide) (fun h_56 => ?_) (fun h_56 => ?_)
        · skip
          exact j265 _ _ _ hW hl
        · skip
          have hs1 : 0 < σ 1 i := (of_decide_eq_true h_56).1
          refine lv_aload hx hb dL_law_257 (lv_at hl 5 rfl) ?_
          refine lv_iload hx hb dL_law_259 (lv_at hl 2 rfl) ?_
          refine jv_iald (g := (rwf (σ 1) (i + 1))) hx hb hK hW 17 rfl i rfl (by omega) (by omega) dL_law_261 ?_
          refine jv_eq (y := σ 1 i) (rwf_at _ (by omega)) ?_
          refine jv_if_eq hx hb 293 dL_law_262 (by decide) ⟨by omega, by omega⟩ (fun h_57 => by exfalso; omega) (fun h_57 => ?_)
          exact j265 _ _ _ hW hl
      refine jv_ifb_eq (b := (sn σ i)) hx hb 178 dL_law_171 (by decide) (fun h_58 => ?_) (fun h_58 => ?_)
      · skip
        refine jv_iconst hx hb dL_law_178 ?_
        refine jv_eq (y := bi (sn σ i)) (by rw [h_58]; rfl) ?_
        exact j179 _ _ _ hW hl
      · skip
        refine jv_iconst hx hb dL_law_174 ?_
        refine lv_goto (tgt := 179) hx hb dL_law_175 (by decide) ?_
        refine jv_eq (y := bi (sn σ i)) (by rw [h_58]; rfl) ?_
        exact j179 _ _ _ hW hl
