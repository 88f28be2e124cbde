set_option maxHeartbeats 4000000 in
set_option maxRecDepth 100000 in
/-- one round of the law -/
theorem law_round {P : Program} {l : Launch} {e : Env} {s : State} {m : MethodId} {below : List Frame} {meth : Method} {c : Code} {Q : State → Prop} {b L : Nat} {xs : Nat → Int32} {κ : Kp} {A : Nat → Prop} (F : CallFix P m c cL_law 25 s #[Value.ref b] wsL_law RL) (hK : Kx κ s) (hA : ∀ q, s.heap.size ≤ q → A q) (hX : va_X b L xs s s.heap) (hbl : b < s.heap.size) (hbA : ¬ A b) (hL : L ≤ 2048) {x q pp : Nat} {a a2 : Nat → Nat} {M : List Nat} {σ τ : Sg} {br bt : Nat → Int} {tm : Nat} (htm : tm < 10) {k0 n0 : Nat} (hk0 : k0 + 40 ≤ 600130) (hn0 : n0 + 400 ≤ 7301080) (hG : Gd σ M) (hp0 : 0 < nn σ) (hB2 : σ 5 0 ≤ 2000) (hC2 : σ 5 1 ≤ 2000)
    (next : ∀ (σ1 τ1 : Sg) (br1 : Nat → Int) (M1 : List Nat) (p1 : Nat) (H : Heap) (locs : List Loc) (ls : Array Slot), Gd σ1 M1 → 0 < nn σ1 → σ1 5 0 ≤ σ 5 0 + 183 → σ1 5 1 ≤ σ 5 1 + 183 → St κ A s.heap H locs ((WX κ x a a2 ++ (WC κ a σ1 br1 ++ (WC κ a2 τ1 bt ++ (WS κ q p1 M1 (σ1 5 0) (σ1 5 1) (σ1 5 2))))) ++ RP κ M1 σ1) → lv_has ls 25 [(0, .ref b), (1, .ref x), (2, .ref q), (3, .int (J ((tm : Int) + 1)))] → W P l e rm_law s m #[Value.ref b] below meth c H locs (k0 + 6 + 3) (n0 + 48 + 30) Q (F0 m 22 ls []))
    {H : Heap} {locs : List Loc} {ls : Array Slot} (hW : St κ A s.heap H locs ((WX κ x a a2 ++ (WC κ a σ br ++ (WC κ a2 τ bt ++ (WS κ q pp M (σ 5 0) (σ 5 1) (σ 5 2))))) ++ RP κ M σ)) (hl : lv_has ls 25 [(0, .ref b), (1, .ref x), (2, .ref q), (3, .int (J (tm : Int)))]) : W P l e rm_law s m #[Value.ref b] below meth c H locs k0 n0 Q (F0 m 28 ls []) := by
  refine law_X F hK hA hX hbl hbA hL htm (v := 0) (by omega) (by omega) hG hp0 (by omega) (by omega) (by omega) (by omega) ?_ hW hl
  intro σ1 M1 p1 v1 H locs ls hG1 hn1 hb1 hc1 hW hl
  refine law_A F hK hA hX hbl hbA hL htm (by omega) (by omega) hG1 (by omega) (by omega) (by omega) ?_ hW hl
  intro q1 q2 q3 br1 τ1 H locs ls hW hl
  refine law_B F hK hA hX hbl hbA hL htm (by omega) (by omega) hG1 (by omega) (by omega) (by omega) ?_ hW hl
  intro H locs ls hW hl
  refine law_C F hK hA hX hbl hbA hL htm (by omega) (by omega) hG1 (by omega) (by omega) (by omega) ?_ hW hl
  intro br2 H locs ls hW hl
  refine law_D F hK hA hX hbl hbA hL htm (by omega) (by omega) hG1 (by omega) (by omega) (by omega) ?_ hW hl
  intro br3 τ3 H locs ls hW hl
  refine law_E F hK hA hX hbl hbA hL htm (v := 0) (by omega) (by omega) hG1 (by omega) (by omega) (by omega) ?_ hW hl
  intro σ2 τ4 br4 H locs ls hG2 hn2 hb2 hc2 hW hl
  exact next σ2 τ4 br4 M1 p1 H locs ls hG2 (by omega) (by omega) (by omega) hW hl
set_option maxHeartbeats 4000000 in
set_option maxRecDepth 100000 in
/-- the law's rounds, from their head on -/
theorem law_loop {P : Program} {l : Launch} {e : Env} {s : State} {m : MethodId} {below : List Frame} {meth : Method} {c : Code} {b L : Nat} {xs : Nat → Int32} {κ : Kp} {x q : Nat} {a a2 : Nat → Nat} {bt : Nat → Int} (F : CallFix P m c cL_law 25 s #[Value.ref b] wsL_law RL) (hr : meth.sig.returnType = ret) (hlocks : meth.locks = false) (hK : Kx κ s) (hX : va_X b L xs s s.heap) (hbl : b < s.heap.size) (hL : L ≤ 2048) :
    ∀ (n tm : Nat), tm + n = 10 → ∀ (σ τ : Sg) (br : Nat → Int) (M : List Nat) (pp : Nat) (H : Heap) (locs : List Loc) (ls : Array Slot), Gd σ M → 0 < nn σ → σ 5 0 ≤ 183 * (tm : Int) → σ 5 1 ≤ 183 * (tm : Int) → St κ (fun q => s.heap.size ≤ q) s.heap H locs ((WX κ x a a2 ++ (WC κ a σ br ++ (WC κ a2 τ bt ++ (WS κ q pp M (σ 5 0) (σ 5 1) (σ 5 2))))) ++ RP κ M σ) → lv_has ls 25 [(0, .ref b), (1, .ref x), (2, .ref q), (3, .int (J (tm : Int)))] → W P l e rm_law s m #[Value.ref b] below meth c H locs (100 + 9 * tm) (1000 + 78 * tm) (lw_Z below #[Value.ref b] s) (F0 m 22 ls []) := by
  obtain ⟨hx, hb, hml, hown, hts⟩ := id F
  have hA : ∀ q : Nat, s.heap.size ≤ q → (fun q : Nat => s.heap.size ≤ q) q := fun _ h => h
  have hbA : ¬ (fun q : Nat => s.heap.size ≤ q) b := Nat.not_le.mpr hbl
  intro n
  induction n with
  | zero =>
    intro tm hin σ τ br M pp H locs ls hG hp0 hB hC hW hl
    refine lv_iload_n hx hb dL_law_22 rfl (lv_at hl 3 rfl) ?_
    refine jv_bipush hx hb 10 dL_law_23 (by decide +kernel) ?_
    refine jv_icmp_ge hx hb 1231 dL_law_25 (by decide) ⟨by omega, by omega⟩ ⟨by omega, by omega⟩ (fun h => ?_) (fun h => by exfalso; omega)
    refine law_Z F hK hA hX hbl hbA hL (tm := 0) (by decide) (v := 0) (by omega) (by omega) hG hp0 (by omega) (by omega) ?_ hW (lv_sub hl [0, 1, 2] rfl)
    intro H locs ls hW hl
    refine va_forget (fun q hq => hW.2.2.2.2 q hq) ?_
    refine W.widen (k := 600130) (n := 7301080) (by omega) (by omega) ?_
    exact lw_ret (d0 := s.drawn) (Drawn.sameBut.refl s.drawn lw_cs) hx hb hr hlocks dL_law_1236
  | succ n ih =>
    intro tm hin σ τ br M pp H locs ls hG hp0 hB hC hW hl
    refine lv_iload_n hx hb dL_law_22 rfl (lv_at hl 3 rfl) ?_
    refine jv_bipush hx hb 10 dL_law_23 (by decide +kernel) ?_
    refine jv_icmp_ge hx hb 1231 dL_law_25 (by decide) ⟨by omega, by omega⟩ ⟨by omega, by omega⟩ (fun h => by exfalso; omega) (fun h => ?_)
    refine law_round F hK hA hX hbl hbA hL (tm := tm) (by omega) (by omega) (by omega) hG hp0 (by omega) (by omega) ?_ hW hl
    intro σ1 τ1 br1 M1 p1 H locs ls hG1 hp1 hB1 hC1 hW hl
    refine W.widen (k := 100 + 9 * (tm + 1)) (n := 1000 + 78 * (tm + 1)) (by omega) (by omega) ?_
    exact ih (tm + 1) (by omega) σ1 τ1 br1 M1 p1 H locs ls hG1 hp1 (by omega) (by omega) hW hl