/-! ===== rows over the pots by hand ===== -/
section PRows
variable {p : Program} {l : Launch} {e : Env} {R : Room} {s : State} {m : MethodId} {args : Array Value} {below : List Frame} {meth : Method} {c : Code} {H : Heap} {locs : List Loc} {cells slots : Nat} {Q : State → Prop} {cc : ByteArray} {pc : Nat} {ls : Array Slot} {rest : List Value} {κ : Kp} {A : Nat → Prop} {H0 : Heap} {X : va_W} {L : List Nat} {σ : Sg}
theorem RP_at (hW : St κ A H0 H locs (X ++ RP κ L σ)) {i : Nat} (hi : i < L.length) : ∃ q0 : Nat, (X ++ RP κ L σ)[q0]? = some (la L i, .inl (kI κ, 5, .inl fun k => J (rwv σ i k))) := by
  obtain ⟨q0, hq⟩ := va_pl_get (X := X) (f := rpf κ L σ) (la_mem hi)
  refine ⟨q0, ?_⟩
  rw [hq]
  unfold rpf
  rw [la_idx (pl_nodup hW.2.1) hi]
/-- a place of a pot's row, read -/
theorem jv_rld (hx : p.tables.exec = Jvm.exec) (hb : c.code = cc) (hK : Kx κ s) (hW : St κ A H0 H locs (X ++ RP κ L σ)) {i : Nat} (hi : i < L.length) (k : Nat) {z : Int} (hz : z = (k : Int)) (hk : k < 5) (hdg : decode cc pc = .ok (.iaload, 1)) (kk : W p l e R s m args below meth c H locs cells slots Q (F0 m (pc + 1) ls (.int (J (σ (fx k) i)) :: rest))) : W p l e R s m args below meth c H locs cells slots Q (F0 m pc ls (.int (J z) :: .ref (la L i) :: rest)) := by
  obtain ⟨q0, hq⟩ := RP_at hW hi
  refine jv_iald hx hb hK hW q0 (g := rwv σ i) hq k hz hk (by decide) hdg ?_
  rw [rwv_at _ _ hk]
  exact kk
/-- a place of a pot's row, written -/
theorem jv_rst (hx : p.tables.exec = Jvm.exec) (hb : c.code = cc) (hK : Kx κ s) (hW : St κ A H0 H locs (X ++ RP κ L σ)) {i : Nat} (hi : i < L.length) (k : Nat) {z v : Int} (hz : z = (k : Int)) (hk : k < 5) (hdg : decode cc pc = .ok (.iastore, 1)) (kk : ∀ (H1 : Heap) (locs1 : List Loc), St κ A H0 H1 locs1 (X ++ RP κ L (up σ (fx k) i v)) → W p l e R s m args below meth c H1 locs1 cells slots Q (F0 m (pc + 1) ls rest)) : W p l e R s m args below meth c H locs cells slots Q (F0 m pc ls (.int (J v) :: .int (J z) :: .ref (la L i) :: rest)) := by
  have hn := pl_nodup hW.2.1
  obtain ⟨q0, hq⟩ := RP_at hW hi
  refine jv_iast hx hb hK hW q0 (g := rwv σ i) (ws' := X ++ RP κ L (up σ (fx k) i v)) hq k hz hk (by decide) ?_ hdg kk
  have hq' : (X ++ RP κ L σ)[q0]? = some (la L i, rpf κ L σ (la L i)) := by
    rw [hq]
    unfold rpf
    rw [la_idx hn hi]
  rw [va_pl_set hW.2.1 (la_mem hi) hq']
  congr 1
  unfold RP va_pl
  refine List.map_congr_left (fun a ha => ?_)
  by_cases ea : a = la L i
  · subst ea
    rw [va_up_self]
    unfold rpf
    rw [la_idx hn hi, rwv_up _ _ _ hk]
  · rw [va_up_ne _ _ ea]
    unfold rpf
    rw [rwv_ne]
    intro h
    exact ea (by rw [← h, idx_la ha])
end PRows
/-! ===== calls over a world with a pool ===== -/
theorem map_app {X pl wc : va_W} {is : List Nat} (h : is.map (fun i => X[i]?) = wc.map some) : is.map (fun i => (X ++ pl)[i]?) = wc.map some := by
  rw [← h]
  refine List.map_congr_left (fun i hi => ?_)
  have h1 : X[i]? ∈ wc.map some := by rw [← h]; exact List.mem_map.mpr ⟨i, hi, rfl⟩
  obtain ⟨q, -, hq⟩ := List.mem_map.mp h1
  exact List.getElem?_append_left (List.getElem?_eq_some_iff.mp hq.symm).1
section JoinPQ
variable {κ : Kp} {A : Nat → Prop} {H0 H H1 : Heap} {locs locs1 : List Loc} {X X' wc w1 pl pl1 : va_W}
/-- behind a call that had none of the pots' rows -/
theorem St.joinQ (hW : St κ A H0 H locs (X ++ pl)) (hA : ∀ q, H0.size ≤ q → A q) (isC isR pm : List Nat) (hC : isC.map (fun i => X[i]?) = wc.map some) (hR : isR.all (fun i => decide (i < X.length)) = true) (hn : va_nd isR = true) (hdis : ∀ i ∈ isR, i ∉ isC) (hpn : va_nd pm = true) (hpm : pm.map (fun i => (isR.filterMap (fun i => X[i]?) ++ w1)[i]?) = X'.map some)
    (hk : ∀ q : Nat, q < H.size → ¬ va_A wc H.size q → H1[q]? = H[q]?) (hP1 : va_P (kD κ) vwCl w1 H1) (hD1 : va_D (va_A wc H.size) w1) (hS : va_S A H0 H1 locs1) : St κ A H0 H1 locs1 (X' ++ pl) := by
  obtain ⟨hP, hD⟩ := va_joinQ (wr := isR.filterMap (fun i => X[i]?)) hW.1 hW.2.1 isC isR hC (fm_all hR) hn hdis hk (va_free hW.2.1 hW.2.2 hA isC (map_app hC)) hP1 hD1
  exact ⟨hP.part pm hpm, hD.part pm hpn hpm, hS⟩
/-- behind a call that had the pots' rows -/
theorem St.joinP (hW : St κ A H0 H locs (X ++ pl)) (hA : ∀ q, H0.size ≤ q → A q) (isC isR pm : List Nat) (hC : isC.map (fun i => X[i]?) = wc.map some) (hR : isR.all (fun i => decide (i < X.length)) = true) (hn : va_nd isR = true) (hdis : ∀ i ∈ isR, i ∉ isC) (hpn : va_nd pm = true) (hpm : pm.map (fun i => (isR.filterMap (fun i => X[i]?) ++ w1)[i]?) = X'.map some)
    (hk : ∀ q : Nat, q < H.size → ¬ va_A (wc ++ pl) H.size q → H1[q]? = H[q]?) (hP1 : va_P (kD κ) vwCl (w1 ++ pl1) H1) (hD1 : va_D (va_A (wc ++ pl) H.size) (w1 ++ pl1)) (hS : va_S A H0 H1 locs1) : St κ A H0 H1 locs1 (X' ++ pl1) := by
  obtain ⟨hP, hD⟩ := va_joinP (wr := isR.filterMap (fun i => X[i]?)) hW.1 hW.2.1 isC isR hC (fm_all hR) hn hdis hk (va_freeP hW.2.1 hW.2.2 hA isC hC) hP1 hD1
  exact ⟨hP.part pm hpm, hD.part pm hpn hpm, hS⟩
end JoinPQ
section FinA
variable {p : Program} {l : Launch} {e : Env} {R : Room} {s : State} {m : MethodId} {args : Array Value} {below : List Frame} {meth : Method} {c : Code} {H : Heap} {locs : List Loc} {cells slots mc ms : Nat} {Q : State → Prop} {pc : Nat} {ls : Array Slot} {rest st0 : List Value} {a : Array Value} {κ : Kp} {A : Nat → Prop} {H0 : Heap} {ws W0 : va_W}
/-- how the caller's world comes back behind a call -/
def Bk {S : Type} (κ : Kp) (A : Nat → Prop) (H0 H : Heap) (W0 : va_W) (W1 W2 : S → va_W) : Prop := ∀ (u : S) (H1 : Heap) (locs1 : List Loc), (∀ q : Nat, q < H.size → ¬ va_A W0 H.size q → H1[q]? = H[q]?) → va_P (kD κ) vwCl (W1 u) H1 → va_D (va_A W0 H.size) (W1 u) → va_S A H0 H1 locs1 → St κ A H0 H1 locs1 (W2 u)
theorem fina_i {S : Type} {post : Int32 → S → Prop} {W1 W2 : S → va_W} (k n : Nat) (hW : St κ A H0 H locs ws) (hF : ∀ q, va_A W0 H.size q → A q)
    (hr : va_Run p l e R s m args below meth c H locs cells slots mc ms (F0 m pc ls st0) rest (va_Qi post (fun u => PW κ (W1 u) (va_A W0 H.size)) (va_A W0 H.size) a) (va_A W0 H.size)) (hj : Bk κ A H0 H W0 W1 W2) (hk : cells + mc ≤ k) (hs : slots + ms ≤ n)
    (kk : ∀ (r : Int32) (u : S) (H1 : Heap) (locs1 : List Loc), post r u → St κ A H0 H1 locs1 (W2 u) → W p l e R s m args below meth c H1 locs1 k n Q (F0 m (pc + 3) ls (.int r :: rest))) : W p l e R s m args below meth c H locs cells slots Q (F0 m pc ls st0) :=
  va_calli hr hW.2.2 (fun q _ h => hF q h) hF (fun r u t H1 locs1 ht _ hw hB _ hk1 hS => W.widen hk hs (kk r u H1 locs1 hw (hj u H1 locs1 hk1 (by rw [← ht]; exact hB.1) hB.2 hS)))
theorem fina_v {S : Type} {post : S → Prop} {W1 W2 : S → va_W} (k n : Nat) (hW : St κ A H0 H locs ws) (hF : ∀ q, va_A W0 H.size q → A q)
    (hr : va_Run p l e R s m args below meth c H locs cells slots mc ms (F0 m pc ls st0) rest (va_Qv post (fun u => PW κ (W1 u) (va_A W0 H.size)) (va_A W0 H.size) a) (va_A W0 H.size)) (hj : Bk κ A H0 H W0 W1 W2) (hk : cells + mc ≤ k) (hs : slots + ms ≤ n)
    (kk : ∀ (u : S) (H1 : Heap) (locs1 : List Loc), post u → St κ A H0 H1 locs1 (W2 u) → W p l e R s m args below meth c H1 locs1 k n Q (F0 m (pc + 3) ls rest)) : W p l e R s m args below meth c H locs cells slots Q (F0 m pc ls st0) :=
  va_callv hr hW.2.2 (fun q _ h => hF q h) hF (fun u t H1 locs1 ht _ hw hB _ hk1 hS => W.widen hk hs (kk u H1 locs1 hw (hj u H1 locs1 hk1 (by rw [← ht]; exact hB.1) hB.2 hS)))
theorem fina_l {S : Type} {post : Int64 → S → Prop} {W1 W2 : S → va_W} (k n : Nat) (hW : St κ A H0 H locs ws) (hF : ∀ q, va_A W0 H.size q → A q)
    (hr : va_Run p l e R s m args below meth c H locs cells slots mc ms (F0 m pc ls st0) rest (va_Ql post (fun u => PW κ (W1 u) (va_A W0 H.size)) (va_A W0 H.size) a) (va_A W0 H.size)) (hj : Bk κ A H0 H W0 W1 W2) (hk : cells + mc ≤ k) (hs : slots + ms ≤ n)
    (kk : ∀ (r : Int64) (u : S) (H1 : Heap) (locs1 : List Loc), post r u → St κ A H0 H1 locs1 (W2 u) → W p l e R s m args below meth c H1 locs1 k n Q (F0 m (pc + 3) ls (.long r :: rest))) : W p l e R s m args below meth c H locs cells slots Q (F0 m pc ls st0) :=
  va_calll hr hW.2.2 (fun q _ h => hF q h) hF (fun r u t H1 locs1 ht _ hw hB _ hk1 hS => W.widen hk hs (kk r u H1 locs1 hw (hj u H1 locs1 hk1 (by rw [← ht]; exact hB.1) hB.2 hS)))
theorem fina_d {S : Type} {post : UInt64 → S → Prop} {W1 W2 : S → va_W} (k n : Nat) (hW : St κ A H0 H locs ws) (hF : ∀ q, va_A W0 H.size q → A q)
    (hr : va_Run p l e R s m args below meth c H locs cells slots mc ms (F0 m pc ls st0) rest (va_Qd post (fun u => PW κ (W1 u) (va_A W0 H.size)) (va_A W0 H.size) a) (va_A W0 H.size)) (hj : Bk κ A H0 H W0 W1 W2) (hk : cells + mc ≤ k) (hs : slots + ms ≤ n)
    (kk : ∀ (r : UInt64) (u : S) (H1 : Heap) (locs1 : List Loc), post r u → St κ A H0 H1 locs1 (W2 u) → W p l e R s m args below meth c H1 locs1 k n Q (F0 m (pc + 3) ls (.double r :: rest))) : W p l e R s m args below meth c H locs cells slots Q (F0 m pc ls st0) :=
  va_calld hr hW.2.2 (fun q _ h => hF q h) hF (fun r u t H1 locs1 ht _ hw hB _ hk1 hS => W.widen hk hs (kk r u H1 locs1 hw (hj u H1 locs1 hk1 (by rw [← ht]; exact hB.1) hB.2 hS)))
end FinA
section PreP
variable {s : State} {κ : Kp} {A : Nat → Prop} {H : Heap} {locs : List Loc} {X pl wc : va_W} {as As : List Value} {b : Nat}
theorem pre_SP {H0 : Heap} (hK : Kx κ s) (hW : St κ A H0 H locs (X ++ pl)) (isC : List Nat) (hC : isC.map (fun i => X[i]?) = wc.map some) (hCn : va_nd isC = true) : PreS s H (PreC κ as (wc ++ pl) H.size) as :=
  ⟨PreC.blind, fun U hU hWm => ⟨rfl, by rw [hU], by rw [hU]; exact hW.1.part isC hC, hK.warm hWm, (hW.2.1.part isC hCn hC).weaken (fun _ _ _ _ => trivial)⟩⟩
theorem pre_VP {H0 : Heap} (hK : Kx κ s) (hW : St κ A H0 H locs (X ++ pl)) (isC : List Nat) (hC : isC.map (fun i => X[i]?) = wc.map some) (hCn : va_nd isC = true) (ci q0 : Nat) {q : vw_C} {fs : List Value} (hc : vwCl[ci]? = some q) (he : (X ++ pl)[q0]? = some (b, .inr (ci, fs))) : PreV s H q.1 b (PreC κ (.ref b :: As) (wc ++ pl) H.size) As :=
  ⟨PreC.blind, va_recv hK.1 hW.1 hc he, fun U hU hWm => ⟨rfl, by rw [hU], by rw [hU]; exact hW.1.part isC hC, hK.warm hWm, (hW.2.1.part isC hCn hC).weaken (fun _ _ _ _ => trivial)⟩⟩
end PreP
