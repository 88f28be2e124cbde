/-! ===== rows of rows: the pots by hand, each a row of five ===== -/
/-- which row of the state a place in a pot's row is: part, pitch, tea, crack, 1 for a cosy -/
def fx (k : Nat) : Nat := match k with
  | 0 => 4
  | 1 => 0
  | 2 => 1
  | 3 => 2
  | _ => 3
theorem fx_inj {j k : Nat} (hj : j < 5) (hk : k < 5) (h : fx j = fx k) : j = k := by
  have : ∀ j, j < 5 → ∀ k, k < 5 → fx j = fx k → j = k := by decide
  exact this j hj k hk h
theorem fx_5 (k : Nat) : fx k < 5 := by
  unfold fx
  split <;> decide
def rwv (σ : Sg) (i : Nat) : Nat → Int := fun k => if k < 5 then σ (fx k) i else 0
theorem rwv_at (σ : Sg) (i : Nat) {k : Nat} (h : k < 5) : rwv σ i k = σ (fx k) i := if_pos h
theorem rwv_up (σ : Sg) (i : Nat) {k : Nat} (v : Int) (hk : k < 5) : rwv (up σ (fx k) i v) i = upi (rwv σ i) k v := by
  funext j
  by_cases hj : j < 5
  · rw [rwv_at _ _ hj]
    by_cases e : j = k
    · subst e; rw [up_s, upi_s, upi_s]
    · rw [upi_n _ _ e, rwv_at _ _ hj, up_n _ _ _ (fun h => e (fx_inj hj hk h))]
  · rw [upi_n _ _ (show j ≠ k by omega)]
    unfold rwv
    rw [if_neg hj, if_neg hj]
theorem rwv_ne (σ : Sg) {f i j : Nat} (v : Int) (h : j ≠ i) : rwv (up σ f i v) j = rwv σ j := by
  funext k
  unfold rwv
  by_cases hk : k < 5
  · rw [if_pos hk, if_pos hk]
    by_cases e : fx k = f
    · subst e; rw [up_s, upi_n _ _ h]
    · rw [up_n _ _ _ e]
  · rw [if_neg hk, if_neg hk]
theorem rwv_5 (σ : Sg) (i j : Nat) (v : Int) : rwv (up σ 5 j v) i = rwv σ i := by
  funext k
  unfold rwv
  by_cases hk : k < 5
  · rw [if_pos hk, if_pos hk, up_n _ _ _ (by have := fx_5 k; omega)]
  · rw [if_neg hk, if_neg hk]
def rpf (κ : Kp) (L : List Nat) (σ : Sg) : Nat → va_E := fun a => .inl (kI κ, 5, .inl fun k => J (rwv σ (L.idxOf a) k))
abbrev RP (κ : Kp) (L : List Nat) (σ : Sg) : va_W := va_pl L (rpf κ L σ)
def la (L : List Nat) (i : Nat) : Nat := L.getD i 0
theorem la_get {L : List Nat} {i : Nat} (h : i < L.length) : L[i]? = some (la L i) := by
  unfold la
  rw [List.getD_eq_getElem?_getD, List.getElem?_eq_getElem h]
  rfl
theorem la_mem {L : List Nat} {i : Nat} (h : i < L.length) : la L i ∈ L := List.mem_of_getElem? (la_get h)
theorem la_el {L : List Nat} {i : Nat} (h : i < L.length) : la L i = L[i] := by
  have h1 := la_get h
  rw [List.getElem?_eq_getElem h] at h1
  exact (Option.some.inj h1).symm
theorem pl_nodup {A : Nat → Prop} {X : va_W} {L : List Nat} {f : Nat → va_E} (hD : va_D A (X ++ va_pl L f)) : L.Nodup := by
  rw [List.nodup_iff_pairwise_ne, List.pairwise_iff_getElem]
  intro i j hi hj hij e
  have hg : ∀ k (hk : k < L.length), (X ++ va_pl L f)[X.length + k]? = some (L[k], f L[k]) := fun k hk => by
    rw [List.getElem?_append_right (by omega), Nat.add_sub_cancel_left]
    unfold va_pl
    rw [List.getElem?_map, List.getElem?_eq_getElem hk]
    rfl
  have := hD.1 _ _ _ _ (hg i hi) (hg j hj) e
  omega
theorem la_idx {L : List Nat} (hn : L.Nodup) {i : Nat} (h : i < L.length) : L.idxOf (la L i) = i := by
  rw [la_el h]
  exact hn.idxOf_getElem i h
theorem idx_la {L : List Nat} {a : Nat} (h : a ∈ L) : la L (L.idxOf a) = a := by
  rw [la_el (List.idxOf_lt_length_of_mem h)]
  exact List.getElem_idxOf _
theorem RP_eq {κ : Kp} {L : List Nat} {σ τ : Sg} (h : ∀ i, i < L.length → rwv σ i = rwv τ i) : RP κ L σ = RP κ L τ := by
  unfold RP va_pl
  refine List.map_congr_left (fun a ha => ?_)
  unfold rpf
  rw [h _ (List.idxOf_lt_length_of_mem ha)]
theorem St.eqP {κ : Kp} {A : Nat → Prop} {H0 H : Heap} {locs : List Loc} {ws ws' : va_W} (h : ws' = ws) (hW : St κ A H0 H locs ws) : St κ A H0 H locs ws' := by rw [h]; exact hW
theorem St.rows {κ : Kp} {A : Nat → Prop} {H0 H : Heap} {locs : List Loc} {X : va_W} {L : List Nat} {σ τ : Sg} (hW : St κ A H0 H locs (X ++ RP κ L σ)) (h : ∀ i, i < L.length → rwv τ i = rwv σ i) : St κ A H0 H locs (X ++ RP κ L τ) := hW.eqP (by rw [RP_eq h])
theorem St.swap {κ : Kp} {A : Nat → Prop} {H0 H : Heap} {locs : List Loc} {a b c : va_W} (hW : St κ A H0 H locs ((a ++ b) ++ c)) : St κ A H0 H locs ((a ++ c) ++ b) := ⟨hW.1.swap, hW.2.1.swap, hW.2.2⟩
theorem St.part {κ : Kp} {A : Nat → Prop} {H0 H : Heap} {locs : List Loc} {X X' pl : va_W} (hW : St κ A H0 H locs (X ++ pl)) (is : List Nat) (hn : va_nd is = true) (hs : is.map (fun i => X[i]?) = X'.map some) : St κ A H0 H locs (X' ++ pl) := ⟨hW.1.part is hs, hW.2.1.part is hn hs, hW.2.2⟩
/-- a new row becomes the last pot's -/
theorem RP_push {κ : Kp} {A : Nat → Prop} {H0 H : Heap} {locs : List Loc} {X : va_W} {L : List Nat} {σ τ : Sg} {q : Nat} {g : Nat → Int} (hW : St κ A H0 H locs ((X ++ [(q, .inl (kI κ, 5, .inl fun k => J (g k)))]) ++ RP κ L σ)) (hg : ∀ k, k < 5 → g k = τ (fx k) L.length) (ho : ∀ i, i < L.length → rwv τ i = rwv σ i) : St κ A H0 H locs (X ++ RP κ (L ++ [q]) τ) := by
  have h1 := hW.swap
  have hq : q ∉ L := va_pl_fresh2 h1.2.1
  have hx : (X ++ va_pl L (rpf κ L σ)) ++ [(q, .inl (kI κ, 5, .inl fun k => J (g k)))] = X ++ va_pl (L ++ [q]) (va_up (rpf κ L σ) q (.inl (kI κ, 5, .inl fun k => J (g k)))) := by
    rw [List.append_assoc, va_pl_push hq]
  have h2 : St κ A H0 H locs (X ++ va_pl (L ++ [q]) (va_up (rpf κ L σ) q (.inl (kI κ, 5, .inl fun k => J (g k))))) := by rw [← hx]; exact h1
  have hn := pl_nodup h2.2.1
  have hlen : (L ++ [q]).length = L.length + 1 := by rw [List.length_append]; rfl
  have hqi : (L ++ [q]).idxOf q = L.length := by
    rw [List.idxOf_append, if_neg hq, List.idxOf_cons_self, Nat.zero_add]
  -- the row's places beyond the fifth
  have hp : (X ++ va_pl (L ++ [q]) (va_up (rpf κ L σ) q (.inl (kI κ, 5, .inl fun k => J (g k)))))[X.length + L.length]? = some (q, .inl (kI κ, 5, .inl fun k => J (g k))) := by
    rw [List.getElem?_append_right (by omega), Nat.add_sub_cancel_left]
    unfold va_pl
    rw [List.getElem?_map, List.getElem?_append_right (Nat.le_refl _), Nat.sub_self]
    show some (q, va_up (rpf κ L σ) q _ q) = _
    rw [va_up_self]
  refine St.arr h2 (X.length + L.length) (f := fun k => J (g k)) (g := fun k => J (rwv τ L.length k)) hp (fun j hj => by rw [hg j hj, rwv_at _ _ hj]) ?_
  rw [va_pl_set h2.2.1 (List.mem_append_right L (List.mem_singleton.mpr rfl)) (by rw [hp, va_up_self])]
  congr 1
  unfold va_pl
  refine List.map_congr_left (fun a ha => ?_)
  by_cases e : a = q
  · subst e
    rw [va_up_self]
    unfold rpf
    rw [hqi]
  · have haL : a ∈ L := (List.mem_append.mp ha).elim id (fun h => absurd (List.mem_singleton.mp h) e)
    rw [va_up_ne _ _ e, va_up_ne _ _ e]
    unfold rpf
    rw [List.idxOf_append, if_pos haL, ho _ (List.idxOf_lt_length_of_mem haL)]
