/-! ===== the law: what its looks ask ===== -/
def snb (σ : Sg) : Nat → Int := fun k => bi (sn σ k)
theorem snb_01 (σ : Sg) (k : Nat) : snb σ k = 0 ∨ snb σ k = 1 := by
  unfold snb
  cases sn σ k
  · exact Or.inl rfl
  · exact Or.inr rfl
/-- a row while it is filled -/
def rwf (f : Nat → Int) (i : Nat) : Nat → Int := fun k => if k < i then f k else 0
theorem rwf_0 (f : Nat → Int) : rwf f 0 = fun _ => 0 := by
  funext k
  exact if_neg (Nat.not_lt_zero k)
theorem rwf_up (f : Nat → Int) (i : Nat) : upi (rwf f i) i (f i) = rwf f (i + 1) := by
  funext k
  unfold rwf upi
  by_cases e : k = i
  · subst e; rw [if_pos rfl, if_pos (Nat.lt_succ_self k)]
  · rw [if_neg e]
    by_cases h : k < i
    · show (if k < i then f k else 0) = _
      rw [if_pos h, if_pos (by omega)]
    · show (if k < i then f k else 0) = _
      rw [if_neg h, if_neg (by omega)]
theorem rwf_at (f : Nat → Int) {i k : Nat} (h : k < i) : rwf f i k = f k := if_pos h
theorem rwf_end {κ : Kp} {A : Nat → Prop} {H0 H : Heap} {locs : List Loc} {X : va_W} {q1 q2 q3 n : Nat} {f1 f2 f3 : Nat → Int} {pl : va_W} (hW : St κ A H0 H locs ((X ++ (WA κ q1 n (rwf f1 n) ++ (WA κ q2 n (rwf f2 n) ++ WZ κ q3 n (rwf f3 n)))) ++ pl)) : St κ A H0 H locs ((X ++ (WA κ q1 n f1 ++ (WA κ q2 n f2 ++ WZ κ q3 n f3))) ++ pl) := by
  have g9 : ∀ (k : Nat) (e : Nat × va_E) (Y : va_W), Y[k]? = some e → ((X ++ Y) ++ pl)[X.length + k]? = some e := fun k e Y h => by
    rw [List.getElem?_append_left (by rw [List.length_append]; have := (List.getElem?_eq_some_iff.mp h).1; omega), List.getElem?_append_right (by omega), Nat.add_sub_cancel_left]
    exact h
  have st : ∀ (k : Nat) (e : Nat × va_E) (Y : va_W), k < Y.length → ((X ++ Y) ++ pl).set (X.length + k) e = (X ++ Y.set k e) ++ pl := fun k e Y h => by
    rw [List.set_append_left _ _ (by rw [List.length_append]; omega), List.set_append_right _ _ (by omega), Nat.add_sub_cancel_left]
  have hJ : ∀ (f : Nat → Int) (j : Nat), j < n → J (rwf f n j) = J (f j) := fun f j hj => by rw [rwf_at _ hj]
  have h1 := St.arr hW (X.length + 0) (a := q1) (cA := kI κ) (n := n) (f := fun k => J (rwf f1 n k)) (g := fun k => J (f1 k)) (g9 0 _ _ rfl) (hJ f1) (st 0 _ _ (Nat.le_of_ble_eq_true rfl))
  have h2 := St.arr h1 (X.length + 1) (a := q2) (cA := kI κ) (n := n) (f := fun k => J (rwf f2 n k)) (g := fun k => J (f2 k)) (g9 1 _ _ rfl) (hJ f2) (st 1 _ _ (Nat.le_of_ble_eq_true rfl))
  exact St.arr h2 (X.length + 2) (a := q3) (cA := kZ κ) (n := n) (f := fun k => J (rwf f3 n k)) (g := fun k => J (f3 k)) (g9 2 _ _ rfl) (hJ f3) (st 2 _ _ (Nat.le_of_ble_eq_true rfl))
theorem psm_s (σ : Sg) (i : Nat) : psm σ (i + 1) = psm σ i + fb_ct (snp σ (i : Int)) (nn σ) := by
  unfold psm
  exact fb_sm_succ _ _
theorem tune_back {σ : Sg} {z : Nat} {v w : Int} (h : w = σ 0 z) : up (up σ 0 z v) 0 z w = σ := by
  rw [up_up]
  exact up_same h
theorem ic_bi (σ : Sg) : bi (ic σ) = 1 ↔ (3 ≤ (ns σ : Int) ∧ ccl σ = 0) := by
  rw [bi_eq1]
  unfold ic
  exact decide_eq_true_iff
theorem hst_neg (σ : Sg) : hst σ < 0 ↔ cc2 σ = 0 := by
  rcases hst_in σ with ⟨h1, h2⟩ | ⟨b, hb, h1, h2, h3, -⟩
  · rw [h1, h2]; decide
  · rw [h1]; omega
theorem hst_rng {σ : Sg} (h : nn σ ≤ 10) : -1 ≤ hst σ ∧ hst σ ≤ 10 := by
  rcases hst_in σ with ⟨h1, h2⟩ | ⟨b, hb, h1, -⟩
  · rw [h1]; decide
  · rw [h1]; omega
theorem fl_rng {σ : Sg} (hI : Inv σ) : -1 ≤ fl σ ∧ fl σ ≤ 10 := by
  have h := hI.n10
  rcases fl_in hI with ⟨h1, h2⟩ | ⟨b, hb, -, h1, -⟩
  · rw [h1]; decide
  · rw [h1]; omega
theorem fm_rng {σ : Sg} (h : nn σ ≤ 10) : -1 ≤ fm σ ∧ fm σ ≤ 10 := by
  rcases fm_in σ with ⟨h1, h2⟩ | ⟨b, hb, -, h1, -⟩
  · rw [h1]; decide
  · rw [h1]; omega
theorem uc_60 (σ : Sg) : uc σ = -1 ∨ (1 ≤ uc σ ∧ uc σ ≤ 60) := by
  rcases uc_in σ with ⟨h1, -⟩ | ⟨i, hi, h1, -⟩
  · exact Or.inl h1
  · exact Or.inr (by rw [h1]; omega)
theorem uc_bi (σ : Sg) {k : Nat} (hk : k < 3) : uc σ < 0 ∨ ((k : Int) + 1 ≤ uc σ) → (bi (cadb (pbn σ k)) = 1 ↔ (k : Int) + 1 = uc σ) := fun h => by
  rw [bi_eq1]
  exact uc_k σ hk h
theorem iab_rng {a b : Int} (ha : 0 ≤ a ∧ a ≤ 35) (hb : 0 ≤ b ∧ b ≤ 35) : 0 ≤ iab (a - b) ∧ iab (a - b) ≤ 35 := by
  unfold iab
  split <;> omega
theorem iab_or (z : Int) : (0 ≤ z ∧ iab z = z) ∨ (z < 0 ∧ iab z = -z) := by
  unfold iab
  by_cases h : 0 ≤ z
  · rw [if_pos h]; exact Or.inl ⟨h, rfl⟩
  · rw [if_neg h]; exact Or.inr ⟨by omega, by omega⟩
abbrev rm_law : Room := { frames := 12, cells := 600130, slots := 7301080, locals := 430 }
theorem goodIn_cs {big l : List Cond} {c : Cond} (h1 : GoodIn big [c]) (h2 : GoodIn big l) : GoodIn big (c :: l) := fun w hw => (List.mem_cons.mp hw).elim (fun e => h1 w (by rw [e]; exact List.mem_singleton.mpr rfl)) (fun h => h2 w h)
