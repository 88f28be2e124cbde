/-! ===== the harshest and the lowest, looked for from the last pot down ===== -/
theorem fmr_1 (σ : Sg) : ∀ i, (fmr σ i = (-1, -1) ∧ ∀ j, j < i → fv σ j ≤ -1) ∨ ∃ b : Nat, b < i ∧ fmr σ i = ((b : Int), fv σ b) ∧ (∀ j, j < i → fv σ j ≤ fv σ b) ∧ ∀ j, j < b → fv σ j < fv σ b
  | 0 => Or.inl ⟨rfl, fun j h => absurd h (Nat.not_lt_zero j)⟩
  | i + 1 => by
    rcases fmr_1 σ i with ⟨q, h⟩ | ⟨b, hb, q, h, h2⟩
    · by_cases ht : -1 < fv σ i
      · refine Or.inr ⟨i, Nat.lt_succ_self i, fmr_y q rfl ht, fun j hj => ?_, fun j hj => by have := h j hj; omega⟩
        by_cases e : j = i
        · rw [e]; exact Int.le_refl _
        · have := h j (by omega); omega
      · refine Or.inl ⟨fmr_n q rfl ht, fun j hj => ?_⟩
        by_cases e : j = i
        · rw [e]; omega
        · exact h j (by omega)
    · by_cases ht : fv σ b < fv σ i
      · refine Or.inr ⟨i, Nat.lt_succ_self i, fmr_y q rfl ht, fun j hj => ?_, fun j hj => by have := h j hj; omega⟩
        by_cases e : j = i
        · rw [e]; exact Int.le_refl _
        · have := h j (by omega); omega
      · refine Or.inr ⟨b, by omega, fmr_n q rfl ht, fun j hj => ?_, h2⟩
        by_cases e : j = i
        · rw [e]; omega
        · exact h j (by omega)
theorem cof_0 (σ : Sg) (p : Nat) : 0 ≤ cof σ p := by rw [cof_cs]; omega
theorem hst_no {σ : Sg} (h : ∀ j, j < nn σ → cof σ j ≤ 0) : hst σ = -1 := by
  unfold hst
  refine if_neg (fun hc => ?_)
  have h1 := ccl_fm.mp hc
  rcases fmr_1 σ (nn σ) with ⟨q, -⟩ | ⟨b, hb, q, -, -⟩
  · rw [q] at h1; exact absurd h1 (by decide)
  · rw [q] at h1
    have h2 := (cof_fv σ b).mpr h1
    have h3 := h b hb
    omega
theorem hst_at {σ : Sg} {b : Nat} (hb : b < nn σ) (h0 : 0 < cof σ b) (h : ∀ j, j < nn σ → cof σ j ≤ cof σ b) (h2 : ∀ j, j < b → cof σ j < cof σ b) : hst σ = (b : Int) := by
  have hf := (cof_fv σ b).mp h0
  have e1 := cof_fv2 hf
  have h3 := fmr_max σ (nn σ) b hb
  have hc : 0 < ccl σ := ccl_fm.mpr (by omega)
  unfold hst
  rw [if_pos hc]
  unfold fm
  rcases fmr_1 σ (nn σ) with ⟨q, h4⟩ | ⟨d, hd, q, h4, h5⟩
  · have := h4 b hb; omega
  · rw [q]
    show (d : Int) = (b : Int)
    have h6 := h4 b hb
    have hfd : 0 < fv σ d := by omega
    have e2 := cof_fv2 hfd
    have h7 := h d hd
    rcases Nat.lt_trichotomy d b with g | g | g
    · have := h2 d g; omega
    · omega
    · have := h5 b g; omega
/-- the harshest of the pots lo .. n - 1 -/
def hsI (σ : Sg) (n lo : Nat) (x : Int) : Prop := (x = -1 ∧ ∀ j, lo ≤ j → j < n → cof σ j ≤ 0) ∨ ∃ b : Nat, (lo ≤ b ∧ b < n) ∧ x = (b : Int) ∧ 0 < cof σ b ∧ (∀ j, lo ≤ j → j < n → cof σ j ≤ cof σ b) ∧ ∀ j, lo ≤ j → j < b → cof σ j < cof σ b
theorem hsI_0 (σ : Sg) (n : Nat) : hsI σ n n (-1) := Or.inl ⟨rfl, fun j h1 h2 => by omega⟩
theorem hsI_no {σ : Sg} {n p : Nat} {x : Int} (h : hsI σ n (p + 1) x) (hc : cof σ p ≤ 0) : hsI σ n p x := by
  have key : ∀ j, p ≤ j → j = p ∨ p + 1 ≤ j := fun j hj => by omega
  rcases h with ⟨h1, h2⟩ | ⟨b, hb, h1, h2, h3, h4⟩
  · exact Or.inl ⟨h1, fun j hj hn => (key j hj).elim (fun e => by rw [e]; exact hc) (fun g => h2 j g hn)⟩
  · exact Or.inr ⟨b, ⟨by omega, hb.2⟩, h1, h2, fun j hj hn => (key j hj).elim (fun e => by rw [e]; omega) (fun g => h3 j g hn), fun j hj hn => (key j hj).elim (fun e => by rw [e]; omega) (fun g => h4 j g hn)⟩
theorem hsI_y {σ : Sg} {n p : Nat} {x : Int} (h : hsI σ n (p + 1) x) (hp : p < n) (hc : 0 < cof σ p) (hx : x < 0 ∨ ∃ b : Nat, x = (b : Int) ∧ cof σ b ≤ cof σ p) : hsI σ n p (p : Int) := by
  refine Or.inr ⟨p, ⟨Nat.le_refl p, hp⟩, rfl, hc, fun j hj hn => ?_, fun j h1 h2 => by omega⟩
  by_cases e : j = p
  · rw [e]; exact Int.le_refl _
  · rcases h with ⟨h1, h2⟩ | ⟨b, hb, h1, h2, h3, h4⟩
    · have := h2 j (by omega) hn; omega
    · have h5 := h3 j (by omega) hn
      rcases hx with hx | ⟨d, hx, h6⟩
      · omega
      · have e2 : d = b := by omega
        subst e2; omega
theorem hsI_n {σ : Sg} {n p b : Nat} (h : hsI σ n (p + 1) (b : Int)) (hc : cof σ p < cof σ b) : hsI σ n p (b : Int) := by
  have key : ∀ j, p ≤ j → j = p ∨ p + 1 ≤ j := fun j hj => by omega
  rcases h with ⟨h1, h2⟩ | ⟨d, hd, h1, h2, h3, h4⟩
  · omega
  · have e : b = d := by omega
    subst e
    exact Or.inr ⟨b, ⟨by omega, hd.2⟩, rfl, h2, fun j hj hn => (key j hj).elim (fun e => by rw [e]; omega) (fun g => h3 j g hn), fun j hj hn => (key j hj).elim (fun e => by rw [e]; exact hc) (fun g => h4 j g hn)⟩
theorem hsI_b {σ : Sg} {n lo : Nat} {x : Int} (h : hsI σ n lo x) : x = -1 ∨ ∃ b : Nat, b < n ∧ x = (b : Int) := by
  rcases h with ⟨h1, -⟩ | ⟨b, hb, h1, -⟩
  · exact Or.inl h1
  · exact Or.inr ⟨b, hb.2, h1⟩
theorem hsI_end {σ : Sg} {x : Int} (h : hsI σ (nn σ) 0 x) : hst σ = x := by
  rcases h with ⟨h1, h2⟩ | ⟨b, hb, h1, h2, h3, h4⟩
  · rw [h1]; exact hst_no (fun j hj => h2 j (Nat.zero_le j) hj)
  · rw [h1]; exact hst_at hb.2 h2 (fun j hj => h3 j (Nat.zero_le j) hj) (fun j hj => h4 j (Nat.zero_le j) hj)
theorem flr_1 {σ : Sg} (hI : Inv σ) : ∀ i, i ≤ 10 → (flr σ i = (-1, 36) ∧ ∀ j, j < i → sn σ j = false) ∨ ∃ b : Nat, b < i ∧ sn σ b = true ∧ flr σ i = ((b : Int), σ 0 b) ∧ (∀ j, j < i → sn σ j = true → σ 0 b ≤ σ 0 j) ∧ ∀ j, j < b → sn σ j = true → σ 0 b < σ 0 j
  | 0, _ => Or.inl ⟨rfl, fun j h => absurd h (Nat.not_lt_zero j)⟩
  | i + 1, hi => by
    have hb0 := hI.at i (by omega)
    rcases flr_1 hI i (by omega) with ⟨q, h⟩ | ⟨b, hb, hs, q, h, h2⟩
    · by_cases hs : sn σ i = true
      · refine Or.inr ⟨i, Nat.lt_succ_self i, hs, flr_y q hs (by omega), fun j hj hsj => ?_, fun j hj hsj => by rw [h j hj] at hsj; cases hsj⟩
        by_cases e : j = i
        · rw [e]; exact Int.le_refl _
        · rw [h j (by omega)] at hsj; cases hsj
      · refine Or.inl ⟨flr_n q (fun hh => hs hh.1), fun j hj => ?_⟩
        by_cases e : j = i
        · subst e; exact Bool.not_eq_true _ |>.mp hs
        · exact h j (by omega)
    · by_cases ht : sn σ i = true ∧ σ 0 i < σ 0 b
      · refine Or.inr ⟨i, Nat.lt_succ_self i, ht.1, flr_y q ht.1 ht.2, fun j hj hsj => ?_, fun j hj hsj => by have := h j hj hsj; omega⟩
        by_cases e : j = i
        · rw [e]; exact Int.le_refl _
        · have := h j (by omega) hsj; omega
      · refine Or.inr ⟨b, by omega, hs, flr_n q ht, fun j hj hsj => ?_, h2⟩
        by_cases e : j = i
        · subst e
          have : ¬ σ 0 j < σ 0 b := fun hh => ht ⟨hsj, hh⟩
          omega
        · exact h j (by omega) hsj
/-- the lowest of the pots lo .. n - 1 -/
def lwI (σ : Sg) (n lo : Nat) (x : Int) : Prop := (x = -1 ∧ ∀ j, lo ≤ j → j < n → sn σ j = false) ∨ ∃ b : Nat, (lo ≤ b ∧ b < n) ∧ x = (b : Int) ∧ sn σ b = true ∧ (∀ j, lo ≤ j → j < n → sn σ j = true → σ 0 b ≤ σ 0 j) ∧ ∀ j, lo ≤ j → j < b → sn σ j = true → σ 0 b < σ 0 j
theorem lwI_0 (σ : Sg) (n : Nat) : lwI σ n n (-1) := Or.inl ⟨rfl, fun j h1 h2 => by omega⟩
theorem lwI_no {σ : Sg} {n p : Nat} {x : Int} (h : lwI σ n (p + 1) x) (hs : sn σ p = false) : lwI σ n p x := by
  have key : ∀ j, p ≤ j → j = p ∨ p + 1 ≤ j := fun j hj => by omega
  rcases h with ⟨h1, h2⟩ | ⟨b, hb, h1, h2, h3, h4⟩
  · exact Or.inl ⟨h1, fun j hj hn => (key j hj).elim (fun e => by rw [e]; exact hs) (fun g => h2 j g hn)⟩
  · exact Or.inr ⟨b, ⟨by omega, hb.2⟩, h1, h2, fun j hj hn hsj => (key j hj).elim (fun e => by rw [e, hs] at hsj; cases hsj) (fun g => h3 j g hn hsj), fun j hj hn hsj => (key j hj).elim (fun e => by rw [e, hs] at hsj; cases hsj) (fun g => h4 j g hn hsj)⟩
theorem lwI_y {σ : Sg} {n p : Nat} {x : Int} (h : lwI σ n (p + 1) x) (hp : p < n) (hs : sn σ p = true) (hx : x < 0 ∨ ∃ b : Nat, x = (b : Int) ∧ σ 0 p ≤ σ 0 b) : lwI σ n p (p : Int) := by
  refine Or.inr ⟨p, ⟨Nat.le_refl p, hp⟩, rfl, hs, fun j hj hn hsj => ?_, fun j h1 h2 => by omega⟩
  by_cases e : j = p
  · rw [e]; exact Int.le_refl _
  · rcases h with ⟨h1, h2⟩ | ⟨b, hb, h1, h2, h3, h4⟩
    · rw [h2 j (by omega) hn] at hsj; cases hsj
    · have h5 := h3 j (by omega) hn hsj
      rcases hx with hx | ⟨d, hx, h6⟩
      · omega
      · have e2 : d = b := by omega
        subst e2; omega
theorem lwI_n {σ : Sg} {n p b : Nat} (h : lwI σ n (p + 1) (b : Int)) (hc : σ 0 b < σ 0 p) : lwI σ n p (b : Int) := by
  have key : ∀ j, p ≤ j → j = p ∨ p + 1 ≤ j := fun j hj => by omega
  rcases h with ⟨h1, h2⟩ | ⟨d, hd, h1, h2, h3, h4⟩
  · omega
  · have e : b = d := by omega
    subst e
    exact Or.inr ⟨b, ⟨by omega, hd.2⟩, rfl, h2, fun j hj hn hsj => (key j hj).elim (fun e => by rw [e]; omega) (fun g => h3 j g hn hsj), fun j hj hn hsj => (key j hj).elim (fun e => by rw [e]; exact hc) (fun g => h4 j g hn hsj)⟩
theorem lwI_b {σ : Sg} {n lo : Nat} {x : Int} (h : lwI σ n lo x) : x = -1 ∨ ∃ b : Nat, b < n ∧ x = (b : Int) := by
  rcases h with ⟨h1, -⟩ | ⟨b, hb, h1, -⟩
  · exact Or.inl h1
  · exact Or.inr ⟨b, hb.2, h1⟩
theorem lwI_end {σ : Sg} (hI : Inv σ) {x : Int} (h : lwI σ (nn σ) 0 x) : fl σ = x := by
  unfold fl
  rcases flr_1 hI (nn σ) hI.n10 with ⟨q, h5⟩ | ⟨d, hd, hs, q, h5, h6⟩
  · rw [q]
    rcases h with ⟨h1, h2⟩ | ⟨b, hb, h1, h2, h3, h4⟩
    · exact h1.symm
    · rw [h5 b hb.2] at h2; cases h2
  · rw [q]
    show (d : Int) = x
    rcases h with ⟨h1, h2⟩ | ⟨b, hb, h1, h2, h3, h4⟩
    · rw [h2 d (Nat.zero_le d) hd] at hs; cases hs
    · have g1 := h3 d (Nat.zero_le d) hd hs
      have g2 := h5 b hb.2 h2
      rcases Nat.lt_trichotomy d b with g | g | g
      · have := h4 d (Nat.zero_le d) g hs; omega
      · omega
      · have := h6 b g h2; omega
/-! the sums from the last pot down -/
theorem psum_y {σ : Sg} {p : Nat} (h : sn σ p = true) : psum σ (p + 1) = psum σ p + σ 0 p := by
  show psum σ p + (if sn σ p = true then σ 0 p else 0) = _
  rw [if_pos h]
theorem psum_n {σ : Sg} {p : Nat} (h : sn σ p = false) : psum σ (p + 1) = psum σ p := by
  show psum σ p + (if sn σ p = true then σ 0 p else 0) = _
  rw [if_neg (by rw [h]; decide)]
  omega
def ptI (σ : Sg) (n lo : Nat) (g : Nat → Int) : Prop := ∀ z : Nat, z < 4 → g z = (fb_ct (snp σ (z : Int)) n : Int) - (fb_ct (snp σ (z : Int)) lo : Int)
theorem ptI_0 (σ : Sg) (n : Nat) : ptI σ n n (fun _ => 0) := fun z _ => by show (0 : Int) = _; omega
theorem ptI_n {σ : Sg} {n p : Nat} {g : Nat → Int} (h : ptI σ n (p + 1) g) (hs : sn σ p = false) : ptI σ n p g := fun z hz => by
  have h1 := h z hz
  rw [fb_ct_succ] at h1
  have h2 : snp σ (z : Int) p = false := by unfold snp; rw [hs, Bool.and_false]
  rw [h2] at h1
  simpa using h1
theorem ptI_y {σ : Sg} {n p : Nat} {g : Nat → Int} (h : ptI σ n (p + 1) g) (hs : sn σ p = true) (hb : 0 ≤ σ 4 p ∧ σ 4 p ≤ 3) : ptI σ n p (upi g (σ 4 p).toNat (g (σ 4 p).toNat + 1)) := fun z hz => by
  have h1 := h z hz
  rw [fb_ct_succ] at h1
  by_cases e : z = (σ 4 p).toNat
  · have h2 : snp σ (z : Int) p = true := by unfold snp; rw [hs, decide_eq_true (show σ 4 p = (z : Int) by omega)]; rfl
    rw [h2, if_pos rfl] at h1
    rw [← e, upi_s, h1]
    omega
  · have h2 : snp σ (z : Int) p = false := by unfold snp; rw [decide_eq_false (show ¬ σ 4 p = (z : Int) by omega)]; rfl
    rw [h2] at h1
    rw [upi_n _ _ e]
    simpa using h1
theorem ptI_end {σ : Sg} {n : Nat} {g : Nat → Int} (h : ptI σ n 0 g) {z : Nat} (hz : z < 4) : g z = (fb_ct (snp σ (z : Int)) n : Int) := by
  rw [h z hz]
  show _ - ((0 : Nat) : Int) = _
  omega
/-! the mean pitch against itself -/
theorem dd_cmp : ∀ a : Nat, a < 351 → ∀ b : Nat, b < 10 → Op.cmpValue (FP.dcmp (FP.ddiv (FP.i2d (nI a)) (FP.i2d (nI (b + 1)))) (FP.ddiv (FP.i2d (nI a)) (FP.i2d (nI (b + 1))))) .l = 0 := by decide +kernel
theorem dd_0 : Op.cmpValue (FP.dcmp FP.dconst0 FP.dconst0) .l = 0 := by decide +kernel
theorem mp_cmp {σ : Sg} (hI : Inv σ) : Op.cmpValue (FP.dcmp (mp σ) (mp σ)) .l = J 0 := by
  unfold mp
  by_cases h : ns σ = 0
  · rw [if_pos h]; exact dd_0
  · rw [if_neg h]
    have h1 := psum_rng hI (nn σ) hI.n10
    have h2 := ns_le σ
    have h3 := hI.n10
    have h4 := dd_cmp (psum σ (nn σ)).toNat (by omega) (ns σ - 1) (by omega)
    rw [← J_nat, ← J_nat, show (((psum σ (nn σ)).toNat : Nat) : Int) = psum σ (nn σ) by omega, show ((ns σ - 1 + 1 : Nat) : Int) = (ns σ : Int) by omega] at h4
    exact h4
/-! ===== states and rows that go together ===== -/
theorem nn_up (σ : Sg) {f : Nat} (i : Nat) (v : Int) (hf : f < 5) : nn (up σ f i v) = nn σ := by
  unfold nn
  rw [up_n _ _ _ (show 5 ≠ f by omega)]
theorem gd_up {σ : Sg} {L : List Nat} {f p : Nat} {v : Int} (h : Gd σ L) (hf : f < 5) (hp : p < nn σ) (hI : Inv (up σ f p v)) : Gd (up σ f p v) L := by
  refine ⟨hI, by rw [nn_up _ _ _ hf]; exact h.2.1, fun k hk => ?_⟩
  rw [nn_up _ _ _ hf] at hk
  have key : ∀ g, up σ f p v g k = σ g k := fun g => by
    by_cases e : g = f
    · subst e; rw [up_s, upi_n _ _ (show k ≠ p by omega)]
    · rw [up_n _ _ _ e]
  rw [key, key]
  exact h.2.2 k hk
theorem pb_ge (σ : Sg) {f k : Nat} (hf : f < 5) (hk : nn σ ≤ k) : pb σ f k = σ f k := by
  have h1 : pb σ f k = lp (pb0 σ) (nn σ) f k := by
    unfold pb
    rw [up_n _ _ _ (show f ≠ 5 by omega)]
  rw [h1, lp_ge _ hf _ hk]
  unfold pb0
  rw [up_n _ _ _ (show f ≠ 5 by omega), up_n _ _ _ (show f ≠ 5 by omega)]
theorem pbn_ge (σ : Sg) {f k : Nat} (hf : f < 5) (hk : nn σ ≤ k) : ∀ i, pbn σ i f k = σ f k
  | 0 => rfl
  | i + 1 => (pb_ge (pbn σ i) hf (by rw [pbn_nn]; exact hk)).trans (pbn_ge σ hf hk i)
theorem gd_pbn {σ : Sg} {L : List Nat} (h : Gd σ L) (i : Nat) : Gd (pbn σ i) L := by
  refine ⟨h.1.hpbn i, by rw [pbn_nn]; exact h.2.1, fun k hk => ?_⟩
  rw [pbn_nn] at hk
  rw [pbn_ge σ (by decide) hk, pbn_ge σ (by decide) hk]
  exact h.2.2 k hk
/-- the state with one more pot -/
abbrev adS (σ : Sg) (n : Nat) (x y z : Int) : Sg := up (up (up (up σ 4 n x) 0 n y) 1 n z) 5 3 (σ 5 3 + 1)
theorem adS_nn {σ : Sg} {n : Nat} {x y z : Int} (h : σ 5 3 = (n : Int)) : nn (adS σ n x y z) = n + 1 := by
  show (σ 5 3 + 1).toNat = n + 1
  omega
theorem gd_add {σ : Sg} {L : List Nat} {n q : Nat} {x y z : Int} (h : Gd σ L) (hn : σ 5 3 = (n : Int)) (h10 : n < 10) (hx : 0 ≤ x ∧ x ≤ 3) (hy : 0 ≤ y ∧ y ≤ 35) (hz : 0 ≤ z ∧ z ≤ 20) : Gd (adS σ n x y z) (L ++ [q]) := by
  have h1 := h.2.1
  have hnn : nn σ = n := by unfold nn; omega
  refine ⟨(((h.1.u4 hx).u0 hy).u1 hz).u53 (by omega), by rw [adS_nn hn, len_1, h1, hnn], fun k hk => ?_⟩
  rw [adS_nn hn] at hk
  exact h.2.2 k (by omega)
/-- the rows with one more pot -/
theorem adS_rows {σ : Sg} {n i : Nat} {x y z : Int} (h : i ≠ n) : rwv (adS σ n x y z) i = rwv σ i := by
  unfold adS
  rw [rwv_5, rwv_ne _ _ h, rwv_ne _ _ h, rwv_ne _ _ h]
theorem adS_own {σ : Sg} {n : Nat} {x y z : Int} (h : σ 2 n = 0 ∧ σ 3 n = 0) : ∀ k, k < 5 → upi (upi (upi (upi (upi (fun _ => 0) 0 x) 1 y) 2 z) 3 0) 4 0 k = adS σ n x y z (fx k) n := fun k hk => by
  have h2 : adS σ n x y z 2 n = 0 := h.1
  have h3 : adS σ n x y z 3 n = 0 := h.2
  have h4 : adS σ n x y z 4 n = x := upi_s _ _ _
  have h0 : adS σ n x y z 0 n = y := upi_s _ _ _
  have h1 : adS σ n x y z 1 n = z := upi_s _ _ _
  rcases (show k = 0 ∨ k = 1 ∨ k = 2 ∨ k = 3 ∨ k = 4 by omega) with e | e | e | e | e <;> subst e
  · exact h4.symm
  · exact h0.symm
  · exact h1.symm
  · exact h2.symm
  · exact h3.symm
/-! tea poured step by step -/
theorem up_cm (σ : Sg) (f : Nat) {p q : Nat} (h : p ≠ q) (v w : Int) : up (up σ f p v) f q w = up (up σ f q w) f p v := by
  funext g k
  by_cases e : g = f
  · subst e
    rw [up_s, up_s, up_s, up_s]
    unfold upi
    by_cases h1 : k = q
    · subst h1; rw [if_pos rfl, if_neg (fun e => h e.symm), if_pos rfl]
    · rw [if_neg h1, if_neg h1]
  · rw [up_n _ _ _ e, up_n _ _ _ e, up_n _ _ _ e, up_n _ _ _ e]
theorem pour_st (σ : Sg) {p t : Nat} (h : p ≠ t) (a b c d : Int) : up (up (up (up σ 1 p a) 1 t b) 1 p c) 1 t d = up (up σ 1 p c) 1 t d := by
  rw [up_cm (up σ 1 p a) 1 (fun e => h e.symm) b c, up_up, up_up]
theorem pour_0 (σ : Sg) (p t : Nat) : up (up σ 1 p (σ 1 p - ((0 : Nat) : Int))) 1 t (σ 1 t + ((0 : Nat) : Int)) = σ := by
  have e : up σ 1 p (σ 1 p - ((0 : Nat) : Int)) = σ := up_same (by omega)
  rw [e]
  exact up_same (by omega)
theorem gd_pour {σ : Sg} {L : List Nat} {p t : Nat} {i : Int} (h : Gd σ L) (hp : p < nn σ) (ht : t < nn σ) (h0 : 0 ≤ i) (h1 : i ≤ σ 1 p) (h2 : σ 1 t + i ≤ 20) : Gd (up (up σ 1 p (σ 1 p - i)) 1 t (σ 1 t + i)) L := by
  have h10 := h.1.n10
  have hb1 := h.1.at p (by omega)
  have hb2 := h.1.at t (by omega)
  have g1 := gd_up h (f := 1) (p := p) (v := σ 1 p - i) (by decide) hp (h.1.u1 (by omega))
  exact gd_up g1 (f := 1) (p := t) (v := σ 1 t + i) (by decide) (by rw [nn_up _ _ _ (by decide)]; exact ht) (g1.1.u1 (by omega))
