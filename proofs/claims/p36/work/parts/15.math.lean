/-! ===== silence comes ===== -/
theorem ps_ne (σ : Sg) (i : Nat) {f k : Nat} (hf : f < 5) (hk : k ≠ i) : ps σ i f k = σ f k := by
  have hu : ∀ (τ : Sg) (g : Nat) (v : Int), up τ g i v f k = τ f k := fun τ g v => by
    unfold up
    by_cases h : f = g
    · subst h; rw [if_pos rfl]; exact upi_n _ _ hk
    · rw [if_neg h]
  unfold ps
  by_cases h1 : sn σ i = true
  · rw [if_pos h1]
    unfold wear
    rw [hu, hu, hu]
  · rw [if_neg h1]
    by_cases h2 : σ 3 i = 1 ∧ σ 5 0 % 3 = 0
    · rw [if_pos h2, hu]
    · rw [if_neg h2]
theorem lp_keep (σ : Sg) {f p : Nat} (hf : f < 5) : ∀ i, p < i → lp σ i f p = lp σ (p + 1) f p
  | 0, h => absurd h (Nat.not_lt_zero p)
  | i + 1, h => by
    by_cases e : p = i
    · rw [e]
    · show ps (lp σ i) i f p = _
      rw [ps_ne _ i hf e]
      exact lp_keep σ hf i (by omega)
theorem lp_1 (σ : Sg) {i p : Nat} (hp : p < i) : lp σ i 1 p = if sn σ p = true then wte σ p else σ 1 p := by
  rw [lp_keep σ (by decide) i hp]
  show ps (lp σ p) p 1 p = _
  have h0 := lp_sni σ p
  have h1 : lp σ p 1 p = σ 1 p := lp_ge σ (by decide) p (Nat.le_refl p)
  have h2 : lp σ p 2 p = σ 2 p := lp_ge σ (by decide) p (Nat.le_refl p)
  unfold ps
  rw [h0]
  by_cases h : sn σ p = true
  · rw [if_pos h, if_pos h]
    show upi (lp σ p 1) p (wte (lp σ p) p) p = wte σ p
    rw [upi_s]
    unfold wte
    rw [h1, h2]
  · rw [if_neg h, if_neg h]
    by_cases h3 : lp σ p 3 p = 1 ∧ lp σ p 5 0 % 3 = 0
    · rw [if_pos h3]; exact h1
    · rw [if_neg h3]; exact h1
theorem pb_1 (σ : Sg) {p : Nat} (hp : p < nn σ) : pb σ 1 p = if sn σ p = true then wte σ p else σ 1 p := by
  show lp (pb0 σ) (nn σ) 1 p = _
  rw [lp_1 _ hp]
  rfl
theorem pb_3 (σ : Sg) : pb σ 3 = σ 3 := by
  show lp (pb0 σ) (nn σ) 3 = _
  rw [lp_3]
  rfl
theorem pbn_nn (σ : Sg) (i : Nat) : nn (pbn σ i) = nn σ := by unfold nn; rw [pbn_53]
theorem quiet {σ : Sg} (h : Inv σ) {p : Nat} (hp : p < nn σ) : ∀ i : Nat, sn (pbn σ i) p = true → pbn σ i 1 p ≤ 20 - (i : Int)
  | 0, _ => by
    have h1 := h.n10
    have h2 := h.at p (by omega)
    show σ 1 p ≤ 20 - 0
    omega
  | i + 1, hs => by
    have hs2 : sn (pb (pbn σ i)) p = true := hs
    have hI := h.hpbn i
    have h1 := h.n10
    have hb := hI.at p (by omega)
    have h3 : pb (pbn σ i) 1 p = if sn (pbn σ i) p = true then wte (pbn σ i) p else pbn σ i 1 p := pb_1 _ (by rw [pbn_nn]; exact hp)
    have h4 := of_decide_eq_true hs2
    rw [pb_3] at h4
    show pb (pbn σ i) 1 p ≤ _
    by_cases h5 : sn (pbn σ i) p = true
    · have h6 := quiet h hp i h5
      rw [h3, if_pos h5] at h4 ⊢
      unfold wte at h4 ⊢
      omega
    · rw [h3, if_neg h5] at h4
      exact absurd (decide_eq_true h4) h5
theorem ns_0 {σ : Sg} : ns σ = 0 ↔ ∀ p, p < nn σ → sn σ p = false := fb_ct_zero
theorem silent {σ : Sg} (h : Inv σ) {i : Nat} (hi : 20 ≤ i) : ns (pbn σ i) = 0 := by
  refine ns_0.mpr (fun p hp => ?_)
  rw [pbn_nn] at hp
  cases hs : sn (pbn σ i) p with
  | false => rfl
  | true =>
    have h1 := quiet h hp i hs
    have h2 := of_decide_eq_true hs
    omega
theorem stn_0 {σ : Sg} (h : nn σ ≤ 10) : stn σ = 0 ↔ ns σ = 0 := by
  constructor
  · intro e
    rw [← pcn_set h, e]
    decide
  · intro e
    have h1 := ns_0.mp e
    refine Nat.eq_of_testBit_eq (fun i => ?_)
    rw [stn_bit, Nat.zero_testBit]
    by_cases hi : i < nn σ
    · rw [h1 i hi, Bool.and_false]
    · rw [decide_eq_false hi, Bool.false_and]
/-! ===== sums over pairs ===== -/
theorem ct_sm (p : Nat → Bool) : ∀ n, fb_ct p n = fb_sm (fun k => if p k then 1 else 0) n
  | 0 => rfl
  | n + 1 => by rw [fb_ct_succ, fb_sm_succ, ct_sm p n]
/-- one row and column of a symmetric table changed -/
theorem sym_chg {n : Nat} (x y : Nat → Nat → Nat) {p : Nat} (hp : p < n) (hx : ∀ i j, x i j = x j i) (hy : ∀ i j, y i j = y j i) (hxp : x p p = 0) (hyp : y p p = 0) (h : ∀ i j, i ≠ p → j ≠ p → i < n → j < n → y i j = x i j) :
    fb_sm (fun i => fb_sm (y i) n) n + 2 * fb_sm (x p) n = fb_sm (fun i => fb_sm (x i) n) n + 2 * fb_sm (y p) n := by
  have h1 : ∀ i, i < n → i ≠ p → fb_sm (y i) n + x i p = fb_sm (x i) n + y i p := fun i hi hne => by
    have e := fb_sm_upd (x i) (y i p) hp
    rw [← e]
    congr 1
    refine fb_sm_cong (fun k hk => ?_)
    by_cases hkp : k = p
    · rw [if_pos hkp, hkp]
    · rw [if_neg hkp]; exact h i k hne hkp hi hk
  have h2 := fb_sm_upd (fun i => fb_sm (y i) n) (fb_sm (x p) n) hp
  have h3 : fb_sm (fun k => (if k = p then fb_sm (x p) n else fb_sm (y k) n) + x k p) n = fb_sm (fun k => fb_sm (x k) n + y k p) n := fb_sm_cong (fun k hk => by
    by_cases hkp : k = p
    · rw [if_pos hkp, hkp, hxp, hyp]
    · rw [if_neg hkp]; exact h1 k hk hkp)
  rw [fb_sm_add, fb_sm_add] at h3
  have h4 : fb_sm (fun k => x k p) n = fb_sm (x p) n := fb_sm_cong (fun k _ => hx k p)
  have h5 : fb_sm (fun k => y k p) n = fb_sm (y p) n := fb_sm_cong (fun k _ => hy k p)
  rw [h4, h5] at h3
  have h6 : fb_sm (fun k => if k = p then fb_sm (x p) n else (fun i => fb_sm (y i) n) k) n = fb_sm (fun k => if k = p then fb_sm (x p) n else fb_sm (y k) n) n := rfl
  rw [h6] at h2
  omega
/-- do two pots of a group clash -/
def xg (σ : Sg) (m p q : Nat) : Nat := if (m.testBit p && (m.testBit q && !ac (σ 0 p) (σ 0 q))) = true then 1 else 0
theorem xg_comm (σ : Sg) (m p q : Nat) : xg σ m p q = xg σ m q p := by
  unfold xg
  rw [ac_comm (σ 0 q), ← Bool.and_assoc, ← Bool.and_assoc, Bool.and_comm (m.testBit p)]
theorem xg_self (σ : Sg) (m p : Nat) : xg σ m p p = 0 := by
  unfold xg
  rw [ac_refl]
  simp
theorem asm_xg (σ : Sg) (m p : Nat) : asm σ m p = fb_sm (xg σ m p) (nn σ) := by
  unfold asm
  by_cases h : m.testBit p = true
  · rw [if_pos h]
    unfold ag
    rw [ct_sm]
    refine fb_sm_cong (fun k _ => ?_)
    unfold agp xg
    rw [h, Bool.true_and]
  · rw [if_neg h]
    symm
    have : ∀ n, fb_sm (xg σ m p) n = 0 := fun n => by
      induction n with
      | zero => rfl
      | succ n ih =>
        rw [fb_sm_succ, ih]
        unfold xg
        rw [if_neg (by rw [Bool.and_eq_true]; exact fun hh => h hh.1)]
    exact this _
theorem sm_asm (σ : Sg) (m : Nat) : fb_sm (asm σ m) (nn σ) = fb_sm (fun i => fb_sm (xg σ m i) (nn σ)) (nn σ) := fb_sm_cong (fun k _ => asm_xg σ m k)
theorem cc2_xg (σ : Sg) : cc2 σ = fb_sm (fun i => fb_sm (xg σ (stn σ) i) (nn σ)) (nn σ) := by
  unfold cc2
  rw [fb_sm_cong (fun k hk => ((asm_set σ hk).symm.trans (asm_xg σ (stn σ) k)))]
theorem ca_xg (σ : Sg) {p : Nat} (hp : p < nn σ) (hs : sn σ p = true) : ca σ p (σ 0 p) = fb_sm (xg σ (stn σ) p) (nn σ) := by
  rw [← asm_xg, asm_set σ hp]
  unfold cs
  rw [if_pos hs]
/-! ===== a pot tuned ===== -/
theorem stn_up0 (σ : Sg) (p : Nat) (v : Int) : stn (up σ 0 p v) = stn σ := rfl
theorem nn_up0 (σ : Sg) (p : Nat) (v : Int) : nn (up σ 0 p v) = nn σ := rfl
theorem ca_up0 (σ : Sg) (p : Nat) (v w : Int) : ca (up σ 0 p v) p w = ca σ p w := by
  unfold ca
  rw [nn_up0]
  refine fb_ct_cong (fun o _ => ?_)
  unfold clp
  by_cases h : o = p
  · rw [decide_eq_false (fun hh => hh h)]; rfl
  · show (decide (o ≠ p) && (sn σ o && !ac w (upi (σ 0) p v o))) = _
    rw [upi_n _ _ h]
theorem hm_tune {σ : Sg} (p : Nat) (hp : p < nn σ) (hs : sn σ p = true) (v : Int) : hm (up σ 0 p v) = hm σ + 2 * (ca σ p (σ 0 p) : Int) - 2 * (ca σ p v : Int) := by
  have h := sym_chg (xg σ (stn σ)) (xg (up σ 0 p v) (stn σ)) hp (xg_comm σ _) (xg_comm _ _) (xg_self σ _ p) (xg_self _ _ p) (fun i j hi hj _ _ => by
    unfold xg
    rw [show (up σ 0 p v) 0 i = σ 0 i from upi_n _ _ hi, show (up σ 0 p v) 0 j = σ 0 j from upi_n _ _ hj])
  have h1 := cc2_xg σ
  have h2 := cc2_xg (up σ 0 p v)
  rw [nn_up0, stn_up0] at h2
  have h3 := ca_xg σ hp hs
  have h4 := ca_xg (up σ 0 p v) (p := p) hp hs
  rw [nn_up0, stn_up0, ca_up0, show (up σ 0 p v) 0 p = v from upi_s _ _ _] at h4
  rw [← h1, ← h2, ← h3, ← h4] at h
  have h5 : ns (up σ 0 p v) = ns σ := rfl
  unfold hm ccl
  rw [h5]
  generalize (ns σ : Int) * ((ns σ : Int) - 1) / 2 = t
  omega
theorem hm_still {σ : Sg} (p : Nat) (hs : sn σ p = false) (v : Int) : hm (up σ 0 p v) = hm σ := by
  have h : cc2 (up σ 0 p v) = cc2 σ := by
    rw [cc2_xg, cc2_xg, nn_up0, stn_up0]
    refine fb_sm_cong (fun i _ => fb_sm_cong (fun j _ => ?_))
    have hb : (stn σ).testBit p = false := by rw [stn_bit, hs, Bool.and_false]
    unfold xg
    by_cases hi : i = p
    · subst hi; rw [hb]; rfl
    · by_cases hj : j = p
      · subst hj; rw [hb]; simp
      · rw [show (up σ 0 p v) 0 i = σ 0 i from upi_n _ _ hi, show (up σ 0 p v) 0 j = σ 0 j from upi_n _ _ hj]
  have h5 : ns (up σ 0 p v) = ns σ := rfl
  unfold hm ccl
  rw [h5, h]
/-- b is a better tuning than d, or the same -/
def Bst (c : Int → Int) (b d : Int) : Prop := c b < c d ∨ (c b = c d ∧ (iab b < iab d ∨ (iab b = iab d ∧ d ≤ b)))
theorem Bst.refl (c : Int → Int) (b : Int) : Bst c b b := Or.inr ⟨rfl, Or.inr ⟨rfl, Int.le_refl b⟩⟩
theorem Bst.trans {c : Int → Int} {b d e : Int} (h1 : Bst c b d) (h2 : Bst c d e) : Bst c b e := by
  unfold Bst at *
  omega
theorem Bst.anti {c : Int → Int} {b d : Int} (h1 : Bst c b d) (h2 : Bst c d b) : b = d := by
  unfold Bst at *
  omega
theorem ft_best {σ : Sg} (p : Nat) (h0 : 0 ≤ σ 0 p ∧ σ 0 p ≤ 35) : ∀ k : Nat, k ≤ 25 → ∃ x y : Int, ftr σ p k = (x, y) ∧ y = (ca σ p (σ 0 p + x) : Int) ∧ (0 ≤ σ 0 p + x ∧ σ 0 p + x ≤ 35) ∧ (x = 0 ∨ x < (k : Int) - 12) ∧ (-12 ≤ x ∧ x ≤ 12) ∧ Bst (fun b => (ca σ p (σ 0 p + b) : Int)) x 0 ∧ ∀ b : Int, -12 ≤ b → b < (k : Int) - 12 → 0 ≤ σ 0 p + b → σ 0 p + b ≤ 35 → Bst (fun b => (ca σ p (σ 0 p + b) : Int)) x b
  | 0, _ => ⟨0, (ca σ p (σ 0 p) : Int), rfl, by rw [Int.add_zero], by omega, Or.inl rfl, by omega, Bst.refl _ _, fun b h1 h2 => by omega⟩
  | k + 1, hk => by
    obtain ⟨x, y, q, hy, hv, hx, hr, hz, ha⟩ := ft_best p h0 k (by omega)
    by_cases ht : (0 ≤ σ 0 p + ((k : Int) - 12) ∧ σ 0 p + ((k : Int) - 12) ≤ 35) ∧ ((ca σ p (σ 0 p + ((k : Int) - 12)) : Int) < y ∨ ((ca σ p (σ 0 p + ((k : Int) - 12)) : Int) = y ∧ iab ((k : Int) - 12) ≤ iab x))
    · have hb : Bst (fun b => (ca σ p (σ 0 p + b) : Int)) ((k : Int) - 12) x := by
        unfold Bst
        have h2 := ht.2
        rw [hy] at h2
        rcases h2 with h2 | ⟨h2, h3⟩
        · exact Or.inl h2
        · refine Or.inr ⟨h2, ?_⟩
          unfold iab at *
          omega
      refine ⟨(k : Int) - 12, _, ftr_y rfl q ht.1 ht.2, rfl, ht.1, by omega, by omega, hb.trans hz, fun b h1 h2 h3 h4 => ?_⟩
      by_cases e : b = (k : Int) - 12
      · rw [e]; exact Bst.refl _ _
      · exact hb.trans (ha b h1 (by omega) h3 h4)
    · refine ⟨x, y, ftr_n rfl q ht, hy, hv, by omega, hr, hz, fun b h1 h2 h3 h4 => ?_⟩
      by_cases e : b = (k : Int) - 12
      · rw [e] at h3 h4 ⊢
        unfold Bst
        rw [hy] at ht
        show _ < (ca σ p (σ 0 p + ((k : Int) - 12)) : Int) ∨ (_ = (ca σ p (σ 0 p + ((k : Int) - 12)) : Int) ∧ _)
        generalize (ca σ p (σ 0 p + ((k : Int) - 12)) : Int) = cb at *
        show (ca σ p (σ 0 p + x) : Int) < cb ∨ ((ca σ p (σ 0 p + x) : Int) = cb ∧ _)
        generalize (ca σ p (σ 0 p + x) : Int) = cx at *
        unfold iab at *
        omega
      · exact ha b h1 (by omega) h3 h4
/-- whoever is better than all others is the best tuning -/
theorem ft_is {σ : Sg} {p : Nat} (h0 : 0 ≤ σ 0 p ∧ σ 0 p ≤ 35) {x : Int} (hr : -12 ≤ x ∧ x ≤ 12) (hv : 0 ≤ σ 0 p + x ∧ σ 0 p + x ≤ 35) (h : ∀ b : Int, -12 ≤ b → b ≤ 12 → 0 ≤ σ 0 p + b → σ 0 p + b ≤ 35 → Bst (fun b => (ca σ p (σ 0 p + b) : Int)) x b) : x = ft σ p := by
  obtain ⟨z, y, q, hy, hv2, hx2, hr2, hz2, ha2⟩ := ft_best p h0 25 (Nat.le_refl 25)
  have e : ft σ p = z := by unfold ft; rw [q]
  rw [e]
  exact (h z (by omega) (by omega) (by omega) (by omega)).anti (ha2 x (by omega) (by omega) (by omega) (by omega))
/-! ===== a pot muted ===== -/
def rmb (m p : Nat) : Nat := bm (fun i => m.testBit i && decide (i ≠ p)) 10
theorem rmb_J : ∀ p : Nat, p < 10 → ∀ m : Nat, m < 1024 → nI m &&& (nI (2 ^ p) ^^^ (-1)) = nI (rmb m p) := by decide +kernel
theorem rmb_lt (m p : Nat) : rmb m p < 1024 := bm_1024 _ (Nat.le_refl 10)
theorem rmb_bit {m p i : Nat} (hi : i < 10) : (rmb m p).testBit i = (m.testBit i && decide (i ≠ p)) := by
  unfold rmb
  rw [bm_bit, decide_eq_true hi, Bool.true_and]
theorem hmo_mute {σ : Sg} (h10 : nn σ ≤ 10) {p : Nat} (hp : p < nn σ) (hs : sn σ p = true) : hmo σ (rmb (stn σ) p) = ((ns σ : Int) - 1) * ((ns σ : Int) - 1 - 1) / 2 - 2 * ccl σ + 2 * (ca σ p (σ 0 p) : Int) := by
  have h := sym_chg (xg σ (stn σ)) (xg σ (rmb (stn σ) p)) hp (xg_comm σ _) (xg_comm _ _) (xg_self σ _ p) (xg_self _ _ p) (fun i j hi hj hi2 hj2 => by
    unfold xg
    rw [rmb_bit (by omega), rmb_bit (by omega), decide_eq_true hi, decide_eq_true hj, Bool.and_true, Bool.and_true])
  have h0 : fb_sm (xg σ (rmb (stn σ) p) p) (nn σ) = 0 := by
    rw [← asm_xg]
    unfold asm
    rw [if_neg]
    rw [rmb_bit (by omega), decide_eq_false (fun hh => hh rfl), Bool.and_false]
    decide
  rw [h0, ← cc2_xg, ← ca_xg σ hp hs, ← sm_asm] at h
  have hb : (stn σ).testBit p = true := by rw [stn_bit, decide_eq_true hp, hs]; rfl
  have hc : pcn (rmb (stn σ) p) + 1 = ns σ := by
    rw [← pcn_set h10]
    unfold pcn
    have e := fb_ct_upd (fun k => (stn σ).testBit k) false (i := p) (n := 10) (by omega)
    have e2 : fb_ct (fun k => (rmb (stn σ) p).testBit k) 10 = fb_ct (fun k => if k = p then false else (stn σ).testBit k) 10 := fb_ct_cong (fun k hk => by
      rw [rmb_bit hk]
      by_cases hkp : k = p
      · rw [if_pos hkp, decide_eq_false (fun hh => hh hkp), Bool.and_false]
      · rw [if_neg hkp, decide_eq_true hkp, Bool.and_true])
    rw [e2]
    rw [hb] at e
    simpa using e
  unfold hmo acl ccl
  rw [show ((pcn (rmb (stn σ) p) : Nat) : Int) = (ns σ : Int) - 1 by omega]
  generalize ((ns σ : Int) - 1) * ((ns σ : Int) - 1 - 1) / 2 = t
  omega
/-! ===== the harshest ===== -/
theorem fmr_max (σ : Sg) : ∀ i j : Nat, j < i → fv σ j ≤ (fmr σ i).2
  | 0, j, h => absurd h (Nat.not_lt_zero j)
  | i + 1, j, h => by
    obtain ⟨⟨x, y⟩, q⟩ : ∃ z, fmr σ i = z := ⟨_, rfl⟩
    have ih := fun hj => fmr_max σ i j hj
    rw [q] at ih
    by_cases ht : y < fv σ i
    · rw [fmr_y q rfl ht]
      by_cases e : j = i
      · rw [e]; exact Int.le_refl _
      · have := ih (by omega); show fv σ j ≤ fv σ i; omega
    · rw [fmr_n q rfl ht]
      by_cases e : j = i
      · rw [e]; show fv σ i ≤ y; omega
      · exact ih (by omega)
theorem sm_pos {f : Nat → Nat} : ∀ {n : Nat}, 0 < fb_sm f n → ∃ k, k < n ∧ 0 < f k
  | 0, h => absurd h (Nat.lt_irrefl 0)
  | n + 1, h => by
    rw [fb_sm_succ] at h
    by_cases h1 : 0 < fb_sm f n
    · obtain ⟨k, h2, h3⟩ := sm_pos h1; exact ⟨k, by omega, h3⟩
    · exact ⟨n, Nat.lt_succ_self n, by omega⟩
theorem sm_two {f : Nat → Nat} {n a b : Nat} (ha : a < n) (hb : b < n) (hab : a ≠ b) : f a + f b ≤ fb_sm f n := by
  have h1 := fb_sm_upd f 0 ha
  have h2 := fb_sm_part (fun k => if k = a then 0 else f k) hb
  rw [if_neg (fun e => hab e.symm)] at h2
  omega
/-- clashes come in twos -/
theorem sm_asm2 {σ : Sg} {m : Nat} (h : 0 < fb_sm (asm σ m) (nn σ)) : 2 ≤ fb_sm (asm σ m) (nn σ) := by
  obtain ⟨a, ha, h1⟩ := sm_pos h
  have h1' := h1
  rw [asm_xg] at h1'
  obtain ⟨b, hb, h2⟩ := sm_pos h1'
  have hab : a ≠ b := fun e => by subst e; rw [xg_self] at h2; exact absurd h2 (Nat.lt_irrefl 0)
  have h3 : 0 < asm σ m b := by
    rw [asm_xg]
    have h4 := fb_sm_part (xg σ m b) ha
    rw [xg_comm σ m b a] at h4
    omega
  have := sm_two (f := asm σ m) ha hb hab
  omega
theorem ccl_pos {σ : Sg} : 0 < ccl σ ↔ 0 < cc2 σ := by
  have h : cc2 σ = fb_sm (asm σ (stn σ)) (nn σ) := by unfold cc2; exact (fb_sm_cong (fun k hk => asm_set σ hk)).symm
  unfold ccl
  constructor
  · intro h1; omega
  · intro h1
    rw [h] at h1 ⊢
    have := sm_asm2 h1
    omega
theorem cof_fv (σ : Sg) (p : Nat) : 0 < cof σ p ↔ 0 < fv σ p := by
  unfold cof fv
  split <;> omega
theorem cof_fv2 {σ : Sg} {p : Nat} (h : 0 < fv σ p) : cof σ p = fv σ p := by
  unfold cof fv at *
  by_cases hs : sn σ p = true
  · rw [if_pos hs, if_pos hs]
  · rw [if_neg hs] at h; omega
theorem ccl_fm {σ : Sg} : 0 < ccl σ ↔ 0 < (fmr σ (nn σ)).2 := by
  rw [ccl_pos]
  constructor
  · intro h
    obtain ⟨k, hk, h1⟩ := sm_pos (show 0 < fb_sm (cs σ) (nn σ) from h)
    have h2 := fmr_max σ (nn σ) k hk
    have h3 : fv σ k = (cs σ k : Int) := by
      unfold cs at h1 ⊢
      unfold fv
      split at h1
      · rename_i hs; rw [if_pos hs, if_pos hs]
      · omega
    omega
  · intro h
    have key : ∀ i : Nat, i ≤ nn σ → 0 < (fmr σ i).2 → ∃ k, k < nn σ ∧ 0 < fv σ k := by
      intro i
      induction i with
      | zero => intro _ h; exact absurd h (by show ¬ (0 : Int) < -1; decide)
      | succ i ih =>
        intro hi h
        obtain ⟨⟨x, y⟩, q⟩ : ∃ z, fmr σ i = z := ⟨_, rfl⟩
        by_cases ht : y < fv σ i
        · rw [fmr_y q rfl ht] at h; exact ⟨i, by omega, h⟩
        · rw [fmr_n q rfl ht] at h; exact ih (by omega) (by rw [q]; exact h)
    obtain ⟨k, hk, h1⟩ := key _ (Nat.le_refl _) h
    have h2 : 0 < cs σ k := by
      unfold fv at h1
      unfold cs
      split at h1
      · rename_i hs; rw [if_pos hs]; omega
      · omega
    have := fb_sm_part (cs σ) hk
    unfold cc2
    omega
/-! ===== the greatest accord ===== -/
theorem gar_max (σ : Sg) : ∀ m k : Nat, k < m → gok σ k = true → pcn k ≤ gar σ m
  | 0, k, h, _ => absurd h (Nat.not_lt_zero k)
  | m + 1, k, h, hk => by
    by_cases ht : gar σ m < pcn m ∧ gok σ m = true
    · rw [gar_y ht.1 ht.2]
      by_cases e : k = m
      · rw [e]; exact Nat.le_refl _
      · have := gar_max σ m k (by omega) hk; omega
    · rw [gar_n ht]
      by_cases e : k = m
      · subst e
        rcases Nat.lt_or_ge (gar σ k) (pcn k) with h1 | h1
        · exact absurd ⟨h1, hk⟩ ht
        · exact h1
      · exact gar_max σ m k (by omega) hk
theorem gar_in (σ : Sg) : ∀ m : Nat, gar σ m = 0 ∨ ∃ k, k < m ∧ gok σ k = true ∧ pcn k = gar σ m
  | 0 => Or.inl rfl
  | m + 1 => by
    by_cases ht : gar σ m < pcn m ∧ gok σ m = true
    · rw [gar_y ht.1 ht.2]; exact Or.inr ⟨m, Nat.lt_succ_self m, ht.2, rfl⟩
    · rw [gar_n ht]
      rcases gar_in σ m with h | ⟨k, h1, h2, h3⟩
      · exact Or.inl h
      · exact Or.inr ⟨k, by omega, h2, h3⟩
/-- bits of n or above are none in a number below 2^n -/
theorem bit_lt {m n i : Nat} (h : m < 2 ^ n) (hb : m.testBit i = true) : i < n := by
  rcases Nat.lt_or_ge i n with h1 | h1
  · exact h1
  · have h2 : m < 2 ^ i := Nat.lt_of_lt_of_le h (Nat.pow_le_pow_right (by decide) h1)
    rw [Nat.testBit_lt_two_pow h2] at hb
    cases hb
/-- a group is in accord, the class's way, when all its pots sound and no two clash -/
theorem gok_iff {σ : Sg} {m : Nat} (hm : m < 2 ^ nn σ) : gok σ m = true ↔ (m &&& stn σ = m ∧ acl σ m = 0) := by
  have h1 : acl σ m = 0 ↔ ∀ p, p < nn σ → m.testBit p = true → ∀ q, q < nn σ → m.testBit q = true → ac (σ 0 p) (σ 0 q) = true := by
    have h2 : acl σ m = 0 ↔ fb_sm (asm σ m) (nn σ) = 0 := by
      unfold acl
      constructor
      · intro h
        rcases Nat.eq_zero_or_pos (fb_sm (asm σ m) (nn σ)) with h3 | h3
        · exact h3
        · have := sm_asm2 h3; omega
      · intro h; rw [h]; rfl
    rw [h2]
    constructor
    · intro h p hp hbp q hq hbq
      have h3 := fb_sm_zero h p hp
      rw [asm_xg] at h3
      have h4 := fb_sm_zero h3 q hq
      unfold xg at h4
      rw [hbp, hbq, Bool.true_and, Bool.true_and] at h4
      cases hc : ac (σ 0 p) (σ 0 q) with
      | true => rfl
      | false => rw [hc] at h4; exact absurd h4 (by decide)
    · intro h
      rcases Nat.eq_zero_or_pos (fb_sm (asm σ m) (nn σ)) with h3 | h3
      · exact h3
      · obtain ⟨a, ha, h4⟩ := sm_pos h3
        rw [asm_xg] at h4
        obtain ⟨b, hb, h5⟩ := sm_pos h4
        unfold xg at h5
        split at h5
        · rename_i hx
          rw [Bool.and_eq_true, Bool.and_eq_true] at hx
          have := h a ha hx.1 b hb hx.2.1
          rw [this] at hx
          exact absurd hx.2.2 (by decide)
        · exact absurd h5 (Nat.lt_irrefl 0)
  have h0 : gok σ m = true ↔ ∀ p, p < nn σ → m.testBit p = true → m &&& bar σ p = 0 := ⟨fun h => of_decide_eq_true h, fun h => decide_eq_true h⟩
  rw [h0, h1]
  constructor
  · intro h
    have hs : ∀ p, p < nn σ → m.testBit p = true → sn σ p = true := fun p hp hb => by
      cases hsn : sn σ p with
      | true => rfl
      | false =>
        have h3 := h p hp hb
        unfold bar at h3
        rw [if_neg (by rw [hsn]; decide)] at h3
        have h4 : (m &&& 2 ^ p).testBit p = false := by rw [h3]; exact Nat.zero_testBit p
        rw [Nat.testBit_and, hb, Nat.testBit_two_pow_self] at h4
        cases h4
    refine ⟨Nat.eq_of_testBit_eq (fun i => ?_), fun p hp hbp q hq hbq => ?_⟩
    · rw [Nat.testBit_and, stn_bit]
      cases hb : m.testBit i with
      | false => rfl
      | true =>
        have hi := bit_lt hm hb
        rw [decide_eq_true hi, hs i hi hb]
        rfl
    · have h3 := h p hp hbp
      unfold bar at h3
      rw [if_pos (hs p hp hbp)] at h3
      have h4 : (m &&& bm (fun o => !ac (σ 0 p) (σ 0 o)) (nn σ)).testBit q = false := by rw [h3]; exact Nat.zero_testBit q
      rw [Nat.testBit_and, hbq, bm_bit, decide_eq_true hq] at h4
      cases hc : ac (σ 0 p) (σ 0 q) with
      | true => rfl
      | false => rw [hc] at h4; exact absurd h4 (by decide)
  · intro h p hp hb
    have hs : sn σ p = true := by
      have h3 : (m &&& stn σ).testBit p = true := by rw [h.1]; exact hb
      rw [Nat.testBit_and, stn_bit, hb, decide_eq_true hp, Bool.true_and, Bool.true_and] at h3
      exact h3
    unfold bar
    rw [if_pos hs]
    refine Nat.eq_of_testBit_eq (fun i => ?_)
    rw [Nat.testBit_and, bm_bit, Nat.zero_testBit]
    cases hbi : m.testBit i with
    | false => rfl
    | true =>
      have hi := bit_lt hm hbi
      rw [h.2 p hp hb i hi hbi]
      simp
/-- from one part of a set to the next lower one -/
theorem sub_next : ∀ (n s m t : Nat), t < 2 ^ n → m &&& t = m → s &&& t = s → m < s → m ≤ (s - 1) &&& t
  | 0, s, m, t, ht, hm, hs, h => by
    have : t = 0 := by omega
    subst this
    rw [Nat.and_zero] at hs
    omega
  | n + 1, s, m, t, ht, hm, hs, h => by
    have hd : ∀ x : Nat, x = 2 * (x / 2) + x % 2 := fun x => by omega
    have ha : ∀ x y : Nat, (x &&& y) / 2 = (x / 2) &&& (y / 2) := fun x y => Nat.and_div_two
    have hr : ∀ x y : Nat, (x &&& y) % 2 = (x % 2) &&& (y % 2) := fun x y => by
      rw [← Nat.and_one_is_mod, ← Nat.and_one_is_mod, ← Nat.and_one_is_mod]
      refine Nat.eq_of_testBit_eq (fun i => ?_)
      simp only [Nat.testBit_and]
      cases x.testBit i <;> cases y.testBit i <;> cases (1 : Nat).testBit i <;> rfl
    have hb : ∀ x y : Nat, x % 2 = 0 ∨ y % 2 = 0 → (x % 2) &&& (y % 2) = 0 := fun x y h => by
      rcases h with h | h <;> rw [h]
      · exact Nat.zero_and _
      · exact Nat.and_zero _
    have h1 : ∀ x y : Nat, x % 2 = 1 → y % 2 = 1 → (x % 2) &&& (y % 2) = 1 := fun x y h h' => by rw [h, h']; rfl
    have hm2 : (m / 2) &&& (t / 2) = m / 2 := by rw [← ha, hm]
    have hs2 : (s / 2) &&& (t / 2) = s / 2 := by rw [← ha, hs]
    have hmr : (m % 2) &&& (t % 2) = m % 2 := by rw [← hr, hm]
    have hsr : (s % 2) &&& (t % 2) = s % 2 := by rw [← hr, hs]
    have e := hd ((s - 1) &&& t)
    rw [ha, hr] at e
    rcases Nat.mod_two_eq_zero_or_one s with q | q
    · have q1 : (s - 1) / 2 = s / 2 - 1 := by omega
      have q2 : (s - 1) % 2 = 1 := by omega
      have ih := sub_next n (s / 2) (m / 2) (t / 2) (by rw [Nat.pow_succ] at ht; omega) hm2 hs2 (by omega)
      rw [q1] at e
      rcases Nat.mod_two_eq_zero_or_one t with q3 | q3
      · have q4 := hb m t (Or.inr q3)
        rw [hmr] at q4
        omega
      · rw [h1 _ _ q2 q3] at e
        omega
    · have q1 : (s - 1) / 2 = s / 2 := by omega
      rw [q1, hs2] at e
      omega
theorem and_sub (s t : Nat) : (s &&& t) &&& t = s &&& t := by rw [Nat.and_assoc, Nat.and_self]
