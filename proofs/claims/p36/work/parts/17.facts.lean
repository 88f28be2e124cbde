/-! ===== what the looks ask, over the state ===== -/
theorem iab_comm (a b : Int) : iab (a - b) = iab (b - a) := by unfold iab; split <;> split <;> omega
theorem ac_far0 {a b : Int} (h : iab (a - b) % 12 = 0) : ac a b = true := decide_eq_true (Or.inl h)
theorem ac_far6 {a b : Int} (h : iab (a - b) % 12 = 6) : ac a b = false := by
  unfold ac
  have e : stp a b = 6 := h
  rw [e]
  decide
/-! the pairs that clash -/
def kl (σ : Sg) (p o : Nat) : Bool := sn σ p && (sn σ o && !ac (σ 0 p) (σ 0 o))
theorem kl_comm (σ : Sg) (p o : Nat) : kl σ p o = kl σ o p := by
  unfold kl
  rw [ac_comm (σ 0 o), ← Bool.and_assoc, ← Bool.and_assoc, Bool.and_comm (sn σ p)]
theorem kl_self (σ : Sg) (p : Nat) : kl σ p p = false := by
  unfold kl
  rw [ac_refl]
  simp
theorem tri_sm (f : Nat → Nat → Bool) (hc : ∀ p o, f p o = f o p) (hs : ∀ p, f p p = false) : ∀ n, fb_sm (fun p => fb_ct (f p) n) n = 2 * fb_sm (fun p => fb_ct (f p) p) n
  | 0 => rfl
  | n + 1 => by
    have ih := tri_sm f hc hs n
    have h1 : fb_sm (fun p => fb_ct (f p) (n + 1)) n = fb_sm (fun p => fb_ct (f p) n) n + fb_ct (f n) n := by
      rw [show (fun p => fb_ct (f p) (n + 1)) = fun p => fb_ct (f p) n + (if f p n then 1 else 0) from funext fun p => fb_ct_succ _ _, fb_sm_add, ct_sm (f n)]
      congr 1
      exact fb_sm_cong (fun k _ => by rw [hc k n])
    rw [fb_sm_succ, fb_sm_succ, h1, fb_ct_succ, hs n, ih]
    simp only [Bool.false_eq_true, if_false]
    omega
theorem cs_kl (σ : Sg) (p : Nat) : cs σ p = fb_ct (kl σ p) (nn σ) := by
  unfold cs
  by_cases h : sn σ p = true
  · rw [if_pos h]
    unfold ca
    refine fb_ct_cong (fun o _ => ?_)
    unfold clp kl
    by_cases e : o = p
    · subst e; rw [ac_refl]; simp
    · rw [decide_eq_true e, h]
  · rw [if_neg h]
    symm
    refine fb_ct_zero.mpr (fun o _ => ?_)
    unfold kl
    rw [Bool.not_eq_true _ |>.mp h]
    rfl
/-- the pairs of the first n pots that clash -/
def prs (σ : Sg) (n : Nat) : Nat := fb_sm (fun p => fb_ct (kl σ p) p) n
theorem cc2_prs (σ : Sg) : cc2 σ = 2 * prs σ (nn σ) := by
  unfold cc2 prs
  rw [← tri_sm (kl σ) (kl_comm σ) (kl_self σ)]
  exact fb_sm_cong (fun k _ => cs_kl σ k)
theorem ccl_prs (σ : Sg) : ccl σ = (prs σ (nn σ) : Int) := by
  unfold ccl
  rw [cc2_prs]
  omega
theorem cc2_ccl (σ : Sg) : (cc2 σ : Int) = 2 * ccl σ := by
  rw [cc2_prs, ccl_prs]
  omega
theorem cof_cs (σ : Sg) (p : Nat) : cof σ p = (cs σ p : Int) := by
  unfold cof cs
  split <;> rfl
theorem cof_kl (σ : Sg) (p : Nat) : cof σ p = (fb_ct (kl σ p) (nn σ) : Int) := by rw [cof_cs, cs_kl]
/-- the sum over the pairs of the first n pots: 1 for an accord, -1 for a clash -/
def hmp (σ : Sg) (p o : Nat) : Int := if sn σ p && sn σ o then (if ac (σ 0 p) (σ 0 o) then 1 else -1) else 0
def hmr (σ : Sg) (n : Nat) : Int := fb_si (fun p => fb_si (hmp σ p) p) n
theorem hmp_row (σ : Sg) (p : Nat) : ∀ n, fb_si (hmp σ p) n = (if sn σ p then (fb_ct (sn σ) n : Int) else 0) - 2 * (fb_ct (kl σ p) n : Int)
  | 0 => by
    show (0 : Int) = (if sn σ p then ((0 : Nat) : Int) else 0) - 2 * ((0 : Nat) : Int)
    split <;> rfl
  | n + 1 => by
    rw [fb_si_succ, hmp_row σ p n, fb_ct_succ, fb_ct_succ]
    unfold hmp kl
    cases sn σ p <;> cases sn σ n <;> cases ac (σ 0 p) (σ 0 n) <;> simp <;> omega
theorem hmr_eq (σ : Sg) : ∀ n, 2 * hmr σ n + 4 * (prs σ n : Int) = (fb_ct (sn σ) n : Int) * ((fb_ct (sn σ) n : Int) - 1)
  | 0 => rfl
  | n + 1 => by
    have ih := hmr_eq σ n
    have h1 : hmr σ (n + 1) = hmr σ n + fb_si (hmp σ n) n := rfl
    have h2 : prs σ (n + 1) = prs σ n + fb_ct (kl σ n) n := rfl
    rw [h1, h2, hmp_row, fb_ct_succ]
    cases sn σ n with
    | false =>
      simp only [Bool.false_eq_true, if_false, Nat.add_zero]
      omega
    | true =>
      simp only [if_true]
      generalize fb_ct (sn σ) n = k at *
      have h3 : ((k + 1 : Nat) : Int) * (((k + 1 : Nat) : Int) - 1) = (k : Int) * ((k : Int) - 1) + 2 * (k : Int) := by
        rw [show ((k + 1 : Nat) : Int) = (k : Int) + 1 from rfl, show (k : Int) + 1 - 1 = (k : Int) by omega, Int.add_mul, Int.mul_sub, Int.one_mul, Int.mul_one]
        omega
      rw [h3]
      omega
theorem hm_hmr (σ : Sg) : hmr σ (nn σ) = hm σ := by
  have h := hmr_eq σ (nn σ)
  unfold hm ns
  rw [ccl_prs]
  omega
theorem hm_up (σ : Sg) : hm σ = (ns σ : Int) * ((ns σ : Int) - 1) / 2 - (cc2 σ : Int) := by
  unfold hm
  rw [cc2_ccl]
/-! those that sound, by parts -/
theorem parts_sum {σ : Sg} (hI : Inv σ) : ∀ n, n ≤ 10 → fb_ct (snp σ 0) n + fb_ct (snp σ 1) n + fb_ct (snp σ 2) n + fb_ct (snp σ 3) n = fb_ct (sn σ) n
  | 0, _ => rfl
  | n + 1, hn => by
    have ih := parts_sum hI n (by omega)
    have hp := (hI.at n (by omega)).2.2.2.2
    rw [fb_ct_succ, fb_ct_succ, fb_ct_succ, fb_ct_succ, fb_ct_succ]
    unfold snp at *
    cases sn σ n with
    | false => simp only [Bool.and_false, Bool.false_eq_true, if_false]; exact ih
    | true =>
      simp only [Bool.and_true, if_true, decide_eq_true_eq]
      rcases (show σ 4 n = 0 ∨ σ 4 n = 1 ∨ σ 4 n = 2 ∨ σ 4 n = 3 by omega) with e | e | e | e <;> rw [e] <;> simp <;> omega
/-- the first k parts' counts -/
def psm (σ : Sg) (k : Nat) : Nat := fb_sm (fun z => fb_ct (snp σ (z : Int)) (nn σ)) k
theorem psm_4 {σ : Sg} (hI : Inv σ) : psm σ 4 = ns σ := by
  have h := parts_sum hI (nn σ) hI.n10
  unfold psm ns
  rw [← h, fb_sm_succ, fb_sm_succ, fb_sm_succ, fb_sm_succ]
  show 0 + fb_ct (snp σ 0) (nn σ) + fb_ct (snp σ 1) (nn σ) + fb_ct (snp σ 2) (nn σ) + fb_ct (snp σ 3) (nn σ) = _
  omega
/-! the one who clashes with the most, the lowest one -/
theorem fmr_in (σ : Sg) : ∀ i, (fmr σ i = (-1, -1) ∧ ∀ j, j < i → sn σ j = false) ∨ ∃ b : Nat, b < i ∧ sn σ b = true ∧ fmr σ i = ((b : Int), fv σ b)
  | 0 => Or.inl ⟨rfl, fun j h => absurd h (Nat.not_lt_zero j)⟩
  | i + 1 => by
    rcases fmr_in σ i with ⟨q, h⟩ | ⟨b, hb, hs, q⟩
    · by_cases hs : sn σ i = true
      · refine Or.inr ⟨i, Nat.lt_succ_self i, hs, fmr_y q rfl ?_⟩
        unfold fv
        rw [if_pos hs]
        omega
      · refine Or.inl ⟨fmr_n q rfl ?_, fun j hj => ?_⟩
        · unfold fv; rw [if_neg hs]; omega
        · by_cases e : j = i
          · subst e; exact Bool.not_eq_true _ |>.mp hs
          · exact h j (by omega)
    · by_cases ht : fv σ b < fv σ i
      · have hs2 : sn σ i = true := by
          by_cases hs2 : sn σ i = true
          · exact hs2
          · exfalso
            unfold fv at ht
            rw [if_pos hs, if_neg hs2] at ht
            omega
        exact Or.inr ⟨i, Nat.lt_succ_self i, hs2, fmr_y q rfl ht⟩
      · exact Or.inr ⟨b, by omega, hs, fmr_n q rfl ht⟩
theorem fm_in (σ : Sg) : (fm σ = -1 ∧ ns σ = 0) ∨ ∃ b : Nat, b < nn σ ∧ sn σ b = true ∧ fm σ = (b : Int) ∧ ∀ p, p < nn σ → cof σ p ≤ cof σ b := by
  rcases fmr_in σ (nn σ) with ⟨q, h⟩ | ⟨b, hb, hs, q⟩
  · exact Or.inl ⟨by unfold fm; rw [q], ns_0.mpr h⟩
  · refine Or.inr ⟨b, hb, hs, by unfold fm; rw [q], fun p hp => ?_⟩
    have h1 := fmr_max σ (nn σ) p hp
    rw [q] at h1
    have h2 : fv σ b = cof σ b := by unfold fv cof; rw [if_pos hs, if_pos hs]
    have h3 : 0 ≤ cof σ b := by rw [cof_cs]; omega
    have h1' : fv σ p ≤ fv σ b := h1
    by_cases e : sn σ p = true
    · have h4 : fv σ p = cof σ p := by unfold fv cof; rw [if_pos e, if_pos e]
      omega
    · have h4 : cof σ p = 0 := by unfold cof; rw [if_neg e]
      omega
theorem ns_pos_fm {σ : Sg} : fm σ < 0 ↔ ns σ = 0 := by
  rcases fm_in σ with ⟨h1, h2⟩ | ⟨b, hb, hs, h1, -⟩
  · rw [h1, h2]; decide
  · rw [h1]
    constructor
    · intro h; omega
    · intro h
      have := ns_0.mp h b hb
      rw [hs] at this
      cases this
theorem ccl_ns {σ : Sg} (h : ns σ = 0) : ccl σ = 0 := by
  rw [ccl_prs]
  have h1 : prs σ (nn σ) = 0 := by
    have h2 : cc2 σ = 0 := by
      unfold cc2
      have : ∀ n, n ≤ nn σ → fb_sm (cs σ) n = 0 := fun n => by
        induction n with
        | zero => intro _; rfl
        | succ n ih =>
          intro hn
          rw [fb_sm_succ, ih (by omega)]
          unfold cs
          rw [if_neg (by rw [ns_0.mp h n (by omega)]; decide)]
      exact this _ (Nat.le_refl _)
    have := cc2_prs σ
    omega
  rw [h1]
  rfl
theorem hst_in (σ : Sg) : (hst σ = -1 ∧ cc2 σ = 0) ∨ ∃ b : Nat, b < nn σ ∧ hst σ = (b : Int) ∧ fm σ = (b : Int) ∧ 0 < cc2 σ ∧ ∀ p, p < nn σ → cof σ p ≤ cof σ b := by
  have h2 := cc2_ccl σ
  unfold hst
  by_cases h : 0 < ccl σ
  · rw [if_pos h]
    rcases fm_in σ with ⟨h1, h3⟩ | ⟨b, hb, hs, h1, h4⟩
    · have := ccl_ns h3
      omega
    · exact Or.inr ⟨b, hb, h1, h1, by omega, h4⟩
  · rw [if_neg h]
    exact Or.inl ⟨rfl, by omega⟩
theorem flr_in {σ : Sg} (hI : Inv σ) : ∀ i, i ≤ 10 → (flr σ i = (-1, 36) ∧ ∀ j, j < i → sn σ j = false) ∨ ∃ b : Nat, b < i ∧ sn σ b = true ∧ flr σ i = ((b : Int), σ 0 b) ∧ ∀ j, j < i → sn σ j = true → σ 0 b ≤ σ 0 j
  | 0, _ => Or.inl ⟨rfl, fun j h => absurd h (Nat.not_lt_zero j)⟩
  | i + 1, hi => by
    have hb0 := hI.at i (by omega)
    rcases flr_in hI i (by omega) with ⟨q, h⟩ | ⟨b, hb, hs, q, h⟩
    · by_cases hs : sn σ i = true
      · refine Or.inr ⟨i, Nat.lt_succ_self i, hs, flr_y q hs (by omega), fun j hj hsj => ?_⟩
        by_cases e : j = i
        · rw [e]; exact Int.le_refl _
        · rw [h j (by omega)] at hsj; cases hsj
      · refine Or.inl ⟨flr_n q (fun hh => hs hh.1), fun j hj => ?_⟩
        by_cases e : j = i
        · subst e; exact Bool.not_eq_true _ |>.mp hs
        · exact h j (by omega)
    · by_cases ht : sn σ i = true ∧ σ 0 i < σ 0 b
      · refine Or.inr ⟨i, Nat.lt_succ_self i, ht.1, flr_y q ht.1 ht.2, fun j hj hsj => ?_⟩
        by_cases e : j = i
        · rw [e]; exact Int.le_refl _
        · have := h j (by omega) hsj; omega
      · refine Or.inr ⟨b, by omega, hs, flr_n q ht, fun j hj hsj => ?_⟩
        by_cases e : j = i
        · subst e
          have : ¬ σ 0 j < σ 0 b := fun hh => ht ⟨hsj, hh⟩
          omega
        · exact h j (by omega) hsj
theorem fl_in {σ : Sg} (hI : Inv σ) : (fl σ = -1 ∧ ns σ = 0) ∨ ∃ b : Nat, b < nn σ ∧ sn σ b = true ∧ fl σ = (b : Int) ∧ ∀ p, p < nn σ → sn σ p = true → σ 0 b ≤ σ 0 p := by
  rcases flr_in hI (nn σ) hI.n10 with ⟨q, h⟩ | ⟨b, hb, hs, q, h⟩
  · exact Or.inl ⟨by unfold fl; rw [q], ns_0.mpr h⟩
  · exact Or.inr ⟨b, hb, hs, by unfold fl; rw [q], h⟩
theorem ns_pos_fl {σ : Sg} (hI : Inv σ) : fl σ < 0 ↔ ns σ = 0 := by
  rcases fl_in hI with ⟨h1, h2⟩ | ⟨b, hb, hs, h1, -⟩
  · rw [h1, h2]; decide
  · rw [h1]
    constructor
    · intro h; omega
    · intro h
      have := ns_0.mp h b hb
      rw [hs] at this
      cases this
/-! the greatest accord -/
theorem ga_one {σ : Sg} (hI : Inv σ) {p : Nat} (hp : p < nn σ) (hs : sn σ p = true) : 1 ≤ ga σ := by
  have h10 := hI.n10
  have hlt : 2 ^ p < 2 ^ nn σ := Nat.pow_lt_pow_right (by decide) hp
  have hg : gok σ (2 ^ p) = true := by
    unfold gok
    refine decide_eq_true (fun q hq hb => ?_)
    rw [Nat.testBit_two_pow] at hb
    have e : p = q := of_decide_eq_true hb
    subst e
    refine Nat.eq_of_testBit_eq (fun i => ?_)
    rw [Nat.testBit_and, Nat.testBit_two_pow, Nat.zero_testBit]
    by_cases hi : p = i
    · subst hi
      unfold bar
      rw [if_pos hs, bm_bit, ac_refl]
      simp
    · rw [decide_eq_false hi]; rfl
  have hc : pcn (2 ^ p) = 1 := by
    have : ∀ p, p < 10 → pcn (2 ^ p) = 1 := by decide +kernel
    exact this p (by omega)
  have := gar_max σ (2 ^ nn σ) (2 ^ p) hlt hg
  unfold ga
  omega
theorem bits_eq {m t : Nat} (hm : m &&& t = m) (ht : t < 1024) (hc : pcn m = pcn t) : m = t := by
  have hml : m ≤ t := by rw [← hm]; exact Nat.and_le_right
  have hsub : ∀ k, k < 10 → m.testBit k = true → t.testBit k = true := fun k _ h => by
    rw [← hm, Nat.testBit_and, Bool.and_eq_true] at h
    exact h.2
  have h3 : ∀ n, n ≤ 10 → fb_ct (fun k => m.testBit k) n + fb_ct (fun k => t.testBit k && !m.testBit k) n = fb_ct (fun k => t.testBit k) n := fun n => by
    induction n with
    | zero => intro _; rfl
    | succ n ih =>
      intro hn
      have := ih (by omega)
      have hs := hsub n (by omega)
      rw [fb_ct_succ, fb_ct_succ, fb_ct_succ]
      cases hmb : m.testBit n with
      | false => cases t.testBit n <;> simp <;> omega
      | true => rw [hs hmb]; simp; omega
  have h4 := h3 10 (Nat.le_refl 10)
  have h5 : fb_ct (fun k => t.testBit k && !m.testBit k) 10 = 0 := by unfold pcn at hc; omega
  have h6 := fb_ct_zero.mp h5
  refine Nat.eq_of_testBit_eq (fun i => ?_)
  by_cases hi : i < 10
  · have h7 := h6 i hi
    cases hmb : m.testBit i with
    | true => rw [hsub i hi hmb]
    | false =>
      rw [hmb] at h7
      cases htb : t.testBit i with
      | false => rfl
      | true => rw [htb] at h7; cases h7
  · have h8 : (2 : Nat) ^ 10 ≤ 2 ^ i := Nat.pow_le_pow_right (by decide) (by omega)
    rw [Nat.testBit_lt_two_pow (by omega), Nat.testBit_lt_two_pow (by omega)]
theorem pcn_sub {m t : Nat} (hm : m &&& t = m) : pcn m ≤ pcn t := fb_ct_sub (fun k _ h => by
  have h' : m.testBit k = true := h
  rw [← hm, Nat.testBit_and, Bool.and_eq_true] at h'
  exact h'.2)
theorem ga_in {σ : Sg} (hI : Inv σ) : ga σ ≤ ns σ ∧ (ga σ = ns σ ↔ cc2 σ = 0) ∧ (ga σ = 0 ↔ ns σ = 0) := by
  have h10 := hI.n10
  have h2 := cc2_ccl σ
  have hle : ga σ ≤ ns σ := by
    rcases gar_in σ (2 ^ nn σ) with h | ⟨k, hk, hg, hc⟩
    · unfold ga; omega
    · have h1 := (gok_iff hk).mp hg
      have h3 := pcn_sub h1.1
      rw [pcn_set h10] at h3
      unfold ga
      omega
  refine ⟨hle, ⟨fun h => ?_, fun h => ?_⟩, ⟨fun h => ?_, fun h => ?_⟩⟩
  · rcases Nat.eq_zero_or_pos (ns σ) with h0 | h0
    · have := ccl_ns h0; omega
    · rcases gar_in σ (2 ^ nn σ) with h1 | ⟨k, hk, hg, hc⟩
      · unfold ga at h; omega
      · have h3 := (gok_iff hk).mp hg
        have h4 : k = stn σ := bits_eq h3.1 (stn_lt h10) (by rw [pcn_set h10]; unfold ga at h; omega)
        have h5 := h3.2
        rw [h4, acl_set] at h5
        omega
  · have h1 : gok σ (stn σ) = true := (gok_iff (stn_2n σ)).mpr ⟨Nat.and_self _, by rw [acl_set]; omega⟩
    have h3 := gar_max σ (2 ^ nn σ) (stn σ) (stn_2n σ) h1
    rw [pcn_set h10] at h3
    unfold ga at hle ⊢
    omega
  · rcases Nat.eq_zero_or_pos (ns σ) with h0 | h0
    · exact h0
    · exfalso
      obtain ⟨p, hp, hs⟩ := fb_ct_pos.mp (show 0 < fb_ct (sn σ) (nn σ) from h0)
      have := ga_one hI hp hs
      omega
  · omega
/-! the best tuning -/
theorem btu_in {σ : Sg} (hI : Inv σ) {p : Nat} (hp : p < nn σ) : (-12 ≤ btu σ p ∧ btu σ p ≤ 12) ∧ (0 ≤ σ 0 p + btu σ p ∧ σ 0 p + btu σ p ≤ 35) := by
  have h10 := hI.n10
  have h0 := (hI.at p (by omega)).1
  unfold btu
  by_cases h : sn σ p = true
  · rw [if_pos h]
    obtain ⟨x, y, q, -, hv, -, hr, -⟩ := ft_best p h0 25 (Nat.le_refl 25)
    have e : ft σ p = x := by unfold ft; rw [q]
    rw [e]
    exact ⟨hr, hv⟩
  · rw [if_neg h]; omega
theorem btu_best {σ : Sg} (hI : Inv σ) {p : Nat} (hp : p < nn σ) {b : Int} (hb : -12 ≤ b ∧ b ≤ 12) (hv : 0 ≤ σ 0 p + b ∧ σ 0 p + b ≤ 35) :
    hm (up σ 0 p (σ 0 p + b)) < hm (up σ 0 p (σ 0 p + btu σ p)) ∨ (hm (up σ 0 p (σ 0 p + b)) = hm (up σ 0 p (σ 0 p + btu σ p)) ∧ (iab (btu σ p) < iab b ∨ (iab (btu σ p) = iab b ∧ b ≤ btu σ p))) := by
  have h10 := hI.n10
  have h0 := (hI.at p (by omega)).1
  unfold btu
  by_cases h : sn σ p = true
  · rw [if_pos h]
    obtain ⟨x, y, q, -, hv2, -, hr, -, ha⟩ := ft_best p h0 25 (Nat.le_refl 25)
    have e : ft σ p = x := by unfold ft; rw [q]
    rw [e, hm_tune p hp h, hm_tune p hp h]
    have h1 := ha b (by omega) (by omega) hv.1 hv.2
    unfold Bst at h1
    simp only at h1
    omega
  · rw [if_neg h, hm_still p (Bool.not_eq_true _ |>.mp h), hm_still p (Bool.not_eq_true _ |>.mp h)]
    refine Or.inr ⟨rfl, ?_⟩
    unfold iab
    split <;> split <;> omega
/-! what comes -/
theorem su_0 (σ : Sg) : su σ = 0 ↔ ns σ = 0 := by
  unfold su
  constructor
  · intro h
    have := fa_first_yes (fun j => decide (ns (pbn σ j) = 0)) 20 (by omega)
    rw [h] at this
    exact of_decide_eq_true this
  · intro h
    rcases Nat.eq_zero_or_pos (fa_first (fun j => decide (ns (pbn σ j) = 0)) 20) with h1 | h1
    · exact h1
    · have := fa_first_no (fun j => decide (ns (pbn σ j) = 0)) 20 0 h1
      exact absurd h (of_decide_eq_false this)
theorem ns_pb {σ : Sg} (h : ns σ = 0) : ns (pb σ) = 0 := by
  have h1 := ns_0.mp h
  refine ns_0.mpr (fun p hp => ?_)
  have hp' : p < nn σ := by
    have : nn (pb σ) = nn σ := by unfold nn; rw [pb_53]
    omega
  have h2 := h1 p hp'
  unfold sn
  rw [pb_1 σ hp', pb_3, if_neg (by rw [h2]; decide)]
  exact h2
theorem ns_pbn {σ : Sg} {i : Nat} (h : ns (pbn σ i) = 0) : ∀ j, i ≤ j → ns (pbn σ j) = 0
  | 0, hj => by
    have e : i = 0 := by omega
    rw [e] at h
    exact h
  | j + 1, hj => by
    by_cases e : i = j + 1
    · rw [← e]; exact h
    · exact ns_pb (ns_pbn h j (by omega))
theorem su_k (σ : Sg) {k : Nat} (hk : k < 20) : ns (pbn σ k) = 0 ↔ su σ ≤ k := by
  constructor
  · intro h
    rcases Nat.lt_or_ge k (su σ) with h1 | h1
    · have := fa_first_no (fun j => decide (ns (pbn σ j) = 0)) 20 k h1
      exact absurd h (of_decide_eq_false this)
    · exact h1
  · intro h
    have h1 := fa_first_yes (fun j => decide (ns (pbn σ j) = 0)) 20 (by unfold su at h; omega)
    exact ns_pbn (of_decide_eq_true h1) k h
theorem uc_in (σ : Sg) : (uc σ = -1 ∧ ∀ j, j < 60 → cadb (pbn σ j) = false) ∨ ∃ i : Nat, i < 60 ∧ uc σ = (i : Int) + 1 ∧ cadb (pbn σ i) = true ∧ ∀ j, j < i → cadb (pbn σ j) = false := by
  unfold uc
  have h1 := fa_first_le (fun j => cadb (pbn σ j)) 60
  have h2 := fa_first_no (fun j => cadb (pbn σ j)) 60
  by_cases h : fa_first (fun j => cadb (pbn σ j)) 60 < 60
  · rw [if_pos h]
    exact Or.inr ⟨_, h, rfl, fa_first_yes (fun j => cadb (pbn σ j)) 60 h, h2⟩
  · rw [if_neg h]
    exact Or.inl ⟨rfl, fun j hj => h2 j (by omega)⟩
theorem uc_1 {σ : Sg} (h : uc σ = 1) : ic σ = true := by
  rcases uc_in σ with ⟨h1, -⟩ | ⟨i, -, h1, h2, -⟩
  · omega
  · have e : i = 0 := by omega
    subst e
    have h3 : cadb σ = true := h2
    unfold cadb at h3
    exact (Bool.and_eq_true _ _ |>.mp h3).2
/-- the k-th beat's answer against what was told -/
theorem uc_k (σ : Sg) {k : Nat} (hk : k < 3) : uc σ < 0 ∨ ((k : Int) + 1 ≤ uc σ) → (cadb (pbn σ k) = true ↔ (k : Int) + 1 = uc σ) := by
  intro h
  rcases uc_in σ with ⟨h1, h2⟩ | ⟨i, hi, h1, h2, h3⟩
  · rw [h2 k (by omega)]
    constructor
    · intro h4; cases h4
    · intro h4; omega
  · by_cases e : k = i
    · subst e; rw [h2]; constructor
      · intro _; omega
      · intro _; rfl
    · rw [h3 k (by omega)]
      constructor
      · intro h4; cases h4
      · intro h4; omega
theorem pb_tea {σ : Sg} (hI : Inv σ) {p : Nat} (hp : p < nn σ) : (sn σ p = true → pb σ 1 p < σ 1 p) ∧ (sn σ p = false → pb σ 1 p = σ 1 p) := by
  have h10 := hI.n10
  have hb := hI.at p (by omega)
  rw [pb_1 σ hp]
  constructor
  · intro h
    have h1 := of_decide_eq_true h
    rw [if_pos h]
    unfold wte
    omega
  · intro h
    rw [if_neg (by rw [h]; decide)]
