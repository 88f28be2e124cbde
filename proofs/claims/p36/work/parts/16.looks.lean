/-! ===== looks that try things out ===== -/
theorem up_up (σ : Sg) (f i : Nat) (v w : Int) : up (up σ f i v) f i w = up σ f i w := by
  funext g k
  by_cases h : g = f
  · have e : ∀ (τ : Sg) (v : Int), up τ f i v f = upi (τ f) i v := fun τ v => by unfold up; rw [if_pos rfl]
    rw [h, e, e, e]
    unfold upi
    by_cases e3 : k = i
    · rw [if_pos e3, if_pos e3]
    · rw [if_neg e3, if_neg e3, if_neg e3]
  · have e : ∀ (τ : Sg) (v : Int), up τ f i v g = τ g := fun τ v => by unfold up; rw [if_neg h]
    rw [e, e, e]
theorem hm_rng {σ : Sg} (h : nn σ ≤ 10) : -100 ≤ hm σ ∧ hm σ ≤ 45 := by
  have h1 := ccl_rng h
  have h2 := tri_b (Nat.le_trans (ns_le σ) h)
  unfold hm
  omega
theorem hmo_rng {σ : Sg} (h : nn σ ≤ 10) (m : Nat) : -100 ≤ hmo σ m ∧ hmo σ m ≤ 45 := by
  have h1 := acl_rng h m
  have h2 := tri_b (pcn_le m)
  unfold hmo
  omega
def kb (i : Nat) : Int := if i % 2 = 0 then (i : Int) / 2 else -((i : Int) / 2)
theorem kb_or (i : Nat) : (i % 2 = 0 ∧ kb i = (i : Int) / 2) ∨ (i % 2 = 1 ∧ kb i = -((i : Int) / 2)) := by
  unfold kb
  by_cases h : i % 2 = 0
  · rw [if_pos h]; exact Or.inl ⟨h, rfl⟩
  · rw [if_neg h]; exact Or.inr ⟨by omega, rfl⟩
theorem kb_e {i : Nat} (h : i % 2 = 0) : (i : Int) / 2 = kb i := by unfold kb; rw [if_pos h]
theorem kb_o {i : Nat} (h : i % 2 ≠ 0) : -((i : Int) / 2) = kb i := by unfold kb; rw [if_neg h]
def tpr (i : Nat) (b : Int) : Prop := b = 0 ∨ (0 < b ∧ 2 * b < (i : Int)) ∨ (b < 0 ∧ -2 * b + 1 < (i : Int))
theorem tpr_up {i : Nat} {b : Int} (h : tpr i b) : tpr (i + 1) b := by unfold tpr at *; omega
theorem tpr_pre {i : Nat} {b : Int} (h : tpr (i + 1) b) (hb : b ≠ kb i) : tpr i b := by
  have h1 := kb_or i
  unfold tpr at *
  omega
theorem tpr_kb {i : Nat} (hi : 2 ≤ i) : tpr (i + 1) (kb i) := by
  have h1 := kb_or i
  unfold tpr
  omega
theorem tpr_bst {c : Int → Int} {i : Nat} {x : Int} (hi : 2 ≤ i) (hx : tpr i x) (h : c x ≤ c (kb i)) : Bst c x (kb i) := by
  have h1 := kb_or i
  unfold tpr at hx
  unfold Bst iab
  omega
abbrev cab (σ : Sg) (p : Nat) : Int → Int := fun b => (ca σ p (σ 0 p + b) : Int)
def tin (σ : Sg) (p i : Nat) (x y : Int) : Prop :=
  (sn σ p = true → y = hm σ + 2 * (ca σ p (σ 0 p) : Int) - 2 * (ca σ p (σ 0 p + x) : Int) ∧ ∀ b : Int, tpr i b → 0 ≤ σ 0 p + b → σ 0 p + b ≤ 35 → Bst (cab σ p) x b) ∧
  (sn σ p = false → x = 0 ∧ y = hm σ) ∧ (-12 ≤ x ∧ x ≤ 12) ∧ (0 ≤ σ 0 p + x ∧ σ 0 p + x ≤ 35) ∧ tpr i x
theorem tin_0 {σ : Sg} {p : Nat} (h0 : 0 ≤ σ 0 p ∧ σ 0 p ≤ 35) : tin σ p 2 0 (hm σ) := by
  refine ⟨fun _ => ⟨by rw [Int.add_zero]; omega, fun b hb h1 h2 => ?_⟩, fun _ => ⟨rfl, rfl⟩, by omega, by omega, Or.inl rfl⟩
  have e : b = 0 := by unfold tpr at hb; omega
  rw [e]
  exact Bst.refl _ _
theorem tin_bad {σ : Sg} {p i : Nat} {x y : Int} (h : tin σ p i x y) (hb : ¬ (0 ≤ σ 0 p + kb i ∧ σ 0 p + kb i ≤ 35)) : tin σ p (i + 1) x y :=
  ⟨fun hs => ⟨(h.1 hs).1, fun b hb2 h1 h2 => (h.1 hs).2 b (tpr_pre hb2 (fun e => hb (by rw [← e]; exact ⟨h1, h2⟩))) h1 h2⟩, h.2.1, h.2.2.1, h.2.2.2.1, tpr_up h.2.2.2.2⟩
theorem tin_no {σ : Sg} {p i : Nat} {x y : Int} (h : tin σ p i x y) (hi : 2 ≤ i) (hp : p < nn σ) (hh : ¬ y < hm (up σ 0 p (σ 0 p + kb i))) : tin σ p (i + 1) x y := by
  refine ⟨fun hs => ⟨(h.1 hs).1, fun b hb h1 h2 => ?_⟩, h.2.1, h.2.2.1, h.2.2.2.1, tpr_up h.2.2.2.2⟩
  by_cases e : b = kb i
  · rw [e]
    refine tpr_bst hi h.2.2.2.2 ?_
    have h3 := hm_tune p hp hs (σ 0 p + kb i)
    have h4 := (h.1 hs).1
    show (ca σ p (σ 0 p + x) : Int) ≤ (ca σ p (σ 0 p + kb i) : Int)
    omega
  · exact (h.1 hs).2 b (tpr_pre hb e) h1 h2
theorem tin_yes {σ : Sg} {p i : Nat} {x y : Int} (h : tin σ p i x y) (hi : 2 ≤ i) (hi2 : i < 26) (hp : p < nn σ) (hv : 0 ≤ σ 0 p + kb i ∧ σ 0 p + kb i ≤ 35) (hh : y < hm (up σ 0 p (σ 0 p + kb i))) : tin σ p (i + 1) (kb i) (hm (up σ 0 p (σ 0 p + kb i))) := by
  have hk := kb_or i
  refine ⟨fun hs => ⟨hm_tune p hp hs _, fun b hb h1 h2 => ?_⟩, fun hs => ?_, by omega, hv, tpr_kb hi⟩
  · by_cases e : b = kb i
    · rw [e]; exact Bst.refl _ _
    · refine Bst.trans (d := x) (Or.inl ?_) ((h.1 hs).2 b (tpr_pre hb e) h1 h2)
      have h3 := hm_tune p hp hs (σ 0 p + kb i)
      have h4 := (h.1 hs).1
      show (ca σ p (σ 0 p + kb i) : Int) < (ca σ p (σ 0 p + x) : Int)
      omega
  · have h3 := hm_still p hs (σ 0 p + kb i)
    have h4 := (h.2.1 hs).2
    omega
theorem tin_end {σ : Sg} {p : Nat} {x y : Int} (h0 : 0 ≤ σ 0 p ∧ σ 0 p ≤ 35) (h : tin σ p 26 x y) : x = btu σ p := by
  unfold btu
  cases hs : sn σ p with
  | true =>
    rw [if_pos rfl]
    exact ft_is h0 h.2.2.1 h.2.2.2.1 (fun b h1 h2 h3 h4 => (h.1 hs).2 b (by unfold tpr; omega) h3 h4)
  | false =>
    rw [if_neg (by decide)]
    exact (h.2.1 hs).1
/-! ===== the one to mute ===== -/
def mK (σ : Sg) : Int := ((ns σ : Int) - 1) * ((ns σ : Int) - 1 - 1) / 2 - 2 * ccl σ
def mtn (σ : Sg) (i : Nat) (x y : Int) : Prop := ∃ h : Int, fmr σ i = (x, h) ∧ -1 ≤ h ∧ ((x = -1 ∧ h = -1) ∨ ∃ b : Nat, b < i ∧ x = (b : Int) ∧ y = mK σ + 2 * h)
theorem mtn_0 (σ : Sg) (y : Int) : mtn σ 0 (-1) y := ⟨-1, rfl, by omega, Or.inl ⟨rfl, rfl⟩⟩
theorem mtn_s {σ : Sg} {i : Nat} {x y : Int} (h : mtn σ i x y) (hs : sn σ i = false) : mtn σ (i + 1) x y := by
  obtain ⟨z, q, h1, h2⟩ := h
  exact ⟨z, fmr_n q (v := -1) (by unfold fv; rw [hs]; rfl) (by omega), h1, h2.imp id (fun ⟨b, h3, h4⟩ => ⟨b, by omega, h4⟩)⟩
theorem hmo_mK {σ : Sg} (h10 : nn σ ≤ 10) {i : Nat} (hi : i < nn σ) (hs : sn σ i = true) : hmo σ (rmb (stn σ) i) = mK σ + 2 * (ca σ i (σ 0 i) : Int) := hmo_mute h10 hi hs
theorem fv_sn {σ : Sg} {i : Nat} (hs : sn σ i = true) : fv σ i = (ca σ i (σ 0 i) : Int) := by unfold fv; rw [if_pos hs]
theorem mtn_y {σ : Sg} {i : Nat} {x y : Int} (h : mtn σ i x y) (h10 : nn σ ≤ 10) (hi : i < nn σ) (hs : sn σ i = true) (hx : x = -1 ∨ y < hmo σ (rmb (stn σ) i)) : mtn σ (i + 1) (i : Int) (hmo σ (rmb (stn σ) i)) := by
  obtain ⟨z, q, h1, h2⟩ := h
  have e := hmo_mK h10 hi hs
  refine ⟨_, fmr_y q (fv_sn hs) ?_, by omega, Or.inr ⟨i, Nat.lt_succ_self i, rfl, e⟩⟩
  rcases h2 with h2 | ⟨b, h3, h4, h5⟩ <;> omega
theorem mtn_n {σ : Sg} {i : Nat} {x y : Int} (h : mtn σ i x y) (h10 : nn σ ≤ 10) (hi : i < nn σ) (hs : sn σ i = true) (hx : x ≠ -1) (hy : ¬ y < hmo σ (rmb (stn σ) i)) : mtn σ (i + 1) x y := by
  obtain ⟨z, q, h1, h2⟩ := h
  have e := hmo_mK h10 hi hs
  obtain ⟨b, h3, h4, h5⟩ := h2.resolve_left (fun h => hx h.1)
  exact ⟨z, fmr_n q (fv_sn hs) (by omega), h1, Or.inr ⟨b, by omega, h4, h5⟩⟩
theorem mtn_end {σ : Sg} {i : Nat} {x y : Int} (h : mtn σ i x y) (hi : i = nn σ) : x = fm σ := by
  obtain ⟨z, q, _⟩ := h
  unfold fm
  rw [← hi, q]
/-! ===== the harshest ===== -/
def hrn (σ : Sg) (i : Nat) (x : Int) : Prop := ∃ z h : Int, fmr σ i = (z, h) ∧ ((x = -1 ∧ h ≤ 0) ∨ (0 < h ∧ x = z ∧ ∃ b : Nat, b < i ∧ z = (b : Int) ∧ h = cof σ b))
theorem hrn_0 (σ : Sg) : hrn σ 0 (-1) := ⟨-1, -1, rfl, Or.inl ⟨rfl, by decide⟩⟩
theorem hrn_z {σ : Sg} {i : Nat} {x : Int} (h : hrn σ i x) (hc : ¬ 0 < cof σ i) : hrn σ (i + 1) x := by
  obtain ⟨z, w, q, h1⟩ := h
  have h2 : ¬ 0 < fv σ i := fun hh => hc ((cof_fv σ i).mpr hh)
  by_cases h3 : w < fv σ i
  · refine ⟨_, _, fmr_y q rfl h3, Or.inl ⟨?_, by omega⟩⟩
    rcases h1 with h1 | h1 <;> omega
  · exact ⟨_, _, fmr_n q rfl h3, h1.imp id (fun ⟨a, b, c, d, e⟩ => ⟨a, b, c, by omega, e⟩)⟩
theorem hrn_y {σ : Sg} {i : Nat} {x : Int} (h : hrn σ i x) (hc : 0 < cof σ i) (hx : x = -1 ∨ ∃ b : Nat, x = (b : Int) ∧ cof σ b < cof σ i) : hrn σ (i + 1) (i : Int) := by
  obtain ⟨z, w, q, h1⟩ := h
  have h2 := cof_fv2 ((cof_fv σ i).mp hc)
  refine ⟨_, _, fmr_y q h2.symm ?_, Or.inr ⟨hc, rfl, i, Nat.lt_succ_self i, rfl, rfl⟩⟩
  rcases h1 with h1 | ⟨h3, h4, b, h5, h6, h7⟩
  · omega
  · rcases hx with hx | ⟨b2, hx, hx2⟩
    · omega
    · have e : b2 = b := by omega
      subst e
      omega
theorem hrn_n {σ : Sg} {i b : Nat} (h : hrn σ i (b : Int)) (hc : 0 < cof σ i) (hx : ¬ cof σ b < cof σ i) : hrn σ (i + 1) (b : Int) := by
  obtain ⟨z, w, q, h1⟩ := h
  have h2 := cof_fv2 ((cof_fv σ i).mp hc)
  obtain ⟨h3, h4, b2, h5, h6, h7⟩ := h1.resolve_left (fun h => by omega)
  have e : b = b2 := by omega
  subst e
  exact ⟨_, _, fmr_n q h2.symm (by omega), Or.inr ⟨h3, h4, b, by omega, h6, h7⟩⟩
theorem hrn_b {σ : Sg} {i : Nat} {x : Int} (h : hrn σ i x) : x = -1 ∨ ∃ b : Nat, b < i ∧ x = (b : Int) := by
  obtain ⟨z, w, q, h1⟩ := h
  rcases h1 with h1 | ⟨h3, h4, b, h5, h6, h7⟩
  · exact Or.inl h1.1
  · exact Or.inr ⟨b, h5, h4.trans h6⟩
theorem hrn_end {σ : Sg} {i : Nat} {x : Int} (h : hrn σ i x) (hi : i = nn σ) : x = hst σ := by
  obtain ⟨z, w, q, h1⟩ := h
  subst hi
  have e := ccl_fm (σ := σ)
  rw [q] at e
  unfold hst
  rcases h1 with h1 | ⟨h3, h4, _⟩
  · rw [if_neg (fun hh => by have : 0 < w := e.mp hh; omega)]; exact h1.1
  · rw [if_pos (e.mpr h3)]
    unfold fm
    rw [q]; exact h4
/-! ===== the greatest accord ===== -/
def gin (σ : Sg) (m : Nat) (y : Int) : Prop := (m &&& stn σ = m ∧ 0 ≤ y) ∧ (y = 0 ∨ ∃ k : Nat, k &&& stn σ = k ∧ acl σ k = 0 ∧ (pcn k : Int) = y) ∧ ∀ k : Nat, k &&& stn σ = k → m < k → acl σ k = 0 → (pcn k : Int) ≤ y
theorem stn_2n (σ : Sg) : stn σ < 2 ^ nn σ := bm_lt _ _
theorem gin_0 (σ : Sg) : gin σ (stn σ) 0 := ⟨⟨Nat.and_self _, Int.le_refl 0⟩, Or.inl rfl, fun k h1 h2 => by
  have : k ≤ stn σ := by rw [← h1]; exact Nat.and_le_right
  omega⟩
theorem gin_nx {σ : Sg} {m : Nat} {y z : Int} (h : gin σ m y) (hm : 0 < m) (hz : y ≤ z) (hk : z = y ∨ (acl σ m = 0 ∧ (pcn m : Int) = z)) (hd : acl σ m = 0 → (pcn m : Int) ≤ z) : gin σ ((m - 1) &&& stn σ) z := by
  refine ⟨⟨and_sub _ _, by have := h.1.2; omega⟩, ?_, fun k h1 h2 h3 => ?_⟩
  · rcases hk with hk | hk
    · rw [hk]; exact h.2.1
    · exact Or.inr ⟨m, h.1.1, hk⟩
  · rcases Nat.lt_trichotomy k m with q | q | q
    · have := sub_next (nn σ) m k (stn σ) (stn_2n σ) h1 h.1.1 q
      omega
    · subst q; exact hd h3
    · have := h.2.2 k h1 q h3
      omega
theorem gin_end {σ : Sg} {y : Int} (h : gin σ 0 y) : y = (ga σ : Int) := by
  have hlt : ∀ k : Nat, k &&& stn σ = k → k < 2 ^ nn σ := fun k h1 => by
    have : k ≤ stn σ := by rw [← h1]; exact Nat.and_le_right
    exact Nat.lt_of_le_of_lt this (stn_2n σ)
  have h1 : y ≤ (ga σ : Int) := by
    rcases h.2.1 with h2 | ⟨k, h2, h3, h4⟩
    · omega
    · have := gar_max σ (2 ^ nn σ) k (hlt k h2) ((gok_iff (hlt k h2)).mpr ⟨h2, h3⟩)
      unfold ga
      omega
  have h2 : (ga σ : Int) ≤ y := by
    rcases gar_in σ (2 ^ nn σ) with h2 | ⟨k, h2, h3, h4⟩
    · have := h.1.2
      unfold ga
      omega
    · have h5 := (gok_iff h2).mp h3
      by_cases h6 : 0 < k
      · have := h.2.2 k h5.1 h6 h5.2
        unfold ga
        omega
      · have e : k = 0 := by omega
        rw [e, pcn_0] at h4
        have := h.1.2
        unfold ga
        omega
  omega
/-! ===== until ===== -/
theorem su_is {σ : Sg} {i : Nat} (hi : i ≤ 20) (h : ∀ j, j < i → ns (pbn σ j) ≠ 0) (h0 : ns (pbn σ i) = 0) : i = su σ := by
  unfold su
  exact (first_eq (fun j hj => decide_eq_false (h j hj)) hi (Or.inr (decide_eq_true h0))).symm
theorem uc_y {σ : Sg} {i : Nat} (hi : i < 60) (h : ∀ j, j < i → cadb (pbn σ j) = false) (h0 : cadb (pbn σ i) = true) : (i : Int) + 1 = uc σ := by
  unfold uc
  rw [first_eq (i := i) h (by omega) (Or.inr h0), if_pos hi]
theorem uc_n {σ : Sg} {i : Nat} (hi : i = 60) (h : ∀ j, j < i → cadb (pbn σ j) = false) : -1 = uc σ := by
  subst hi
  unfold uc
  rw [first_eq (i := 60) h (by omega) (Or.inl rfl)]
  rfl
theorem su_le (σ : Sg) : su σ ≤ 20 := fa_first_le _ _
theorem uc_rng (σ : Sg) : -1 ≤ uc σ ∧ uc σ ≤ 61 := by
  unfold uc
  have := fa_first_le (fun j => cadb (pbn σ j)) 60
  split <;> omega
theorem ga_le (σ : Sg) : ga σ ≤ 10 := gar_le _ _
theorem cof_rng {σ : Sg} (h : nn σ ≤ 10) (p : Nat) : 0 ≤ cof σ p ∧ cof σ p ≤ 10 := by
  have := ca_le σ p (σ 0 p)
  unfold cof
  split <;> omega
def fld (g : Nat → Int) (d : Int64) : Nat → Int64
  | 0 => d
  | j + 1 => dstep (fld g d j) (g j)
/-! ===== what a new object is ===== -/
theorem fld_s (g : Nat → Int) (d : Int64) (j : Nat) : fld g d j * (31 : Int64) + (J (g j)).toInt64 = fld g d (j + 1) := rfl
theorem fld_13 (g : Nat → Int) (d : Int64) : fld g d 13 = dstep (dstep (dstep (dstep (dstep (dstep (dstep (dstep (dstep (dstep (dstep (dstep (dstep d (g 0)) (g 1)) (g 2)) (g 3)) (g 4)) (g 5)) (g 6)) (g 7)) (g 8)) (g 9)) (g 10)) (g 11)) (g 12) := rfl
theorem fld_7 (g : Nat → Int) (d : Int64) : fld g d 7 = dstep (dstep (dstep (dstep (dstep (dstep (dstep d (g 0)) (g 1)) (g 2)) (g 3)) (g 4)) (g 5)) (g 6) := rfl
theorem dg0_e (σ : Sg) : dstep (dstep (dstep (dstep (dstep (dstep (dstep (dstep (dstep (dstep (dstep (dstep (dstep (2087 : Int64) (σ 5 3)) (σ 5 0)) (ns σ : Int)) (hm σ)) (ccl σ)) (hst σ)) (fl σ)) (bi (ic σ))) (σ 5 1)) (fm σ)) (su σ : Int)) (uc σ)) (ga σ : Int) = dg0 σ := by
  unfold dg0
  exact rfl
theorem dl_e (σ : Sg) (d : Int64) (i : Nat) : dstep (dstep (dstep (dstep (dstep (dstep (dstep (dl σ d i) (σ 4 i)) (σ 0 i)) (σ 1 i)) (σ 2 i)) (bi (sn σ i))) (cof σ i)) (btu σ i) = dl σ d (i + 1) := rfl
