def stn (σ : Sg) : Nat := bm (sn σ) (nn σ)
theorem stn_lt {σ : Sg} (h : nn σ ≤ 10) : stn σ < 1024 := bm_1024 _ h
theorem stn_bit (σ : Sg) (p : Nat) : (stn σ).testBit p = (decide (p < nn σ) && sn σ p) := bm_bit _ _ _
def agp (σ : Sg) (p m o : Nat) : Bool := m.testBit o && !ac (σ 0 p) (σ 0 o)
def ag (σ : Sg) (p m : Nat) : Nat := fb_ct (agp σ p m) (nn σ)
def asm (σ : Sg) (m p : Nat) : Nat := if m.testBit p = true then ag σ p m else 0
def acl (σ : Sg) (m : Nat) : Int := (fb_sm (asm σ m) (nn σ) : Int) / 2
def hmo (σ : Sg) (m : Nat) : Int := (pcn m : Int) * ((pcn m : Int) - 1) / 2 - 2 * acl σ m
theorem ag_le (σ : Sg) (p m : Nat) : ag σ p m ≤ nn σ := fb_ct_le _ _
theorem asm_le (σ : Sg) (m p : Nat) : asm σ m p ≤ nn σ := by
  unfold asm
  split
  · exact ag_le _ _ _
  · exact Nat.zero_le _
theorem asm_sum {σ : Sg} (h : nn σ ≤ 10) (m : Nat) : fb_sm (asm σ m) (nn σ) ≤ 100 := by
  have h1 : fb_sm (asm σ m) (nn σ) ≤ nn σ * nn σ := fb_sm_bound (fun k _ => asm_le σ m k)
  have h2 : nn σ * nn σ ≤ 10 * 10 := Nat.mul_le_mul h h
  omega
theorem acl_rng {σ : Sg} (h : nn σ ≤ 10) (m : Nat) : 0 ≤ acl σ m ∧ acl σ m ≤ 50 := by
  have := asm_sum h m
  unfold acl
  omega
theorem ac_refl (x : Int) : ac x x = true := by
  unfold ac stp
  rw [Int.sub_self]
  decide
theorem ac_comm (x y : Int) : ac x y = ac y x := by
  unfold ac
  rw [show stp x y = stp y x by unfold stp; congr 1; split <;> split <;> omega]
theorem ag_set (σ : Sg) (p : Nat) : ag σ p (stn σ) = ca σ p (σ 0 p) := by
  unfold ag ca
  refine fb_ct_cong (fun o ho => ?_)
  unfold agp clp
  rw [stn_bit, decide_eq_true ho, Bool.true_and]
  by_cases h : o = p
  · subst h; rw [ac_refl]; simp
  · rw [decide_eq_true h, Bool.true_and]
theorem asm_set (σ : Sg) {p : Nat} (hp : p < nn σ) : asm σ (stn σ) p = cs σ p := by
  unfold asm cs
  rw [stn_bit, decide_eq_true hp, Bool.true_and, ag_set]
theorem acl_set (σ : Sg) : acl σ (stn σ) = ccl σ := by
  unfold acl ccl cc2
  rw [fb_sm_cong (fun k hk => asm_set σ hk)]
theorem pcn_bm (f : Nat → Bool) {n : Nat} (h : n ≤ 10) : pcn (bm f n) = fb_ct f n := by
  unfold pcn
  obtain ⟨k, hk⟩ := Nat.exists_eq_add_of_le h
  rw [hk, fb_ct_split]
  have h1 : fb_ct (fun j => (bm f n).testBit j) n = fb_ct f n := fb_ct_cong (fun j hj => by rw [bm_bit, decide_eq_true hj, Bool.true_and])
  have h2 : fb_ct (fun j => (bm f n).testBit (n + j)) k = 0 := fb_ct_zero.mpr (fun j hj => by rw [bm_bit, decide_eq_false (by omega), Bool.false_and])
  rw [h1, h2]
  omega
theorem pcn_set {σ : Sg} (h : nn σ ≤ 10) : pcn (stn σ) = ns σ := pcn_bm _ h
theorem hmo_set {σ : Sg} (h : nn σ ≤ 10) : hmo σ (stn σ) = hm σ := by
  unfold hmo hm
  rw [pcn_set h, acl_set]
theorem acb {x y : Int} : (J 953 >>> (J (stp x y) &&& 31)) &&& J 1 = J (bi (ac x y)) := by
  unfold ac
  have h : 0 ≤ stp x y ∧ stp x y < 12 := by unfold stp; omega
  generalize stp x y = t at h ⊢
  rcases (show t = 0 ∨ t = 1 ∨ t = 2 ∨ t = 3 ∨ t = 4 ∨ t = 5 ∨ t = 6 ∨ t = 7 ∨ t = 8 ∨ t = 9 ∨ t = 10 ∨ t = 11 by omega) with e | e | e | e | e | e | e | e | e | e | e | e <;> subst e <;> decide +kernel
/-! a beat, the reference's way -/
theorem up_comm (σ : Sg) {f g : Nat} (h : f ≠ g) (i j : Nat) (v w : Int) : up (up σ f i v) g j w = up (up σ g j w) f i v := by
  funext r k
  unfold up
  by_cases h1 : r = g
  · subst h1
    rw [if_pos rfl, if_neg (fun e => h e.symm), if_neg (fun e => h e.symm), if_pos rfl]
  · rw [if_neg h1]
    by_cases h2 : r = f
    · subst h2; rw [if_pos rfl, if_pos rfl, if_neg h1]
    · rw [if_neg h2, if_neg h2, if_neg h1]
theorem wear_5 (σ : Sg) (p k : Nat) (v : Int) (hk : k ≠ 0) : wear (up σ 5 k v) p = up (wear σ p) 5 k v := by
  have h50 : up σ 5 k v 5 0 = σ 5 0 := upi_n _ _ (fun e => hk e.symm)
  have hc : wcr (up σ 5 k v) p = wcr σ p := by
    show (if 24 ≤ σ 0 p ∧ up σ 5 k v 5 0 % 4 = 0 then min 9 (σ 2 p + 1) else σ 2 p) = _
    rw [h50]; rfl
  have hp : wpi (up σ 5 k v) p = wpi σ p := by
    show (if 5 ≤ wcr (up σ 5 k v) p then max 0 (σ 0 p - 1) else σ 0 p) = _
    rw [hc]; rfl
  have ht : wte (up σ 5 k v) p = wte σ p := rfl
  unfold wear
  rw [hc, hp, ht, up_comm σ (by decide), up_comm (up σ 1 p (wte σ p)) (by decide), up_comm (up (up σ 1 p (wte σ p)) 2 p (wcr σ p)) (by decide)]
theorem ps_up5 (σ : Sg) (i k : Nat) (v : Int) (hk : k ≠ 0) : ps (up σ 5 k v) i = up (ps σ i) 5 k v := by
  have h50 : up σ 5 k v 5 0 = σ 5 0 := upi_n _ _ (fun e => hk e.symm)
  show (if sn σ i = true then wear (up σ 5 k v) i else if σ 3 i = 1 ∧ up σ 5 k v 5 0 % 3 = 0 then up (up σ 5 k v) 2 i (max 0 (σ 2 i - 1)) else up σ 5 k v) = _
  unfold ps
  rw [h50]
  by_cases h1 : sn σ i = true
  · rw [if_pos h1, if_pos h1, wear_5 σ i k v hk]
  · rw [if_neg h1, if_neg h1]
    by_cases h2 : σ 3 i = 1 ∧ σ 5 0 % 3 = 0
    · rw [if_pos h2, if_pos h2, up_comm σ (by decide)]
    · rw [if_neg h2, if_neg h2]
theorem lp_up5 (σ : Sg) (k : Nat) (v : Int) (hk : k ≠ 0) : ∀ i, lp (up σ 5 k v) i = up (lp σ i) 5 k v
  | 0 => rfl
  | i + 1 => by
    show ps (lp (up σ 5 k v) i) i = up (ps (lp σ i) i) 5 k v
    rw [lp_up5 σ k v hk i, ps_up5 _ _ _ _ hk]
theorem pb_mod (σ : Sg) : pb σ = up (up (up (lp σ (nn σ)) 5 1 (σ 5 1 + bi (cadb σ))) 5 2 (bi (decide (0 < ccl σ)))) 5 0 (σ 5 0 + 1) := by
  unfold pb pb0
  rw [lp_up5 _ 2 _ (by decide), lp_up5 _ 1 _ (by decide)]
theorem ps_ge (σ : Sg) (i : Nat) {f k : Nat} (hf : f < 5) (hk : i < k) : ps σ i f k = σ f k := by
  have hu : ∀ (τ : Sg) (g : Nat) (v : Int), up τ g i v f k = τ f k := fun τ g v => by
    unfold up
    by_cases h : f = g
    · subst h; rw [if_pos rfl]; exact upi_n _ _ (by omega)
    · rw [if_neg h]
  unfold ps
  by_cases h1 : sn σ i = true
  · rw [if_pos h1]
    unfold wear
    rw [hu, hu, hu]
  · rw [if_neg h1]
    by_cases h2 : σ 3 i = 1 ∧ σ 5 0 % 3 = 0
    · rw [if_pos h2, hu]
    · rw [if_neg h2]
theorem lp_ge (σ : Sg) {f k : Nat} (hf : f < 5) : ∀ i, i ≤ k → lp σ i f k = σ f k
  | 0, _ => rfl
  | i + 1, h => by
    show ps (lp σ i) i f k = _
    rw [ps_ge _ i hf (by omega), lp_ge σ hf i (by omega)]
theorem lp_sni (σ : Sg) (i : Nat) : sn (lp σ i) i = sn σ i := by
  unfold sn
  rw [lp_ge σ (by decide) i (Nat.le_refl i), lp_ge σ (by decide) i (Nat.le_refl i)]
theorem ps_3 (σ : Sg) (i : Nat) : ps σ i 3 = σ 3 := by
  unfold ps
  by_cases h1 : sn σ i = true
  · rw [if_pos h1]; rfl
  · rw [if_neg h1]
    by_cases h2 : σ 3 i = 1 ∧ σ 5 0 % 3 = 0
    · rw [if_pos h2]; rfl
    · rw [if_neg h2]
theorem lp_3 (σ : Sg) : ∀ i, lp σ i 3 = σ 3
  | 0 => rfl
  | i + 1 => (ps_3 _ _).trans (lp_3 σ i)
theorem pb_mod2 (σ : Sg) : pb σ = up (up (up (lp σ (nn σ)) 5 1 (lp σ (nn σ) 5 1 + bi (cadb σ))) 5 2 (bi (decide (0 < ccl σ)))) 5 0 (lp σ (nn σ) 5 0 + 1) := by
  have h := lp_5 σ (nn σ)
  rw [pb_mod, h]
theorem ps_4 (σ : Sg) (i : Nat) : ps σ i 4 = σ 4 := by
  unfold ps
  by_cases h1 : sn σ i = true
  · rw [if_pos h1]; rfl
  · rw [if_neg h1]
    by_cases h2 : σ 3 i = 1 ∧ σ 5 0 % 3 = 0
    · rw [if_pos h2]; rfl
    · rw [if_neg h2]
theorem lp_4 (σ : Sg) : ∀ i, lp σ i 4 = σ 4
  | 0 => rfl
  | i + 1 => (ps_4 _ _).trans (lp_4 σ i)
theorem pbn_3 (σ : Sg) : ∀ i, pbn σ i 3 = σ 3
  | 0 => rfl
  | i + 1 => by show lp (pb0 (pbn σ i)) _ 3 = _; rw [lp_3]; exact pbn_3 σ i
theorem pbn_4 (σ : Sg) : ∀ i, pbn σ i 4 = σ 4
  | 0 => rfl
  | i + 1 => by show lp (pb0 (pbn σ i)) _ 4 = _; rw [lp_4]; exact pbn_4 σ i
theorem pbn_53 (σ : Sg) : ∀ i, pbn σ i 5 3 = σ 5 3
  | 0 => rfl
  | i + 1 => (pb_53 _).trans (pbn_53 σ i)
