/-! ===== what the document says, over the state ===== -/
def nn (σ : Sg) : Nat := (σ 5 3).toNat
def sn (σ : Sg) (p : Nat) : Bool := decide (0 < σ 1 p ∧ σ 3 p = 0)
def stp (a b : Int) : Int := (if 0 ≤ a - b then a - b else 0 - (a - b)) % 12
def ac (a b : Int) : Bool := decide (stp a b = 0 ∨ stp a b = 3 ∨ stp a b = 4 ∨ stp a b = 5 ∨ stp a b = 7 ∨ stp a b = 8 ∨ stp a b = 9)
/-- the pot o is another one, sounds, and clashes with the pitch v -/
def clp (σ : Sg) (p : Nat) (v : Int) (o : Nat) : Bool := decide (o ≠ p) && (sn σ o && !ac v (σ 0 o))
def ca (σ : Sg) (p : Nat) (v : Int) : Nat := fb_ct (clp σ p v) (nn σ)
def cs (σ : Sg) (p : Nat) : Nat := if sn σ p then ca σ p (σ 0 p) else 0
def cc2 (σ : Sg) : Nat := fb_sm (cs σ) (nn σ)
def ccl (σ : Sg) : Int := (cc2 σ : Int) / 2
def ns (σ : Sg) : Nat := fb_ct (sn σ) (nn σ)
def hm (σ : Sg) : Int := (ns σ : Int) * ((ns σ : Int) - 1) / 2 - 2 * ccl σ
def ic (σ : Sg) : Bool := decide (3 ≤ (ns σ : Int) ∧ ccl σ = 0)
def snp (σ : Sg) (t : Int) (p : Nat) : Bool := decide (σ 4 p = t) && sn σ p
/-- every number of a choir is in its range -/
def Inv (σ : Sg) : Prop := (0 ≤ σ 5 3 ∧ σ 5 3 ≤ 10) ∧ 0 ≤ σ 5 0 ∧ (0 ≤ σ 5 1 ∧ σ 5 1 ≤ σ 5 0) ∧ (0 ≤ σ 5 2 ∧ σ 5 2 ≤ 1) ∧
  ∀ p, p < 10 → (0 ≤ σ 0 p ∧ σ 0 p ≤ 35) ∧ (0 ≤ σ 1 p ∧ σ 1 p ≤ 20) ∧ (0 ≤ σ 2 p ∧ σ 2 p ≤ 9) ∧ (0 ≤ σ 3 p ∧ σ 3 p ≤ 1) ∧ (0 ≤ σ 4 p ∧ σ 4 p ≤ 3)
theorem Inv.hN {σ : Sg} (h : Inv σ) : σ 5 3 = (nn σ : Int) := by have := h.1; unfold nn; omega
theorem Inv.n10 {σ : Sg} (h : Inv σ) : nn σ ≤ 10 := by have := h.1; unfold nn; omega
theorem Inv.at {σ : Sg} (h : Inv σ) (p : Nat) (hp : p < 10) : (0 ≤ σ 0 p ∧ σ 0 p ≤ 35) ∧ (0 ≤ σ 1 p ∧ σ 1 p ≤ 20) ∧ (0 ≤ σ 2 p ∧ σ 2 p ≤ 9) ∧ (0 ≤ σ 3 p ∧ σ 3 p ≤ 1) ∧ (0 ≤ σ 4 p ∧ σ 4 p ≤ 3) := h.2.2.2.2 p hp
theorem J_t {b : Bool} (h : b = true) : J 1 = J (bi b) := by rw [h]; rfl
theorem J_f {b : Bool} (h : b = false) : J 0 = J (bi b) := by rw [h]; rfl
theorem zr_b (b : Bool) : narrow .boolean (.int (J (bi b))) = .int (J (bi b)) := by cases b <;> decide
theorem zf_b (b : Bool) : fits .boolean (.int (J (bi b))) = true := by cases b <;> decide
theorem ns_le (σ : Sg) : ns σ ≤ nn σ := fb_ct_le _ _
theorem ca_le (σ : Sg) (p : Nat) (v : Int) : ca σ p v ≤ nn σ := fb_ct_le _ _
theorem cs_le (σ : Sg) (p : Nat) : cs σ p ≤ nn σ := by
  unfold cs
  by_cases h : sn σ p = true
  · rw [if_pos h]; exact ca_le _ _ _
  · rw [if_neg h]; exact Nat.zero_le _
theorem cc2_le {σ : Sg} (h : nn σ ≤ 10) : cc2 σ ≤ 100 := by
  have h1 : fb_sm (cs σ) (nn σ) ≤ nn σ * nn σ := fb_sm_bound (fun k _ => cs_le σ k)
  have h2 : nn σ * nn σ ≤ 10 * 10 := Nat.mul_le_mul h h
  unfold cc2
  omega
