/-! ===== what the document says, over the state ===== -/
def nn (σ : Sg) : Nat := (σ 5 3).toNat
def sn (σ : Sg) (p : Nat) : Bool := decide (0 < σ 1 p ∧ σ 3 p = 0)
def stp (a b : Int) : Int := (if 0 ≤ a - b then a - b else 0 - (a - b)) % 12
def ac (a b : Int) : Bool := decide (stp a b = 0 ∨ stp a b = 3 ∨ stp a b = 4 ∨ stp a b = 5 ∨ stp a b = 7 ∨ stp a b = 8 ∨ stp a b = 9)
/-- the pot o is another one, sounds, and clashes with the pitch v -/
def clp (σ : Sg) (p : Nat) (v : Int) (o : Nat) : Bool := decide (o ≠ p) && (sn σ o && !ac v (σ 0 o))
def ca (σ : Sg) (p : Nat) (v : Int) : Nat := fb_ct (clp σ p v) (nn σ)
def cs (σ : Sg) (p : Nat) : Nat := if sn σ p then ca σ p (σ 0 p) else 0
def cc2 (σ : Sg) : Nat := fb_sm (cs σ) (nn σ)
def ccl (σ : Sg) : Int := (cc2 σ : Int) / 2
def ns (σ : Sg) : Nat := fb_ct (sn σ) (nn σ)
def hm (σ : Sg) : Int := (ns σ : Int) * ((ns σ : Int) - 1) / 2 - 2 * ccl σ
def ic (σ : Sg) : Bool := decide (3 ≤ (ns σ : Int) ∧ ccl σ = 0)
def snp (σ : Sg) (t : Int) (p : Nat) : Bool := decide (σ 4 p = t) && sn σ p
/-- every number of a choir is in its range -/
def Inv (σ : Sg) : Prop := (0 ≤ σ 5 3 ∧ σ 5 3 ≤ 10) ∧ 0 ≤ σ 5 0 ∧ 0 ≤ σ 5 1 ∧ (0 ≤ σ 5 2 ∧ σ 5 2 ≤ 1) ∧
  ∀ p, p < 10 → (0 ≤ σ 0 p ∧ σ 0 p ≤ 35) ∧ (0 ≤ σ 1 p ∧ σ 1 p ≤ 20) ∧ (0 ≤ σ 2 p ∧ σ 2 p ≤ 9) ∧ (0 ≤ σ 3 p ∧ σ 3 p ≤ 1) ∧ (0 ≤ σ 4 p ∧ σ 4 p ≤ 3)
theorem Inv.hN {σ : Sg} (h : Inv σ) : σ 5 3 = (nn σ : Int) := by have := h.1; unfold nn; omega
theorem Inv.n10 {σ : Sg} (h : Inv σ) : nn σ ≤ 10 := by have := h.1; unfold nn; omega
theorem Inv.at {σ : Sg} (h : Inv σ) (p : Nat) (hp : p < 10) : (0 ≤ σ 0 p ∧ σ 0 p ≤ 35) ∧ (0 ≤ σ 1 p ∧ σ 1 p ≤ 20) ∧ (0 ≤ σ 2 p ∧ σ 2 p ≤ 9) ∧ (0 ≤ σ 3 p ∧ σ 3 p ≤ 1) ∧ (0 ≤ σ 4 p ∧ σ 4 p ≤ 3) := h.2.2.2.2 p hp
theorem J_t {b : Bool} (h : b = true) : J 1 = J (bi b) := by rw [h]; rfl
theorem J_f {b : Bool} (h : b = false) : J 0 = J (bi b) := by rw [h]; rfl
theorem zr_b (b : Bool) : narrow .boolean (.int (J (bi b))) = .int (J (bi b)) := by cases b <;> decide
theorem zf_b (b : Bool) : fits .boolean (.int (J (bi b))) = true := by cases b <;> decide
theorem ns_le (σ : Sg) : ns σ ≤ nn σ := fb_ct_le _ _
theorem ca_le (σ : Sg) (p : Nat) (v : Int) : ca σ p v ≤ nn σ := fb_ct_le _ _
theorem cs_le (σ : Sg) (p : Nat) : cs σ p ≤ nn σ := by
  unfold cs
  by_cases h : sn σ p = true
  · rw [if_pos h]; exact ca_le _ _ _
  · rw [if_neg h]; exact Nat.zero_le _
theorem cc2_le {σ : Sg} (h : nn σ ≤ 10) : cc2 σ ≤ 100 := by
  have h1 : fb_sm (cs σ) (nn σ) ≤ nn σ * nn σ := fb_sm_bound (fun k _ => cs_le σ k)
  have h2 : nn σ * nn σ ≤ 10 * 10 := Nat.mul_le_mul h h
  unfold cc2
  omega
theorem tri_b {n : Nat} (h : n ≤ 10) : 0 ≤ (n : Int) * ((n : Int) - 1) ∧ (n : Int) * ((n : Int) - 1) ≤ 90 := by
  have : ∀ n : Nat, n ≤ 10 → 0 ≤ (n : Int) * ((n : Int) - 1) ∧ (n : Int) * ((n : Int) - 1) ≤ 90 := by decide
  exact this n h
/-! changes keep the ranges -/
theorem upi_in {g : Nat → Int} {p q : Nat} {v lo hi : Int} (hv : lo ≤ v ∧ v ≤ hi) (h : lo ≤ g q ∧ g q ≤ hi) : lo ≤ upi g p v q ∧ upi g p v q ≤ hi := by
  unfold upi
  by_cases e : q = p
  · rw [if_pos e]; exact hv
  · rw [if_neg e]; exact h
theorem Inv.u0 {σ : Sg} (h : Inv σ) {p : Nat} {v : Int} (hv : 0 ≤ v ∧ v ≤ 35) : Inv (up σ 0 p v) := ⟨h.1, h.2.1, h.2.2.1, h.2.2.2.1, fun q hq => ⟨upi_in hv (h.at q hq).1, (h.at q hq).2⟩⟩
theorem Inv.u1 {σ : Sg} (h : Inv σ) {p : Nat} {v : Int} (hv : 0 ≤ v ∧ v ≤ 20) : Inv (up σ 1 p v) := ⟨h.1, h.2.1, h.2.2.1, h.2.2.2.1, fun q hq => ⟨(h.at q hq).1, upi_in hv (h.at q hq).2.1, (h.at q hq).2.2⟩⟩
theorem Inv.u2 {σ : Sg} (h : Inv σ) {p : Nat} {v : Int} (hv : 0 ≤ v ∧ v ≤ 9) : Inv (up σ 2 p v) := ⟨h.1, h.2.1, h.2.2.1, h.2.2.2.1, fun q hq => ⟨(h.at q hq).1, (h.at q hq).2.1, upi_in hv (h.at q hq).2.2.1, (h.at q hq).2.2.2⟩⟩
theorem Inv.u3 {σ : Sg} (h : Inv σ) {p : Nat} {v : Int} (hv : 0 ≤ v ∧ v ≤ 1) : Inv (up σ 3 p v) := ⟨h.1, h.2.1, h.2.2.1, h.2.2.2.1, fun q hq => ⟨(h.at q hq).1, (h.at q hq).2.1, (h.at q hq).2.2.1, upi_in hv (h.at q hq).2.2.2.1, (h.at q hq).2.2.2.2⟩⟩
theorem Inv.u4 {σ : Sg} (h : Inv σ) {p : Nat} {v : Int} (hv : 0 ≤ v ∧ v ≤ 3) : Inv (up σ 4 p v) := ⟨h.1, h.2.1, h.2.2.1, h.2.2.2.1, fun q hq => ⟨(h.at q hq).1, (h.at q hq).2.1, (h.at q hq).2.2.1, (h.at q hq).2.2.2.1, upi_in hv (h.at q hq).2.2.2.2⟩⟩
theorem Inv.u50 {σ : Sg} (h : Inv σ) {v : Int} (hv : 0 ≤ v) : Inv (up σ 5 0 v) := ⟨h.1, hv, h.2.2.1, h.2.2.2.1, h.2.2.2.2⟩
theorem Inv.u51 {σ : Sg} (h : Inv σ) {v : Int} (hv : 0 ≤ v) : Inv (up σ 5 1 v) := ⟨h.1, h.2.1, hv, h.2.2.2.1, h.2.2.2.2⟩
theorem Inv.u52 {σ : Sg} (h : Inv σ) {v : Int} (hv : 0 ≤ v ∧ v ≤ 1) : Inv (up σ 5 2 v) := ⟨h.1, h.2.1, h.2.2.1, hv, h.2.2.2.2⟩
theorem Inv.u53 {σ : Sg} (h : Inv σ) {v : Int} (hv : 0 ≤ v ∧ v ≤ 10) : Inv (up σ 5 3 v) := ⟨hv, h.2.1, h.2.2.1, h.2.2.2.1, h.2.2.2.2⟩
theorem up_id (σ : Sg) (f i : Nat) : up σ f i (σ f i) = σ := by
  funext g k
  unfold up upi
  by_cases h : g = f
  · subst h
    rw [if_pos rfl]
    by_cases e : k = i
    · subst e; rw [if_pos rfl]
    · rw [if_neg e]
  · rw [if_neg h]
theorem up_same {σ : Sg} {f i : Nat} {v : Int} (h : v = σ f i) : up σ f i v = σ := by rw [h]; exact up_id σ f i
/-! the one who clashes with the most -/
def fv (σ : Sg) (i : Nat) : Int := if sn σ i then (ca σ i (σ 0 i) : Int) else -1
def fmr (σ : Sg) : Nat → Int × Int
  | 0 => (-1, -1)
  | i + 1 => if (fmr σ i).2 < fv σ i then ((i : Int), fv σ i) else fmr σ i
def fm (σ : Sg) : Int := (fmr σ (nn σ)).1
theorem fmr_y {σ : Sg} {i : Nat} {x y v : Int} (q : fmr σ i = (x, y)) (hv : fv σ i = v) (h : y < v) : fmr σ (i + 1) = ((i : Int), v) := by
  show (if (fmr σ i).2 < fv σ i then ((i : Int), fv σ i) else fmr σ i) = _
  rw [q, hv, if_pos h]
theorem fmr_n {σ : Sg} {i : Nat} {x y v : Int} (q : fmr σ i = (x, y)) (hv : fv σ i = v) (h : ¬ y < v) : fmr σ (i + 1) = (x, y) := by
  show (if (fmr σ i).2 < fv σ i then ((i : Int), fv σ i) else fmr σ i) = _
  rw [q, hv, if_neg h]
/-! the lowest one -/
def flr (σ : Sg) : Nat → Int × Int
  | 0 => (-1, 36)
  | i + 1 => if sn σ i = true ∧ σ 0 i < (flr σ i).2 then ((i : Int), σ 0 i) else flr σ i
def fl (σ : Sg) : Int := (flr σ (nn σ)).1
theorem flr_y {σ : Sg} {i : Nat} {x y : Int} (q : flr σ i = (x, y)) (h : sn σ i = true) (h2 : σ 0 i < y) : flr σ (i + 1) = ((i : Int), σ 0 i) := by
  show (if sn σ i = true ∧ σ 0 i < (flr σ i).2 then ((i : Int), σ 0 i) else flr σ i) = _
  rw [q, if_pos ⟨h, h2⟩]
theorem flr_n {σ : Sg} {i : Nat} {x y : Int} (q : flr σ i = (x, y)) (h : ¬ (sn σ i = true ∧ σ 0 i < y)) : flr σ (i + 1) = (x, y) := by
  show (if sn σ i = true ∧ σ 0 i < (flr σ i).2 then ((i : Int), σ 0 i) else flr σ i) = _
  rw [q, if_neg h]
/-! the best tuning -/
abbrev iab (z : Int) : Int := if 0 ≤ z then z else 0 - z
def ftr (σ : Sg) (p : Nat) : Nat → Int × Int
  | 0 => (0, (ca σ p (σ 0 p) : Int))
  | k + 1 => if (0 ≤ σ 0 p + ((k : Int) - 12) ∧ σ 0 p + ((k : Int) - 12) ≤ 35) ∧ ((ca σ p (σ 0 p + ((k : Int) - 12)) : Int) < (ftr σ p k).2 ∨ ((ca σ p (σ 0 p + ((k : Int) - 12)) : Int) = (ftr σ p k).2 ∧ iab ((k : Int) - 12) ≤ iab (ftr σ p k).1)) then ((k : Int) - 12, (ca σ p (σ 0 p + ((k : Int) - 12)) : Int)) else ftr σ p k
def ft (σ : Sg) (p : Nat) : Int := (ftr σ p 25).1
theorem ftr_y {σ : Sg} {p k : Nat} {x y b : Int} (hb : b = (k : Int) - 12) (q : ftr σ p k = (x, y)) (h1 : 0 ≤ σ 0 p + b ∧ σ 0 p + b ≤ 35) (h2 : (ca σ p (σ 0 p + b) : Int) < y ∨ ((ca σ p (σ 0 p + b) : Int) = y ∧ iab b ≤ iab x)) : ftr σ p (k + 1) = (b, (ca σ p (σ 0 p + b) : Int)) := by
  subst hb
  unfold ftr
  rw [q, if_pos ⟨h1, h2⟩]
theorem ftr_n {σ : Sg} {p k : Nat} {x y b : Int} (hb : b = (k : Int) - 12) (q : ftr σ p k = (x, y)) (h : ¬ ((0 ≤ σ 0 p + b ∧ σ 0 p + b ≤ 35) ∧ ((ca σ p (σ 0 p + b) : Int) < y ∨ ((ca σ p (σ 0 p + b) : Int) = y ∧ iab b ≤ iab x)))) : ftr σ p (k + 1) = (x, y) := by
  subst hb
  unfold ftr
  rw [q, if_neg h]
/-! a beat -/
def wte (σ : Sg) (p : Nat) : Int := max 0 (σ 1 p - 1 - σ 2 p / 3)
def wcr (σ : Sg) (p : Nat) : Int := if 24 ≤ σ 0 p ∧ σ 5 0 % 4 = 0 then min 9 (σ 2 p + 1) else σ 2 p
def wpi (σ : Sg) (p : Nat) : Int := if 5 ≤ wcr σ p then max 0 (σ 0 p - 1) else σ 0 p
def wear (σ : Sg) (p : Nat) : Sg := up (up (up σ 1 p (wte σ p)) 2 p (wcr σ p)) 0 p (wpi σ p)
theorem wear_tt {σ : Sg} {p : Nat} (h1 : 24 ≤ σ 0 p ∧ σ 5 0 % 4 = 0) (h2 : 5 ≤ min 9 (σ 2 p + 1)) : wear σ p = up (up (up σ 1 p (max 0 (σ 1 p - 1 - σ 2 p / 3))) 2 p (min 9 (σ 2 p + 1))) 0 p (max 0 (σ 0 p - 1)) := by
  unfold wear wpi wcr wte
  rw [if_pos h1, if_pos h2]
theorem wear_tf {σ : Sg} {p : Nat} (h1 : 24 ≤ σ 0 p ∧ σ 5 0 % 4 = 0) (h2 : ¬ 5 ≤ min 9 (σ 2 p + 1)) : wear σ p = up (up σ 1 p (max 0 (σ 1 p - 1 - σ 2 p / 3))) 2 p (min 9 (σ 2 p + 1)) := by
  unfold wear wpi wcr wte
  rw [if_pos h1, if_neg h2]
  exact up_same rfl
theorem wear_ft {σ : Sg} {p : Nat} (h1 : ¬ (24 ≤ σ 0 p ∧ σ 5 0 % 4 = 0)) (h2 : 5 ≤ σ 2 p) : wear σ p = up (up σ 1 p (max 0 (σ 1 p - 1 - σ 2 p / 3))) 0 p (max 0 (σ 0 p - 1)) := by
  unfold wear wpi wcr wte
  rw [if_neg h1, if_pos h2, up_same (σ := up σ 1 p (max 0 (σ 1 p - 1 - σ 2 p / 3))) (f := 2) (i := p) (v := σ 2 p) rfl]
theorem wear_ff {σ : Sg} {p : Nat} (h1 : ¬ (24 ≤ σ 0 p ∧ σ 5 0 % 4 = 0)) (h2 : ¬ 5 ≤ σ 2 p) : wear σ p = up σ 1 p (max 0 (σ 1 p - 1 - σ 2 p / 3)) := by
  unfold wear wpi wcr wte
  rw [if_neg h1, if_neg h2, up_same (σ := up σ 1 p (max 0 (σ 1 p - 1 - σ 2 p / 3))) (f := 2) (i := p) (v := σ 2 p) rfl]
  exact up_same rfl
theorem Inv.hwear {σ : Sg} (h : Inv σ) {p : Nat} (hp : p < 10) : Inv (wear σ p) := by
  have hb := h.at p hp
  have h1 : 0 ≤ wte σ p ∧ wte σ p ≤ 20 := by unfold wte; omega
  have h2 : 0 ≤ wcr σ p ∧ wcr σ p ≤ 9 := by unfold wcr; split <;> omega
  have h3 : 0 ≤ wpi σ p ∧ wpi σ p ≤ 35 := by unfold wpi; split <;> omega
  exact ((h.u1 h1).u2 h2).u0 h3
def ps (σ : Sg) (i : Nat) : Sg := if sn σ i = true then wear σ i else if σ 3 i = 1 ∧ σ 5 0 % 3 = 0 then up σ 2 i (max 0 (σ 2 i - 1)) else σ
def lp (σ : Sg) : Nat → Sg
  | 0 => σ
  | i + 1 => ps (lp σ i) i
theorem lp_sn {σ : Sg} {i : Nat} (h : sn (lp σ i) i = true) : lp σ (i + 1) = wear (lp σ i) i := by
  show ps (lp σ i) i = _
  unfold ps
  rw [if_pos h]
theorem lp_co {σ : Sg} {i : Nat} (h : sn (lp σ i) i = false) (h2 : lp σ i 3 i = 1) (h3 : lp σ i 5 0 % 3 = 0) : lp σ (i + 1) = up (lp σ i) 2 i (max 0 (lp σ i 2 i - 1)) := by
  show ps (lp σ i) i = _
  unfold ps
  rw [if_neg (by rw [h]; decide), if_pos ⟨h2, h3⟩]
theorem lp_no {σ : Sg} {i : Nat} (h : sn (lp σ i) i = false) (h2 : ¬ (lp σ i 3 i = 1 ∧ lp σ i 5 0 % 3 = 0)) : lp σ (i + 1) = lp σ i := by
  show ps (lp σ i) i = _
  unfold ps
  rw [if_neg (by rw [h]; decide), if_neg h2]
theorem ps_5 (σ : Sg) (i : Nat) : ps σ i 5 = σ 5 := by
  unfold ps
  by_cases h : sn σ i = true
  · rw [if_pos h]; rfl
  · rw [if_neg h]
    by_cases h2 : σ 3 i = 1 ∧ σ 5 0 % 3 = 0
    · rw [if_pos h2]; rfl
    · rw [if_neg h2]
theorem lp_5 (σ : Sg) : ∀ i, lp σ i 5 = σ 5
  | 0 => rfl
  | i + 1 => (ps_5 _ _).trans (lp_5 σ i)
theorem Inv.hps {σ : Sg} (h : Inv σ) {i : Nat} (hi : i < 10) : Inv (ps σ i) := by
  show Inv (if sn σ i = true then wear σ i else if σ 3 i = 1 ∧ σ 5 0 % 3 = 0 then up σ 2 i (max 0 (σ 2 i - 1)) else σ)
  have hb := h.at i hi
  by_cases h1 : sn σ i = true
  · rw [if_pos h1]; exact h.hwear hi
  · rw [if_neg h1]
    by_cases h2 : σ 3 i = 1 ∧ σ 5 0 % 3 = 0
    · rw [if_pos h2]; exact h.u2 (by omega)
    · rw [if_neg h2]; exact h
theorem Inv.hlp {σ : Sg} (h : Inv σ) : ∀ {i : Nat}, i ≤ 10 → Inv (lp σ i)
  | 0, _ => h
  | i + 1, hi => (Inv.hlp h (i := i) (by omega)).hps (by omega)
/-- is there a cadence as this beat begins -/
def cadb (σ : Sg) : Bool := decide (σ 5 2 = 1) && ic σ
def pb0 (σ : Sg) : Sg := up (up σ 5 1 (σ 5 1 + bi (cadb σ))) 5 2 (bi (decide (0 < ccl σ)))
def pb (σ : Sg) : Sg := up (lp (pb0 σ) (nn σ)) 5 0 (σ 5 0 + 1)
theorem Inv.hpb0 {σ : Sg} (h : Inv σ) : Inv (pb0 σ) := (h.u51 (by have := bi_rng (cadb σ); have := h.2.2.1; omega)).u52 (bi_rng _)
theorem Inv.hpb {σ : Sg} (h : Inv σ) : Inv (pb σ) := (h.hpb0.hlp h.n10).u50 (by have := h.2.1; omega)
theorem pb_50 (σ : Sg) : pb σ 5 0 = σ 5 0 + 1 := rfl
theorem pb_51 (σ : Sg) : pb σ 5 1 = σ 5 1 + bi (cadb σ) := by
  show lp (pb0 σ) (nn σ) 5 1 = _
  rw [lp_5]
  rfl
theorem pb_53 (σ : Sg) : pb σ 5 3 = σ 5 3 := by
  show lp (pb0 σ) (nn σ) 5 3 = _
  rw [lp_5]
  rfl
def pbn (σ : Sg) : Nat → Sg
  | 0 => σ
  | i + 1 => pb (pbn σ i)
theorem Inv.hpbn {σ : Sg} (h : Inv σ) : ∀ i, Inv (pbn σ i)
  | 0 => h
  | i + 1 => (Inv.hpbn h i).hpb
theorem pbn_50 (σ : Sg) : ∀ i : Nat, pbn σ i 5 0 = σ 5 0 + i
  | 0 => by show σ 5 0 = σ 5 0 + 0; omega
  | i + 1 => by show pb (pbn σ i) 5 0 = _; rw [pb_50, pbn_50 σ i]; omega
theorem pbn_51 (σ : Sg) : ∀ i : Nat, σ 5 1 ≤ pbn σ i 5 1 ∧ pbn σ i 5 1 ≤ σ 5 1 + i
  | 0 => by show σ 5 1 ≤ σ 5 1 ∧ σ 5 1 ≤ σ 5 1 + 0; omega
  | i + 1 => by show σ 5 1 ≤ pb (pbn σ i) 5 1 ∧ pb (pbn σ i) 5 1 ≤ _; have h1 := pbn_51 σ i; have h2 := bi_rng (cadb (pbn σ i)); rw [pb_51]; omega
theorem zf_01 {z : Int} (h : 0 ≤ z ∧ z ≤ 1) : fits .boolean (.int (J z)) = true := by
  rcases (show z = 0 ∨ z = 1 by omega) with e | e <;> subst e <;> decide
/-- a state by its rows -/
def mkS (r0 r1 r2 r3 r4 : Nat → Int) (b c d n : Int) : Sg := fun f => match f with
  | 0 => r0
  | 1 => r1
  | 2 => r2
  | 3 => r3
  | 4 => r4
  | _ => fun k => if k = 0 then b else if k = 1 then c else if k = 2 then d else n
theorem ccl_rng {σ : Sg} (h : nn σ ≤ 10) : 0 ≤ ccl σ ∧ ccl σ ≤ 50 := by
  have := cc2_le h
  unfold ccl
  omega
theorem pb_eq (σ : Sg) : pb σ = up (lp (pb0 σ) (nn σ)) 5 0 (lp (pb0 σ) (nn σ) 5 0 + 1) := by
  show up (lp (pb0 σ) (nn σ)) 5 0 (σ 5 0 + 1) = _
  rw [show lp (pb0 σ) (nn σ) 5 0 = σ 5 0 by rw [lp_5]; rfl]
