/-! ===== numbers: J z is the int of the whole number z ===== -/
def J (z : Int) : Int32 := Int32.ofInt z
abbrev InR (z : Int) : Prop := -2147483648 ≤ z ∧ z < 2147483648
theorem J_toInt {z : Int} (h : InR z) : (J z).toInt = z := Int32.toInt_ofInt_of_le (by have := h.1; omega) (by have := h.2; omega)
theorem J_of (x : Int32) : J x.toInt = x := Int32.ofInt_toInt x
theorem J_rng (x : Int32) : InR x.toInt := ⟨by have := x.le_toInt; omega, by have := x.toInt_lt; omega⟩
theorem J_ex (x : Int32) : ∃ z : Int, InR z ∧ x = J z := ⟨x.toInt, J_rng x, (J_of x).symm⟩
theorem J_add (a b : Int) : J a + J b = J (a + b) := (Int32.ofInt_add a b).symm
theorem J_sub (a b : Int) : J a - J b = J (a - b) := (Int32.ofInt_sub a b).symm
theorem J_mul (a b : Int) : J a * J b = J (a * b) := (Int32.ofInt_mul a b).symm
theorem J_neg (a : Int) : -J a = J (-a) := (Int32.ofInt_neg a).symm
theorem J_inj {a b : Int} (ha : InR a) (hb : InR b) : J a = J b ↔ a = b := ⟨fun h => by rw [← J_toInt ha, ← J_toInt hb, h], fun h => by rw [h]⟩
theorem J_le {a b : Int} (ha : InR a) (hb : InR b) : J a ≤ J b ↔ a ≤ b := by rw [Int32.le_iff_toInt_le, J_toInt ha, J_toInt hb]
theorem J_lt {a b : Int} (ha : InR a) (hb : InR b) : J a < J b ↔ a < b := by rw [Int32.lt_iff_toInt_lt, J_toInt ha, J_toInt hb]
theorem J_0 : J 0 = 0 := rfl
theorem J_eq0 {a : Int} (ha : InR a) : J a = 0 ↔ a = 0 := by rw [← J_0, J_inj ha (by constructor <;> decide)]
theorem J_lt0 {a : Int} (ha : InR a) : J a < 0 ↔ a < 0 := by rw [← J_0, J_lt ha (by constructor <;> decide)]
theorem J_le0 {a : Int} (ha : InR a) : J a ≤ 0 ↔ a ≤ 0 := by rw [← J_0, J_le ha (by constructor <;> decide)]
theorem J_0lt {a : Int} (ha : InR a) : 0 < J a ↔ 0 < a := by rw [← J_0, J_lt (by constructor <;> decide) ha]
theorem J_0le {a : Int} (ha : InR a) : 0 ≤ J a ↔ 0 ≤ a := by rw [← J_0, J_le (by constructor <;> decide) ha]
theorem J_clamp {z : Int} {i : Nat} (hz : z = (i : Int)) (hi : i < 2147483648) : (J z).toNatClampNeg = i := by
  subst hz
  show (J (i : Int)).toInt.toNat = i
  rw [J_toInt ⟨by omega, by omega⟩]
  rfl
theorem J_in {z : Int} {i n : Nat} (hz : z = (i : Int)) (hi : i < n) (hn : n < 2147483648) : vp_in (J z) n := by
  rw [vp_in_iff, J_toInt ⟨by omega, by omega⟩]
  omega
theorem J_div {a d : Int} (h0 : 0 ≤ a) (ha : a < 2147483648) (d0 : 0 < d) (hd : d < 2147483648) : J a / J d = J (a / d) := by
  refine Int32.toInt_inj.mp ?_
  have h1 : J d ≠ -1 := by
    intro h
    have : (J d).toInt = -1 := by rw [h]; rfl
    rw [J_toInt ⟨by omega, hd⟩] at this
    omega
  have h2 : 0 ≤ a / d := Int.ediv_nonneg h0 (by omega)
  have h3 : a / d ≤ a := Int.ediv_le_self d h0
  rw [Int32.toInt_div_of_ne_right _ _ h1, J_toInt ⟨by omega, ha⟩, J_toInt ⟨by omega, hd⟩, J_toInt ⟨by omega, by omega⟩, Int.tdiv_eq_ediv_of_nonneg h0]
theorem J_rem {a d : Int} (h0 : 0 ≤ a) (ha : a < 2147483648) (d0 : 0 < d) (hd : d < 2147483648) : J a - J a / J d * J d = J (a % d) := by
  rw [J_div h0 ha d0 hd, J_mul, J_sub]
  congr 1
  have := Int.emod_def a d
  rw [this, Int.mul_comm]
theorem J_ne0 {d : Int} (d0 : 0 < d) (hd : d < 2147483648) : ¬ J d = 0 := by
  rw [J_eq0 ⟨by omega, hd⟩]
  omega
theorem J_nat (n : Nat) : J (n : Int) = nI n := Int32.ofInt_eq_ofNat
/-- the whole numbers of a truth -/
def bi (b : Bool) : Int := if b then 1 else 0
theorem bi_t : bi true = 1 := rfl
theorem bi_f : bi false = 0 := rfl
theorem bi_rng (b : Bool) : 0 ≤ bi b ∧ bi b ≤ 1 := by cases b <;> decide
theorem bi_InR (b : Bool) : InR (bi b) := by cases b <;> decide
theorem bi_eq1 {b : Bool} : bi b = 1 ↔ b = true := by cases b <;> decide
theorem bi_eq0 {b : Bool} : bi b = 0 ↔ b = false := by cases b <;> decide
theorem zn_01 {z : Int} (h : z = 0 ∨ z = 1) : vp_nar .boolean (J z) = J z := by rcases h with h | h <;> subst h <;> decide
theorem zr_01 {z : Int} (h : z = 0 ∨ z = 1) : narrow .boolean (.int (J z)) = .int (J z) := by rcases h with h | h <;> subst h <;> decide
/-! ===== a row of whole numbers, with one changed ===== -/
def upi (g : Nat → Int) (i : Nat) (v : Int) : Nat → Int := fun k => if k = i then v else g k
theorem upi_s (g : Nat → Int) (i : Nat) (v : Int) : upi g i v i = v := if_pos rfl
theorem upi_n (g : Nat → Int) {i k : Nat} (v : Int) (h : k ≠ i) : upi g i v k = g k := if_neg h
theorem upi_J (g : Nat → Int) (i : Nat) (v : Int) : upd (fun k => J (g k)) i (J v) = fun k => J (upi g i v k) := by
  funext k
  show (if k = i then J v else J (g k)) = J (if k = i then v else g k)
  by_cases h : k = i
  · rw [if_pos h, if_pos h]
  · rw [if_neg h, if_neg h]
/-! ===== the state: σ 0 pitch, σ 1 tea, σ 2 crack, σ 3 cosy (0, 1), σ 4 part; σ 5: 0 beat, 1 cadences, 2 clash ahead (0, 1), 3 pots ===== -/
abbrev Sg : Type := Nat → Nat → Int
def up (σ : Sg) (f i : Nat) (v : Int) : Sg := fun g => if g = f then upi (σ f) i v else σ g
theorem up_s (σ : Sg) (f i : Nat) (v : Int) : up σ f i v f = upi (σ f) i v := if_pos rfl
theorem up_n (σ : Sg) {f g : Nat} (i : Nat) (v : Int) (h : g ≠ f) : up σ f i v g = σ g := if_neg h
/-- the tables of a run: the classes, the class of int[], of boolean[], of int[][] -/
abbrev Kp : Type := va_G × ClassId × ClassId × ClassId
abbrev kD (κ : Kp) : va_G := κ.1
abbrev kI (κ : Kp) : ClassId := κ.2.1
abbrev kZ (κ : Kp) : ClassId := κ.2.2.1
abbrev kL (κ : Kp) : ClassId := κ.2.2.2
abbrev kT (κ : Kp) : List (ClassId × FieldType) := [(kI κ, .int), (kZ κ, .boolean)]
def St (κ : Kp) (A : Nat → Prop) (H0 H : Heap) (locs : List Loc) (ws : va_W) : Prop := va_P (kD κ) vwCl ws H ∧ va_D A ws ∧ va_S A H0 H locs
/-- a Choir: its object and its six rows, at the addresses a 0 .. a 6 -/
abbrev WC (κ : Kp) (a : Nat → Nat) (σ : Sg) (br : Nat → Int) : va_W := [(a 0, .inr (0, [.ref (a 1), .ref (a 2), .ref (a 3), .ref (a 4), .ref (a 5), .ref (a 6), .int (J (σ 5 3)), .int (J (σ 5 0)), .int (J (σ 5 1)), .int (J (σ 5 2))])),
  (a 1, .inl (kI κ, 10, .inl fun k => J (σ 4 k))), (a 2, .inl (kI κ, 10, .inl fun k => J (σ 0 k))), (a 3, .inl (kI κ, 10, .inl fun k => J (σ 1 k))), (a 4, .inl (kI κ, 10, .inl fun k => J (σ 2 k))), (a 5, .inl (kZ κ, 10, .inl fun k => J (σ 3 k))), (a 6, .inl (kI κ, 10, .inl fun k => J (br k)))]
