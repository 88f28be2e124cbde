/-! ===== the reference's world ===== -/
def nowf (σ : Sg) : Nat → Int := fun k => if k = 0 then σ 5 0 else if k = 1 then σ 5 1 else if k = 2 then σ 5 2 else if k < 13 then σ 0 (k - 3) else if k < 23 then σ 1 (k - 13) else σ 2 (k - 23)
def cmn (σ : Sg) : Nat := bm (fun p => decide (σ 3 p = 1)) 10
abbrev WM (κ : Kp) (a : Nat → Nat) (σ : Sg) (th : Int) (kp : Nat → Int) : va_W := [(a 0, .inr (2, [.int (J th), .int (J (σ 5 3)), .int (J (cmn σ : Int)), .ref (a 1), .ref (a 2), .ref (a 3)])),
  (a 1, .inl (kI κ, 10, .inl fun k => J (σ 4 k))), (a 2, .inl (kI κ, 33, .inl fun k => J (nowf σ k))), (a 3, .inl (kI κ, 33, .inl fun k => J (kp k)))]
theorem nowf_r0 (σ : Sg) {p : Nat} (hp : p < 10) : nowf σ (3 + p) = σ 0 p := by
  unfold nowf
  rw [if_neg (by omega), if_neg (by omega), if_neg (by omega), if_pos (by omega), Nat.add_sub_cancel_left]
theorem nowf_r1 (σ : Sg) {p : Nat} (hp : p < 10) : nowf σ (13 + p) = σ 1 p := by
  unfold nowf
  rw [if_neg (by omega), if_neg (by omega), if_neg (by omega), if_neg (by omega), if_pos (by omega), Nat.add_sub_cancel_left]
theorem nowf_r2 (σ : Sg) {p : Nat} (hp : p < 10) : nowf σ (23 + p) = σ 2 p := by
  unfold nowf
  rw [if_neg (by omega), if_neg (by omega), if_neg (by omega), if_neg (by omega), if_neg (by omega), Nat.add_sub_cancel_left]
theorem nowf_s0 (σ : Sg) : nowf σ 0 = σ 5 0 := rfl
theorem nowf_s1 (σ : Sg) : nowf σ 1 = σ 5 1 := rfl
theorem nowf_s2 (σ : Sg) : nowf σ 2 = σ 5 2 := rfl
theorem nowf_p0 (σ : Sg) {p : Nat} (v : Int) (hp : p < 10) : upi (nowf σ) (3 + p) v = nowf (up σ 0 p v) := by
  funext k
  show (if k = 3 + p then v else nowf σ k) = (if k = 0 then σ 5 0 else if k = 1 then σ 5 1 else if k = 2 then σ 5 2 else if k < 13 then (if k - 3 = p then v else σ 0 (k - 3)) else if k < 23 then σ 1 (k - 13) else σ 2 (k - 23))
  unfold nowf
  by_cases h : k = 3 + p
  · rw [if_pos h, if_neg (by omega), if_neg (by omega), if_neg (by omega), if_pos (by omega), if_pos (by omega)]
  · rw [if_neg h]
    by_cases h3 : k < 13
    · by_cases h4 : k < 3
      · rcases (show k = 0 ∨ k = 1 ∨ k = 2 by omega) with e | e | e <;> subst e <;> rfl
      · rw [if_pos h3, if_pos h3, if_neg (show ¬ k - 3 = p by omega)]
    · rw [if_neg h3, if_neg h3]
theorem nowf_p1 (σ : Sg) {p : Nat} (v : Int) (hp : p < 10) : upi (nowf σ) (13 + p) v = nowf (up σ 1 p v) := by
  funext k
  show (if k = 13 + p then v else nowf σ k) = (if k = 0 then σ 5 0 else if k = 1 then σ 5 1 else if k = 2 then σ 5 2 else if k < 13 then σ 0 (k - 3) else if k < 23 then (if k - 13 = p then v else σ 1 (k - 13)) else σ 2 (k - 23))
  unfold nowf
  by_cases h : k = 13 + p
  · rw [if_pos h, if_neg (by omega), if_neg (by omega), if_neg (by omega), if_neg (by omega), if_pos (by omega), if_pos (by omega)]
  · rw [if_neg h]
    by_cases h3 : k < 13
    · rw [if_pos h3, if_pos h3]
    · rw [if_neg h3, if_neg h3, if_neg (show ¬ k - 13 = p by omega)]
theorem nowf_p2 (σ : Sg) {p : Nat} (v : Int) (hp : p < 10) : upi (nowf σ) (23 + p) v = nowf (up σ 2 p v) := by
  funext k
  show (if k = 23 + p then v else nowf σ k) = (if k = 0 then σ 5 0 else if k = 1 then σ 5 1 else if k = 2 then σ 5 2 else if k < 13 then σ 0 (k - 3) else if k < 23 then σ 1 (k - 13) else (if k - 23 = p then v else σ 2 (k - 23)))
  unfold nowf
  by_cases h : k = 23 + p
  · rw [if_pos h, if_neg (by omega), if_neg (by omega), if_neg (by omega), if_neg (by omega), if_neg (by omega), if_pos (by omega)]
  · rw [if_neg h]
    by_cases h3 : k < 23
    · rw [if_pos h3, if_pos h3]
    · rw [if_neg h3, if_neg h3, if_neg (show ¬ k - 23 = p by omega)]
theorem nowf_q0 (σ : Sg) (v : Int) : upi (nowf σ) 0 v = nowf (up σ 5 0 v) := by
  funext k
  match k with
  | 0 => rfl
  | 1 => rfl
  | 2 => rfl
  | k + 3 => rfl
theorem nowf_q1 (σ : Sg) (v : Int) : upi (nowf σ) 1 v = nowf (up σ 5 1 v) := by
  funext k
  match k with
  | 0 => rfl
  | 1 => rfl
  | 2 => rfl
  | k + 3 => rfl
theorem nowf_q2 (σ : Sg) (v : Int) : upi (nowf σ) 2 v = nowf (up σ 5 2 v) := by
  funext k
  match k with
  | 0 => rfl
  | 1 => rfl
  | 2 => rfl
  | k + 3 => rfl
theorem cmn_lt (σ : Sg) : cmn σ < 1024 := bm_1024 _ (Nat.le_refl 10)
theorem cmn_bit (σ : Sg) (p : Nat) (hp : p < 10) : (cmn σ).testBit p = decide (σ 3 p = 1) := by
  unfold cmn
  rw [bm_bit, decide_eq_true hp, Bool.true_and]
/-- the pots that sound, as bits -/
def stn (σ : Sg) : Nat := bm (sn σ) (nn σ)
theorem stn_lt {σ : Sg} (h : nn σ ≤ 10) : stn σ < 1024 := bm_1024 _ h
theorem stn_bit (σ : Sg) (p : Nat) : (stn σ).testBit p = (decide (p < nn σ) && sn σ p) := bm_bit _ _ _
def agp (σ : Sg) (p m o : Nat) : Bool := m.testBit o && !ac (σ 0 p) (σ 0 o)
def ag (σ : Sg) (p m : Nat) : Nat := fb_ct (agp σ p m) (nn σ)
def asm (σ : Sg) (m p : Nat) : Nat := if m.testBit p = true then ag σ p m else 0
def acl (σ : Sg) (m : Nat) : Int := (fb_sm (asm σ m) (nn σ) : Int) / 2
def hmo (σ : Sg) (m : Nat) : Int := (pcn m : Int) * ((pcn m : Int) - 1) / 2 - 2 * acl σ m
theorem ag_le (σ : Sg) (p m : Nat) : ag σ p m ≤ nn σ := fb_ct_le _ _
theorem asm_le (σ : Sg) (m p : Nat) : asm σ m p ≤ nn σ := by
  unfold asm
  split
  · exact ag_le _ _ _
  · exact Nat.zero_le _
theorem asm_sum {σ : Sg} (h : nn σ ≤ 10) (m : Nat) : fb_sm (asm σ m) (nn σ) ≤ 100 := by
  have h1 : fb_sm (asm σ m) (nn σ) ≤ nn σ * nn σ := fb_sm_bound (fun k _ => asm_le σ m k)
  have h2 : nn σ * nn σ ≤ 10 * 10 := Nat.mul_le_mul h h
  omega
theorem acl_rng {σ : Sg} (h : nn σ ≤ 10) (m : Nat) : 0 ≤ acl σ m ∧ acl σ m ≤ 50 := by
  have := asm_sum h m
  unfold acl
  omega
theorem ac_refl (x : Int) : ac x x = true := by
  unfold ac stp
  rw [Int.sub_self]
  decide
theorem ac_comm (x y : Int) : ac x y = ac y x := by
  unfold ac
  rw [show stp x y = stp y x by unfold stp; congr 1; split <;> split <;> omega]
theorem ag_set (σ : Sg) (p : Nat) : ag σ p (stn σ) = ca σ p (σ 0 p) := by
  unfold ag ca
  refine fb_ct_cong (fun o ho => ?_)
  unfold agp clp
  rw [stn_bit, decide_eq_true ho, Bool.true_and]
  by_cases h : o = p
  · subst h; rw [ac_refl]; simp
  · rw [decide_eq_true h, Bool.true_and]
theorem asm_set (σ : Sg) {p : Nat} (hp : p < nn σ) : asm σ (stn σ) p = cs σ p := by
  unfold asm cs
  rw [stn_bit, decide_eq_true hp, Bool.true_and, ag_set]
theorem acl_set (σ : Sg) : acl σ (stn σ) = ccl σ := by
  unfold acl ccl cc2
  rw [fb_sm_cong (fun k hk => asm_set σ hk)]
theorem pcn_bm (f : Nat → Bool) {n : Nat} (h : n ≤ 10) : pcn (bm f n) = fb_ct f n := by
  unfold pcn
  obtain ⟨k, hk⟩ := Nat.exists_eq_add_of_le h
  rw [hk, fb_ct_split]
  have h1 : fb_ct (fun j => (bm f n).testBit j) n = fb_ct f n := fb_ct_cong (fun j hj => by rw [bm_bit, decide_eq_true hj, Bool.true_and])
  have h2 : fb_ct (fun j => (bm f n).testBit (n + j)) k = 0 := fb_ct_zero.mpr (fun j hj => by rw [bm_bit, decide_eq_false (by omega), Bool.false_and])
  rw [h1, h2]
  omega
theorem pcn_set {σ : Sg} (h : nn σ ≤ 10) : pcn (stn σ) = ns σ := pcn_bm _ h
theorem hmo_set {σ : Sg} (h : nn σ ≤ 10) : hmo σ (stn σ) = hm σ := by
  unfold hmo hm
  rw [pcn_set h, acl_set]
theorem acb {x y : Int} : (J 953 >>> (J (stp x y) &&& 31)) &&& J 1 = J (bi (ac x y)) := by
  unfold ac
  have h : 0 ≤ stp x y ∧ stp x y < 12 := by unfold stp; omega
  generalize stp x y = t at h ⊢
  rcases (show t = 0 ∨ t = 1 ∨ t = 2 ∨ t = 3 ∨ t = 4 ∨ t = 5 ∨ t = 6 ∨ t = 7 ∨ t = 8 ∨ t = 9 ∨ t = 10 ∨ t = 11 by omega) with e | e | e | e | e | e | e | e | e | e | e | e <;> subst e <;> decide +kernel
section B2
variable {p : Program} {l : Launch} {e : Env} {R : Room} {s : State} {m : MethodId} {args : Array Value} {below : List Frame} {meth : Method} {c : Code} {H : Heap} {locs : List Loc} {cells slots : Nat} {Q : State → Prop} {cc : ByteArray} {pc : Nat} {ls : Array Slot} {rest : List Value}
theorem jv_icmpb_ne (hx : p.tables.exec = Jvm.exec) (hb : c.code = cc) {b : Bool} {off : Int} (tgt : Nat) (hdg : decode cc pc = .ok (.if_icmp .ne off, 3)) (ht : (pc : Int) + off = (tgt : Int)) (kt : b = false → W p l e R s m args below meth c H locs cells slots Q (F0 m tgt ls rest)) (kf : b = true → W p l e R s m args below meth c H locs cells slots Q (F0 m (pc + 3) ls rest)) : W p l e R s m args below meth c H locs cells slots Q (F0 m pc ls (.int (J 1) :: .int (J (bi b)) :: rest)) :=
  jv_icmp_ne hx hb tgt hdg ht (bi_InR b) ⟨by decide, by decide⟩ (fun h => kt (by cases b with | false => rfl | true => exact absurd rfl h)) (fun h => kf (bi_eq1.mp h))
end B2
/-! a beat, the reference's way -/
theorem up_comm (σ : Sg) {f g : Nat} (h : f ≠ g) (i j : Nat) (v w : Int) : up (up σ f i v) g j w = up (up σ g j w) f i v := by
  funext r k
  unfold up
  by_cases h1 : r = g
  · subst h1
    rw [if_pos rfl, if_neg (fun e => h e.symm), if_neg (fun e => h e.symm), if_pos rfl]
  · rw [if_neg h1]
    by_cases h2 : r = f
    · subst h2; rw [if_pos rfl, if_pos rfl, if_neg h1]
    · rw [if_neg h2, if_neg h2, if_neg h1]
theorem wear_5 (σ : Sg) (p k : Nat) (v : Int) (hk : k ≠ 0) : wear (up σ 5 k v) p = up (wear σ p) 5 k v := by
  have h50 : up σ 5 k v 5 0 = σ 5 0 := upi_n _ _ (fun e => hk e.symm)
  have hc : wcr (up σ 5 k v) p = wcr σ p := by
    show (if 24 ≤ σ 0 p ∧ up σ 5 k v 5 0 % 4 = 0 then min 9 (σ 2 p + 1) else σ 2 p) = _
    rw [h50]; rfl
  have hp : wpi (up σ 5 k v) p = wpi σ p := by
    show (if 5 ≤ wcr (up σ 5 k v) p then max 0 (σ 0 p - 1) else σ 0 p) = _
    rw [hc]; rfl
  have ht : wte (up σ 5 k v) p = wte σ p := rfl
  unfold wear
  rw [hc, hp, ht, up_comm σ (by decide), up_comm (up σ 1 p (wte σ p)) (by decide), up_comm (up (up σ 1 p (wte σ p)) 2 p (wcr σ p)) (by decide)]
theorem ps_up5 (σ : Sg) (i k : Nat) (v : Int) (hk : k ≠ 0) : ps (up σ 5 k v) i = up (ps σ i) 5 k v := by
  have h50 : up σ 5 k v 5 0 = σ 5 0 := upi_n _ _ (fun e => hk e.symm)
  show (if sn σ i = true then wear (up σ 5 k v) i else if σ 3 i = 1 ∧ up σ 5 k v 5 0 % 3 = 0 then up (up σ 5 k v) 2 i (max 0 (σ 2 i - 1)) else up σ 5 k v) = _
  unfold ps
  rw [h50]
  by_cases h1 : sn σ i = true
  · rw [if_pos h1, if_pos h1, wear_5 σ i k v hk]
  · rw [if_neg h1, if_neg h1]
    by_cases h2 : σ 3 i = 1 ∧ σ 5 0 % 3 = 0
    · rw [if_pos h2, if_pos h2, up_comm σ (by decide)]
    · rw [if_neg h2, if_neg h2]
theorem lp_up5 (σ : Sg) (k : Nat) (v : Int) (hk : k ≠ 0) : ∀ i, lp (up σ 5 k v) i = up (lp σ i) 5 k v
  | 0 => rfl
  | i + 1 => by
    show ps (lp (up σ 5 k v) i) i = up (ps (lp σ i) i) 5 k v
    rw [lp_up5 σ k v hk i, ps_up5 _ _ _ _ hk]
theorem pb_mod (σ : Sg) : pb σ = up (up (up (lp σ (nn σ)) 5 1 (σ 5 1 + bi (cadb σ))) 5 2 (bi (decide (0 < ccl σ)))) 5 0 (σ 5 0 + 1) := by
  unfold pb pb0
  rw [lp_up5 _ 2 _ (by decide), lp_up5 _ 1 _ (by decide)]
theorem ps_ge (σ : Sg) (i : Nat) {f k : Nat} (hf : f < 5) (hk : i < k) : ps σ i f k = σ f k := by
  have hu : ∀ (τ : Sg) (g : Nat) (v : Int), up τ g i v f k = τ f k := fun τ g v => by
    unfold up
    by_cases h : f = g
    · subst h; rw [if_pos rfl]; exact upi_n _ _ (by omega)
    · rw [if_neg h]
  unfold ps
  by_cases h1 : sn σ i = true
  · rw [if_pos h1]
    unfold wear
    rw [hu, hu, hu]
  · rw [if_neg h1]
    by_cases h2 : σ 3 i = 1 ∧ σ 5 0 % 3 = 0
    · rw [if_pos h2, hu]
    · rw [if_neg h2]
theorem lp_ge (σ : Sg) {f k : Nat} (hf : f < 5) : ∀ i, i ≤ k → lp σ i f k = σ f k
  | 0, _ => rfl
  | i + 1, h => by
    show ps (lp σ i) i f k = _
    rw [ps_ge _ i hf (by omega), lp_ge σ hf i (by omega)]
theorem lp_sni (σ : Sg) (i : Nat) : sn (lp σ i) i = sn σ i := by
  unfold sn
  rw [lp_ge σ (by decide) i (Nat.le_refl i), lp_ge σ (by decide) i (Nat.le_refl i)]
theorem ps_3 (σ : Sg) (i : Nat) : ps σ i 3 = σ 3 := by
  unfold ps
  by_cases h1 : sn σ i = true
  · rw [if_pos h1]; rfl
  · rw [if_neg h1]
    by_cases h2 : σ 3 i = 1 ∧ σ 5 0 % 3 = 0
    · rw [if_pos h2]; rfl
    · rw [if_neg h2]
theorem lp_3 (σ : Sg) : ∀ i, lp σ i 3 = σ 3
  | 0 => rfl
  | i + 1 => (ps_3 _ _).trans (lp_3 σ i)
theorem cmn_same {σ τ : Sg} (h : σ 3 = τ 3) : cmn σ = cmn τ := by unfold cmn; rw [h]
theorem pb_mod2 (σ : Sg) : pb σ = up (up (up (lp σ (nn σ)) 5 1 (lp σ (nn σ) 5 1 + bi (cadb σ))) 5 2 (bi (decide (0 < ccl σ)))) 5 0 (lp σ (nn σ) 5 0 + 1) := by
  have h := lp_5 σ (nn σ)
  rw [pb_mod, h]
theorem ps_4 (σ : Sg) (i : Nat) : ps σ i 4 = σ 4 := by
  unfold ps
  by_cases h1 : sn σ i = true
  · rw [if_pos h1]; rfl
  · rw [if_neg h1]
    by_cases h2 : σ 3 i = 1 ∧ σ 5 0 % 3 = 0
    · rw [if_pos h2]; rfl
    · rw [if_neg h2]
theorem lp_4 (σ : Sg) : ∀ i, lp σ i 4 = σ 4
  | 0 => rfl
  | i + 1 => (ps_4 _ _).trans (lp_4 σ i)
theorem pbn_3 (σ : Sg) : ∀ i, pbn σ i 3 = σ 3
  | 0 => rfl
  | i + 1 => by show lp (pb0 (pbn σ i)) _ 3 = _; rw [lp_3]; exact pbn_3 σ i
theorem pbn_4 (σ : Sg) : ∀ i, pbn σ i 4 = σ 4
  | 0 => rfl
  | i + 1 => by show lp (pb0 (pbn σ i)) _ 4 = _; rw [lp_4]; exact pbn_4 σ i
theorem pbn_53 (σ : Sg) : ∀ i, pbn σ i 5 3 = σ 5 3
  | 0 => rfl
  | i + 1 => (pb_53 _).trans (pbn_53 σ i)
theorem cmn_flip (σ : Sg) {p : Nat} (hp : p < 10) (h : 0 ≤ σ 3 p ∧ σ 3 p ≤ 1) : cmn σ ^^^ 2 ^ p = cmn (up σ 3 p (1 - σ 3 p)) := by
  refine Nat.eq_of_testBit_eq (fun i => ?_)
  rw [Nat.testBit_xor, Nat.testBit_two_pow]
  unfold cmn
  rw [bm_bit, bm_bit]
  show (_ ^^ _) = (decide (i < 10) && decide (upi (σ 3) p (1 - σ 3 p) i = 1))
  by_cases e : p = i
  · subst e
    rw [upi_s, decide_eq_true hp, decide_eq_true (rfl : p = p), Bool.true_and, Bool.true_and]
    rcases (show σ 3 p = 0 ∨ σ 3 p = 1 by omega) with q | q <;> rw [q] <;> decide
  · rw [upi_n _ _ (fun h => e h.symm), decide_eq_false e, Bool.xor_false]
