/-! ===== new rows and objects ===== -/
theorem kI_of {κ : Kp} {s : State} {cA : ClassId} (hK : Kx κ s) (h : va_RA s cA .int) : cA = kI κ := by
  have h1 : s.vm.findClass _ = some (kI κ) := (hK.1.2 0 (kI κ, .int) rfl).2
  exact Option.some.inj (h.symm.trans h1)
theorem kZ_of {κ : Kp} {s : State} {cA : ClassId} (hK : Kx κ s) (h : va_RA s cA .boolean) : cA = kZ κ := by
  have h1 : s.vm.findClass _ = some (kZ κ) := (hK.1.2 1 (kZ κ, .boolean) rfl).2
  exact Option.some.inj (h.symm.trans h1)
/-- a row alone -/
abbrev WA (κ : Kp) (q n : Nat) (g : Nat → Int) : va_W := [(q, .inl (kI κ, n, .inl fun k => J (g k)))]
abbrev WZ (κ : Kp) (q n : Nat) (g : Nat → Int) : va_W := [(q, .inl (kZ κ, n, .inl fun k => J (g k)))]
abbrev WX (κ : Kp) (x : Nat) (a a2 : Nat → Nat) : va_W := [(x, .inr (1, [.ref (a 0), .ref (a2 0)]))]
section NRows
variable {p : Program} {l : Launch} {e : Env} {R : Room} {s : State} {m : MethodId} {args : Array Value} {below : List Frame} {meth : Method} {c : Code} {H : Heap} {locs : List Loc} {cells slots : Nat} {Q : State → Prop} {cc : ByteArray} {pc : Nat} {ls : Array Slot} {rest : List Value} {κ : Kp} {A : Nat → Prop} {H0 : Heap} {ws ws' : va_W} {Ts : List Cond} {own : String} {index : Nat}
theorem jv_newi (hx : p.tables.exec = Jvm.exec) (hb : c.code = cc) (hts : ∀ w ∈ Ts, w.before args s = true) (harr : Cond.arrayClass .int ∈ Ts) (hK : Kx κ s) (hW : St κ A H0 H locs ws) (hA : ∀ q, H0.size ≤ q → A q) (n : Nat) (hn : n < 1000) (k k2 : Nat) (hk : cells + 1 ≤ k) (hk2 : slots + n ≤ k2) (hcells : k ≤ R.cells) (hslots : k2 ≤ R.slots) (hdg : decode cc pc = .ok (.newarray .int, 2))
    (kk : ∀ (q : Nat) (H1 : Heap), St κ A H0 H1 locs (ws ++ WA κ q n (fun _ => 0)) → W p l e R s m args below meth c H1 locs k k2 Q (F0 m (pc + 2) ls (.ref q :: rest))) : W p l e R s m args below meth c H locs cells slots Q (F0 m pc ls (.int (J (n : Int)) :: rest)) := by
  refine va_newa (atype := .int) (ty := .int) hx hb (hts _ harr) rfl hK.1 hW.1 hW.2.1 hW.2.2 hA (n := J (n : Int)) (N' := n) (a0 := (n, .inl fun _ => J 0)) (fun cA => rfl) (by rw [J_lt0 ⟨by omega, by omega⟩]; omega) (J_clamp rfl (by omega)) (by show n * 4 ≤ _; omega) (Nat.le_trans hk hcells) (Nat.le_trans hk2 hslots) hdg (fun q cA H1 h0 h1 h2 h3 => W.widen hk hk2 ?_)
  have e : cA = kI κ := kI_of hK (h0.2 2 (cA, .int) rfl).2
  subst e
  exact kk q H1 ⟨h1, h2, h3⟩
theorem jv_newz (hx : p.tables.exec = Jvm.exec) (hb : c.code = cc) (hts : ∀ w ∈ Ts, w.before args s = true) (harr : Cond.arrayClass .boolean ∈ Ts) (hK : Kx κ s) (hW : St κ A H0 H locs ws) (hA : ∀ q, H0.size ≤ q → A q) (n : Nat) (hn : n < 1000) (k k2 : Nat) (hk : cells + 1 ≤ k) (hk2 : slots + n ≤ k2) (hcells : k ≤ R.cells) (hslots : k2 ≤ R.slots) (hdg : decode cc pc = .ok (.newarray .boolean, 2))
    (kk : ∀ (q : Nat) (H1 : Heap), St κ A H0 H1 locs (ws ++ WZ κ q n (fun _ => 0)) → W p l e R s m args below meth c H1 locs k k2 Q (F0 m (pc + 2) ls (.ref q :: rest))) : W p l e R s m args below meth c H locs cells slots Q (F0 m pc ls (.int (J (n : Int)) :: rest)) := by
  refine va_newa (atype := .boolean) (ty := .boolean) hx hb (hts _ harr) rfl hK.1 hW.1 hW.2.1 hW.2.2 hA (n := J (n : Int)) (N' := n) (a0 := (n, .inl fun _ => J 0)) (fun cA => rfl) (by rw [J_lt0 ⟨by omega, by omega⟩]; omega) (J_clamp rfl (by omega)) (by show n * 1 ≤ _; omega) (Nat.le_trans hk hcells) (Nat.le_trans hk2 hslots) hdg (fun q cA H1 h0 h1 h2 h3 => W.widen hk hk2 ?_)
  have e : cA = kZ κ := kZ_of hK (h0.2 2 (cA, .boolean) rfl).2
  subst e
  exact kk q H1 ⟨h1, h2, h3⟩
theorem jv_new (hx : p.tables.exec = Jvm.exec) (hb : c.code = cc) {C : String} {T : u_T} {N ci : Nat} (hts : ∀ w ∈ Ts, w.before args s = true) (hin : ∀ w ∈ u_ws C T N, w ∈ Ts) (ty : Nat → FieldType) (hty : ∀ k, k < N → parseFieldDescriptor (T k).2.2.1 = some (ty k)) (hown : s.vm.findClass own = some m.cls) (hcl : Cond.classLink own index C ∈ Ts) (hinst : Cond.instantiable C N ∈ Ts) (hini : Cond.initialized C ∈ Ts)
    (hK : Kx κ s) (hW : St κ A H0 H locs ws) (hA : ∀ q, H0.size ≤ q → A q) (hc : vwCl[ci]? = some (C, T, N)) (fs : List Value) (hfs : (List.range N).all (fun j => decide (defaultValue (ty j) = vp_V fs j)) = true) (k k2 : Nat) (hk : cells + 1 ≤ k) (hk2 : slots + N ≤ k2) (hcells : k ≤ R.cells) (hslots : k2 ≤ R.slots) (hdg : decode cc pc = .ok (.new index, 3))
    (kk : ∀ (q : Nat) (H1 : Heap), St κ A H0 H1 locs (ws ++ [(q, .inr (ci, fs))]) → W p l e R s m args below meth c H1 locs k k2 Q (F0 m (pc + 3) ls (.ref q :: rest))) : W p l e R s m args below meth c H locs cells slots Q (F0 m pc ls rest) :=
  va_new hx hb hts hin ty hty hown (hts _ hcl) (hts _ hinst) (hts _ hini) hK.1 hW.1 hW.2.1 hW.2.2 hA hc (fun j hj => of_decide_eq_true (List.all_eq_true.mp hfs j (List.mem_range.mpr hj))) (Nat.le_trans hk hcells) (Nat.le_trans hk2 hslots) hdg (fun q H1 h1 h2 h3 => W.widen hk hk2 (kk q H1 ⟨h1, h2, h3⟩))
end NRows
theorem St.sub {κ : Kp} {A : Nat → Prop} {H0 H : Heap} {locs : List Loc} {ws ws' : va_W} (hW : St κ A H0 H locs ws) (pm : List Nat) (hn : va_nd pm = true) (h : pm.map (fun i => ws[i]?) = ws'.map some) : St κ A H0 H locs ws' := ⟨hW.1.sub pm (fm_of h), hW.2.1.sub pm hn h, hW.2.2⟩
/-- the state of a new choir -/
def zs : Sg := fun _ _ => 0
theorem Inv_zs : Inv zs := ⟨by decide, by decide, by decide, by decide, fun p _ => by
  show (0 ≤ (0 : Int) ∧ (0 : Int) ≤ 35) ∧ (0 ≤ (0 : Int) ∧ (0 : Int) ≤ 20) ∧ (0 ≤ (0 : Int) ∧ (0 : Int) ≤ 9) ∧ (0 ≤ (0 : Int) ∧ (0 : Int) ≤ 1) ∧ (0 ≤ (0 : Int) ∧ (0 : Int) ≤ 3)
  decide⟩
/-! ===== bits of a group ===== -/
/-- how many of the first ten bits are set -/
def pcn (m : Nat) : Nat := fb_ct (fun k => m.testBit k) 10
/-- what the JDK's bitCount computes -/
def bcf (x : Int32) : Int32 :=
  let u := fun (x y : Int32) => (x.toUInt32 >>> (y.toUInt32 &&& Int32.toUInt32 31)).toInt32
  let x1 := x - (u x (J 1) &&& (1431655765 : Int32))
  let x2 := (x1 &&& (858993459 : Int32)) + (u x1 (J 2) &&& (858993459 : Int32))
  let x3 := (x2 + u x2 (J 4)) &&& (252645135 : Int32)
  let x4 := x3 + u x3 (J 8)
  let x5 := x4 + u x4 (J 16)
  x5 &&& J 63
theorem bcf_ok : ∀ m : Nat, m < 1024 → bcf (nI m) = nI (pcn m) := by decide +kernel
/-- the bits of those below n that are so -/
def bm (f : Nat → Bool) : Nat → Nat
  | 0 => 0
  | n + 1 => bm f n + if f n then 2 ^ n else 0
theorem bm_lt (f : Nat → Bool) : ∀ n, bm f n < 2 ^ n
  | 0 => by show 0 < 2 ^ 0; decide
  | n + 1 => by
    have h := bm_lt f n
    show bm f n + (if f n then 2 ^ n else 0) < 2 ^ (n + 1)
    rw [Nat.pow_succ]
    split <;> omega
theorem bm_or (f : Nat → Bool) (n : Nat) (h : f n = true) : bm f n ||| 2 ^ n = bm f (n + 1) := by
  show _ = bm f n + (if f n then 2 ^ n else 0)
  have e := Nat.two_pow_add_eq_or_of_lt (bm_lt f n) 1
  rw [Nat.mul_one] at e
  rw [if_pos h, Nat.or_comm, ← e, Nat.add_comm]
theorem bm_no (f : Nat → Bool) (n : Nat) (h : f n = false) : bm f (n + 1) = bm f n := by
  show bm f n + (if f n then 2 ^ n else 0) = bm f n
  rw [h]
  rfl
theorem bm_bit (f : Nat → Bool) : ∀ n i, (bm f n).testBit i = (decide (i < n) && f i)
  | 0, i => by simp [bm]
  | n + 1, i => by
    cases hf : f n with
    | false =>
      rw [bm_no f n hf, bm_bit f n i]
      by_cases h : i = n
      · subst h; simp [hf]
      · have : decide (i < n) = decide (i < n + 1) := by by_cases h2 : i < n <;> simp [h2] <;> omega
        rw [this]
    | true =>
      rw [← bm_or f n hf, Nat.testBit_or, bm_bit f n i, Nat.testBit_two_pow]
      by_cases h : n = i
      · subst h; simp [hf]
      · have : decide (i < n) = decide (i < n + 1) := by by_cases h2 : i < n <;> simp [h2] <;> omega
        simp [this, h]
theorem bm_1024 (f : Nat → Bool) {n : Nat} (h : n ≤ 10) : bm f n < 1024 := Nat.lt_of_lt_of_le (bm_lt f n) (Nat.pow_le_pow_right (n := 2) (by decide) h)
theorem bit_mod (m k : Nat) : (m / 2 ^ k) &&& 1 = if m.testBit k then 1 else 0 := by
  rw [Nat.and_one_is_mod, Nat.testBit_eq_decide_div_mod_eq]
  have := Nat.mod_two_eq_zero_or_one (m / 2 ^ k)
  rcases this with h | h <;> simp [h]
/-! ===== the greatest accord, by groups ===== -/
/-- the pots that can't be in one accord with p, p itself if it does not sound -/
def bar (σ : Sg) (p : Nat) : Nat := if sn σ p = true then bm (fun o => !ac (σ 0 p) (σ 0 o)) (nn σ) else 2 ^ p
theorem bar_lt {σ : Sg} (h : nn σ ≤ 10) {p : Nat} (hp : p < 10) : bar σ p < 1024 := by
  unfold bar
  split
  · exact bm_1024 _ h
  · exact Nat.pow_lt_pow_right (by decide) hp
def gok (σ : Sg) (m : Nat) : Bool := decide (∀ p, p < nn σ → m.testBit p = true → m &&& bar σ p = 0)
def gar (σ : Sg) : Nat → Nat
  | 0 => 0
  | m + 1 => if gar σ m < pcn m ∧ gok σ m = true then pcn m else gar σ m
def ga (σ : Sg) : Nat := gar σ (2 ^ nn σ)
theorem gar_y {σ : Sg} {m : Nat} (h : gar σ m < pcn m) (h2 : gok σ m = true) : gar σ (m + 1) = pcn m := if_pos ⟨h, h2⟩
theorem gar_n {σ : Sg} {m : Nat} (h : ¬ (gar σ m < pcn m ∧ gok σ m = true)) : gar σ (m + 1) = gar σ m := if_neg h
theorem pcn_le (m : Nat) : pcn m ≤ 10 := fb_ct_le _ _
theorem pcn_0 : pcn 0 = 0 := by decide
theorem gar_le (σ : Sg) : ∀ m, gar σ m ≤ 10
  | 0 => Nat.zero_le _
  | m + 1 => by
    by_cases h : gar σ m < pcn m ∧ gok σ m = true
    · rw [gar_y h.1 h.2]; exact pcn_le m
    · rw [gar_n h]; exact gar_le σ m
/-! ===== the mean pitch ===== -/
def psum (σ : Sg) : Nat → Int
  | 0 => 0
  | i + 1 => psum σ i + if sn σ i then σ 0 i else 0
theorem psum_rng {σ : Sg} (h : Inv σ) : ∀ i : Nat, i ≤ 10 → 0 ≤ psum σ i ∧ psum σ i ≤ 35 * i
  | 0, _ => by show (0 : Int) ≤ 0 ∧ (0 : Int) ≤ 35 * 0; omega
  | i + 1, hi => by
    have h1 := psum_rng h i (by omega)
    have h2 := h.at i (by omega)
    show 0 ≤ psum σ i + (if sn σ i then σ 0 i else 0) ∧ psum σ i + (if sn σ i then σ 0 i else 0) ≤ _
    split <;> omega
def mp (σ : Sg) : UInt64 := if ns σ = 0 then FP.dconst0 else FP.ddiv (FP.i2d (J (psum σ (nn σ)))) (FP.i2d (J (ns σ : Int)))
theorem dd_ok : ∀ a : Nat, a < 351 → ∀ b : Nat, b < 10 → vf_n64 (FP.ddiv (FP.i2d (nI a)) (FP.i2d (nI (b + 1)))) := by
  unfold vf_n64
  decide +kernel
theorem bar_upi (σ : Sg) (br : Nat → Int) (i : Nat) : (fun k => if k < i + 1 then (bar σ k : Int) else br k) = upi (fun k => if k < i then (bar σ k : Int) else br k) i (bar σ i : Int) := by
  funext k
  show (if k < i + 1 then (bar σ k : Int) else br k) = if k = i then (bar σ i : Int) else if k < i then (bar σ k : Int) else br k
  by_cases h : k = i
  · subst h; rw [if_pos rfl, if_pos (Nat.lt_succ_self k)]
  · rw [if_neg h]
    by_cases h2 : k < i
    · rw [if_pos h2, if_pos (by omega)]
    · rw [if_neg h2, if_neg (by omega)]
/-! ===== what would be ===== -/
theorem first_eq {p : Nat → Bool} {n i : Nat} (h : ∀ j, j < i → p j = false) (hi : i ≤ n) (hp : i = n ∨ p i = true) : fa_first p n = i := by
  have h1 := fa_first_le p n
  rcases Nat.lt_trichotomy (fa_first p n) i with q | q | q
  · have h2 : p (fa_first p n) = false := h _ q
    have h3 := fa_first_yes p n (by omega)
    rw [h2] at h3
    cases h3
  · exact q
  · have h2 := fa_first_no p n i q
    rcases hp with hp | hp
    · omega
    · rw [h2] at hp
      cases hp
def su (σ : Sg) : Nat := fa_first (fun j => decide (ns (pbn σ j) = 0)) 20
def uc (σ : Sg) : Int := if fa_first (fun j => cadb (pbn σ j)) 60 < 60 then (fa_first (fun j => cadb (pbn σ j)) 60 : Int) + 1 else -1
def hst (σ : Sg) : Int := if 0 < ccl σ then fm σ else -1
def cof (σ : Sg) (p : Nat) : Int := if sn σ p = true then (ca σ p (σ 0 p) : Int) else 0
def btu (σ : Sg) (p : Nat) : Int := if sn σ p = true then ft σ p else 0
def dstep (d : Int64) (x : Int) : Int64 := d * 31 + (J x).toInt64
def dpt (σ : Sg) (d : Int64) (p : Nat) : Int64 := dstep (dstep (dstep (dstep (dstep (dstep (dstep d (σ 4 p)) (σ 0 p)) (σ 1 p)) (σ 2 p)) (bi (sn σ p))) (cof σ p)) (btu σ p)
def dl (σ : Sg) (d : Int64) : Nat → Int64
  | 0 => d
  | i + 1 => dpt σ (dl σ d i) i
def dg0 (σ : Sg) : Int64 := dstep (dstep (dstep (dstep (dstep (dstep (dstep (dstep (dstep (dstep (dstep (dstep (dstep 2087 (σ 5 3)) (σ 5 0)) (ns σ : Int)) (hm σ)) (ccl σ)) (hst σ)) (fl σ)) (bi (ic σ))) (σ 5 1)) (fm σ)) (su σ : Int)) (uc σ)) (ga σ : Int)
def dg (σ : Sg) : Int64 := dl σ (dg0 σ) (nn σ)
theorem pbn_cad (σ : Sg) (i : Nat) : pbn σ (i + 1) 5 1 = pbn σ i 5 1 + bi (cadb (pbn σ i)) := pb_51 _
def ptea (σ : Sg) (p q : Nat) (t : Int) : Int := min t (min (σ 1 p) (20 - σ 1 q))
def adr (l : List Nat) : Nat → Nat := fun k => l.getD k 0
theorem WC_0 (κ : Kp) (a : Nat → Nat) : WC κ a zs (fun _ => 0) = [(a 0, .inr (0, [.ref (a 1), .ref (a 2), .ref (a 3), .ref (a 4), .ref (a 5), .ref (a 6), .int (J 0), .int (J 0), .int (J 0), .int (J 0)]))] ++ (WA κ (a 1) 10 (fun _ => 0) ++ (WA κ (a 2) 10 (fun _ => 0) ++ (WA κ (a 3) 10 (fun _ => 0) ++ (WA κ (a 4) 10 (fun _ => 0) ++ (WZ κ (a 5) 10 (fun _ => 0) ++ WA κ (a 6) 10 (fun _ => 0)))))) := rfl
theorem St.eqw {κ : Kp} {A : Nat → Prop} {H0 H : Heap} {locs : List Loc} {ws ws' : va_W} (h : ws' = ws) (hW : St κ A H0 H locs ws) : St κ A H0 H locs ws' := by rw [h]; exact hW
section B2
variable {p : Program} {l : Launch} {e : Env} {R : Room} {s : State} {m : MethodId} {args : Array Value} {below : List Frame} {meth : Method} {c : Code} {H : Heap} {locs : List Loc} {cells slots : Nat} {Q : State → Prop} {cc : ByteArray} {pc : Nat} {ls : Array Slot} {rest : List Value}
theorem jv_icmpb_ne (hx : p.tables.exec = Jvm.exec) (hb : c.code = cc) {b : Bool} {off : Int} (tgt : Nat) (hdg : decode cc pc = .ok (.if_icmp .ne off, 3)) (ht : (pc : Int) + off = (tgt : Int)) (kt : b = false → W p l e R s m args below meth c H locs cells slots Q (F0 m tgt ls rest)) (kf : b = true → W p l e R s m args below meth c H locs cells slots Q (F0 m (pc + 3) ls rest)) : W p l e R s m args below meth c H locs cells slots Q (F0 m pc ls (.int (J 1) :: .int (J (bi b)) :: rest)) :=
  jv_icmp_ne hx hb tgt hdg ht (bi_InR b) ⟨by decide, by decide⟩ (fun h => kt (by cases b with | false => rfl | true => exact absurd rfl h)) (fun h => kf (bi_eq1.mp h))
end B2
