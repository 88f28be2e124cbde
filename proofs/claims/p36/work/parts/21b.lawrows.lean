/-! ===== the law's body: its rows ===== -/
def sx (xs : Nat → Int32) (k : Nat) : Int := (xs k).toInt
theorem sx_J (xs : Nat → Int32) (k : Nat) : J (sx xs k) = xs k := J_of _
theorem sx_in (xs : Nat → Int32) (k : Nat) : InR (sx xs k) := J_rng (xs k)
theorem and63 (v : Int32) : ∃ w : Nat, w ≤ 63 ∧ v &&& J 63 = J (w : Int) := by
  refine ⟨(v &&& J 63).toBitVec.toNat, ?_, ?_⟩
  · rw [Int32.toBitVec_and, BitVec.toNat_and]
    exact Nat.le_trans Nat.and_le_right (by decide)
  · rw [J_nat]
    refine Int32.toBitVec_inj.mp ?_
    unfold nI
    simp
theorem cmp_J (v : Int32) : ∃ z : Int, InR z ∧ v = J z := ⟨v.toInt, J_rng v, (J_of v).symm⟩
section LB
variable {p : Program} {l : Launch} {e : Env} {R : Room} {s : State} {m : MethodId} {args : Array Value} {below : List Frame} {meth : Method} {c : Code} {H H0 : Heap} {locs : List Loc} {cells slots : Nat} {Q : State → Prop} {pc : Nat} {ls : Array Slot} {rest : List Value} {κ : Kp} {A : Nat → Prop} {ws : va_W} {cc : ByteArray} {b L : Nat} {xs : Nat → Int32}
theorem jv_topl {x y : Int64} (h : x = y) (k : W p l e R s m args below meth c H locs cells slots Q (F0 m pc ls (.long y :: rest))) : W p l e R s m args below meth c H locs cells slots Q (F0 m pc ls (.long x :: rest)) := by rw [h]; exact k
theorem jv_lcmp (hx : p.tables.exec = Jvm.exec) (hb : c.code = cc) {x y : Int64} (h : y = x) (hdg : decode cc pc = .ok (.lcmp, 1)) (k : W p l e R s m args below meth c H locs cells slots Q (F0 m (pc + 1) ls (.int (J 0) :: rest))) : W p l e R s m args below meth c H locs cells slots Q (F0 m pc ls (.long y :: .long x :: rest)) := by
  subst h
  intro T hT X
  obtain ⟨t, a, b⟩ := k T hT X
  refine ⟨t, ?_, b⟩
  jvm_step X.here [X.here.top, hx, hb, hdg, Int64.lt_irrefl]
  exact a
theorem js_ld (hx : p.tables.exec = Jvm.exec) (hb : c.code = cc) (hX : va_X b L xs s H0) (hbl : b < H0.size) (hbA : ¬ A b) (hW : St κ A H0 H locs ws) {z : Int} (k : Nat) (hz : z = (k : Int)) (hk : k < L) (hL : L ≤ 2048) (hdg : decode cc pc = .ok (.iaload, 1))
    (kk : W p l e R s m args below meth c H locs cells slots Q (F0 m (pc + 1) ls (.int (J (sx xs k)) :: rest))) : W p l e R s m args below meth c H locs cells slots Q (F0 m pc ls (.int (J z) :: .ref b :: rest)) :=
  va_sld hx hb hX hbl hbA hW.2.2 (J_in hz hk (by omega)) hdg (by rw [J_clamp hz (by omega), ← sx_J xs k]; exact kk)
theorem js_len (hx : p.tables.exec = Jvm.exec) (hb : c.code = cc) (hX : va_X b L xs s H0) (hbl : b < H0.size) (hbA : ¬ A b) (hW : St κ A H0 H locs ws) (hdg : decode cc pc = .ok (.arraylength, 1))
    (kk : W p l e R s m args below meth c H locs cells slots Q (F0 m (pc + 1) ls (.int (J (L : Int)) :: rest))) : W p l e R s m args below meth c H locs cells slots Q (F0 m pc ls (.ref b :: rest)) :=
  va_slen hx hb hX hbl hbA hW.2.2 hdg (by rw [J_nat] at kk; exact kk)
end LB
