/-! ===== the object by hand; methods that answer a reference; methods that read the script ===== -/
abbrev WS (κ : Kp) (q pp : Nat) (L : List Nat) (b c h : Int) : va_W := [(q, .inr (2, [.int (J b), .int (J c), .int (J h), .ref pp])), (pp, .inl (kL κ, L.length, .inr (.inr (.inr (.inr fun i => L[i]?)))))]
theorem pb_52 (σ : Sg) : pb σ 5 2 = bi (decide (0 < ccl σ)) := by
  show lp (pb0 σ) (nn σ) 5 2 = _
  rw [lp_5]
  rfl
/-- the row of references while it is made -/
def wqf (L : List Nat) (i : Nat) : Nat → Option Nat := fun k => if k < i then L[k]? else none
theorem wqf_0 (L : List Nat) : wqf L 0 = fun _ => none := by
  funext k
  exact if_neg (Nat.not_lt_zero k)
theorem wqf_up {L : List Nat} {i : Nat} (h : i < L.length) : va_up (wqf L i) i (some (la L i)) = wqf L (i + 1) := by
  funext k
  unfold wqf
  by_cases e : k = i
  · subst e
    rw [va_up_self, if_pos (Nat.lt_succ_self k), la_get h]
  · rw [va_up_ne _ _ e]
    by_cases h2 : k < i
    · rw [if_pos h2, if_pos (by omega)]
    · rw [if_neg h2, if_neg (by omega)]
theorem wqf_end (L : List Nat) (q : Nat) : va_up (wqf L L.length) L.length (some q) = fun k => (L ++ [q])[k]? := by
  funext k
  by_cases e : k = L.length
  · subst e
    rw [va_up_self, List.getElem?_append_right (Nat.le_refl _), Nat.sub_self]
    rfl
  · rw [va_up_ne _ _ e]
    unfold wqf
    by_cases h2 : k < L.length
    · rw [if_pos h2, List.getElem?_append_left h2]
    · rw [if_neg h2, List.getElem?_eq_none (by rw [List.length_append]; show L.length + 1 ≤ k; omega)]
theorem len_1 (L : List Nat) (q : Nat) : (L ++ [q]).length = L.length + 1 := by rw [List.length_append]; rfl
def CGr {S : Type} (l : Launch) (y : MethodName) (wl : List Cond) (rm : Room) (κ : Kp) (as : List Value) (W0 : va_W) (post : S → Prop) (W1 : S → Nat → va_W) : Prop :=
  ∀ sz, Met l y wl rm (PreC κ as W0 sz) (va_Qr post (fun u r => PW κ (W1 u r) (va_A W0 sz)) (va_A W0 sz)) rm.cells rm.slots (va_A W0 sz)
/-- the precondition of a method that reads the script -/
def PreB (κ : Kp) (as : List Value) (W0 : va_W) (sz b L : Nat) (xs : Nat → Int32) : Array Value → State → Prop := fun a U => PreC κ as W0 sz a U ∧ va_X b L xs U U.heap ∧ b < sz ∧ ¬ va_A W0 sz b
theorem PreB.blind {κ : Kp} {as : List Value} {W0 : va_W} {sz b L : Nat} {xs : Nat → Int32} : FrameBlind (PreB κ as W0 sz b L xs) := fun a U g mk q => ⟨PreC.blind a U g mk q.1, va_X.moved (u := U) (U := U.calling g mk a) (Vm.Alike.refl U.vm) q.2.1, q.2.2⟩
def CBi {S : Type} (l : Launch) (y : MethodName) (wl : List Cond) (rm : Room) (κ : Kp) (as : List Value) (W0 : va_W) (b L : Nat) (xs : Nat → Int32) (post : Int32 → S → Prop) (W1 : S → va_W) : Prop :=
  ∀ sz, Met l y wl rm (PreB κ as W0 sz b L xs) (va_Qi post (fun u => PW κ (W1 u) (va_A W0 sz)) (va_A W0 sz)) rm.cells rm.slots (va_A W0 sz)
def CBr {S : Type} (l : Launch) (y : MethodName) (wl : List Cond) (rm : Room) (κ : Kp) (as : List Value) (W0 : va_W) (b L : Nat) (xs : Nat → Int32) (post : S → Prop) (W1 : S → Nat → va_W) : Prop :=
  ∀ sz, Met l y wl rm (PreB κ as W0 sz b L xs) (va_Qr post (fun u r => PW κ (W1 u r) (va_A W0 sz)) (va_A W0 sz)) rm.cells rm.slots (va_A W0 sz)
section EntryB
variable {l : Launch} {y : MethodName} {wl wl' : List Cond} {rm : Room} {κ : Kp} {as : List Value} {W0 : va_W} {cc : ByteArray} {maxL : Nat} {ret : Option FieldType}
theorem entry_ofB {b L : Nat} {xs : Nat → Int32} {Qc : Nat → Array Value → State → Outcome → State → Prop} (hy : plainName y.cls = true) (hw : wl = Cond.code y cc maxL ret :: wl') (hlen : (lg_sl as).length ≤ maxL)
    (body : ∀ (p : Program) (e : Env) (s : State) (m : MethodId) (below : List Frame) (meth : Method) (c : Code) (ls : Array Slot) (A : Nat → Prop), A = va_A W0 s.heap.size → CallFix p m c cc maxL s as.toArray wl y.cls → meth.sig.returnType = ret → meth.locks = false → Kx κ s → va_X b L xs s s.heap → b < s.heap.size → ¬ A b → (∀ q, s.heap.size ≤ q → A q) → St κ A s.heap s.heap [] W0 → lv_has ls maxL (lv_args 0 as) →
      W p l e rm s m as.toArray below meth c s.heap [] 0 0 (MQ below (Qc s.heap.size) as.toArray s rm.cells rm.slots A) (F0 m 0 ls [])) : ∀ sz, Met l y wl rm (PreB κ as W0 sz b L xs) (Qc sz) rm.cells rm.slots (va_A W0 sz) := by
  intro sz
  refine Met.ofW (cc := cc) (maxL := maxL) (ret := ret) hy hw ?_
  intro p e s m args below meth c s₁ B hml hv
  obtain ⟨⟨rfl, hsz, hP, hK, hD0⟩, hX, hbl, hbA⟩ := hv
  subst hsz
  have hown : s.vm.findClass y.cls = some m.cls := findClass_of_methodNamed B.named
  have hl := lv_entry as (n := maxL) hlen
  rw [lg_entry_eq]
  exact body p e s m below meth c _ (va_A W0 s.heap.size) rfl ⟨B.exec, B.bytes, hml, hown, atoms_spec (ws := wl) B.pre⟩ B.returns B.notSynchronized hK hX hbl hbA (fun q h => Or.inr h) ⟨hP, hD0.self, va_S.rf⟩ hl
end EntryB
section EndR
variable {p : Program} {l : Launch} {e : Env} {R : Room} {s : State} {m : MethodId} {args : Array Value} {below : List Frame} {meth : Method} {c : Code} {H : Heap} {locs : List Loc} {cells slots mc ms : Nat} {cc : ByteArray} {pc : Nat} {ls : Array Slot} {κ : Kp} {A : Nat → Prop}
theorem ret_r {S : Type} {post : S → Prop} {W1 : S → Nat → va_W} {rt : FieldType} {r : Nat} (u : S) (hx : p.tables.exec = Jvm.exec) (hb : c.code = cc) (hr : meth.sig.returnType = some rt) (hrt : (∃ n, rt = .object n) ∨ ∃ t, rt = .array t) (hlk : meth.locks = false) (hW : St κ A s.heap H locs (W1 u r)) (hdg : decode cc pc = .ok (.areturn, 1)) (hc : cells ≤ mc) (hs : slots ≤ ms) (hp : post u) :
    W p l e R s m args below meth c H locs cells slots (MQ below (va_Qr post (fun u r => PW κ (W1 u r) A) A) args s mc ms A) (F0 m pc ls [.ref r]) :=
  W.widen hc hs (W.aret hx hb hr hrt (Or.inr ⟨r, rfl⟩) (fun t ht _ => ⟨⟨u, r, rfl, hp, by rw [ht]; exact hW.1, hW.2.1⟩, hW.2.2.F ht⟩) hW.2.2.2.2 hdg hlk)
end EndR
section EntriesR
variable {l : Launch} {y : MethodName} {wl wl' : List Cond} {rm : Room} {κ : Kp} {as : List Value} {W0 : va_W} {cc : ByteArray} {maxL : Nat} {b L : Nat} {xs : Nat → Int32}
theorem entry_r {S : Type} {post : S → Prop} {W1 : S → Nat → va_W} {rt : FieldType} (hrt : (∃ n, rt = .object n) ∨ ∃ t, rt = .array t) (hy : plainName y.cls = true) (hw : wl = Cond.code y cc maxL (some rt) :: wl') (hlen : (lg_sl as).length ≤ maxL)
    (body : ∀ (P : Program) (e : Env) (s : State) (m : MethodId) (args : Array Value) (below : List Frame) (meth : Method) (c : Code) (ls : Array Slot) (A : Nat → Prop) (Q : State → Prop), CallFix P m c cc maxL s args wl y.cls → (y.name = "<init>" → meth.name = "<init>") → Kx κ s → (∀ q, s.heap.size ≤ q → A q) →
      (∀ (u : S) {H : Heap} {locs : List Loc} {ls : Array Slot} {pc cells slots r : Nat}, St κ A s.heap H locs (W1 u r) → decode cc pc = .ok (.areturn, 1) → cells ≤ rm.cells → slots ≤ rm.slots → post u → W P l e rm s m args below meth c H locs cells slots Q (F0 m pc ls [.ref r])) →
      St κ A s.heap s.heap [] W0 → lv_has ls maxL (lv_args 0 as) → W P l e rm s m args below meth c s.heap [] 0 0 Q (F0 m 0 ls [])) : CGr l y wl rm κ as W0 post W1 := by
  refine entry_of hy hw hlen (fun P e s m below meth c ls A hAe F hr hlk hnm hK hA hW hl => ?_)
  subst hAe
  exact body P e s m as.toArray below meth c ls _ _ F hnm hK hA (fun u _ _ _ _ _ _ _ h1 h2 h3 h4 h5 => ret_r u F.1 F.2.1 hr hrt hlk h1 h2 h3 h4 h5) hW hl
theorem entry_bi {S : Type} {post : Int32 → S → Prop} {W1 : S → va_W} (hy : plainName y.cls = true) (hw : wl = Cond.code y cc maxL (some .int) :: wl') (hlen : (lg_sl as).length ≤ maxL)
    (body : ∀ (P : Program) (e : Env) (s : State) (m : MethodId) (args : Array Value) (below : List Frame) (meth : Method) (c : Code) (ls : Array Slot) (A : Nat → Prop) (Q : State → Prop), CallFix P m c cc maxL s args wl y.cls → Kx κ s → va_X b L xs s s.heap → b < s.heap.size → ¬ A b → (∀ q, s.heap.size ≤ q → A q) →
      (∀ (u : S) {H : Heap} {locs : List Loc} {ls : Array Slot} {pc cells slots : Nat} {r : Int32}, St κ A s.heap H locs (W1 u) → decode cc pc = .ok (.ireturn, 1) → cells ≤ rm.cells → slots ≤ rm.slots → post r u → W P l e rm s m args below meth c H locs cells slots Q (F0 m pc ls [.int r])) →
      St κ A s.heap s.heap [] W0 → lv_has ls maxL (lv_args 0 as) → W P l e rm s m args below meth c s.heap [] 0 0 Q (F0 m 0 ls [])) : CBi l y wl rm κ as W0 b L xs post W1 := by
  refine entry_ofB hy hw hlen (fun P e s m below meth c ls A hAe F hr hlk hK hX hbl hbA hA hW hl => ?_)
  subst hAe
  exact body P e s m as.toArray below meth c ls _ _ F hK hX hbl hbA hA (fun u _ _ _ _ _ _ _ h1 h2 h3 h4 h5 => ret_i u F.1 F.2.1 hr hlk h1 h2 h3 h4 h5) hW hl
theorem entry_br {S : Type} {post : S → Prop} {W1 : S → Nat → va_W} {rt : FieldType} (hrt : (∃ n, rt = .object n) ∨ ∃ t, rt = .array t) (hy : plainName y.cls = true) (hw : wl = Cond.code y cc maxL (some rt) :: wl') (hlen : (lg_sl as).length ≤ maxL)
    (body : ∀ (P : Program) (e : Env) (s : State) (m : MethodId) (args : Array Value) (below : List Frame) (meth : Method) (c : Code) (ls : Array Slot) (A : Nat → Prop) (Q : State → Prop), CallFix P m c cc maxL s args wl y.cls → Kx κ s → va_X b L xs s s.heap → b < s.heap.size → ¬ A b → (∀ q, s.heap.size ≤ q → A q) →
      (∀ (u : S) {H : Heap} {locs : List Loc} {ls : Array Slot} {pc cells slots r : Nat}, St κ A s.heap H locs (W1 u r) → decode cc pc = .ok (.areturn, 1) → cells ≤ rm.cells → slots ≤ rm.slots → post u → W P l e rm s m args below meth c H locs cells slots Q (F0 m pc ls [.ref r])) →
      St κ A s.heap s.heap [] W0 → lv_has ls maxL (lv_args 0 as) → W P l e rm s m args below meth c s.heap [] 0 0 Q (F0 m 0 ls [])) : CBr l y wl rm κ as W0 b L xs post W1 := by
  refine entry_ofB hy hw hlen (fun P e s m below meth c ls A hAe F hr hlk hK hX hbl hbA hA hW hl => ?_)
  subst hAe
  exact body P e s m as.toArray below meth c ls _ _ F hK hX hbl hbA hA (fun u _ _ _ _ _ _ _ h1 h2 h3 h4 h5 => ret_r u F.1 F.2.1 hr hrt hlk h1 h2 h3 h4 h5) hW hl
end EntriesR
section FinR
variable {p : Program} {l : Launch} {e : Env} {R : Room} {s : State} {m : MethodId} {args : Array Value} {below : List Frame} {meth : Method} {c : Code} {H : Heap} {locs : List Loc} {cells slots mc ms : Nat} {Q : State → Prop} {pc : Nat} {ls : Array Slot} {rest st0 : List Value} {a : Array Value} {κ : Kp} {A : Nat → Prop} {H0 : Heap} {ws W0 : va_W}
/-- how the caller's world comes back behind a call that answers a reference -/
def BkR {S : Type} (κ : Kp) (A : Nat → Prop) (H0 H : Heap) (W0 : va_W) (W1 W2 : S → Nat → va_W) : Prop := ∀ (u : S) (r : Nat) (H1 : Heap) (locs1 : List Loc), (∀ q : Nat, q < H.size → ¬ va_A W0 H.size q → H1[q]? = H[q]?) → va_P (kD κ) vwCl (W1 u r) H1 → va_D (va_A W0 H.size) (W1 u r) → va_S A H0 H1 locs1 → St κ A H0 H1 locs1 (W2 u r)
theorem fina_r {S : Type} {post : S → Prop} {W1 W2 : S → Nat → va_W} (k n : Nat) (hW : St κ A H0 H locs ws) (hF : ∀ q, va_A W0 H.size q → A q)
    (hr : va_Run p l e R s m args below meth c H locs cells slots mc ms (F0 m pc ls st0) rest (va_Qr post (fun u r => PW κ (W1 u r) (va_A W0 H.size)) (va_A W0 H.size) a) (va_A W0 H.size)) (hj : BkR κ A H0 H W0 W1 W2) (hk : cells + mc ≤ k) (hs : slots + ms ≤ n)
    (kk : ∀ (u : S) (r : Nat) (H1 : Heap) (locs1 : List Loc), post u → St κ A H0 H1 locs1 (W2 u r) → W p l e R s m args below meth c H1 locs1 k n Q (F0 m (pc + 3) ls (.ref r :: rest))) : W p l e R s m args below meth c H locs cells slots Q (F0 m pc ls st0) :=
  va_callr hr hW.2.2 (fun q _ h => hF q h) hF (fun u r t H1 locs1 ht _ hw hB _ hk1 hS => W.widen hk hs (kk u r H1 locs1 hw (hj u r H1 locs1 hk1 (by rw [← ht]; exact hB.1) hB.2 hS)))
end FinR
section PreBs
variable {s : State} {κ : Kp} {A : Nat → Prop} {H : Heap} {locs : List Loc} {ws X wc pl : va_W} {as : List Value} {b L : Nat} {xs : Nat → Int32}
theorem pre_SB (hX : va_X b L xs s s.heap) (hbl : b < s.heap.size) (hbA : ¬ A b) (hA : ∀ q, s.heap.size ≤ q → A q) (hK : Kx κ s) (hW : St κ A s.heap H locs ws) (isC : List Nat) (hC : isC.map (fun i => ws[i]?) = wc.map some) (hCn : va_nd isC = true) : PreS s H (PreB κ as wc H.size b L xs) as :=
  ⟨PreB.blind, fun U hU hWm => ⟨(pre_S hK hW isC hC hCn).2 U hU hWm, by rw [hU]; exact (hX.kept (hW.2.2.2.1 b hbl hbA)).moved hWm.alike, Nat.lt_of_lt_of_le hbl hW.2.2.1, fun h => hbA (va_free hW.2.1 hW.2.2 hA isC hC b h)⟩⟩
theorem pre_SBP (hX : va_X b L xs s s.heap) (hbl : b < s.heap.size) (hbA : ¬ A b) (hA : ∀ q, s.heap.size ≤ q → A q) (hK : Kx κ s) (hW : St κ A s.heap H locs (X ++ pl)) (isC : List Nat) (hC : isC.map (fun i => X[i]?) = wc.map some) (hCn : va_nd isC = true) : PreS s H (PreB κ as wc H.size b L xs) as :=
  pre_SB hX hbl hbA hA hK hW isC (map_app hC) hCn
theorem pre_SBQ (hX : va_X b L xs s s.heap) (hbl : b < s.heap.size) (hbA : ¬ A b) (hA : ∀ q, s.heap.size ≤ q → A q) (hK : Kx κ s) (hW : St κ A s.heap H locs (X ++ pl)) (isC : List Nat) (hC : isC.map (fun i => X[i]?) = wc.map some) (hCn : va_nd isC = true) : PreS s H (PreB κ as (wc ++ pl) H.size b L xs) as :=
  ⟨PreB.blind, fun U hU hWm => ⟨(pre_SP hK hW isC hC hCn).2 U hU hWm, by rw [hU]; exact (hX.kept (hW.2.2.2.1 b hbl hbA)).moved hWm.alike, Nat.lt_of_lt_of_le hbl hW.2.2.1, fun h => hbA (va_freeP hW.2.1 hW.2.2 hA isC hC b h)⟩⟩
end PreBs
/-! ===== the law's small helpers: their numbers ===== -/
theorem and_max (v : Int32) : ∃ z : Nat, z < 2147483648 ∧ v &&& (2147483647 : Int32) = J (z : Int) := by
  obtain ⟨j, hj, e⟩ := pk_andE v (m := 2147483647) 31 (by decide +kernel)
  exact ⟨j, by omega, by rw [e, J_nat]⟩
/-- a state and its pots' rows that go together -/
def Gd (σ : Sg) (L : List Nat) : Prop := Inv σ ∧ L.length = nn σ ∧ ∀ k, nn σ ≤ k → σ 2 k = 0 ∧ σ 3 k = 0
theorem WS_0 (κ : Kp) (q pp : Nat) : WS κ q pp ([] : List Nat) 0 0 0 = [(q, .inr (2, [.int (J 0), .int (J 0), .int (J 0), .ref pp]))] ++ WQ κ pp 0 (fun _ => none) := by
  have e : (fun i : Nat => ([] : List Nat)[i]?) = fun _ => none := by
    funext i
    exact List.getElem?_nil
  exact congrArg (fun f => ([(q, .inr (2, [.int (J 0), .int (J 0), .int (J 0), .ref pp])), (pp, .inl (kL κ, 0, .inr (.inr (.inr (.inr f)))))] : va_W)) e
