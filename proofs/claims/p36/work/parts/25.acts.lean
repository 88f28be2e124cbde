/-! ===== what an act leaves ===== -/
def AG (σ τ : Sg) (L : List Nat) : Prop := Gd τ L ∧ nn σ ≤ nn τ ∧ τ 5 0 ≤ σ 5 0 + 60 ∧ τ 5 1 ≤ σ 5 1 + 60
theorem ag_rf {σ : Sg} {L : List Nat} (h : Gd σ L) : AG σ σ L := ⟨h, Nat.le_refl _, by omega, by omega⟩
theorem ag_of {σ τ : Sg} {L : List Nat} (h : Gd τ L) (hn : nn σ ≤ nn τ) (h0 : τ 5 0 = σ 5 0) (h1 : τ 5 1 = σ 5 1) : AG σ τ L := ⟨h, hn, by omega, by omega⟩
theorem ag_up {σ : Sg} {L : List Nat} {f p : Nat} {v : Int} (h : Gd σ L) (hf : f < 5) (hp : p < nn σ) (hI : Inv (up σ f p v)) : AG σ (up σ f p v) L :=
  ag_of (gd_up h hf hp hI) (by rw [nn_up _ _ _ hf]; exact Nat.le_refl _) (by rw [up_n _ _ _ (show 5 ≠ f by omega)]) (by rw [up_n _ _ _ (show 5 ≠ f by omega)])
theorem ag_up2 {σ : Sg} {L : List Nat} {f g p q : Nat} {v w : Int} (h : Gd σ L) (hf : f < 5) (hg : g < 5) (hp : p < nn σ) (hq : q < nn σ) (hI : Inv (up σ f p v)) (hI2 : Inv (up (up σ f p v) g q w)) : AG σ (up (up σ f p v) g q w) L :=
  ag_of (gd_up (gd_up h hf hp hI) hg (by rw [nn_up _ _ _ hf]; exact hq) hI2) (by rw [nn_up _ _ _ hg, nn_up _ _ _ hf]; exact Nat.le_refl _) (by rw [up_n _ _ _ (show 5 ≠ g by omega), up_n _ _ _ (show 5 ≠ f by omega)]) (by rw [up_n _ _ _ (show 5 ≠ g by omega), up_n _ _ _ (show 5 ≠ f by omega)])
theorem ag_pour {σ : Sg} {L : List Nat} {p t : Nat} {i : Int} (h : Gd σ L) (hp : p < nn σ) (ht : t < nn σ) (h0 : 0 ≤ i) (h1 : i ≤ σ 1 p) (h2 : σ 1 t + i ≤ 20) : AG σ (up (up σ 1 p (σ 1 p - i)) 1 t (σ 1 t + i)) L :=
  ag_of (gd_pour h hp ht h0 h1 h2) (by rw [nn_up _ _ _ (by decide), nn_up _ _ _ (by decide)]; exact Nat.le_refl _) rfl rfl
theorem ag_pbn {σ : Sg} {L : List Nat} (h : Gd σ L) {k : Nat} (hk : k ≤ 60) : AG σ (pbn σ k) L := by
  have h0 := pbn_50 σ k
  have h1 := pbn_51 σ k
  exact ⟨gd_pbn h k, by rw [pbn_nn]; exact Nat.le_refl _, by omega, by omega⟩
theorem ag_add {σ : Sg} {L : List Nat} {n q : Nat} {x y z : Int} (h : Gd σ L) (hn : σ 5 3 = (n : Int)) (h10 : n < 10) (hx : 0 ≤ x ∧ x ≤ 3) (hy : 0 ≤ y ∧ y ≤ 35) (hz : 0 ≤ z ∧ z ≤ 20) : AG σ (adS σ n x y z) (L ++ [q]) :=
  ag_of (gd_add h hn h10 hx hy hz) (by rw [adS_nn hn]; have : nn σ = n := by unfold nn; omega
                                       omega) rfl rfl
theorem gd_zs : Gd zs ([] : List Nat) := ⟨Inv_zs, rfl, fun _ _ => ⟨rfl, rfl⟩⟩
