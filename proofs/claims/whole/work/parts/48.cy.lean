/-! ROUNDS as far as t goes, as the class goes them: without EARTH it ends -/
section CY
variable {w b a μ : Nat} {T : Nat → Nat × Nat} {I I' : Nat → Nat → Int32} {R : Nat → Nat → Option Nat} {σ σ' : Nat → Nat} {fl : List Nat} {ti sh K K' ld t : Nat}
def fM (fl : List Nat) (ti sh : Nat) : Nat → Nat → Int32 := fun _ i => if i = 42 then nI 0 else if i = 168 then nI ti else if i = 173 then nI sh else if i = 178 then nI fl.length else encR (fl.getD (i - 183) 0)
theorem fM_site (h : tOk 20 fl 0 ∧ fl.length ≤ 140 ∧ ti ≤ 99 ∧ sh ≤ 99) : mSite (fM fl ti sh) fl ti sh := by
  refine ⟨h.1, h.2.1, h.2.2.1, h.2.2.2, Or.inr ⟨0, by omega, rfl, rfl, rfl, rfl, fun k hk => ?_⟩⟩
  show (if 183 + 140 * 0 + k = 42 then _ else _) = _
  rw [if_neg (by omega), if_neg (by omega), if_neg (by omega), if_neg (by omega), show 183 + 140 * 0 + k - 183 = k by omega]
theorem sBd_go' (h : tOk 20 fl 0 ∧ fl.length ≤ 140 ∧ ti ≤ 99 ∧ sh ≤ 99) (hb : sBd σ K) (hμ : μ < 4) (ld : Nat) : sBd (sGo fl ti sh σ μ ld) (K + 300000) := sBd_go (fM_site h) hb hμ ld
theorem sSe_le' (h : tOk 20 fl 0 ∧ fl.length ≤ 140 ∧ ti ≤ 99 ∧ sh ≤ 99) (hb : sBd σ K) (hμ : μ < 4) (ld : Nat) : sSe fl sh σ μ ld ≤ 290000 := sSe_le (fM_site h) hb hμ ld
def kW (w c j : Nat) : Prop := (c = w ∧ 8 ≤ j ∧ j ≤ 11) ∨ c = w + 6 ∨ c = w + 2 ∨ (w + 10 ≤ c ∧ c < w + 15)
theorem cAll.go (h : cAll w b a μ T I R σ fl ti sh K) (hA : cA w I' σ') (h18 : ∀ i, 18 ≤ i → σ' i = σ i) (hb : sBd σ' K') (hk : ∀ c j, ¬ kW w c j → I' c j = I c j) : cAll w b a μ T I' R σ' fl ti sh K' := by
  obtain ⟨h1, h2, h3, h4, h5, h6, h7, h8, h9, h10, h11, h12⟩ := h
  have h4' := h4
  have h8' := h8
  unfold oW at h4'
  unfold oS at h8'
  exact ⟨h1, hA, (h3.k (fun j => hk b j (by unfold kW; omega))).s (h18 _ (by omega)) (h18 _ (by omega)) (h18 _ (by omega)), h4, h5, h6.k (fun c j g1 g2 => hk c j (by unfold kW; omega)), h7, h8, h9, hb, h11, by rw [h18 38 (by omega)]; exact h12⟩
def cBy (fl : List Nat) (ti sh μ ld t : Nat) : Nat → (Nat → Nat) → Nat → (Nat → Nat)
  | 0, σ, _ => σ
  | n + 1, σ, tk => if σ 0 = 0 then σ else if t < tk + sSe fl sh σ μ ld then σ else cBy fl ti sh μ ld t n (sGo fl ti sh σ μ ld) (tk + sSe fl sh σ μ ld)
theorem cBy_z : ∀ {n : Nat} {tk : Nat}, σ 0 = 0 → cBy fl ti sh μ ld t n σ tk = σ
  | 0, _, _ => rfl
  | n + 1, _, h => if_pos h
theorem cBy_s {k tk : Nat} (hk : k < 200) (h0 : ¬ σ 0 = 0) (h : ¬ t < tk + sSe fl sh σ μ ld) : cBy fl ti sh μ ld t (200 - k) σ tk = cBy fl ti sh μ ld t (200 - (k + 1)) (sGo fl ti sh σ μ ld) (tk + sSe fl sh σ μ ld) := by
  rw [show 200 - k = (200 - (k + 1)) + 1 by omega]
  show (if _ then _ else if _ then _ else _) = _
  rw [if_neg h0, if_neg h]
theorem cBy_e {k tk : Nat} (hk : k < 200) (h : t < tk + sSe fl sh σ μ ld) : cBy fl ti sh μ ld t (200 - k) σ tk = σ := by
  rw [show 200 - k = (200 - (k + 1)) + 1 by omega]
  show (if _ then _ else if _ then _ else _) = _
  by_cases h0 : σ 0 = 0
  · rw [if_pos h0]
  · rw [if_neg h0, if_pos h]
theorem sCm_z (h : σ 0 = 0) : sCm σ μ ld = 0 := by
  have := sCm_e σ μ ld
  omega
theorem sBr_z (h : σ 0 = 0) : sBr fl σ μ ld = 0 := by
  have h1 := sBr_le fl σ μ ld
  rw [sCm_z h] at h1
  omega
/-- without EARTH nothing more comes OVER -/
theorem sBy_z : ∀ (n : Nat) (σ : Nat → Nat) (tk : Nat), σ 0 = 0 → sBy fl ti sh μ ld t n σ tk 0 = 0 ∧ sBy fl ti sh μ ld t n σ tk 1 = σ 1
  | 0, _, _, h => ⟨h, rfl⟩
  | n + 1, σ, tk, h => by
    unfold sBy
    split
    · exact ⟨h, rfl⟩
    · have h1 : sGo fl ti sh σ μ ld 0 = 0 := by rw [sGo_0]; omega
      have ih := sBy_z n (sGo fl ti sh σ μ ld) (tk + sSe fl sh σ μ ld) h1
      refine ⟨ih.1, ih.2.trans ?_⟩
      rw [sGo_1, sBr_z h, Nat.add_zero]
/-- the class's and the reference's: the same, or both without EARTH and with the same OVER -/
def sAl (σ σ' : Nat → Nat) : Prop := σ = σ' ∨ (σ 0 = 0 ∧ σ' 0 = 0 ∧ σ 1 = σ' 1)
theorem cBy_al : ∀ (n : Nat) (σ : Nat → Nat) (tk : Nat), sAl (cBy fl ti sh μ ld t n σ tk) (sBy fl ti sh μ ld t n σ tk)
  | 0, _, _ => Or.inl rfl
  | n + 1, σ, tk => by
    unfold cBy
    by_cases h0 : σ 0 = 0
    · rw [if_pos h0]
      have h := sBy_z (fl := fl) (ti := ti) (sh := sh) (μ := μ) (ld := ld) (t := t) (n + 1) σ tk h0
      exact Or.inr ⟨h0, h.1, h.2.symm⟩
    · rw [if_neg h0]
      unfold sBy
      by_cases h1 : t < tk + sSe fl sh σ μ ld
      · rw [if_pos h1, if_pos h1]
        exact Or.inl rfl
      · rw [if_neg h1, if_neg h1]
        exact cBy_al n _ _
theorem sAl.one (h : sAl σ σ') : σ 1 = σ' 1 := by
  rcases h with rfl | h
  · rfl
  · exact h.2.2
theorem sAl.by {μ2 : Nat} (h : sAl σ σ') : sAl (cBy fl ti sh μ2 ld t 200 σ 0) (sBy fl ti sh μ2 ld t 200 σ' 0) := by
  rcases h with rfl | ⟨h1, h2, h3⟩
  · exact cBy_al 200 σ 0
  · rw [cBy_z h1]
    have h4 := sBy_z (fl := fl) (ti := ti) (sh := sh) (μ := μ2) (ld := ld) (t := t) 200 σ' 0 h2
    exact Or.inr ⟨h1, h4.1, h3.trans h4.2.symm⟩
end CY
