/-! THE BEGINNING: behind both constructors the law's invariant holds. -/
section IN0
variable {q E w : Nat} {ad : Nat → Nat} {T T' : Nat → Nat × Nat} {I I' : Nat → Nat → Int32} {R R' : Nat → Nat → Option Nat}
/-- the numbers of a new object -/
def s00 : Nat → Nat := g1 (fun _ => 0) 0 100
theorem s00_0 : s00 0 = 100 := g1_same
theorem s00_n {i : Nat} (h : i ≠ 0) : s00 i = 0 := g1_ne h
theorem s00_le {i : Nat} (m : Nat) (h : i ≠ 0) : s00 i ≤ m := by
  rw [s00_n h]
  exact Nat.zero_le m
theorem s00_bd : sBd s00 0 := ⟨by rw [s00_0]; decide, ⟨s00_le _ (by decide), s00_le _ (by decide), s00_le _ (by decide)⟩, fun μ _ => s00_le _ (by omega), fun υ _ => s00_le _ (by omega), s00_le _ (by decide), s00_le _ (by decide), s00_le _ (by decide), s00_le _ (by decide), fun μ _ => ⟨s00_le _ (by omega), s00_le _ (by omega), s00_le _ (by omega)⟩, fun k _ => s00_le _ (by omega), fun k _ => s00_le _ (by omega)⟩
theorem cWk.lo (h : cWk w T R) (hw : w = q + 6 ∨ w = q + 21 ∨ w = q + 36) (hT : ∀ c, c < q + 53 → T' c = T c) (hR : ∀ c j, c < q + 53 → R' c j = R c j) : cWk w T' R' := by
  refine ⟨fun k t hk => (hT _ (by have h9 := (List.getElem?_eq_some_iff.mp hk).1; have h8 : wTl.length = 15 := rfl; omega)).trans (h.1 k t hk), fun k x hk => ?_⟩
  have h2 : ∀ x ∈ wRl, x.1 < 15 := by decide
  have h3 := h2 x (List.mem_of_getElem? hk)
  exact (hR _ _ (by omega)).trans (h.2 k x hk)
theorem cTop.lo {nw kp tr : Nat} (h : cTop q nw kp tr T R) (hT : ∀ c, c < q + 53 → T' c = T c) (hR : ∀ c j, c < q + 53 → R' c j = R c j) : cTop q nw kp tr T' R' := by
  obtain ⟨h1, h2, h3, h4, h5, h6, h7, h8, h9, h10, h11, h12, h13, h14⟩ := h
  have hq : ∀ j, R' q j = R q j := fun j => hR q j (by omega)
  exact ⟨h1, h2, h3, (hT q (by omega)).trans h4, (hq 0).trans h5, (hq 1).trans h6, (hq 2).trans h7, (hq 3).trans h8, (hq 4).trans h9, h10.lo (Or.inl h1) hT hR, h11.lo (Or.inr (Or.inl h2)) hT hR, h12.lo (Or.inr (Or.inr h3)) hT hR, (hT _ (by omega)).trans h13, (hT _ (by omega)).trans h14⟩
/-- a new Works -/
theorem cAB_0 (h0 : ∀ c j, w ≤ c → c < w + 15 → ¬ (c = w ∧ j = 8) → I c j = 0) (h8 : I w 8 = 100) : cAB w I s00 := fun i hi => by
  have g := pCJ hi
  by_cases e : i = 0
  · subst e
    rw [s00_0]
    exact h8
  · rw [s00_n e]
    exact h0 _ _ (by omega) (by omega) (by omega)
theorem j_init (hlt : ∀ c, (T c).1 ≠ 0 → c < q + 53) (hTp : cTop q (q + 6) (q + 21) (q + 36) T R) (hSt : cSt (q + 1) T R ∧ cSr (q + 1) I [] [] ∧ I (q + 1) 0 = 1 ∧ I (q + 1) 1 = 2) (hW : R (q + 6) 12 = some (q + 1) ∧ (∀ k, k < 4 → R (q + 6 + 5) k = none) ∧ (∀ c j, q + 6 ≤ c → c < q + 6 + 15 → ¬ (c = q + 6 ∧ j = 8) → I c j = 0) ∧ I (q + 6) 8 = 100) (hL : cLs (q + 52) E ad T I R []) (h5 : I q 5 = 0)
    (hT : ∀ c, c < q + 53 → T' c = T c) (hI : ∀ c j, c < q + 53 → I' c j = I c j) (hR : ∀ c j, c < q + 53 → R' c j = R c j) (hMd : gMod (q + 53) T' R') (hM0 : ∀ k j, k < 12 → ¬ (k = 0 ∧ j = 17) → ¬ (k = 1 ∧ (j = 0 ∨ j = 42)) → I' (q + 53 + k) j = 0) (hM1 : I' (q + 53) 17 = 1 ∧ I' (q + 53 + 1) 0 = 100 ∧ I' (q + 53 + 1) 42 = -1) : jI q E ad 0 1 (q + 65, T', I', R') := by
  have hok : tOk 20 [] 0 := by
    unfold tOk
    rfl
  have hgd : sGd [] 1 2 := ⟨hok, by decide, by decide, by decide⟩
  obtain ⟨w1, w2, w3, w4⟩ := hW
  have hab : cAB (q + 6) I' s00 := cAB_0 (fun c j a1 a2 a3 => (hI c j (by omega)).trans (w3 c j a1 a2 a3)) ((hI _ _ (by omega)).trans w4)
  have e38 : s00 38 = 0 := s00_n (by decide)
  have hmen : jMen q (q + 6) T' I' R' s00 := fun μ hμ => absurd hμ (by rw [e38]; exact Nat.not_lt_zero μ)
  have hme : cMe (q + 6) T' R' := fun k hk => Or.inl ((hR _ _ (by omega)).trans (w2 k hk))
  have hst0 : jSt q (q + 6) T I R [] 1 2 := ⟨q + 1, w1, hSt.1, ⟨hSt.2.2.1, hSt.2.2.2, [], rfl, hSt.2.1⟩, Or.inl rfl⟩
  have hst : jSt q (q + 6) T' I' R' [] 1 2 := jSt.up hst0 hlt hT (fun c j a1 _ => hI c j a1) (fun c j a1 _ _ => hR c j a1) (hR _ 12 (by omega))
  have hC : jC q E ad (q + 65) T' I' R' s00 [] 1 2 [] 0 s00 [] 1 2 := ⟨Nat.le_refl _, hTp.lo hT hR, cNw.mk hab hmen hme hst, fun μ hμ => Or.inl ((hI _ _ (by omega)).trans (w3 _ _ (by omega) (by omega) (by omega))), hL.up hlt hT (hI _ _ (by omega)) (hR _ _ (by omega)) (fun c j a1 _ => hR c j a1), (hI q 5 (by omega)).trans h5, fun g => absurd g (by decide)⟩
  have hA : aI 0 s00 [] 1 2 [] 0 s00 [] 1 2 := ⟨hgd, s00_bd, ⟨by decide, fun i => by rw [List.getD_nil]; exact Nat.zero_le _⟩, by decide, fun g => absurd g (by decide), s00_le _ (by decide), fun g => absurd g (by decide)⟩
  have hmS : mS (fun k j => I' (q + 53 + k) j) s00 := fun i h1 h2 => by
    by_cases e : i = 0
    · subst e
      rw [s00_0]
      exact hM1.2.1
    · rw [s00_n e]
      exact hM0 1 i (by decide) (by omega) (by omega)
  have hms : mSite (fun k j => I' (q + 53 + k) j) [] 1 2 := ⟨hok, by decide, by decide, by decide, Or.inl ⟨hM1.2.2, rfl, rfl, rfl⟩⟩
  have hmc : mCache (fun k j => I' (q + 53 + k) j) [] s00 1 0 := ⟨by decide, by decide, hM1.1, hM0 0 18 (by decide) (by decide) (by decide), fun a ha => ⟨0, by decide, hM0 6 a (by decide) (by omega) (by omega), fun g => absurd g (by decide)⟩⟩
  exact ⟨s00, [], 1, 2, [], 0, s00, [], 1, 2, fun k j => I' (q + 53 + k) j, hC, hA, ⟨⟨1, 0, Nat.le_refl _, hmS, hms, s00_bd, hmc⟩, Or.inl hM1.2.2, ⟨hM0 0 26 (by decide) (by decide) (by decide), fun k hk => absurd hk (Nat.not_lt_zero k)⟩, hM0 0 3 (by decide) (by decide) (by decide), fun g => absurd g (by decide)⟩, hMd, fun k j _ => rfl⟩
end IN0
