/-! THE OBJECT at q: now nw = q + 6, kept kp = q + 21, trial tr = q + 36, the reader q + 51, the list q + 52; men and Sites lie from q + 65 on, but for the bare Site, q + 1. -/
def cTop (q nw kp tr : Nat) (T : Nat → Nat × Nat) (R : Nat → Nat → Option Nat) : Prop := nw = q + 6 ∧ kp = q + 21 ∧ tr = q + 36 ∧ T q = (21, 0) ∧ R q 0 = some nw ∧ R q 1 = some kp ∧ R q 2 = some tr ∧ R q 3 = some (q + 51) ∧ R q 4 = some (q + 52) ∧ cWk nw T R ∧ cWk kp T R ∧ cWk tr T R ∧ T (q + 51) = (15, 0) ∧ T (q + 52) = (9, 0)
/-- Works w holds σ and the SITE fl, ti, sh -/
def cNw (q w : Nat) (T : Nat → Nat × Nat) (I : Nat → Nat → Int32) (R : Nat → Nat → Option Nat) (σ : Nat → Nat) (fl : List Nat) (ti sh : Nat) : Prop := cA w I σ ∧ cB w I σ ∧ (∀ μ, μ < σ 38 → ∃ b, R (w + 5) μ = some b ∧ cMn T I σ μ b ∧ q + 65 ≤ b) ∧ cMe w T R ∧ ∃ a, R w 12 = some a ∧ cSt a T R ∧ cSi a I fl ti sh ∧ (a = q + 1 ∨ q + 65 ≤ a)
def sGd (fl : List Nat) (ti sh : Nat) : Prop := tOk 20 fl 0 ∧ fl.length ≤ 140 ∧ ti ≤ 99 ∧ sh ≤ 99
def qF (q c : Nat) : Prop := q + 36 ≤ c ∧ c < q + 51
def qR (q c j : Nat) : Prop := c = q + 41 ∨ (c = q + 36 ∧ j = 12)
/-- only what is tried out has changed -/
def cQ (q : Nat) (I I' : Nat → Nat → Int32) (R R' : Nat → Nat → Option Nat) : Prop := (∀ c j, ¬ qF q c → I' c j = I c j) ∧ ∀ c j, ¬ qR q c j → R' c j = R c j
section TP
variable {q nw kp tr w : Nat} {T : Nat → Nat × Nat} {I I' I'' : Nat → Nat → Int32} {R R' R'' : Nat → Nat → Option Nat} {σ : Nat → Nat} {fl : List Nat} {ti sh K : Nat}
theorem cQ.rf : cQ q I I R R := ⟨fun _ _ _ => rfl, fun _ _ _ => rfl⟩
theorem cQ.trs (h : cQ q I I' R R') (h2 : cQ q I' I'' R' R'') : cQ q I I'' R R'' := ⟨fun c j g => (h2.1 c j g).trans (h.1 c j g), fun c j g => (h2.2 c j g).trans (h.2 c j g)⟩
theorem cTop.fr (h : cTop q nw kp tr T R) (hR : ∀ c j, ¬ qR q c j → R' c j = R c j) : cTop q nw kp tr T R' := by
  obtain ⟨h1, h2, h3, h4, h5, h6, h7, h8, h9, h10, h11, h12, h13⟩ := h
  have hf : ∀ c j, ¬ c = tr + 5 → ¬ (c = tr ∧ j = 12) → R' c j = R c j := fun c j g1 g2 => hR c j (by unfold qR; omega)
  exact ⟨h1, h2, h3, h4, (hR q 0 (by unfold qR; omega)).trans h5, (hR q 1 (by unfold qR; omega)).trans h6, (hR q 2 (by unfold qR; omega)).trans h7, (hR q 3 (by unfold qR; omega)).trans h8, (hR q 4 (by unfold qR; omega)).trans h9, cWk_fr h10 (by omega) hf, cWk_fr h11 (by omega) hf, cWk_fr h12 (Or.inl rfl) hf, h13⟩
theorem cSt.fr {a : Nat} (h : cSt a T R) (hR : ∀ j, R' a j = R a j) : cSt a T R' := by
  obtain ⟨h1, h2, h3, h4, h5, h6, h7, h8, h9⟩ := h
  exact ⟨h1, h2, h3, h4, h5, (hR 2).trans h6, (hR 3).trans h7, (hR 4).trans h8, (hR 5).trans h9⟩
theorem cNw.fr (h : cNw q w T I R σ fl ti sh) (hw : q + 6 ≤ w) (hw2 : w + 15 ≤ q + 36) (hQ : cQ q I I' R R') : cNw q w T I' R' σ fl ti sh := by
  obtain ⟨hI, hR⟩ := hQ
  obtain ⟨h1, h2, h3, h4, a, h5, h6, h7, h8⟩ := h
  have hr5 : ∀ k, R' (w + 5) k = R (w + 5) k := fun k => hR _ _ (by unfold qR; omega)
  refine ⟨h1.k (fun c j g1 g2 => hI c j (by unfold qF; omega)), ⟨(hI _ _ (by unfold qF; omega)).trans h2.1, (hI _ _ (by unfold qF; omega)).trans h2.2.1, fun k hk => (hI _ _ (by unfold qF; omega)).trans (h2.2.2.1 k hk), fun k hk => (hI _ _ (by unfold qF; omega)).trans (h2.2.2.2 k hk)⟩, fun μ hμ => ?_, fun k hk => ?_, a, (hR _ _ (by unfold qR; omega)).trans h5, h6.fr (fun j => hR _ _ (by unfold qR; omega)), h7.k (fun c j g1 g2 => hI c j (by unfold qF; omega)), h8⟩
  · obtain ⟨b, g1, g2, g3⟩ := h3 μ hμ
    exact ⟨b, (hr5 μ).trans g1, g2.k (fun j => hI b j (by unfold qF; omega)), g3⟩
  · rw [hr5 k]
    exact h4 k hk
/-- the man μ of w, with all that a walk in w2 wants -/
theorem cAll.of {w2 b a μ : Nat} (hW : cWk w2 T R) (hA : cA w2 I σ) (hm : cMn T I σ μ b) (hb : q + 65 ≤ b) (ha : a = q + 1 ∨ q + 65 ≤ a) (hst : cSt a T R) (hsi : cSi a I fl ti sh) (hs : R w2 12 = some a) (hG : sGd fl ti sh) (hbd : sBd σ K) (hμ : μ < 4) (h38 : μ < σ 38) (h2 : q + 6 ≤ w2) (h3 : w2 + 15 ≤ q + 65) : cAll w2 b a μ T I R σ fl ti sh K :=
  ⟨hW, hA, hm, by unfold oW; omega, hst, hsi, hs, by unfold oS; omega, hG, hbd, hμ, h38⟩
end TP
