theorem cMn.k {T : Nat → Nat × Nat} {I I' : Nat → Nat → Int32} {σ : Nat → Nat} {μ b : Nat} (h : cMn T I σ μ b) (hk : ∀ j, I' b j = I b j) : cMn T I' σ μ b := ⟨h.1, (hk 0).trans h.2.1, (hk 1).trans h.2.2.1, (hk 2).trans h.2.2.2.1, (hk 3).trans h.2.2.2.2⟩
theorem cMn.s {T : Nat → Nat × Nat} {I : Nat → Nat → Int32} {σ σ' : Nat → Nat} {μ b : Nat} (h : cMn T I σ μ b) (h1 : σ' (44 + μ) = σ (44 + μ)) (h2 : σ' (48 + μ) = σ (48 + μ)) (h3 : σ' (52 + μ) = σ (52 + μ)) : cMn T I σ' μ b := by
  unfold cMn
  rw [h1, h2, h3]
  exact h
theorem fF_lt {σ : Nat → Nat} {K μ υ β : Nat} (hb : sBd σ K) (hμ : μ < 4) (hυ : υ < 10) (hβ : β ≤ 20) (j : Nat) : fF σ μ υ β j < 2 ^ 30 := by
  have h1 : σ (8 + υ) ≤ 9 := hb.2.2.2.1 υ (by omega)
  have h2 : σ (18 + υ) ≤ 9 := by have h := hb.2.2.2.1 (10 + υ) (by omega); rw [← Nat.add_assoc] at h; exact h
  have h3 : σ (28 + υ) ≤ 9 := by have h := hb.2.2.2.1 (20 + υ) (by omega); rw [← Nat.add_assoc] at h; exact h
  have h4 : σ (44 + μ) ≤ 6 := (hb.2.2.2.2.2.2.2.2.1 μ hμ).1
  unfold fF
  split
  · omega
  · split
    · omega
    · split
      · omega
      · split
        · omega
        · split <;> omega
theorem mx_v {a b : Nat} (ha : a ≤ 13860) (hb : b ≤ 13860) : (if (1 : Int32) < 2 + (nI a - nI b) then 2 + (nI a - nI b) else 1) = nI (max 1 (2 + a - b)) := by
  by_cases h : (1 : Int32) ≤ 2 + (nI a - nI b)
  · have h1 := gtk_1 ha hb h
    rw [gtk_v h1]
    by_cases h2 : (1 : Int32) < nI (2 + a - b)
    · rw [if_pos h2]
      congr 1
      omega
    · rw [if_neg h2]
      have h3 : ¬ 1 < 2 + a - b := fun g => h2 (nI_lt (a := 1) g (by omega))
      rw [show max 1 (2 + a - b) = 1 by omega]
      rfl
  · have h1 := gtk_0 ha hb h
    rw [if_neg (fun g => h (Int32.le_of_lt g)), show max 1 (2 + a - b) = 1 by omega]
    rfl
/-- where the Site's cells lie -/
def oS (w a : Nat) : Prop := a + 5 ≤ w ∨ w + 15 ≤ a
/-- all that a walk wants: Works w, the man μ at b, the Site at a -/
def cAll (w b a μ : Nat) (T : Nat → Nat × Nat) (I : Nat → Nat → Int32) (R : Nat → Nat → Option Nat) (σ : Nat → Nat) (fl : List Nat) (ti sh K : Nat) : Prop := cWk w T R ∧ cA w I σ ∧ cMn T I σ μ b ∧ oW w b ∧ cSt a T R ∧ cSi a I fl ti sh ∧ R w 12 = some a ∧ oS w a ∧ (tOk 20 fl 0 ∧ fl.length ≤ 140 ∧ ti ≤ 99 ∧ sh ≤ 99) ∧ sBd σ K ∧ μ < 4 ∧ μ < σ 38
theorem cAll.k {w b a μ : Nat} {T : Nat → Nat × Nat} {I I' : Nat → Nat → Int32} {R : Nat → Nat → Option Nat} {σ : Nat → Nat} {fl : List Nat} {ti sh K : Nat} (h : cAll w b a μ T I R σ fl ti sh K) (hk : ∀ c j, ¬ (w + 7 ≤ c ∧ c < w + 15) → I' c j = I c j) : cAll w b a μ T I' R σ fl ti sh K := by
  obtain ⟨h1, h2, h3, h4, h5, h6, h7, h8, h9⟩ := h
  have h4' := h4
  have h8' := h8
  unfold oW at h4'
  unfold oS at h8'
  exact ⟨h1, h2.k (fun c j g1 g2 => hk c j (by omega)), h3.k (fun j => hk b j (by omega)), h4, h5, h6.k (fun c j g1 g2 => hk c j (by omega)), h7, h8, h9⟩
section GJI
variable {p : Program} {l : Launch} {e : Env} {Rm : Room} {s : State} {m : MethodId} {args : Array Value} {below : List Frame} {meth : Method} {c : Code} {H : Heap} {locs : List Loc} {cells slots : Nat} {Q : State → Prop}
variable {pc : Nat} {ls : Array Slot} {D : va_G} {cy : Nat → ClassId} {B z : Nat} {T : Nat → Nat × Nat} {I : Nat → Nat → Int32} {R : Nat → Nat → Option Nat} {H0 : Heap}
/-- ways come together, with I by what holds of it -/
theorem g_joinI (Pd : (Nat → Nat → Int32) → Prop) (join : Nat) (st1 : List Value) {st0 : List Value} (hP : gP D cy B z T I R H) (hS : va_S (gA B) H0 H locs)
    (k2 : (∀ (I' : Nat → Nat → Int32) (H1 : Heap) (l1 : List Loc), Pd I' → gP D cy B z T I' R H1 → va_S (gA B) H0 H1 l1 → W p l e Rm s m args below meth c H1 l1 cells slots Q (F0 m join ls st1)) → W p l e Rm s m args below meth c H locs cells slots Q (F0 m pc ls st0))
    (k1 : ∀ (I' : Nat → Nat → Int32) (H1 : Heap) (l1 : List Loc), Pd I' → gP D cy B z T I' R H1 → va_S (gA B) H0 H1 l1 → W p l e Rm s m args below meth c H1 l1 cells slots Q (F0 m join ls st1)) : W p l e Rm s m args below meth c H locs cells slots Q (F0 m pc ls st0) := k2 k1
end GJI
