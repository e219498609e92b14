/-! WORKS at w: its cells w .. w + 14 (1 yards, 2 SOFT, 3 SLOPE, 4 BOARD, 5 men, 6 tired, 7 tape, 8 noted, 9 trips, 10 facts, 11 .. 14 the Trips). -/
def wTl : List (Nat × Nat) := [(20, 0), (7, 3), (1, 10), (1, 10), (1, 10), (4, 4), (1, 4), (2, 100), (1, 12), (5, 4), (1, 6), (18, 0), (18, 0), (18, 0), (18, 0)]
def wRl : List (Nat × Nat × Nat) := [(0, 0, 1), (0, 1, 5), (0, 2, 6), (0, 3, 7), (0, 4, 8), (0, 14, 9), (0, 15, 10), (1, 0, 2), (1, 1, 3), (1, 2, 4), (9, 0, 11), (9, 1, 12), (9, 2, 13), (9, 3, 14)]
def cWk (w : Nat) (T : Nat → Nat × Nat) (R : Nat → Nat → Option Nat) : Prop := (∀ (k : Nat) (t : Nat × Nat), wTl[k]? = some t → T (w + k) = t) ∧ ∀ (k : Nat) (x : Nat × Nat × Nat), wRl[k]? = some x → R (w + x.1) x.2.1 = some (w + x.2.2)
section CW1
variable {w : Nat} {T : Nat → Nat × Nat} {R R' : Nat → Nat → Option Nat} {I I' : Nat → Nat → Int32} {σ : Nat → Nat}
theorem cWk.t (h : cWk w T R) (k : Nat) {t : Nat × Nat} (hk : wTl[k]? = some t) : T (w + k) = t := h.1 k t hk
theorem cWk.t0 (h : cWk w T R) : T w = (20, 0) := h.1 0 _ rfl
theorem cWk.r (h : cWk w T R) (k : Nat) {x : Nat × Nat × Nat} (hk : wRl[k]? = some x) : R (w + x.1) x.2.1 = some (w + x.2.2) := h.2 k x hk
theorem cWk.trip (h : cWk w T R) {μ : Nat} (hμ : μ < 4) : R (w + 9) μ = some (w + 11 + μ) := by
  rcases j4 hμ with rfl | rfl | rfl | rfl
  · exact h.r 10 rfl
  · exact h.r 11 rfl
  · exact h.r 12 rfl
  · exact h.r 13 rfl
theorem cWk.tript (h : cWk w T R) {μ : Nat} (hμ : μ < 4) : T (w + 11 + μ) = (18, 0) := by
  rcases j4 hμ with rfl | rfl | rfl | rfl
  · exact h.t 11 rfl
  · exact h.t 12 rfl
  · exact h.t 13 rfl
  · exact h.t 14 rfl
theorem cWk.yd (h : cWk w T R) {k : Nat} (hk : k < 3) : R (w + 1) k = some (w + 2 + k) := by
  rcases (show k = 0 ∨ k = 1 ∨ k = 2 by omega) with rfl | rfl | rfl
  · exact h.r 7 rfl
  · exact h.r 8 rfl
  · exact h.r 9 rfl
theorem cWk.ydt (h : cWk w T R) {k : Nat} (hk : k < 3) : T (w + 2 + k) = (1, 10) := by
  rcases (show k = 0 ∨ k = 1 ∨ k = 2 by omega) with rfl | rfl | rfl
  · exact h.t 2 rfl
  · exact h.t 3 rfl
  · exact h.t 4 rfl
theorem cWk.k (h : cWk w T R) (hR : ∀ x ∈ wRl, R' (w + x.1) x.2.1 = R (w + x.1) x.2.1) : cWk w T R' := ⟨h.1, fun k x hk => (hR x (List.mem_of_getElem? hk)).trans (h.2 k x hk)⟩
/-- the numbers of it all but the tape and the book -/
def cA (w : Nat) (I : Nat → Nat → Int32) (σ : Nat → Nat) : Prop := (∀ k y, k < 3 → y < 10 → I (w + 2 + k) y = nI (σ (8 + 10 * k + y))) ∧ (∀ μ, μ < 4 → I (w + 6) μ = nI (σ (4 + μ))) ∧ I w 5 = nI (σ 38) ∧ I w 8 = nI (σ 0) ∧ I w 9 = nI (σ 1) ∧ I w 10 = nI (σ 2) ∧ I w 11 = nI (σ 3) ∧ I w 13 = nI (σ 39)
def cB (w : Nat) (I : Nat → Nat → Int32) (σ : Nat → Nat) : Prop := I w 6 = nI (σ 41) ∧ I w 7 = nI (σ 40) ∧ (∀ k, k < 100 → I (w + 7) k = nI (σ (68 + k))) ∧ ∀ k, k < 12 → I (w + 8) k = nI (σ (56 + k))
theorem cA.s (h : cA w I σ) {y : Nat} (hy : y < 10) : I (w + 2) y = nI (σ (8 + y)) := h.1 0 y (by decide) hy
theorem cA.l (h : cA w I σ) {y : Nat} (hy : y < 10) : I (w + 3) y = nI (σ (18 + y)) := h.1 1 y (by decide) hy
theorem cA.b (h : cA w I σ) {y : Nat} (hy : y < 10) : I (w + 4) y = nI (σ (28 + y)) := h.1 2 y (by decide) hy
theorem cA.k (h : cA w I σ) (hk : ∀ a j, w ≤ a → a < w + 7 → I' a j = I a j) : cA w I' σ :=
  ⟨fun k y h1 h2 => (hk _ _ (by omega) (by omega)).trans (h.1 k y h1 h2), fun μ hμ => (hk _ _ (by omega) (by omega)).trans (h.2.1 μ hμ), (hk _ _ (by omega) (by omega)).trans h.2.2.1, (hk _ _ (by omega) (by omega)).trans h.2.2.2.1, (hk _ _ (by omega) (by omega)).trans h.2.2.2.2.1, (hk _ _ (by omega) (by omega)).trans h.2.2.2.2.2.1, (hk _ _ (by omega) (by omega)).trans h.2.2.2.2.2.2.1, (hk _ _ (by omega) (by omega)).trans h.2.2.2.2.2.2.2⟩
/-- the man μ at b -/
def cMn (T : Nat → Nat × Nat) (I : Nat → Nat → Int32) (σ : Nat → Nat) (μ b : Nat) : Prop := T b = (mcl (σ (44 + μ)) + 8, 0) ∧ I b 0 = nI (σ (44 + μ)) ∧ I b 1 = nI μ ∧ I b 2 = nI (σ (48 + μ)) ∧ I b 3 = nI (σ (52 + μ))
/-- b is no cell of w's -/
def oW (w b : Nat) : Prop := b < w ∨ w + 15 ≤ b
end CW1
