/-! THE LAW'S INVARIANT: how all is in the document's words, the class's object at q (now q + 6, kept q + 21, trial q + 36), the reference at q + 53. -/
section JA
variable {tp : Nat → Nat} {n : Nat}
theorem pCl_n (htp : ∀ k, tp k ≤ 127) {r : RS} (h : r.2.1 ≤ 99 ∧ r.2.2 ≤ 99) : (pCl tp n r).2.1 ≤ 99 ∧ (pCl tp n r).2.2 ≤ 99 := by
  have ht : ∀ (b : Bool) (w : List Nat) (s : PS), (pTell tp n b w s r.2).2.1 ≤ 99 ∧ (pTell tp n b w s r.2).2.2 ≤ 99 := fun b w s => by
    have h1 := pFig_v htp (n := n) (pSpell tp n w s)
    unfold pTell
    dsimp only
    split
    · exact h
    · split
      · refine ⟨?_, h.2⟩
        dsimp only
        omega
      · refine ⟨h.1, ?_⟩
        dsimp only
        omega
  unfold pCl
  split
  · exact h
  · split
    · exact h
    · split
      · split
        · exact h
        · exact ht _ _ _
      · split
        · exact ht _ _ _
        · exact h
theorem pSi_n (htp : ∀ k, tp k ≤ 127) : ∀ (k : Nat) {r : RS}, (r.2.1 ≤ 99 ∧ r.2.2 ≤ 99) → (pSi tp n k r).2.1 ≤ 99 ∧ (pSi tp n k r).2.2 ≤ 99
  | 0, r, h => by
    unfold pSi
    exact h
  | k + 1, r, h => by
    unfold pSi
    split
    · exact pSi_n htp k (pCl_n htp h)
    · exact h
theorem pSite_n (htp : ∀ k, tp k ≤ 127) : (pSite tp n).2.1 ≤ 99 ∧ (pSite tp n).2.2 ≤ 99 := by
  unfold pSite
  exact pSi_n htp 9 (pCl_n htp ⟨by decide, by decide⟩)
end JA
/-! where the numbers of σ lie in Works -/
def pC (i : Nat) : Nat := if i < 4 then 0 else if i < 8 then 6 else if i < 18 then 2 else if i < 28 then 3 else if i < 38 then 4 else if i < 42 then 0 else if i < 68 then 8 else 7
def pJ (i : Nat) : Nat := if i < 4 then 8 + i else if i < 8 then i - 4 else if i < 18 then i - 8 else if i < 28 then i - 18 else if i < 38 then i - 28 else if i = 38 then 5 else if i = 39 then 13 else if i = 40 then 7 else if i = 41 then 6 else if i < 68 then i - 56 else i - 68
def pOi (i : Nat) : Prop := i < 42 ∨ (56 ≤ i ∧ i < 168)
theorem pCJ {i : Nat} (hi : pOi i) : (i < 4 ∧ pC i = 0 ∧ pJ i = 8 + i) ∨ (4 ≤ i ∧ i < 8 ∧ pC i = 6 ∧ pJ i = i - 4) ∨ (8 ≤ i ∧ i < 18 ∧ pC i = 2 ∧ pJ i = i - 8) ∨ (18 ≤ i ∧ i < 28 ∧ pC i = 3 ∧ pJ i = i - 18) ∨ (28 ≤ i ∧ i < 38 ∧ pC i = 4 ∧ pJ i = i - 28) ∨ (i = 38 ∧ pC i = 0 ∧ pJ i = 5) ∨ (i = 39 ∧ pC i = 0 ∧ pJ i = 13) ∨ (i = 40 ∧ pC i = 0 ∧ pJ i = 7) ∨ (i = 41 ∧ pC i = 0 ∧ pJ i = 6) ∨ (56 ≤ i ∧ i < 68 ∧ pC i = 8 ∧ pJ i = i - 56) ∨ (68 ≤ i ∧ i < 168 ∧ pC i = 7 ∧ pJ i = i - 68) := by
  unfold pOi at hi
  by_cases a1 : i < 4
  · exact Or.inl ⟨a1, if_pos a1, if_pos a1⟩
  refine Or.inr ?_
  by_cases a2 : i < 8
  · refine Or.inl ⟨by omega, a2, ?_, ?_⟩
    · unfold pC; rw [if_neg a1, if_pos a2]
    · unfold pJ; rw [if_neg a1, if_pos a2]
  refine Or.inr ?_
  by_cases a3 : i < 18
  · refine Or.inl ⟨by omega, a3, ?_, ?_⟩
    · unfold pC; rw [if_neg a1, if_neg a2, if_pos a3]
    · unfold pJ; rw [if_neg a1, if_neg a2, if_pos a3]
  refine Or.inr ?_
  by_cases a4 : i < 28
  · refine Or.inl ⟨by omega, a4, ?_, ?_⟩
    · unfold pC; rw [if_neg a1, if_neg a2, if_neg a3, if_pos a4]
    · unfold pJ; rw [if_neg a1, if_neg a2, if_neg a3, if_pos a4]
  refine Or.inr ?_
  by_cases a5 : i < 38
  · refine Or.inl ⟨by omega, a5, ?_, ?_⟩
    · unfold pC; rw [if_neg a1, if_neg a2, if_neg a3, if_neg a4, if_pos a5]
    · unfold pJ; rw [if_neg a1, if_neg a2, if_neg a3, if_neg a4, if_pos a5]
  refine Or.inr ?_
  by_cases b1 : i = 38
  · subst b1; exact Or.inl ⟨rfl, rfl, rfl⟩
  refine Or.inr ?_
  by_cases b2 : i = 39
  · subst b2; exact Or.inl ⟨rfl, rfl, rfl⟩
  refine Or.inr ?_
  by_cases b3 : i = 40
  · subst b3; exact Or.inl ⟨rfl, rfl, rfl⟩
  refine Or.inr ?_
  by_cases b4 : i = 41
  · subst b4; exact Or.inl ⟨rfl, rfl, rfl⟩
  refine Or.inr ?_
  by_cases a6 : i < 68
  · refine Or.inl ⟨by omega, a6, ?_, ?_⟩
    · unfold pC; rw [if_neg a1, if_neg a2, if_neg a3, if_neg a4, if_neg a5, if_neg (by omega), if_pos a6]
    · unfold pJ; rw [if_neg a1, if_neg a2, if_neg a3, if_neg a4, if_neg a5, if_neg b1, if_neg b2, if_neg b3, if_neg b4, if_pos a6]
  refine Or.inr ⟨by omega, by omega, ?_, ?_⟩
  · unfold pC; rw [if_neg a1, if_neg a2, if_neg a3, if_neg a4, if_neg a5, if_neg (by omega), if_neg a6]
  · unfold pJ; rw [if_neg a1, if_neg a2, if_neg a3, if_neg a4, if_neg a5, if_neg b1, if_neg b2, if_neg b3, if_neg b4, if_neg a6]
theorem pC_le {i : Nat} (hi : pOi i) : pC i ≤ 8 := by
  have h := pCJ hi
  omega
theorem pCJ_inj {i k : Nat} (hi : pOi i) (hk : pOi k) (h1 : pC i = pC k) (h2 : pJ i = pJ k) : i = k := by
  have g := pCJ hk
  rcases pCJ hi with h | h | h | h | h | h | h | h | h | h | h <;> omega
/-- all of Works' numbers that are not its men's -/
def cAB (w : Nat) (I : Nat → Nat → Int32) (σ : Nat → Nat) : Prop := ∀ i, pOi i → I (w + pC i) (pJ i) = nI (σ i)
section JB
variable {q w z z' : Nat} {T T' : Nat → Nat × Nat} {I I' : Nat → Nat → Int32} {R R' : Nat → Nat → Option Nat} {σ σ' : Nat → Nat} {fl : List Nat} {ti sh K : Nat}
theorem cAB.at (h : cAB w I σ) {i c j : Nat} (hi : pOi i) (hc : c = w + pC i) (hj : j = pJ i) : I c j = nI (σ i) := by
  rw [hc, hj]
  exact h i hi
theorem cAB_i (hA : cA w I σ) (hB : cB w I σ) : cAB w I σ := fun i hi => by
  obtain ⟨a1, a2, a3, a4, a5, a6, a7, a8⟩ := hA
  obtain ⟨b1, b2, b3, b4⟩ := hB
  rcases pCJ hi with ⟨h, g1, g2⟩ | ⟨h, h', g1, g2⟩ | ⟨h, h', g1, g2⟩ | ⟨h, h', g1, g2⟩ | ⟨h, h', g1, g2⟩ | ⟨h, g1, g2⟩ | ⟨h, g1, g2⟩ | ⟨h, g1, g2⟩ | ⟨h, g1, g2⟩ | ⟨h, h', g1, g2⟩ | ⟨h, h', g1, g2⟩
  · rw [g1, g2]
    rcases (show i = 0 ∨ i = 1 ∨ i = 2 ∨ i = 3 by omega) with e | e | e | e
    · rw [e]; exact a4
    · rw [e]; exact a5
    · rw [e]; exact a6
    · rw [e]; exact a7
  · rw [g1, g2]
    have h9 := a2 (i - 4) (by omega)
    rw [show 4 + (i - 4) = i by omega] at h9
    exact h9
  · rw [g1, g2]
    have h9 := a1 0 (i - 8) (by omega) (by omega)
    rw [show 8 + 10 * 0 + (i - 8) = i by omega] at h9
    exact h9
  · rw [g1, g2]
    have h9 := a1 1 (i - 18) (by omega) (by omega)
    rw [show 8 + 10 * 1 + (i - 18) = i by omega] at h9
    exact h9
  · rw [g1, g2]
    have h9 := a1 2 (i - 28) (by omega) (by omega)
    rw [show 8 + 10 * 2 + (i - 28) = i by omega] at h9
    exact h9
  · rw [g1, g2, h]; exact a3
  · rw [g1, g2, h]; exact a8
  · rw [g1, g2, h]; exact b2
  · rw [g1, g2, h]; exact b1
  · rw [g1, g2]
    have h9 := b4 (i - 56) (by omega)
    rw [show 56 + (i - 56) = i by omega] at h9
    exact h9
  · rw [g1, g2]
    have h9 := b3 (i - 68) (by omega)
    rw [show 68 + (i - 68) = i by omega] at h9
    exact h9
theorem cAB_A (h : cAB w I σ) : cA w I σ := by
  refine ⟨fun k y hk hy => ?_, fun μ hμ => ?_, h.at (i := 38) (by unfold pOi; omega) rfl rfl, h.at (i := 0) (by unfold pOi; omega) rfl rfl, h.at (i := 1) (by unfold pOi; omega) rfl rfl, h.at (i := 2) (by unfold pOi; omega) rfl rfl, h.at (i := 3) (by unfold pOi; omega) rfl rfl, h.at (i := 39) (by unfold pOi; omega) rfl rfl⟩
  · have hi : pOi (8 + 10 * k + y) := by unfold pOi; omega
    have g := pCJ hi
    exact h.at hi (by omega) (by omega)
  · have hi : pOi (4 + μ) := by unfold pOi; omega
    have g := pCJ hi
    exact h.at hi (by omega) (by omega)
theorem cAB_B (h : cAB w I σ) : cB w I σ := by
  refine ⟨h.at (i := 41) (by unfold pOi; omega) rfl rfl, h.at (i := 40) (by unfold pOi; omega) rfl rfl, fun k hk => ?_, fun k hk => ?_⟩
  · have hi : pOi (68 + k) := by unfold pOi; omega
    have g := pCJ hi
    exact h.at hi (by omega) (by omega)
  · have hi : pOi (56 + k) := by unfold pOi; omega
    have g := pCJ hi
    exact h.at hi (by omega) (by omega)
theorem cAB.k (h : cAB w I σ) (hk : ∀ c j, w ≤ c → c < w + 9 → I' c j = I c j) : cAB w I' σ := fun i hi => by
  have h1 := pC_le hi
  rw [hk _ _ (by omega) (by omega)]
  exact h i hi
theorem cAB.s (h : cAB w I σ) (hk : ∀ i, pOi i → σ' i = σ i) : cAB w I σ' := fun i hi => by
  rw [hk i hi]
  exact h i hi
theorem cAB.set (h : cAB w I σ) {k v c j : Nat} (hk : pOi k) (hc : c = w + pC k) (hj : j = pJ k) : cAB w (g2 I c j (nI v)) (g1 σ k v) := fun i hi => by
  by_cases e : i = k
  · subst e
    rw [g1_same, hc, hj, g2_same]
  · rw [g1_ne e]
    exact gs_ne rfl (fun g => e (pCJ_inj hi hk (by omega) (by omega))) (h i hi)
theorem mS.set {M : Nat → Nat → Int32} {k v : Nat} {x : Int32} (h : mS M σ) (hx : x = nI v) : mS (g2 M 1 k x) (g1 σ k v) := mS_p h rfl hx
/-- what a number of σ may be at most -/
def sBn (K i : Nat) : Nat := if i = 0 then 999 else if i < 4 then K else if i < 8 then 99 else if i < 38 then 9 else if i = 38 then 4 else if i = 39 then 5 else if i = 40 then 12 else if i = 41 then 100 else if i < 44 then 0 else if i < 48 then 6 else if i < 52 then 9 else if i < 56 then 20 else if i < 68 then 9999 else 127
theorem sBn_a {i : Nat} (h : 0 < i) (h2 : i < 4) : sBn K i = K := by unfold sBn; rw [if_neg (by omega), if_pos h2]
theorem sBn_b {i : Nat} (h : 4 ≤ i) (h2 : i < 8) : sBn K i = 99 := by unfold sBn; rw [if_neg (by omega), if_neg (by omega), if_pos h2]
theorem sBn_c {i : Nat} (h : 8 ≤ i) (h2 : i < 38) : sBn K i = 9 := by unfold sBn; rw [if_neg (by omega), if_neg (by omega), if_neg (by omega), if_pos h2]
theorem sBn_d {i : Nat} (h : 44 ≤ i) (h2 : i < 48) : sBn K i = 6 := by unfold sBn; rw [if_neg (by omega), if_neg (by omega), if_neg (by omega), if_neg (by omega), if_neg (by omega), if_neg (by omega), if_neg (by omega), if_neg (by omega), if_neg (by omega), if_pos h2]
theorem sBn_e {i : Nat} (h : 48 ≤ i) (h2 : i < 52) : sBn K i = 9 := by unfold sBn; rw [if_neg (by omega), if_neg (by omega), if_neg (by omega), if_neg (by omega), if_neg (by omega), if_neg (by omega), if_neg (by omega), if_neg (by omega), if_neg (by omega), if_neg (by omega), if_pos h2]
theorem sBn_f {i : Nat} (h : 52 ≤ i) (h2 : i < 56) : sBn K i = 20 := by unfold sBn; rw [if_neg (by omega), if_neg (by omega), if_neg (by omega), if_neg (by omega), if_neg (by omega), if_neg (by omega), if_neg (by omega), if_neg (by omega), if_neg (by omega), if_neg (by omega), if_neg (by omega), if_pos h2]
theorem sBn_g {i : Nat} (h : 56 ≤ i) (h2 : i < 68) : sBn K i = 9999 := by unfold sBn; rw [if_neg (by omega), if_neg (by omega), if_neg (by omega), if_neg (by omega), if_neg (by omega), if_neg (by omega), if_neg (by omega), if_neg (by omega), if_neg (by omega), if_neg (by omega), if_neg (by omega), if_neg (by omega), if_pos h2]
theorem sBn_h {i : Nat} (h : 68 ≤ i) : sBn K i = 127 := by unfold sBn; rw [if_neg (by omega), if_neg (by omega), if_neg (by omega), if_neg (by omega), if_neg (by omega), if_neg (by omega), if_neg (by omega), if_neg (by omega), if_neg (by omega), if_neg (by omega), if_neg (by omega), if_neg (by omega), if_neg (by omega)]
theorem sBd_set {k v : Nat} (h : sBd σ K) (hv : v ≤ sBn K k) : sBd (g1 σ k v) K := by
  obtain ⟨h0, ⟨h1, h2, h3⟩, h4, h8, h38, h39, h40, h41, h44, h56, h68⟩ := h
  have key : ∀ i m, σ i ≤ m → sBn K i = m → g1 σ k v i ≤ m := fun i m g1' g2' => by
    by_cases e : i = k
    · subst e
      rw [g1_same, ← g2']
      exact hv
    · rw [g1_ne e]
      exact g1'
  exact ⟨key 0 _ h0 rfl, ⟨key 1 _ h1 (sBn_a (by decide) (by decide)), key 2 _ h2 (sBn_a (by decide) (by decide)), key 3 _ h3 (sBn_a (by decide) (by decide))⟩, fun μ hμ => key _ _ (h4 μ hμ) (sBn_b (by omega) (by omega)), fun υ hυ => key _ _ (h8 υ hυ) (sBn_c (by omega) (by omega)), key 38 _ h38 rfl, key 39 _ h39 rfl, key 40 _ h40 rfl, key 41 _ h41 rfl, fun μ hμ => ⟨key _ _ (h44 μ hμ).1 (sBn_d (by omega) (by omega)), key _ _ (h44 μ hμ).2.1 (sBn_e (by omega) (by omega)), key _ _ (h44 μ hμ).2.2 (sBn_f (by omega) (by omega))⟩, fun i hi => key _ _ (h56 i hi) (sBn_g (by omega) (by omega)), fun i hi => key _ _ (h68 i hi) (sBn_h (by omega))⟩
/-! frames of the class's pieces -/
def jMen (q w : Nat) (T : Nat → Nat × Nat) (I : Nat → Nat → Int32) (R : Nat → Nat → Option Nat) (σ : Nat → Nat) : Prop := ∀ μ, μ < σ 38 → ∃ b, R (w + 5) μ = some b ∧ cMn T I σ μ b ∧ q + 65 ≤ b
def jSt (q w : Nat) (T : Nat → Nat × Nat) (I : Nat → Nat → Int32) (R : Nat → Nat → Option Nat) (fl : List Nat) (ti sh : Nat) : Prop := ∃ a, R w 12 = some a ∧ cSt a T R ∧ cSi a I fl ti sh ∧ (a = q + 1 ∨ q + 65 ≤ a)
theorem cNw.mk (h1 : cAB w I σ) (h2 : jMen q w T I R σ) (h3 : cMe w T R) (h4 : jSt q w T I R fl ti sh) : cNw q w T I R σ fl ti sh := ⟨cAB_A h1, cAB_B h1, h2, h3, h4⟩
theorem cNw.ab (h : cNw q w T I R σ fl ti sh) : cAB w I σ := cAB_i h.1 h.2.1
theorem jMen.up (h : jMen q w T I R σ) (hlt : ∀ c, (T c).1 ≠ 0 → c < z) (h4 : σ 38 ≤ 4) (h38 : σ' 38 = σ 38) (hk : ∀ i, 44 ≤ i → i < 56 → σ' i = σ i) (hT : ∀ c, c < z → T' c = T c) (hI : ∀ c j, c < z → q + 65 ≤ c → I' c j = I c j) (hR : ∀ j, R' (w + 5) j = R (w + 5) j) : jMen q w T' I' R' σ' := fun μ hμ => by
  rw [h38] at hμ
  obtain ⟨b, g1, g2, g3⟩ := h μ hμ
  have hb : b < z := hlt b (by rw [g2.1]; exact Nat.succ_ne_zero _)
  have g4 := g2.s (σ' := σ') (hk _ (by omega) (by omega)) (hk _ (by omega) (by omega)) (hk _ (by omega) (by omega))
  exact ⟨b, (hR μ).trans g1, ⟨(hT b hb).trans g4.1, (hI b 0 hb g3).trans g4.2.1, (hI b 1 hb g3).trans g4.2.2.1, (hI b 2 hb g3).trans g4.2.2.2.1, (hI b 3 hb g3).trans g4.2.2.2.2⟩, g3⟩
theorem cMe.up (h : cMe w T R) (hlt : ∀ c, (T c).1 ≠ 0 → c < z) (hT : ∀ c, c < z → T' c = T c) (hR : ∀ j, R' (w + 5) j = R (w + 5) j) : cMe w T' R' := fun k hk => by
  rw [hR k]
  rcases h k hk with g | ⟨b9, κ9, g1, g2, g3⟩
  · exact Or.inl g
  · exact Or.inr ⟨b9, κ9, g1, g2, (hT b9 (hlt b9 (by rw [g3]; exact Nat.succ_ne_zero _))).trans g3⟩
theorem jSt.up (h : jSt q w T I R fl ti sh) (hlt : ∀ c, (T c).1 ≠ 0 → c < z) (hT : ∀ c, c < z → T' c = T c) (hI : ∀ c j, c < z → (q < c ∧ c < q + 6) ∨ q + 65 ≤ c → I' c j = I c j) (hR : ∀ c j, c < z → (q < c ∧ c < q + 6) ∨ q + 65 ≤ c → (T c).1 ≠ 6 → R' c j = R c j) (hR2 : R' w 12 = R w 12) : jSt q w T' I' R' fl ti sh := by
  obtain ⟨a, h5, h6, h7, h8⟩ := h
  obtain ⟨q1, q2, q3, q4, q5, q6, q7, q8, q9⟩ := h6
  have haz : a + 4 < z := hlt _ (by rw [q5]; decide)
  have ha : ∀ j, R' a j = R a j := fun j => hR a j (by omega) (by omega) (by rw [q1]; decide)
  exact ⟨a, hR2.trans h5, ⟨(hT _ (by omega)).trans q1, (hT _ (by omega)).trans q2, (hT _ (by omega)).trans q3, (hT _ (by omega)).trans q4, (hT _ (by omega)).trans q5, (ha 2).trans q6, (ha 3).trans q7, (ha 4).trans q8, (ha 5).trans q9⟩, h7.k (fun c j g1 g2 => hI c j (by omega) (by omega)), h8⟩
def jRx (q c j : Nat) : Prop := c = q + 11 ∨ c = q + 26 ∨ c = q + 41 ∨ c = q + 51 ∨ ((c = q + 6 ∨ c = q + 21 ∨ c = q + 36) ∧ j = 12)
theorem cWk.up (h : cWk w T R) (hw : w = q + 6 ∨ w = q + 21 ∨ w = q + 36) (hz : q + 65 ≤ z) (hT : ∀ c, c < z → T' c = T c) (hR : ∀ c j, c < q + 53 → ¬ jRx q c j → R' c j = R c j) : cWk w T' R' := by
  refine ⟨fun k t hk => (hT _ (by have h9 := (List.getElem?_eq_some_iff.mp hk).1; have h8 : wTl.length = 15 := rfl; omega)).trans (h.1 k t hk), fun k x hk => ?_⟩
  have h2 : ∀ x ∈ wRl, x.1 < 15 ∧ x.1 ≠ 5 ∧ ¬ (x.1 = 0 ∧ x.2.1 = 12) := by decide
  have h3 := h2 x (List.mem_of_getElem? hk)
  exact (hR _ _ (by omega) (by unfold jRx; omega)).trans (h.2 k x hk)
theorem cTop.up {nw kp tr : Nat} (h : cTop q nw kp tr T R) (hz : q + 65 ≤ z) (hT : ∀ c, c < z → T' c = T c) (hR : ∀ c j, c < q + 53 → ¬ jRx q c j → R' c j = R c j) : cTop q nw kp tr T' R' := by
  obtain ⟨h1, h2, h3, h4, h5, h6, h7, h8, h9, h10, h11, h12, h13, h14⟩ := h
  have hq : ∀ j, R' q j = R q j := fun j => hR q j (by omega) (by unfold jRx; omega)
  exact ⟨h1, h2, h3, (hT q (by omega)).trans h4, (hq 0).trans h5, (hq 1).trans h6, (hq 2).trans h7, (hq 3).trans h8, (hq 4).trans h9, h10.up (Or.inl h1) hz hT hR, h11.up (Or.inr (Or.inl h2)) hz hT hR, h12.up (Or.inr (Or.inr h3)) hz hT hR, (hT _ (by omega)).trans h13, (hT _ (by omega)).trans h14⟩
theorem cLs.up {lc E : Nat} {ad : Nat → Nat} {tl : List Nat} (h : cLs lc E ad T I R tl) (hlt : ∀ c, (T c).1 ≠ 0 → c < z) (hT : ∀ c, c < z → T' c = T c) (hI : I' lc 2 = I lc 2) (hR1 : R' lc 1 = R lc 1) (hR : ∀ c j, c < z → lc + 13 ≤ c → R' c j = R c j) : cLs lc E ad T' I' R' tl := by
  obtain ⟨h1, h2, h3⟩ := h
  refine ⟨(hT lc (hlt lc (by rw [h1]; decide))).trans h1, hI.trans h2, ?_⟩
  rcases h3 with ⟨g1, g2⟩ | ⟨el, g1, g2, g3, g4, g5⟩
  · exact Or.inl ⟨g1, hR1.trans g2⟩
  · have hz : el < z := hlt el (by rw [g3]; decide)
    exact Or.inr ⟨el, hR1.trans g1, g2, (hT el hz).trans g3, g4, fun i hi => (hR el i hz g2).trans (g5 i hi)⟩
theorem gMod.up {o : Nat} (h : gMod o T R) (hT : ∀ c, o ≤ c → c < o + 12 → T' c = T c) (hR : ∀ j, R' o j = R o j) : gMod o T' R' := by
  refine ⟨fun k t hk => (hT _ (by omega) (by have h9 := (List.getElem?_eq_some_iff.mp hk).1; have h8 : mTl.length = 12 := rfl; omega)).trans (h.1 k t hk), fun j k hjk => (hR j).trans (h.2 j k hjk)⟩
end JB
