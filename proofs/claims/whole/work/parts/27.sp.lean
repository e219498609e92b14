/-! THE SITE'S TEXT: tp its signs, n how many. A state of reading: wrong, the place, the tokens so far. -/
def sH (tp : Nat → Nat) (n i : Nat) : Nat := if i < n then tp i else 128
def hI (x : Nat) : Int32 := if x < 128 then nI x else -1
abbrev PS : Type := Bool × Nat × List Nat
abbrev isD (x : Nat) : Prop := 48 ≤ x ∧ x ≤ 57
def tA : List Nat := [121, 115, 117, 98, 108, 107]
def tC : List Nat := [60, 61, 62]
def pAm (w : List Nat) (x : Nat) : Nat := w.findIdx (fun y => y == x)
def pEm (t : Nat) (s : PS) : PS := if s.1 = true then s else (false, s.2.1, s.2.2 ++ [t])
section PZ
variable (tp : Nat → Nat) (n : Nat)
def pMust (x : Nat) (s : PS) : PS := if s.1 = false ∧ sH tp n s.2.1 = x then (false, s.2.1 + 1, s.2.2) else (true, s.2)
def pSpell : List Nat → PS → PS
  | [], s => s
  | x :: r, s => pSpell r (pMust tp n x s)
def pFig (s : PS) : PS × Nat :=
  if s.1 = false ∧ isD (sH tp n s.2.1) then
    (if 48 < sH tp n s.2.1 ∧ isD (sH tp n (s.2.1 + 1)) then ((false, s.2.1 + 2, s.2.2), 10 * (sH tp n s.2.1 - 48) + (sH tp n (s.2.1 + 1) - 48))
    else ((false, s.2.1 + 1, s.2.2), sH tp n s.2.1 - 48))
  else ((true, s.2), 0)
def pAtom (s : PS) : PS :=
  if pAm tA (sH tp n s.2.1) < 6 then
    (if pAm tC (sH tp n (s.2.1 + 1)) < 3 then pEm (pAm tA (sH tp n s.2.1) + 8 * pAm tC (sH tp n (s.2.1 + 1)) + 32 * (pFig tp n (false, s.2.1 + 2, s.2.2)).2) (pFig tp n (false, s.2.1 + 2, s.2.2)).1
    else (true, s.2.1 + 1, s.2.2))
  else (true, s.2)
def pLoop (x t : Nat) (F : PS → PS) : Nat → PS → PS
  | 0, s => s
  | k + 1, s => if s.1 = false ∧ sH tp n s.2.1 = x then pLoop x t F k (pEm t (F (false, s.2.1 + 1, s.2.2))) else s
def pEvery (F : PS → PS) (s : PS) : PS := pLoop tp n 38 10001 F 101 (F s)
def pSome (F : PS → PS) (s : PS) : PS := pLoop tp n 124 10002 (pEvery tp n F) 101 (pEvery tp n F s)
def pFac : Nat → PS → PS
  | 0, s => if s.1 = true then s else if sH tp n s.2.1 = 33 ∨ sH tp n s.2.1 = 40 then (true, s.2) else pAtom tp n s
  | d + 1, s => if s.1 = true then s else if sH tp n s.2.1 = 33 then pEm 10000 (pFac d (false, s.2.1 + 1, s.2.2)) else if sH tp n s.2.1 = 40 then pMust tp n 41 (pSome tp n (pFac d) (false, s.2.1 + 1, s.2.2)) else pAtom tp n s
def pMuch (k : Nat) (w : List Nat) (s : PS) : PS := pEm (k + (pFig tp n (pSpell tp n w s)).2) (pSome tp n (pFac tp n 5) (pMust tp n 32 (pFig tp n (pSpell tp n w s)).1))
abbrev RS : Type := PS × Nat × Nat
def pTell (b : Bool) (w : List Nat) (s : PS) (y : Nat × Nat) : RS := ((pFig tp n (pSpell tp n w s)).1, if (pFig tp n (pSpell tp n w s)).1.1 = true then y else if b = true then ((pFig tp n (pSpell tp n w s)).2, y.2) else (y.1, (pFig tp n (pSpell tp n w s)).2))
def pCl (r : RS) : RS :=
  if sH tp n r.1.2.1 = 112 then (pMuch tp n 20000 [112, 97, 99, 101, 32] r.1, r.2)
  else if sH tp n r.1.2.1 = 101 then (pMuch tp n 20100 [101, 97, 115, 101, 32] r.1, r.2)
  else if sH tp n r.1.2.1 = 115 then
    (if sH tp n (r.1.2.1 + 1) = 112 then (pMuch tp n 20200 [112, 105, 108, 108, 32] (false, r.1.2.1 + 1, r.1.2.2), r.2)
    else pTell tp n false [104, 111, 118, 101, 108, 32] (false, r.1.2.1 + 1, r.1.2.2) r.2)
  else if sH tp n r.1.2.1 = 116 then pTell tp n true [116, 105, 114, 101, 32] r.1 r.2
  else ((true, r.1.2), r.2)
def pSi : Nat → RS → RS
  | 0, r => r
  | k + 1, r => if r.1.1 = false ∧ sH tp n r.1.2.1 = 59 then pSi k (pCl tp n ((false, r.1.2.1 + 1, r.1.2.2), r.2)) else r
def pSite : RS := pSi tp n 9 (pCl tp n ((false, 0, []), 1, 2))
/-- places grow, never past n; no more tokens come than signs are read -/
def pW (F : PS → PS) : Prop := ∀ s : PS, s.2.1 ≤ n → s.2.1 ≤ (F s).2.1 ∧ (F s).2.1 ≤ n ∧ (F s).2.2.length + s.2.1 ≤ (F s).2.1 + s.2.2.length
end PZ
section PL
variable {tp : Nat → Nat} {n : Nat}
theorem sH_in {i x : Nat} (h : sH tp n i = x) (hx : x < 128) : i < n := by
  unfold sH at h
  by_cases e : i < n
  · exact e
  · rw [if_neg e] at h
    omega
theorem sH_d {i : Nat} (h : isD (sH tp n i)) : i < n := sH_in (tp := tp) (n := n) rfl (by unfold isD at h; omega)
theorem sH_le (htp : ∀ k, tp k ≤ 127) (i : Nat) : sH tp n i ≤ 128 := by
  unfold sH
  have := htp i
  split <;> omega
theorem pEm_p {t : Nat} {s : PS} : (pEm t s).2.1 = s.2.1 := by unfold pEm; split <;> rfl
theorem pEm_w {t : Nat} {s : PS} : (pEm t s).1 = s.1 := by
  unfold pEm
  split
  · rfl
  · rename_i h
    simp only [Bool.not_eq_true] at h
    exact h.symm
theorem pEm_l {t : Nat} {s : PS} : (pEm t s).2.2.length ≤ s.2.2.length + 1 := by
  unfold pEm
  split
  · omega
  · simp
theorem pW_must {x : Nat} (hx : x < 128) : pW n (pMust tp n x) := fun s hs => by
  unfold pMust
  split
  · rename_i h
    have := sH_in h.2 hx
    dsimp only
    omega
  · dsimp only
    omega
theorem pW_id : pW n (fun s => s) := fun s hs => by dsimp only; omega
theorem pW_comp {F G : PS → PS} (hF : pW n F) (hG : pW n G) : pW n (fun s => G (F s)) := fun s hs => by
  have h1 := hF s hs
  have h2 := hG (F s) h1.2.1
  dsimp only
  omega
theorem pW_spell : ∀ (w : List Nat), (∀ x ∈ w, x < 128) → pW n (pSpell tp n w)
  | [], _ => pW_id
  | x :: r, h => pW_comp (F := pMust tp n x) (G := pSpell tp n r) (pW_must (h x (by simp))) (pW_spell r (fun y hy => h y (by simp [hy])))
theorem pW_fig : pW n (fun s => (pFig tp n s).1) := fun s hs => by
  show s.2.1 ≤ (pFig tp n s).1.2.1 ∧ (pFig tp n s).1.2.1 ≤ n ∧ (pFig tp n s).1.2.2.length + s.2.1 ≤ (pFig tp n s).1.2.1 + s.2.2.length
  unfold pFig
  split
  · rename_i h
    have h1 := sH_d h.2
    split
    · rename_i h2
      have h3 := sH_d h2.2
      dsimp only
      omega
    · dsimp only
      omega
  · dsimp only
    omega
theorem pAm_A {x : Nat} (h : pAm tA x < 6) : x < 128 := by
  rcases Nat.lt_or_ge x 128 with q | q
  · exact q
  · exfalso
    unfold pAm tA at h
    simp only [List.findIdx_cons, List.findIdx_nil, cond_eq_ite] at h
    repeat rw [if_neg (by simp; omega)] at h
    omega
theorem pAm_C {x : Nat} (h : pAm tC x < 3) : x < 128 := by
  rcases Nat.lt_or_ge x 128 with q | q
  · exact q
  · exfalso
    unfold pAm tC at h
    simp only [List.findIdx_cons, List.findIdx_nil, cond_eq_ite] at h
    repeat rw [if_neg (by simp; omega)] at h
    omega
theorem pW_atom : pW n (pAtom tp n) := fun s hs => by
  unfold pAtom
  split
  · rename_i h
    have h1 := sH_in (tp := tp) (n := n) rfl (pAm_A h)
    split
    · rename_i h2
      have h3 := sH_in (tp := tp) (n := n) rfl (pAm_C h2)
      have h4 := pW_fig (tp := tp) (n := n) (false, s.2.1 + 2, s.2.2) (by dsimp only; omega)
      have h5 := pEm_l (t := pAm tA (sH tp n s.2.1) + 8 * pAm tC (sH tp n (s.2.1 + 1)) + 32 * (pFig tp n (false, s.2.1 + 2, s.2.2)).2) (s := (pFig tp n (false, s.2.1 + 2, s.2.2)).1)
      rw [pEm_p]
      dsimp only at h4
      omega
    · dsimp only
      omega
  · dsimp only
    omega
theorem pW_loop {x t : Nat} {F : PS → PS} (hx : x < 128) (hF : pW n F) : ∀ k, pW n (pLoop tp n x t F k)
  | 0 => pW_id
  | k + 1 => fun s hs => by
    unfold pLoop
    split
    · rename_i h
      have h1 := sH_in h.2 hx
      have h2 := hF (false, s.2.1 + 1, s.2.2) (by dsimp only; omega)
      have h3 := pEm_l (t := t) (s := F (false, s.2.1 + 1, s.2.2))
      have h4 := pW_loop (t := t) hx hF k (pEm t (F (false, s.2.1 + 1, s.2.2))) (by rw [pEm_p]; exact h2.2.1)
      rw [pEm_p] at h4
      dsimp only at h2
      omega
    · omega
theorem pW_every {F : PS → PS} (hF : pW n F) : pW n (pEvery tp n F) := pW_comp (F := F) (G := pLoop tp n 38 10001 F 101) hF (pW_loop (by decide) hF 101)
theorem pW_some {F : PS → PS} (hF : pW n F) : pW n (pSome tp n F) := pW_comp (F := pEvery tp n F) (G := pLoop tp n 124 10002 (pEvery tp n F) 101) (pW_every hF) (pW_loop (by decide) (pW_every hF) 101)
theorem pW_fac : ∀ d, pW n (pFac tp n d)
  | 0 => fun s hs => by
    unfold pFac
    split
    · omega
    · split
      · dsimp only; omega
      · exact pW_atom s hs
  | d + 1 => fun s hs => by
    unfold pFac
    split
    · omega
    · split
      · rename_i h
        have h1 := sH_in h (by decide)
        have h2 := pW_fac d (false, s.2.1 + 1, s.2.2) (by dsimp only; omega)
        have h3 := pEm_l (t := 10000) (s := pFac tp n d (false, s.2.1 + 1, s.2.2))
        rw [pEm_p]
        dsimp only at h2
        omega
      · split
        · rename_i h
          have h1 := sH_in h (by decide)
          have h2 := pW_some (tp := tp) (pW_fac d) (false, s.2.1 + 1, s.2.2) (by dsimp only; omega)
          have h3 := pW_must (tp := tp) (n := n) (x := 41) (by decide) (pSome tp n (pFac tp n d) (false, s.2.1 + 1, s.2.2)) h2.2.1
          dsimp only at h2
          omega
        · exact pW_atom s hs
/-! what the tokens do: a piece leaves one truth more, with k more at once on the way -/
def sPi (k : Nat) (X : List Nat) : Prop := ∀ m a rest, a + k ≤ m → tOk m rest (a + 1) → tOk m (X ++ rest) a
theorem sPi_up {k k' : Nat} {X : List Nat} (h : sPi k X) (hk : k ≤ k') : sPi k' X := fun m a r h1 h2 => h m a r (by omega) h2
theorem sPi_test {t : Nat} (h1 : t % 8 < 6) (h2 : t / 8 % 4 < 3) (h3 : t < 3200) : sPi 1 [t] := fun m a r hm h => by
  show tOk m (t :: r) a
  unfold tOk
  rw [if_pos (by omega)]
  exact ⟨h1, h2, h3, hm, h⟩
theorem sPi_not {k : Nat} {X : List Nat} (h : sPi k X) : sPi k (X ++ [10000]) := fun m a r hm hr => by
  rw [List.append_assoc]
  refine h m a _ hm ?_
  show tOk m (10000 :: r) (a + 1)
  unfold tOk
  rw [if_neg (by omega), if_pos rfl]
  exact ⟨by omega, hr⟩
theorem sPi_two {k k' t : Nat} {X Y : List Nat} (hX : sPi k X) (hY : sPi k' Y) (hk : k ≤ k' + 1) (ht : t = 10001 ∨ t = 10002) : sPi (k' + 1) (X ++ Y ++ [t]) := fun m a r hm hr => by
  rw [List.append_assoc, List.append_assoc]
  refine hX m a _ (by omega) (hY m (a + 1) _ (by omega) ?_)
  show tOk m (t :: r) (a + 1 + 1)
  unfold tOk
  rw [if_neg (by omega), if_neg (by omega), if_pos (by omega)]
  exact ⟨by omega, hr⟩
/-- F reads a piece -/
def pT (k : Nat) (F : PS → PS) : Prop := (∀ s : PS, s.1 = true → (F s).1 = true) ∧ ∀ s : PS, (F s).1 = false → ∃ X, (F s).2.2 = s.2.2 ++ X ∧ sPi k X
theorem pFig_v (htp : ∀ k, tp k ≤ 127) (s : PS) : (pFig tp n s).2 < 100 := by
  unfold pFig
  split
  · rename_i h
    split
    · rename_i h2
      unfold isD at h h2
      dsimp only
      omega
    · unfold isD at h
      dsimp only
      omega
  · dsimp only
    omega
theorem pFig_l {s : PS} : (pFig tp n s).1.2.2 = s.2.2 := by
  unfold pFig
  split
  · split <;> rfl
  · rfl
theorem pFig_w {s : PS} (h : s.1 = true) : (pFig tp n s).1.1 = true := by
  unfold pFig
  rw [if_neg (by rw [h]; exact fun q => absurd q.1 (by decide))]
theorem pMust_w {x : Nat} {s : PS} (h : s.1 = true) : (pMust tp n x s).1 = true := by
  unfold pMust
  rw [if_neg (by rw [h]; exact fun q => absurd q.1 (by decide))]
theorem pMust_l {x : Nat} {s : PS} : (pMust tp n x s).2.2 = s.2.2 := by unfold pMust; split <;> rfl
theorem pSpell_w : ∀ {w : List Nat} {s : PS}, s.1 = true → (pSpell tp n w s).1 = true
  | [], _, h => h
  | x :: r, s, h => by
    show (pSpell tp n r (pMust tp n x s)).1 = true
    exact pSpell_w (pMust_w h)
theorem pSpell_l : ∀ {w : List Nat} {s : PS}, (pSpell tp n w s).2.2 = s.2.2
  | [], _ => rfl
  | x :: r, s => by
    show (pSpell tp n r (pMust tp n x s)).2.2 = s.2.2
    rw [pSpell_l, pMust_l]
theorem pT_atom (htp : ∀ k, tp k ≤ 127) {s : PS} (hs : (pAtom tp n s).1 = false) : ∃ X, (pAtom tp n s).2.2 = s.2.2 ++ X ∧ sPi 1 X := by
  unfold pAtom at hs ⊢
  by_cases h : pAm tA (sH tp n s.2.1) < 6
  · rw [if_pos h] at hs ⊢
    by_cases h2 : pAm tC (sH tp n (s.2.1 + 1)) < 3
    · rw [if_pos h2] at hs ⊢
      rw [pEm_w] at hs
      have hv := pFig_v (n := n) htp (false, s.2.1 + 2, s.2.2)
      refine ⟨[pAm tA (sH tp n s.2.1) + 8 * pAm tC (sH tp n (s.2.1 + 1)) + 32 * (pFig tp n (false, s.2.1 + 2, s.2.2)).2], ?_, sPi_test (by omega) (by omega) (by omega)⟩
      unfold pEm
      rw [if_neg (by rw [hs]; decide), pFig_l]
    · rw [if_neg h2] at hs
      cases hs
  · rw [if_neg h] at hs
    cases hs
theorem pT_loop {k x t : Nat} {F : PS → PS} (hF : pT k F) (ht : t = 10001 ∨ t = 10002) : ∀ (j : Nat) (s : PS), (s.1 = true → (pLoop tp n x t F j s).1 = true) ∧ ∀ (s0 : List Nat) (X : List Nat), s.2.2 = s0 ++ X → sPi (k + 1) X → (pLoop tp n x t F j s).1 = false → ∃ Y, (pLoop tp n x t F j s).2.2 = s0 ++ Y ∧ sPi (k + 1) Y
  | 0, s => ⟨fun h => h, fun s0 X h1 h2 _ => ⟨X, h1, h2⟩⟩
  | j + 1, s => by
    constructor
    · intro h
      unfold pLoop
      rw [if_neg (by rw [h]; exact fun q => absurd q.1 (by decide))]
      exact h
    · intro s0 X h1 h2 h3
      unfold pLoop at h3 ⊢
      by_cases h : s.1 = false ∧ sH tp n s.2.1 = x
      · rw [if_pos h] at h3 ⊢
        by_cases hw : (F (false, s.2.1 + 1, s.2.2)).1 = true
        · have h4 := (pT_loop (x := x) hF ht j (pEm t (F (false, s.2.1 + 1, s.2.2)))).1 (by rw [pEm_w]; exact hw)
          rw [h4] at h3
          cases h3
        · simp only [Bool.not_eq_true] at hw
          obtain ⟨Y, hY, hp⟩ := hF.2 _ hw
          dsimp only at hY
          refine (pT_loop (x := x) hF ht j (pEm t (F (false, s.2.1 + 1, s.2.2)))).2 s0 (X ++ Y ++ [t]) ?_ (sPi_two h2 hp (by omega) ht) h3
          unfold pEm
          rw [if_neg (by rw [hw]; decide), hY, h1]
          simp only [List.append_assoc]
      · rw [if_neg h] at h3 ⊢
        exact ⟨X, h1, h2⟩
theorem pT_lp {k x t : Nat} {F : PS → PS} (hF : pT k F) (ht : t = 10001 ∨ t = 10002) : pT (k + 1) (fun s => pLoop tp n x t F 101 (F s)) :=
  ⟨fun s h => (pT_loop hF ht 101 (F s)).1 (hF.1 s h), fun s h => by
    by_cases hw : (F s).1 = true
    · have h4 := (pT_loop (tp := tp) (n := n) (x := x) hF ht 101 (F s)).1 hw
      rw [h4] at h
      cases h
    · simp only [Bool.not_eq_true] at hw
      obtain ⟨X, hX, hp⟩ := hF.2 s hw
      exact (pT_loop hF ht 101 (F s)).2 s.2.2 X hX (sPi_up hp (by omega)) h⟩
theorem pT_every {k : Nat} {F : PS → PS} (hF : pT k F) : pT (k + 1) (pEvery tp n F) := pT_lp hF (Or.inl rfl)
theorem pT_some {k : Nat} {F : PS → PS} (hF : pT k F) : pT (k + 2) (pSome tp n F) := pT_lp (pT_every hF) (Or.inr rfl)
theorem pT_fac (htp : ∀ k, tp k ≤ 127) : ∀ d, pT (2 * d + 1) (pFac tp n d)
  | 0 => ⟨fun s h => by unfold pFac; rw [if_pos h]; exact h, fun s hs => by
      unfold pFac at hs ⊢
      by_cases h : s.1 = true
      · rw [if_pos h] at hs; rw [h] at hs; cases hs
      · rw [if_neg h] at hs ⊢
        by_cases h2 : sH tp n s.2.1 = 33 ∨ sH tp n s.2.1 = 40
        · rw [if_pos h2] at hs; cases hs
        · rw [if_neg h2] at hs ⊢
          exact pT_atom htp hs⟩
  | d + 1 => ⟨fun s h => by unfold pFac; rw [if_pos h]; exact h, fun s hs => by
      have ih := pT_fac htp d
      unfold pFac at hs ⊢
      by_cases h : s.1 = true
      · rw [if_pos h] at hs; rw [h] at hs; cases hs
      · rw [if_neg h] at hs ⊢
        by_cases h2 : sH tp n s.2.1 = 33
        · rw [if_pos h2] at hs ⊢
          rw [pEm_w] at hs
          obtain ⟨X, hX, hp⟩ := ih.2 _ hs
          refine ⟨X ++ [10000], ?_, sPi_up (sPi_not hp) (by omega)⟩
          unfold pEm
          rw [if_neg (by rw [hs]; decide), hX, List.append_assoc]
        · rw [if_neg h2] at hs ⊢
          by_cases h3 : sH tp n s.2.1 = 40
          · rw [if_pos h3] at hs ⊢
            rw [pMust_l]
            have h4 : (pSome tp n (pFac tp n d) (false, s.2.1 + 1, s.2.2)).1 = false := by
              by_cases q : (pSome tp n (pFac tp n d) (false, s.2.1 + 1, s.2.2)).1 = true
              · rw [pMust_w q] at hs; cases hs
              · simpa using q
            obtain ⟨X, hX, hp⟩ := (pT_some ih).2 _ h4
            exact ⟨X, hX, sPi_up hp (by omega)⟩
          · rw [if_neg h3] at hs ⊢
            obtain ⟨X, hX, hp⟩ := pT_atom htp hs
            exact ⟨X, hX, sPi_up hp (by omega)⟩⟩
/-- whole CLAUSES -/
def sOkL (L : List Nat) : Prop := ∀ rest, tOk 20 rest 0 → tOk 20 (L ++ rest) 0
theorem sOkL_nil : sOkL [] := fun _ h => h
theorem sOkL_ok {L : List Nat} (h : sOkL L) : tOk 20 L 0 := by
  have h1 := h [] (by unfold tOk; rfl)
  rwa [List.append_nil] at h1
theorem sOkL_cl {L X : List Nat} {k t : Nat} (h : sOkL L) (hX : sPi k X) (hk : k ≤ 20) (h1 : 20000 ≤ t) (h2 : t < 20300) : sOkL (L ++ X ++ [t]) := fun rest hr => by
  rw [List.append_assoc, List.append_assoc]
  refine h _ (hX 20 0 _ (by omega) ?_)
  show tOk 20 (t :: rest) 1
  unfold tOk
  rw [if_neg (by omega), if_neg (by omega), if_neg (by omega)]
  exact ⟨h1, h2, rfl, hr⟩
theorem pMuch_ok (htp : ∀ k, tp k ≤ 127) {k : Nat} {w : List Nat} {s : PS} (hk : k = 20000 ∨ k = 20100 ∨ k = 20200) (hs : sOkL s.2.2) (h : (pMuch tp n k w s).1 = false) : sOkL (pMuch tp n k w s).2.2 := by
  unfold pMuch at h ⊢
  rw [pEm_w] at h
  have hv := pFig_v (n := n) htp (pSpell tp n w s)
  obtain ⟨X, hX, hp⟩ := (pT_some (pT_fac (n := n) htp 5)).2 _ h
  unfold pEm
  rw [if_neg (by rw [h]; decide)]
  dsimp only
  rw [hX, pMust_l, pFig_l, pSpell_l]
  exact sOkL_cl hs hp (by omega) (by omega) (by omega)
theorem pTell_ok {b : Bool} {w : List Nat} {s : PS} {y : Nat × Nat} (hs : sOkL s.2.2) : sOkL (pTell tp n b w s y).1.2.2 := by
  unfold pTell
  dsimp only
  rw [pFig_l, pSpell_l]
  exact hs
theorem pCl_ok (htp : ∀ k, tp k ≤ 127) {r : RS} (hs : sOkL r.1.2.2) : (pCl tp n r).1.1 = false → sOkL (pCl tp n r).1.2.2 := by
  unfold pCl
  split
  · exact pMuch_ok htp (by omega) hs
  · split
    · exact pMuch_ok htp (by omega) hs
    · split
      · split
        · exact fun h => pMuch_ok htp (by omega) (by exact hs) h
        · exact fun _ => pTell_ok (by exact hs)
      · split
        · exact fun _ => pTell_ok hs
        · exact fun h => by cases h
theorem pSi_ok (htp : ∀ k, tp k ≤ 127) : ∀ (k : Nat) {r : RS}, (r.1.1 = false → sOkL r.1.2.2) → (pSi tp n k r).1.1 = false → sOkL (pSi tp n k r).1.2.2
  | 0, _, hs => hs
  | k + 1, r, hs => by
    unfold pSi
    split
    · rename_i h1
      exact pSi_ok htp k (fun h2 => pCl_ok htp (by exact hs h1.1) h2)
    · exact hs
theorem pSite_ok (htp : ∀ k, tp k ≤ 127) (h : (pSite tp n).1.1 = false) : sOkL (pSite tp n).1.2.2 := pSi_ok htp 9 (fun h2 => pCl_ok htp sOkL_nil h2) h
theorem pW_much (htp : ∀ k, tp k ≤ 127) {k : Nat} {w : List Nat} (hw : ∀ x ∈ w, x < 128) {s : PS} (h0 : s.2.1 ≤ n) : s.2.1 ≤ (pMuch tp n k w s).2.1 ∧ (pMuch tp n k w s).2.1 ≤ n ∧ (pMuch tp n k w s).2.2.length + s.2.1 ≤ (pMuch tp n k w s).2.1 + s.2.2.length := by
  unfold pMuch
  have h1 := pW_spell (tp := tp) (n := n) w hw s h0
  have h2 := pW_fig (tp := tp) (n := n) (pSpell tp n w s) h1.2.1
  dsimp only at h2
  have h3 := pW_must (tp := tp) (n := n) (x := 32) (by decide) (pFig tp n (pSpell tp n w s)).1 h2.2.1
  have h4 := pW_some (tp := tp) (F := pFac tp n 5) (pW_fac 5) (pMust tp n 32 (pFig tp n (pSpell tp n w s)).1) h3.2.1
  rw [pEm_p]
  refine ⟨by omega, h4.2.1, ?_⟩
  by_cases hq : (pSome tp n (pFac tp n 5) (pMust tp n 32 (pFig tp n (pSpell tp n w s)).1)).1 = true
  · unfold pEm
    rw [if_pos hq]
    omega
  · unfold pEm
    rw [if_neg hq]
    simp only [Bool.not_eq_true] at hq
    have h5 : (pMust tp n 32 (pFig tp n (pSpell tp n w s)).1).1 = false := by
      by_cases q : (pMust tp n 32 (pFig tp n (pSpell tp n w s)).1).1 = true
      · rw [(pT_some (pT_fac (n := n) htp 5)).1 _ q] at hq
        cases hq
      · simpa using q
    have h6 : (pMust tp n 32 (pFig tp n (pSpell tp n w s)).1).2.1 = (pFig tp n (pSpell tp n w s)).1.2.1 + 1 ∧ (pMust tp n 32 (pFig tp n (pSpell tp n w s)).1).2.2 = (pFig tp n (pSpell tp n w s)).1.2.2 := by
      unfold pMust at h5 ⊢
      split at h5
      · rw [if_pos (by assumption)]
        exact ⟨rfl, rfl⟩
      · cases h5
    simp only [List.length_append, List.length_cons, List.length_nil]
    have h7 := congrArg List.length h6.2
    omega
theorem pW_tell {b : Bool} {w : List Nat} (hw : ∀ x ∈ w, x < 128) {s : PS} {y : Nat × Nat} (h0 : s.2.1 ≤ n) : s.2.1 ≤ (pTell tp n b w s y).1.2.1 ∧ (pTell tp n b w s y).1.2.1 ≤ n ∧ (pTell tp n b w s y).1.2.2.length + s.2.1 ≤ (pTell tp n b w s y).1.2.1 + s.2.2.length := by
  have h1 := pW_spell (tp := tp) (n := n) w hw s h0
  have h2 := pW_fig (tp := tp) (n := n) (pSpell tp n w s) h1.2.1
  dsimp only at h2
  unfold pTell
  dsimp only
  omega
theorem pW_cl (htp : ∀ k, tp k ≤ 127) {r : RS} (h0 : r.1.2.1 ≤ n) : r.1.2.1 ≤ (pCl tp n r).1.2.1 ∧ (pCl tp n r).1.2.1 ≤ n ∧ (pCl tp n r).1.2.2.length + r.1.2.1 ≤ (pCl tp n r).1.2.1 + r.1.2.2.length := by
  unfold pCl
  split
  · exact pW_much htp (by decide) h0
  · split
    · exact pW_much htp (by decide) h0
    · split
      · rename_i h
        have h1 := sH_in h (by decide)
        split
        · have h2 := pW_much (k := 20200) htp (w := [112, 105, 108, 108, 32]) (by decide) (s := (false, r.1.2.1 + 1, r.1.2.2)) h1
          dsimp only at h2 ⊢
          omega
        · have h2 := pW_tell (tp := tp) (n := n) (b := false) (w := [104, 111, 118, 101, 108, 32]) (by decide) (s := (false, r.1.2.1 + 1, r.1.2.2)) (y := r.2) h1
          dsimp only at h2 ⊢
          omega
      · split
        · exact pW_tell (by decide) h0
        · dsimp only
          omega
theorem pW_si (htp : ∀ k, tp k ≤ 127) : ∀ (k : Nat) {r : RS}, r.1.2.1 ≤ n → r.1.2.1 ≤ (pSi tp n k r).1.2.1 ∧ (pSi tp n k r).1.2.1 ≤ n ∧ (pSi tp n k r).1.2.2.length + r.1.2.1 ≤ (pSi tp n k r).1.2.1 + r.1.2.2.length
  | 0, r, h => by unfold pSi; omega
  | k + 1, r, h => by
    unfold pSi
    split
    · rename_i h1
      have h2 := sH_in h1.2 (by decide)
      have h3 := pW_cl htp (r := ((false, r.1.2.1 + 1, r.1.2.2), r.2)) h2
      have h4 := pW_si htp k h3.2.1
      dsimp only at h3 h4
      omega
    · omega
theorem pSite_W (htp : ∀ k, tp k ≤ 127) : (pSite tp n).1.2.1 ≤ n ∧ (pSite tp n).1.2.2.length ≤ (pSite tp n).1.2.1 := by
  have h1 := pW_cl (n := n) htp (r := ((false, 0, []), 1, 2)) (Nat.zero_le _)
  have h2 := pW_si htp 9 h1.2.1
  unfold pSite
  dsimp only at h1
  simp only [List.length_nil] at h1
  omega
end PL
