/-! WORDS: how far a text fits; a CLAUSE by its word -/
def fN (tp : Nat → Nat) (n : Nat) : List Nat → Nat → Nat
  | [], _ => 0
  | x :: r, i => if sH tp n i = x then fN tp n r (i + 1) + 1 else 0
section WD
variable {tp : Nat → Nat} {n : Nat} {L : List Nat}
theorem fN_le : ∀ (w : List Nat) (i : Nat), fN tp n w i ≤ w.length
  | [], _ => Nat.le_refl _
  | x :: r, i => by
    have h := fN_le r (i + 1)
    unfold fN
    split
    · simp only [List.length_cons]; omega
    · exact Nat.zero_le _
theorem fN_in : ∀ (w : List Nat) (i : Nat), (∀ x ∈ w, x < 128) → i ≤ n → i + fN tp n w i ≤ n
  | [], i, _, hi => hi
  | x :: r, i, hw, hi => by
    unfold fN
    split
    · rename_i h
      have h1 := sH_in h (hw x (List.mem_cons_self ..))
      have h2 := fN_in r (i + 1) (fun y hy => hw y (List.mem_cons_of_mem _ hy)) (by omega)
      omega
    · exact hi
theorem fN_drop {w : List Nat} {k i : Nat} (hk : k < w.length) : fN tp n (w.drop k) i = if sH tp n i = w.getD k 0 then fN tp n (w.drop (k + 1)) (i + 1) + 1 else 0 := by
  rw [List.drop_eq_getElem_cons hk]
  show (if _ then _ else _) = _
  simp [List.getD_eq_getElem?_getD, hk]
theorem pSpell_t : ∀ {w : List Nat} {i : Nat}, pSpell tp n w (true, i, L) = (true, i, L)
  | [], _ => rfl
  | x :: r, i => by
    show pSpell tp n r (pMust tp n x (true, i, L)) = _
    rw [pMust_t]
    exact pSpell_t
theorem pSpell_y : ∀ {w r : List Nat} {i : Nat}, fN tp n w i = w.length → pSpell tp n (w ++ r) (false, i, L) = pSpell tp n r (false, i + w.length, L)
  | [], _, _, _ => rfl
  | x :: w, r, i, h => by
    unfold fN at h
    by_cases g : sH tp n i = x
    · rw [if_pos g] at h
      show pSpell tp n (w ++ r) (pMust tp n x (false, i, L)) = _
      rw [pMust_y g, pSpell_y (by simp only [List.length_cons] at h; omega)]
      congr 3
      simp only [List.length_cons]
      omega
    · rw [if_neg g] at h
      simp at h
theorem pSpell_n : ∀ {w r : List Nat} {i : Nat}, fN tp n w i < w.length → pSpell tp n (w ++ r) (false, i, L) = (true, i + fN tp n w i, L)
  | [], _, _, h => absurd h (Nat.lt_irrefl _)
  | x :: w, r, i, h => by
    unfold fN at h ⊢
    show pSpell tp n (w ++ r) (pMust tp n x (false, i, L)) = _
    by_cases g : sH tp n i = x
    · rw [if_pos g] at h ⊢
      rw [pMust_y g, pSpell_n (by simp only [List.length_cons] at h; omega), show i + 1 + fN tp n w (i + 1) = i + (fN tp n w (i + 1) + 1) by omega]
    · rw [if_neg g, pMust_n g, pSpell_t]
      rfl
theorem pEvery_t {F : PS → PS} {i : Nat} (hF : F (true, i, L) = (true, i, L)) : pEvery tp n F (true, i, L) = (true, i, L) := by
  unfold pEvery
  rw [hF]
  exact pLoop_stop (fun h => Bool.noConfusion h.1)
theorem pSome_t {F : PS → PS} {i : Nat} (hF : F (true, i, L) = (true, i, L)) : pSome tp n F (true, i, L) = (true, i, L) := by
  unfold pSome
  rw [pEvery_t hF]
  exact pLoop_stop (fun h => Bool.noConfusion h.1)
/-- behind a word and its blank -/
def pTail (tp : Nat → Nat) (n k : Nat) (s : PS) : PS := pEm (k + (pFig tp n s).2) (pSome tp n (pFac tp n 5) (pMust tp n 32 (pFig tp n s).1))
theorem pTail_t {k i : Nat} : pTail tp n k (true, i, L) = (true, i, L) := by
  unfold pTail
  rw [pFig_t]
  dsimp only
  rw [pMust_t, pSome_t (pFac_t 5)]
  rfl
theorem pMuch_tail {k : Nat} {w : List Nat} {s : PS} : pMuch tp n k w s = pTail tp n k (pSpell tp n w s) := rfl
def pTl (tp : Nat → Nat) (n : Nat) (b : Bool) (s : PS) (y : Nat × Nat) : RS := ((pFig tp n s).1, if (pFig tp n s).1.1 = true then y else if b = true then ((pFig tp n s).2, y.2) else (y.1, (pFig tp n s).2))
theorem pTell_tl {b : Bool} {w : List Nat} {s : PS} {y : Nat × Nat} : pTell tp n b w s y = pTl tp n b (pSpell tp n w s) y := rfl
theorem pTl_t {b : Bool} {i : Nat} {y : Nat × Nat} : pTl tp n b (true, i, L) y = ((true, i, L), y) := by
  unfold pTl
  rw [pFig_t]
  rfl
def wP : List Nat := [112, 97, 99, 101]
def wE : List Nat := [101, 97, 115, 101]
def wS9 : List Nat := [115, 112, 105, 108, 108]
def wT : List Nat := [116, 105, 114, 101]
def wV : List Nat := [115, 104, 111, 118, 101, 108]
variable {i : Nat} {y : Nat × Nat}
theorem fN_c {x : Nat} {r : List Nat} (h : sH tp n i = x) : fN tp n (x :: r) i = fN tp n r (i + 1) + 1 := if_pos h
theorem fN_0 {x : Nat} {r : List Nat} (h : ¬ sH tp n i = x) : fN tp n (x :: r) i = 0 := if_neg h
theorem fN_hd {x : Nat} {r : List Nat} (h : 0 < fN tp n (x :: r) i) : sH tp n i = x := Classical.byContradiction fun g => by
  rw [fN_0 g] at h
  omega
theorem pCl_P (h : fN tp n wP i = 4) : pCl tp n ((false, i, L), y) = (pTail tp n 20000 (pMust tp n 32 (false, i + 4, L)), y) := by
  have h0 : sH tp n i = 112 := fN_hd (r := [97, 99, 101]) (by unfold wP at h; omega)
  unfold pCl
  rw [if_pos h0, pMuch_tail, show ([112, 97, 99, 101, 32] : List Nat) = wP ++ [32] from rfl, pSpell_y (by rw [h]; rfl)]
  rfl
theorem pCl_E (h : fN tp n wE i = 4) : pCl tp n ((false, i, L), y) = (pTail tp n 20100 (pMust tp n 32 (false, i + 4, L)), y) := by
  have h0 : sH tp n i = 101 := fN_hd (r := [97, 115, 101]) (by unfold wE at h; omega)
  unfold pCl
  dsimp only
  rw [if_neg (by omega), if_pos h0, pMuch_tail, show ([101, 97, 115, 101, 32] : List Nat) = wE ++ [32] from rfl, pSpell_y (by rw [h]; rfl)]
  rfl
theorem pCl_S (h : fN tp n wS9 i = 5) : pCl tp n ((false, i, L), y) = (pTail tp n 20200 (pMust tp n 32 (false, i + 5, L)), y) := by
  have h0 : sH tp n i = 115 := fN_hd (r := [112, 105, 108, 108]) (by unfold wS9 at h; omega)
  unfold wS9 at h
  rw [fN_c h0] at h
  have h1 : sH tp n (i + 1) = 112 := fN_hd (r := [105, 108, 108]) (by omega)
  unfold pCl
  dsimp only
  rw [if_neg (by omega), if_neg (by omega), if_pos h0, if_pos h1, pMuch_tail, show ([112, 105, 108, 108, 32] : List Nat) = [112, 105, 108, 108] ++ [32] from rfl, pSpell_y (by simp only [List.length_cons, List.length_nil]; omega)]
  rfl
theorem pCl_T (h : fN tp n wT i = 4) : pCl tp n ((false, i, L), y) = pTl tp n true (pMust tp n 32 (false, i + 4, L)) y := by
  have h0 : sH tp n i = 116 := fN_hd (r := [105, 114, 101]) (by unfold wT at h; omega)
  unfold pCl
  dsimp only
  rw [if_neg (by omega), if_neg (by omega), if_neg (by omega), if_pos h0, pTell_tl, show ([116, 105, 114, 101, 32] : List Nat) = wT ++ [32] from rfl, pSpell_y (by rw [h]; rfl)]
  rfl
theorem pCl_V (h : fN tp n wV i = 6) : pCl tp n ((false, i, L), y) = pTl tp n false (pMust tp n 32 (false, i + 6, L)) y := by
  have h0 : sH tp n i = 115 := fN_hd (r := [104, 111, 118, 101, 108]) (by unfold wV at h; omega)
  unfold wV at h
  rw [fN_c h0] at h
  have h1 : sH tp n (i + 1) = 104 := fN_hd (r := [111, 118, 101, 108]) (by omega)
  unfold pCl
  dsimp only
  rw [if_neg (by omega), if_neg (by omega), if_pos h0, if_neg (by omega), pTell_tl, show ([104, 111, 118, 101, 108, 32] : List Nat) = [104, 111, 118, 101, 108] ++ [32] from rfl, pSpell_y (by simp only [List.length_cons, List.length_nil]; omega)]
  rfl
theorem pCl_no (h0 : fN tp n wP i < 4) (h1 : fN tp n wE i < 4) (h2 : fN tp n wS9 i < 5) (h3 : fN tp n wT i < 4) (h4 : fN tp n wV i < 6) : pCl tp n ((false, i, L), y) = ((true, i + max (max (max (max (max 0 (fN tp n wP i)) (fN tp n wE i)) (fN tp n wS9 i)) (fN tp n wT i)) (fN tp n wV i), L), y) := by
  have z : ∀ {x : Nat} {r : List Nat}, ¬ sH tp n i = x → fN tp n (x :: r) i = 0 := fun h => fN_0 h
  unfold pCl
  dsimp only
  by_cases g1 : sH tp n i = 112
  · rw [if_pos g1, pMuch_tail, show ([112, 97, 99, 101, 32] : List Nat) = wP ++ [32] from rfl, pSpell_n h0, pTail_t]
    have e1 : fN tp n wE i = 0 := z (by omega)
    have e2 : fN tp n wS9 i = 0 := z (by omega)
    have e3 : fN tp n wT i = 0 := z (by omega)
    have e4 : fN tp n wV i = 0 := z (by omega)
    rw [e1, e2, e3, e4]
    simp
  · rw [if_neg g1]
    have e0 : fN tp n wP i = 0 := z (by omega)
    by_cases g2 : sH tp n i = 101
    · rw [if_pos g2, pMuch_tail, show ([101, 97, 115, 101, 32] : List Nat) = wE ++ [32] from rfl, pSpell_n h1, pTail_t]
      have e2 : fN tp n wS9 i = 0 := z (by omega)
      have e3 : fN tp n wT i = 0 := z (by omega)
      have e4 : fN tp n wV i = 0 := z (by omega)
      rw [e0, e2, e3, e4]
      simp
    · rw [if_neg g2]
      have e1 : fN tp n wE i = 0 := z (by omega)
      by_cases g3 : sH tp n i = 115
      · rw [if_pos g3]
        have e3 : fN tp n wT i = 0 := z (by omega)
        have e2 : fN tp n wS9 i = fN tp n [112, 105, 108, 108] (i + 1) + 1 := fN_c g3
        have e4 : fN tp n wV i = fN tp n [104, 111, 118, 101, 108] (i + 1) + 1 := fN_c g3
        rw [e0, e1, e3, e2, e4]
        rw [e2] at h2
        rw [e4] at h4
        by_cases g5 : sH tp n (i + 1) = 112
        · rw [if_pos g5, pMuch_tail, show ([112, 105, 108, 108, 32] : List Nat) = [112, 105, 108, 108] ++ [32] from rfl, pSpell_n (by simp only [List.length_cons, List.length_nil]; omega), pTail_t, show fN tp n [104, 111, 118, 101, 108] (i + 1) = 0 from fN_0 (by omega)]
          congr 3
          omega
        · rw [if_neg g5, pTell_tl, show ([104, 111, 118, 101, 108, 32] : List Nat) = [104, 111, 118, 101, 108] ++ [32] from rfl, pSpell_n (by simp only [List.length_cons, List.length_nil]; omega), pTl_t, show fN tp n [112, 105, 108, 108] (i + 1) = 0 from fN_0 g5]
          congr 3
          omega
      · rw [if_neg g3]
        have e2 : fN tp n wS9 i = 0 := z (by omega)
        have e4 : fN tp n wV i = 0 := z (by omega)
        by_cases g4 : sH tp n i = 116
        · rw [if_pos g4, pTell_tl, show ([116, 105, 114, 101, 32] : List Nat) = wT ++ [32] from rfl, pSpell_n h3, pTl_t, e0, e1, e2, e4]
          simp
        · rw [if_neg g4]
          have e3 : fN tp n wT i = 0 := z (by omega)
          rw [e0, e1, e2, e3, e4]
          rfl
end WD
