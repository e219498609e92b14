/-! THE DOCUMENT'S WORLD IN NATS. σ i: the i-th number of how all is, in the reference's own order (0 EARTH, 1 OVER, 2 SECOND, 3 ROUNDS, 4.. TIRED, 8.. SOFT, 18.. SLOPE, 28.. BOARD, 38 MEN, 39 SITES, 40 BOOK's rows, 41 TAPE's signs, 44.. KIND, 48.. v, 52.. STRONG, 56.. BOOK, 68.. TAPE). A SITE: what it says as tokens fl, tire ti, shovel sh.
Tokens: below 10000 a TEST w + 8 h + 32 v; 10000 not, 10001 and, 10002 or; 20000 + n pace n, 20100 + n ease n, 20200 + n spill n, behind its condition. -/
def bI (b : Bool) : Int32 := if b = true then 1 else 0
theorem bI_b (b : Bool) : bI b = 0 ∨ bI b = 1 := by cases b <;> simp [bI]
def tTest (f : Nat → Nat) (t : Nat) : Bool := if t / 8 % 4 = 0 then decide (f (t % 8) < t / 32) else if t / 8 % 4 = 1 then decide (f (t % 8) = t / 32) else decide (t / 32 < f (t % 8))
abbrev tX : Type := List Bool × Nat × Nat × Nat
def tStep (f : Nat → Nat) (x : tX) (t : Nat) : tX :=
  if t < 10000 then (tTest f t :: x.1, x.2)
  else if t = 10000 then ((match x.1 with | b :: r => (!b) :: r | [] => []), x.2)
  else if t = 10001 then ((match x.1 with | a :: b :: r => (b && a) :: r | r => r), x.2)
  else if t < 20000 then ((match x.1 with | a :: b :: r => (b || a) :: r | r => r), x.2)
  else ([], (if x.1.headD false = true then (if t < 20100 then (x.2.1 + t % 100, x.2.2) else if t < 20200 then (x.2.1, x.2.2.1 + t % 100, x.2.2.2) else (x.2.1, x.2.2.1, x.2.2.2 + t % 100)) else x.2))
def tRun (f : Nat → Nat) (L : List Nat) (x : tX) : tX := L.foldl (tStep f) x
/-- the tokens may be run from a stack of n truths, never more than m of them, to an end without any -/
def tOk (m : Nat) : List Nat → Nat → Prop
  | [], n => n = 0
  | t :: L, n => if t < 10000 then t % 8 < 6 ∧ t / 8 % 4 < 3 ∧ t < 3200 ∧ n + 1 ≤ m ∧ tOk m L (n + 1)
    else if t = 10000 then 1 ≤ n ∧ tOk m L n
    else if t ≤ 10002 then 2 ≤ n ∧ tOk m L (n - 1)
    else 20000 ≤ t ∧ t < 20300 ∧ n = 1 ∧ tOk m L 0
def encR (t : Nat) : Int32 := if t < 10000 then nI t else if t = 10000 then -1 else if t = 10001 then -2 else if t < 20000 then -3 else if t < 20100 then -10 - nI (t % 100) else if t < 20200 then -200 - nI (t % 100) else -400 - nI (t % 100)
def tRep (row : Nat → Int32) : List Bool → Prop
  | [] => True
  | b :: r => row r.length = bI b ∧ tRep row r
theorem tRep_up {row row' : Nat → Int32} : ∀ {st : List Bool}, tRep row st → (∀ j, j < st.length → row' j = row j) → tRep row' st
  | [], _, _ => trivial
  | b :: r, h, hr => ⟨by rw [hr r.length (by simp)]; exact h.1, tRep_up h.2 (fun j hj => hr j (by simp; omega))⟩
/-- what a man knows in a YARD -/
def fF (σ : Nat → Nat) (μ υ β : Nat) : Nat → Nat := fun j => if j = 0 then υ else if j = 1 then σ (8 + υ) else if j = 2 then σ (18 + υ) else if j = 3 then σ (28 + υ) else if j = 4 then β else σ (44 + μ)
def sX (fl : List Nat) (f : Nat → Nat) : Nat × Nat × Nat := (tRun f fl ([], 0, 0, 0)).2
def sNar (σ : Nat → Nat) (μ υ : Nat) : Prop := σ (44 + μ) = 6 ∧ 0 < σ (28 + υ) ∧ σ (28 + υ) < σ (48 + μ)
def sTk (fl : List Nat) (σ : Nat → Nat) (μ υ β : Nat) : Nat := max 1 (2 + (sX fl (fF σ μ υ β)).1 - (sX fl (fF σ μ υ β)).2.1) + σ (4 + μ) / 10 + (if (σ (44 + μ) = 3 ∨ σ (44 + μ) = 6) ∧ σ (48 + μ) < σ (4 + μ) then 1 else 0) + (if σ (44 + μ) = 6 ∧ 0 < σ (28 + υ) ∧ σ (28 + υ) < σ (48 + μ) then 20 else 0)
def sLs (fl : List Nat) (σ : Nat → Nat) (μ υ β : Nat) : Nat := min β ((sX fl (fF σ μ υ β)).2.2 + (if σ (44 + μ) = 4 ∧ 0 < σ (28 + υ) then σ (48 + μ) else 0) + (if σ (44 + μ) = 5 ∧ υ = σ (48 + μ) then 1 else 0))
def sAf (fl : List Nat) (σ : Nat → Nat) (μ υ β : Nat) : Nat := (β - sLs fl σ μ υ β) - (if σ (44 + μ) = 6 ∧ 0 < σ (28 + υ) ∧ σ (28 + υ) < σ (48 + μ) then (β - sLs fl σ μ υ β) / 2 else 0)
def sBa (fl : List Nat) (σ : Nat → Nat) (μ β : Nat) : Nat → Nat
  | 0 => β
  | υ + 1 => sAf fl σ μ υ (sBa fl σ μ β υ)
def sTh (fl : List Nat) (σ : Nat → Nat) (μ β : Nat) : Nat → Nat
  | 0 => 0
  | υ + 1 => sTh fl σ μ β υ + sTk fl σ μ υ (sBa fl σ μ β υ)
def sHm (fl : List Nat) (σ : Nat → Nat) (μ : Nat) : Nat → Nat
  | 0 => 0
  | n + 1 => sHm fl σ μ n + sTk fl σ μ (9 - n) 0
def sCm (σ : Nat → Nat) (μ c : Nat) : Nat := min (min (c + (if σ (44 + μ) = 1 ∨ σ (44 + μ) = 4 then σ (48 + μ) else 0)) 20) (σ 0)
def sFi (sh : Nat) (σ : Nat → Nat) (μ c : Nat) : Nat := sh * sCm σ μ c + (if σ (44 + μ) = 2 ∨ σ (44 + μ) = 5 then σ (48 + μ) else 0)
def sSe (fl : List Nat) (sh : Nat) (σ : Nat → Nat) (μ c : Nat) : Nat := sFi sh σ μ c + sTh fl σ μ (sCm σ μ c) 10 + sHm fl σ μ 10
def sBr (fl : List Nat) (σ : Nat → Nat) (μ c : Nat) : Nat := sBa fl σ μ (sCm σ μ c) 10
def sTd (ti : Nat) (σ : Nat → Nat) (μ c : Nat) : Nat := if σ (52 + μ) < sCm σ μ c then min 99 (σ (4 + μ) + ti) else σ (4 + μ) - 1
def sSo (σ : Nat → Nat) (i : Nat) : Nat := if σ (i + 20) = 0 ∧ σ i < 9 then σ i + 1 else σ i
/-- how all is behind a ROUND -/
def sGo (fl : List Nat) (ti sh : Nat) (σ : Nat → Nat) (μ c : Nat) : Nat → Nat := fun i =>
  if i = 0 then σ 0 - sCm σ μ c else if i = 1 then σ 1 + sBr fl σ μ c else if i = 2 then σ 2 + sSe fl sh σ μ c else if i = 3 then σ 3 + 1
  else if i = 4 + μ then sTd ti σ μ c else if 8 ≤ i ∧ i < 18 ∧ (σ 3 + 1) % 3 = 0 then sSo σ i else σ i
/-- the bounds of it all; K of what only grows -/
def sBd (σ : Nat → Nat) (K : Nat) : Prop := σ 0 ≤ 999 ∧ (σ 1 ≤ K ∧ σ 2 ≤ K ∧ σ 3 ≤ K) ∧ (∀ μ, μ < 4 → σ (4 + μ) ≤ 99) ∧ (∀ υ, υ < 30 → σ (8 + υ) ≤ 9) ∧ σ 38 ≤ 4 ∧ σ 39 ≤ 5 ∧ σ 40 ≤ 12 ∧ σ 41 ≤ 100 ∧ (∀ μ, μ < 4 → σ (44 + μ) ≤ 6 ∧ σ (48 + μ) ≤ 9 ∧ σ (52 + μ) ≤ 20) ∧ (∀ k, k < 12 → σ (56 + k) ≤ 9999) ∧ ∀ k, k < 100 → σ (68 + k) ≤ 127
theorem sBa_le (fl : List Nat) (σ : Nat → Nat) (μ β : Nat) : ∀ υ, sBa fl σ μ β υ ≤ β
  | 0 => Nat.le_refl _
  | υ + 1 => by
    have h := sBa_le fl σ μ β υ
    show sAf fl σ μ υ (sBa fl σ μ β υ) ≤ β
    unfold sAf
    omega
theorem sCm_le (σ : Nat → Nat) (μ c : Nat) : sCm σ μ c ≤ 20 := by unfold sCm; omega
theorem sCm_e (σ : Nat → Nat) (μ c : Nat) : sCm σ μ c ≤ σ 0 := by unfold sCm; omega
/-- what is told of a step's numbers: n tokens bring 99 n at most -/
theorem tStep_le {f : Nat → Nat} {x : tX} {t m n : Nat} {L : List Nat} (h : tOk m (t :: L) n) : (tStep f x t).2.1 ≤ x.2.1 + 99 ∧ (tStep f x t).2.2.1 ≤ x.2.2.1 + 99 ∧ (tStep f x t).2.2.2 ≤ x.2.2.2 + 99 := by
  unfold tStep
  by_cases h1 : t < 10000
  · rw [if_pos h1]; dsimp only; omega
  · rw [if_neg h1]
    by_cases h2 : t = 10000
    · rw [if_pos h2]; dsimp only; omega
    · rw [if_neg h2]
      by_cases h3 : t = 10001
      · rw [if_pos h3]; dsimp only; omega
      · rw [if_neg h3]
        by_cases h4 : t < 20000
        · rw [if_pos h4]; dsimp only; omega
        · rw [if_neg h4]
          have h5 : t < 20300 := by
            unfold tOk at h
            rw [if_neg h1, if_neg h2, if_neg (by omega)] at h
            exact h.2.1
          dsimp only
          by_cases h6 : x.1.headD false = true
          · rw [if_pos h6]
            by_cases h7 : t < 20100
            · rw [if_pos h7]; dsimp only; omega
            · rw [if_neg h7]
              by_cases h8 : t < 20200
              · rw [if_pos h8]; dsimp only; omega
              · rw [if_neg h8]; dsimp only; omega
          · rw [if_neg h6]; omega
theorem tOk_tl {m t n : Nat} {L : List Nat} (h : tOk m (t :: L) n) : ∃ n', tOk m L n' := by
  unfold tOk at h
  by_cases h1 : t < 10000
  · rw [if_pos h1] at h; exact ⟨_, h.2.2.2.2⟩
  · rw [if_neg h1] at h
    by_cases h2 : t = 10000
    · rw [if_pos h2] at h; exact ⟨_, h.2⟩
    · rw [if_neg h2] at h
      by_cases h3 : t ≤ 10002
      · rw [if_pos h3] at h; exact ⟨_, h.2⟩
      · rw [if_neg h3] at h; exact ⟨_, h.2.2.2⟩
theorem tRun_le {f : Nat → Nat} {m : Nat} : ∀ {L : List Nat} {n : Nat} {x : tX}, tOk m L n → (tRun f L x).2.1 ≤ x.2.1 + 99 * L.length ∧ (tRun f L x).2.2.1 ≤ x.2.2.1 + 99 * L.length ∧ (tRun f L x).2.2.2 ≤ x.2.2.2 + 99 * L.length
  | [], _, _, _ => ⟨Nat.le_refl _, Nat.le_refl _, Nat.le_refl _⟩
  | t :: L, n, x, h => by
    obtain ⟨n', h'⟩ := tOk_tl h
    have h1 := tStep_le (f := f) (x := x) h
    have h2 := tRun_le (f := f) (x := tStep f x t) h'
    show (tRun f L (tStep f x t)).2.1 ≤ _ ∧ (tRun f L (tStep f x t)).2.2.1 ≤ _ ∧ (tRun f L (tStep f x t)).2.2.2 ≤ _
    simp only [List.length_cons]
    omega
theorem sX_le {fl : List Nat} {m n : Nat} (h : tOk m fl n) (hl : fl.length ≤ 140) (f : Nat → Nat) : (sX fl f).1 ≤ 13860 ∧ (sX fl f).2.1 ≤ 13860 ∧ (sX fl f).2.2 ≤ 13860 := by
  have h1 := tRun_le (f := f) (x := ([], 0, 0, 0)) h
  unfold sX
  have h2 : 99 * fl.length ≤ 13860 := by omega
  simp only [Nat.zero_add] at h1
  omega
theorem encR_A {t : Nat} (h : t < 10000) : encR t = nI t := if_pos h
theorem encR_P {n : Nat} (h : n < 100) : encR (20000 + n) = -10 - nI n := by
  unfold encR
  rw [if_neg (by omega), if_neg (by omega), if_neg (by omega), if_neg (by omega), if_pos (by omega), show (20000 + n) % 100 = n by omega]
theorem encR_E {n : Nat} (h : n < 100) : encR (20100 + n) = -200 - nI n := by
  unfold encR
  rw [if_neg (by omega), if_neg (by omega), if_neg (by omega), if_neg (by omega), if_neg (by omega), if_pos (by omega), show (20100 + n) % 100 = n by omega]
theorem encR_S {n : Nat} (h : n < 100) : encR (20200 + n) = -400 - nI n := by
  unfold encR
  rw [if_neg (by omega), if_neg (by omega), if_neg (by omega), if_neg (by omega), if_neg (by omega), if_neg (by omega), show (20200 + n) % 100 = n by omega]
theorem negT {a : Int32} {A : Int} (ha : a.toInt = A) {n : Nat} (hn : n < 100) (hA : -1000 ≤ A) (hA2 : A ≤ 0) : (a - nI n).toInt = A - n := by
  rw [Int32.toInt_sub, ha, nI_toInt (by omega)]
  rw [Int.bmod_def]
  omega
theorem tRun_s {f : Nat → Nat} {fl : List Nat} {k : Nat} {x : tX} (h : k < fl.length) : tRun f (fl.take (k + 1)) x = tStep f (tRun f (fl.take k) x) (fl.getD k 0) := by
  unfold tRun
  rw [List.take_add_one, List.foldl_append, List.getElem?_eq_getElem h]
  simp [List.getD_eq_getElem?_getD, h]
theorem drop_c {fl : List Nat} {k : Nat} (h : k < fl.length) : fl.drop k = fl.getD k 0 :: fl.drop (k + 1) := by
  rw [List.drop_eq_getElem_cons h]
  simp [List.getD_eq_getElem?_getD, h]
theorem tStep_A {f : Nat → Nat} {x : tX} {t : Nat} (h : t < 10000) : tStep f x t = (tTest f t :: x.1, x.2) := if_pos h
theorem tStep_N {f : Nat → Nat} {b : Bool} {r : List Bool} {y : Nat × Nat × Nat} : tStep f (b :: r, y) 10000 = ((!b) :: r, y) := rfl
theorem tStep_B {f : Nat → Nat} {a b : Bool} {r : List Bool} {y : Nat × Nat × Nat} : tStep f (a :: b :: r, y) 10001 = ((b && a) :: r, y) := rfl
theorem tStep_O {f : Nat → Nat} {a b : Bool} {r : List Bool} {y : Nat × Nat × Nat} : tStep f (a :: b :: r, y) 10002 = ((b || a) :: r, y) := rfl
theorem tStep_P {f : Nat → Nat} {b : Bool} {p e q n : Nat} (h : n < 100) : tStep f ([b], p, e, q) (20000 + n) = ([], if b = true then p + n else p, e, q) := by
  unfold tStep
  rw [if_neg (by omega), if_neg (by omega), if_neg (by omega), if_neg (by omega)]
  dsimp only
  rw [if_pos (show 20000 + n < 20100 by omega), show (20000 + n) % 100 = n by omega]
  cases b <;> rfl
theorem tStep_E {f : Nat → Nat} {b : Bool} {p e q n : Nat} (h : n < 100) : tStep f ([b], p, e, q) (20100 + n) = ([], p, if b = true then e + n else e, q) := by
  unfold tStep
  rw [if_neg (by omega), if_neg (by omega), if_neg (by omega), if_neg (by omega)]
  dsimp only
  rw [if_neg (show ¬ 20100 + n < 20100 by omega), if_pos (show 20100 + n < 20200 by omega), show (20100 + n) % 100 = n by omega]
  cases b <;> rfl
theorem tStep_S {f : Nat → Nat} {b : Bool} {p e q n : Nat} (h : n < 100) : tStep f ([b], p, e, q) (20200 + n) = ([], p, e, if b = true then q + n else q) := by
  unfold tStep
  rw [if_neg (by omega), if_neg (by omega), if_neg (by omega), if_neg (by omega)]
  dsimp only
  rw [if_neg (show ¬ 20200 + n < 20100 by omega), if_neg (show ¬ 20200 + n < 20200 by omega), show (20200 + n) % 100 = n by omega]
  cases b <;> rfl
theorem tOk_A {m t n : Nat} {L : List Nat} (h : tOk m (t :: L) n) (ht : t < 10000) : t % 8 < 6 ∧ t / 8 % 4 < 3 ∧ t < 3200 ∧ n + 1 ≤ m ∧ tOk m L (n + 1) := by
  unfold tOk at h
  rw [if_pos ht] at h
  exact h
theorem tOk_N {m n : Nat} {L : List Nat} (h : tOk m (10000 :: L) n) : 1 ≤ n ∧ tOk m L n := by
  unfold tOk at h
  exact h
theorem tOk_B {m n t : Nat} {L : List Nat} (h : tOk m (t :: L) n) (ht : t = 10001 ∨ t = 10002) : 2 ≤ n ∧ tOk m L (n - 1) := by
  unfold tOk at h
  rw [if_neg (by omega), if_neg (by omega), if_pos (by omega)] at h
  exact h
theorem tOk_C {m n t : Nat} {L : List Nat} (h : tOk m (t :: L) n) (h1 : ¬ t < 10000) (h2 : ¬ t ≤ 10002) : 20000 ≤ t ∧ t < 20300 ∧ n = 1 ∧ tOk m L 0 := by
  unfold tOk at h
  rw [if_neg h1, if_neg (by omega), if_neg h2] at h
  exact h
theorem gn_dec (x : Nat) : nI (x + 1) + Int32.ofInt (-1) = nI x := pk_m1 x
theorem ng_lt {a b : Int32} {A B : Int} (ha : a.toInt = A) (hb : b.toInt = B) (h : A < B) : a < b := by rw [Int32.lt_iff_toInt_lt, ha, hb]; exact h
theorem ng_le {a b : Int32} {A B : Int} (ha : a.toInt = A) (hb : b.toInt = B) (h : A ≤ B) : a ≤ b := by rw [Int32.le_iff_toInt_le, ha, hb]; exact h
theorem ng_ne {a b : Int32} {A B : Int} (ha : a.toInt = A) (hb : b.toInt = B) (h : ¬ A = B) : ¬ a = b := fun e => h (by rw [← ha, ← hb, e])
theorem ng_P {n : Nat} (hn : n < 100) : (-10 - nI n : Int32) < 0 ∧ ¬ (-10 - nI n : Int32) = -1 ∧ (-10 - nI n : Int32) ≤ -10 ∧ (-400 : Int32) < -10 - nI n ∧ (-200 : Int32) < -10 - nI n := by
  have h := negT (a := -10) (A := -10) (by decide) hn (by decide) (by decide)
  exact ⟨ng_lt h (B := 0) (by decide) (by omega), ng_ne h (B := -1) (by decide) (by omega), ng_le h (B := -10) (by decide) (by omega), ng_lt (A := -400) (by decide) h (by omega), ng_lt (A := -200) (by decide) h (by omega)⟩
theorem ng_E {n : Nat} (hn : n < 100) : (-200 - nI n : Int32) < 0 ∧ ¬ (-200 - nI n : Int32) = -1 ∧ (-200 - nI n : Int32) ≤ -10 ∧ (-400 : Int32) < -200 - nI n ∧ (-200 - nI n : Int32) ≤ -200 := by
  have h := negT (a := -200) (A := -200) (by decide) hn (by decide) (by decide)
  exact ⟨ng_lt h (B := 0) (by decide) (by omega), ng_ne h (B := -1) (by decide) (by omega), ng_le h (B := -10) (by decide) (by omega), ng_lt (A := -400) (by decide) h (by omega), ng_le h (B := -200) (by decide) (by omega)⟩
theorem ng_S {n : Nat} (hn : n < 100) : (-400 - nI n : Int32) < 0 ∧ ¬ (-400 - nI n : Int32) = -1 ∧ (-400 - nI n : Int32) ≤ -10 ∧ (-400 - nI n : Int32) ≤ -400 ∧ (-400 - nI n : Int32) ≤ -200 := by
  have h := negT (a := -400) (A := -400) (by decide) hn (by decide) (by decide)
  exact ⟨ng_lt h (B := 0) (by decide) (by omega), ng_ne h (B := -1) (by decide) (by omega), ng_le h (B := -10) (by decide) (by omega), ng_le h (B := -400) (by decide) (by omega), ng_le h (B := -200) (by decide) (by omega)⟩
theorem tC_split {t : Nat} (h1 : 20000 ≤ t) (h2 : t < 20300) : (∃ n, n < 100 ∧ t = 20000 + n) ∨ (∃ n, n < 100 ∧ t = 20100 + n) ∨ ∃ n, n < 100 ∧ t = 20200 + n := by
  by_cases g1 : t < 20100
  · exact Or.inl ⟨t - 20000, by omega, by omega⟩
  · by_cases g2 : t < 20200
    · exact Or.inr (Or.inl ⟨t - 20100, by omega, by omega⟩)
    · exact Or.inr (Or.inr ⟨t - 20200, by omega, by omega⟩)
