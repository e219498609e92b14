/-! SITES in the class: CLAUSES, each its condition's tokens, its word (0 pace, 1 ease, 2 spill) and its number. -/
abbrev Cls : Type := List (List Nat × Nat × Nat)
def clT (x : List Nat × Nat × Nat) : List Nat := x.1 ++ [20000 + 100 * x.2.1 + x.2.2]
def flC : Cls → List Nat
  | [] => []
  | x :: r => clT x ++ flC r
def coC : Cls → List Nat
  | [] => []
  | x :: r => x.1 ++ coC r
def encC (t : Nat) : Int32 := if t < 10000 then nI ((t % 8 * 3 + t / 8 % 4) * 100 + t / 32) else if t = 10000 then -1 else if t = 10001 then -2 else -3
theorem flC_app : ∀ (a b : Cls), flC (a ++ b) = flC a ++ flC b
  | [], _ => rfl
  | x :: r, b => by
    show clT x ++ flC (r ++ b) = clT x ++ flC r ++ flC b
    rw [flC_app r b, List.append_assoc]
theorem coC_app : ∀ (a b : Cls), coC (a ++ b) = coC a ++ coC b
  | [], _ => rfl
  | x :: r, b => by
    show x.1 ++ coC (r ++ b) = x.1 ++ coC r ++ coC b
    rw [coC_app r b, List.append_assoc]
theorem cls_split {cs : Cls} {k : Nat} (hk : k < cs.length) : cs = cs.take k ++ cs.getD k ([], 0, 0) :: cs.drop (k + 1) := by
  have h1 : cs.drop k = cs.getD k ([], 0, 0) :: cs.drop (k + 1) := by
    rw [List.drop_eq_getElem_cons hk]
    simp [List.getD_eq_getElem?_getD, hk]
  rw [← h1, List.take_append_drop]
theorem coC_take {cs : Cls} {k : Nat} (hk : k < cs.length) : coC (cs.take (k + 1)) = coC (cs.take k) ++ (cs.getD k ([], 0, 0)).1 := by
  rw [List.take_add_one, coC_app, List.getElem?_eq_getElem hk]
  simp [coC, List.getD_eq_getElem?_getD, hk]
theorem flC_take {cs : Cls} {k : Nat} (hk : k < cs.length) : flC (cs.take (k + 1)) = flC (cs.take k) ++ clT (cs.getD k ([], 0, 0)) := by
  rw [List.take_add_one, flC_app, List.getElem?_eq_getElem hk]
  simp [flC, List.getD_eq_getElem?_getD, hk]
theorem coC_at {cs : Cls} {k i : Nat} {pd : List Nat} (hk : k < cs.length) (hi : i < (cs.getD k ([], 0, 0)).1.length) : (coC cs ++ pd).getD ((coC (cs.take k)).length + i) 0 = (cs.getD k ([], 0, 0)).1.getD i 0 ∧ (coC (cs.take k)).length + i < (coC cs ++ pd).length := by
  have h1 : coC cs = coC (cs.take k) ++ ((cs.getD k ([], 0, 0)).1 ++ coC (cs.drop (k + 1))) := by
    conv => lhs; rw [cls_split hk]
    rw [coC_app]
    rfl
  rw [h1]
  clear h1
  generalize cs.getD k ([], 0, 0) = x at hi ⊢
  constructor
  · simp only [List.getD_eq_getElem?_getD, List.append_assoc]
    rw [List.getElem?_append_right (by omega), show (coC (cs.take k)).length + i - (coC (cs.take k)).length = i by omega, List.getElem?_append_left hi]
  · simp only [List.length_append]
    omega
/-- the Site's cells -/
def cSt (a : Nat) (T : Nat → Nat × Nat) (R : Nat → Nat → Option Nat) : Prop := T a = (14, 0) ∧ T (a + 1) = (1, 10) ∧ T (a + 2) = (1, 10) ∧ T (a + 3) = (1, 10) ∧ T (a + 4) = (1, 100) ∧ R a 2 = some (a + 1) ∧ R a 3 = some (a + 2) ∧ R a 4 = some (a + 3) ∧ R a 5 = some (a + 4)
/-- a Site that is being read: cs its CLAUSES, pd what is read of the next one's condition -/
def cSr (a : Nat) (I : Nat → Nat → Int32) (cs : Cls) (pd : List Nat) : Prop := cs.length ≤ 10 ∧ (coC cs ++ pd).length ≤ 100 ∧ I a 6 = nI cs.length ∧ I a 7 = nI (coC cs ++ pd).length ∧ (∀ k, k < cs.length → I (a + 1) k = nI (cs.getD k ([], 0, 0)).2.1 ∧ I (a + 2) k = nI (cs.getD k ([], 0, 0)).2.2 ∧ I (a + 3) k = nI (coC (cs.take (k + 1))).length) ∧ (∀ k, k < (coC cs ++ pd).length → I (a + 4) k = encC ((coC cs ++ pd).getD k 0)) ∧ (∀ x ∈ cs, x.2.1 ≤ 2 ∧ x.2.2 ≤ 99 ∧ ∀ t ∈ x.1, t ≤ 10002) ∧ ∀ t ∈ pd, t ≤ 10002
/-- the Site at a says fl, ti, sh -/
def cSi (a : Nat) (I : Nat → Nat → Int32) (fl : List Nat) (ti sh : Nat) : Prop := I a 0 = nI ti ∧ I a 1 = nI sh ∧ ∃ cs, fl = flC cs ∧ cSr a I cs []
theorem cSi.k {a : Nat} {I I' : Nat → Nat → Int32} {fl : List Nat} {ti sh : Nat} (h : cSi a I fl ti sh) (hk : ∀ b j, a ≤ b → b < a + 5 → I' b j = I b j) : cSi a I' fl ti sh := by
  obtain ⟨h1, h2, cs, h3, g1, g2, g3, g4, g5, g6, g7⟩ := h
  refine ⟨(hk _ _ (by omega) (by omega)).trans h1, (hk _ _ (by omega) (by omega)).trans h2, cs, h3, g1, g2, (hk _ _ (by omega) (by omega)).trans g3, (hk _ _ (by omega) (by omega)).trans g4, fun k q => ?_, fun k q => (hk _ _ (by omega) (by omega)).trans (g6 k q), g7⟩
  obtain ⟨e1, e2, e3⟩ := g5 k q
  exact ⟨(hk _ _ (by omega) (by omega)).trans e1, (hk _ _ (by omega) (by omega)).trans e2, (hk _ _ (by omega) (by omega)).trans e3⟩
/-! truths as bits of one number -/
def bN (b : Bool) : Nat := if b = true then 1 else 0
theorem bN_le (b : Bool) : bN b ≤ 1 := by cases b <;> simp [bN]
def bv : List Bool → Nat
  | [] => 0
  | b :: r => bN b + 2 * bv r
theorem bv_lt : ∀ st : List Bool, bv st < 2 ^ st.length
  | [] => by simp [bv]
  | b :: r => by
    have h1 := bv_lt r
    have h2 := bN_le b
    show bN b + 2 * bv r < 2 ^ (r.length + 1)
    rw [Nat.pow_succ]
    omega
theorem bv_20 {st : List Bool} (h : st.length ≤ 20) : bv st < 2 ^ 20 := Nat.lt_of_lt_of_le (bv_lt st) (Nat.pow_le_pow_right (by decide) h)
theorem nI_xor (a b : Nat) : nI a ^^^ nI b = nI (a ^^^ b) := by
  apply Int32.toBitVec_inj.mp
  show BitVec.ofNat 32 a ^^^ BitVec.ofNat 32 b = BitVec.ofNat 32 (a ^^^ b)
  apply BitVec.eq_of_getLsbD_eq
  intro i hi
  simp [BitVec.getLsbD_ofNat, Nat.testBit_xor, hi]
theorem nI_or (a b : Nat) : nI a ||| nI b = nI (a ||| b) := by
  apply Int32.toBitVec_inj.mp
  show BitVec.ofNat 32 a ||| BitVec.ofNat 32 b = BitVec.ofNat 32 (a ||| b)
  apply BitVec.eq_of_getLsbD_eq
  intro i hi
  simp [BitVec.getLsbD_ofNat, Nat.testBit_or, hi]
theorem tb_s (b : Bool) (r i : Nat) : (bN b + 2 * r).testBit (i + 1) = r.testBit i := by
  rw [Nat.testBit_succ]
  congr 1
  have := bN_le b
  cases b <;> simp [bN] <;> omega
theorem tb_0 (b : Bool) (r : Nat) : (bN b + 2 * r).testBit 0 = b := by
  rw [Nat.testBit_zero]
  cases b
  · simp [bN]
  · simp [bN]
theorem bN_tb (b : Bool) (i : Nat) : (bN b).testBit i = (decide (i = 0) && b) := by
  cases b
  · simp [bN]
  · cases i with
    | zero => simp [bN]
    | succ i =>
      rw [Nat.testBit_succ]
      simp [bN]
theorem bx_not (b : Bool) (r : Nat) : nI (bN b + 2 * r) ^^^ 1 = nI (bN (!b) + 2 * r) := by
  rw [show (1 : Int32) = nI 1 from rfl, nI_xor]
  congr 1
  apply Nat.eq_of_testBit_eq
  intro i
  rw [Nat.testBit_xor]
  cases i with
  | zero => rw [tb_0, tb_0]; simp
  | succ i =>
    rw [tb_s, tb_s, Nat.testBit_succ]
    simp
theorem bx_top (b : Bool) (r : Nat) (h : bN b + 2 * r < 2 ^ 31) : nI (bN b + 2 * r) &&& 1 = nI (bN b) := by
  rw [pk_andN (by omega) 1 (by decide)]
  congr 1
  have := bN_le b
  omega
theorem bx_shr (b : Bool) (r : Nat) (h : bN b + 2 * r < 2 ^ 31) : nI (bN b + 2 * r) >>> ((1 : Int32) &&& 31) = nI r := by
  rw [pk_shrN h _ 1 (by decide)]
  congr 1
  have := bN_le b
  omega
theorem bx_or (a b : Bool) (r : Nat) : nI (bN b + 2 * r) ||| nI (bN a) = nI (bN (b || a) + 2 * r) := by
  rw [nI_or]
  congr 1
  apply Nat.eq_of_testBit_eq
  intro i
  rw [Nat.testBit_or, bN_tb]
  cases i with
  | zero => rw [tb_0, tb_0]; simp
  | succ i =>
    rw [tb_s, tb_s]
    simp
theorem bx_and (a b : Bool) (r : Nat) : nI (bN b + 2 * r) &&& (nI (bN a) ||| -2) = nI (bN (b && a) + 2 * r) := by
  apply Int32.toBitVec_inj.mp
  apply BitVec.eq_of_getLsbD_eq
  intro i hi
  show ((nI (bN b + 2 * r)).toBitVec &&& ((nI (bN a)).toBitVec ||| (-2 : Int32).toBitVec)).getLsbD i = _
  rw [BitVec.getLsbD_and, BitVec.getLsbD_or, nI_lsb hi, nI_lsb hi, nI_lsb hi, bN_tb]
  cases i with
  | zero =>
    rw [tb_0, tb_0, show (-2 : Int32).toBitVec.getLsbD 0 = false by decide]
    simp
  | succ i =>
    rw [tb_s, tb_s]
    have h2 : ∀ j, j < 31 → (-2 : Int32).toBitVec.getLsbD (j + 1) = true := by decide
    rw [h2 i (by omega)]
    simp
theorem bx_shl (t : Bool) (n : Nat) (h : n < 2 ^ 30) : (nI n <<< ((1 : Int32) &&& 31)) ||| nI (bN t) = nI (bN t + 2 * n) := by
  rw [pk_shlN _ 1 (by decide) (by omega), nI_or]
  congr 1
  apply Nat.eq_of_testBit_eq
  intro i
  rw [Nat.testBit_or, bN_tb, show n * 2 ^ 1 = bN false + 2 * n by simp [bN]; omega]
  cases i with
  | zero => rw [tb_0, tb_0]; simp
  | succ i =>
    rw [tb_s, tb_s]
    simp
/-! what the tokens of a condition do -/
theorem encC_N : encC 10000 = -1 := rfl
theorem encC_A : encC 10001 = -2 := rfl
theorem encC_O : encC 10002 = -3 := rfl
theorem encC_t {t : Nat} (h : t < 3200) : encC t = nI ((t % 8 * 3 + t / 8 % 4) * 100 + t / 32) := if_pos (by omega)
/-- a step that isn't a CLAUSE's leaves the sums -/
theorem tStep_c {f : Nat → Nat} {st : List Bool} {y : Nat × Nat × Nat} {t : Nat} (h : t ≤ 10002) : (tStep f (st, y) t).2 = y := by
  unfold tStep
  by_cases h1 : t < 10000
  · rw [if_pos h1]
  · rw [if_neg h1]
    by_cases h2 : t = 10000
    · rw [if_pos h2]
    · rw [if_neg h2]
      by_cases h3 : t = 10001
      · rw [if_pos h3]
      · rw [if_neg h3, if_pos (by omega)]
def tSt (f : Nat → Nat) (X : List Nat) : List Bool := (tRun f X ([], 0, 0, 0)).1
theorem tRun_c {f : Nat → Nat} : ∀ {X : List Nat} {st : List Bool} {y : Nat × Nat × Nat}, (∀ t ∈ X, t ≤ 10002) → (tRun f X (st, y)).2 = y ∧ ∀ y', (tRun f X (st, y')).1 = (tRun f X (st, y)).1
  | [], _, _, _ => ⟨rfl, fun _ => rfl⟩
  | t :: X, st, y, h => by
    have h0 := h t (by simp)
    have e : ∀ y, tStep f (st, y) t = ((tStep f (st, y) t).1, y) := fun y => Prod.ext rfl (tStep_c h0)
    have e1 : ∀ y', (tStep f (st, y') t).1 = (tStep f (st, y) t).1 := fun y' => by
      unfold tStep
      by_cases h1 : t < 10000
      · rw [if_pos h1, if_pos h1]
      · rw [if_neg h1, if_neg h1]
        by_cases h2 : t = 10000
        · rw [if_pos h2, if_pos h2]
        · rw [if_neg h2, if_neg h2]
          by_cases h3 : t = 10001
          · rw [if_pos h3, if_pos h3]
          · rw [if_neg h3, if_neg h3, if_pos (by omega), if_pos (by omega)]
    show (tRun f X (tStep f (st, y) t)).2 = y ∧ ∀ y', (tRun f X (tStep f (st, y') t)).1 = (tRun f X (tStep f (st, y) t)).1
    have ih := tRun_c (f := f) (X := X) (st := (tStep f (st, y) t).1) (y := y) (fun t ht => h t (by simp [ht]))
    rw [e y]
    refine ⟨ih.1, fun y' => ?_⟩
    rw [e y', e1 y']
    exact ih.2 y'
/-- how many truths a step leaves -/
theorem tOk_st {m t : Nat} {f : Nat → Nat} {L : List Nat} {st : List Bool} {y : Nat × Nat × Nat} (ht : t ≤ 10002) (h : tOk m (t :: L) st.length) : tOk m L (tStep f (st, y) t).1.length := by
  by_cases h1 : t < 10000
  · have h2 := tOk_A h h1
    rw [tStep_A h1]
    exact h2.2.2.2.2
  · by_cases h3 : t = 10000
    · subst h3
      obtain ⟨h4, h5⟩ := tOk_N h
      cases st with
      | nil => simp at h4
      | cons b r => rw [tStep_N]; exact h5
    · obtain ⟨h4, h5⟩ := tOk_B h (by omega)
      rcases (show t = 10001 ∨ t = 10002 by omega) with rfl | rfl
      · cases st with
        | nil => simp at h4
        | cons a r => cases r with
          | nil => simp at h4
          | cons b r => rw [tStep_B]; simpa using h5
      · cases st with
        | nil => simp at h4
        | cons a r => cases r with
          | nil => simp at h4
          | cons b r => rw [tStep_O]; simpa using h5
theorem tOk_run {m : Nat} {f : Nat → Nat} : ∀ {X L : List Nat} {st : List Bool} {y : Nat × Nat × Nat}, (∀ t ∈ X, t ≤ 10002) → tOk m (X ++ L) st.length → tOk m L (tRun f X (st, y)).1.length
  | [], _, _, _, _, h => h
  | t :: X, L, st, y, hX, h => by
    have h1 := tOk_st (f := f) (y := y) (hX t (by simp)) h
    have h2 := tOk_run (f := f) (X := X) (L := L) (st := (tStep f (st, y) t).1) (y := (tStep f (st, y) t).2) (fun t ht => hX t (by simp [ht])) h1
    exact h2
/-- a CLAUSE as a whole -/
theorem tRun_cl {m : Nat} {f : Nat → Nat} {x : List Nat × Nat × Nat} {L : List Nat} {y : Nat × Nat × Nat} (hX : ∀ t ∈ x.1, t ≤ 10002) (hw : x.2.1 ≤ 2) (hn : x.2.2 ≤ 99) (h : tOk m (clT x ++ L) 0) : ∃ b, tSt f x.1 = [b] ∧ tRun f (clT x) ([], y) = ([], if b = true then (if x.2.1 = 0 then (y.1 + x.2.2, y.2) else if x.2.1 = 1 then (y.1, y.2.1 + x.2.2, y.2.2) else (y.1, y.2.1, y.2.2 + x.2.2)) else y) ∧ tOk m L 0 := by
  unfold clT at h
  rw [List.append_assoc] at h
  have h1 := tOk_run (f := f) (st := []) (y := (0, 0, 0)) hX h
  have h2 := tOk_C (t := 20000 + 100 * x.2.1 + x.2.2) h1 (by omega) (by omega)
  obtain ⟨b, hb⟩ := List.length_eq_one_iff.mp h2.2.2.1
  refine ⟨b, hb, ?_, h2.2.2.2⟩
  have h3 := tRun_c (f := f) (X := x.1) (st := []) (y := y) hX
  have h4 : tRun f x.1 ([], y) = ([b], y) := Prod.ext ((h3.2 (0, 0, 0)).symm.trans hb) h3.1
  have h5 : tRun f (clT x) ([], y) = tStep f (tRun f x.1 ([], y)) (20000 + 100 * x.2.1 + x.2.2) := by
    unfold clT tRun
    rw [List.foldl_append]
    rfl
  rw [h5, h4]
  obtain ⟨p1, p2, p3⟩ := y
  rcases (show x.2.1 = 0 ∨ x.2.1 = 1 ∨ x.2.1 = 2 by omega) with e | e | e
  · rw [e, show 20000 + 100 * 0 + x.2.2 = 20000 + x.2.2 by omega, tStep_P (by omega)]
    cases b <;> simp
  · rw [e, show 20000 + 100 * 1 + x.2.2 = 20100 + x.2.2 by omega, tStep_E (by omega)]
    cases b <;> simp
  · rw [e, show 20000 + 100 * 2 + x.2.2 = 20200 + x.2.2 by omega, tStep_S (by omega)]
    cases b <;> simp
theorem tRun_app {f : Nat → Nat} (A B : List Nat) (x : tX) : tRun f (A ++ B) x = tRun f B (tRun f A x) := by
  unfold tRun
  rw [List.foldl_append]
/-- CLAUSE by CLAUSE -/
theorem tRun_cs {m : Nat} {f : Nat → Nat} {cs : Cls} (hx : ∀ x ∈ cs, x.2.1 ≤ 2 ∧ x.2.2 ≤ 99 ∧ ∀ t ∈ x.1, t ≤ 10002) (h : tOk m (flC cs) 0) : ∀ k, k ≤ cs.length → tOk m (flC (cs.drop k)) 0 ∧ (tRun f (flC (cs.take k)) ([], 0, 0, 0)).1 = []
  | 0, _ => ⟨h, rfl⟩
  | k + 1, hk => by
    obtain ⟨ih1, ih2⟩ := tRun_cs (f := f) hx h k (by omega)
    have hd : cs.drop k = cs.getD k ([], 0, 0) :: cs.drop (k + 1) := by
      rw [List.drop_eq_getElem_cons (by omega)]
      have hk' : k < cs.length := by omega
      simp [List.getD_eq_getElem?_getD, hk']
    have hm : cs.getD k ([], 0, 0) ∈ cs := by
      have h9 : cs.getD k ([], 0, 0) ∈ cs.drop k := by rw [hd]; simp
      exact List.mem_of_mem_drop h9
    obtain ⟨q1, q2, q3⟩ := hx _ hm
    rw [hd] at ih1
    obtain ⟨b, -, e, h2⟩ := tRun_cl (f := f) (y := (tRun f (flC (cs.take k)) ([], 0, 0, 0)).2) q3 q1 q2 ih1
    refine ⟨h2, ?_⟩
    rw [flC_take (by omega), tRun_app, show tRun f (flC (cs.take k)) ([], 0, 0, 0) = ([], (tRun f (flC (cs.take k)) ([], 0, 0, 0)).2) from Prod.ext ih2 rfl, e]
