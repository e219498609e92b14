/-! THE REFERENCE'S WORLD: its object at o, its arrays at o + 1 .. o + 11; M k j the j-th number of the cell o + k. -/
/-- n rows from o on are M's, all else is I0's -/
def gI (o n : Nat) (M I0 : Nat → Nat → Int32) : Nat → Nat → Int32 := fun a j => if o ≤ a ∧ a < o + n then M (a - o) j else I0 a j
theorem gI_at {o n k : Nat} {M I0 : Nat → Nat → Int32} (h : k < n) (j : Nat) : gI o n M I0 (o + k) j = M k j := by
  unfold gI
  rw [if_pos ⟨by omega, by omega⟩]
  congr 1
  omega
theorem gI_at0 {o n : Nat} {M I0 : Nat → Nat → Int32} (h : 0 < n) (j : Nat) : gI o n M I0 o j = M 0 j := gI_at (k := 0) h j
theorem gI_out {o n a : Nat} {M I0 : Nat → Nat → Int32} (h : a < o ∨ o + n ≤ a) : gI o n M I0 a = I0 a := by
  funext j
  unfold gI
  rw [if_neg (by omega)]
theorem gI_put {o n k : Nat} {M I0 : Nat → Nat → Int32} (h : k < n) (j : Nat) (v : Int32) : g2 (gI o n M I0) (o + k) j v = gI o n (g2 M k j v) I0 := by
  funext a i
  unfold gI g2
  dsimp only
  by_cases ha : a = o + k
  · subst ha
    rw [if_pos (show o ≤ o + k ∧ o + k < o + n by omega), show o + k - o = k by omega]
    by_cases hi : i = j
    · rw [if_pos ⟨rfl, hi⟩, if_pos (show o ≤ o + k ∧ o + k < o + n by omega), if_pos ⟨rfl, hi⟩]
    · rw [if_neg (fun q => hi q.2), if_pos (show o ≤ o + k ∧ o + k < o + n by omega), if_neg (fun q => hi q.2)]
  · rw [if_neg (fun q => ha q.1)]
    by_cases hr : o ≤ a ∧ a < o + n
    · rw [if_pos hr, if_pos hr, if_neg (by omega)]
    · rw [if_neg hr, if_neg hr]
theorem gI_put0 {o n : Nat} {M I0 : Nat → Nat → Int32} (h : 0 < n) (j : Nat) (v : Int32) : g2 (gI o n M I0) o j v = gI o n (g2 M 0 j v) I0 := gI_put (k := 0) h j v
def mTl : List (Nat × Nat) := [(22, 0), (1, 883), (1, 883), (1, 36), (1, 6), (3, 64), (1, 210), (1, 210), (1, 210), (1, 2), (1, 2), (1, 20)]
def mRl : List (Nat × Nat) := [(1, 1), (2, 2), (4, 3), (10, 4), (11, 5), (14, 6), (15, 7), (16, 8), (23, 9), (24, 10), (25, 11)]
theorem mTl_lt {k : Nat} {t : Nat × Nat} (h : mTl[k]? = some t) : k < 12 := (List.getElem?_eq_some_iff.mp h).1
/-- the reference's cells: what each is, and which field of the object holds which array -/
def gMod (o : Nat) (T : Nat → Nat × Nat) (R : Nat → Nat → Option Nat) : Prop := (∀ (k : Nat) (t : Nat × Nat), mTl[k]? = some t → T (o + k) = t) ∧ ∀ (j k : Nat), (j, k) ∈ mRl → R o j = some (o + k)
abbrev mSt (o z : Nat) (T : Nat → Nat × Nat) (R : Nat → Nat → Option Nat) (I0 M : Nat → Nat → Int32) : gSt := (z, T, gI o 12 M I0, R)
abbrev mPre (s0 : State) (D : va_G) (cy : Nat → ClassId) (B o z : Nat) (T : Nat → Nat × Nat) (R : Nat → Nat → Option Nat) (I0 M : Nat → Nat → Int32) (av : List Value) : Array Value → State → Prop := va_Pc (.ref o :: av) (gW0 s0 D cy B (mSt o z T R I0 M))
abbrev mQi (D : va_G) (cy : Nat → ClassId) (B o z : Nat) (T : Nat → Nat × Nat) (R : Nat → Nat → Option Nat) (I0 : Nat → Nat → Int32) (post : Int32 → (Nat → Nat → Int32) → Prop) : Array Value → State → Outcome → State → Prop := va_Qi post (fun u t => gW1 D cy B (mSt o z T R I0 u) t) (gA B)
abbrev mQl (D : va_G) (cy : Nat → ClassId) (B o z : Nat) (T : Nat → Nat × Nat) (R : Nat → Nat → Option Nat) (I0 : Nat → Nat → Int32) (post : Int64 → (Nat → Nat → Int32) → Prop) : Array Value → State → Outcome → State → Prop := va_Ql post (fun u t => gW1 D cy B (mSt o z T R I0 u) t) (gA B)
abbrev mQv (D : va_G) (cy : Nat → ClassId) (B o z : Nat) (T : Nat → Nat × Nat) (R : Nat → Nat → Option Nat) (I0 : Nat → Nat → Int32) (post : (Nat → Nat → Int32) → Prop) : Array Value → State → Outcome → State → Prop := va_Qv post (fun u t => gW1 D cy B (mSt o z T R I0 u) t) (gA B)
section MR
variable {p : Program} {l : Launch} {e : Env} {Rm : Room} {s : State} {m : MethodId} {args : Array Value} {below : List Frame} {meth : Method} {c : Code} {H : Heap} {locs : List Loc} {cells slots : Nat} {Q : State → Prop}
variable {cc : ByteArray} {nL : Nat} {Ts : List Cond} {pc : Nat} {ls : Array Slot} {rest : List Value} {D : va_G} {cy : Nat → ClassId} {B z o : Nat} {T : Nat → Nat × Nat} {I0 M : Nat → Nat → Int32} {R : Nat → Nat → Option Nat} {H0 : Heap}
theorem m_geti (j : Nat) (X : CallFix p m c cc nL s args Ts RX12) (hK : va_K D vwCl (gtys cy) s) (hP : gP D cy B z T (gI o 12 M I0) R H) (hM : gMod o T R) (hin : ∀ w ∈ wsX120, w ∈ Ts) (hj : (gtab.getD 14 [])[j]? = some true) (hk : j < 30) {index : Nat} (hlink : Cond.fieldLink RX12 index RX12 (TX12 j).2.1 (TX12 j).2.2.1 ∈ Ts) (hcls : (TX12 j).1 = RX12) (hdg : decode cc pc = .ok (.getfield index, 3)) {v : Int32} (hv : M 0 j = v)
    (kk : W p l e Rm s m args below meth c H locs cells slots Q (F0 m (pc + 3) ls (.int v :: rest))) : W p l e Rm s m args below meth c H locs cells slots Q (F0 m pc ls (.ref o :: rest)) :=
  g_geti 14 j X hK hP (hM.1 0 _ rfl) rfl hin hj hk hlink (fun _ h => by rw [hcls] at h; exact h) hdg (by rw [gI_at0 (by decide)]; exact hv) kk
theorem m_getr (j k : Nat) (X : CallFix p m c cc nL s args Ts RX12) (hK : va_K D vwCl (gtys cy) s) (hP : gP D cy B z T (gI o 12 M I0) R H) (hM : gMod o T R) (hin : ∀ w ∈ wsX120, w ∈ Ts) (hj : (gtab.getD 14 [])[j]? = some false) (hk : j < 30) {index : Nat} (hlink : Cond.fieldLink RX12 index RX12 (TX12 j).2.1 (TX12 j).2.2.1 ∈ Ts) (hcls : (TX12 j).1 = RX12) (hdg : decode cc pc = .ok (.getfield index, 3)) (hv : (j, k) ∈ mRl)
    (kk : W p l e Rm s m args below meth c H locs cells slots Q (F0 m (pc + 3) ls (.ref (o + k) :: rest))) : W p l e Rm s m args below meth c H locs cells slots Q (F0 m pc ls (.ref o :: rest)) :=
  g_getr 14 j X hK hP (hM.1 0 _ rfl) rfl hin hj hk hlink (fun _ h => by rw [hcls] at h; exact h) hdg (by rw [hM.2 j k hv]; rfl) kk
theorem m_puti (j : Nat) (X : CallFix p m c cc nL s args Ts RX12) (hK : va_K D vwCl (gtys cy) s) (hP : gP D cy B z T (gI o 12 M I0) R H) (hS : va_S (gA B) H0 H locs) (hM : gMod o T R) (hin : ∀ w ∈ wsX120, w ∈ Ts) (hj : (gtab.getD 14 [])[j]? = some true) (hk : j < 30) {index : Nat} (hlink : Cond.fieldLink RX12 index RX12 (TX12 j).2.1 (TX12 j).2.2.1 ∈ Ts) (hcls : (TX12 j).1 = RX12) (hfin : (TX12 j).2.2.2 = false) {v : Int32} (hn : narrow (tyX12 j) (.int v) = .int v) (hfit : fits (tyX12 j) (.int v) = true) (hdg : decode cc pc = .ok (.putfield index, 3))
    (kk : ∀ (H1 : Heap) (locs1 : List Loc), gP D cy B z T (gI o 12 (g2 M 0 j v) I0) R H1 → va_S (gA B) H0 H1 locs1 → W p l e Rm s m args below meth c H1 locs1 cells slots Q (F0 m (pc + 3) ls rest)) : W p l e Rm s m args below meth c H locs cells slots Q (F0 m pc ls (.int v :: .ref o :: rest)) :=
  g_puti 14 j X hK hP hS (hM.1 0 _ rfl) rfl hin tyX12 tyX12_ok nmX12 hj hk hlink (fun _ h => by rw [hcls] at h; exact h) hfin hn hfit hdg (fun H1 l1 h1 h2 => kk H1 l1 (by rw [gI_put (k := 0) (by decide)] at h1; exact h1) h2)
theorem m_ald (k j n : Nat) (X : CallFix p m c cc nL s args Ts RX12) (hK : va_K D vwCl (gtys cy) s) (hP : gP D cy B z T (gI o 12 M I0) R H) (hM : gMod o T R) (hk : mTl[k]? = some (1, n)) {i : Int32} (h : gIx i j n) (hdg : decode cc pc = .ok (.iaload, 1)) {v : Int32} (hv : M k j = v)
    (kk : W p l e Rm s m args below meth c H locs cells slots Q (F0 m (pc + 1) ls (.int v :: rest))) : W p l e Rm s m args below meth c H locs cells slots Q (F0 m pc ls (.int i :: .ref (o + k) :: rest)) :=
  g_iald j X hK hP (hM.1 k _ hk) h hdg (by rw [gI_at (mTl_lt hk)]; exact hv) kk
theorem m_ast (k j n : Nat) (X : CallFix p m c cc nL s args Ts RX12) (hK : va_K D vwCl (gtys cy) s) (hP : gP D cy B z T (gI o 12 M I0) R H) (hS : va_S (gA B) H0 H locs) (hM : gMod o T R) (hk : mTl[k]? = some (1, n)) {i x : Int32} (h : gIx i j n) (hdg : decode cc pc = .ok (.iastore, 1))
    (kk : ∀ (H1 : Heap) (locs1 : List Loc), gP D cy B z T (gI o 12 (g2 M k j x) I0) R H1 → va_S (gA B) H0 H1 locs1 → W p l e Rm s m args below meth c H1 locs1 cells slots Q (F0 m (pc + 1) ls rest)) : W p l e Rm s m args below meth c H locs cells slots Q (F0 m pc ls (.int x :: .int i :: .ref (o + k) :: rest)) :=
  g_iast j X hK hP hS (hM.1 k _ hk) h hdg (fun H1 l1 h1 h2 => kk H1 l1 (by rw [gI_put (mTl_lt hk)] at h1; exact h1) h2)
theorem m_zald (j : Nat) (X : CallFix p m c cc nL s args Ts RX12) (hK : va_K D vwCl (gtys cy) s) (hP : gP D cy B z T (gI o 12 M I0) R H) (hM : gMod o T R) {i : Int32} (h : gIx i j 64) (hdg : decode cc pc = .ok (.baload, 1)) {v : Int32} (hv : M 5 j = v)
    (kk : W p l e Rm s m args below meth c H locs cells slots Q (F0 m (pc + 1) ls (.int v :: rest))) : W p l e Rm s m args below meth c H locs cells slots Q (F0 m pc ls (.int i :: .ref (o + 5) :: rest)) :=
  g_zald j X hK hP (hM.1 5 _ rfl) h hdg (by rw [gI_at (by decide)]; exact hv) kk
theorem m_zast (j : Nat) (X : CallFix p m c cc nL s args Ts RX12) (hK : va_K D vwCl (gtys cy) s) (hP : gP D cy B z T (gI o 12 M I0) R H) (hS : va_S (gA B) H0 H locs) (hM : gMod o T R) {i x : Int32} (h : gIx i j 64) (hx : vp_nar .boolean x = x) (hdg : decode cc pc = .ok (.bastore, 1))
    (kk : ∀ (H1 : Heap) (locs1 : List Loc), gP D cy B z T (gI o 12 (g2 M 5 j x) I0) R H1 → va_S (gA B) H0 H1 locs1 → W p l e Rm s m args below meth c H1 locs1 cells slots Q (F0 m (pc + 1) ls rest)) : W p l e Rm s m args below meth c H locs cells slots Q (F0 m pc ls (.int x :: .int i :: .ref (o + 5) :: rest)) :=
  g_zast j X hK hP hS (hM.1 5 _ rfl) h hdg (fun H1 l1 h1 h2 => kk H1 l1 (by rw [gI_put (by decide), hx] at h1; exact h1) h2)
end MR
/-! numbers that are Nats; rows after a store -/
theorem gn_add {a b : Int32} {x y : Nat} (ha : a = nI x) (hb : b = nI y) : a + b = nI (x + y) := by rw [ha, hb, nI_add]
theorem gn_mul {a b : Int32} {x y : Nat} (ha : a = nI x) (hb : b = nI y) : a * b = nI (x * y) := by rw [ha, hb, pk_mul]
theorem gn_inc {a : Int32} {x : Nat} (ha : a = nI x) (n : Nat) : a + Int32.ofInt (n : Int) = nI (x + n) := by
  rw [ha, show Int32.ofInt (n : Int) = nI n from rfl, nI_add]
theorem gn_eq {a : Int32} {x y : Nat} (h : a = nI x) (e : x = y) : a = nI y := by rw [h, e]
theorem gIx_of {i : Int32} {k n : Nat} (h : i = nI k) (hk : k < n) (hn : n < 2 ^ 31) : gIx i k n := by
  rw [h]
  exact gIx_nI hk hn
theorem gs_same {M M1 : Nat → Nat → Int32} {k j : Nat} {v : Int32} (h : g2 M k j v = M1) : M1 k j = v := by rw [← h]; exact g2_same
theorem gs_same' {M M1 : Nat → Nat → Int32} {k j i : Nat} {v : Int32} (h : g2 M k j v = M1) (e : i = j) : M1 k i = v := by rw [← h, e]; exact g2_same
theorem gs_ne {M M1 : Nat → Nat → Int32} {k j b i : Nat} {v w : Int32} (h : g2 M k j v = M1) (hn : ¬ (b = k ∧ i = j)) (hw : M b i = w) : M1 b i = w := by
  rw [← h]
  show (if b = k ∧ i = j then v else M b i) = w
  rw [if_neg hn]
  exact hw
theorem gb_n {v : Int32} (h : v = 0 ∨ v = 1) : narrow .boolean (.int v) = .int v := by rcases h with rfl | rfl <;> rfl
theorem gb_f {v : Int32} (h : v = 0 ∨ v = 1) : fits .boolean (.int v) = true := by rcases h with rfl | rfl <;> rfl
theorem gb_v {v : Int32} (h : v = 0 ∨ v = 1) : vp_nar .boolean v = v := by rcases h with rfl | rfl <;> rfl
/-- 1 where it holds, else 0 -/
def gt (c : Prop) [Decidable c] : Int32 := if c then 1 else 0
theorem gt_b (c : Prop) [Decidable c] : gt c = 0 ∨ gt c = 1 := by
  unfold gt
  by_cases h : c
  · rw [if_pos h]; exact Or.inr rfl
  · rw [if_neg h]; exact Or.inl rfl
theorem gt_yes {c : Prop} [Decidable c] (h : c) : gt c = 1 := if_pos h
theorem gt_no {c : Prop} [Decidable c] (h : ¬ c) : gt c = 0 := if_neg h
theorem gt_0 {c : Prop} [Decidable c] (h : gt c = 0) : ¬ c := fun hc => by
  rw [gt_yes hc] at h
  exact absurd h (by decide)
theorem gt_1 {c : Prop} [Decidable c] (h : ¬ gt c = 0) : c := by
  by_cases hc : c
  · exact hc
  · exact absurd (gt_no hc) h
theorem gb_of {v : Int32} (h : v = 0 ∨ v = 1) : v = 0 ∨ v = 1 := h
section GJ
variable {p : Program} {l : Launch} {e : Env} {Rm : Room} {s : State} {m : MethodId} {args : Array Value} {below : List Frame} {meth : Method} {c : Code} {H : Heap} {locs : List Loc} {cells slots : Nat} {Q : State → Prop}
variable {pc : Nat} {ls : Array Slot} {st0 : List Value} {D : va_G} {cy : Nat → ClassId} {B z : Nat} {T : Nat → Nat × Nat} {I : Nat → Nat → Int32} {R : Nat → Nat → Option Nat} {H0 : Heap}
/-- two ways come together with a number on the stack -/
theorem g_merge (E : Int32) (join : Nat) (rest : List Value) (hP : gP D cy B z T I R H) (hS : va_S (gA B) H0 H locs)
    (k1 : ∀ (v : Int32) (H1 : Heap) (l1 : List Loc), v = E → gP D cy B z T I R H1 → va_S (gA B) H0 H1 l1 → W p l e Rm s m args below meth c H1 l1 cells slots Q (F0 m join ls (.int v :: rest)))
    (k2 : (∀ (H1 : Heap) (l1 : List Loc), gP D cy B z T I R H1 → va_S (gA B) H0 H1 l1 → W p l e Rm s m args below meth c H1 l1 cells slots Q (F0 m join ls (.int E :: rest))) → W p l e Rm s m args below meth c H locs cells slots Q (F0 m pc ls st0)) : W p l e Rm s m args below meth c H locs cells slots Q (F0 m pc ls st0) :=
  k2 (fun H1 l1 h1 h2 => k1 E H1 l1 rfl h1 h2)
end GJ
section GL
variable {p : Program} {l : Launch} {e : Env} {Rm : Room} {s : State} {m : MethodId} {args : Array Value} {below : List Frame} {meth : Method} {c : Code} {H : Heap} {locs : List Loc} {cells slots : Nat} {Q : State → Prop}
variable {ls : Array Slot} {D : va_G} {cy : Nat → ClassId} {B z o : Nat} {T : Nat → Nat × Nat} {I0 M : Nat → Nat → Int32} {R : Nat → Nat → Option Nat} {H0 : Heap}
/-- a loop of at most N turns over the reference's world -/
theorem m_loop (N head : Nat) (st : List Value) (Inv : Nat → (Nat → Nat → Int32) → Array Slot → Prop) (k0 : Nat) (h0 : k0 ≤ N) (hi : Inv k0 M ls) (hP : gP D cy B z T (gI o 12 M I0) R H) (hS : va_S (gA B) H0 H locs)
    (step : ∀ (k : Nat) (M : Nat → Nat → Int32) (H : Heap) (locs : List Loc) (ls : Array Slot), k ≤ N → Inv k M ls → gP D cy B z T (gI o 12 M I0) R H → va_S (gA B) H0 H locs →
      (∀ (M' : Nat → Nat → Int32) (H' : Heap) (locs' : List Loc) (ls' : Array Slot), k + 1 ≤ N → Inv (k + 1) M' ls' → gP D cy B z T (gI o 12 M' I0) R H' → va_S (gA B) H0 H' locs' → W p l e Rm s m args below meth c H' locs' cells slots Q (F0 m head ls' st)) →
      W p l e Rm s m args below meth c H locs cells slots Q (F0 m head ls st)) : W p l e Rm s m args below meth c H locs cells slots Q (F0 m head ls st) := by
  have main : ∀ (d k : Nat) (M : Nat → Nat → Int32) (H : Heap) (locs : List Loc) (ls : Array Slot), k + d = N → Inv k M ls → gP D cy B z T (gI o 12 M I0) R H → va_S (gA B) H0 H locs → W p l e Rm s m args below meth c H locs cells slots Q (F0 m head ls st) := by
    intro d
    induction d with
    | zero =>
      intro k M H locs ls hk hi hP hS
      exact step k M H locs ls (by omega) hi hP hS (fun _ _ _ _ h => absurd h (by omega))
    | succ d ih =>
      intro k M H locs ls hk hi hP hS
      exact step k M H locs ls (by omega) hi hP hS (fun M' H' l' ls' h1 h2 h3 h4 => ih (k + 1) M' H' l' ls' (by omega) h2 h3 h4)
  exact main (N - k0) k0 M H locs ls (by omega) hi hP hS
end GL
/-! the reference's small doings as functions of M -/
def mKeep (M : Nat → Nat → Int32) (f n : Nat) : Nat → Nat → Int32 := fun b i => if b = 3 ∧ 18 * f ≤ i ∧ i < 18 * f + n then M 1 (i - 18 * f) else M b i
def mBack (M : Nat → Nat → Int32) (f n : Nat) : Nat → Nat → Int32 := fun b i => if b = 1 ∧ i < n then M 3 (18 * f + i) else M b i
theorem mKeep_0 (M : Nat → Nat → Int32) (f : Nat) : mKeep M f 0 = M := by
  funext b i
  unfold mKeep
  rw [if_neg (by omega)]
theorem mBack_0 (M : Nat → Nat → Int32) (f : Nat) : mBack M f 0 = M := by
  funext b i
  unfold mBack
  rw [if_neg (by omega)]
theorem mKeep_s (M : Nat → Nat → Int32) (f n : Nat) : g2 (mKeep M f n) 3 (18 * f + n) (M 1 n) = mKeep M f (n + 1) := by
  funext b i
  unfold mKeep g2
  dsimp only
  by_cases h : b = 3 ∧ i = 18 * f + n
  · obtain ⟨rfl, rfl⟩ := h
    rw [if_pos ⟨rfl, rfl⟩, if_pos (by omega)]
    congr 1
    omega
  · rw [if_neg h]
    by_cases h2 : b = 3 ∧ 18 * f ≤ i ∧ i < 18 * f + n
    · rw [if_pos h2, if_pos (by omega)]
    · rw [if_neg h2, if_neg (by omega)]
theorem mBack_s (M : Nat → Nat → Int32) (f n : Nat) : g2 (mBack M f n) 1 n (M 3 (18 * f + n)) = mBack M f (n + 1) := by
  funext b i
  unfold mBack g2
  dsimp only
  by_cases h : b = 1 ∧ i = n
  · obtain ⟨rfl, rfl⟩ := h
    rw [if_pos ⟨rfl, rfl⟩, if_pos (by omega)]
  · rw [if_neg h]
    by_cases h2 : b = 1 ∧ i < n
    · rw [if_pos h2, if_pos (by omega)]
    · rw [if_neg h2, if_neg (by omega)]
theorem mKeep_r (M : Nat → Nat → Int32) (f n b i : Nat) (h : b ≠ 3) : mKeep M f n b i = M b i := by
  unfold mKeep
  rw [if_neg (by omega)]
theorem mBack_r (M : Nat → Nat → Int32) (f n b i : Nat) (h : ¬ (b = 1 ∧ i < n)) : mBack M f n b i = M b i := by
  unfold mBack
  rw [if_neg h]
/-- an int of the script, or a Nat below n, or neither -/
theorem gm_man {v : Int32} {n : Nat} (hn : n < 2 ^ 30) (h : 0 ≤ v ∧ v ≤ nI n - 1) : ∃ μ : Nat, μ < n ∧ v = nI μ := by
  have h0 : ¬ v < 0 := Int32.not_lt.mpr h.1
  obtain ⟨j, hj, rfl⟩ := nI_of h0
  cases n with
  | zero =>
    exfalso
    have h2 := h.2
    have h3 : (nI j).toInt ≤ (nI 0 - 1 : Int32).toInt := Int32.le_iff_toInt_le.mp h2
    rw [nI_toInt hj] at h3
    have h4 : (nI 0 - 1 : Int32).toInt = -1 := by decide
    omega
  | succ n =>
    have h2 := h.2
    rw [nI_pred] at h2
    exact ⟨j, by have := (nI_leI hj (by omega)).mp h2; omega, rfl⟩
theorem gm_le {v : Int32} {n : Nat} (hn : n < 2 ^ 31) (h : 0 ≤ v ∧ v ≤ nI n) : ∃ μ : Nat, μ ≤ n ∧ v = nI μ := by
  have h0 : ¬ v < 0 := Int32.not_lt.mpr h.1
  obtain ⟨j, hj, rfl⟩ := nI_of h0
  exact ⟨j, (nI_leI hj hn).mp h.2, rfl⟩
theorem gm_in {μ n : Nat} (hn : n < 2 ^ 30) (h : μ < n) : 0 ≤ nI μ ∧ nI μ ≤ nI n - 1 := by
  cases n with
  | zero => omega
  | succ n =>
    rw [nI_pred]
    exact ⟨nI_pos' (by omega), nI_le (by omega) (by omega)⟩
theorem gk18 {k n : Nat} {x : Int32} (hk : k ≤ n) (c : x ≤ nI k) (hx : x = nI n := by rfl) (hn : n < 2 ^ 31 := by decide) : k = n := by
  subst hx
  have := (nI_leI hn (Nat.lt_of_le_of_lt hk hn)).mp c
  omega
theorem gk_lt {k n : Nat} {x : Int32} (hk : k ≤ n) (c : ¬ x ≤ nI k) (hx : x = nI n := by rfl) (hn : n < 2 ^ 31 := by decide) : k < n := by
  subst hx
  rcases Nat.lt_or_ge k n with h | h
  · exact h
  · exact absurd (nI_le h (Nat.lt_of_le_of_lt hk hn)) c
theorem gn_m1 {n : Nat} (h : n < 2 ^ 31) : ¬ nI n = -1 := fun e => by
  have h1 : (nI n).toInt = (-1 : Int32).toInt := by rw [e]
  rw [nI_toInt h] at h1
  have h2 : (-1 : Int32).toInt = -1 := by decide
  omega
theorem gq_le {a b : Int32} {x y : Nat} (c : a ≤ b) (ha : a = nI x) (hb : b = nI y) (hx : x < 2 ^ 31) (hy : y < 2 ^ 31) : x ≤ y := by
  rw [ha, hb] at c
  exact (nI_leI hx hy).mp c
theorem gq_nle {a b : Int32} {x y : Nat} (c : ¬ a ≤ b) (ha : a = nI x) (hb : b = nI y) (hx : x < 2 ^ 31) (hy : y < 2 ^ 31) : y < x := by
  rw [ha, hb] at c
  exact Nat.not_le.mp (fun h => c ((nI_leI hx hy).mpr h))
theorem gq_lt {a b : Int32} {x y : Nat} (c : a < b) (ha : a = nI x) (hb : b = nI y) (hx : x < 2 ^ 31) (hy : y < 2 ^ 31) : x < y := by
  rw [ha, hb] at c
  exact (nI_ltI hx hy).mp c
theorem gq_nlt {a b : Int32} {x y : Nat} (c : ¬ a < b) (ha : a = nI x) (hb : b = nI y) (hx : x < 2 ^ 31) (hy : y < 2 ^ 31) : y ≤ x := by
  rw [ha, hb] at c
  exact Nat.not_lt.mp (fun h => c ((nI_ltI hx hy).mpr h))
theorem gq_eq {a b : Int32} {x y : Nat} (c : a = b) (ha : a = nI x) (hb : b = nI y) (hx : x < 2 ^ 31) (hy : y < 2 ^ 31) : x = y := by
  rw [ha, hb] at c
  exact (nI_eq hx hy).mp c
theorem gq_ne {a b : Int32} {x y : Nat} (c : ¬ a = b) (ha : a = nI x) (hb : b = nI y) (hx : x < 2 ^ 31) (hy : y < 2 ^ 31) : ¬ x = y := by
  rw [ha, hb] at c
  exact fun h => c (by rw [h])
theorem gn_sub {a b : Int32} {x y : Nat} (ha : a = nI x) (hb : b = nI y) (h : y ≤ x) : a - b = nI (x - y) := by rw [ha, hb, pk_sub h]
theorem gn_div {a b : Int32} {x y : Nat} (ha : a = nI x) (hb : b = nI y) (h0 : 0 < y) (hx : x < 2 ^ 31) (hy : y < 2 ^ 31) : a / b = nI (x / y) := by rw [ha, hb, pk_div hx h0 hy]
theorem gn_rem {a b : Int32} {x y : Nat} (ha : a = nI x) (hb : b = nI y) (h0 : 0 < y) (hx : x < 2 ^ 31) (hy : y < 2 ^ 31) : a - a / b * b = nI (x % y) := by rw [ha, hb, pk_rem hx h0 hy]
section GV
variable {p : Program} {l : Launch} {e : Env} {Rm : Room} {s : State} {m : MethodId} {args : Array Value} {below : List Frame} {meth : Method} {c : Code} {H : Heap} {locs : List Loc} {cells slots : Nat} {Q : State → Prop} {pc : Nat} {ls : Array Slot} {rest : List Value}
/-- the number on top by another name -/
theorem lv_cv {x y : Int32} (h : x = y) (k : W p l e Rm s m args below meth c H locs cells slots Q (F0 m pc ls (.int y :: rest))) : W p l e Rm s m args below meth c H locs cells slots Q (F0 m pc ls (.int x :: rest)) := by rw [h]; exact k
end GV
theorem gn_m1s {x : Nat} (h : 0 < x) : nI x + -1 = nI (x - 1) := by
  obtain ⟨y, rfl⟩ : ∃ y, x = y + 1 := ⟨x - 1, by omega⟩
  rw [pk_m1]
  congr 1
theorem gn_m1n {x : Nat} (h : x = 0) : ¬ 0 ≤ nI x + -1 := by subst h; decide
theorem gn_m1n' {x : Nat} (h : 0 < x) (hx : x < 2 ^ 31) : 0 ≤ nI x + -1 := by rw [gn_m1s h]; exact nI_pos' (by omega)
/-- M' is M but in S -/
def mSame (S : Nat → Nat → Prop) (M M' : Nat → Nat → Int32) : Prop := ∀ b i, ¬ S b i → M' b i = M b i
