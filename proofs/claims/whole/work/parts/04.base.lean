/-! THE HEAP AS THREE FUNCTIONS: T a = (kind, length) of the cell at a (0: none; 1 int[], 2 char[], 3 boolean[], 4 Man[], 5 Trip[], 6 Object[], 7 int[][]; k + 8: an object of the k-th of vwCl), I a j its j-th number, R a j its j-th reference. -/
def gtab : List (List Bool) := [[true], [true, false, true], [true, true, true, true], [true, true, true, true], [true, true, true, true], [true, true, true, true], [true, true, false, false, false, false, true, true], [true, false, true, false], [true, true, true, true], [true, true, true, true], [true, true, true, true, true, true], [true, true, true, true], [false, false, false, false, false, true, true, true, true, true, true, true, false, true, false, false], [false, false, false, false, false, true], [true, false, false, true, false, true, true, true, true, true, false, false, true, true, false, false, false, true, true, true, true, true, true, false, false, false, true, true, true, true]]
def gV (b : Bool) (x : Int32) (y : Option Nat) : Value := if b = true then .int x else va_rf y
def gF (k : Nat) (i : Nat → Int32) (r : Nat → Option Nat) : List Value := (gtab.getD k []).mapIdx (fun j b => gV b (i j) (r j))
def gQ (r : Nat → Option Nat) : (Nat → Int32) ⊕ (Nat → Int64) ⊕ (Nat → UInt32) ⊕ (Nat → UInt64) ⊕ (Nat → Option Nat) := .inr (.inr (.inr (.inr r)))
def gE (cy : Nat → ClassId) (T : Nat → Nat × Nat) (I : Nat → Nat → Int32) (R : Nat → Nat → Option Nat) (a : Nat) : Option va_E :=
  match (T a).1 with
  | 0 => none
  | 1 => some (.inl (cy 0, (T a).2, .inl (I a)))
  | 2 => some (.inl (cy 1, (T a).2, .inl (I a)))
  | 3 => some (.inl (cy 2, (T a).2, .inl (I a)))
  | 4 => some (.inl (cy 3, (T a).2, gQ (R a)))
  | 5 => some (.inl (cy 4, (T a).2, gQ (R a)))
  | 6 => some (.inl (cy 5, (T a).2, gQ (R a)))
  | 7 => some (.inl (cy 6, (T a).2, gQ (R a)))
  | k + 8 => some (.inr (k, gF k (I a) (R a)))
def gtys (cy : Nat → ClassId) : List (ClassId × FieldType) := [(cy 0, .int), (cy 1, .char), (cy 2, .boolean), (cy 3, .object "BarrowPlank$Man"), (cy 4, .object "BarrowPlank$Trip"), (cy 5, .object "java/lang/Object"), (cy 6, .array .int)]
def gA (B : Nat) : Nat → Prop := fun q => B ≤ q
/-- the heap of size z holds T, I, R, all of it from B on -/
def gP (D : va_G) (cy : Nat → ClassId) (B z : Nat) (T : Nat → Nat × Nat) (I : Nat → Nat → Int32) (R : Nat → Nat → Option Nat) (H : Heap) : Prop :=
  H.size = z ∧ B ≤ z ∧ (∀ a, (T a).1 ≠ 0 → B ≤ a) ∧ ∀ (a : Nat) (e : va_E), gE cy T I R a = some e → va_at D vwCl (a, e) H
def g2 {α : Type} (I : Nat → Nat → α) (a j : Nat) (v : α) : Nat → Nat → α := fun b i => if b = a ∧ i = j then v else I b i
def g1 {α : Type} (T : Nat → α) (a : Nat) (v : α) : Nat → α := fun b => if b = a then v else T b
/-- a row of a function of two: the whole row at a becomes f -/
theorem g2_same {α : Type} {I : Nat → Nat → α} {a j : Nat} {v : α} : g2 I a j v a j = v := by simp [g2]
theorem g2_na {α : Type} {I : Nat → Nat → α} {a j b i : Nat} {v : α} (h : b ≠ a) : g2 I a j v b i = I b i := by simp [g2, h]
theorem g2_nj {α : Type} {I : Nat → Nat → α} {a j b i : Nat} {v : α} (h : i ≠ j) : g2 I a j v b i = I b i := by simp [g2, h]
theorem g2_row {α : Type} {I : Nat → Nat → α} {a j b : Nat} {v : α} (h : b ≠ a) : g2 I a j v b = I b := by funext i; simp [g2, h]
theorem g1_same {α : Type} {T : Nat → α} {a : Nat} {v : α} : g1 T a v a = v := by simp [g1]
theorem g1_ne {α : Type} {T : Nat → α} {a b : Nat} {v : α} (h : b ≠ a) : g1 T a v b = T b := by simp [g1, h]
theorem gE_cong {cy : Nat → ClassId} {T T' : Nat → Nat × Nat} {I I' : Nat → Nat → Int32} {R R' : Nat → Nat → Option Nat} {b : Nat} (hT : T' b = T b) (hI : I' b = I b) (hR : R' b = R b) : gE cy T' I' R' b = gE cy T I R b := by
  unfold gE
  rw [hT, hI, hR]
theorem gE_obj {cy : Nat → ClassId} {T : Nat → Nat × Nat} {I : Nat → Nat → Int32} {R : Nat → Nat → Option Nat} {a k n : Nat} (ht : T a = (k + 8, n)) : gE cy T I R a = some (.inr (k, gF k (I a) (R a))) := by
  unfold gE
  rw [ht]
theorem gE_int {cy : Nat → ClassId} {T : Nat → Nat × Nat} {I : Nat → Nat → Int32} {R : Nat → Nat → Option Nat} {a n : Nat} (ht : T a = (1, n)) : gE cy T I R a = some (.inl (cy 0, n, .inl (I a))) := by
  unfold gE
  rw [ht]
theorem gE_char {cy : Nat → ClassId} {T : Nat → Nat × Nat} {I : Nat → Nat → Int32} {R : Nat → Nat → Option Nat} {a n : Nat} (ht : T a = (2, n)) : gE cy T I R a = some (.inl (cy 1, n, .inl (I a))) := by
  unfold gE
  rw [ht]
theorem gE_bool {cy : Nat → ClassId} {T : Nat → Nat × Nat} {I : Nat → Nat → Int32} {R : Nat → Nat → Option Nat} {a n : Nat} (ht : T a = (3, n)) : gE cy T I R a = some (.inl (cy 2, n, .inl (I a))) := by
  unfold gE
  rw [ht]
theorem gE_man {cy : Nat → ClassId} {T : Nat → Nat × Nat} {I : Nat → Nat → Int32} {R : Nat → Nat → Option Nat} {a n : Nat} (ht : T a = (4, n)) : gE cy T I R a = some (.inl (cy 3, n, .inr (.inr (.inr (.inr (R a)))))) := by
  unfold gE
  rw [ht]
  rfl
theorem gE_trip {cy : Nat → ClassId} {T : Nat → Nat × Nat} {I : Nat → Nat → Int32} {R : Nat → Nat → Option Nat} {a n : Nat} (ht : T a = (5, n)) : gE cy T I R a = some (.inl (cy 4, n, .inr (.inr (.inr (.inr (R a)))))) := by
  unfold gE
  rw [ht]
  rfl
theorem gE_objs {cy : Nat → ClassId} {T : Nat → Nat × Nat} {I : Nat → Nat → Int32} {R : Nat → Nat → Option Nat} {a n : Nat} (ht : T a = (6, n)) : gE cy T I R a = some (.inl (cy 5, n, .inr (.inr (.inr (.inr (R a)))))) := by
  unfold gE
  rw [ht]
  rfl
theorem gE_ints2 {cy : Nat → ClassId} {T : Nat → Nat × Nat} {I : Nat → Nat → Int32} {R : Nat → Nat → Option Nat} {a n : Nat} (ht : T a = (7, n)) : gE cy T I R a = some (.inl (cy 6, n, .inr (.inr (.inr (.inr (R a)))))) := by
  unfold gE
  rw [ht]
  rfl
theorem gE_none {cy : Nat → ClassId} {T : Nat → Nat × Nat} {I : Nat → Nat → Int32} {R : Nat → Nat → Option Nat} {a : Nat} (ht : (T a).1 = 0) : gE cy T I R a = none := by
  unfold gE
  rw [ht]
theorem gE_some {cy : Nat → ClassId} {T : Nat → Nat × Nat} {I : Nat → Nat → Int32} {R : Nat → Nat → Option Nat} {a : Nat} {e : va_E} (h : gE cy T I R a = some e) : (T a).1 ≠ 0 := fun h0 => by
  rw [gE_none h0] at h
  cases h
theorem gE_is {cy : Nat → ClassId} {T : Nat → Nat × Nat} {I : Nat → Nat → Int32} {R : Nat → Nat → Option Nat} {a : Nat} (h : (T a).1 ≠ 0) : ∃ e, gE cy T I R a = some e := by
  unfold gE
  split
  · exact absurd (by assumption) h
  all_goals exact ⟨_, rfl⟩
theorem gF_at {k j : Nat} {i : Nat → Int32} {r : Nat → Option Nat} {b : Bool} (h : (gtab.getD k [])[j]? = some b) : (gF k i r)[j]? = some (gV b (i j) (r j)) := by
  unfold gF
  rw [List.getElem?_mapIdx, h]
  rfl
theorem gF_len (k : Nat) (i : Nat → Int32) (r : Nat → Option Nat) : (gF k i r).length = (gtab.getD k []).length := by
  unfold gF
  rw [List.length_mapIdx]
theorem gF_set {k j : Nat} {i i' : Nat → Int32} {r r' : Nat → Option Nat} {b : Bool} (h : (gtab.getD k [])[j]? = some b) (hi : ∀ q, q ≠ j → i' q = i q) (hr : ∀ q, q ≠ j → r' q = r q) : gF k i' r' = (gF k i r).set j (gV b (i' j) (r' j)) := by
  apply List.ext_getElem?
  intro q
  rw [List.getElem?_set]
  by_cases hq : j = q
  · subst hq
    have hlt : j < (gF k i r).length := by rw [gF_len]; exact (List.getElem?_eq_some_iff.mp h).1
    rw [if_pos rfl, if_pos hlt]
    exact gF_at h
  · rw [if_neg hq]
    unfold gF
    rw [List.getElem?_mapIdx, List.getElem?_mapIdx, hi q (fun e => hq e.symm), hr q (fun e => hq e.symm)]
theorem gP.lt {D : va_G} {cy : Nat → ClassId} {B z : Nat} {T : Nat → Nat × Nat} {I : Nat → Nat → Int32} {R : Nat → Nat → Option Nat} {H : Heap} (h : gP D cy B z T I R H) {a : Nat} (ha : (T a).1 ≠ 0) : a < z := by
  obtain ⟨e, he⟩ := gE_is (cy := cy) (I := I) (R := R) ha
  rw [← h.1]
  exact (h.2.2.2 a e he).lt
theorem gP.at {D : va_G} {cy : Nat → ClassId} {B z : Nat} {T : Nat → Nat × Nat} {I : Nat → Nat → Int32} {R : Nat → Nat → Option Nat} {H : Heap} (h : gP D cy B z T I R H) {a : Nat} {e : va_E} (he : gE cy T I R a = some e) : va_P D vwCl [(a, e)] H := fun k q hq => by
  have hz : k < 1 := (List.getElem?_eq_some_iff.mp hq).1
  rw [show k = 0 by omega] at hq
  cases hq
  exact h.2.2.2 a e he
/-- one old cell becomes another -/
theorem gP.put {D : va_G} {cy : Nat → ClassId} {B z : Nat} {T : Nat → Nat × Nat} {I I' : Nat → Nat → Int32} {R R' : Nat → Nat → Option Nat} {H H1 : Heap} {a : Nat} {e1 : va_E} (h : gP D cy B z T I R H) (z1 : H1.size = H.size) (oq : ∀ q : Nat, q ≠ a → H1[q]? = H[q]?) (hI : ∀ b, b ≠ a → I' b = I b) (hR : ∀ b, b ≠ a → R' b = R b) (he : gE cy T I' R' a = some e1) (ha : va_at D vwCl (a, e1) H1) : gP D cy B z T I' R' H1 := by
  refine ⟨by rw [z1]; exact h.1, h.2.1, h.2.2.1, fun b e hb => ?_⟩
  by_cases hq : b = a
  · subst hq
    rw [he] at hb
    cases hb
    exact ha
  · rw [gE_cong rfl (hI b hq) (hR b hq)] at hb
    exact (h.2.2.2 b e hb).kept (oq b hq)
/-- a new cell at the heap's end -/
theorem gP.push {D : va_G} {cy : Nat → ClassId} {B z : Nat} {T T' : Nat → Nat × Nat} {I I' : Nat → Nat → Int32} {R R' : Nat → Nat → Option Nat} {H H1 : Heap} {e1 : va_E} (h : gP D cy B z T I R H) (z1 : H1.size = H.size + 1) (oq : ∀ q : Nat, q < H.size → H1[q]? = H[q]?) (hT : ∀ b, b ≠ z → T' b = T b) (hI : ∀ b, b ≠ z → I' b = I b) (hR : ∀ b, b ≠ z → R' b = R b) (he : gE cy T' I' R' z = some e1) (ha : va_at D vwCl (z, e1) H1) : gP D cy B (z + 1) T' I' R' H1 := by
  refine ⟨by rw [z1, h.1], by have := h.2.1; omega, fun b hb => ?_, fun b e hb => ?_⟩
  · by_cases hq : b = z
    · rw [hq]; exact h.2.1
    · rw [hT b hq] at hb; exact h.2.2.1 b hb
  · by_cases hq : b = z
    · subst hq
      rw [he] at hb
      cases hb
      exact ha
    · rw [gE_cong (hT b hq) (hI b hq) (hR b hq)] at hb
      exact (h.2.2.2 b e hb).kept (oq b (by rw [h.1]; exact h.lt (gE_some hb)))
theorem gP.fresh {D : va_G} {cy : Nat → ClassId} {B z : Nat} {T : Nat → Nat × Nat} {I : Nat → Nat → Int32} {R : Nat → Nat → Option Nat} {H : Heap} (h : gP D cy B z T I R H) {a : Nat} (ha : z ≤ a) : (T a).1 = 0 := by
  by_cases h0 : (T a).1 = 0
  · exact h0
  · exact absurd (h.lt h0) (Nat.not_lt.mpr ha)
theorem gS_push {B : Nat} {H0 H H1 : Heap} {locs : List Loc} (hS : va_S (gA B) H0 H locs) {n : Nat} (z1 : H1.size = H.size + n) (oq : ∀ q : Nat, q < H.size → H1[q]? = H[q]?) : va_S (gA B) H0 H1 locs :=
  ⟨Nat.le_trans hS.1 (by omega), fun x h1 h2 => (oq x (Nat.lt_of_lt_of_le h1 hS.1)).trans (hS.2.1 x h1 h2), hS.2.2⟩
section GR
variable {p : Program} {l : Launch} {e : Env} {Rm : Room} {s : State} {m : MethodId} {args : Array Value} {below : List Frame} {meth : Method} {c : Code} {H : Heap} {locs : List Loc} {cells slots : Nat} {Q : State → Prop}
variable {cc : ByteArray} {nL : Nat} {Ts : List Cond} {own : String} {pc : Nat} {ls : Array Slot} {rest : List Value} {D : va_G} {cy : Nat → ClassId} {B z a n : Nat} {T : Nat → Nat × Nat} {I : Nat → Nat → Int32} {R : Nat → Nat → Option Nat} {H0 : Heap}
theorem g_geti (k j : Nat) (X : CallFix p m c cc nL s args Ts own) (hK : va_K D vwCl (gtys cy) s) (hP : gP D cy B z T I R H) (ht : T a = (k + 8, n)) {C : String} {Tt : u_T} {N : Nat} (hc : vwCl[k]? = some (C, Tt, N)) (hin : ∀ w ∈ u_ws C Tt N, w ∈ Ts) (hj : (gtab.getD k [])[j]? = some true) (hk : j < N) {ref : String} {index : Nat} (hlink : Cond.fieldLink own index ref (Tt j).2.1 (Tt j).2.2.1 ∈ Ts) (hsame : ∀ x, s.fieldFound? (Tt j).1 (Tt j).2.1 (Tt j).2.2.1 = some x → s.fieldFound? ref (Tt j).2.1 (Tt j).2.2.1 = some x) (hdg : decode cc pc = .ok (.getfield index, 3)) {v : Int32} (hv : I a j = v)
    (kk : W p l e Rm s m args below meth c H locs cells slots Q (F0 m (pc + 3) ls (.int v :: rest))) : W p l e Rm s m args below meth c H locs cells slots Q (F0 m pc ls (.ref a :: rest)) := by
  obtain ⟨hx, hb, hml, hown, hts⟩ := X
  subst hv
  exact va_get (v := .int (I a j)) hx hb hts hin hown hK (hP.at (gE_obj ht)) 0 rfl hc j hk (hts _ hlink) hsame (gF_at hj) hdg kk
theorem g_getr (k j : Nat) (X : CallFix p m c cc nL s args Ts own) (hK : va_K D vwCl (gtys cy) s) (hP : gP D cy B z T I R H) (ht : T a = (k + 8, n)) {C : String} {Tt : u_T} {N : Nat} (hc : vwCl[k]? = some (C, Tt, N)) (hin : ∀ w ∈ u_ws C Tt N, w ∈ Ts) (hj : (gtab.getD k [])[j]? = some false) (hk : j < N) {ref : String} {index : Nat} (hlink : Cond.fieldLink own index ref (Tt j).2.1 (Tt j).2.2.1 ∈ Ts) (hsame : ∀ x, s.fieldFound? (Tt j).1 (Tt j).2.1 (Tt j).2.2.1 = some x → s.fieldFound? ref (Tt j).2.1 (Tt j).2.2.1 = some x) (hdg : decode cc pc = .ok (.getfield index, 3)) {v : Value} (hv : va_rf (R a j) = v)
    (kk : W p l e Rm s m args below meth c H locs cells slots Q (F0 m (pc + 3) ls (v :: rest))) : W p l e Rm s m args below meth c H locs cells slots Q (F0 m pc ls (.ref a :: rest)) := by
  obtain ⟨hx, hb, hml, hown, hts⟩ := X
  subst hv
  exact va_get (v := va_rf (R a j)) hx hb hts hin hown hK (hP.at (gE_obj ht)) 0 rfl hc j hk (hts _ hlink) hsame (gF_at hj) hdg kk
/-- putfield of a field that isn't final -/
theorem g_put (k j : Nat) (X : CallFix p m c cc nL s args Ts own) (hK : va_K D vwCl (gtys cy) s) (hP : gP D cy B z T I R H) (hS : va_S (gA B) H0 H locs) (ht : T a = (k + 8, n)) {C : String} {Tt : u_T} {N : Nat} (hc : vwCl[k]? = some (C, Tt, N)) (hin : ∀ w ∈ u_ws C Tt N, w ∈ Ts) (ty0 : Nat → FieldType) (hty : ∀ k, k < N → parseFieldDescriptor (Tt k).2.2.1 = some (ty0 k)) (hnm : ∀ a, a < N → ∀ b, b < N → a ≠ b → (Tt a).2.1 ≠ (Tt b).2.1) {b : Bool} (hj : (gtab.getD k [])[j]? = some b) (hk : j < N) {ref : String} {index : Nat} (hlink : Cond.fieldLink own index ref (Tt j).2.1 (Tt j).2.2.1 ∈ Ts) (hsame : ∀ x, s.fieldFound? (Tt j).1 (Tt j).2.1 (Tt j).2.2.1 = some x → s.fieldFound? ref (Tt j).2.1 (Tt j).2.2.1 = some x) (hfin : (Tt j).2.2.2 = false) {v : Value} {I' : Nat → Nat → Int32} {R' : Nat → Nat → Option Nat} (hn : narrow (ty0 j) v = v) (hfit : fits (ty0 j) v = true) (hv : v = gV b (I' a j) (R' a j)) (hI : ∀ b, b ≠ a → I' b = I b) (hR : ∀ b, b ≠ a → R' b = R b) (hI2 : ∀ q, q ≠ j → I' a q = I a q) (hR2 : ∀ q, q ≠ j → R' a q = R a q) (hdg : decode cc pc = .ok (.putfield index, 3))
    (kk : ∀ (H1 : Heap) (locs1 : List Loc), gP D cy B z T I' R' H1 → va_S (gA B) H0 H1 locs1 → W p l e Rm s m args below meth c H1 locs1 cells slots Q (F0 m (pc + 3) ls rest)) : W p l e Rm s m args below meth c H locs cells slots Q (F0 m pc ls (v :: .ref a :: rest)) := by
  obtain ⟨hx, hb, hml, hown, hts⟩ := X
  have hap := va_apart (own := own) hts hin ty0 hty hnm hK hc
  obtain ⟨r, h1, cell, q1, q2, q3, q4⟩ := hP.2.2.2 a _ (gE_obj ht)
  have hr : r = (C, Tt, N) := Option.some.inj (h1.symm.trans hc)
  subst hr
  obtain ⟨hSl, hfc, kC, hkC, hkind⟩ := hK.1 k _ hc
  obtain ⟨cf, kf, fi, f, hi, hsl⟩ := hSl j hk
  have hlay := hts _ (hin _ (u_in_lay hk))
  unfold u_lay at hlay
  rw [if_neg (by rw [hfin]; decide)] at hlay
  have hst := (u_facts hfc hkC (u_lays hts hin hk) hi).1
  have h6 := u_store hfc hkC hkind hlay hi (hty j hk) hn hfit
  refine W.putK hx hb (f := f) ⟨hown, hts _ hlink, ⟨_, _, _, hsame _ hi⟩, hst⟩ (by rw [q2]; exact h6) q1 q3 (by rw [hsl]; exact k2_hasslot (q4 j hk)) rfl rfl hdg fun H' e1 e2 e3 => ?_
  rw [hsl] at e1 ⊢
  have hl : j < (gF k (I a) (R a)).length := by rw [gF_len]; exact (List.getElem?_eq_some_iff.mp hj).1
  refine kk H' _ (hP.put e2 e3 hI hR (gE_obj ht) ⟨_, hc, ?_⟩) (hS.put e2 e3 (hP.2.2.1 a (by rw [ht]; exact Nat.succ_ne_zero _)))
  rw [gF_set hj hI2 hR2, ← hv]
  exact t_OB.to (V := updV (vp_V (gF k (I a) (R a))) j v) ⟨_, e1, q2, q3, t_set q4 hap hk v⟩ (fun q _ => vp_updV_set hl v q)
/-- putfield of a final field, in a constructor of the class that declares it -/
theorem g_putF (k j : Nat) (X : CallFix p m c cc nL s args Ts own) (hK : va_K D vwCl (gtys cy) s) (hP : gP D cy B z T I R H) (hS : va_S (gA B) H0 H locs) (ht : T a = (k + 8, n)) {C : String} {Tt : u_T} {N : Nat} (hc : vwCl[k]? = some (C, Tt, N)) (hin : ∀ w ∈ u_ws C Tt N, w ∈ Ts) (ty0 : Nat → FieldType) (hty : ∀ k, k < N → parseFieldDescriptor (Tt k).2.2.1 = some (ty0 k)) (hnm : ∀ a, a < N → ∀ b, b < N → a ≠ b → (Tt a).2.1 ≠ (Tt b).2.1) {b : Bool} (hj : (gtab.getD k [])[j]? = some b) (hk : j < N) {ref : String} {index : Nat} (hlink : Cond.fieldLink own index ref (Tt j).2.1 (Tt j).2.2.1 ∈ Ts) (hsame : ∀ x, s.fieldFound? (Tt j).1 (Tt j).2.1 (Tt j).2.2.1 = some x → s.fieldFound? ref (Tt j).2.1 (Tt j).2.2.1 = some x) (hfin : (Tt j).2.2.2 = true) (hin2 : meth.name = "<init>") (hdecl : (Tt j).1 = own) {v : Value} {I' : Nat → Nat → Int32} {R' : Nat → Nat → Option Nat} (hn : narrow (ty0 j) v = v) (hfit : fits (ty0 j) v = true) (hv : v = gV b (I' a j) (R' a j)) (hI : ∀ b, b ≠ a → I' b = I b) (hR : ∀ b, b ≠ a → R' b = R b) (hI2 : ∀ q, q ≠ j → I' a q = I a q) (hR2 : ∀ q, q ≠ j → R' a q = R a q) (hdg : decode cc pc = .ok (.putfield index, 3))
    (kk : ∀ (H1 : Heap) (locs1 : List Loc), gP D cy B z T I' R' H1 → va_S (gA B) H0 H1 locs1 → W p l e Rm s m args below meth c H1 locs1 cells slots Q (F0 m (pc + 3) ls rest)) : W p l e Rm s m args below meth c H locs cells slots Q (F0 m pc ls (v :: .ref a :: rest)) := by
  obtain ⟨hx, hb, hml, hown, hts⟩ := X
  have hap := va_apart (own := own) hts hin ty0 hty hnm hK hc
  obtain ⟨r, h1, cell, q1, q2, q3, q4⟩ := hP.2.2.2 a _ (gE_obj ht)
  have hr : r = (C, Tt, N) := Option.some.inj (h1.symm.trans hc)
  subst hr
  obtain ⟨hSl, hfc, kC, hkC, hkind⟩ := hK.1 k _ hc
  obtain ⟨cf, kf, fi, f, hi, hsl⟩ := hSl j hk
  have hlay := hts _ (hin _ (u_in_lay hk))
  unfold u_lay at hlay
  rw [if_pos hfin] at hlay
  have hst := (u_facts hfc hkC (u_lays hts hin hk) hi).1
  have hcf : m.cls = cf := by
    obtain ⟨_, _, c', _, _, _, -, -, hf', -, -, -, hown2, -⟩ := Cond.laysFinal_spec hlay
    have e1 : c' = cf := by have := hi.symm.trans hf'; simp at this; exact this.1.symm
    rw [hdecl] at hown2
    rw [← e1]; exact Option.some.inj (hown.symm.trans hown2)
  have h6 := u_fits hfc hkC hkind (Or.inr hlay) hi (hty j hk) hn hfit
  refine W.putFinK hx hb hown (hts _ hlink) (hsame _ hi) hst hcf hin2 (by rw [q2]; exact h6) q1 q3 (by rw [hsl]; exact k2_hasslot (q4 j hk)) rfl rfl hdg fun H' e1 e2 e3 => ?_
  rw [hsl] at e1 ⊢
  have hl : j < (gF k (I a) (R a)).length := by rw [gF_len]; exact (List.getElem?_eq_some_iff.mp hj).1
  refine kk H' _ (hP.put e2 e3 hI hR (gE_obj ht) ⟨_, hc, ?_⟩) (hS.put e2 e3 (hP.2.2.1 a (by rw [ht]; exact Nat.succ_ne_zero _)))
  rw [gF_set hj hI2 hR2, ← hv]
  exact t_OB.to (V := updV (vp_V (gF k (I a) (R a))) j v) ⟨_, e1, q2, q3, t_set q4 hap hk v⟩ (fun q _ => vp_updV_set hl v q)
theorem g_puti (k j : Nat) (X : CallFix p m c cc nL s args Ts own) (hK : va_K D vwCl (gtys cy) s) (hP : gP D cy B z T I R H) (hS : va_S (gA B) H0 H locs) (ht : T a = (k + 8, n)) {C : String} {Tt : u_T} {N : Nat} (hc : vwCl[k]? = some (C, Tt, N)) (hin : ∀ w ∈ u_ws C Tt N, w ∈ Ts) (ty0 : Nat → FieldType) (hty : ∀ k, k < N → parseFieldDescriptor (Tt k).2.2.1 = some (ty0 k)) (hnm : ∀ a, a < N → ∀ b, b < N → a ≠ b → (Tt a).2.1 ≠ (Tt b).2.1) (hj : (gtab.getD k [])[j]? = some true) (hk : j < N) {ref : String} {index : Nat} (hlink : Cond.fieldLink own index ref (Tt j).2.1 (Tt j).2.2.1 ∈ Ts) (hsame : ∀ x, s.fieldFound? (Tt j).1 (Tt j).2.1 (Tt j).2.2.1 = some x → s.fieldFound? ref (Tt j).2.1 (Tt j).2.2.1 = some x) (hfin : (Tt j).2.2.2 = false) {v : Int32} (hn : narrow (ty0 j) (.int v) = .int v) (hfit : fits (ty0 j) (.int v) = true) (hdg : decode cc pc = .ok (.putfield index, 3))
    (kk : ∀ (H1 : Heap) (locs1 : List Loc), gP D cy B z T (g2 I a j v) R H1 → va_S (gA B) H0 H1 locs1 → W p l e Rm s m args below meth c H1 locs1 cells slots Q (F0 m (pc + 3) ls rest)) : W p l e Rm s m args below meth c H locs cells slots Q (F0 m pc ls (.int v :: .ref a :: rest)) :=
  g_put k j X hK hP hS ht hc hin ty0 hty hnm hj hk hlink hsame hfin hn hfit (by rw [g2_same]; rfl) (fun _ h => g2_row h) (fun _ _ => rfl) (fun _ h => g2_nj h) (fun _ _ => rfl) hdg kk
theorem g_putr (k j : Nat) (X : CallFix p m c cc nL s args Ts own) (hK : va_K D vwCl (gtys cy) s) (hP : gP D cy B z T I R H) (hS : va_S (gA B) H0 H locs) (ht : T a = (k + 8, n)) {C : String} {Tt : u_T} {N : Nat} (hc : vwCl[k]? = some (C, Tt, N)) (hin : ∀ w ∈ u_ws C Tt N, w ∈ Ts) (ty0 : Nat → FieldType) (hty : ∀ k, k < N → parseFieldDescriptor (Tt k).2.2.1 = some (ty0 k)) (hnm : ∀ a, a < N → ∀ b, b < N → a ≠ b → (Tt a).2.1 ≠ (Tt b).2.1) (hj : (gtab.getD k [])[j]? = some false) (hk : j < N) {ref : String} {index : Nat} (hlink : Cond.fieldLink own index ref (Tt j).2.1 (Tt j).2.2.1 ∈ Ts) (hsame : ∀ x, s.fieldFound? (Tt j).1 (Tt j).2.1 (Tt j).2.2.1 = some x → s.fieldFound? ref (Tt j).2.1 (Tt j).2.2.1 = some x) (hfin : (Tt j).2.2.2 = false) {r : Option Nat} {v : Value} (hv : va_rf r = v) (hn : narrow (ty0 j) v = v) (hfit : fits (ty0 j) v = true) (hdg : decode cc pc = .ok (.putfield index, 3))
    (kk : ∀ (H1 : Heap) (locs1 : List Loc), gP D cy B z T I (g2 R a j r) H1 → va_S (gA B) H0 H1 locs1 → W p l e Rm s m args below meth c H1 locs1 cells slots Q (F0 m (pc + 3) ls rest)) : W p l e Rm s m args below meth c H locs cells slots Q (F0 m pc ls (v :: .ref a :: rest)) :=
  g_put k j X hK hP hS ht hc hin ty0 hty hnm hj hk hlink hsame hfin hn hfit (by rw [g2_same, ← hv]; rfl) (fun _ _ => rfl) (fun _ h => g2_row h) (fun _ _ => rfl) (fun _ h => g2_nj h) hdg kk
theorem g_putiF (k j : Nat) (X : CallFix p m c cc nL s args Ts own) (hK : va_K D vwCl (gtys cy) s) (hP : gP D cy B z T I R H) (hS : va_S (gA B) H0 H locs) (ht : T a = (k + 8, n)) {C : String} {Tt : u_T} {N : Nat} (hc : vwCl[k]? = some (C, Tt, N)) (hin : ∀ w ∈ u_ws C Tt N, w ∈ Ts) (ty0 : Nat → FieldType) (hty : ∀ k, k < N → parseFieldDescriptor (Tt k).2.2.1 = some (ty0 k)) (hnm : ∀ a, a < N → ∀ b, b < N → a ≠ b → (Tt a).2.1 ≠ (Tt b).2.1) (hj : (gtab.getD k [])[j]? = some true) (hk : j < N) {ref : String} {index : Nat} (hlink : Cond.fieldLink own index ref (Tt j).2.1 (Tt j).2.2.1 ∈ Ts) (hsame : ∀ x, s.fieldFound? (Tt j).1 (Tt j).2.1 (Tt j).2.2.1 = some x → s.fieldFound? ref (Tt j).2.1 (Tt j).2.2.1 = some x) (hfin : (Tt j).2.2.2 = true) (hin2 : meth.name = "<init>") (hdecl : (Tt j).1 = own) {v : Int32} (hn : narrow (ty0 j) (.int v) = .int v) (hfit : fits (ty0 j) (.int v) = true) (hdg : decode cc pc = .ok (.putfield index, 3))
    (kk : ∀ (H1 : Heap) (locs1 : List Loc), gP D cy B z T (g2 I a j v) R H1 → va_S (gA B) H0 H1 locs1 → W p l e Rm s m args below meth c H1 locs1 cells slots Q (F0 m (pc + 3) ls rest)) : W p l e Rm s m args below meth c H locs cells slots Q (F0 m pc ls (.int v :: .ref a :: rest)) :=
  g_putF k j X hK hP hS ht hc hin ty0 hty hnm hj hk hlink hsame hfin hin2 hdecl hn hfit (by rw [g2_same]; rfl) (fun _ h => g2_row h) (fun _ _ => rfl) (fun _ h => g2_nj h) (fun _ _ => rfl) hdg kk
theorem g_putrF (k j : Nat) (X : CallFix p m c cc nL s args Ts own) (hK : va_K D vwCl (gtys cy) s) (hP : gP D cy B z T I R H) (hS : va_S (gA B) H0 H locs) (ht : T a = (k + 8, n)) {C : String} {Tt : u_T} {N : Nat} (hc : vwCl[k]? = some (C, Tt, N)) (hin : ∀ w ∈ u_ws C Tt N, w ∈ Ts) (ty0 : Nat → FieldType) (hty : ∀ k, k < N → parseFieldDescriptor (Tt k).2.2.1 = some (ty0 k)) (hnm : ∀ a, a < N → ∀ b, b < N → a ≠ b → (Tt a).2.1 ≠ (Tt b).2.1) (hj : (gtab.getD k [])[j]? = some false) (hk : j < N) {ref : String} {index : Nat} (hlink : Cond.fieldLink own index ref (Tt j).2.1 (Tt j).2.2.1 ∈ Ts) (hsame : ∀ x, s.fieldFound? (Tt j).1 (Tt j).2.1 (Tt j).2.2.1 = some x → s.fieldFound? ref (Tt j).2.1 (Tt j).2.2.1 = some x) (hfin : (Tt j).2.2.2 = true) (hin2 : meth.name = "<init>") (hdecl : (Tt j).1 = own) {r : Option Nat} {v : Value} (hv : va_rf r = v) (hn : narrow (ty0 j) v = v) (hfit : fits (ty0 j) v = true) (hdg : decode cc pc = .ok (.putfield index, 3))
    (kk : ∀ (H1 : Heap) (locs1 : List Loc), gP D cy B z T I (g2 R a j r) H1 → va_S (gA B) H0 H1 locs1 → W p l e Rm s m args below meth c H1 locs1 cells slots Q (F0 m (pc + 3) ls rest)) : W p l e Rm s m args below meth c H locs cells slots Q (F0 m pc ls (v :: .ref a :: rest)) :=
  g_putF k j X hK hP hS ht hc hin ty0 hty hnm hj hk hlink hsame hfin hin2 hdecl hn hfit (by rw [g2_same, ← hv]; rfl) (fun _ _ => rfl) (fun _ h => g2_row h) (fun _ _ => rfl) (fun _ h => g2_nj h) hdg kk
/-- an index i that is k, among n -/
def gIx (i : Int32) (k n : Nat) : Prop := i.toInt = (k : Int) ∧ k < n
theorem gIx.vp {i : Int32} {k n : Nat} (h : gIx i k n) : vp_in i n := vp_in_iff.mpr ⟨by rw [h.1]; omega, by rw [h.1]; exact Int.ofNat_lt.mpr h.2⟩
theorem gIx.nat {i : Int32} {k n : Nat} (h : gIx i k n) : i.toNatClampNeg = k := by
  show i.toInt.toNat = k
  rw [h.1]
  rfl
theorem gIx_nI {k n : Nat} (h : k < n) (hn : n < 2 ^ 31) : gIx (nI k) k n := ⟨nI_toInt (by omega), h⟩
theorem g_iald (k : Nat) (X : CallFix p m c cc nL s args Ts own) (hK : va_K D vwCl (gtys cy) s) (hP : gP D cy B z T I R H) (ht : T a = (1, n)) {i : Int32} (h : gIx i k n) (hdg : decode cc pc = .ok (.iaload, 1)) {v : Int32} (hv : I a k = v)
    (kk : W p l e Rm s m args below meth c H locs cells slots Q (F0 m (pc + 1) ls (.int v :: rest))) : W p l e Rm s m args below meth c H locs cells slots Q (F0 m pc ls (.int i :: .ref a :: rest)) := by
  refine va_iald X.1 X.2.1 hK (hP.at (gE_int ht)) 0 0 rfl rfl h.vp hdg ?_
  rw [h.nat, hv]
  exact kk
theorem g_cald (k : Nat) (X : CallFix p m c cc nL s args Ts own) (hK : va_K D vwCl (gtys cy) s) (hP : gP D cy B z T I R H) (ht : T a = (2, n)) {i : Int32} (h : gIx i k n) (hdg : decode cc pc = .ok (.caload, 1)) {v : Int32} (hv : I a k = v)
    (kk : W p l e Rm s m args below meth c H locs cells slots Q (F0 m (pc + 1) ls (.int v :: rest))) : W p l e Rm s m args below meth c H locs cells slots Q (F0 m pc ls (.int i :: .ref a :: rest)) := by
  refine va_cald X.1 X.2.1 hK (hP.at (gE_char ht)) 0 1 rfl rfl h.vp hdg ?_
  rw [h.nat, hv]
  exact kk
theorem g_zald (k : Nat) (X : CallFix p m c cc nL s args Ts own) (hK : va_K D vwCl (gtys cy) s) (hP : gP D cy B z T I R H) (ht : T a = (3, n)) {i : Int32} (h : gIx i k n) (hdg : decode cc pc = .ok (.baload, 1)) {v : Int32} (hv : I a k = v)
    (kk : W p l e Rm s m args below meth c H locs cells slots Q (F0 m (pc + 1) ls (.int v :: rest))) : W p l e Rm s m args below meth c H locs cells slots Q (F0 m pc ls (.int i :: .ref a :: rest)) := by
  refine va_zald X.1 X.2.1 hK (hP.at (gE_bool ht)) 0 2 rfl rfl h.vp hdg ?_
  rw [h.nat, hv]
  exact kk
theorem g_iast (k : Nat) (X : CallFix p m c cc nL s args Ts own) (hK : va_K D vwCl (gtys cy) s) (hP : gP D cy B z T I R H) (hS : va_S (gA B) H0 H locs) (ht : T a = (1, n)) {i x : Int32} (h : gIx i k n) (hdg : decode cc pc = .ok (.iastore, 1))
    (kk : ∀ (H1 : Heap) (locs1 : List Loc), gP D cy B z T (g2 I a k x) R H1 → va_S (gA B) H0 H1 locs1 → W p l e Rm s m args below meth c H1 locs1 cells slots Q (F0 m (pc + 1) ls rest)) : W p l e Rm s m args below meth c H locs cells slots Q (F0 m pc ls (.int x :: .int i :: .ref a :: rest)) := by
  have hc0 := hP.2.2.2 a _ (gE_int ht)
  have ht9 : (gtys cy)[0]? = some (cy 0, .int) := rfl
  refine W.iast X.1 X.2.1 hc0 ((hK.2 0 _ ht9).1 n (fun j => .int (I a j))) (fun q => by cases q) (by show ¬ (i < 0 ∨ (arrV _ _ _).slots.size ≤ _); rw [arrV_size]; exact h.vp) rfl rfl hdg fun H1 e z oq => ?_
  refine kk H1 _ (hP.put z oq (fun _ hb => g2_row hb) (fun _ _ => rfl) (gE_int ht) ?_) (hS.put z oq (hP.2.2.1 a (by rw [ht]; exact Nat.succ_ne_zero _)))
  show H1[a]? = some (vp_cell _ _)
  rw [e, h.nat]
  rw [vp_cell_i, vp_cell_i, arrV_store]
  congr 2
  funext q
  by_cases hq : q = k
  · subst hq
    simp [updV, g2]
    try rfl
  · simp [updV, g2, hq]
theorem g_cast (k : Nat) (X : CallFix p m c cc nL s args Ts own) (hK : va_K D vwCl (gtys cy) s) (hP : gP D cy B z T I R H) (hS : va_S (gA B) H0 H locs) (ht : T a = (2, n)) {i x : Int32} (h : gIx i k n) (hdg : decode cc pc = .ok (.castore, 1))
    (kk : ∀ (H1 : Heap) (locs1 : List Loc), gP D cy B z T (g2 I a k (vp_nar .char x)) R H1 → va_S (gA B) H0 H1 locs1 → W p l e Rm s m args below meth c H1 locs1 cells slots Q (F0 m (pc + 1) ls rest)) : W p l e Rm s m args below meth c H locs cells slots Q (F0 m pc ls (.int x :: .int i :: .ref a :: rest)) := by
  have hc0 := hP.2.2.2 a _ (gE_char ht)
  have ht9 : (gtys cy)[1]? = some (cy 1, .char) := rfl
  refine W.cast X.1 X.2.1 hc0 ((hK.2 1 _ ht9).1 n (fun j => .int (I a j))) (fun q => by cases q) (by show ¬ (i < 0 ∨ (arrV _ _ _).slots.size ≤ _); rw [arrV_size]; exact h.vp) rfl rfl hdg fun H1 e z oq => ?_
  refine kk H1 _ (hP.put z oq (fun _ hb => g2_row hb) (fun _ _ => rfl) (gE_char ht) ?_) (hS.put z oq (hP.2.2.1 a (by rw [ht]; exact Nat.succ_ne_zero _)))
  show H1[a]? = some (vp_cell _ _)
  rw [e, h.nat]
  rw [vp_cell_i, vp_cell_i, arrV_store]
  congr 2
  funext q
  by_cases hq : q = k
  · subst hq
    simp [updV, g2, vp_nar]
    try rfl
  · simp [updV, g2, hq]
theorem g_zast (k : Nat) (X : CallFix p m c cc nL s args Ts own) (hK : va_K D vwCl (gtys cy) s) (hP : gP D cy B z T I R H) (hS : va_S (gA B) H0 H locs) (ht : T a = (3, n)) {i x : Int32} (h : gIx i k n) (hdg : decode cc pc = .ok (.bastore, 1))
    (kk : ∀ (H1 : Heap) (locs1 : List Loc), gP D cy B z T (g2 I a k (vp_nar .boolean x)) R H1 → va_S (gA B) H0 H1 locs1 → W p l e Rm s m args below meth c H1 locs1 cells slots Q (F0 m (pc + 1) ls rest)) : W p l e Rm s m args below meth c H locs cells slots Q (F0 m pc ls (.int x :: .int i :: .ref a :: rest)) := by
  have hc0 := hP.2.2.2 a _ (gE_bool ht)
  have ht9 : (gtys cy)[2]? = some (cy 2, .boolean) := rfl
  refine W.zast X.1 X.2.1 hc0 ((hK.2 2 _ ht9).1 n (fun j => .int (I a j))) (fun q => by cases q) (by show ¬ (i < 0 ∨ (arrV _ _ _).slots.size ≤ _); rw [arrV_size]; exact h.vp) rfl rfl hdg fun H1 e z oq => ?_
  refine kk H1 _ (hP.put z oq (fun _ hb => g2_row hb) (fun _ _ => rfl) (gE_bool ht) ?_) (hS.put z oq (hP.2.2.1 a (by rw [ht]; exact Nat.succ_ne_zero _)))
  show H1[a]? = some (vp_cell _ _)
  rw [e, h.nat]
  rw [vp_cell_i, vp_cell_i, arrV_store]
  congr 2
  funext q
  by_cases hq : q = k
  · subst hq
    simp [updV, g2, vp_nar]
    try rfl
  · simp [updV, g2, hq]
theorem g_maald (k : Nat) (X : CallFix p m c cc nL s args Ts own) (hK : va_K D vwCl (gtys cy) s) (hP : gP D cy B z T I R H) (ht : T a = (4, n)) {i : Int32} (h : gIx i k n) (hdg : decode cc pc = .ok (.aaload, 1)) {v : Value} (hv : va_rf (R a k) = v)
    (kk : W p l e Rm s m args below meth c H locs cells slots Q (F0 m (pc + 1) ls (v :: rest))) : W p l e Rm s m args below meth c H locs cells slots Q (F0 m pc ls (.int i :: .ref a :: rest)) := by
  refine va_aldq X.1 X.2.1 hK (hP.at (gE_man ht)) 0 3 rfl rfl h.vp hdg ?_
  rw [h.nat, hv]
  exact kk
theorem g_taald (k : Nat) (X : CallFix p m c cc nL s args Ts own) (hK : va_K D vwCl (gtys cy) s) (hP : gP D cy B z T I R H) (ht : T a = (5, n)) {i : Int32} (h : gIx i k n) (hdg : decode cc pc = .ok (.aaload, 1)) {v : Value} (hv : va_rf (R a k) = v)
    (kk : W p l e Rm s m args below meth c H locs cells slots Q (F0 m (pc + 1) ls (v :: rest))) : W p l e Rm s m args below meth c H locs cells slots Q (F0 m pc ls (.int i :: .ref a :: rest)) := by
  refine va_aldq X.1 X.2.1 hK (hP.at (gE_trip ht)) 0 4 rfl rfl h.vp hdg ?_
  rw [h.nat, hv]
  exact kk
theorem g_oaald (k : Nat) (X : CallFix p m c cc nL s args Ts own) (hK : va_K D vwCl (gtys cy) s) (hP : gP D cy B z T I R H) (ht : T a = (6, n)) {i : Int32} (h : gIx i k n) (hdg : decode cc pc = .ok (.aaload, 1)) {v : Value} (hv : va_rf (R a k) = v)
    (kk : W p l e Rm s m args below meth c H locs cells slots Q (F0 m (pc + 1) ls (v :: rest))) : W p l e Rm s m args below meth c H locs cells slots Q (F0 m pc ls (.int i :: .ref a :: rest)) := by
  refine va_aldq X.1 X.2.1 hK (hP.at (gE_objs ht)) 0 5 rfl rfl h.vp hdg ?_
  rw [h.nat, hv]
  exact kk
theorem g_2aald (k : Nat) (X : CallFix p m c cc nL s args Ts own) (hK : va_K D vwCl (gtys cy) s) (hP : gP D cy B z T I R H) (ht : T a = (7, n)) {i : Int32} (h : gIx i k n) (hdg : decode cc pc = .ok (.aaload, 1)) {v : Value} (hv : va_rf (R a k) = v)
    (kk : W p l e Rm s m args below meth c H locs cells slots Q (F0 m (pc + 1) ls (v :: rest))) : W p l e Rm s m args below meth c H locs cells slots Q (F0 m pc ls (.int i :: .ref a :: rest)) := by
  have hlt : i.toNatClampNeg < n := by rw [h.nat]; exact h.2
  have ht9 : (gtys cy)[6]? = some (cy 6, .array .int) := rfl
  refine W.aald (v := va_rf (R a i.toNatClampNeg)) (ty := .array .int) X.1 X.2.1 (hP.2.2.2 a _ (gE_ints2 ht)) ((hK.2 6 _ ht9).1 n (fun j => va_rf (R a j))) rfl (fun q => by cases q) (by show ¬ (i < 0 ∨ (arrV _ _ _).slots.size ≤ _); rw [arrV_size]; exact h.vp) (by show (arrV _ _ _).slots[_]? = _; rw [arrV_read _ _ hlt]) rfl rfl hdg ?_
  rw [h.nat, hv]
  exact kk
theorem g_alen (X : CallFix p m c cc nL s args Ts own) (hK : va_K D vwCl (gtys cy) s) (hP : gP D cy B z T I R H) {k : Nat} (ht : T a = (k, n)) (hk : 0 < k) (hk8 : k < 8) {v : Int32} (hv : Int32.ofNat n = v) (hdg : decode cc pc = .ok (.arraylength, 1))
    (kk : W p l e Rm s m args below meth c H locs cells slots Q (F0 m (pc + 1) ls (.int v :: rest))) : W p l e Rm s m args below meth c H locs cells slots Q (F0 m pc ls (.ref a :: rest)) := by
  rcases (show k = 1 ∨ k = 2 ∨ k = 3 ∨ k = 4 ∨ k = 5 ∨ k = 6 ∨ k = 7 by omega) with rfl | rfl | rfl | rfl | rfl | rfl | rfl
  · exact va_alen (ty := .int) X.1 X.2.1 hK (hP.at (gE_int ht)) 0 0 rfl rfl hv hdg kk
  · exact va_alen (ty := .char) X.1 X.2.1 hK (hP.at (gE_char ht)) 0 1 rfl rfl hv hdg kk
  · exact va_alen (ty := .boolean) X.1 X.2.1 hK (hP.at (gE_bool ht)) 0 2 rfl rfl hv hdg kk
  · exact va_alen (ty := .object "BarrowPlank$Man") X.1 X.2.1 hK (hP.at (gE_man ht)) 0 3 rfl rfl hv hdg kk
  · exact va_alen (ty := .object "BarrowPlank$Trip") X.1 X.2.1 hK (hP.at (gE_trip ht)) 0 4 rfl rfl hv hdg kk
  · exact va_alen (ty := .object "java/lang/Object") X.1 X.2.1 hK (hP.at (gE_objs ht)) 0 5 rfl rfl hv hdg kk
  · exact va_alen (ty := .array .int) X.1 X.2.1 hK (hP.at (gE_ints2 ht)) 0 6 rfl rfl hv hdg kk
/-- a row set to one value -/
def gr {α : Type} (I : Nat → Nat → α) (a : Nat) (f : Nat → α) : Nat → Nat → α := fun b i => if b = a then f i else I b i
theorem gr_row {α : Type} {I : Nat → Nat → α} {a b : Nat} {f : Nat → α} (h : b ≠ a) : gr I a f b = I b := by funext i; simp [gr, h]
theorem gr_at {α : Type} {I : Nat → Nat → α} {a : Nat} {f : Nat → α} : gr I a f a = f := by funext i; simp [gr]
theorem g_new (k : Nat) (X : CallFix p m c cc nL s args Ts own) (hK : va_K D vwCl (gtys cy) s) (hP : gP D cy B z T I R H) (hS : va_S (gA B) H0 H locs) {C : String} {Tt : u_T} {N : Nat} (hc : vwCl[k]? = some (C, Tt, N)) (hin : ∀ w ∈ u_ws C Tt N, w ∈ Ts) (ty0 : Nat → FieldType) (hty : ∀ k, k < N → parseFieldDescriptor (Tt k).2.2.1 = some (ty0 k)) {index : Nat} (hcl : Cond.classLink own index C ∈ Ts) (hinst : Cond.instantiable C N ∈ Ts) (hini : Cond.initialized C ∈ Ts) (hd : ∀ j, j < N → defaultValue (ty0 j) = vp_V (gF k (fun _ => 0) (fun _ => none)) j) (hcells : cells + 1 ≤ Rm.cells) (hslots : slots + N ≤ Rm.slots) (hdg : decode cc pc = .ok (.new index, 3))
    (kk : ∀ (H1 : Heap), gP D cy B (z + 1) (g1 T z (k + 8, 0)) (gr I z (fun _ => 0)) (gr R z (fun _ => none)) H1 → va_S (gA B) H0 H1 locs → W p l e Rm s m args below meth c H1 locs (cells + 1) (slots + N) Q (F0 m (pc + 3) ls (.ref z :: rest))) : W p l e Rm s m args below meth c H locs cells slots Q (F0 m pc ls rest) := by
  obtain ⟨hx, hb, hml, hown, hts⟩ := X
  have hKn := hK.1 k _ hc
  refine W.newcK hx hb hown (hts _ hcl) (hts _ hinst) (hts _ hini) rfl hdg hcells hslots hKn.2.1 hP.1 fun H1 kC hkC e1 z1 o1 => ?_
  refine kk H1 (hP.push (by rw [z1, hP.1]) (fun q hq => o1 q (by rw [← hP.1]; exact hq)) (fun _ h => g1_ne h) (fun _ h => gr_row h) (fun _ h => gr_row h) (gE_obj g1_same) ⟨_, hc, ?_⟩) (gS_push (n := 1) hS (by rw [z1, hP.1]) (fun q hq => o1 q (by rw [← hP.1]; exact hq)))
  show t_OB z (D.1 k) N (D.2 k) H1 (vp_V (gF k (gr I z (fun _ => 0) z) (gr R z (fun _ => none) z)))
  rw [gr_at, gr_at]
  exact (u_born ty0 hts hin hKn hkC e1 hty).to hd
theorem g_newarr {k t0 : Nat} {ty : FieldType} (X : CallFix p m c cc nL s args Ts own) (hK : va_K D vwCl (gtys cy) s) (hP : gP D cy B z T I R H) (hS : va_S (gA B) H0 H locs) {atype : ArrayType} (harr : Cond.arrayClass (newarray.typeOf atype) ∈ Ts) (hty : newarray.typeOf atype = ty) (ht0 : (gtys cy)[t0]? = some (cy t0, ty)) {N : Nat} {i : Int32} (hE : ∀ (T : Nat → Nat × Nat) (I : Nat → Nat → Int32) (R : Nat → Nat → Option Nat) (a : Nat), T a = (k, N) → gE cy T I R a = some (.inl (cy t0, N, .inl (I a)))) (hdef : defaultValue ty = .int 0) (hi : i.toInt = (N : Int)) (hbytes : N * componentBytes ty ≤ 536870912) (hcells : cells + 1 ≤ Rm.cells) (hslots : slots + N ≤ Rm.slots) (hdg : decode cc pc = .ok (.newarray atype, 2))
    (kk : ∀ (H1 : Heap), gP D cy B (z + 1) (g1 T z (k, N)) (gr I z (fun _ => 0)) (gr R z (fun _ => none)) H1 → va_S (gA B) H0 H1 locs → W p l e Rm s m args below meth c H1 locs (cells + 1) (slots + N) Q (F0 m (pc + 2) ls (.ref z :: rest))) : W p l e Rm s m args below meth c H locs cells slots Q (F0 m pc ls (.int i :: rest)) := by
  obtain ⟨hx, hb, hml, hown, hts⟩ := X
  subst hty
  have hi0 : ¬ i < 0 := fun h => by
    have h2 : i.toInt < (0 : Int32).toInt := Int32.lt_iff_toInt_lt.mp h
    rw [hi] at h2
    exact absurd h2 (by simp)
  have hiN : i.toNatClampNeg = N := by show i.toInt.toNat = N; rw [hi]; rfl
  refine va_newaK hx hb (hts _ harr) rfl hdg rfl hi0 hiN hbytes hcells hslots hP.1 fun H1 cA e1 z1 o1 hAr hNm => ?_
  have hcA : cA = cy t0 := by
    have h1 := (hK.2 t0 _ ht0).2
    have h2 : s.vm.findClass ("[" ++ (newarray.typeOf atype).toString) = some (cy t0) := by cases atype <;> exact h1
    exact Option.some.inj (hNm.symm.trans h2)
  refine kk H1 (hP.push (by rw [z1, hP.1]) (fun q hq => o1 q (by rw [← hP.1]; exact hq)) (fun _ h => g1_ne h) (fun _ h => gr_row h) (fun _ h => gr_row h) (hE _ _ _ _ g1_same) ?_) (gS_push (n := 1) hS (by rw [z1, hP.1]) (fun q hq => o1 q (by rw [← hP.1]; exact hq)))
  show H1[z]? = some (vp_cell _ _)
  rw [e1, hcA, vp_cell_i, gr_at, hdef]
theorem g_anew {k t0 : Nat} {C : String} (X : CallFix p m c cc nL s args Ts own) (hK : va_K D vwCl (gtys cy) s) (hP : gP D cy B z T I R H) (hS : va_S (gA B) H0 H locs) {index : Nat} (hclink : Cond.classLink own index C ∈ Ts) (hover : Cond.arrayOver (.object C) ∈ Ts) (ht0 : (gtys cy)[t0]? = some (cy t0, .object C)) {N : Nat} {i : Int32} (hE : ∀ (T : Nat → Nat × Nat) (I : Nat → Nat → Int32) (R : Nat → Nat → Option Nat) (a : Nat), T a = (k, N) → gE cy T I R a = some (.inl (cy t0, N, .inr (.inr (.inr (.inr (R a))))))) (hi : i.toInt = (N : Int)) (hbytes : N * 4 ≤ 536870912) (hcells : cells + 1 ≤ Rm.cells) (hslots : slots + N ≤ Rm.slots) (hdg : decode cc pc = .ok (.anewarray index, 3))
    (kk : ∀ (H1 : Heap), gP D cy B (z + 1) (g1 T z (k, N)) (gr I z (fun _ => 0)) (gr R z (fun _ => none)) H1 → va_S (gA B) H0 H1 locs → W p l e Rm s m args below meth c H1 locs (cells + 1) (slots + N) Q (F0 m (pc + 3) ls (.ref z :: rest))) : W p l e Rm s m args below meth c H locs cells slots Q (F0 m pc ls (.int i :: rest)) := by
  obtain ⟨hx, hb, hml, hown, hts⟩ := X
  have hi0 : ¬ i < 0 := fun h => by
    have h2 : i.toInt < (0 : Int32).toInt := Int32.lt_iff_toInt_lt.mp h
    rw [hi] at h2
    exact absurd h2 (by simp)
  have hiN : i.toNatClampNeg = N := by show i.toInt.toNat = N; rw [hi]; rfl
  subst hiN
  have hover2 : va_AO C s := va_AO.of (hts _ hover)
  refine W.anew hx hb hown (hts _ hclink) (va_AO.use hover2) rfl hdg rfl hi0 hbytes hcells hslots fun cA kA comp f1 f2 f3 f4 => ?_
  generalize hH1 : H.push ({ cls := cA, slots := Array.replicate i.toNatClampNeg .null, vm := .none } : Cell) = H1
  have z1 : H1.size = H.size + 1 := by rw [← hH1, Array.size_push]
  have e1 : H1[H.size]? = some (arrV cA i.toNatClampNeg (fun _ => .null)) := by rw [← hH1, Array.getElem?_push_size, ← arrV_new]
  have o1 : ∀ q : Nat, q < H.size → H1[q]? = H[q]? := fun q hq => by rw [← hH1, Array.getElem?_push, if_neg (Nat.ne_of_lt hq)]
  obtain ⟨kA9, comp9, r1, r2, r3, r4⟩ := (hK.2 t0 _ ht0).2
  have hcA : cA = cy t0 := Option.some.inj (f1.symm.trans r4)
  have hz : H.size = z := hP.1
  rw [hz]
  refine kk H1 (hP.push z1 o1 (fun _ h => g1_ne h) (fun _ h => gr_row h) (fun _ h => gr_row h) (hE _ _ _ _ g1_same) ?_) (gS_push (n := 1) hS z1 o1)
  show H1[z]? = some (vp_cell _ _)
  rw [← hz, e1, hcA, vp_cell_q, hz, gr_at]
  rfl
end GR
/-- what is left from the law's start s0: the tables, and every cell below B -/
def gCst (s0 : State) (B : Nat) (U : State) : Prop := s0.WarmedH U.vm ∧ B ≤ s0.heap.size ∧ ∀ a : Nat, a < B → U.heap[a]? = s0.heap[a]?
abbrev gSt : Type := Nat × (Nat → Nat × Nat) × (Nat → Nat → Int32) × (Nat → Nat → Option Nat)
def gW1 (D : va_G) (cy : Nat → ClassId) (B : Nat) (x : gSt) (U : State) : Prop := gP D cy B x.1 x.2.1 x.2.2.1 x.2.2.2 U.heap ∧ va_K D vwCl (gtys cy) U
def gW0 (s0 : State) (D : va_G) (cy : Nat → ClassId) (B : Nat) (x : gSt) (U : State) : Prop := gW1 D cy B x U ∧ gCst s0 B U
theorem gCst.step {s0 s U : State} {B : Nat} {H : Heap} {locs : List Loc} (h : gCst s0 B s) (hB : B ≤ s.heap.size) (hW : s.WarmedH U.vm) (hU : U.heap = H) (hS : va_S (gA B) s.heap H locs) : gCst s0 B U :=
  ⟨State.WarmedH.trans h.1 hW, h.2.1, fun a ha => by rw [hU, hS.2.1 a (Nat.lt_of_lt_of_le ha hB) (Nat.not_le.mpr ha)]; exact h.2.2 a ha⟩
theorem gW0_blind {s0 : State} {D : va_G} {cy : Nat → ClassId} {B : Nat} {x : gSt} {av : List Value} : FrameBlind (va_Pc av (gW0 s0 D cy B x)) := fun a U g mk q => by
  obtain ⟨q0, ⟨qP, qK⟩, q1, q2, q3⟩ := q
  exact ⟨q0, ⟨qP, va_K.moved (u := U) (U := U.calling g mk a) (Vm.Alike.refl U.vm) qK⟩, q1, q2, q3⟩
section GC
variable {p : Program} {l : Launch} {e : Env} {Rm : Room} {s : State} {m : MethodId} {args : Array Value} {below : List Frame} {meth : Method} {c : Code} {H : Heap} {locs : List Loc} {cells slots : Nat} {Q : State → Prop}
variable {cc : ByteArray} {nL : Nat} {Ts : List Cond} {own : String} {pc : Nat} {ls : Array Slot} {rest : List Value} {D : va_G} {cy : Nat → ClassId} {B z : Nat} {T : Nat → Nat × Nat} {I : Nat → Nat → Int32} {R : Nat → Nat → Option Nat} {s0 : State}
/-- a method's contract out of a walk of its body -/
theorem g_met {y : MethodName} {ws ws' : List Cond} {rm : Room} {x : gSt} {av : List Value} {Qc : Array Value → State → Outcome → State → Prop} {mc ms : Nat} {maxL : Nat} {ret : Option FieldType} (hy : plainName y.cls = true) (hw : ws = Cond.code y cc maxL ret :: ws') (hlen : (lg_sl av).length ≤ maxL)
    (body : ∀ (p : Program) (e : Env) (s : State) (m : MethodId) (args : Array Value) (below : List Frame) (meth : Method) (c : Code) (ls : Array Slot), CallFix p m c cc maxL s args ws y.cls → meth.sig.returnType = ret → meth.locks = false → meth.name = y.name → va_K D vwCl (gtys cy) s → gP D cy B x.1 x.2.1 x.2.2.1 x.2.2.2 s.heap → gCst s0 B s → va_S (gA B) s.heap s.heap [] → lv_has ls maxL (lv_args 0 av) →
      W p l e rm s m args below meth c s.heap [] 0 0 (MQ below Qc args s mc ms (gA B)) (F0 m 0 ls [])) : Met l y ws rm (va_Pc av (gW0 s0 D cy B x)) Qc mc ms (gA B) := by
  refine Met.ofW (cc := cc) (maxL := maxL) (ret := ret) hy hw ?_
  intro p e s m args below meth c s₁ Bd hml hv
  obtain ⟨rfl, ⟨hP, hK⟩, hC⟩ := hv
  have hl := lv_entry av (n := maxL) hlen
  rw [lg_entry_eq]
  exact body p e s m _ below meth c _ ⟨Bd.exec, Bd.bytes, hml, findClass_of_methodNamed Bd.named, atoms_spec (ws := ws) Bd.pre⟩ Bd.returns Bd.notSynchronized (name_of_methodNamed Bd.named Bd.method).1 hK hP hC va_S.rf hl
theorem g_pre {av : List Value} (hK : va_K D vwCl (gtys cy) s) (hP : gP D cy B z T I R H) (hS : va_S (gA B) s.heap H locs) (hC : gCst s0 B s) (hB : B ≤ s.heap.size) : ∀ U : State, U.heap = H → s.WarmedH U.vm → va_Pc av (gW0 s0 D cy B (z, T, I, R)) av.toArray U := fun U hU hW =>
  ⟨rfl, ⟨by show gP D cy B z T I R U.heap; rw [hU]; exact hP, va_K.moved hW.alike hK⟩, hC.step hB hW hU hS⟩
theorem g_run_i {S : Type} {post : Int32 → S → Prop} {f : S → gSt} {st0 : List Value} {a : Array Value} {mc ms : Nat} (hr : va_Run p l e Rm s m args below meth c H locs cells slots mc ms (F0 m pc ls st0) rest (va_Qi post (fun u t => gW1 D cy B (f u) t) (gA B) a) (gA B)) (hS : va_S (gA B) s.heap H locs)
    (kk : ∀ (r : Int32) (u : S) (H1 : Heap) (locs1 : List Loc), post r u → gP D cy B (f u).1 (f u).2.1 (f u).2.2.1 (f u).2.2.2 H1 → va_S (gA B) s.heap H1 locs1 → W p l e Rm s m args below meth c H1 locs1 (cells + mc) (slots + ms) Q (F0 m (pc + 3) ls (.int r :: rest))) : W p l e Rm s m args below meth c H locs cells slots Q (F0 m pc ls st0) :=
  va_calli hr hS (fun q _ h => h) (fun q h => h) (fun r u t H1 locs1 ht hvm hw hB hz1 hk1 hS1 => kk r u H1 locs1 hw (by have h1 := hB.1; rw [ht] at h1; exact h1) hS1)
theorem g_run_l {S : Type} {post : Int64 → S → Prop} {f : S → gSt} {st0 : List Value} {a : Array Value} {mc ms : Nat} (hr : va_Run p l e Rm s m args below meth c H locs cells slots mc ms (F0 m pc ls st0) rest (va_Ql post (fun u t => gW1 D cy B (f u) t) (gA B) a) (gA B)) (hS : va_S (gA B) s.heap H locs)
    (kk : ∀ (r : Int64) (u : S) (H1 : Heap) (locs1 : List Loc), post r u → gP D cy B (f u).1 (f u).2.1 (f u).2.2.1 (f u).2.2.2 H1 → va_S (gA B) s.heap H1 locs1 → W p l e Rm s m args below meth c H1 locs1 (cells + mc) (slots + ms) Q (F0 m (pc + 3) ls (.long r :: rest))) : W p l e Rm s m args below meth c H locs cells slots Q (F0 m pc ls st0) :=
  va_calll hr hS (fun q _ h => h) (fun q h => h) (fun r u t H1 locs1 ht hvm hw hB hz1 hk1 hS1 => kk r u H1 locs1 hw (by have h1 := hB.1; rw [ht] at h1; exact h1) hS1)
theorem g_run_v {S : Type} {post : S → Prop} {f : S → gSt} {st0 : List Value} {a : Array Value} {mc ms : Nat} (hr : va_Run p l e Rm s m args below meth c H locs cells slots mc ms (F0 m pc ls st0) rest (va_Qv post (fun u t => gW1 D cy B (f u) t) (gA B) a) (gA B)) (hS : va_S (gA B) s.heap H locs)
    (kk : ∀ (u : S) (H1 : Heap) (locs1 : List Loc), post u → gP D cy B (f u).1 (f u).2.1 (f u).2.2.1 (f u).2.2.2 H1 → va_S (gA B) s.heap H1 locs1 → W p l e Rm s m args below meth c H1 locs1 (cells + mc) (slots + ms) Q (F0 m (pc + 3) ls rest)) : W p l e Rm s m args below meth c H locs cells slots Q (F0 m pc ls st0) :=
  va_callv hr hS (fun q _ h => h) (fun q h => h) (fun u t H1 locs1 ht hvm hw hB hz1 hk1 hS1 => kk u H1 locs1 hw (by have h1 := hB.1; rw [ht] at h1; exact h1) hS1)
/-- an answer that is a reference or null, by va_Qq -/
theorem g_run_q {S : Type} {post : Option Nat → S → Prop} {f : S → gSt} {st0 : List Value} {a : Array Value} {mc ms : Nat} (hr : va_Run p l e Rm s m args below meth c H locs cells slots mc ms (F0 m pc ls st0) rest (va_Qq post (fun u t => gW1 D cy B (f u) t) (gA B) a) (gA B)) (hS : va_S (gA B) s.heap H locs)
    (kk : ∀ (r : Option Nat) (u : S) (H1 : Heap) (locs1 : List Loc), post r u → gP D cy B (f u).1 (f u).2.1 (f u).2.2.1 (f u).2.2.2 H1 → va_S (gA B) s.heap H1 locs1 → W p l e Rm s m args below meth c H1 locs1 (cells + mc) (slots + ms) Q (F0 m (pc + 3) ls (va_rf r :: rest))) : W p l e Rm s m args below meth c H locs cells slots Q (F0 m pc ls st0) := by
  intro T0 hT X
  obtain ⟨v, st₀, t, T', L, h0, X', hL, e1, e2, ⟨⟨r, u, hv, hp, hb⟩, hz, hk⟩, st⟩ := hr T0 hT X
  cases hv
  rw [h0] at hz hk
  have hgp : gP D cy B (f u).1 (f u).2.1 (f u).2.2.1 (f u).2.2.2 T'.heap := by have h1 := hb.1; rw [← e1] at h1; exact h1
  obtain ⟨t2, a1, b1⟩ := kk r u T'.heap (locs ++ L) hp hgp
    ⟨Nat.le_trans hS.1 (by rw [e1]; exact hz), fun q h1 h2 => by rw [e1, hk q (Nat.lt_of_lt_of_le h1 hS.1) h2]; exact hS.2.1 q h1 h2, fun q hq => by
      rcases List.mem_append.mp hq with h | h
      · exact hS.2.2 q h
      · exact hL q h⟩ T' rfl X'
  exact ⟨t2, st t2 a1, b1⟩
theorem g_recv {k n b : Nat} {C : String} {Tt : u_T} {N : Nat} (hK : va_K D vwCl (gtys cy) s) (hP : gP D cy B z T I R H) (ht : T b = (k + 8, n)) (hc : vwCl[k]? = some (C, Tt, N)) : ∃ cell : Cell, H[b]? = some cell ∧ cell.vm.isStatics = false ∧ s.vm.findClass C = some cell.cls := va_recv hK (hP.at (gE_obj ht)) hc (q0 := 0) rfl
/-- the call of an instance method of the class of the cell itself -/
theorem g_runV {y : MethodName} {bytes : ByteArray} {maxL mc ms index : Nat} {ret : Option FieldType} {ws : List Cond} {rm : Room} {Qc : Array Value → State → Outcome → State → Prop} {C : String} {b k n : Nat} {Tt : u_T} {N : Nat} (As : List Value) {nA : Nat} (X : CallFix p m c cc nL s args Ts own) (hK : va_K D vwCl (gtys cy) s) (hP : gP D cy B z T I R H) (hS : va_S (gA B) s.heap H locs) (hC : gCst s0 B s) (hB : B ≤ s.heap.size) (hM : Met l y ws rm (va_Pc (.ref b :: As) (gW0 s0 D cy B (z, T, I, R))) Qc mc ms (gA B)) (cw : CallW Rm s args own C index y bytes maxL ret ws rm mc ms nA) (ht : T b = (k + 8, n)) (hc : vwCl[k]? = some (C, Tt, N)) (hn : As.length = nA) (hl : ls.size = nL) {st0 : List Value} (hst : st0 = As.reverse ++ .ref b :: rest) (hW : (rest.map fun v => v.category).sum ≤ 8) (hdg : decode cc pc = .ok (.invokevirtual index, 3)) (hf : cells + mc ≤ Rm.cells ∧ slots + ms ≤ Rm.slots) :
    va_Run p l e Rm s m args below meth c H locs cells slots mc ms (F0 m pc ls st0) rest (Qc (Value.ref b :: As).toArray) (gA B) :=
  va_runV (As := As) (rest := rest) X hM cw ⟨gW0_blind, g_recv hK hP ht hc, g_pre hK hP hS hC hB⟩ rfl hn hl hst (lv_room hW) hdg hf
theorem g_runS {y : MethodName} {bytes : ByteArray} {maxL mc ms index : Nat} {ret : Option FieldType} {ws : List Cond} {rm : Room} {Qc : Array Value → State → Outcome → State → Prop} (As : List Value) {nA : Nat} (X : CallFix p m c cc nL s args Ts own) (hK : va_K D vwCl (gtys cy) s) (hP : gP D cy B z T I R H) (hS : va_S (gA B) s.heap H locs) (hC : gCst s0 B s) (hB : B ≤ s.heap.size) (hM : Met l y ws rm (va_Pc As (gW0 s0 D cy B (z, T, I, R))) Qc mc ms (gA B)) (cw : CallB Rm s args own index y bytes maxL ret ws rm mc ms nA ∧ (Cond.static y).before args s = true) (hn : As.length = nA) (hl : ls.size = nL) {st0 : List Value} (hst : st0 = As.reverse ++ rest) (hW : (rest.map fun v => v.category).sum ≤ 8) (hdg : decode cc pc = .ok (.invokestatic index, 3)) (hf : cells + mc ≤ Rm.cells ∧ slots + ms ≤ Rm.slots) :
    va_Run p l e Rm s m args below meth c H locs cells slots mc ms (F0 m pc ls st0) rest (Qc As.toArray) (gA B) :=
  va_runS (As := As) (rest := rest) X hM cw ⟨gW0_blind, g_pre hK hP hS hC hB⟩ rfl hn hl hst (lv_room hW) hdg hf
theorem g_runI {y : MethodName} {bytes : ByteArray} {maxL mc ms index : Nat} {ws : List Cond} {rm : Room} {Qc : Array Value → State → Outcome → State → Prop} {b : Nat} (As : List Value) {nA : Nat} (X : CallFix p m c cc nL s args Ts own) (hK : va_K D vwCl (gtys cy) s) (hP : gP D cy B z T I R H) (hS : va_S (gA B) s.heap H locs) (hC : gCst s0 B s) (hB : B ≤ s.heap.size) (hM : Met l y ws rm (va_Pc (.ref b :: As) (gW0 s0 D cy B (z, T, I, R))) Qc mc ms (gA B)) (cw : CallB Rm s args own index y bytes maxL none ws rm mc ms nA ∧ y.name = "<init>" ∧ (Cond.instanceMethod y).before args s = true) (hn : As.length = nA) (hl : ls.size = nL) {st0 : List Value} (hst : st0 = As.reverse ++ .ref b :: rest) (hW : (rest.map fun v => v.category).sum ≤ 8) (hdg : decode cc pc = .ok (.invokespecial index, 3)) (hf : cells + mc ≤ Rm.cells ∧ slots + ms ≤ Rm.slots) :
    va_Run p l e Rm s m args below meth c H locs cells slots mc ms (F0 m pc ls st0) rest (Qc (Value.ref b :: As).toArray) (gA B) :=
  va_runI (As := As) (rest := rest) X hM cw ⟨gW0_blind, g_pre hK hP hS hC hB⟩ rfl hn hl hst (lv_room hW) hdg hf
theorem g_iret {S : Type} {post : Int32 → S → Prop} {f : S → gSt} {v : Int32} (u : S) (X : CallFix p m c cc nL s args Ts own) (hr : meth.sig.returnType = some .int) (hlk : meth.locks = false) (hK : va_K D vwCl (gtys cy) s) (hP : gP D cy B (f u).1 (f u).2.1 (f u).2.2.1 (f u).2.2.2 H) (hS : va_S (gA B) s.heap H locs) (hdg : decode cc pc = .ok (.ireturn, 1)) (hp : post v u) : W p l e Rm s m args below meth c H locs cells slots (MQ below (va_Qi post (fun u t => gW1 D cy B (f u) t) (gA B)) args s cells slots (gA B)) (F0 m pc ls [.int v]) :=
  W.iret (v := v) X.1 X.2.1 hr (fun t ht hW => ⟨⟨v, u, rfl, hp, by rw [ht]; exact hP, va_K.moved hW.alike hK⟩, hS.F ht⟩) hS.2.2 hdg hlk
theorem g_zret {S : Type} {post : Int32 → S → Prop} {f : S → gSt} {v : Int32} (u : S) (X : CallFix p m c cc nL s args Ts own) (hr : meth.sig.returnType = some .boolean) (hlk : meth.locks = false) (hK : va_K D vwCl (gtys cy) s) (hP : gP D cy B (f u).1 (f u).2.1 (f u).2.2.1 (f u).2.2.2 H) (hS : va_S (gA B) s.heap H locs) (hdg : decode cc pc = .ok (.ireturn, 1)) (hn : narrow .boolean (.int v) = .int v) (hp : post v u) : W p l e Rm s m args below meth c H locs cells slots (MQ below (va_Qi post (fun u t => gW1 D cy B (f u) t) (gA B)) args s cells slots (gA B)) (F0 m pc ls [.int v]) :=
  W.zret (v := v) X.1 X.2.1 hr hn (fun t ht hW => ⟨⟨v, u, rfl, hp, by rw [ht]; exact hP, va_K.moved hW.alike hK⟩, hS.F ht⟩) hS.2.2 hdg hlk
theorem g_lret {S : Type} {post : Int64 → S → Prop} {f : S → gSt} {v : Int64} (u : S) (X : CallFix p m c cc nL s args Ts own) (hr : meth.sig.returnType = some .long) (hlk : meth.locks = false) (hK : va_K D vwCl (gtys cy) s) (hP : gP D cy B (f u).1 (f u).2.1 (f u).2.2.1 (f u).2.2.2 H) (hS : va_S (gA B) s.heap H locs) (hdg : decode cc pc = .ok (.lreturn, 1)) (hp : post v u) : W p l e Rm s m args below meth c H locs cells slots (MQ below (va_Ql post (fun u t => gW1 D cy B (f u) t) (gA B)) args s cells slots (gA B)) (F0 m pc ls [.long v]) :=
  W.lret (v := v) X.1 X.2.1 hr (fun t ht hW => ⟨⟨v, u, rfl, hp, by rw [ht]; exact hP, va_K.moved hW.alike hK⟩, hS.F ht⟩) hS.2.2 hdg hlk
theorem g_vret {S : Type} {post : S → Prop} {f : S → gSt} (u : S) (X : CallFix p m c cc nL s args Ts own) (hr : meth.sig.returnType = none) (hlk : meth.locks = false) (hK : va_K D vwCl (gtys cy) s) (hP : gP D cy B (f u).1 (f u).2.1 (f u).2.2.1 (f u).2.2.2 H) (hS : va_S (gA B) s.heap H locs) (hdg : decode cc pc = .ok (.return_, 1)) (hp : post u) : W p l e Rm s m args below meth c H locs cells slots (MQ below (va_Qv post (fun u t => gW1 D cy B (f u) t) (gA B)) args s cells slots (gA B)) (F0 m pc ls []) :=
  W.vret X.1 X.2.1 hr (fun t ht hW => ⟨⟨u, rfl, hp, by rw [ht]; exact hP, va_K.moved hW.alike hK⟩, hS.F ht⟩) hS.2.2 hdg hlk
theorem g_aret {S : Type} {post : Option Nat → S → Prop} {f : S → gSt} {v : Value} {rt : FieldType} (r : Option Nat) (u : S) (X : CallFix p m c cc nL s args Ts own) (hr : meth.sig.returnType = some rt) (hrt : (∃ n, rt = .object n) ∨ ∃ t, rt = .array t) (hlk : meth.locks = false) (hK : va_K D vwCl (gtys cy) s) (hP : gP D cy B (f u).1 (f u).2.1 (f u).2.2.1 (f u).2.2.2 H) (hS : va_S (gA B) s.heap H locs) (hdg : decode cc pc = .ok (.areturn, 1)) (hv : va_rf r = v) (hp : post r u) : W p l e Rm s m args below meth c H locs cells slots (MQ below (va_Qq post (fun u t => gW1 D cy B (f u) t) (gA B)) args s cells slots (gA B)) (F0 m pc ls [v]) :=
  W.aret (v := v) X.1 X.2.1 hr hrt (by cases r with | none => exact Or.inl hv.symm | some a => exact Or.inr ⟨a, hv.symm⟩) (fun t ht hW => ⟨⟨r, u, by rw [hv], hp, by rw [ht]; exact hP, va_K.moved hW.alike hK⟩, hS.F ht⟩) hS.2.2 hdg hlk
end GC
