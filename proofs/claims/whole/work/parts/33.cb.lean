/-! THE CLASS: its cells by T, I, R. A man's class by his KIND. -/
def mcl (κ : Nat) : Nat := [4, 2, 11, 8, 3, 9, 5].getD κ 4
def mws (κ : Nat) : List Cond := [wsX20, wsX00, wsX90, wsX60, wsX10, wsX70, wsX30].getD κ wsX20
theorem k7 {κ : Nat} (h : κ ≤ 6) : κ = 0 ∨ κ = 1 ∨ κ = 2 ∨ κ = 3 ∨ κ = 4 ∨ κ = 5 ∨ κ = 6 := by omega
theorem j4 {j : Nat} (h : j < 4) : j = 0 ∨ j = 1 ∨ j = 2 ∨ j = 3 := by omega
section CB
variable {p : Program} {l : Launch} {e : Env} {Rm : Room} {s : State} {m : MethodId} {args : Array Value} {below : List Frame} {meth : Method} {c : Code} {H : Heap} {locs : List Loc} {cells slots : Nat} {Q : State → Prop}
variable {cc : ByteArray} {nL : Nat} {Ts : List Cond} {own : String} {pc : Nat} {ls : Array Slot} {rest : List Value} {D : va_G} {cy : Nat → ClassId} {B z a n : Nat} {T : Nat → Nat × Nat} {I : Nat → Nat → Int32} {R : Nat → Nat → Option Nat} {H0 : Heap} {s0 : State}
/-- a man's field -/
theorem g_mget (j : Nat) (hj4 : j < 4) {κ : Nat} (hκ : κ ≤ 6) (X : CallFix p m c cc nL s args Ts own) (hK : va_K D vwCl (gtys cy) s) (hP : gP D cy B z T I R H) (ht : T a = (mcl κ + 8, n)) (hin : ∀ w ∈ mws κ, w ∈ Ts) {ref : String} {index : Nat} (hlink : Cond.fieldLink own index ref (TX2 j).2.1 "I" ∈ Ts) (hsame : ∀ x, s.fieldFound? "BarrowPlank$Man" (TX2 j).2.1 "I" = some x → s.fieldFound? ref (TX2 j).2.1 "I" = some x) (hdg : decode cc pc = .ok (.getfield index, 3)) {v : Int32} (hv : I a j = v)
    (kk : W p l e Rm s m args below meth c H locs cells slots Q (F0 m (pc + 3) ls (.int v :: rest))) : W p l e Rm s m args below meth c H locs cells slots Q (F0 m pc ls (.ref a :: rest)) := by
  rcases j4 hj4 with rfl | rfl | rfl | rfl
  · rcases k7 hκ with rfl | rfl | rfl | rfl | rfl | rfl | rfl <;> exact g_geti _ 0 X hK hP ht rfl hin rfl (by decide) hlink hsame hdg hv kk
  · rcases k7 hκ with rfl | rfl | rfl | rfl | rfl | rfl | rfl <;> exact g_geti _ 1 X hK hP ht rfl hin rfl (by decide) hlink hsame hdg hv kk
  · rcases k7 hκ with rfl | rfl | rfl | rfl | rfl | rfl | rfl <;> exact g_geti _ 2 X hK hP ht rfl hin rfl (by decide) hlink hsame hdg hv kk
  · rcases k7 hκ with rfl | rfl | rfl | rfl | rfl | rfl | rfl <;> exact g_geti _ 3 X hK hP ht rfl hin rfl (by decide) hlink hsame hdg hv kk
theorem g_join (join : Nat) (st1 : List Value) {st0 : List Value} (hP : gP D cy B z T I R H) (hS : va_S (gA B) H0 H locs)
    (k2 : (∀ (H1 : Heap) (l1 : List Loc), gP D cy B z T I R H1 → va_S (gA B) H0 H1 l1 → W p l e Rm s m args below meth c H1 l1 cells slots Q (F0 m join ls st1)) → W p l e Rm s m args below meth c H locs cells slots Q (F0 m pc ls st0))
    (k1 : ∀ (H1 : Heap) (l1 : List Loc), gP D cy B z T I R H1 → va_S (gA B) H0 H1 l1 → W p l e Rm s m args below meth c H1 l1 cells slots Q (F0 m join ls st1)) : W p l e Rm s m args below meth c H locs cells slots Q (F0 m pc ls st0) := k2 k1
/-- an overridden or an inherited method, by the cell's own class -/
theorem g_runU {x y : MethodName} {bytes : ByteArray} {maxL mc ms index : Nat} {ret : Option FieldType} {ws : List Cond} {rm : Room} {Qc : Array Value → State → Outcome → State → Prop} {C owner : String} {b k n : Nat} {Tt : u_T} {N : Nat} (As : List Value) {nA : Nat} (X : CallFix p m c cc nL s args Ts own) (hK : va_K D vwCl (gtys cy) s) (hP : gP D cy B z T I R H) (hS : va_S (gA B) s.heap H locs) (hC : gCst s0 B s) (hB : B ≤ s.heap.size) (hM : Met l y ws rm (va_Pc (.ref b :: As) (gW0 s0 D cy B (z, T, I, R))) Qc mc ms (gA B)) (cw : va_CU Rm s args own C owner index x y bytes maxL ret ws rm mc ms nA) (ht : T b = (k + 8, n)) (hc : vwCl[k]? = some (C, Tt, N)) (hn : As.length = nA) (hl : ls.size = nL) {st0 : List Value} (hst : st0 = As.reverse ++ .ref b :: rest) (hW : (rest.map fun v => v.category).sum ≤ 8) (hdg : decode cc pc = .ok (.invokevirtual index, 3)) (hf : cells + mc ≤ Rm.cells ∧ slots + ms ≤ Rm.slots) :
    va_Run p l e Rm s m args below meth c H locs cells slots mc ms (F0 m pc ls st0) rest (Qc (Value.ref b :: As).toArray) (gA B) :=
  va_runU (As := As) (rest := rest) X hM cw ⟨gW0_blind, g_recv hK hP ht hc, g_pre hK hP hS hC hB⟩ rfl hn hl hst (lv_room hW) hdg hf
end CB
theorem gs_at {M M1 : Nat → Nat → Int32} {k j b i : Nat} {v : Int32} (h : g2 M k j v = M1) (e1 : b = k) (e2 : i = j) : M1 b i = v := by rw [← h, e1, e2]; exact g2_same
theorem gs_atR {M M1 : Nat → Nat → Option Nat} {k j b i : Nat} {v : Option Nat} (h : g2 M k j v = M1) (e1 : b = k) (e2 : i = j) : M1 b i = v := by rw [← h, e1, e2]; exact g2_same
theorem gs_neR {M M1 : Nat → Nat → Option Nat} {k j b i : Nat} {v w : Option Nat} (h : g2 M k j v = M1) (hn : ¬ (b = k ∧ i = j)) (hw : M b i = w) : M1 b i = w := by
  rw [← h]
  show (if b = k ∧ i = j then v else M b i) = w
  rw [if_neg hn]
  exact hw
theorem gm_max {a b : Int32} {x y : Nat} (ha : a = nI x) (hb : b = nI y) (hx : x < 2 ^ 31) (hy : y < 2 ^ 31) : (if a < b then b else a) = nI (max x y) := by
  rw [ha, hb]
  by_cases h : x < y
  · rw [if_pos (nI_lt h hy), Nat.max_eq_right (by omega)]
  · rw [if_neg (nI_nlt (by omega) hx), Nat.max_eq_left (by omega)]
theorem gm_min {a b : Int32} {x y : Nat} (ha : a = nI x) (hb : b = nI y) (hx : x < 2 ^ 31) (hy : y < 2 ^ 31) : (if b < a then b else a) = nI (min x y) := by
  rw [ha, hb]
  by_cases h : y < x
  · rw [if_pos (nI_lt h hx), Nat.min_eq_right (by omega)]
  · rw [if_neg (nI_nlt (by omega) hy), Nat.min_eq_left (by omega)]
/-! what a man of the KIND κ, with v, adds -/
def hpF (κ v : Nat) : Nat := if κ = 1 ∨ κ = 4 then v else 0
def wtF (κ v : Nat) : Nat := if κ = 2 ∨ κ = 5 then v else 0
def drF (κ v t : Nat) : Nat := if (κ = 3 ∨ κ = 6) ∧ v < t then 1 else 0
def slF (κ v b : Nat) : Nat := if κ = 6 ∧ 0 < b ∧ b < v then 20 else 0
def spF (κ v y b : Nat) : Nat := if κ = 4 ∧ 0 < b then v else if κ = 5 ∧ y = v then 1 else 0
def tpF (κ v r b : Nat) : Nat := if κ = 6 ∧ 0 < b ∧ b < v then r / 2 else 0
theorem drF_3 {v t : Nat} : drF 3 v t = if v < t then 1 else 0 := by simp [drF]
theorem drF_6 {v t : Nat} : drF 6 v t = if v < t then 1 else 0 := by simp [drF]
theorem slF_6 {v b : Nat} : slF 6 v b = if 0 < b ∧ b < v then 20 else 0 := by simp [slF]
theorem tpF_6 {v r b : Nat} : tpF 6 v r b = if 0 < b ∧ b < v then r / 2 else 0 := by simp [tpF]
theorem spF_4 {v y b : Nat} : spF 4 v y b = if 0 < b then v else 0 := by simp [spF]
theorem spF_5 {v y b : Nat} : spF 5 v y b = if y = v then 1 else 0 := by simp [spF]
