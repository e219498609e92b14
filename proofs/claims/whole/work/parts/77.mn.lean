/-! new int[3][10]: four cells -/
def mnT (T : Nat → Nat × Nat) (z : Nat) : Nat → Nat × Nat := fun c => if c = z then (7, 3) else if z < c ∧ c < z + 4 then (1, 10) else T c
def mnI (I : Nat → Nat → Int32) (z : Nat) : Nat → Nat → Int32 := fun c j => if z ≤ c ∧ c < z + 4 then 0 else I c j
def mnR (R : Nat → Nat → Option Nat) (z : Nat) : Nat → Nat → Option Nat := fun c j => if c = z then (if j < 3 then some (z + 1 + j) else none) else if z < c ∧ c < z + 4 then none else R c j
section MN
variable {p : Program} {l : Launch} {e : Env} {Rm : Room} {s : State} {m : MethodId} {args : Array Value} {below : List Frame} {meth : Method} {c : Code} {H : Heap} {locs : List Loc} {cells slots : Nat} {Q : State → Prop}
variable {cc : ByteArray} {nL : Nat} {Ts : List Cond} {own : String} {pc : Nat} {ls : Array Slot} {rest : List Value} {D : va_G} {cy : Nat → ClassId} {B z : Nat} {T : Nat → Nat × Nat} {I : Nat → Nat → Int32} {R : Nat → Nat → Option Nat} {H0 : Heap}
theorem mn_outer (cA : ClassId) (z : Nat) : Jvm.Free.Multi.outerC cA 3 z 3 = arrV cA 3 (fun j => va_rf (mnR R z z j)) := by
  have e : ∀ f g : Nat → Value, (∀ j, j < 3 → f j = g j) → arrV cA 3 f = arrV cA 3 g := fun f g h => by
    unfold arrV
    congr 1
    apply Array.ext
    · simp
    · intro i h1 h2
      simp only [Array.getElem_ofFn]
      exact h i (by simpa using h1)
  show (((({ cls := cA, slots := Array.replicate 3 .null, vm := .none } : Cell).setSlot 0 _).setSlot 1 _).setSlot 2 _) = _
  rw [arrV_new, arrV_store, arrV_store, arrV_store]
  apply e
  intro j hj
  rcases (show j = 0 ∨ j = 1 ∨ j = 2 by omega) with rfl | rfl | rfl <;> simp [updV, mnR, va_rf]
theorem g_mna (X : CallFix p m c cc nL s args Ts own) (hK : va_K D vwCl (gtys cy) s) (hP : gP D cy B z T I R H) (hS : va_S (gA B) H0 H locs) {index : Nat} (hclink : Cond.classLink own index "[[I" ∈ Ts) (hover : (Cond.arrayOver (.array .int)).before args s = true) (harr : Cond.arrayClass .int ∈ Ts) (hcells : cells + 4 ≤ Rm.cells) (hslots : slots + 33 ≤ Rm.slots) (hdg : decode cc pc = .ok (.multianewarray index 2, 4))
    (kk : ∀ (H1 : Heap), gP D cy B (z + 4) (mnT T z) (mnI I z) (mnR R z) H1 → va_S (gA B) H0 H1 locs → W p l e Rm s m args below meth c H1 locs (cells + 4) (slots + 33) Q (F0 m (pc + 4) ls (.ref z :: rest))) : W p l e Rm s m args below meth c H locs cells slots Q (F0 m pc ls (.int 10 :: .int 3 :: rest)) := by
  obtain ⟨hx, hb, hml, hown, hts⟩ := X
  intro U hU X
  have e3 : (3 : Int32).toNatClampNeg = 3 := by decide
  have e10 : (10 : Int32).toNatClampNeg = 10 := by decide
  obtain ⟨vm₁, cA, comp, hW, hfA, hfC, hO, hI, X1, st⟩ := X.multianewarray2F hx (ty := .int) hown (hts _ hclink) hover (hts _ harr) (g := F0 m pc ls (.int 10 :: .int 3 :: rest)) rfl (by rw [hb]; exact hdg) (n := 3) (k := 10) (rest := rest) rfl (by decide) (by decide) (by rw [e3]; decide) (by rw [e10]; decide) (by rw [e10]; decide) rfl rfl (by rw [e3]; omega) (by rw [e3, e10]; omega)
  rw [e3, e10] at X1 st
  have hz : U.heap.size = z := by rw [hU]; exact hP.1
  have hz2 : (U.setVm vm₁).heap.size = z := hz
  obtain ⟨f1, f2, -, -⟩ := Jvm.Free.Multi.fill_facts (U.setVm vm₁) cA comp 3 10 (defaultValue .int) 3
  have f3 := fun j hj => Jvm.Free.Multi.fill_inner (U.setVm vm₁) cA comp 3 10 (defaultValue .int) 3 j hj
  have f4 := fun (a : Nat) (ha : a < (U.setVm vm₁).heap.size) => Jvm.Free.Multi.fill_old (U.setVm vm₁) cA comp 3 10 (defaultValue .int) ha 3
  rw [hz2] at f1 f2 f3 f4
  have hcA : cA = cy 6 := Option.some.inj (hfA.symm.trans (hK.2 6 _ rfl).2)
  have hco : comp = cy 0 := Option.some.inj (hfC.symm.trans (hK.2 0 _ rfl).2)
  generalize hH1 : (Jvm.Free.Multi.fill (U.setVm vm₁) cA comp 3 10 (defaultValue .int) 3) = U1 at *
  have old : ∀ q : Nat, q < H.size → U1.heap[q]? = H[q]? := fun q hq => by
    rw [f4 q (by rw [← hP.1]; exact hq)]
    show U.heap[q]? = _
    rw [hU]
  have hgp : gP D cy B (z + 4) (mnT T z) (mnI I z) (mnR R z) U1.heap := by
    refine ⟨by rw [f1], by have := hP.2.1; omega, fun a ha => ?_, fun a x hx => ?_⟩
    · by_cases q : z ≤ a
      · exact Nat.le_trans hP.2.1 q
      · unfold mnT at ha
        rw [if_neg (by omega), if_neg (by omega)] at ha
        exact hP.2.2.1 a ha
    · by_cases q1 : a = z
      · subst q1
        rw [gE_ints2 (show mnT T a a = (7, 3) from if_pos rfl)] at hx
        cases hx
        show U1.heap[a]? = some (vp_cell _ _)
        rw [f2, hcA, mn_outer (R := R), vp_cell_q]
      · by_cases q2 : z < a ∧ a < z + 4
        · rw [gE_int (show mnT T z a = (1, 10) by unfold mnT; rw [if_neg q1, if_pos q2])] at hx
          cases hx
          show U1.heap[a]? = some (vp_cell _ _)
          have h9 := f3 (a - (z + 1)) (by omega)
          rw [show z + 1 + (a - (z + 1)) = a by omega] at h9
          rw [h9, hco]
          unfold Jvm.Free.Multi.innerC
          rw [arrV_new, vp_cell_i]
          have h8 : mnI I z a = fun _ => 0 := by
            funext j
            exact if_pos (by omega)
          rw [h8]
          rfl
        · have t1 : mnT T z a = T a := by unfold mnT; rw [if_neg q1, if_neg q2]
          have t2 : mnI I z a = I a := by
            by_cases q3 : z ≤ a ∧ a < z + 4
            · omega
            · funext j; unfold mnI; rw [if_neg q3]
          have t3 : mnR R z a = R a := by funext j; unfold mnR; rw [if_neg q1, if_neg q2]
          rw [gE_cong t1 t2 t3] at hx
          exact (hP.2.2.2 a x hx).kept (old a (by rw [hP.1]; exact hP.lt (gE_some hx)))
  obtain ⟨t, a1, b1⟩ := kk U1.heap hgp (gS_push (n := 4) hS (by rw [f1, hP.1]) old) U1 rfl (by rw [show cells + 4 = cells + 1 + 3 by omega, show slots + 33 = slots + 3 + 3 * 10 by omega]; exact X1)
  refine ⟨t, st t ?_, b1⟩
  rw [hz]
  exact a1
end MN
