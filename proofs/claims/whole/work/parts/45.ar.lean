/-! arrays of references, and copies of arrays, over T, I, R -/
def mnm (κ : Nat) : String := [RX2, RX0, RX9, RX6, RX1, RX7, RX3].getD κ RX2
/-- the row of I at a becomes f -/
theorem gE_row {cy : Nat → ClassId} {T : Nat → Nat × Nat} {I I' : Nat → Nat → Int32} {R : Nat → Nat → Option Nat} {a : Nat} : (∀ b, b ≠ a → I' b = I b) → ∀ b, b ≠ a → gE cy T I' R b = gE cy T I R b := fun h b hb => gE_cong rfl (h b hb) rfl
section AR
variable {p : Program} {l : Launch} {e : Env} {Rm : Room} {s : State} {m : MethodId} {args : Array Value} {below : List Frame} {meth : Method} {c : Code} {H : Heap} {locs : List Loc} {cells slots : Nat} {Q : State → Prop}
variable {cc : ByteArray} {nL : Nat} {Ts : List Cond} {own : String} {pc : Nat} {ls : Array Slot} {rest : List Value} {D : va_G} {cy : Nat → ClassId} {B z a n : Nat} {T : Nat → Nat × Nat} {I : Nat → Nat → Int32} {R : Nat → Nat → Option Nat} {H0 : Heap} {s0 : State}
theorem g_any {k b n2 : Nat} {C E : String} {Tt : u_T} {N : Nat} (hK : va_K D vwCl (gtys cy) s) (hP : gP D cy B z T I R H) (ht : T b = (k + 8, n2)) (hc : vwCl[k]? = some (C, Tt, N)) (hca : va_Nw (.castable C E) s) : va_Any E s H b :=
  va_rAny hK (hP.at (gE_obj ht)) (q0 := 0) rfl hc (vb_asgC hca)
theorem g_aast {kA t0 v : Nat} {E : String} (k : Nat) (X : CallFix p m c cc nL s args Ts own) (hK : va_K D vwCl (gtys cy) s) (hP : gP D cy B z T I R H) (hS : va_S (gA B) H0 H locs) (ht : T a = (kA + 1, n)) (hE : ∀ R : Nat → Nat → Option Nat, gE cy T I R a = some (.inl (cy t0, n, .inr (.inr (.inr (.inr (R a))))))) (ht0 : (gtys cy)[t0]? = some (cy t0, .object E)) (hr : va_Any E s H v) {i : Int32} (h : gIx i k n) (hdg : decode cc pc = .ok (.aastore, 1))
    (kk : ∀ (H1 : Heap) (locs1 : List Loc), gP D cy B z T I (g2 R a k (some v)) H1 → va_S (gA B) H0 H1 locs1 → W p l e Rm s m args below meth c H1 locs1 cells slots Q (F0 m (pc + 1) ls rest)) : W p l e Rm s m args below meth c H locs cells slots Q (F0 m pc ls (.ref v :: .int i :: .ref a :: rest)) := by
  have hlt : i.toNatClampNeg < n := by rw [h.nat]; exact h.2
  have h0 : ¬ i < 0 := fun q => h.vp (Or.inl q)
  obtain ⟨cellV, g1, g3, ⟨kC, hkC⟩, hasg⟩ := hr
  obtain ⟨kA', comp, k1, k2, k3, -⟩ := (hK.2 t0 _ ht0).2
  obtain ⟨kE, hkE, -⟩ := Vm.findClass_spec k3
  have hc0 : H[a]? = some (vp_cell (cy t0) (n, .inr (.inr (.inr (.inr (R a)))))) := hP.2.2.2 a _ (hE R)
  refine W.aast X.1 X.2.1 hc0 (fun q h => by cases h) (fun h => by cases h) k1 k2 rfl hkE ⟨h0, by show _ < (arrV _ _ _).slots.size; rw [arrV_size]; exact hlt⟩ g1 (fun q h => by rw [h] at g3; cases g3) hkC (hasg _ k3) rfl rfl hdg fun H1 e z oq => ?_
  refine kk H1 _ (hP.put z oq (fun _ _ => rfl) (fun _ hb => g2_row hb) (hE _) ?_) (hS.put z oq (hP.2.2.1 a (by rw [ht]; exact Nat.succ_ne_zero _)))
  show H1[a]? = some (vp_cell _ _)
  rw [e, h.nat, vp_cell_q, vp_cell_q, arrV_store]
  congr 2
  funext q
  by_cases hq : q = k
  · subst hq
    simp [updV, g2_same, va_rf]
  · simp [updV, g2_nj hq, hq]
theorem g_aastN {kA t0 : Nat} {E : String} (k : Nat) (X : CallFix p m c cc nL s args Ts own) (hK : va_K D vwCl (gtys cy) s) (hP : gP D cy B z T I R H) (hS : va_S (gA B) H0 H locs) (ht : T a = (kA + 1, n)) (hE : ∀ R : Nat → Nat → Option Nat, gE cy T I R a = some (.inl (cy t0, n, .inr (.inr (.inr (.inr (R a))))))) (ht0 : (gtys cy)[t0]? = some (cy t0, .object E)) {i : Int32} (h : gIx i k n) (hdg : decode cc pc = .ok (.aastore, 1))
    (kk : ∀ (H1 : Heap) (locs1 : List Loc), gP D cy B z T I (g2 R a k none) H1 → va_S (gA B) H0 H1 locs1 → W p l e Rm s m args below meth c H1 locs1 cells slots Q (F0 m (pc + 1) ls rest)) : W p l e Rm s m args below meth c H locs cells slots Q (F0 m pc ls (.null :: .int i :: .ref a :: rest)) := by
  have hc0 : H[a]? = some (vp_cell (cy t0) (n, .inr (.inr (.inr (.inr (R a)))))) := hP.2.2.2 a _ (hE R)
  refine va_WaastN (C := E) X.1 X.2.1 hc0 ((hK.2 t0 _ ht0).1 n (fun j => va_rf (R a j))) (fun h => by cases h) (by show ¬ (i < 0 ∨ (arrV _ _ _).slots.size ≤ _); rw [arrV_size]; exact h.vp) rfl rfl hdg fun H1 e z oq => ?_
  refine kk H1 _ (hP.put z oq (fun _ _ => rfl) (fun _ hb => g2_row hb) (hE _) ?_) (hS.put z oq (hP.2.2.1 a (by rw [ht]; exact Nat.succ_ne_zero _)))
  show H1[a]? = some (vp_cell _ _)
  rw [e, h.nat, vp_cell_q, vp_cell_q, arrV_store]
  congr 2
  funext q
  by_cases hq : q = k
  · subst hq
    simp [updV, g2_same, va_rf]
  · simp [updV, g2_nj hq, hq]
/-- arraycopy of numbers, from the start -/
def gcp (I : Nat → Nat → Int32) (a0 a n : Nat) : Nat → Nat → Int32 := fun b j => if b = a ∧ j < n then I a0 j else I b j
theorem gcp_at {a0 j : Nat} (h : j < n) : gcp I a0 a n a j = I a0 j := if_pos ⟨rfl, h⟩
theorem gcp_ne {a0 b j : Nat} (h : b ≠ a) : gcp I a0 a n b j = I b j := if_neg (fun q => h q.1)
theorem g_copy {kA t0 a0 n0 n1 : Nat} {ty : FieldType} (X : CallFix p m c cc nL s args Ts own) (hl : ls.size = nL) (hK : va_K D vwCl (gtys cy) s) (hP : gP D cy B z T I R H) (hS : va_S (gA B) H0 H locs) {index : Nat} (hlink : Cond.methodLink own index arraycopyName ∈ Ts) (hnat : Cond.native arraycopyName ∈ Ts) (hstat : Cond.static arraycopyName ∈ Ts) (hini : Cond.initialized "java/lang/System" ∈ Ts)
    (ht1 : T a = (kA + 1, n1)) (hE0 : gE cy T I R a0 = some (.inl (cy t0, n0, .inl (I a0)))) (hE1 : ∀ I : Nat → Nat → Int32, gE cy T I R a = some (.inl (cy t0, n1, .inl (I a)))) (ht0 : (gtys cy)[t0]? = some (cy t0, ty)) (hprim : refKind ty = false) {x : Int32} (hx : x = nI n) (hn : n < 2 ^ 31) (h0 : n ≤ n0) (h1 : n ≤ n1) (hfit : ∀ i, i < n → fits ty (.int (I a0 i)) = true)
    (hframes : 1 ≤ Rm.frames) (hlocals : (rest.map fun v => v.category).sum + (nativeFrameWords "java/lang/System" "arraycopy" 5 + 11) ≤ Rm.locals) (hdg : decode cc pc = .ok (.invokestatic index, 3))
    (kk : ∀ (H1 : Heap) (locs1 : List Loc), gP D cy B z T (gcp I a0 a n) R H1 → va_S (gA B) H0 H1 locs1 → W p l e Rm s m args below meth c H1 locs1 cells slots Q (F0 m (pc + 3) ls rest)) : W p l e Rm s m args below meth c H locs cells slots Q (F0 m pc ls (.int x :: .int 0 :: .ref a :: .int 0 :: .ref a0 :: rest)) := by
  obtain ⟨hex, hb, hml, hown, hts⟩ := X
  subst hx
  have hcl : (nI n).toNatClampNeg = n := nI_clamp hn
  have hti : (nI n).toInt = (n : Int) := nI_toInt hn
  intro T1 hT X1
  have hc0 : H[a0]? = some (vp_cell (cy t0) (n0, .inl (I a0))) := hP.2.2.2 a0 _ hE0
  have hc1 : H[a]? = some (vp_cell (cy t0) (n1, .inl (I a))) := hP.2.2.2 a _ (hE1 I)
  obtain ⟨-, k0, hk0, cm0, hkk0⟩ := (hK.2 t0 _ ht0).1 n0 (fun j => .int (I a0 j))
  obtain ⟨-, k1, hk1, cm1, hkk1⟩ := (hK.2 t0 _ ht0).1 n1 (fun j => .int (I a j))
  obtain ⟨vm', X', step⟩ := X1.arraycopy hex hown (hts _ hlink) (hts _ hnat) (hts _ hstat) (hts _ hini) (src := a0) (dst := a) (cs := vp_cell (cy t0) (n0, .inl (I a0))) (cd := vp_cell (cy t0) (n1, .inl (I a))) (srcPos := 0) (destPos := 0) (n := nI n) (by rw [hT]; exact hc0) (by rw [hT]; exact hc1)
    (fun _ h => by cases h) (fun _ h => by cases h) (fun h => by cases h) (fun h => by cases h) hk0 hk1 hkk0 hkk1 (by simp [hprim]) (by decide) (by decide) (nI_pos hn)
    (by rw [hti]; show ¬ _ > ((arrV (cy t0) n0 (fun j => .int (I a0 j))).slots.size : Int); rw [arrV_size, show (0 : Int32).toInt = 0 by decide]; omega)
    (by rw [hti]; show ¬ _ > ((arrV (cy t0) n1 (fun j => .int (I a j))).slots.size : Int); rw [arrV_size, show (0 : Int32).toInt = 0 by decide]; omega)
    (fun vm₁ _ i hi => by
      rw [hcl] at hi
      have e : (vp_cell (cy t0) (n0, .inl (I a0))).slots.getD ((0 : Int32).toNatClampNeg + i) .null = .int (I a0 i) := by
        show (arrV (cy t0) n0 (fun j => .int (I a0 j))).slots.getD _ _ = _
        rw [show (0 : Int32).toNatClampNeg = 0 by decide, Nat.zero_add, Array.getD_eq_getD_getElem?, arrV_read _ _ (by omega)]
        rfl
      refine ⟨?_, ?_⟩
      · rw [e]
        exact hfit i hi
      · rw [e]
        exact trivial)
    (g := F0 m pc ls (.int (nI n) :: .int 0 :: .ref a :: .int 0 :: .ref a0 :: rest)) rfl (by rw [hml]; exact hl) (rest := rest) rfl (by rw [hb]; exact hdg) hframes (by show 2 * 0 + _ + _ ≤ _; omega)
  have e1 : copied (vp_cell (cy t0) (n0, .inl (I a0))) (vp_cell (cy t0) (n1, .inl (I a))) 0 0 (nI n) = vp_cell (cy t0) (n1, .inl (gcp I a0 a n a)) := by
    have e2 := va_copied (fun z => Value.int z) (cy t0) (cy t0) (n0 := n0) (n1 := n1) (sp := 0) (dp := 0) (n := n) (I a0) (I a) (by omega)
    have e3 : va_cpy (I a0) (I a) 0 0 n = gcp I a0 a n a := by
      funext j
      unfold va_cpy gcp
      by_cases hj : j < n
      · rw [if_pos ⟨Nat.zero_le _, by omega⟩, if_pos ⟨rfl, hj⟩]
        congr 1
        omega
      · rw [if_neg (by omega), if_neg (fun q => hj q.2)]
    rw [← e3]
    show Cell.storeRun _ _ (Cell.stretch _ _ _) = _
    rw [hcl]
    exact e2
  rw [e1] at X' step
  have hl2 : a < H.size := (Array.getElem?_eq_some_iff.mp hc1).1
  have hheap : ((T1.setVm vm').setCell a (vp_cell (cy t0) (n1, .inl (gcp I a0 a n a)))).heap = H.setIfInBounds a (vp_cell (cy t0) (n1, .inl (gcp I a0 a n a))) := by rw [← hT]; rfl
  have oq : ∀ q : Nat, q ≠ a → (H.setIfInBounds a (vp_cell (cy t0) (n1, .inl (gcp I a0 a n a))))[q]? = H[q]? := fun q hq => by simp [Array.getElem?_setIfInBounds, Ne.symm hq]
  have hBa : gA B a := hP.2.2.1 a (by rw [ht1]; exact Nat.succ_ne_zero _)
  obtain ⟨t, a1, b1⟩ := kk _ _ (hP.put (I' := gcp I a0 a n) (R' := R) (by simp) oq (fun b hb => by funext j; exact gcp_ne hb) (fun _ _ => rfl) (hE1 _) (show (H.setIfInBounds a _)[a]? = some _ by simp [Array.getElem?_setIfInBounds, hl2])) ⟨by simp; exact hS.1, fun q g1 g2 => by
      rw [oq q (fun e => g2 (by rw [e]; exact hBa))]
      exact hS.2.1 q g1 g2, fun q hq => by
      rcases List.mem_append.mp hq with h | h
      · exact hS.2.2 q h
      · obtain ⟨z, -, hz⟩ := List.mem_map.mp h
        rw [← hz]
        exact hBa⟩ _ hheap X'
  exact ⟨t, step t a1, b1⟩
/-- a loop over I and R -/
theorem ir_loop (N head : Nat) (st : List Value) (Inv : Nat → (Nat → Nat → Int32) → (Nat → Nat → Option Nat) → Array Slot → Prop) (k0 : Nat) (h0 : k0 ≤ N) (hi : Inv k0 I R ls) (hP : gP D cy B z T I R H) (hS : va_S (gA B) H0 H locs)
    (step : ∀ (k : Nat) (I : Nat → Nat → Int32) (R : Nat → Nat → Option Nat) (H : Heap) (locs : List Loc) (ls : Array Slot), k ≤ N → Inv k I R ls → gP D cy B z T I R H → va_S (gA B) H0 H locs →
      (∀ (I' : Nat → Nat → Int32) (R' : Nat → Nat → Option Nat) (H' : Heap) (locs' : List Loc) (ls' : Array Slot), k + 1 ≤ N → Inv (k + 1) I' R' ls' → gP D cy B z T I' R' H' → va_S (gA B) H0 H' locs' → W p l e Rm s m args below meth c H' locs' cells slots Q (F0 m head ls' st)) →
      W p l e Rm s m args below meth c H locs cells slots Q (F0 m head ls st)) : W p l e Rm s m args below meth c H locs cells slots Q (F0 m head ls st) := by
  have main : ∀ (d k : Nat) (I : Nat → Nat → Int32) (R : Nat → Nat → Option Nat) (H : Heap) (locs : List Loc) (ls : Array Slot), k + d = N → Inv k I R ls → gP D cy B z T I R H → va_S (gA B) H0 H locs → W p l e Rm s m args below meth c H locs cells slots Q (F0 m head ls st) := by
    intro d
    induction d with
    | zero =>
      intro k I R H locs ls hk hi hP hS
      exact step k I R H locs ls (by omega) hi hP hS (fun _ _ _ _ _ h => absurd h (by omega))
    | succ d ih =>
      intro k I R H locs ls hk hi hP hS
      exact step k I R H locs ls (by omega) hi hP hS (fun I' R' H' l' ls' h1 h2 h3 h4 => ih (k + 1) I' R' H' l' ls' (by omega) h2 h3 h4)
  exact main (N - k0) k0 I R H locs ls (by omega) hi hP hS
end AR
