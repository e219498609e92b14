/-! The cache of small Integers, ArrayList's empty array, the list's interface words; the list at lc holds tr. -/
def gBx (s0 : State) (B : Nat) (ad : Nat → Nat) (C E : Nat) : Prop :=
  va_Z "java/lang/Integer$IntegerCache" "high" "I" (.int 127) (gA B) s0 s0.heap ∧ va_Z "java/lang/Integer$IntegerCache" "cache" "[Ljava/lang/Integer;" (.ref C) (gA B) s0 s0.heap ∧ va_T (.object "java/lang/Integer") C 256 (fun k => .ref (ad k)) (gA B) s0 s0.heap ∧ vb_C ad (gA B) s0 s0.heap ∧
  va_Z "java/util/ArrayList" "DEFAULTCAPACITY_EMPTY_ELEMENTDATA" "[Ljava/lang/Object;" (.ref E) (gA B) s0 s0.heap ∧ va_T (.object "java/lang/Object") E 0 (fun _ => .null) (gA B) s0 s0.heap ∧ va_Nw (.castable "java/lang/Integer" "java/lang/Object") s0 ∧
  va_Fw RJx4a65c ⟨"java/util/List", "size", "()I"⟩ yJx4a65c_size_8abf5 s0 ∧ va_Fw RJx4a65c ⟨"java/util/List", "add", "(Ljava/lang/Object;)Z"⟩ yJx4a65c_add_9ea2d s0
theorem gBx.now {s0 s : State} {B : Nat} {ad : Nat → Nat} {C E : Nat} (hC : gCst s0 B s) (h : gBx s0 B ad C E) : gBx s B ad C E := by
  obtain ⟨h1, h2, h3, h4, h5, h6, h7, h8, h9⟩ := h
  have al := hC.1.alike
  have kp := gC_kept hC
  exact ⟨(va_Z.moved al h1).kept kp, (va_Z.moved al h2).kept kp, (va_T.moved al h3).kept kp, (vb_C.moved al h4).kept kp, (va_Z.moved al h5).kept kp, (va_T.moved al h6).kept kp, va_Nw.warmC hC.1 h7, va_Fw.moved (by decide) al h8, va_Fw.moved (by decide) al h9⟩
section BX
variable {p : Program} {l : Launch} {e : Env} {Rm : Room} {s : State} {m : MethodId} {args : Array Value} {below : List Frame} {meth : Method} {c : Code} {H : Heap} {locs : List Loc} {cells slots : Nat} {Q : State → Prop}
variable {cc : ByteArray} {nL : Nat} {Ts : List Cond} {own : String} {pc : Nat} {ls : Array Slot} {rest : List Value} {D : va_G} {cy : Nat → ClassId} {B z : Nat} {T : Nat → Nat × Nat} {I : Nat → Nat → Int32} {R : Nat → Nat → Option Nat} {s0 : State}
theorem g_run5_i {S : Type} {post : Int32 → S → Prop} {f : S → gSt} {st0 : List Value} {a : Array Value} {mc ms : Nat} (hr : va_Run5 p l e Rm s m args below meth c H locs cells slots mc ms (F0 m pc ls st0) rest (va_Qi post (fun u t => gW1 D cy B (f u) t) (gA B) a) (gA B)) (hS : va_S (gA B) s.heap H locs)
    (kk : ∀ (r : Int32) (u : S) (H1 : Heap) (locs1 : List Loc), post r u → gP D cy B (f u).1 (f u).2.1 (f u).2.2.1 (f u).2.2.2 H1 → va_S (gA B) s.heap H1 locs1 → W p l e Rm s m args below meth c H1 locs1 (cells + mc) (slots + ms) Q (F0 m (pc + 5) ls (.int r :: rest))) : W p l e Rm s m args below meth c H locs cells slots Q (F0 m pc ls st0) := by
  intro T0 hT X
  obtain ⟨v, st₀, t, T', L, h0, X', hL, e1, e2, ⟨⟨r, u, hv, hp, hb⟩, hz, hk⟩, st⟩ := hr T0 hT X
  cases hv
  rw [h0] at hz hk
  have hgp : gP D cy B (f u).1 (f u).2.1 (f u).2.2.1 (f u).2.2.2 T'.heap := by have h1 := hb.1; rw [← e1] at h1; exact h1
  obtain ⟨t2, a1, b1⟩ := kk r u T'.heap (locs ++ L) hp hgp
    ⟨Nat.le_trans hS.1 (by rw [e1]; exact hz), fun q h1 h2 => by rw [e1, hk q (Nat.lt_of_lt_of_le h1 hS.1) h2]; exact hS.2.1 q h1 h2, fun q hq => by
      rcases List.mem_append.mp hq with h | h
      · exact hS.2.2 q h
      · exact hL q h⟩ T' rfl X'
  exact ⟨t2, st t2 a1, b1⟩
theorem g_runF {x y : MethodName} {bytes : ByteArray} {maxL mc ms index count : Nat} {ret : Option FieldType} {ws : List Cond} {rm : Room} {Qc : Array Value → State → Outcome → State → Prop} {C : String} {b k n : Nat} {Tt : u_T} {N : Nat} (As : List Value) {nA : Nat} (X : CallFix p m c cc nL s args Ts own) (hK : va_K D vwCl (gtys cy) s) (hP : gP D cy B z T I R H) (hS : va_S (gA B) s.heap H locs) (hC : gCst s0 B s) (hB : B ≤ s.heap.size) (hM : Met l y ws rm (va_Pc (.ref b :: As) (gW0 s0 D cy B (z, T, I, R))) Qc mc ms (gA B)) (cw : va_CI Rm s args own C index x y bytes maxL ret ws rm mc ms nA) (ht : T b = (k + 8, n)) (hc : vwCl[k]? = some (C, Tt, N)) (hn : As.length = nA) (hl : ls.size = nL) {st0 : List Value} (hst : st0 = As.reverse ++ .ref b :: rest) (hW : (rest.map fun v => v.category).sum ≤ 8) (hdg : decode cc pc = .ok (.invokeinterface index count, 5)) (hf : cells + mc ≤ Rm.cells ∧ slots + ms ≤ Rm.slots) :
    va_Run5 p l e Rm s m args below meth c H locs cells slots mc ms (F0 m pc ls st0) rest (Qc (Value.ref b :: As).toArray) (gA B) :=
  va_runF (hK.1 k _ hc).2 X hM cw ⟨gW0_blind, g_recv hK hP ht hc, g_pre hK hP hS hC hB⟩ rfl hn hl hst (lv_room hW) hdg hf
/-- a cached Integer may lie in an Object[] -/
theorem g_anyI {ad : Nat → Nat} {C E k : Nat} (hS : va_S (gA B) s.heap H locs) (h : gBx s B ad C E) (hk : k < 256) : va_Any "java/lang/Object" s H (ad k) := by
  obtain ⟨cell, h1, h2, h3, -⟩ := (h.2.2.2.1.1 k hk).kept hS.2.1
  obtain ⟨kC, hkC, -⟩ := Vm.findClass_spec h3
  exact ⟨cell, h1, h2, ⟨kC, hkC⟩, fun comp hc => vb_asgC h.2.2.2.2.2.2.1 comp cell.cls hc h3⟩
section AN
variable {H0 : Heap}
theorem g_anewO {k t0 : Nat} {C : String} (X : CallFix p m c cc nL s args Ts own) (hK : va_K D vwCl (gtys cy) s) (hP : gP D cy B z T I R H) (hS : va_S (gA B) H0 H locs) {index : Nat} (hclink : Cond.classLink own index C ∈ Ts) (hover2 : va_AO C s) (ht0 : (gtys cy)[t0]? = some (cy t0, .object C)) {N : Nat} {i : Int32} (hE : ∀ (T : Nat → Nat × Nat) (I : Nat → Nat → Int32) (R : Nat → Nat → Option Nat) (a : Nat), T a = (k, N) → gE cy T I R a = some (.inl (cy t0, N, .inr (.inr (.inr (.inr (R a))))))) (hi : i.toInt = (N : Int)) (hbytes : N * 4 ≤ 536870912) (hcells : cells + 1 ≤ Rm.cells) (hslots : slots + N ≤ Rm.slots) (hdg : decode cc pc = .ok (.anewarray index, 3))
    (kk : ∀ (H1 : Heap), gP D cy B (z + 1) (g1 T z (k, N)) (gr I z (fun _ => 0)) (gr R z (fun _ => none)) H1 → va_S (gA B) H0 H1 locs → W p l e Rm s m args below meth c H1 locs (cells + 1) (slots + N) Q (F0 m (pc + 3) ls (.ref z :: rest))) : W p l e Rm s m args below meth c H locs cells slots Q (F0 m pc ls (.int i :: rest)) := by
  obtain ⟨hx, hb, hml, hown, hts⟩ := X
  have hi0 : ¬ i < 0 := fun h => by
    have h2 : i.toInt < (0 : Int32).toInt := Int32.lt_iff_toInt_lt.mp h
    rw [hi] at h2
    exact absurd h2 (by simp)
  have hiN : i.toNatClampNeg = N := by show i.toInt.toNat = N; rw [hi]; rfl
  subst hiN
  refine W.anew hx hb hown (hts _ hclink) (va_AO.use hover2) rfl hdg rfl hi0 hbytes hcells hslots fun cA kA comp f1 f2 f3 f4 => ?_
  generalize hH1 : H.push ({ cls := cA, slots := Array.replicate i.toNatClampNeg .null, vm := .none } : Cell) = H1
  have z1 : H1.size = H.size + 1 := by rw [← hH1, Array.size_push]
  have e1 : H1[H.size]? = some (arrV cA i.toNatClampNeg (fun _ => .null)) := by rw [← hH1, Array.getElem?_push_size, ← arrV_new]
  have o1 : ∀ q : Nat, q < H.size → H1[q]? = H[q]? := fun q hq => by rw [← hH1, Array.getElem?_push, if_neg (Nat.ne_of_lt hq)]
  obtain ⟨kA9, comp9, r1, r2, r3, r4⟩ := (hK.2 t0 _ ht0).2
  have hcA : cA = cy t0 := Option.some.inj (f1.symm.trans r4)
  have hz : H.size = z := hP.1
  rw [hz]
  refine kk H1 (hP.push z1 o1 (fun _ h => g1_ne h) (fun _ h => gr_row h) (fun _ h => gr_row h) (hE _ _ _ _ g1_same) ?_) (gS_push (n := 1) hS z1 o1)
  show H1[z]? = some (vp_cell _ _)
  rw [← hz, e1, hcA, vp_cell_q, hz, gr_at]
  rfl
end AN
/-- ways come together with a world of their own -/
theorem g_joinW {H0 : Heap} (Pd : Int32 → Nat → (Nat → Nat × Nat) → (Nat → Nat → Int32) → (Nat → Nat → Option Nat) → Prop) (C2 S2 : Nat) (join : Nat) {st0 : List Value}
    (k2 : (∀ (r : Int32) (z' : Nat) (T' : Nat → Nat × Nat) (I' : Nat → Nat → Int32) (R' : Nat → Nat → Option Nat) (H1 : Heap) (l1 : List Loc), Pd r z' T' I' R' → gP D cy B z' T' I' R' H1 → va_S (gA B) H0 H1 l1 → W p l e Rm s m args below meth c H1 l1 C2 S2 Q (F0 m join ls (.int r :: rest))) → W p l e Rm s m args below meth c H locs cells slots Q (F0 m pc ls st0))
    (k1 : ∀ (r : Int32) (z' : Nat) (T' : Nat → Nat × Nat) (I' : Nat → Nat → Int32) (R' : Nat → Nat → Option Nat) (H1 : Heap) (l1 : List Loc), Pd r z' T' I' R' → gP D cy B z' T' I' R' H1 → va_S (gA B) H0 H1 l1 → W p l e Rm s m args below meth c H1 l1 C2 S2 Q (F0 m join ls (.int r :: rest))) : W p l e Rm s m args below meth c H locs cells slots Q (F0 m pc ls st0) := k2 k1
end BX
/-- the list at lc holds tr; its array is E while nothing was ever added -/
def cLs (lc E : Nat) (ad : Nat → Nat) (T : Nat → Nat × Nat) (I : Nat → Nat → Int32) (R : Nat → Nat → Option Nat) (tr : List Nat) : Prop := T lc = (9, 0) ∧ I lc 2 = nI tr.length ∧ ((tr = [] ∧ R lc 1 = some E) ∨ ∃ el, R lc 1 = some el ∧ lc + 13 ≤ el ∧ T el = (6, 10) ∧ tr.length ≤ 10 ∧ ∀ i, i < tr.length → R el i = some (ad (tr.getD i 0 + 128)))
/-- the list alone has changed, and cells may have come -/
def gLf (lc z z' : Nat) (T T' : Nat → Nat × Nat) (I I' : Nat → Nat → Int32) (R R' : Nat → Nat → Option Nat) : Prop := z ≤ z' ∧ (∀ c, c < z → T' c = T c) ∧ (∀ c j, c < z → c ≠ lc → I' c j = I c j) ∧ (∀ c j, c < z → c ≠ lc → R lc 1 ≠ some c → R' c j = R c j) ∧ ∀ c, c < z → R' lc 1 = some c → R lc 1 = some c
theorem gLf.rf {lc z : Nat} {T : Nat → Nat × Nat} {I : Nat → Nat → Int32} {R : Nat → Nat → Option Nat} : gLf lc z z T T I I R R := ⟨Nat.le_refl _, fun _ _ => rfl, fun _ _ _ _ => rfl, fun _ _ _ _ _ => rfl, fun _ _ h => h⟩
theorem gLf.trs {lc z z' z'' : Nat} {T T' T'' : Nat → Nat × Nat} {I I' I'' : Nat → Nat → Int32} {R R' R'' : Nat → Nat → Option Nat} (h : gLf lc z z' T T' I I' R R') (g : gLf lc z' z'' T' T'' I' I'' R' R'') : gLf lc z z'' T T'' I I'' R R'' := by
  obtain ⟨h1, h2, h3, h4, h5⟩ := h
  obtain ⟨g1, g2, g3, g4, g5⟩ := g
  exact ⟨Nat.le_trans h1 g1, fun c hc => (g2 c (by omega)).trans (h2 c hc), fun c j hc hn => (g3 c j (by omega) hn).trans (h3 c j hc hn), fun c j hc hn hr => (g4 c j (by omega) hn (fun q => hr (h5 c hc q))).trans (h4 c j hc hn hr), fun c hc q => h5 c hc (g5 c (by omega) q)⟩
theorem bx_lo {v : Nat} (h : v ≤ 100) : ¬ nI v < -128 := fun g => by
  rw [Int32.lt_iff_toInt_lt, nI_toInt (by omega), show (-128 : Int32).toInt = -128 by decide] at g
  omega
theorem tr_get {tr : List Nat} {v i : Nat} (h : i < tr.length) : (tr ++ [v]).getD i 0 = tr.getD i 0 := by
  simp [List.getD_eq_getElem?_getD, List.getElem?_append_left h]
theorem tr_new {tr : List Nat} {v : Nat} : (tr ++ [v]).getD tr.length 0 = v := by simp
