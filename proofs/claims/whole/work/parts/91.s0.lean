/-! WHAT THE START GIVES: the tables' words and the premises, by their places. -/
section S0
variable {s : State} {b : Nat}
theorem s_w (hts : ∀ w ∈ lw_tbl, w.before #[Value.ref b] s = true) (i : Nat) {w : Cond} (h : tables_1[i]? = some w) : w.before #[Value.ref b] s = true := hts w (List.mem_append_right _ (List.mem_of_getElem? h))
theorem s_n (hgv : (Jvm.Cond.and given_1 narrow_1).before #[Value.ref b] s = true) (i : Nat) {w : Cond} (h : (flatC (Jvm.Cond.and given_1 narrow_1))[i]? = some w) : w.before #[Value.ref b] s = true := flat_of_before _ hgv w (List.mem_of_getElem? h)
theorem s_A : ∀ a : Nat, a < s.heap.size → ¬ gA s.heap.size a := fun a h g => absurd h (Nat.not_lt.mpr g)
theorem s_rf {C E : String} (h : (Cond.castable C E).before #[Value.ref b] s = true) : va_Nw (.castable C C) s := by
  obtain ⟨x, t1, f1, f2, f3⟩ := Cond.castable_spec h
  show (Cond.castable C C).before #[] s = true
  simp [Cond.before, Cond.holds, Cond.value, f1, va_asg]
theorem s_ca {C E : String} (h : (Cond.castable C E).before #[Value.ref b] s = true) : va_Nw (.castable C E) s := va_Nw.of rfl h
theorem s_over {ty : FieldType} (h : (Cond.arrayOver ty).before #[Value.ref b] s = true) (a' : Array Value) (U : State) (hW : s.WarmedH U.vm) : (Cond.arrayOver ty).before a' U = true := by
  have h1 : (Cond.arrayOver ty).before #[Value.ref b] (s.setVm U.vm) = true := by rw [Cond.arrayOver_setVmC hW.alike]; exact h
  first | exact h1 | simpa [Cond.before, Cond.holds, Cond.value] using h1
theorem s_nest {o : String} {i : Nat} {x : MethodName} {h0 : String} (h : (Cond.methodLinkNest o i x h0).before #[Value.ref b] s = true) (a' : Array Value) (U : State) (hW : s.WarmedH U.vm) : (Cond.methodLinkNest o i x h0).before a' U = true := va_Nw.use rfl (va_Nw.warmM hW (va_Nw.of rfl h))
/-- the premises of a String constant -/
def sLw (own : String) (k : Nat) (tx : List Nat) : List Cond := [.exactly (.string own k) "java/lang/String", .eq (.field (.string own k) "java/lang/String" "coder" "B") (.int 0), .arrayOf (.field (.string own k) "java/lang/String" "value" "[B") .byte, .eq (.length (.field (.string own k) "java/lang/String" "value" "[B")) (.int (Int32.ofNat tx.length))] ++ (List.range tx.length).map (fun j => .eq (.elem (.field (.string own k) "java/lang/String" "value" "[B") (.int (Int32.ofNat j))) (.int (nI (tx.getD j 0))))
theorem s_lit (hts : ∀ w ∈ lw_tbl, w.before #[Value.ref b] s = true) (hgv : (Jvm.Cond.and given_1 narrow_1).before #[Value.ref b] s = true) {own w : String} {k : Nat} {tx : List Nat} (i n kk : Nat) (hi : tables_1[i]? = some (.stringRef own k w)) (hn : ((flatC (Jvm.Cond.and given_1 narrow_1)).drop n).take kk = sLw own k tx) (hx : (0 < tx.length ∧ tx.length < 100) ∧ tx.all (fun v => decide (v < 128)) = true) : gLit s s.heap.size own k w tx := by
  have hm : ∀ c ∈ sLw own k tx, c.before #[Value.ref b] s = true := fun c h => flat_of_before _ hgv c (List.mem_of_mem_drop (List.mem_of_mem_take (by rw [hn]; exact h)))
  have hA := s_A (s := s)
  have h1 := hm _ (List.mem_append_left _ List.mem_cons_self)
  have h2 := hm _ (List.mem_append_left _ (List.mem_cons_of_mem _ List.mem_cons_self))
  have h3 := hm _ (List.mem_append_left _ (List.mem_cons_of_mem _ (List.mem_cons_of_mem _ List.mem_cons_self)))
  have h4 := hm _ (List.mem_append_left _ (List.mem_cons_of_mem _ (List.mem_cons_of_mem _ (List.mem_cons_of_mem _ List.mem_cons_self))))
  have h5 : ∀ j, j < tx.length → (Cond.eq (.elem (.field (.string own k) "java/lang/String" "value" "[B") (.int (Int32.ofNat j))) (.int (nI (tx.getD j 0)))).before #[Value.ref b] s = true := fun j hj => hm _ (List.mem_append_right _ (List.mem_map.mpr ⟨j, List.mem_range.mpr hj, rfl⟩))
  obtain ⟨a, c, cA, kA, q1, q2, q3, q4, q5, q6, -⟩ := Cond.exactly_spec (args := #[Value.ref b]) (first := s) (o := none) (s := s) (idx := []) (t := .string own k) (cls := "java/lang/String") h1
  obtain ⟨t, ht, hT⟩ := va_Tof (f := fun j => .int (nI (tx.getD j 0))) (A := gA s.heap.size) (N := tx.length) (by have := hx.1.2; omega) h3 (va_eqt h4) (fun j hj => va_eqt (h5 j hj)) hA
  refine ⟨a, t, vk_R.of (s_w hts i hi) q1, ⟨va_Oof h1 q1 hA, vk_OFof q1 (va_eqt h2) hA, vk_OFof q1 ht hA, hT⟩, hx.1, fun j => ?_⟩
  rw [List.getD_eq_getElem?_getD]
  cases e : tx[j]? with
  | none => exact Nat.zero_lt_succ _
  | some v => exact of_decide_eq_true (List.all_eq_true.mp hx.2 v (List.mem_of_getElem? e))
set_option maxRecDepth 100000 in
theorem s_lit_21 (hts : ∀ w ∈ lw_tbl, w.before #[Value.ref b] s = true) (hgv : (Jvm.Cond.and given_1 narrow_1).before #[Value.ref b] s = true) : gLit s s.heap.size RX5 99 "|" [124] := s_lit hts hgv 430 361 5 (by decide +kernel) (by decide +kernel) ⟨⟨by decide, by decide⟩, by decide⟩
set_option maxRecDepth 100000 in
theorem s_lit_20 (hts : ∀ w ∈ lw_tbl, w.before #[Value.ref b] s = true) (hgv : (Jvm.Cond.and given_1 narrow_1).before #[Value.ref b] s = true) : gLit s s.heap.size RX5 97 "&" [38] := s_lit hts hgv 429 344 5 (by decide +kernel) (by decide +kernel) ⟨⟨by decide, by decide⟩, by decide⟩
set_option maxRecDepth 100000 in
theorem s_lit_19 (hts : ∀ w ∈ lw_tbl, w.before #[Value.ref b] s = true) (hgv : (Jvm.Cond.and given_1 narrow_1).before #[Value.ref b] s = true) : gLit s s.heap.size RX5 85 "0123456789" [48, 49, 50, 51, 52, 53, 54, 55, 56, 57] := s_lit hts hgv 399 247 14 (by decide +kernel) (by decide +kernel) ⟨⟨by decide, by decide⟩, by decide⟩
set_option maxRecDepth 100000 in
theorem s_lit_18 (hts : ∀ w ∈ lw_tbl, w.before #[Value.ref b] s = true) (hgv : (Jvm.Cond.and given_1 narrow_1).before #[Value.ref b] s = true) : gLit s s.heap.size RX5 49 " " [32] := s_lit hts hgv 331 237 5 (by decide +kernel) (by decide +kernel) ⟨⟨by decide, by decide⟩, by decide⟩
set_option maxRecDepth 100000 in
theorem s_lit_17 (hts : ∀ w ∈ lw_tbl, w.before #[Value.ref b] s = true) (hgv : (Jvm.Cond.and given_1 narrow_1).before #[Value.ref b] s = true) : gLit s s.heap.size RX5 39 ";" [59] := s_lit hts hgv 435 379 5 (by decide +kernel) (by decide +kernel) ⟨⟨by decide, by decide⟩, by decide⟩
set_option maxRecDepth 100000 in
theorem s_lit_16 (hts : ∀ w ∈ lw_tbl, w.before #[Value.ref b] s = true) (hgv : (Jvm.Cond.and given_1 narrow_1).before #[Value.ref b] s = true) : gLit s s.heap.size RX5 112 "<=>" [60, 61, 62] := s_lit hts hgv 423 326 7 (by decide +kernel) (by decide +kernel) ⟨⟨by decide, by decide⟩, by decide⟩
set_option maxRecDepth 100000 in
theorem s_lit_15 (hts : ∀ w ∈ lw_tbl, w.before #[Value.ref b] s = true) (hgv : (Jvm.Cond.and given_1 narrow_1).before #[Value.ref b] s = true) : gLit s s.heap.size RX5 110 "ysublk" [121, 115, 117, 98, 108, 107] := s_lit hts hgv 422 306 10 (by decide +kernel) (by decide +kernel) ⟨⟨by decide, by decide⟩, by decide⟩
set_option maxRecDepth 100000 in
theorem s_lit_14 (hts : ∀ w ∈ lw_tbl, w.before #[Value.ref b] s = true) (hgv : (Jvm.Cond.and given_1 narrow_1).before #[Value.ref b] s = true) : gLit s s.heap.size RX5 105 ")" [41] := s_lit hts hgv 417 292 5 (by decide +kernel) (by decide +kernel) ⟨⟨by decide, by decide⟩, by decide⟩
set_option maxRecDepth 100000 in
theorem s_lit_13 (hts : ∀ w ∈ lw_tbl, w.before #[Value.ref b] s = true) (hgv : (Jvm.Cond.and given_1 narrow_1).before #[Value.ref b] s = true) : gLit s s.heap.size RX5 103 "(" [40] := s_lit hts hgv 416 279 5 (by decide +kernel) (by decide +kernel) ⟨⟨by decide, by decide⟩, by decide⟩
set_option maxRecDepth 100000 in
theorem s_lit_12 (hts : ∀ w ∈ lw_tbl, w.before #[Value.ref b] s = true) (hgv : (Jvm.Cond.and given_1 narrow_1).before #[Value.ref b] s = true) : gLit s s.heap.size RX5 101 "!" [33] := s_lit hts hgv 411 267 5 (by decide +kernel) (by decide +kernel) ⟨⟨by decide, by decide⟩, by decide⟩
set_option maxRecDepth 100000 in
theorem s_lit_11 (hts : ∀ w ∈ lw_tbl, w.before #[Value.ref b] s = true) (hgv : (Jvm.Cond.and given_1 narrow_1).before #[Value.ref b] s = true) : gLit s s.heap.size RX4 38 "shovel" [115, 104, 111, 118, 101, 108] := s_lit hts hgv 275 223 10 (by decide +kernel) (by decide +kernel) ⟨⟨by decide, by decide⟩, by decide⟩
set_option maxRecDepth 100000 in
theorem s_lit_10 (hts : ∀ w ∈ lw_tbl, w.before #[Value.ref b] s = true) (hgv : (Jvm.Cond.and given_1 narrow_1).before #[Value.ref b] s = true) : gLit s s.heap.size RX4 37 "tire" [116, 105, 114, 101] := s_lit hts hgv 274 212 8 (by decide +kernel) (by decide +kernel) ⟨⟨by decide, by decide⟩, by decide⟩
set_option maxRecDepth 100000 in
theorem s_lit_9 (hts : ∀ w ∈ lw_tbl, w.before #[Value.ref b] s = true) (hgv : (Jvm.Cond.and given_1 narrow_1).before #[Value.ref b] s = true) : gLit s s.heap.size RX4 35 "spill" [115, 112, 105, 108, 108] := s_lit hts hgv 273 201 9 (by decide +kernel) (by decide +kernel) ⟨⟨by decide, by decide⟩, by decide⟩
set_option maxRecDepth 100000 in
theorem s_lit_8 (hts : ∀ w ∈ lw_tbl, w.before #[Value.ref b] s = true) (hgv : (Jvm.Cond.and given_1 narrow_1).before #[Value.ref b] s = true) : gLit s s.heap.size RX4 33 "ease" [101, 97, 115, 101] := s_lit hts hgv 272 192 8 (by decide +kernel) (by decide +kernel) ⟨⟨by decide, by decide⟩, by decide⟩
set_option maxRecDepth 100000 in
theorem s_lit_7 (hts : ∀ w ∈ lw_tbl, w.before #[Value.ref b] s = true) (hgv : (Jvm.Cond.and given_1 narrow_1).before #[Value.ref b] s = true) : gLit s s.heap.size RX4 31 "pace" [112, 97, 99, 101] := s_lit hts hgv 271 184 8 (by decide +kernel) (by decide +kernel) ⟨⟨by decide, by decide⟩, by decide⟩
set_option maxRecDepth 100000 in
theorem s_lit_6 (hts : ∀ w ∈ lw_tbl, w.before #[Value.ref b] s = true) (hgv : (Jvm.Cond.and given_1 narrow_1).before #[Value.ref b] s = true) : gLit s s.heap.size RX12 135 "tire " [116, 105, 114, 101, 32] := s_lit hts hgv 1215 557 9 (by decide +kernel) (by decide +kernel) ⟨⟨by decide, by decide⟩, by decide⟩
set_option maxRecDepth 100000 in
theorem s_lit_5 (hts : ∀ w ∈ lw_tbl, w.before #[Value.ref b] s = true) (hgv : (Jvm.Cond.and given_1 narrow_1).before #[Value.ref b] s = true) : gLit s s.heap.size RX12 130 "ease " [101, 97, 115, 101, 32] := s_lit hts hgv 1204 472 9 (by decide +kernel) (by decide +kernel) ⟨⟨by decide, by decide⟩, by decide⟩
set_option maxRecDepth 100000 in
theorem s_lit_4 (hts : ∀ w ∈ lw_tbl, w.before #[Value.ref b] s = true) (hgv : (Jvm.Cond.and given_1 narrow_1).before #[Value.ref b] s = true) : gLit s s.heap.size RX12 128 "pace " [112, 97, 99, 101, 32] := s_lit hts hgv 1163 398 9 (by decide +kernel) (by decide +kernel) ⟨⟨by decide, by decide⟩, by decide⟩
set_option maxRecDepth 100000 in
theorem s_lit_3 (hts : ∀ w ∈ lw_tbl, w.before #[Value.ref b] s = true) (hgv : (Jvm.Cond.and given_1 narrow_1).before #[Value.ref b] s = true) : gLit s s.heap.size RX12 123 "hovel " [104, 111, 118, 101, 108, 32] := s_lit hts hgv 1210 527 10 (by decide +kernel) (by decide +kernel) ⟨⟨by decide, by decide⟩, by decide⟩
set_option maxRecDepth 100000 in
theorem s_lit_2 (hts : ∀ w ∈ lw_tbl, w.before #[Value.ref b] s = true) (hgv : (Jvm.Cond.and given_1 narrow_1).before #[Value.ref b] s = true) : gLit s s.heap.size RX12 117 "pill " [112, 105, 108, 108, 32] := s_lit hts hgv 1209 499 9 (by decide +kernel) (by decide +kernel) ⟨⟨by decide, by decide⟩, by decide⟩
set_option maxRecDepth 100000 in
theorem s_lit_1 (hts : ∀ w ∈ lw_tbl, w.before #[Value.ref b] s = true) (hgv : (Jvm.Cond.and given_1 narrow_1).before #[Value.ref b] s = true) : gLit s s.heap.size RX12 105 "<=>" [60, 61, 62] := s_lit hts hgv 1203 448 7 (by decide +kernel) (by decide +kernel) ⟨⟨by decide, by decide⟩, by decide⟩
set_option maxRecDepth 100000 in
theorem s_lit_0 (hts : ∀ w ∈ lw_tbl, w.before #[Value.ref b] s = true) (hgv : (Jvm.Cond.and given_1 narrow_1).before #[Value.ref b] s = true) : gLit s s.heap.size RX12 99 "ysublk" [121, 115, 117, 98, 108, 107] := s_lit hts hgv 1198 422 10 (by decide +kernel) (by decide +kernel) ⟨⟨by decide, by decide⟩, by decide⟩
theorem s_str (hts : ∀ w ∈ lw_tbl, w.before #[Value.ref b] s = true) (hgv : (Jvm.Cond.and given_1 narrow_1).before #[Value.ref b] s = true) : gStr s s.heap.size := ⟨⟨va_Zof (s_w hts 289 (by decide +kernel)) (s_w hts 11 (by decide +kernel)) (va_eqi (s_n hgv 8 (by decide +kernel))) s_A, va_Zqof (s_w hts 305 (by decide +kernel)) (s_w hts 13 (by decide +kernel)) (s_n hgv 9 (by decide +kernel)) s_A⟩, List.forall_mem_cons.mpr ⟨s_lit_0 hts hgv, List.forall_mem_cons.mpr ⟨s_lit_1 hts hgv, List.forall_mem_cons.mpr ⟨s_lit_2 hts hgv, List.forall_mem_cons.mpr ⟨s_lit_3 hts hgv, List.forall_mem_cons.mpr ⟨s_lit_4 hts hgv, List.forall_mem_cons.mpr ⟨s_lit_5 hts hgv, List.forall_mem_cons.mpr ⟨s_lit_6 hts hgv, List.forall_mem_cons.mpr ⟨s_lit_7 hts hgv, List.forall_mem_cons.mpr ⟨s_lit_8 hts hgv, List.forall_mem_cons.mpr ⟨s_lit_9 hts hgv, List.forall_mem_cons.mpr ⟨s_lit_10 hts hgv, List.forall_mem_cons.mpr ⟨s_lit_11 hts hgv, List.forall_mem_cons.mpr ⟨s_lit_12 hts hgv, List.forall_mem_cons.mpr ⟨s_lit_13 hts hgv, List.forall_mem_cons.mpr ⟨s_lit_14 hts hgv, List.forall_mem_cons.mpr ⟨s_lit_15 hts hgv, List.forall_mem_cons.mpr ⟨s_lit_16 hts hgv, List.forall_mem_cons.mpr ⟨s_lit_17 hts hgv, List.forall_mem_cons.mpr ⟨s_lit_18 hts hgv, List.forall_mem_cons.mpr ⟨s_lit_19 hts hgv, List.forall_mem_cons.mpr ⟨s_lit_20 hts hgv, List.forall_mem_cons.mpr ⟨s_lit_21 hts hgv, fun _ h => absurd h List.not_mem_nil⟩⟩⟩⟩⟩⟩⟩⟩⟩⟩⟩⟩⟩⟩⟩⟩⟩⟩⟩⟩⟩⟩⟩
theorem s_cas (hts : ∀ w ∈ lw_tbl, w.before #[Value.ref b] s = true) : gCas s := fun κ hκ => by
  rcases k7 hκ with rfl | rfl | rfl | rfl | rfl | rfl | rfl
  · exact s_rf (C := "BarrowPlank$Man") (E := "java/lang/Object") (s_w hts 1442 (by decide +kernel))
  · exact s_ca (C := "BarrowPlank$Full") (E := "BarrowPlank$Man") (s_w hts 1458 (by decide +kernel))
  · exact s_ca (C := "BarrowPlank$Waiting") (E := "BarrowPlank$Man") (s_w hts 1459 (by decide +kernel))
  · exact s_ca (C := "BarrowPlank$Slow") (E := "BarrowPlank$Man") (s_w hts 1460 (by decide +kernel))
  · exact s_ca (C := "BarrowPlank$Heaped") (E := "BarrowPlank$Man") (s_w hts 1461 (by decide +kernel))
  · exact s_ca (C := "BarrowPlank$Spilt") (E := "BarrowPlank$Man") (s_w hts 1462 (by decide +kernel))
  · exact s_ca (C := "BarrowPlank$Off") (E := "BarrowPlank$Man") (s_w hts 1463 (by decide +kernel))
theorem s_ins (hts : ∀ w ∈ lw_tbl, w.before #[Value.ref b] s = true) (hgv : (Jvm.Cond.and given_1 narrow_1).before #[Value.ref b] s = true) : gIns s := fun κ k hκ h0 hk => by
  rcases k7 hκ with rfl | rfl | rfl | rfl | rfl | rfl | rfl <;> rcases (show k = 1 ∨ k = 2 ∨ k = 3 ∨ k = 4 ∨ k = 5 ∨ k = 6 by omega) with rfl | rfl | rfl | rfl | rfl | rfl
  · exact ⟨fun h => absurd h (by unfold uK; omega), fun _ => va_Nc.of (C := "BarrowPlank$Man") (T := "BarrowPlank$Full") (s_n hgv 29 (by decide +kernel))⟩
  · exact ⟨fun h => absurd h (by unfold uK; omega), fun _ => va_Nc.of (C := "BarrowPlank$Man") (T := "BarrowPlank$Waiting") (s_n hgv 42 (by decide +kernel))⟩
  · exact ⟨fun h => absurd h (by unfold uK; omega), fun _ => va_Nc.of (C := "BarrowPlank$Man") (T := "BarrowPlank$Slow") (s_n hgv 55 (by decide +kernel))⟩
  · exact ⟨fun h => absurd h (by unfold uK; omega), fun _ => va_Nc.of (C := "BarrowPlank$Man") (T := "BarrowPlank$Heaped") (s_n hgv 69 (by decide +kernel))⟩
  · exact ⟨fun h => absurd h (by unfold uK; omega), fun _ => va_Nc.of (C := "BarrowPlank$Man") (T := "BarrowPlank$Spilt") (s_n hgv 83 (by decide +kernel))⟩
  · exact ⟨fun h => absurd h (by unfold uK; omega), fun _ => va_Nc.of (C := "BarrowPlank$Man") (T := "BarrowPlank$Off") (s_n hgv 97 (by decide +kernel))⟩
  · exact ⟨fun _ => s_rf (C := "BarrowPlank$Full") (E := "java/lang/Object") (s_w hts 1451 (by decide +kernel)), fun h => absurd (show uK 1 1 by unfold uK; omega) h⟩
  · exact ⟨fun h => absurd h (by unfold uK; omega), fun _ => va_Nc.of (C := "BarrowPlank$Full") (T := "BarrowPlank$Waiting") (s_n hgv 38 (by decide +kernel))⟩
  · exact ⟨fun h => absurd h (by unfold uK; omega), fun _ => va_Nc.of (C := "BarrowPlank$Full") (T := "BarrowPlank$Slow") (s_n hgv 51 (by decide +kernel))⟩
  · exact ⟨fun h => absurd h (by unfold uK; omega), fun _ => va_Nc.of (C := "BarrowPlank$Full") (T := "BarrowPlank$Heaped") (s_n hgv 64 (by decide +kernel))⟩
  · exact ⟨fun h => absurd h (by unfold uK; omega), fun _ => va_Nc.of (C := "BarrowPlank$Full") (T := "BarrowPlank$Spilt") (s_n hgv 78 (by decide +kernel))⟩
  · exact ⟨fun h => absurd h (by unfold uK; omega), fun _ => va_Nc.of (C := "BarrowPlank$Full") (T := "BarrowPlank$Off") (s_n hgv 92 (by decide +kernel))⟩
  · exact ⟨fun h => absurd h (by unfold uK; omega), fun _ => va_Nc.of (C := "BarrowPlank$Waiting") (T := "BarrowPlank$Full") (s_n hgv 25 (by decide +kernel))⟩
  · exact ⟨fun _ => s_rf (C := "BarrowPlank$Waiting") (E := "java/lang/Object") (s_w hts 1452 (by decide +kernel)), fun h => absurd (show uK 2 2 by unfold uK; omega) h⟩
  · exact ⟨fun h => absurd h (by unfold uK; omega), fun _ => va_Nc.of (C := "BarrowPlank$Waiting") (T := "BarrowPlank$Slow") (s_n hgv 52 (by decide +kernel))⟩
  · exact ⟨fun h => absurd h (by unfold uK; omega), fun _ => va_Nc.of (C := "BarrowPlank$Waiting") (T := "BarrowPlank$Heaped") (s_n hgv 65 (by decide +kernel))⟩
  · exact ⟨fun h => absurd h (by unfold uK; omega), fun _ => va_Nc.of (C := "BarrowPlank$Waiting") (T := "BarrowPlank$Spilt") (s_n hgv 79 (by decide +kernel))⟩
  · exact ⟨fun h => absurd h (by unfold uK; omega), fun _ => va_Nc.of (C := "BarrowPlank$Waiting") (T := "BarrowPlank$Off") (s_n hgv 93 (by decide +kernel))⟩
  · exact ⟨fun h => absurd h (by unfold uK; omega), fun _ => va_Nc.of (C := "BarrowPlank$Slow") (T := "BarrowPlank$Full") (s_n hgv 26 (by decide +kernel))⟩
  · exact ⟨fun h => absurd h (by unfold uK; omega), fun _ => va_Nc.of (C := "BarrowPlank$Slow") (T := "BarrowPlank$Waiting") (s_n hgv 39 (by decide +kernel))⟩
  · exact ⟨fun _ => s_rf (C := "BarrowPlank$Slow") (E := "java/lang/Object") (s_w hts 1453 (by decide +kernel)), fun h => absurd (show uK 3 3 by unfold uK; omega) h⟩
  · exact ⟨fun h => absurd h (by unfold uK; omega), fun _ => va_Nc.of (C := "BarrowPlank$Slow") (T := "BarrowPlank$Heaped") (s_n hgv 66 (by decide +kernel))⟩
  · exact ⟨fun h => absurd h (by unfold uK; omega), fun _ => va_Nc.of (C := "BarrowPlank$Slow") (T := "BarrowPlank$Spilt") (s_n hgv 80 (by decide +kernel))⟩
  · exact ⟨fun h => absurd h (by unfold uK; omega), fun _ => va_Nc.of (C := "BarrowPlank$Slow") (T := "BarrowPlank$Off") (s_n hgv 94 (by decide +kernel))⟩
  · exact ⟨fun _ => s_ca (C := "BarrowPlank$Heaped") (E := "BarrowPlank$Full") (s_w hts 1439 (by decide +kernel)), fun h => absurd (show uK 4 1 by unfold uK; omega) h⟩
  · exact ⟨fun h => absurd h (by unfold uK; omega), fun _ => va_Nc.of (C := "BarrowPlank$Heaped") (T := "BarrowPlank$Waiting") (s_n hgv 40 (by decide +kernel))⟩
  · exact ⟨fun h => absurd h (by unfold uK; omega), fun _ => va_Nc.of (C := "BarrowPlank$Heaped") (T := "BarrowPlank$Slow") (s_n hgv 53 (by decide +kernel))⟩
  · exact ⟨fun _ => s_rf (C := "BarrowPlank$Heaped") (E := "java/lang/Object") (s_w hts 1454 (by decide +kernel)), fun h => absurd (show uK 4 4 by unfold uK; omega) h⟩
  · exact ⟨fun h => absurd h (by unfold uK; omega), fun _ => va_Nc.of (C := "BarrowPlank$Heaped") (T := "BarrowPlank$Spilt") (s_n hgv 81 (by decide +kernel))⟩
  · exact ⟨fun h => absurd h (by unfold uK; omega), fun _ => va_Nc.of (C := "BarrowPlank$Heaped") (T := "BarrowPlank$Off") (s_n hgv 95 (by decide +kernel))⟩
  · exact ⟨fun h => absurd h (by unfold uK; omega), fun _ => va_Nc.of (C := "BarrowPlank$Spilt") (T := "BarrowPlank$Full") (s_n hgv 27 (by decide +kernel))⟩
  · exact ⟨fun _ => s_ca (C := "BarrowPlank$Spilt") (E := "BarrowPlank$Waiting") (s_w hts 1440 (by decide +kernel)), fun h => absurd (show uK 5 2 by unfold uK; omega) h⟩
  · exact ⟨fun h => absurd h (by unfold uK; omega), fun _ => va_Nc.of (C := "BarrowPlank$Spilt") (T := "BarrowPlank$Slow") (s_n hgv 54 (by decide +kernel))⟩
  · exact ⟨fun h => absurd h (by unfold uK; omega), fun _ => va_Nc.of (C := "BarrowPlank$Spilt") (T := "BarrowPlank$Heaped") (s_n hgv 67 (by decide +kernel))⟩
  · exact ⟨fun _ => s_rf (C := "BarrowPlank$Spilt") (E := "java/lang/Object") (s_w hts 1455 (by decide +kernel)), fun h => absurd (show uK 5 5 by unfold uK; omega) h⟩
  · exact ⟨fun h => absurd h (by unfold uK; omega), fun _ => va_Nc.of (C := "BarrowPlank$Spilt") (T := "BarrowPlank$Off") (s_n hgv 96 (by decide +kernel))⟩
  · exact ⟨fun h => absurd h (by unfold uK; omega), fun _ => va_Nc.of (C := "BarrowPlank$Off") (T := "BarrowPlank$Full") (s_n hgv 28 (by decide +kernel))⟩
  · exact ⟨fun h => absurd h (by unfold uK; omega), fun _ => va_Nc.of (C := "BarrowPlank$Off") (T := "BarrowPlank$Waiting") (s_n hgv 41 (by decide +kernel))⟩
  · exact ⟨fun _ => s_ca (C := "BarrowPlank$Off") (E := "BarrowPlank$Slow") (s_w hts 1441 (by decide +kernel)), fun h => absurd (show uK 6 3 by unfold uK; omega) h⟩
  · exact ⟨fun h => absurd h (by unfold uK; omega), fun _ => va_Nc.of (C := "BarrowPlank$Off") (T := "BarrowPlank$Heaped") (s_n hgv 68 (by decide +kernel))⟩
  · exact ⟨fun h => absurd h (by unfold uK; omega), fun _ => va_Nc.of (C := "BarrowPlank$Off") (T := "BarrowPlank$Spilt") (s_n hgv 82 (by decide +kernel))⟩
  · exact ⟨fun _ => s_rf (C := "BarrowPlank$Off") (E := "java/lang/Object") (s_w hts 1456 (by decide +kernel)), fun h => absurd (show uK 6 6 by unfold uK; omega) h⟩
theorem s_bx (hts : ∀ w ∈ lw_tbl, w.before #[Value.ref b] s = true) (hgv : (Jvm.Cond.and given_1 narrow_1).before #[Value.ref b] s = true) : ∃ (ad : Nat → Nat) (C E : Nat), gBx s s.heap.size ad C E := by
  have hA := s_A (s := s)
  have hlen := va_eqt (s_n hgv 16 (w := .eq (.length (.static "java/lang/Integer$IntegerCache" "cache" "[Ljava/lang/Integer;")) (.int (Int32.ofNat 256))) (by decide +kernel))
  obtain ⟨ad, hC, hel⟩ := vb_Cof (A := gA s.heap.size) (st := .static "java/lang/Integer$IntegerCache" "cache" "[Ljava/lang/Integer;") rfl hlen (s_n hgv 17 (by decide +kernel)) hA
  obtain ⟨C, hCe, hT⟩ := va_Tof (ty := .object "java/lang/Integer") (N := 256) (f := fun k => .ref (ad k)) (A := gA s.heap.size) (by decide) (s_n hgv 15 (by decide +kernel)) hlen hel hA
  obtain ⟨E, hEe, hTE⟩ := va_Tof (tm := .static "java/util/ArrayList" "DEFAULTCAPACITY_EMPTY_ELEMENTDATA" "[Ljava/lang/Object;") (ty := .object "java/lang/Object") (N := 0) (f := fun _ => .null) (A := gA s.heap.size) (by decide) (s_n hgv 5 (by decide +kernel)) (va_eqt (s_n hgv 7 (w := .eq (.length (.static "java/util/ArrayList" "DEFAULTCAPACITY_EMPTY_ELEMENTDATA" "[Ljava/lang/Object;")) (.int (Int32.ofNat 0))) (by decide +kernel))) (fun j hj => absurd hj (Nat.not_lt_zero j)) hA
  exact ⟨ad, C, E, va_Zof (s_w hts 849 (by decide +kernel)) (s_w hts 26 (by decide +kernel)) (va_eqi (s_n hgv 13 (by decide +kernel))) hA, va_Zof (s_w hts 851 (by decide +kernel)) (s_w hts 26 (by decide +kernel)) hCe hA, hT, hC, va_Zof (s_w hts 208 (by decide +kernel)) (s_w hts 8 (by decide +kernel)) hEe hA, hTE, s_ca (s_w hts 1444 (by decide +kernel)), va_Fw.of (s_w hts 838 (by decide +kernel)) (s_w hts 837 (by decide +kernel)) (s_w hts 843 (by decide +kernel)) (s_w hts 841 (by decide +kernel)) (s_w hts 839 (by decide +kernel)), va_Fw.of (s_w hts 868 (by decide +kernel)) (s_w hts 867 (by decide +kernel)) (s_w hts 872 (by decide +kernel)) (s_w hts 870 (by decide +kernel)) (s_w hts 839 (by decide +kernel))⟩
theorem s_gl {ws : List Cond} (h : GoodIn wsX11_act ws) : GoodIn lw_tbl ws := fun w hw => ⟨lwi w (ggL_law_X11_act w (h w hw).1).1, (h w hw).2⟩
theorem s_gb {ws : List Cond} (h : GoodIn wsX2_lifts ws) : GoodIn lw_tbl ws := fun w hw => ⟨(s_gl ggX11_act_X2_lifts w (h w hw).1).1, (h w hw).2⟩
theorem s_us {own : String} {i : Nat} {y : MethodName} {o1 nm ds : String} (h1 : Cond.methodLink own i ⟨o1, nm, ds⟩ ∈ lw_tbl) (h2 : Cond.sameMethod o1 y.cls nm ds ∈ lw_tbl) (h3 : Cond.static y ∈ lw_tbl) (h4 : Cond.initialized y.cls ∈ lw_tbl) {ws : List Cond} (h : GoodIn lw_tbl ws) : GoodIn lw_tbl (wsUs own i ⟨o1, nm, ds⟩ y ws) := goodIn_app (fun w hw => by
  simp only [List.mem_cons, List.not_mem_nil, or_false] at hw
  rcases hw with rfl | rfl | rfl | rfl
  · exact ⟨h1, Or.inl rfl⟩
  · exact ⟨h2, Or.inl rfl⟩
  · exact ⟨h3, Or.inl rfl⟩
  · exact ⟨h4, Or.inl rfl⟩) h
theorem s_ux {own : String} {i : Nat} {y : MethodName} {o1 nm ds : String} (h1 : Cond.methodLink own i ⟨o1, nm, ds⟩ ∈ lw_tbl) (h2 : Cond.sameMethod o1 y.cls nm ds ∈ lw_tbl) (h3 : Cond.superclass own o1 ∈ lw_tbl) (h4 : Cond.superclass o1 y.cls ∈ lw_tbl) (h5 : Cond.instanceMethod y ∈ lw_tbl) (h6 : Cond.initialized y.cls ∈ lw_tbl) {ws : List Cond} (h : GoodIn lw_tbl ws) : GoodIn lw_tbl (wsUx own i ⟨o1, nm, ds⟩ y ws) := goodIn_app (fun w hw => by
  simp only [List.mem_cons, List.not_mem_nil, or_false] at hw
  rcases hw with rfl | rfl | rfl | rfl | rfl | rfl
  · exact ⟨h1, Or.inl rfl⟩
  · exact ⟨h2, Or.inl rfl⟩
  · exact ⟨h3, Or.inl rfl⟩
  · exact ⟨h4, Or.inl rfl⟩
  · exact ⟨h5, Or.inl rfl⟩
  · exact ⟨h6, Or.inl rfl⟩) h
theorem s_t (i : Nat) {w : Cond} (h : tables_1[i]? = some w) : w ∈ lw_tbl := List.mem_append_right _ (List.mem_of_getElem? h)
theorem s_up (hts : ∀ w ∈ lw_tbl, w.before #[Value.ref b] s = true) : gUp s := ⟨pay_in hts (s_us (s_t 831 (by decide +kernel)) (s_t 832 (by decide +kernel)) (s_t 833 (by decide +kernel)) (s_t 16 (by decide +kernel)) (s_gb ggX2_lifts_X2_begin)),
  pay_in hts (s_us (s_t 933 (by decide +kernel)) (s_t 934 (by decide +kernel)) (s_t 833 (by decide +kernel)) (s_t 16 (by decide +kernel)) (s_gb ggX2_lifts_X2_begin)),
  pay_in hts (s_us (s_t 959 (by decide +kernel)) (s_t 960 (by decide +kernel)) (s_t 833 (by decide +kernel)) (s_t 16 (by decide +kernel)) (s_gb ggX2_lifts_X2_begin)),
  pay_in hts (s_us (s_t 950 (by decide +kernel)) (s_t 951 (by decide +kernel)) (s_t 833 (by decide +kernel)) (s_t 16 (by decide +kernel)) (s_gb ggX2_lifts_X2_begin)),
  pay_in hts (s_us (s_t 985 (by decide +kernel)) (s_t 986 (by decide +kernel)) (s_t 833 (by decide +kernel)) (s_t 16 (by decide +kernel)) (s_gb ggX2_lifts_X2_begin)),
  pay_in hts (s_us (s_t 973 (by decide +kernel)) (s_t 974 (by decide +kernel)) (s_t 833 (by decide +kernel)) (s_t 16 (by decide +kernel)) (s_gb ggX2_lifts_X2_begin)),
  pay_in hts (s_ux (s_t 975 (by decide +kernel)) (s_t 976 (by decide +kernel)) (s_t 547 (by decide +kernel)) (s_t 514 (by decide +kernel)) (s_t 966 (by decide +kernel)) (s_t 16 (by decide +kernel)) (s_gl ggX11_act_X2_tires)),
  pay_in hts (s_ux (s_t 935 (by decide +kernel)) (s_t 936 (by decide +kernel)) (s_t 558 (by decide +kernel)) (s_t 525 (by decide +kernel)) (s_t 825 (by decide +kernel)) (s_t 16 (by decide +kernel)) (s_gl ggX11_act_X2_lifts)),
  pay_in hts (s_ux (s_t 952 (by decide +kernel)) (s_t 953 (by decide +kernel)) (s_t 569 (by decide +kernel)) (s_t 536 (by decide +kernel)) (s_t 942 (by decide +kernel)) (s_t 16 (by decide +kernel)) (s_gl ggX11_act_X2_goes))⟩
theorem s_nst (hts : ∀ w ∈ lw_tbl, w.before #[Value.ref b] s = true) : gNst s := List.forall_mem_cons.mpr ⟨s_nest (s_w hts 40 (by decide +kernel)), List.forall_mem_cons.mpr ⟨s_nest (s_w hts 87 (by decide +kernel)), List.forall_mem_cons.mpr ⟨s_nest (s_w hts 177 (by decide +kernel)), List.forall_mem_cons.mpr ⟨s_nest (s_w hts 259 (by decide +kernel)), fun _ h => absurd h List.not_mem_nil⟩⟩⟩⟩
theorem s_ar (hts : ∀ w ∈ lw_tbl, w.before #[Value.ref b] s = true) : gAr s := List.forall_mem_cons.mpr ⟨s_over (s_w hts 83 (by decide +kernel)), List.forall_mem_cons.mpr ⟨s_over (s_w hts 85 (by decide +kernel)), List.forall_mem_cons.mpr ⟨s_over (s_w hts 81 (by decide +kernel)), fun _ h => absurd h List.not_mem_nil⟩⟩⟩
theorem s_oo (hts : ∀ w ∈ lw_tbl, w.before #[Value.ref b] s = true) : gWs s [.arrayOver (.object "java/lang/Object")] := List.forall_mem_cons.mpr ⟨s_over (s_w hts 920 (by decide +kernel)), fun _ h => absurd h List.not_mem_nil⟩
set_option maxRecDepth 100000 in
set_option maxHeartbeats 4000000 in
theorem s_K (hts : ∀ w ∈ lw_tbl, w.before #[Value.ref b] s = true) : ∃ (D : va_G) (cy : Nat → ClassId), va_K D vwCl (gtys cy) s := by
  obtain ⟨c0, i0, h0⟩ := u_known (C := RJ6) (T := TJ6) (N := 1) (n := 1) hts lwi_wsJ60 (s_w hts 853 (by decide +kernel))
  obtain ⟨c1, i1, h1⟩ := u_known (C := RJx4a65c) (T := TJx4a65c) (N := 3) (n := 3) hts lwi_wsJx4a65c0 (s_w hts 196 (by decide +kernel))
  obtain ⟨c2, i2, h2⟩ := u_known (C := RX0) (T := TX0) (N := 4) (n := 4) hts lwi_wsX00 (s_w hts 473 (by decide +kernel))
  obtain ⟨c3, i3, h3⟩ := u_known (C := RX1) (T := TX1) (N := 4) (n := 4) hts lwi_wsX10 (s_w hts 538 (by decide +kernel))
  obtain ⟨c4, i4, h4⟩ := u_known (C := RX2) (T := TX2) (N := 4) (n := 4) hts lwi_wsX20 (s_w hts 571 (by decide +kernel))
  obtain ⟨c5, i5, h5⟩ := u_known (C := RX3) (T := TX3) (N := 4) (n := 4) hts lwi_wsX30 (s_w hts 560 (by decide +kernel))
  obtain ⟨c6, i6, h6⟩ := u_known (C := RX4) (T := TX4) (N := 8) (n := 8) hts lwi_wsX40 (s_w hts 39 (by decide +kernel))
  obtain ⟨c7, i7, h7⟩ := u_known (C := RX5) (T := TX5) (N := 4) (n := 4) hts lwi_wsX50 (s_w hts 176 (by decide +kernel))
  obtain ⟨c8, i8, h8⟩ := u_known (C := RX6) (T := TX6) (N := 4) (n := 4) hts lwi_wsX60 (s_w hts 527 (by decide +kernel))
  obtain ⟨c9, i9, h9⟩ := u_known (C := RX7) (T := TX7) (N := 4) (n := 4) hts lwi_wsX70 (s_w hts 549 (by decide +kernel))
  obtain ⟨c10, i10, h10⟩ := u_known (C := RX8) (T := TX8) (N := 6) (n := 6) hts lwi_wsX80 (s_w hts 86 (by decide +kernel))
  obtain ⟨c11, i11, h11⟩ := u_known (C := RX9) (T := TX9) (N := 4) (n := 4) hts lwi_wsX90 (s_w hts 516 (by decide +kernel))
  obtain ⟨c12, i12, h12⟩ := u_known (C := RX10) (T := TX10) (N := 16) (n := 16) hts lwi_wsX100 (s_w hts 75 (by decide +kernel))
  obtain ⟨c13, i13, h13⟩ := u_known (C := RX11) (T := TX11) (N := 6) (n := 6) hts lwi_wsX110 (s_w hts 31 (by decide +kernel))
  obtain ⟨c14, i14, h14⟩ := u_known (C := RX12) (T := TX12) (N := 30) (n := 30) hts lwi_wsX120 (s_w hts 1048 (by decide +kernel))
  obtain ⟨a0, k0, o0, p0, q0, r0⟩ := Cond.arrayClass_spec (s_w hts 73 (w := .arrayClass .int) (by decide +kernel))
  obtain ⟨a1, k1, o1, p1, q1, r1⟩ := Cond.arrayClass_spec (s_w hts 112 (w := .arrayClass .char) (by decide +kernel))
  obtain ⟨a2, k2, o2, p2, q2, r2⟩ := Cond.arrayClass_spec (s_w hts 1143 (w := .arrayClass .boolean) (by decide +kernel))
  obtain ⟨o3, a3, k3, u3, -, q3, r3, p3⟩ := Cond.arrayOver_spec (s_w hts 83 (w := .arrayOver (.object "BarrowPlank$Man")) (by decide +kernel))
  obtain ⟨o4, a4, k4, u4, -, q4, r4, p4⟩ := Cond.arrayOver_spec (s_w hts 85 (w := .arrayOver (.object "BarrowPlank$Trip")) (by decide +kernel))
  obtain ⟨o5, a5, k5, u5, -, q5, r5, p5⟩ := Cond.arrayOver_spec (s_w hts 920 (w := .arrayOver (.object "java/lang/Object")) (by decide +kernel))
  obtain ⟨o6, a6, k6, u6, -, q6, r6, p6⟩ := arrayOverA_spec (s_w hts 81 (w := .arrayOver (.array .int)) (by decide +kernel))
  refine ⟨(fun k => [c0, c1, c2, c3, c4, c5, c6, c7, c8, c9, c10, c11, c12, c13, c14].getD k c0, fun k => [i0, i1, i2, i3, i4, i5, i6, i7, i8, i9, i10, i11, i12, i13, i14].getD k i0), fun k => [a0, a1, a2, a3, a4, a5, a6].getD k a0, fun k q hq => ?_, fun k q hq => ?_⟩
  · match k, hq with
    | 0, hq => have e : some (RJ6, TJ6, 1) = some q := hq; cases e; exact h0
    | 1, hq => have e : some (RJx4a65c, TJx4a65c, 3) = some q := hq; cases e; exact h1
    | 2, hq => have e : some (RX0, TX0, 4) = some q := hq; cases e; exact h2
    | 3, hq => have e : some (RX1, TX1, 4) = some q := hq; cases e; exact h3
    | 4, hq => have e : some (RX2, TX2, 4) = some q := hq; cases e; exact h4
    | 5, hq => have e : some (RX3, TX3, 4) = some q := hq; cases e; exact h5
    | 6, hq => have e : some (RX4, TX4, 8) = some q := hq; cases e; exact h6
    | 7, hq => have e : some (RX5, TX5, 4) = some q := hq; cases e; exact h7
    | 8, hq => have e : some (RX6, TX6, 4) = some q := hq; cases e; exact h8
    | 9, hq => have e : some (RX7, TX7, 4) = some q := hq; cases e; exact h9
    | 10, hq => have e : some (RX8, TX8, 6) = some q := hq; cases e; exact h10
    | 11, hq => have e : some (RX9, TX9, 4) = some q := hq; cases e; exact h11
    | 12, hq => have e : some (RX10, TX10, 16) = some q := hq; cases e; exact h12
    | 13, hq => have e : some (RX11, TX11, 6) = some q := hq; cases e; exact h13
    | 14, hq => have e : some (RX12, TX12, 30) = some q := hq; cases e; exact h14
    | k + 15, hq => exact absurd (List.getElem?_eq_some_iff.mp hq).1 (by show ¬ k + 15 < 15; omega)
  · match k, hq with
    | 0, hq => have e : some (a0, (.int : FieldType)) = some q := hq; cases e; exact ⟨fun n z => ⟨fun k h => (by cases h), k0, q0, o0, r0⟩, p0⟩
    | 1, hq => have e : some (a1, (.char : FieldType)) = some q := hq; cases e; exact ⟨fun n z => ⟨fun k h => (by cases h), k1, q1, o1, r1⟩, p1⟩
    | 2, hq => have e : some (a2, (.boolean : FieldType)) = some q := hq; cases e; exact ⟨fun n z => ⟨fun k h => (by cases h), k2, q2, o2, r2⟩, p2⟩
    | 3, hq => have e : some (a3, ((.object "BarrowPlank$Man") : FieldType)) = some q := hq; cases e; exact ⟨fun n z => ⟨fun k h => (by cases h), k3, q3, o3, r3⟩, ⟨k3, o3, q3, r3, u3, p3⟩⟩
    | 4, hq => have e : some (a4, ((.object "BarrowPlank$Trip") : FieldType)) = some q := hq; cases e; exact ⟨fun n z => ⟨fun k h => (by cases h), k4, q4, o4, r4⟩, ⟨k4, o4, q4, r4, u4, p4⟩⟩
    | 5, hq => have e : some (a5, ((.object "java/lang/Object") : FieldType)) = some q := hq; cases e; exact ⟨fun n z => ⟨fun k h => (by cases h), k5, q5, o5, r5⟩, ⟨k5, o5, q5, r5, u5, p5⟩⟩
    | 6, hq => have e : some (a6, ((.array .int) : FieldType)) = some q := hq; cases e; exact ⟨fun n z => ⟨fun k h => (by cases h), k6, q6, o6, r6⟩, p6⟩
    | k + 7, hq => exact absurd (List.getElem?_eq_some_iff.mp hq).1 (by show ¬ k + 7 < 7; omega)
theorem s_all (hts : ∀ w ∈ lw_tbl, w.before #[Value.ref b] s = true) (hgv : (Jvm.Cond.and given_1 narrow_1).before #[Value.ref b] s = true) : ∃ (D : va_G) (cy : Nat → ClassId) (ad : Nat → Nat) (C E : Nat), va_K D vwCl (gtys cy) s ∧ jG s s.heap.size ad C E ∧ gAr s ∧ E < s.heap.size := by
  obtain ⟨D, cy, hK⟩ := s_K hts
  obtain ⟨ad, C, E, hB⟩ := s_bx hts hgv
  have hE : ¬ s.heap.size ≤ E := hB.2.2.2.2.2.1.out
  exact ⟨D, cy, ad, C, E, hK, ⟨s_str hts hgv, s_cas hts, s_ins hts hgv, hB, s_oo hts, s_up hts, s_nst hts⟩, s_ar hts, Nat.not_le.mp hE⟩
end S0
