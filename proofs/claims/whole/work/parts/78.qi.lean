section QI
variable {l : Launch} {s0 : State} {D : va_G} {cy : Nat → ClassId} {B z : Nat} {T : Nat → Nat × Nat} {I : Nat → Nat → Int32} {R : Nat → Nat → Option Nat} {w a b q o : Nat} {ad : Nat → Nat} {C E lc : Nat}
def gAr (s0 : State) : Prop := gWs s0 [.arrayOver (.object "BarrowPlank$Man"), .arrayOver (.object "BarrowPlank$Trip"), .arrayOver (.array .int)]
set_option maxHeartbeats 4000000 in
set_option maxRecDepth 100000 in
/-- n_trip -/
theorem n_trip  : Met l yX8_init wsX8_init ({ frames := 1, cells := 0, slots := 0, locals := 21 }) (va_Pc [.ref b] (gW0 s0 D cy B (z, T, I, R))) (va_Qv (fun u => u = (z, T, I, R)) (fun u t => gW1 D cy B u t) (gA B)) 0 0 (gA B) := by
  refine g_met (maxL := 1) (ret := none) (by decide) rfl (Nat.le_of_ble_eq_true rfl) (fun p e s m args below meth c ls X hr hlk hnm hK hP hC hS hl => ?_)
  have hl : lv_has ls 1 [(0, .ref b)] := hl
  have hP : gP D cy B z T I R s.heap := hP
  have hB : B ≤ s.heap.size := by rw [hP.1]; exact hP.2.1
  refine lv_aload_n X.1 X.2.1 dX8_init_0 rfl (lv_at hl 0 rfl) ?_
  refine g_oinit X hl.1 (by decide +kernel) (by decide +kernel) (by decide +kernel) (Nat.le_of_ble_eq_true rfl) (Nat.le_of_ble_eq_true rfl) (Nat.le_of_ble_eq_true rfl) dX8_init_1 ?_
  exact g_vret (f := fun u => u) (z, T, I, R) X hr hlk hK hP hS dX8_init_4 rfl

set_option maxHeartbeats 4000000 in
set_option maxRecDepth 100000 in
/-- n_reader -/
theorem n_reader  : Met l yX5_init wsX5_init ({ frames := 1, cells := 0, slots := 0, locals := 21 }) (va_Pc [.ref b] (gW0 s0 D cy B (z, T, I, R))) (va_Qv (fun u => u = (z, T, I, R)) (fun u t => gW1 D cy B u t) (gA B)) 0 0 (gA B) := by
  refine g_met (maxL := 1) (ret := none) (by decide) rfl (Nat.le_of_ble_eq_true rfl) (fun p e s m args below meth c ls X hr hlk hnm hK hP hC hS hl => ?_)
  have hl : lv_has ls 1 [(0, .ref b)] := hl
  have hP : gP D cy B z T I R s.heap := hP
  have hB : B ≤ s.heap.size := by rw [hP.1]; exact hP.2.1
  refine lv_aload_n X.1 X.2.1 dX5_init_0 rfl (lv_at hl 0 rfl) ?_
  refine g_oinit X hl.1 (by decide +kernel) (by decide +kernel) (by decide +kernel) (Nat.le_of_ble_eq_true rfl) (Nat.le_of_ble_eq_true rfl) (Nat.le_of_ble_eq_true rfl) dX5_init_1 ?_
  exact g_vret (f := fun u => u) (z, T, I, R) X hr hlk hK hP hS dX5_init_4 rfl

set_option maxHeartbeats 4000000 in
set_option maxRecDepth 100000 in
/-- n_jac -/
theorem n_jac  : Met l yJxa1e45_init_da8c8 wsJxa1e45_init_da8c8 ({ frames := 1, cells := 0, slots := 0, locals := 21 }) (va_Pc [.ref b] (gW0 s0 D cy B (z, T, I, R))) (va_Qv (fun u => u = (z, T, I, R)) (fun u t => gW1 D cy B u t) (gA B)) 0 0 (gA B) := by
  refine g_met (maxL := 1) (ret := none) (by decide) rfl (Nat.le_of_ble_eq_true rfl) (fun p e s m args below meth c ls X hr hlk hnm hK hP hC hS hl => ?_)
  have hl : lv_has ls 1 [(0, .ref b)] := hl
  have hP : gP D cy B z T I R s.heap := hP
  have hB : B ≤ s.heap.size := by rw [hP.1]; exact hP.2.1
  refine lv_aload_n X.1 X.2.1 dJxa1e45_init_da8c8_0 rfl (lv_at hl 0 rfl) ?_
  refine g_oinit X hl.1 (by decide +kernel) (by decide +kernel) (by decide +kernel) (Nat.le_of_ble_eq_true rfl) (Nat.le_of_ble_eq_true rfl) (Nat.le_of_ble_eq_true rfl) dJxa1e45_init_da8c8_1 ?_
  exact g_vret (f := fun u => u) (z, T, I, R) X hr hlk hK hP hS dJxa1e45_init_da8c8_4 rfl

set_option maxHeartbeats 4000000 in
set_option maxRecDepth 100000 in
/-- n_jal -/
theorem n_jal (htl : T lc = (9, 0)) : Met l yJxc12de_init_da8c8 wsJxc12de_init_da8c8 ({ frames := 2, cells := 0, slots := 0, locals := 41 }) (va_Pc [.ref lc] (gW0 s0 D cy B (z, T, I, R))) (va_Qv (fun u => u = (z, T, g2 I lc 0 0, R)) (fun u t => gW1 D cy B u t) (gA B)) 0 0 (gA B) := by
  refine g_met (maxL := 1) (ret := none) (by decide) rfl (Nat.le_of_ble_eq_true rfl) (fun p e s m args below meth c ls X hr hlk hnm hK hP hC hS hl => ?_)
  have hl : lv_has ls 1 [(0, .ref lc)] := hl
  have hP : gP D cy B z T I R s.heap := hP
  have hB : B ≤ s.heap.size := by rw [hP.1]; exact hP.2.1
  have hinRJx4a65c : ∀ w ∈ wsJx4a65c0, w ∈ wsJxc12de_init_da8c8 := fun _ h => List.mem_cons_of_mem _ (List.mem_append_right _ h)
  have k7 : Cond.fieldLink RJxc12de 7 "java/util/AbstractList" "modCount" "I" ∈ wsJxc12de_init_da8c8 := by decide +kernel
  refine lv_aload_n X.1 X.2.1 dJxc12de_init_da8c8_0 rfl (lv_at hl 0 rfl) ?_
  refine g_run_v (f := fun u => u) (g_runI [] X hK hP hS hC hB (n_jac) (cwI 0 X.2.2.2.2 gJxc12de_init_da8c8_Jxa1e45_init_da8c8 rfl rfl rfl (X.2.2.2.2 (.initialized yJxa1e45_init_da8c8.cls) (by decide +kernel)) (X.2.2.2.2 (.methodLink RJxc12de 1 yJxa1e45_init_da8c8) (by decide +kernel)) (X.2.2.2.2 (.instanceMethod yJxa1e45_init_da8c8) (by decide +kernel)) rfl (by decide +kernel) ⟨Nat.le_of_ble_eq_true rfl, Nat.le_of_ble_eq_true rfl⟩) rfl hl.1 rfl (Nat.le_of_ble_eq_true rfl) dJxc12de_init_da8c8_1 (by exact ⟨Nat.zero_le _, Nat.zero_le _⟩)) hS (fun u H locs hq hP hS => ?_)
  subst hq
  have hP : gP D cy B z T I R H := hP
  refine lv_aload_n X.1 X.2.1 dJxc12de_init_da8c8_4 rfl (lv_at hl 0 rfl) ?_
  refine lv_iconst (v := 0) X.1 X.2.1 dJxc12de_init_da8c8_5 (by decide) ?_
  refine g_puti 1 0 X hK hP hS htl rfl hinRJx4a65c tyJx4a65c tyJx4a65c_ok nmJx4a65c rfl (by decide) k7 (fun _ h => h) rfl rfl rfl dJxc12de_init_da8c8_6 (fun H locs hP hS => ?_)
  generalize eI1 : g2 I lc 0 0 = I1 at hP
  exact g_vret (f := fun u => u) (z, T, I1, R) X hr hlk hK hP hS dJxc12de_init_da8c8_9 (by rw [← eI1])

set_option maxHeartbeats 4000000 in
set_option maxRecDepth 100000 in
/-- n_list -/
theorem n_list (hBx : gBx s0 B ad C E) (htl : T lc = (9, 0)) : Met l yJx4a65c_init_da8c8 wsJx4a65c_init_da8c8 ({ frames := 3, cells := 0, slots := 0, locals := 61 }) (va_Pc [.ref lc] (gW0 s0 D cy B (z, T, I, R))) (va_Qv (fun u => u = (z, T, g2 I lc 0 0, g2 R lc 1 (some E))) (fun u t => gW1 D cy B u t) (gA B)) 0 0 (gA B) := by
  refine g_met (maxL := 1) (ret := none) (by decide) rfl (Nat.le_of_ble_eq_true rfl) (fun p e s m args below meth c ls X hr hlk hnm hK hP hC hS hl => ?_)
  have hl : lv_has ls 1 [(0, .ref lc)] := hl
  have hP : gP D cy B z T I R s.heap := hP
  have hB : B ≤ s.heap.size := by rw [hP.1]; exact hP.2.1
  have hinRJx4a65c : ∀ w ∈ wsJx4a65c0, w ∈ wsJx4a65c_init_da8c8 := fun _ h => List.mem_cons_of_mem _ (List.mem_append_right _ h)
  have k9 : Cond.fieldLink RJx4a65c 9 "java/util/ArrayList" "elementData" "[Ljava/lang/Object;" ∈ wsJx4a65c_init_da8c8 := by decide +kernel
  replace hBx := hBx.now hC
  refine lv_aload_n X.1 X.2.1 dJx4a65c_init_da8c8_0 rfl (lv_at hl 0 rfl) ?_
  refine g_run_v (f := fun u => u) (g_runI [] X hK hP hS hC hB (n_jal htl) (cwI 0 X.2.2.2.2 gJx4a65c_init_da8c8_Jxc12de_init_da8c8 rfl rfl rfl (X.2.2.2.2 (.initialized yJxc12de_init_da8c8.cls) (by decide +kernel)) (X.2.2.2.2 (.methodLink RJx4a65c 1 yJxc12de_init_da8c8) (by decide +kernel)) (X.2.2.2.2 (.instanceMethod yJxc12de_init_da8c8) (by decide +kernel)) rfl (by decide +kernel) ⟨Nat.le_of_ble_eq_true rfl, Nat.le_of_ble_eq_true rfl⟩) rfl hl.1 rfl (Nat.le_of_ble_eq_true rfl) dJx4a65c_init_da8c8_1 (by exact ⟨Nat.zero_le _, Nat.zero_le _⟩)) hS (fun u H locs hq hP hS => ?_)
  subst hq
  generalize eJ1 : g2 I lc 0 0 = J1 at hP
  have hP : gP D cy B z T J1 R H := hP
  refine lv_aload_n X.1 X.2.1 dJx4a65c_init_da8c8_4 rfl (lv_at hl 0 rfl) ?_
  refine va_gets X.1 X.2.1 hBx.2.2.2.2.1 hS X.2.2.2.1 (X.2.2.2.2 (.fieldLink RJx4a65c 39 "java/util/ArrayList" "DEFAULTCAPACITY_EMPTY_ELEMENTDATA" "[Ljava/lang/Object;") (by decide +kernel)) (fun _ h => h) dJx4a65c_init_da8c8_5 ?_
  refine g_putr 1 1 X hK hP hS htl rfl hinRJx4a65c tyJx4a65c tyJx4a65c_ok nmJx4a65c rfl (by decide) k9 (fun _ h => h) rfl (r := some E) rfl rfl rfl dJx4a65c_init_da8c8_8 (fun H locs hP hS => ?_)
  generalize eR1 : g2 R lc 1 (some E) = R1 at hP
  exact g_vret (f := fun u => u) (z, T, J1, R1) X hr hlk hK hP hS dJx4a65c_init_da8c8_11 (by rw [← eJ1, ← eR1])

/-- a Trip may lie in a Trip[] -/
theorem va_rAnyS {s : State} {H : Heap} (hK : va_K D vwCl (gtys cy) s) (hP : gP D cy B z T I R H) (ht : T b = (10 + 8, 0)) : va_Any "BarrowPlank$Trip" s H b := va_rAny hK (hP.at (gE_obj ht)) (q0 := 0) rfl (show vwCl[10]? = some _ from rfl) vb_asgS
theorem k15 {k : Nat} (h : k < 15) : k = 0 ∨ k = 1 ∨ k = 2 ∨ k = 3 ∨ k = 4 ∨ k = 5 ∨ k = 6 ∨ k = 7 ∨ k = 8 ∨ k = 9 ∨ k = 10 ∨ k = 11 ∨ k = 12 ∨ k = 13 ∨ k = 14 := by omega
theorem k14 {k : Nat} (h : k < 14) : k = 0 ∨ k = 1 ∨ k = 2 ∨ k = 3 ∨ k = 4 ∨ k = 5 ∨ k = 6 ∨ k = 7 ∨ k = 8 ∨ k = 9 ∨ k = 10 ∨ k = 11 ∨ k = 12 ∨ k = 13 := by omega
set_option maxHeartbeats 4000000 in
set_option maxRecDepth 100000 in
/-- n_works -/
theorem n_works (hNst : gNst s0) (hAr : gAr s0) (htw : T w = (12 + 8, 0)) (hzw : z = w + 1) (h0 : ∀ j, I w j = 0) (hta0 : True) : Met l yX10_init wsX10_init ({ frames := 2, cells := 14, slots := 187, locals := 41 }) (va_Pc [.ref w, .ref a] (gW0 s0 D cy B (z, T, I, R))) (va_Qv (fun u => ∃ T' I' R', u = (w + 15, T', I', R') ∧ cWk w T' R' ∧ (R' w 12 = some a ∧ ∀ k, k < 4 → R' (w + 5) k = none) ∧ ((∀ c j, w ≤ c → c < w + 15 → ¬ (c = w ∧ j = 8) → I' c j = 0) ∧ I' w 8 = 100) ∧ (∀ c, c < w → T' c = T c) ∧ (∀ c j, c < w → I' c j = I c j) ∧ ∀ c j, c < w → R' c j = R c j) (fun u t => gW1 D cy B u t) (gA B)) 14 187 (gA B) := by
  refine g_met (maxL := 3) (ret := none) (by decide) rfl (Nat.le_of_ble_eq_true rfl) (fun p e s m args below meth c ls X hr hlk hnm hK hP hC hS hl => ?_)
  have hl : lv_has ls 3 [(0, .ref w), (1, .ref a)] := hl
  have hP : gP D cy B z T I R s.heap := hP
  have hB : B ≤ s.heap.size := by rw [hP.1]; exact hP.2.1
  have hinRX10 : ∀ w ∈ wsX100, w ∈ wsX10_init := fun _ h => List.mem_cons_of_mem _ (List.mem_append_left _ (List.mem_append_right _ h))
  have hinRX8 : ∀ w ∈ wsX80, w ∈ wsX10_init := fun _ h => List.mem_cons_of_mem _ (List.mem_append_right _ h)
  have k11 : Cond.fieldLink RX10 11 "BarrowPlank$Works" "yards" "[[I" ∈ wsX10_init := by decide +kernel
  have k18 : Cond.fieldLink RX10 18 "BarrowPlank$Works" "men" "[LBarrowPlank$Man;" ∈ wsX10_init := by decide +kernel
  have k22 : Cond.fieldLink RX10 22 "BarrowPlank$Works" "tired" "[I" ∈ wsX10_init := by decide +kernel
  have k26 : Cond.fieldLink RX10 26 "BarrowPlank$Works" "tape" "[C" ∈ wsX10_init := by decide +kernel
  have k30 : Cond.fieldLink RX10 30 "BarrowPlank$Works" "noted" "[I" ∈ wsX10_init := by decide +kernel
  have k33 : Cond.fieldLink RX10 33 "BarrowPlank$Works" "earth" "I" ∈ wsX10_init := by decide +kernel
  have k39 : Cond.fieldLink RX10 39 "BarrowPlank$Works" "trips" "[LBarrowPlank$Trip;" ∈ wsX10_init := by decide +kernel
  have k45 : Cond.fieldLink RX10 45 "BarrowPlank$Works" "facts" "[I" ∈ wsX10_init := by decide +kernel
  have k48 : Cond.fieldLink RX10 48 "BarrowPlank$Works" "site" "LBarrowPlank$Site;" ∈ wsX10_init := by decide +kernel
  obtain rfl : z = w + 1 := hzw
  have hta := hta0
  refine lv_aload_n X.1 X.2.1 dX10_init_0 rfl (lv_at hl 0 rfl) ?_
  refine g_oinit X hl.1 (by decide +kernel) (by decide +kernel) (by decide +kernel) (Nat.le_of_ble_eq_true rfl) (Nat.le_of_ble_eq_true rfl) (Nat.le_of_ble_eq_true rfl) dX10_init_1 ?_
  refine lv_aload_n X.1 X.2.1 dX10_init_4 rfl (lv_at hl 0 rfl) ?_
  refine lv_iconst (v := 3) X.1 X.2.1 dX10_init_5 (by decide) ?_
  refine lv_bipush (v := 10) X.1 X.2.1 dX10_init_6 (by decide) ?_
  refine g_mna X hK hP hS (index := 9) (by decide +kernel) (hAr.at (args := args) hC (w := .arrayOver (.array .int)) (by simp)) (by decide +kernel) (Nat.le_of_ble_eq_true rfl) (Nat.le_of_ble_eq_true rfl) dX10_init_8 (fun H hP hS => ?_)
  generalize eT1 : mnT T (w + 1) = T1 at hP
  generalize eI2 : mnI I (w + 1) = I2 at hP
  generalize eR3 : mnR R (w + 1) = R3 at hP
  have hT1z : T1 (w + 1) = (7, 3) := by rw [← eT1]; exact if_pos rfl
  have hT1o : ∀ c, (w + 1) < c → c < (w + 1) + 4 → T1 c = (1, 10) := fun c h1 h2 => by rw [← eT1]; show (if _ then _ else if _ then _ else _) = _; rw [if_neg (by omega), if_pos ⟨h1, h2⟩]
  have hT1n : ∀ c, ¬ ((w + 1) ≤ c ∧ c < (w + 1) + 4) → T1 c = T c := fun c h => by rw [← eT1]; show (if _ then _ else if _ then _ else _) = _; rw [if_neg (by omega), if_neg (by omega)]
  have hI2n : ∀ c j, ¬ ((w + 1) ≤ c ∧ c < (w + 1) + 4) → I2 c j = I c j := fun c j h => by rw [← eI2]; exact if_neg h
  have hI2z : ∀ c j, (w + 1) ≤ c → c < (w + 1) + 4 → I2 c j = 0 := fun c j h1 h2 => by rw [← eI2]; exact if_pos ⟨h1, h2⟩
  have hR3n : ∀ c j, ¬ ((w + 1) ≤ c ∧ c < (w + 1) + 4) → R3 c j = R c j := fun c j h => by rw [← eR3]; show (if _ then _ else if _ then _ else _) = _; rw [if_neg (by omega), if_neg (by omega)]
  have hR3z : ∀ j, j < 3 → R3 (w + 1) j = some ((w + 1) + 1 + j) := fun j h => by rw [← eR3]; show (if _ then (if _ then _ else _) else _) = _; rw [if_pos rfl, if_pos h]
  have htw := (hT1n w (by omega)).trans htw
  have hP : gP D cy B (w + 5) T1 I2 R3 H := hP
  have hT1o0 := hT1o (w + 2) (by omega) (by omega)
  have hT1o1 := hT1o (w + 3) (by omega) (by omega)
  have hT1o2 := hT1o (w + 4) (by omega) (by omega)
  refine g_putrF 12 0 X hK hP hS htw rfl hinRX10 tyX10 tyX10_ok nmX10 rfl (by decide) k11 (fun _ h => h) rfl hnm rfl (r := some (w + 1)) rfl rfl rfl dX10_init_12 (fun H locs hP hS => ?_)
  generalize eR4 : g2 R3 w 0 (some (w + 1)) = R4 at hP
  refine lv_aload_n X.1 X.2.1 dX10_init_15 rfl (lv_at hl 0 rfl) ?_
  refine lv_iconst (v := 4) X.1 X.2.1 dX10_init_16 (by decide) ?_
  refine g_anewO (k := 4) (t0 := 3) (C := "BarrowPlank$Man") X hK hP hS (index := 16) (by decide +kernel) (va_AO.of (hAr.at (args := args) hC (w := .arrayOver (.object "BarrowPlank$Man")) (by simp))) rfl (N := 4) (fun T I R a h => gE_man h) (by decide) (by decide) (Nat.le_of_ble_eq_true rfl) (Nat.le_of_ble_eq_true rfl) dX10_init_17 (fun H hP hS => ?_)
  generalize eT5 : g1 T1 (w + 5) (4, 4) = T5 at hP
  generalize eI6 : gr I2 (w + 5) (fun _ => 0) = I6 at hP
  generalize eR7 : gr R4 (w + 5) (fun _ => none) = R7 at hP
  have hT5z : T5 (w + 5) = (4, 4) := by rw [← eT5]; exact g1_same
  have hT5n : ∀ c, c ≠ (w + 5) → T5 c = T1 c := fun c h => by rw [← eT5]; exact g1_ne h
  have hI6n : ∀ c j, c ≠ (w + 5) → I6 c j = I2 c j := fun c j h => by rw [← eI6, gr_row h]
  have hI6z : ∀ j, I6 (w + 5) j = 0 := fun j => by rw [← eI6, gr_at]
  have hR7n : ∀ c j, c ≠ (w + 5) → R7 c j = R4 c j := fun c j h => by rw [← eR7, gr_row h]
  have hR7z : ∀ j, R7 (w + 5) j = none := fun j => by rw [← eR7, gr_at]
  have htw := (hT5n w (by omega)).trans htw
  have hT1z := (hT5n (w + 1) (by omega)).trans hT1z
  have hT1o0 := (hT5n (w + 2) (by omega)).trans hT1o0
  have hT1o1 := (hT5n (w + 3) (by omega)).trans hT1o1
  have hT1o2 := (hT5n (w + 4) (by omega)).trans hT1o2
  have hP : gP D cy B (w + 6) T5 I6 R7 H := hP
  refine g_putrF 12 1 X hK hP hS htw rfl hinRX10 tyX10 tyX10_ok nmX10 rfl (by decide) k18 (fun _ h => h) rfl hnm rfl (r := some (w + 5)) rfl rfl rfl dX10_init_20 (fun H locs hP hS => ?_)
  generalize eR8 : g2 R7 w 1 (some (w + 5)) = R8 at hP
  refine lv_aload_n X.1 X.2.1 dX10_init_23 rfl (lv_at hl 0 rfl) ?_
  refine lv_iconst (v := 4) X.1 X.2.1 dX10_init_24 (by decide) ?_
  refine g_newarr (k := 1) (t0 := 0) X hK hP hS (atype := .int) (by decide +kernel) rfl rfl (N := 4) (fun T I R a h => gE_int h) rfl (by decide) (by decide) (Nat.le_of_ble_eq_true rfl) (Nat.le_of_ble_eq_true rfl) dX10_init_25 (fun H hP hS => ?_)
  generalize eT9 : g1 T5 (w + 6) (1, 4) = T9 at hP
  generalize eI10 : gr I6 (w + 6) (fun _ => 0) = I10 at hP
  generalize eR11 : gr R8 (w + 6) (fun _ => none) = R11 at hP
  have hT9z : T9 (w + 6) = (1, 4) := by rw [← eT9]; exact g1_same
  have hT9n : ∀ c, c ≠ (w + 6) → T9 c = T5 c := fun c h => by rw [← eT9]; exact g1_ne h
  have hI10n : ∀ c j, c ≠ (w + 6) → I10 c j = I6 c j := fun c j h => by rw [← eI10, gr_row h]
  have hI10z : ∀ j, I10 (w + 6) j = 0 := fun j => by rw [← eI10, gr_at]
  have hR11n : ∀ c j, c ≠ (w + 6) → R11 c j = R8 c j := fun c j h => by rw [← eR11, gr_row h]
  have hR11z : ∀ j, R11 (w + 6) j = none := fun j => by rw [← eR11, gr_at]
  have htw := (hT9n w (by omega)).trans htw
  have hT1z := (hT9n (w + 1) (by omega)).trans hT1z
  have hT1o0 := (hT9n (w + 2) (by omega)).trans hT1o0
  have hT1o1 := (hT9n (w + 3) (by omega)).trans hT1o1
  have hT1o2 := (hT9n (w + 4) (by omega)).trans hT1o2
  have hT5z := (hT9n (w + 5) (by omega)).trans hT5z
  have hP : gP D cy B (w + 7) T9 I10 R11 H := hP
  refine g_putrF 12 2 X hK hP hS htw rfl hinRX10 tyX10 tyX10_ok nmX10 rfl (by decide) k22 (fun _ h => h) rfl hnm rfl (r := some (w + 6)) rfl rfl rfl dX10_init_27 (fun H locs hP hS => ?_)
  generalize eR12 : g2 R11 w 2 (some (w + 6)) = R12 at hP
  refine lv_aload_n X.1 X.2.1 dX10_init_30 rfl (lv_at hl 0 rfl) ?_
  refine lv_bipush (v := 100) X.1 X.2.1 dX10_init_31 (by decide) ?_
  refine g_newarr (k := 2) (t0 := 1) X hK hP hS (atype := .char) (by decide +kernel) rfl rfl (N := 100) (fun T I R a h => gE_char h) rfl (by decide) (by decide) (Nat.le_of_ble_eq_true rfl) (Nat.le_of_ble_eq_true rfl) dX10_init_33 (fun H hP hS => ?_)
  generalize eT13 : g1 T9 (w + 7) (2, 100) = T13 at hP
  generalize eI14 : gr I10 (w + 7) (fun _ => 0) = I14 at hP
  generalize eR15 : gr R12 (w + 7) (fun _ => none) = R15 at hP
  have hT13z : T13 (w + 7) = (2, 100) := by rw [← eT13]; exact g1_same
  have hT13n : ∀ c, c ≠ (w + 7) → T13 c = T9 c := fun c h => by rw [← eT13]; exact g1_ne h
  have hI14n : ∀ c j, c ≠ (w + 7) → I14 c j = I10 c j := fun c j h => by rw [← eI14, gr_row h]
  have hI14z : ∀ j, I14 (w + 7) j = 0 := fun j => by rw [← eI14, gr_at]
  have hR15n : ∀ c j, c ≠ (w + 7) → R15 c j = R12 c j := fun c j h => by rw [← eR15, gr_row h]
  have hR15z : ∀ j, R15 (w + 7) j = none := fun j => by rw [← eR15, gr_at]
  have htw := (hT13n w (by omega)).trans htw
  have hT1z := (hT13n (w + 1) (by omega)).trans hT1z
  have hT1o0 := (hT13n (w + 2) (by omega)).trans hT1o0
  have hT1o1 := (hT13n (w + 3) (by omega)).trans hT1o1
  have hT1o2 := (hT13n (w + 4) (by omega)).trans hT1o2
  have hT5z := (hT13n (w + 5) (by omega)).trans hT5z
  have hT9z := (hT13n (w + 6) (by omega)).trans hT9z
  have hP : gP D cy B (w + 8) T13 I14 R15 H := hP
  refine g_putrF 12 3 X hK hP hS htw rfl hinRX10 tyX10 tyX10_ok nmX10 rfl (by decide) k26 (fun _ h => h) rfl hnm rfl (r := some (w + 7)) rfl rfl rfl dX10_init_35 (fun H locs hP hS => ?_)
  generalize eR16 : g2 R15 w 3 (some (w + 7)) = R16 at hP
  refine lv_aload_n X.1 X.2.1 dX10_init_38 rfl (lv_at hl 0 rfl) ?_
  refine lv_bipush (v := 12) X.1 X.2.1 dX10_init_39 (by decide) ?_
  refine g_newarr (k := 1) (t0 := 0) X hK hP hS (atype := .int) (by decide +kernel) rfl rfl (N := 12) (fun T I R a h => gE_int h) rfl (by decide) (by decide) (Nat.le_of_ble_eq_true rfl) (Nat.le_of_ble_eq_true rfl) dX10_init_41 (fun H hP hS => ?_)
  generalize eT17 : g1 T13 (w + 8) (1, 12) = T17 at hP
  generalize eI18 : gr I14 (w + 8) (fun _ => 0) = I18 at hP
  generalize eR19 : gr R16 (w + 8) (fun _ => none) = R19 at hP
  have hT17z : T17 (w + 8) = (1, 12) := by rw [← eT17]; exact g1_same
  have hT17n : ∀ c, c ≠ (w + 8) → T17 c = T13 c := fun c h => by rw [← eT17]; exact g1_ne h
  have hI18n : ∀ c j, c ≠ (w + 8) → I18 c j = I14 c j := fun c j h => by rw [← eI18, gr_row h]
  have hI18z : ∀ j, I18 (w + 8) j = 0 := fun j => by rw [← eI18, gr_at]
  have hR19n : ∀ c j, c ≠ (w + 8) → R19 c j = R16 c j := fun c j h => by rw [← eR19, gr_row h]
  have hR19z : ∀ j, R19 (w + 8) j = none := fun j => by rw [← eR19, gr_at]
  have htw := (hT17n w (by omega)).trans htw
  have hT1z := (hT17n (w + 1) (by omega)).trans hT1z
  have hT1o0 := (hT17n (w + 2) (by omega)).trans hT1o0
  have hT1o1 := (hT17n (w + 3) (by omega)).trans hT1o1
  have hT1o2 := (hT17n (w + 4) (by omega)).trans hT1o2
  have hT5z := (hT17n (w + 5) (by omega)).trans hT5z
  have hT9z := (hT17n (w + 6) (by omega)).trans hT9z
  have hT13z := (hT17n (w + 7) (by omega)).trans hT13z
  have hP : gP D cy B (w + 9) T17 I18 R19 H := hP
  refine g_putrF 12 4 X hK hP hS htw rfl hinRX10 tyX10 tyX10_ok nmX10 rfl (by decide) k30 (fun _ h => h) rfl hnm rfl (r := some (w + 8)) rfl rfl rfl dX10_init_43 (fun H locs hP hS => ?_)
  generalize eR20 : g2 R19 w 4 (some (w + 8)) = R20 at hP
  refine lv_aload_n X.1 X.2.1 dX10_init_46 rfl (lv_at hl 0 rfl) ?_
  refine lv_bipush (v := 100) X.1 X.2.1 dX10_init_47 (by decide) ?_
  refine g_puti 12 8 X hK hP hS htw rfl hinRX10 tyX10 tyX10_ok nmX10 rfl (by decide) k33 (fun _ h => h) rfl rfl rfl dX10_init_49 (fun H locs hP hS => ?_)
  generalize eI21 : g2 I18 w 8 100 = I21 at hP
  refine lv_aload_n X.1 X.2.1 dX10_init_52 rfl (lv_at hl 0 rfl) ?_
  refine lv_iconst (v := 4) X.1 X.2.1 dX10_init_53 (by decide) ?_
  refine g_anewO (k := 5) (t0 := 4) (C := "BarrowPlank$Trip") X hK hP hS (index := 37) (by decide +kernel) (va_AO.of (hAr.at (args := args) hC (w := .arrayOver (.object "BarrowPlank$Trip")) (by simp))) rfl (N := 4) (fun T I R a h => gE_trip h) (by decide) (by decide) (Nat.le_of_ble_eq_true rfl) (Nat.le_of_ble_eq_true rfl) dX10_init_54 (fun H hP hS => ?_)
  generalize eT22 : g1 T17 (w + 9) (5, 4) = T22 at hP
  generalize eI23 : gr I21 (w + 9) (fun _ => 0) = I23 at hP
  generalize eR24 : gr R20 (w + 9) (fun _ => none) = R24 at hP
  have hT22z : T22 (w + 9) = (5, 4) := by rw [← eT22]; exact g1_same
  have hT22n : ∀ c, c ≠ (w + 9) → T22 c = T17 c := fun c h => by rw [← eT22]; exact g1_ne h
  have hI23n : ∀ c j, c ≠ (w + 9) → I23 c j = I21 c j := fun c j h => by rw [← eI23, gr_row h]
  have hI23z : ∀ j, I23 (w + 9) j = 0 := fun j => by rw [← eI23, gr_at]
  have hR24n : ∀ c j, c ≠ (w + 9) → R24 c j = R20 c j := fun c j h => by rw [← eR24, gr_row h]
  have hR24z : ∀ j, R24 (w + 9) j = none := fun j => by rw [← eR24, gr_at]
  have htw := (hT22n w (by omega)).trans htw
  have hT1z := (hT22n (w + 1) (by omega)).trans hT1z
  have hT1o0 := (hT22n (w + 2) (by omega)).trans hT1o0
  have hT1o1 := (hT22n (w + 3) (by omega)).trans hT1o1
  have hT1o2 := (hT22n (w + 4) (by omega)).trans hT1o2
  have hT5z := (hT22n (w + 5) (by omega)).trans hT5z
  have hT9z := (hT22n (w + 6) (by omega)).trans hT9z
  have hT13z := (hT22n (w + 7) (by omega)).trans hT13z
  have hT17z := (hT22n (w + 8) (by omega)).trans hT17z
  have hP : gP D cy B (w + 10) T22 I23 R24 H := hP
  refine g_putrF 12 14 X hK hP hS htw rfl hinRX10 tyX10 tyX10_ok nmX10 rfl (by decide) k39 (fun _ h => h) rfl hnm rfl (r := some (w + 9)) rfl rfl rfl dX10_init_57 (fun H locs hP hS => ?_)
  generalize eR25 : g2 R24 w 14 (some (w + 9)) = R25 at hP
  refine lv_aload_n X.1 X.2.1 dX10_init_60 rfl (lv_at hl 0 rfl) ?_
  refine lv_bipush (v := 6) X.1 X.2.1 dX10_init_61 (by decide) ?_
  refine g_newarr (k := 1) (t0 := 0) X hK hP hS (atype := .int) (by decide +kernel) rfl rfl (N := 6) (fun T I R a h => gE_int h) rfl (by decide) (by decide) (Nat.le_of_ble_eq_true rfl) (Nat.le_of_ble_eq_true rfl) dX10_init_63 (fun H hP hS => ?_)
  generalize eT26 : g1 T22 (w + 10) (1, 6) = T26 at hP
  generalize eI27 : gr I23 (w + 10) (fun _ => 0) = I27 at hP
  generalize eR28 : gr R25 (w + 10) (fun _ => none) = R28 at hP
  have hT26z : T26 (w + 10) = (1, 6) := by rw [← eT26]; exact g1_same
  have hT26n : ∀ c, c ≠ (w + 10) → T26 c = T22 c := fun c h => by rw [← eT26]; exact g1_ne h
  have hI27n : ∀ c j, c ≠ (w + 10) → I27 c j = I23 c j := fun c j h => by rw [← eI27, gr_row h]
  have hI27z : ∀ j, I27 (w + 10) j = 0 := fun j => by rw [← eI27, gr_at]
  have hR28n : ∀ c j, c ≠ (w + 10) → R28 c j = R25 c j := fun c j h => by rw [← eR28, gr_row h]
  have hR28z : ∀ j, R28 (w + 10) j = none := fun j => by rw [← eR28, gr_at]
  have htw := (hT26n w (by omega)).trans htw
  have hT1z := (hT26n (w + 1) (by omega)).trans hT1z
  have hT1o0 := (hT26n (w + 2) (by omega)).trans hT1o0
  have hT1o1 := (hT26n (w + 3) (by omega)).trans hT1o1
  have hT1o2 := (hT26n (w + 4) (by omega)).trans hT1o2
  have hT5z := (hT26n (w + 5) (by omega)).trans hT5z
  have hT9z := (hT26n (w + 6) (by omega)).trans hT9z
  have hT13z := (hT26n (w + 7) (by omega)).trans hT13z
  have hT17z := (hT26n (w + 8) (by omega)).trans hT17z
  have hT22z := (hT26n (w + 9) (by omega)).trans hT22z
  have hP : gP D cy B (w + 11) T26 I27 R28 H := hP
  refine g_putrF 12 15 X hK hP hS htw rfl hinRX10 tyX10 tyX10_ok nmX10 rfl (by decide) k45 (fun _ h => h) rfl hnm rfl (r := some (w + 10)) rfl rfl rfl dX10_init_65 (fun H locs hP hS => ?_)
  generalize eR29 : g2 R28 w 15 (some (w + 10)) = R29 at hP
  refine lv_aload_n X.1 X.2.1 dX10_init_68 rfl (lv_at hl 0 rfl) ?_
  refine lv_aload_n X.1 X.2.1 dX10_init_69 rfl (lv_at hl 1 rfl) ?_
  refine g_putr 12 12 X hK hP hS htw rfl hinRX10 tyX10 tyX10_ok nmX10 rfl (by decide) k48 (fun _ h => h) rfl (r := some a) rfl rfl rfl dX10_init_70 (fun H locs hP hS => ?_)
  generalize eR30 : g2 R29 w 12 (some a) = R30 at hP
  refine lv_iconst (v := 0) X.1 X.2.1 dX10_init_73 (by decide) ?_
  refine lv_istore_n (lv' := [(2, .int 0), (0, .ref w), (1, .ref a)]) X.1 X.2.1 dX10_init_74 rfl hl (by decide) rfl (fun ls hl => ?_)
  have hl : lv_has ls 3 [(0, .ref w), (2, .int 0)] := lv_sub hl [1, 0] rfl
  refine lv_iload_n X.1 X.2.1 dX10_init_75 rfl (lv_at hl 1 rfl) ?_
  refine lv_iconst (v := 4) X.1 X.2.1 dX10_init_76 (by decide) ?_
  refine lv_icmp_ge (tgt := 99) X.1 X.2.1 dX10_init_77 (by decide) (fun c77 => ?_) (fun c77 => ?_)
  · exact absurd c77 (by decide)
  · have n77 : 0 < 4 := gq_nle c77 (show (4 : Int32) = nI 4 from rfl) (show (0 : Int32) = nI 0 from rfl) (by omega) (by omega)
    refine lv_aload_n X.1 X.2.1 dX10_init_80 rfl (lv_at hl 0 rfl) ?_
    refine g_getr 12 14 X hK hP htw rfl hinRX10 rfl (by decide) k39 (fun _ h => h) dX10_init_81 (show va_rf (R30 w 14) = .ref (w + 9) from by rw [(gs_neR eR30 (by omega) (gs_neR eR29 (by omega) ((hR28n _ _ (by omega)).trans (gs_atR eR25 (by omega) (by omega)))))]; rfl) ?_
    refine lv_iload_n X.1 X.2.1 dX10_init_84 rfl (lv_at hl 1 rfl) ?_
    refine g_new 10 X hK hP hS rfl hinRX8 tyX8 tyX8_ok (index := 37) (by decide +kernel) (by decide +kernel) (by decide +kernel) ndX8 (Nat.le_of_ble_eq_true rfl) (Nat.le_of_ble_eq_true rfl) dX10_init_85 (fun H hP hS => ?_)
    generalize eT31 : g1 T26 (w + 11) (10 + 8, 0) = T31 at hP
    generalize eI32 : gr I27 (w + 11) (fun _ => 0) = I32 at hP
    generalize eR33 : gr R30 (w + 11) (fun _ => none) = R33 at hP
    have hT31z : T31 (w + 11) = (10 + 8, 0) := by rw [← eT31]; exact g1_same
    have hT31n : ∀ c, c ≠ (w + 11) → T31 c = T26 c := fun c h => by rw [← eT31]; exact g1_ne h
    have hI32n : ∀ c j, c ≠ (w + 11) → I32 c j = I27 c j := fun c j h => by rw [← eI32, gr_row h]
    have hI32z : ∀ j, I32 (w + 11) j = 0 := fun j => by rw [← eI32, gr_at]
    have hR33n : ∀ c j, c ≠ (w + 11) → R33 c j = R30 c j := fun c j h => by rw [← eR33, gr_row h]
    have hR33z : ∀ j, R33 (w + 11) j = none := fun j => by rw [← eR33, gr_at]
    have htw := (hT31n w (by omega)).trans htw
    have hT1z := (hT31n (w + 1) (by omega)).trans hT1z
    have hT1o0 := (hT31n (w + 2) (by omega)).trans hT1o0
    have hT1o1 := (hT31n (w + 3) (by omega)).trans hT1o1
    have hT1o2 := (hT31n (w + 4) (by omega)).trans hT1o2
    have hT5z := (hT31n (w + 5) (by omega)).trans hT5z
    have hT9z := (hT31n (w + 6) (by omega)).trans hT9z
    have hT13z := (hT31n (w + 7) (by omega)).trans hT13z
    have hT17z := (hT31n (w + 8) (by omega)).trans hT17z
    have hT22z := (hT31n (w + 9) (by omega)).trans hT22z
    have hT26z := (hT31n (w + 10) (by omega)).trans hT26z
    have hP : gP D cy B (w + 12) T31 I32 R33 H := hP
    refine lv_dup X.1 X.2.1 dX10_init_88 rfl ?_
    refine g_run_v (f := fun u => u) (va_runIN (As := []) (rest := [.ref (w + 11), .int 0, .ref (w + 9)]) X (n_trip (b := (w + 11))) ⟨va_cnB (host := "BarrowPlank") 0 X.2.2.2.2 gX10_init_X8_init_n52 rfl rfl rfl (hNst.at (args := #[]) hC (w := .methodLinkNest RX10 52 yX8_init "BarrowPlank") (by simp)) (X.2.2.2.2 (.initialized yX8_init.cls) (by decide +kernel)) ⟨by decide, by decide, by decide +kernel⟩ ⟨Nat.le_of_ble_eq_true rfl, Nat.le_of_ble_eq_true rfl⟩, rfl, X.2.2.2.2 (.instanceMethod yX8_init) (by decide +kernel)⟩ ⟨gW0_blind, g_pre hK hP hS hC hB⟩ (g := F0 m 89 ls [.ref (w + 11), .ref (w + 11), .int 0, .ref (w + 9)]) rfl rfl hl.1 rfl (lv_room (Nat.le_of_ble_eq_true rfl)) dX10_init_89 ⟨Nat.le_of_ble_eq_true rfl, Nat.le_of_ble_eq_true rfl⟩) hS (fun u H locs hq hP hS => ?_)
    subst hq
    have hP : gP D cy B (w + 12) T31 I32 R33 H := hP
    refine g_aast (kA := 4) (t0 := 4) (E := "BarrowPlank$Trip") 0 X hK hP hS hT22z (fun R => gE_trip hT22z) rfl (va_rAnyS hK hP hT31z) (gIx_of (show (0 : Int32) = nI 0 from rfl) (by omega) (by omega)) dX10_init_92 (fun H locs hP hS => ?_)
    generalize eR34 : g2 R33 (w + 9) 0 (some (w + 11)) = R34 at hP
    have hP : gP D cy B (w + 12) T31 I32 R34 H := hP
    refine lv_iinc (v := nI (0 + 1)) (lv' := [(2, .int (nI (0 + 1))), (0, .ref w)]) X.1 X.2.1 dX10_init_93 hl (k := 1) rfl (gn_inc (show (0 : Int32) = nI 0 from rfl) 1) (by decide) rfl (fun ls hl => ?_)
    refine lv_goto (tgt := 75) X.1 X.2.1 dX10_init_96 (by decide) ?_
    have hl : lv_has ls 3 [(0, .ref w), (2, .int 1)] := lv_sub hl [1, 0] rfl
    refine lv_iload_n X.1 X.2.1 dX10_init_75 rfl (lv_at hl 1 rfl) ?_
    refine lv_iconst (v := 4) X.1 X.2.1 dX10_init_76 (by decide) ?_
    refine lv_icmp_ge (tgt := 99) X.1 X.2.1 dX10_init_77 (by decide) (fun c77_35 => ?_) (fun c77_35 => ?_)
    · exact absurd c77_35 (by decide)
    · have n77_35 : 1 < 4 := gq_nle c77_35 (show (4 : Int32) = nI 4 from rfl) (show (1 : Int32) = nI 1 from rfl) (by omega) (by omega)
      refine lv_aload_n X.1 X.2.1 dX10_init_80 rfl (lv_at hl 0 rfl) ?_
      refine g_getr 12 14 X hK hP htw rfl hinRX10 rfl (by decide) k39 (fun _ h => h) dX10_init_81 (show va_rf (R34 w 14) = .ref (w + 9) from by rw [(gs_neR eR34 (by omega) ((hR33n _ _ (by omega)).trans (gs_neR eR30 (by omega) (gs_neR eR29 (by omega) ((hR28n _ _ (by omega)).trans (gs_atR eR25 (by omega) (by omega)))))))]; rfl) ?_
      refine lv_iload_n X.1 X.2.1 dX10_init_84 rfl (lv_at hl 1 rfl) ?_
      refine g_new 10 X hK hP hS rfl hinRX8 tyX8 tyX8_ok (index := 37) (by decide +kernel) (by decide +kernel) (by decide +kernel) ndX8 (Nat.le_of_ble_eq_true rfl) (Nat.le_of_ble_eq_true rfl) dX10_init_85 (fun H hP hS => ?_)
      generalize eT36 : g1 T31 (w + 12) (10 + 8, 0) = T36 at hP
      generalize eI37 : gr I32 (w + 12) (fun _ => 0) = I37 at hP
      generalize eR38 : gr R34 (w + 12) (fun _ => none) = R38 at hP
      have hT36z : T36 (w + 12) = (10 + 8, 0) := by rw [← eT36]; exact g1_same
      have hT36n : ∀ c, c ≠ (w + 12) → T36 c = T31 c := fun c h => by rw [← eT36]; exact g1_ne h
      have hI37n : ∀ c j, c ≠ (w + 12) → I37 c j = I32 c j := fun c j h => by rw [← eI37, gr_row h]
      have hI37z : ∀ j, I37 (w + 12) j = 0 := fun j => by rw [← eI37, gr_at]
      have hR38n : ∀ c j, c ≠ (w + 12) → R38 c j = R34 c j := fun c j h => by rw [← eR38, gr_row h]
      have hR38z : ∀ j, R38 (w + 12) j = none := fun j => by rw [← eR38, gr_at]
      have htw := (hT36n w (by omega)).trans htw
      have hT1z := (hT36n (w + 1) (by omega)).trans hT1z
      have hT1o0 := (hT36n (w + 2) (by omega)).trans hT1o0
      have hT1o1 := (hT36n (w + 3) (by omega)).trans hT1o1
      have hT1o2 := (hT36n (w + 4) (by omega)).trans hT1o2
      have hT5z := (hT36n (w + 5) (by omega)).trans hT5z
      have hT9z := (hT36n (w + 6) (by omega)).trans hT9z
      have hT13z := (hT36n (w + 7) (by omega)).trans hT13z
      have hT17z := (hT36n (w + 8) (by omega)).trans hT17z
      have hT22z := (hT36n (w + 9) (by omega)).trans hT22z
      have hT26z := (hT36n (w + 10) (by omega)).trans hT26z
      have hT31z := (hT36n (w + 11) (by omega)).trans hT31z
      have hP : gP D cy B (w + 13) T36 I37 R38 H := hP
      refine lv_dup X.1 X.2.1 dX10_init_88 rfl ?_
      refine g_run_v (f := fun u => u) (va_runIN (As := []) (rest := [.ref (w + 12), .int 1, .ref (w + 9)]) X (n_trip (b := (w + 12))) ⟨va_cnB (host := "BarrowPlank") 0 X.2.2.2.2 gX10_init_X8_init_n52 rfl rfl rfl (hNst.at (args := #[]) hC (w := .methodLinkNest RX10 52 yX8_init "BarrowPlank") (by simp)) (X.2.2.2.2 (.initialized yX8_init.cls) (by decide +kernel)) ⟨by decide, by decide, by decide +kernel⟩ ⟨Nat.le_of_ble_eq_true rfl, Nat.le_of_ble_eq_true rfl⟩, rfl, X.2.2.2.2 (.instanceMethod yX8_init) (by decide +kernel)⟩ ⟨gW0_blind, g_pre hK hP hS hC hB⟩ (g := F0 m 89 ls [.ref (w + 12), .ref (w + 12), .int 1, .ref (w + 9)]) rfl rfl hl.1 rfl (lv_room (Nat.le_of_ble_eq_true rfl)) dX10_init_89 ⟨Nat.le_of_ble_eq_true rfl, Nat.le_of_ble_eq_true rfl⟩) hS (fun u H locs hq hP hS => ?_)
      subst hq
      have hP : gP D cy B (w + 13) T36 I37 R38 H := hP
      refine g_aast (kA := 4) (t0 := 4) (E := "BarrowPlank$Trip") 1 X hK hP hS hT22z (fun R => gE_trip hT22z) rfl (va_rAnyS hK hP hT36z) (gIx_of (show (1 : Int32) = nI 1 from rfl) (by omega) (by omega)) dX10_init_92 (fun H locs hP hS => ?_)
      generalize eR39 : g2 R38 (w + 9) 1 (some (w + 12)) = R39 at hP
      have hP : gP D cy B (w + 13) T36 I37 R39 H := hP
      refine lv_iinc (v := nI (1 + 1)) (lv' := [(2, .int (nI (1 + 1))), (0, .ref w)]) X.1 X.2.1 dX10_init_93 hl (k := 1) rfl (gn_inc (show (1 : Int32) = nI 1 from rfl) 1) (by decide) rfl (fun ls hl => ?_)
      refine lv_goto (tgt := 75) X.1 X.2.1 dX10_init_96 (by decide) ?_
      have hl : lv_has ls 3 [(0, .ref w), (2, .int 2)] := lv_sub hl [1, 0] rfl
      refine lv_iload_n X.1 X.2.1 dX10_init_75 rfl (lv_at hl 1 rfl) ?_
      refine lv_iconst (v := 4) X.1 X.2.1 dX10_init_76 (by decide) ?_
      refine lv_icmp_ge (tgt := 99) X.1 X.2.1 dX10_init_77 (by decide) (fun c77_40 => ?_) (fun c77_40 => ?_)
      · exact absurd c77_40 (by decide)
      · have n77_40 : 2 < 4 := gq_nle c77_40 (show (4 : Int32) = nI 4 from rfl) (show (2 : Int32) = nI 2 from rfl) (by omega) (by omega)
        refine lv_aload_n X.1 X.2.1 dX10_init_80 rfl (lv_at hl 0 rfl) ?_
        refine g_getr 12 14 X hK hP htw rfl hinRX10 rfl (by decide) k39 (fun _ h => h) dX10_init_81 (show va_rf (R39 w 14) = .ref (w + 9) from by rw [(gs_neR eR39 (by omega) ((hR38n _ _ (by omega)).trans (gs_neR eR34 (by omega) ((hR33n _ _ (by omega)).trans (gs_neR eR30 (by omega) (gs_neR eR29 (by omega) ((hR28n _ _ (by omega)).trans (gs_atR eR25 (by omega) (by omega)))))))))]; rfl) ?_
        refine lv_iload_n X.1 X.2.1 dX10_init_84 rfl (lv_at hl 1 rfl) ?_
        refine g_new 10 X hK hP hS rfl hinRX8 tyX8 tyX8_ok (index := 37) (by decide +kernel) (by decide +kernel) (by decide +kernel) ndX8 (Nat.le_of_ble_eq_true rfl) (Nat.le_of_ble_eq_true rfl) dX10_init_85 (fun H hP hS => ?_)
        generalize eT41 : g1 T36 (w + 13) (10 + 8, 0) = T41 at hP
        generalize eI42 : gr I37 (w + 13) (fun _ => 0) = I42 at hP
        generalize eR43 : gr R39 (w + 13) (fun _ => none) = R43 at hP
        have hT41z : T41 (w + 13) = (10 + 8, 0) := by rw [← eT41]; exact g1_same
        have hT41n : ∀ c, c ≠ (w + 13) → T41 c = T36 c := fun c h => by rw [← eT41]; exact g1_ne h
        have hI42n : ∀ c j, c ≠ (w + 13) → I42 c j = I37 c j := fun c j h => by rw [← eI42, gr_row h]
        have hI42z : ∀ j, I42 (w + 13) j = 0 := fun j => by rw [← eI42, gr_at]
        have hR43n : ∀ c j, c ≠ (w + 13) → R43 c j = R39 c j := fun c j h => by rw [← eR43, gr_row h]
        have hR43z : ∀ j, R43 (w + 13) j = none := fun j => by rw [← eR43, gr_at]
        have htw := (hT41n w (by omega)).trans htw
        have hT1z := (hT41n (w + 1) (by omega)).trans hT1z
        have hT1o0 := (hT41n (w + 2) (by omega)).trans hT1o0
        have hT1o1 := (hT41n (w + 3) (by omega)).trans hT1o1
        have hT1o2 := (hT41n (w + 4) (by omega)).trans hT1o2
        have hT5z := (hT41n (w + 5) (by omega)).trans hT5z
        have hT9z := (hT41n (w + 6) (by omega)).trans hT9z
        have hT13z := (hT41n (w + 7) (by omega)).trans hT13z
        have hT17z := (hT41n (w + 8) (by omega)).trans hT17z
        have hT22z := (hT41n (w + 9) (by omega)).trans hT22z
        have hT26z := (hT41n (w + 10) (by omega)).trans hT26z
        have hT31z := (hT41n (w + 11) (by omega)).trans hT31z
        have hT36z := (hT41n (w + 12) (by omega)).trans hT36z
        have hP : gP D cy B (w + 14) T41 I42 R43 H := hP
        refine lv_dup X.1 X.2.1 dX10_init_88 rfl ?_
        refine g_run_v (f := fun u => u) (va_runIN (As := []) (rest := [.ref (w + 13), .int 2, .ref (w + 9)]) X (n_trip (b := (w + 13))) ⟨va_cnB (host := "BarrowPlank") 0 X.2.2.2.2 gX10_init_X8_init_n52 rfl rfl rfl (hNst.at (args := #[]) hC (w := .methodLinkNest RX10 52 yX8_init "BarrowPlank") (by simp)) (X.2.2.2.2 (.initialized yX8_init.cls) (by decide +kernel)) ⟨by decide, by decide, by decide +kernel⟩ ⟨Nat.le_of_ble_eq_true rfl, Nat.le_of_ble_eq_true rfl⟩, rfl, X.2.2.2.2 (.instanceMethod yX8_init) (by decide +kernel)⟩ ⟨gW0_blind, g_pre hK hP hS hC hB⟩ (g := F0 m 89 ls [.ref (w + 13), .ref (w + 13), .int 2, .ref (w + 9)]) rfl rfl hl.1 rfl (lv_room (Nat.le_of_ble_eq_true rfl)) dX10_init_89 ⟨Nat.le_of_ble_eq_true rfl, Nat.le_of_ble_eq_true rfl⟩) hS (fun u H locs hq hP hS => ?_)
        subst hq
        have hP : gP D cy B (w + 14) T41 I42 R43 H := hP
        refine g_aast (kA := 4) (t0 := 4) (E := "BarrowPlank$Trip") 2 X hK hP hS hT22z (fun R => gE_trip hT22z) rfl (va_rAnyS hK hP hT41z) (gIx_of (show (2 : Int32) = nI 2 from rfl) (by omega) (by omega)) dX10_init_92 (fun H locs hP hS => ?_)
        generalize eR44 : g2 R43 (w + 9) 2 (some (w + 13)) = R44 at hP
        have hP : gP D cy B (w + 14) T41 I42 R44 H := hP
        refine lv_iinc (v := nI (2 + 1)) (lv' := [(2, .int (nI (2 + 1))), (0, .ref w)]) X.1 X.2.1 dX10_init_93 hl (k := 1) rfl (gn_inc (show (2 : Int32) = nI 2 from rfl) 1) (by decide) rfl (fun ls hl => ?_)
        refine lv_goto (tgt := 75) X.1 X.2.1 dX10_init_96 (by decide) ?_
        have hl : lv_has ls 3 [(0, .ref w), (2, .int 3)] := lv_sub hl [1, 0] rfl
        refine lv_iload_n X.1 X.2.1 dX10_init_75 rfl (lv_at hl 1 rfl) ?_
        refine lv_iconst (v := 4) X.1 X.2.1 dX10_init_76 (by decide) ?_
        refine lv_icmp_ge (tgt := 99) X.1 X.2.1 dX10_init_77 (by decide) (fun c77_45 => ?_) (fun c77_45 => ?_)
        · exact absurd c77_45 (by decide)
        · have n77_45 : 3 < 4 := gq_nle c77_45 (show (4 : Int32) = nI 4 from rfl) (show (3 : Int32) = nI 3 from rfl) (by omega) (by omega)
          refine lv_aload_n X.1 X.2.1 dX10_init_80 rfl (lv_at hl 0 rfl) ?_
          refine g_getr 12 14 X hK hP htw rfl hinRX10 rfl (by decide) k39 (fun _ h => h) dX10_init_81 (show va_rf (R44 w 14) = .ref (w + 9) from by rw [(gs_neR eR44 (by omega) ((hR43n _ _ (by omega)).trans (gs_neR eR39 (by omega) ((hR38n _ _ (by omega)).trans (gs_neR eR34 (by omega) ((hR33n _ _ (by omega)).trans (gs_neR eR30 (by omega) (gs_neR eR29 (by omega) ((hR28n _ _ (by omega)).trans (gs_atR eR25 (by omega) (by omega)))))))))))]; rfl) ?_
          refine lv_iload_n X.1 X.2.1 dX10_init_84 rfl (lv_at hl 1 rfl) ?_
          refine g_new 10 X hK hP hS rfl hinRX8 tyX8 tyX8_ok (index := 37) (by decide +kernel) (by decide +kernel) (by decide +kernel) ndX8 (Nat.le_of_ble_eq_true rfl) (Nat.le_of_ble_eq_true rfl) dX10_init_85 (fun H hP hS => ?_)
          generalize eT46 : g1 T41 (w + 14) (10 + 8, 0) = T46 at hP
          generalize eI47 : gr I42 (w + 14) (fun _ => 0) = I47 at hP
          generalize eR48 : gr R44 (w + 14) (fun _ => none) = R48 at hP
          have hT46z : T46 (w + 14) = (10 + 8, 0) := by rw [← eT46]; exact g1_same
          have hT46n : ∀ c, c ≠ (w + 14) → T46 c = T41 c := fun c h => by rw [← eT46]; exact g1_ne h
          have hI47n : ∀ c j, c ≠ (w + 14) → I47 c j = I42 c j := fun c j h => by rw [← eI47, gr_row h]
          have hI47z : ∀ j, I47 (w + 14) j = 0 := fun j => by rw [← eI47, gr_at]
          have hR48n : ∀ c j, c ≠ (w + 14) → R48 c j = R44 c j := fun c j h => by rw [← eR48, gr_row h]
          have hR48z : ∀ j, R48 (w + 14) j = none := fun j => by rw [← eR48, gr_at]
          have htw := (hT46n w (by omega)).trans htw
          have hT1z := (hT46n (w + 1) (by omega)).trans hT1z
          have hT1o0 := (hT46n (w + 2) (by omega)).trans hT1o0
          have hT1o1 := (hT46n (w + 3) (by omega)).trans hT1o1
          have hT1o2 := (hT46n (w + 4) (by omega)).trans hT1o2
          have hT5z := (hT46n (w + 5) (by omega)).trans hT5z
          have hT9z := (hT46n (w + 6) (by omega)).trans hT9z
          have hT13z := (hT46n (w + 7) (by omega)).trans hT13z
          have hT17z := (hT46n (w + 8) (by omega)).trans hT17z
          have hT22z := (hT46n (w + 9) (by omega)).trans hT22z
          have hT26z := (hT46n (w + 10) (by omega)).trans hT26z
          have hT31z := (hT46n (w + 11) (by omega)).trans hT31z
          have hT36z := (hT46n (w + 12) (by omega)).trans hT36z
          have hT41z := (hT46n (w + 13) (by omega)).trans hT41z
          have hP : gP D cy B (w + 15) T46 I47 R48 H := hP
          refine lv_dup X.1 X.2.1 dX10_init_88 rfl ?_
          refine g_run_v (f := fun u => u) (va_runIN (As := []) (rest := [.ref (w + 14), .int 3, .ref (w + 9)]) X (n_trip (b := (w + 14))) ⟨va_cnB (host := "BarrowPlank") 0 X.2.2.2.2 gX10_init_X8_init_n52 rfl rfl rfl (hNst.at (args := #[]) hC (w := .methodLinkNest RX10 52 yX8_init "BarrowPlank") (by simp)) (X.2.2.2.2 (.initialized yX8_init.cls) (by decide +kernel)) ⟨by decide, by decide, by decide +kernel⟩ ⟨Nat.le_of_ble_eq_true rfl, Nat.le_of_ble_eq_true rfl⟩, rfl, X.2.2.2.2 (.instanceMethod yX8_init) (by decide +kernel)⟩ ⟨gW0_blind, g_pre hK hP hS hC hB⟩ (g := F0 m 89 ls [.ref (w + 14), .ref (w + 14), .int 3, .ref (w + 9)]) rfl rfl hl.1 rfl (lv_room (Nat.le_of_ble_eq_true rfl)) dX10_init_89 ⟨Nat.le_of_ble_eq_true rfl, Nat.le_of_ble_eq_true rfl⟩) hS (fun u H locs hq hP hS => ?_)
          subst hq
          have hP : gP D cy B (w + 15) T46 I47 R48 H := hP
          refine g_aast (kA := 4) (t0 := 4) (E := "BarrowPlank$Trip") 3 X hK hP hS hT22z (fun R => gE_trip hT22z) rfl (va_rAnyS hK hP hT46z) (gIx_of (show (3 : Int32) = nI 3 from rfl) (by omega) (by omega)) dX10_init_92 (fun H locs hP hS => ?_)
          generalize eR49 : g2 R48 (w + 9) 3 (some (w + 14)) = R49 at hP
          have hP : gP D cy B (w + 15) T46 I47 R49 H := hP
          refine lv_iinc (v := nI (3 + 1)) (lv' := [(2, .int (nI (3 + 1))), (0, .ref w)]) X.1 X.2.1 dX10_init_93 hl (k := 1) rfl (gn_inc (show (3 : Int32) = nI 3 from rfl) 1) (by decide) rfl (fun ls hl => ?_)
          refine lv_goto (tgt := 75) X.1 X.2.1 dX10_init_96 (by decide) ?_
          have hl : lv_has ls 3 [(0, .ref w), (2, .int 4)] := lv_sub hl [1, 0] rfl
          refine lv_iload_n X.1 X.2.1 dX10_init_75 rfl (lv_at hl 1 rfl) ?_
          refine lv_iconst (v := 4) X.1 X.2.1 dX10_init_76 (by decide) ?_
          refine lv_icmp_ge (tgt := 99) X.1 X.2.1 dX10_init_77 (by decide) (fun c77_50 => ?_) (fun c77_50 => ?_)
          · have n77_50 : 4 ≤ 4 := gq_le c77_50 (show (4 : Int32) = nI 4 from rfl) (show (4 : Int32) = nI 4 from rfl) (by omega) (by omega)
            have hW : cWk w T46 R49 := by
              refine ⟨fun k t hk => ?_, fun k x hk => ?_⟩
              · rcases k15 (show k < 15 from (List.getElem?_eq_some_iff.mp hk).1) with rfl | rfl | rfl | rfl | rfl | rfl | rfl | rfl | rfl | rfl | rfl | rfl | rfl | rfl | rfl
                · cases hk; exact htw
                · cases hk; exact hT1z
                · cases hk; exact hT1o0
                · cases hk; exact hT1o1
                · cases hk; exact hT1o2
                · cases hk; exact hT5z
                · cases hk; exact hT9z
                · cases hk; exact hT13z
                · cases hk; exact hT17z
                · cases hk; exact hT22z
                · cases hk; exact hT26z
                · cases hk; exact hT31z
                · cases hk; exact hT36z
                · cases hk; exact hT41z
                · cases hk; exact hT46z
              · rcases k14 (show k < 14 from (List.getElem?_eq_some_iff.mp hk).1) with rfl | rfl | rfl | rfl | rfl | rfl | rfl | rfl | rfl | rfl | rfl | rfl | rfl | rfl
                · cases hk; show R49 w 0 = some (w + 1); exact (gs_neR eR49 (by omega) ((hR48n _ _ (by omega)).trans (gs_neR eR44 (by omega) ((hR43n _ _ (by omega)).trans (gs_neR eR39 (by omega) ((hR38n _ _ (by omega)).trans (gs_neR eR34 (by omega) ((hR33n _ _ (by omega)).trans (gs_neR eR30 (by omega) (gs_neR eR29 (by omega) ((hR28n _ _ (by omega)).trans (gs_neR eR25 (by omega) ((hR24n _ _ (by omega)).trans (gs_neR eR20 (by omega) ((hR19n _ _ (by omega)).trans (gs_neR eR16 (by omega) ((hR15n _ _ (by omega)).trans (gs_neR eR12 (by omega) ((hR11n _ _ (by omega)).trans (gs_neR eR8 (by omega) ((hR7n _ _ (by omega)).trans (gs_atR eR4 (by omega) (by omega)))))))))))))))))))))))
                · cases hk; show R49 w 1 = some (w + 5); exact (gs_neR eR49 (by omega) ((hR48n _ _ (by omega)).trans (gs_neR eR44 (by omega) ((hR43n _ _ (by omega)).trans (gs_neR eR39 (by omega) ((hR38n _ _ (by omega)).trans (gs_neR eR34 (by omega) ((hR33n _ _ (by omega)).trans (gs_neR eR30 (by omega) (gs_neR eR29 (by omega) ((hR28n _ _ (by omega)).trans (gs_neR eR25 (by omega) ((hR24n _ _ (by omega)).trans (gs_neR eR20 (by omega) ((hR19n _ _ (by omega)).trans (gs_neR eR16 (by omega) ((hR15n _ _ (by omega)).trans (gs_neR eR12 (by omega) ((hR11n _ _ (by omega)).trans (gs_atR eR8 (by omega) (by omega)))))))))))))))))))))
                · cases hk; show R49 w 2 = some (w + 6); exact (gs_neR eR49 (by omega) ((hR48n _ _ (by omega)).trans (gs_neR eR44 (by omega) ((hR43n _ _ (by omega)).trans (gs_neR eR39 (by omega) ((hR38n _ _ (by omega)).trans (gs_neR eR34 (by omega) ((hR33n _ _ (by omega)).trans (gs_neR eR30 (by omega) (gs_neR eR29 (by omega) ((hR28n _ _ (by omega)).trans (gs_neR eR25 (by omega) ((hR24n _ _ (by omega)).trans (gs_neR eR20 (by omega) ((hR19n _ _ (by omega)).trans (gs_neR eR16 (by omega) ((hR15n _ _ (by omega)).trans (gs_atR eR12 (by omega) (by omega)))))))))))))))))))
                · cases hk; show R49 w 3 = some (w + 7); exact (gs_neR eR49 (by omega) ((hR48n _ _ (by omega)).trans (gs_neR eR44 (by omega) ((hR43n _ _ (by omega)).trans (gs_neR eR39 (by omega) ((hR38n _ _ (by omega)).trans (gs_neR eR34 (by omega) ((hR33n _ _ (by omega)).trans (gs_neR eR30 (by omega) (gs_neR eR29 (by omega) ((hR28n _ _ (by omega)).trans (gs_neR eR25 (by omega) ((hR24n _ _ (by omega)).trans (gs_neR eR20 (by omega) ((hR19n _ _ (by omega)).trans (gs_atR eR16 (by omega) (by omega)))))))))))))))))
                · cases hk; show R49 w 4 = some (w + 8); exact (gs_neR eR49 (by omega) ((hR48n _ _ (by omega)).trans (gs_neR eR44 (by omega) ((hR43n _ _ (by omega)).trans (gs_neR eR39 (by omega) ((hR38n _ _ (by omega)).trans (gs_neR eR34 (by omega) ((hR33n _ _ (by omega)).trans (gs_neR eR30 (by omega) (gs_neR eR29 (by omega) ((hR28n _ _ (by omega)).trans (gs_neR eR25 (by omega) ((hR24n _ _ (by omega)).trans (gs_atR eR20 (by omega) (by omega)))))))))))))))
                · cases hk; show R49 w 14 = some (w + 9); exact (gs_neR eR49 (by omega) ((hR48n _ _ (by omega)).trans (gs_neR eR44 (by omega) ((hR43n _ _ (by omega)).trans (gs_neR eR39 (by omega) ((hR38n _ _ (by omega)).trans (gs_neR eR34 (by omega) ((hR33n _ _ (by omega)).trans (gs_neR eR30 (by omega) (gs_neR eR29 (by omega) ((hR28n _ _ (by omega)).trans (gs_atR eR25 (by omega) (by omega)))))))))))))
                · cases hk; show R49 w 15 = some (w + 10); exact (gs_neR eR49 (by omega) ((hR48n _ _ (by omega)).trans (gs_neR eR44 (by omega) ((hR43n _ _ (by omega)).trans (gs_neR eR39 (by omega) ((hR38n _ _ (by omega)).trans (gs_neR eR34 (by omega) ((hR33n _ _ (by omega)).trans (gs_neR eR30 (by omega) (gs_atR eR29 (by omega) (by omega)))))))))))
                · cases hk; show R49 (w + 1) 0 = some (w + 2); exact (gs_neR eR49 (by omega) ((hR48n _ _ (by omega)).trans (gs_neR eR44 (by omega) ((hR43n _ _ (by omega)).trans (gs_neR eR39 (by omega) ((hR38n _ _ (by omega)).trans (gs_neR eR34 (by omega) ((hR33n _ _ (by omega)).trans (gs_neR eR30 (by omega) (gs_neR eR29 (by omega) ((hR28n _ _ (by omega)).trans (gs_neR eR25 (by omega) ((hR24n _ _ (by omega)).trans (gs_neR eR20 (by omega) ((hR19n _ _ (by omega)).trans (gs_neR eR16 (by omega) ((hR15n _ _ (by omega)).trans (gs_neR eR12 (by omega) ((hR11n _ _ (by omega)).trans (gs_neR eR8 (by omega) ((hR7n _ _ (by omega)).trans (gs_neR eR4 (by omega) (hR3z 0 (by omega))))))))))))))))))))))))
                · cases hk; show R49 (w + 1) 1 = some (w + 3); exact (gs_neR eR49 (by omega) ((hR48n _ _ (by omega)).trans (gs_neR eR44 (by omega) ((hR43n _ _ (by omega)).trans (gs_neR eR39 (by omega) ((hR38n _ _ (by omega)).trans (gs_neR eR34 (by omega) ((hR33n _ _ (by omega)).trans (gs_neR eR30 (by omega) (gs_neR eR29 (by omega) ((hR28n _ _ (by omega)).trans (gs_neR eR25 (by omega) ((hR24n _ _ (by omega)).trans (gs_neR eR20 (by omega) ((hR19n _ _ (by omega)).trans (gs_neR eR16 (by omega) ((hR15n _ _ (by omega)).trans (gs_neR eR12 (by omega) ((hR11n _ _ (by omega)).trans (gs_neR eR8 (by omega) ((hR7n _ _ (by omega)).trans (gs_neR eR4 (by omega) (hR3z 1 (by omega))))))))))))))))))))))))
                · cases hk; show R49 (w + 1) 2 = some (w + 4); exact (gs_neR eR49 (by omega) ((hR48n _ _ (by omega)).trans (gs_neR eR44 (by omega) ((hR43n _ _ (by omega)).trans (gs_neR eR39 (by omega) ((hR38n _ _ (by omega)).trans (gs_neR eR34 (by omega) ((hR33n _ _ (by omega)).trans (gs_neR eR30 (by omega) (gs_neR eR29 (by omega) ((hR28n _ _ (by omega)).trans (gs_neR eR25 (by omega) ((hR24n _ _ (by omega)).trans (gs_neR eR20 (by omega) ((hR19n _ _ (by omega)).trans (gs_neR eR16 (by omega) ((hR15n _ _ (by omega)).trans (gs_neR eR12 (by omega) ((hR11n _ _ (by omega)).trans (gs_neR eR8 (by omega) ((hR7n _ _ (by omega)).trans (gs_neR eR4 (by omega) (hR3z 2 (by omega))))))))))))))))))))))))
                · cases hk; show R49 (w + 9) 0 = some (w + 11); exact (gs_neR eR49 (by omega) ((hR48n _ _ (by omega)).trans (gs_neR eR44 (by omega) ((hR43n _ _ (by omega)).trans (gs_neR eR39 (by omega) ((hR38n _ _ (by omega)).trans (gs_atR eR34 (by omega) (by omega))))))))
                · cases hk; show R49 (w + 9) 1 = some (w + 12); exact (gs_neR eR49 (by omega) ((hR48n _ _ (by omega)).trans (gs_neR eR44 (by omega) ((hR43n _ _ (by omega)).trans (gs_atR eR39 (by omega) (by omega))))))
                · cases hk; show R49 (w + 9) 2 = some (w + 13); exact (gs_neR eR49 (by omega) ((hR48n _ _ (by omega)).trans (gs_atR eR44 (by omega) (by omega))))
                · cases hk; show R49 (w + 9) 3 = some (w + 14); exact (gs_atR eR49 (by omega) (by omega))
            have hI9 : ∀ c j, c < w → I47 c j = I c j := fun c j h => (hI47n _ _ (by omega)).trans ((hI42n _ _ (by omega)).trans ((hI37n _ _ (by omega)).trans ((hI32n _ _ (by omega)).trans ((hI27n _ _ (by omega)).trans ((hI23n _ _ (by omega)).trans (gs_ne eI21 (by omega) ((hI18n _ _ (by omega)).trans ((hI14n _ _ (by omega)).trans ((hI10n _ _ (by omega)).trans ((hI6n _ _ (by omega)).trans ((hI2n _ _ (by omega)).trans (rfl))))))))))))
            have hR9 : ∀ c j, c < w → R49 c j = R c j := fun c j h => gs_neR eR49 (by omega) ((hR48n _ _ (by omega)).trans (gs_neR eR44 (by omega) ((hR43n _ _ (by omega)).trans (gs_neR eR39 (by omega) ((hR38n _ _ (by omega)).trans (gs_neR eR34 (by omega) ((hR33n _ _ (by omega)).trans (gs_neR eR30 (by omega) (gs_neR eR29 (by omega) ((hR28n _ _ (by omega)).trans (gs_neR eR25 (by omega) ((hR24n _ _ (by omega)).trans (gs_neR eR20 (by omega) ((hR19n _ _ (by omega)).trans (gs_neR eR16 (by omega) ((hR15n _ _ (by omega)).trans (gs_neR eR12 (by omega) ((hR11n _ _ (by omega)).trans (gs_neR eR8 (by omega) ((hR7n _ _ (by omega)).trans (gs_neR eR4 (by omega) ((hR3n _ _ (by omega)).trans (rfl)))))))))))))))))))))))
            have hT9 : ∀ c, c < w → T46 c = T c := fun c h => (hT46n _ (by omega)).trans ((hT41n _ (by omega)).trans ((hT36n _ (by omega)).trans ((hT31n _ (by omega)).trans ((hT26n _ (by omega)).trans ((hT22n _ (by omega)).trans ((hT17n _ (by omega)).trans ((hT13n _ (by omega)).trans ((hT9n _ (by omega)).trans ((hT5n _ (by omega)).trans ((hT1n _ (by omega)).trans (rfl)))))))))))
            have hz0 : ∀ j, ¬ j = 8 → I47 w j = 0 := fun j hj => (hI47n _ _ (by omega)).trans ((hI42n _ _ (by omega)).trans ((hI37n _ _ (by omega)).trans ((hI32n _ _ (by omega)).trans ((hI27n _ _ (by omega)).trans ((hI23n _ _ (by omega)).trans (gs_ne eI21 (by omega) ((hI18n _ _ (by omega)).trans ((hI14n _ _ (by omega)).trans ((hI10n _ _ (by omega)).trans ((hI6n _ _ (by omega)).trans ((hI2n _ _ (by omega)).trans (h0 j))))))))))))
            have hzz : ∀ c j, w ≤ c → c < w + 15 → ¬ (c = w ∧ j = 8) → I47 c j = 0 := fun c j h1 h2 h3 => by
              rcases (show c = w ∨ c = w + 1 ∨ c = w + 2 ∨ c = w + 3 ∨ c = w + 4 ∨ c = w + 5 ∨ c = w + 6 ∨ c = w + 7 ∨ c = w + 8 ∨ c = w + 9 ∨ c = w + 10 ∨ c = w + 11 ∨ c = w + 12 ∨ c = w + 13 ∨ c = w + 14 by omega) with rfl | rfl | rfl | rfl | rfl | rfl | rfl | rfl | rfl | rfl | rfl | rfl | rfl | rfl | rfl
              · exact hz0 j (by omega)
              · exact ((hI47n _ _ (by omega)).trans ((hI42n _ _ (by omega)).trans ((hI37n _ _ (by omega)).trans ((hI32n _ _ (by omega)).trans ((hI27n _ _ (by omega)).trans ((hI23n _ _ (by omega)).trans (gs_ne eI21 (by omega) ((hI18n _ _ (by omega)).trans ((hI14n _ _ (by omega)).trans ((hI10n _ _ (by omega)).trans ((hI6n _ _ (by omega)).trans (hI2z _ _ (by omega) (by omega)))))))))))))
              · exact ((hI47n _ _ (by omega)).trans ((hI42n _ _ (by omega)).trans ((hI37n _ _ (by omega)).trans ((hI32n _ _ (by omega)).trans ((hI27n _ _ (by omega)).trans ((hI23n _ _ (by omega)).trans (gs_ne eI21 (by omega) ((hI18n _ _ (by omega)).trans ((hI14n _ _ (by omega)).trans ((hI10n _ _ (by omega)).trans ((hI6n _ _ (by omega)).trans (hI2z _ _ (by omega) (by omega)))))))))))))
              · exact ((hI47n _ _ (by omega)).trans ((hI42n _ _ (by omega)).trans ((hI37n _ _ (by omega)).trans ((hI32n _ _ (by omega)).trans ((hI27n _ _ (by omega)).trans ((hI23n _ _ (by omega)).trans (gs_ne eI21 (by omega) ((hI18n _ _ (by omega)).trans ((hI14n _ _ (by omega)).trans ((hI10n _ _ (by omega)).trans ((hI6n _ _ (by omega)).trans (hI2z _ _ (by omega) (by omega)))))))))))))
              · exact ((hI47n _ _ (by omega)).trans ((hI42n _ _ (by omega)).trans ((hI37n _ _ (by omega)).trans ((hI32n _ _ (by omega)).trans ((hI27n _ _ (by omega)).trans ((hI23n _ _ (by omega)).trans (gs_ne eI21 (by omega) ((hI18n _ _ (by omega)).trans ((hI14n _ _ (by omega)).trans ((hI10n _ _ (by omega)).trans ((hI6n _ _ (by omega)).trans (hI2z _ _ (by omega) (by omega)))))))))))))
              · exact ((hI47n _ _ (by omega)).trans ((hI42n _ _ (by omega)).trans ((hI37n _ _ (by omega)).trans ((hI32n _ _ (by omega)).trans ((hI27n _ _ (by omega)).trans ((hI23n _ _ (by omega)).trans (gs_ne eI21 (by omega) ((hI18n _ _ (by omega)).trans ((hI14n _ _ (by omega)).trans ((hI10n _ _ (by omega)).trans (hI6z j)))))))))))
              · exact ((hI47n _ _ (by omega)).trans ((hI42n _ _ (by omega)).trans ((hI37n _ _ (by omega)).trans ((hI32n _ _ (by omega)).trans ((hI27n _ _ (by omega)).trans ((hI23n _ _ (by omega)).trans (gs_ne eI21 (by omega) ((hI18n _ _ (by omega)).trans ((hI14n _ _ (by omega)).trans (hI10z j))))))))))
              · exact ((hI47n _ _ (by omega)).trans ((hI42n _ _ (by omega)).trans ((hI37n _ _ (by omega)).trans ((hI32n _ _ (by omega)).trans ((hI27n _ _ (by omega)).trans ((hI23n _ _ (by omega)).trans (gs_ne eI21 (by omega) ((hI18n _ _ (by omega)).trans (hI14z j)))))))))
              · exact ((hI47n _ _ (by omega)).trans ((hI42n _ _ (by omega)).trans ((hI37n _ _ (by omega)).trans ((hI32n _ _ (by omega)).trans ((hI27n _ _ (by omega)).trans ((hI23n _ _ (by omega)).trans (gs_ne eI21 (by omega) (hI18z j))))))))
              · exact ((hI47n _ _ (by omega)).trans ((hI42n _ _ (by omega)).trans ((hI37n _ _ (by omega)).trans ((hI32n _ _ (by omega)).trans ((hI27n _ _ (by omega)).trans (hI23z j))))))
              · exact ((hI47n _ _ (by omega)).trans ((hI42n _ _ (by omega)).trans ((hI37n _ _ (by omega)).trans ((hI32n _ _ (by omega)).trans (hI27z j)))))
              · exact ((hI47n _ _ (by omega)).trans ((hI42n _ _ (by omega)).trans ((hI37n _ _ (by omega)).trans (hI32z j))))
              · exact ((hI47n _ _ (by omega)).trans ((hI42n _ _ (by omega)).trans (hI37z j)))
              · exact ((hI47n _ _ (by omega)).trans (hI42z j))
              · exact (hI47z j)
            have hme : ∀ k, k < 4 → R49 (w + 5) k = none := fun k hk => ((gs_neR eR49 (by omega) ((hR48n _ _ (by omega)).trans (gs_neR eR44 (by omega) ((hR43n _ _ (by omega)).trans (gs_neR eR39 (by omega) ((hR38n _ _ (by omega)).trans (gs_neR eR34 (by omega) ((hR33n _ _ (by omega)).trans (gs_neR eR30 (by omega) (gs_neR eR29 (by omega) ((hR28n _ _ (by omega)).trans (gs_neR eR25 (by omega) ((hR24n _ _ (by omega)).trans (gs_neR eR20 (by omega) ((hR19n _ _ (by omega)).trans (gs_neR eR16 (by omega) ((hR15n _ _ (by omega)).trans (gs_neR eR12 (by omega) ((hR11n _ _ (by omega)).trans (gs_neR eR8 (by omega) (hR7z k))))))))))))))))))))))
            exact g_vret (f := fun u => u) ((w + 15), T46, I47, R49) X hr hlk hK hP hS dX10_init_99 ⟨T46, I47, R49, rfl, hW, ⟨(gs_neR eR49 (by omega) ((hR48n _ _ (by omega)).trans (gs_neR eR44 (by omega) ((hR43n _ _ (by omega)).trans (gs_neR eR39 (by omega) ((hR38n _ _ (by omega)).trans (gs_neR eR34 (by omega) ((hR33n _ _ (by omega)).trans (gs_atR eR30 (by omega) (by omega)))))))))), hme⟩, ⟨hzz, ((hI47n _ _ (by omega)).trans ((hI42n _ _ (by omega)).trans ((hI37n _ _ (by omega)).trans ((hI32n _ _ (by omega)).trans ((hI27n _ _ (by omega)).trans ((hI23n _ _ (by omega)).trans (gs_same eI21)))))))⟩, hT9, hI9, hR9⟩
          · exact absurd (show (4 : Int32) ≤ 4 by decide) c77_50

end QI