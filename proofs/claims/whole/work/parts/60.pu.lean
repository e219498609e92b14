section PU
variable {l : Launch} {s0 : State} {D : va_G} {cy : Nat → ClassId} {B z : Nat} {T : Nat → Nat × Nat} {I : Nat → Nat → Int32} {R : Nat → Nat → Option Nat} {q nw kp tr : Nat} {σ : Nat → Nat} {K ti sh : Nat} {fl : List Nat}
theorem ndJ6 : ∀ j, j < 1 → defaultValue (tyJ6 j) = vp_V (gF 0 (fun _ => 0) (fun _ => none)) j := fun j hj => by
  match j, hj with
  | 0, _ => rfl
  | n + 1, h => exact absurd h (by omega)
theorem ndJx4a65c : ∀ j, j < 3 → defaultValue (tyJx4a65c j) = vp_V (gF 1 (fun _ => 0) (fun _ => none)) j := fun j hj => by
  match j, hj with
  | 0, _ => rfl
  | 1, _ => rfl
  | 2, _ => rfl
  | n + 3, h => exact absurd h (by omega)
theorem ndX0 : ∀ j, j < 4 → defaultValue (tyX0 j) = vp_V (gF 2 (fun _ => 0) (fun _ => none)) j := fun j hj => by
  match j, hj with
  | 0, _ => rfl
  | 1, _ => rfl
  | 2, _ => rfl
  | 3, _ => rfl
  | n + 4, h => exact absurd h (by omega)
theorem ndX1 : ∀ j, j < 4 → defaultValue (tyX1 j) = vp_V (gF 3 (fun _ => 0) (fun _ => none)) j := fun j hj => by
  match j, hj with
  | 0, _ => rfl
  | 1, _ => rfl
  | 2, _ => rfl
  | 3, _ => rfl
  | n + 4, h => exact absurd h (by omega)
theorem ndX2 : ∀ j, j < 4 → defaultValue (tyX2 j) = vp_V (gF 4 (fun _ => 0) (fun _ => none)) j := fun j hj => by
  match j, hj with
  | 0, _ => rfl
  | 1, _ => rfl
  | 2, _ => rfl
  | 3, _ => rfl
  | n + 4, h => exact absurd h (by omega)
theorem ndX3 : ∀ j, j < 4 → defaultValue (tyX3 j) = vp_V (gF 5 (fun _ => 0) (fun _ => none)) j := fun j hj => by
  match j, hj with
  | 0, _ => rfl
  | 1, _ => rfl
  | 2, _ => rfl
  | 3, _ => rfl
  | n + 4, h => exact absurd h (by omega)
theorem ndX4 : ∀ j, j < 8 → defaultValue (tyX4 j) = vp_V (gF 6 (fun _ => 0) (fun _ => none)) j := fun j hj => by
  match j, hj with
  | 0, _ => rfl
  | 1, _ => rfl
  | 2, _ => rfl
  | 3, _ => rfl
  | 4, _ => rfl
  | 5, _ => rfl
  | 6, _ => rfl
  | 7, _ => rfl
  | n + 8, h => exact absurd h (by omega)
theorem ndX5 : ∀ j, j < 4 → defaultValue (tyX5 j) = vp_V (gF 7 (fun _ => 0) (fun _ => none)) j := fun j hj => by
  match j, hj with
  | 0, _ => rfl
  | 1, _ => rfl
  | 2, _ => rfl
  | 3, _ => rfl
  | n + 4, h => exact absurd h (by omega)
theorem ndX6 : ∀ j, j < 4 → defaultValue (tyX6 j) = vp_V (gF 8 (fun _ => 0) (fun _ => none)) j := fun j hj => by
  match j, hj with
  | 0, _ => rfl
  | 1, _ => rfl
  | 2, _ => rfl
  | 3, _ => rfl
  | n + 4, h => exact absurd h (by omega)
theorem ndX7 : ∀ j, j < 4 → defaultValue (tyX7 j) = vp_V (gF 9 (fun _ => 0) (fun _ => none)) j := fun j hj => by
  match j, hj with
  | 0, _ => rfl
  | 1, _ => rfl
  | 2, _ => rfl
  | 3, _ => rfl
  | n + 4, h => exact absurd h (by omega)
theorem ndX8 : ∀ j, j < 6 → defaultValue (tyX8 j) = vp_V (gF 10 (fun _ => 0) (fun _ => none)) j := fun j hj => by
  match j, hj with
  | 0, _ => rfl
  | 1, _ => rfl
  | 2, _ => rfl
  | 3, _ => rfl
  | 4, _ => rfl
  | 5, _ => rfl
  | n + 6, h => exact absurd h (by omega)
theorem ndX9 : ∀ j, j < 4 → defaultValue (tyX9 j) = vp_V (gF 11 (fun _ => 0) (fun _ => none)) j := fun j hj => by
  match j, hj with
  | 0, _ => rfl
  | 1, _ => rfl
  | 2, _ => rfl
  | 3, _ => rfl
  | n + 4, h => exact absurd h (by omega)
theorem ndX10 : ∀ j, j < 16 → defaultValue (tyX10 j) = vp_V (gF 12 (fun _ => 0) (fun _ => none)) j := fun j hj => by
  match j, hj with
  | 0, _ => rfl
  | 1, _ => rfl
  | 2, _ => rfl
  | 3, _ => rfl
  | 4, _ => rfl
  | 5, _ => rfl
  | 6, _ => rfl
  | 7, _ => rfl
  | 8, _ => rfl
  | 9, _ => rfl
  | 10, _ => rfl
  | 11, _ => rfl
  | 12, _ => rfl
  | 13, _ => rfl
  | 14, _ => rfl
  | 15, _ => rfl
  | n + 16, h => exact absurd h (by omega)
theorem ndX11 : ∀ j, j < 6 → defaultValue (tyX11 j) = vp_V (gF 13 (fun _ => 0) (fun _ => none)) j := fun j hj => by
  match j, hj with
  | 0, _ => rfl
  | 1, _ => rfl
  | 2, _ => rfl
  | 3, _ => rfl
  | 4, _ => rfl
  | 5, _ => rfl
  | n + 6, h => exact absurd h (by omega)
theorem ndX12 : ∀ j, j < 30 → defaultValue (tyX12 j) = vp_V (gF 14 (fun _ => 0) (fun _ => none)) j := fun j hj => by
  match j, hj with
  | 0, _ => rfl
  | 1, _ => rfl
  | 2, _ => rfl
  | 3, _ => rfl
  | 4, _ => rfl
  | 5, _ => rfl
  | 6, _ => rfl
  | 7, _ => rfl
  | 8, _ => rfl
  | 9, _ => rfl
  | 10, _ => rfl
  | 11, _ => rfl
  | 12, _ => rfl
  | 13, _ => rfl
  | 14, _ => rfl
  | 15, _ => rfl
  | 16, _ => rfl
  | 17, _ => rfl
  | 18, _ => rfl
  | 19, _ => rfl
  | 20, _ => rfl
  | 21, _ => rfl
  | 22, _ => rfl
  | 23, _ => rfl
  | 24, _ => rfl
  | 25, _ => rfl
  | 26, _ => rfl
  | 27, _ => rfl
  | 28, _ => rfl
  | 29, _ => rfl
  | n + 30, h => exact absurd h (by omega)
theorem wR_lt {k : Nat} {x : Nat × Nat × Nat} (h : wRl[k]? = some x) : x.1 < 15 := by
  have h1 : ∀ x ∈ wRl, x.1 < 15 := by decide
  exact h1 x (List.mem_of_getElem? h)
theorem wR_ne {nw jj : Nat} {x : Nat × Nat × Nat} (h : x ∈ wRl) : ¬ (nw + x.1 = nw + 5 ∧ x.2.1 = jj) := fun g => by
  have h1 : ∀ x ∈ wRl, x.1 ≠ 5 := by decide
  exact h1 x h (by omega)
theorem g2_other {α : Type} {M : Nat → Nat → α} {a j b i : Nat} {v : α} (h : ¬ (b = a ∧ i = j)) : g2 M a j v b i = M b i := if_neg h
/-- all but the cell at z is as it was -/
def gNe (z : Nat) (T T' : Nat → Nat × Nat) (I I' : Nat → Nat → Int32) (R R' : Nat → Nat → Option Nat) : Prop := ∀ c, c ≠ z → T' c = T c ∧ (∀ j, I' c j = I c j) ∧ ∀ j, R' c j = R c j
set_option maxHeartbeats 4000000 in
set_option maxRecDepth 100000 in
/-- i2_0 -/
theorem i2_0 {b : Nat} {a0 a1 a2 a3 : Int32} (htb : T b = (4 + 8, 0)) : Met l yX2_init wsX2_init ({ frames := 1, cells := 0, slots := 0, locals := 21 }) (va_Pc [.ref b, .int a0, .int a1, .int a2, .int a3] (gW0 s0 D cy B (z, T, I, R))) (va_Qv (fun u => u = (z, T, g2 (g2 (g2 (g2 I b 0 a0) b 1 a1) b 2 a2) b 3 a3, R)) (fun u t => gW1 D cy B u t) (gA B)) 0 0 (gA B) := by
  refine g_met (maxL := 5) (ret := none) (by decide) rfl (Nat.le_of_ble_eq_true rfl) (fun p e s m args below meth c ls X hr hlk hnm hK hP hC hS hl => ?_)
  have hl : lv_has ls 5 [(0, .ref b), (1, .int a0), (2, .int a1), (3, .int a2), (4, .int a3)] := hl
  have hP : gP D cy B z T I R s.heap := hP
  have hB : B ≤ s.heap.size := by rw [hP.1]; exact hP.2.1
  have hinRX2 : ∀ w ∈ wsX20, w ∈ wsX2_init := fun _ h => List.mem_cons_of_mem _ (List.mem_append_left _ (List.mem_append_left _ (List.mem_append_left _ (List.mem_append_left _ (List.mem_append_right _ h)))))
  have k9 : Cond.fieldLink RX2 9 "BarrowPlank$Man" "kind" "I" ∈ wsX2_init := by decide +kernel
  have k15 : Cond.fieldLink RX2 15 "BarrowPlank$Man" "number" "I" ∈ wsX2_init := by decide +kernel
  have k18 : Cond.fieldLink RX2 18 "BarrowPlank$Man" "v" "I" ∈ wsX2_init := by decide +kernel
  have k21 : Cond.fieldLink RX2 21 "BarrowPlank$Man" "strong" "I" ∈ wsX2_init := by decide +kernel
  refine lv_aload_n X.1 X.2.1 dX2_init_0 rfl (lv_at hl 0 rfl) ?_
  refine g_oinit X hl.1 (by decide +kernel) (by decide +kernel) (by decide +kernel) (Nat.le_of_ble_eq_true rfl) (Nat.le_of_ble_eq_true rfl) (Nat.le_of_ble_eq_true rfl) dX2_init_1 ?_
  refine lv_aload_n X.1 X.2.1 dX2_init_4 rfl (lv_at hl 0 rfl) ?_
  refine lv_iload_n X.1 X.2.1 dX2_init_5 rfl (lv_at hl 1 rfl) ?_
  refine g_putiF 4 0 X hK hP hS htb rfl hinRX2 tyX2 tyX2_ok nmX2 rfl (by decide) k9 (fun _ h => h) rfl hnm rfl rfl rfl dX2_init_6 (fun H locs hP hS => ?_)
  generalize eI1 : g2 I b 0 a0 = I1 at hP
  refine lv_aload_n X.1 X.2.1 dX2_init_9 rfl (lv_at hl 0 rfl) ?_
  refine lv_iload_n X.1 X.2.1 dX2_init_10 rfl (lv_at hl 2 rfl) ?_
  refine g_putiF 4 1 X hK hP hS htb rfl hinRX2 tyX2 tyX2_ok nmX2 rfl (by decide) k15 (fun _ h => h) rfl hnm rfl rfl rfl dX2_init_11 (fun H locs hP hS => ?_)
  generalize eI2 : g2 I1 b 1 a1 = I2 at hP
  refine lv_aload_n X.1 X.2.1 dX2_init_14 rfl (lv_at hl 0 rfl) ?_
  refine lv_iload_n X.1 X.2.1 dX2_init_15 rfl (lv_at hl 3 rfl) ?_
  refine g_putiF 4 2 X hK hP hS htb rfl hinRX2 tyX2 tyX2_ok nmX2 rfl (by decide) k18 (fun _ h => h) rfl hnm rfl rfl rfl dX2_init_16 (fun H locs hP hS => ?_)
  generalize eI3 : g2 I2 b 2 a2 = I3 at hP
  refine lv_aload_n X.1 X.2.1 dX2_init_19 rfl (lv_at hl 0 rfl) ?_
  refine lv_iload X.1 X.2.1 dX2_init_20 (lv_at hl 4 rfl) ?_
  refine g_putiF 4 3 X hK hP hS htb rfl hinRX2 tyX2 tyX2_ok nmX2 rfl (by decide) k21 (fun _ h => h) rfl hnm rfl rfl rfl dX2_init_22 (fun H locs hP hS => ?_)
  generalize eI4 : g2 I3 b 3 a3 = I4 at hP
  exact g_vret (f := fun u => u) (z, T, I4, R) X hr hlk hK hP hS dX2_init_25 (by rw [← eI4, ← eI3, ← eI2, ← eI1])

set_option maxHeartbeats 4000000 in
set_option maxRecDepth 100000 in
/-- i2_1 -/
theorem i2_1 {b : Nat} {a0 a1 a2 a3 : Int32} (htb : T b = (2 + 8, 0)) : Met l yX2_init wsX2_init ({ frames := 1, cells := 0, slots := 0, locals := 21 }) (va_Pc [.ref b, .int a0, .int a1, .int a2, .int a3] (gW0 s0 D cy B (z, T, I, R))) (va_Qv (fun u => u = (z, T, g2 (g2 (g2 (g2 I b 0 a0) b 1 a1) b 2 a2) b 3 a3, R)) (fun u t => gW1 D cy B u t) (gA B)) 0 0 (gA B) := by
  refine g_met (maxL := 5) (ret := none) (by decide) rfl (Nat.le_of_ble_eq_true rfl) (fun p e s m args below meth c ls X hr hlk hnm hK hP hC hS hl => ?_)
  have hl : lv_has ls 5 [(0, .ref b), (1, .int a0), (2, .int a1), (3, .int a2), (4, .int a3)] := hl
  have hP : gP D cy B z T I R s.heap := hP
  have hB : B ≤ s.heap.size := by rw [hP.1]; exact hP.2.1
  have hinRX0 : ∀ w ∈ wsX00, w ∈ wsX2_init := fun _ h => List.mem_cons_of_mem _ (List.mem_append_left _ (List.mem_append_left _ (List.mem_append_left _ (List.mem_append_left _ (List.mem_append_left _ (List.mem_append_left _ (List.mem_append_right _ h)))))))
  have k9 : Cond.fieldLink RX2 9 "BarrowPlank$Man" "kind" "I" ∈ wsX2_init := by decide +kernel
  have k15 : Cond.fieldLink RX2 15 "BarrowPlank$Man" "number" "I" ∈ wsX2_init := by decide +kernel
  have k18 : Cond.fieldLink RX2 18 "BarrowPlank$Man" "v" "I" ∈ wsX2_init := by decide +kernel
  have k21 : Cond.fieldLink RX2 21 "BarrowPlank$Man" "strong" "I" ∈ wsX2_init := by decide +kernel
  refine lv_aload_n X.1 X.2.1 dX2_init_0 rfl (lv_at hl 0 rfl) ?_
  refine g_oinit X hl.1 (by decide +kernel) (by decide +kernel) (by decide +kernel) (Nat.le_of_ble_eq_true rfl) (Nat.le_of_ble_eq_true rfl) (Nat.le_of_ble_eq_true rfl) dX2_init_1 ?_
  refine lv_aload_n X.1 X.2.1 dX2_init_4 rfl (lv_at hl 0 rfl) ?_
  refine lv_iload_n X.1 X.2.1 dX2_init_5 rfl (lv_at hl 1 rfl) ?_
  refine g_putiF 2 0 X hK hP hS htb rfl hinRX0 tyX0 tyX0_ok nmX0 rfl (by decide) k9 (fun _ h => h) rfl hnm rfl rfl rfl dX2_init_6 (fun H locs hP hS => ?_)
  generalize eI1 : g2 I b 0 a0 = I1 at hP
  refine lv_aload_n X.1 X.2.1 dX2_init_9 rfl (lv_at hl 0 rfl) ?_
  refine lv_iload_n X.1 X.2.1 dX2_init_10 rfl (lv_at hl 2 rfl) ?_
  refine g_putiF 2 1 X hK hP hS htb rfl hinRX0 tyX0 tyX0_ok nmX0 rfl (by decide) k15 (fun _ h => h) rfl hnm rfl rfl rfl dX2_init_11 (fun H locs hP hS => ?_)
  generalize eI2 : g2 I1 b 1 a1 = I2 at hP
  refine lv_aload_n X.1 X.2.1 dX2_init_14 rfl (lv_at hl 0 rfl) ?_
  refine lv_iload_n X.1 X.2.1 dX2_init_15 rfl (lv_at hl 3 rfl) ?_
  refine g_putiF 2 2 X hK hP hS htb rfl hinRX0 tyX0 tyX0_ok nmX0 rfl (by decide) k18 (fun _ h => h) rfl hnm rfl rfl rfl dX2_init_16 (fun H locs hP hS => ?_)
  generalize eI3 : g2 I2 b 2 a2 = I3 at hP
  refine lv_aload_n X.1 X.2.1 dX2_init_19 rfl (lv_at hl 0 rfl) ?_
  refine lv_iload X.1 X.2.1 dX2_init_20 (lv_at hl 4 rfl) ?_
  refine g_putiF 2 3 X hK hP hS htb rfl hinRX0 tyX0 tyX0_ok nmX0 rfl (by decide) k21 (fun _ h => h) rfl hnm rfl rfl rfl dX2_init_22 (fun H locs hP hS => ?_)
  generalize eI4 : g2 I3 b 3 a3 = I4 at hP
  exact g_vret (f := fun u => u) (z, T, I4, R) X hr hlk hK hP hS dX2_init_25 (by rw [← eI4, ← eI3, ← eI2, ← eI1])

set_option maxHeartbeats 4000000 in
set_option maxRecDepth 100000 in
/-- i2_2 -/
theorem i2_2 {b : Nat} {a0 a1 a2 a3 : Int32} (htb : T b = (11 + 8, 0)) : Met l yX2_init wsX2_init ({ frames := 1, cells := 0, slots := 0, locals := 21 }) (va_Pc [.ref b, .int a0, .int a1, .int a2, .int a3] (gW0 s0 D cy B (z, T, I, R))) (va_Qv (fun u => u = (z, T, g2 (g2 (g2 (g2 I b 0 a0) b 1 a1) b 2 a2) b 3 a3, R)) (fun u t => gW1 D cy B u t) (gA B)) 0 0 (gA B) := by
  refine g_met (maxL := 5) (ret := none) (by decide) rfl (Nat.le_of_ble_eq_true rfl) (fun p e s m args below meth c ls X hr hlk hnm hK hP hC hS hl => ?_)
  have hl : lv_has ls 5 [(0, .ref b), (1, .int a0), (2, .int a1), (3, .int a2), (4, .int a3)] := hl
  have hP : gP D cy B z T I R s.heap := hP
  have hB : B ≤ s.heap.size := by rw [hP.1]; exact hP.2.1
  have hinRX9 : ∀ w ∈ wsX90, w ∈ wsX2_init := fun _ h => List.mem_cons_of_mem _ (List.mem_append_right _ h)
  have k9 : Cond.fieldLink RX2 9 "BarrowPlank$Man" "kind" "I" ∈ wsX2_init := by decide +kernel
  have k15 : Cond.fieldLink RX2 15 "BarrowPlank$Man" "number" "I" ∈ wsX2_init := by decide +kernel
  have k18 : Cond.fieldLink RX2 18 "BarrowPlank$Man" "v" "I" ∈ wsX2_init := by decide +kernel
  have k21 : Cond.fieldLink RX2 21 "BarrowPlank$Man" "strong" "I" ∈ wsX2_init := by decide +kernel
  refine lv_aload_n X.1 X.2.1 dX2_init_0 rfl (lv_at hl 0 rfl) ?_
  refine g_oinit X hl.1 (by decide +kernel) (by decide +kernel) (by decide +kernel) (Nat.le_of_ble_eq_true rfl) (Nat.le_of_ble_eq_true rfl) (Nat.le_of_ble_eq_true rfl) dX2_init_1 ?_
  refine lv_aload_n X.1 X.2.1 dX2_init_4 rfl (lv_at hl 0 rfl) ?_
  refine lv_iload_n X.1 X.2.1 dX2_init_5 rfl (lv_at hl 1 rfl) ?_
  refine g_putiF 11 0 X hK hP hS htb rfl hinRX9 tyX9 tyX9_ok nmX9 rfl (by decide) k9 (fun _ h => h) rfl hnm rfl rfl rfl dX2_init_6 (fun H locs hP hS => ?_)
  generalize eI1 : g2 I b 0 a0 = I1 at hP
  refine lv_aload_n X.1 X.2.1 dX2_init_9 rfl (lv_at hl 0 rfl) ?_
  refine lv_iload_n X.1 X.2.1 dX2_init_10 rfl (lv_at hl 2 rfl) ?_
  refine g_putiF 11 1 X hK hP hS htb rfl hinRX9 tyX9 tyX9_ok nmX9 rfl (by decide) k15 (fun _ h => h) rfl hnm rfl rfl rfl dX2_init_11 (fun H locs hP hS => ?_)
  generalize eI2 : g2 I1 b 1 a1 = I2 at hP
  refine lv_aload_n X.1 X.2.1 dX2_init_14 rfl (lv_at hl 0 rfl) ?_
  refine lv_iload_n X.1 X.2.1 dX2_init_15 rfl (lv_at hl 3 rfl) ?_
  refine g_putiF 11 2 X hK hP hS htb rfl hinRX9 tyX9 tyX9_ok nmX9 rfl (by decide) k18 (fun _ h => h) rfl hnm rfl rfl rfl dX2_init_16 (fun H locs hP hS => ?_)
  generalize eI3 : g2 I2 b 2 a2 = I3 at hP
  refine lv_aload_n X.1 X.2.1 dX2_init_19 rfl (lv_at hl 0 rfl) ?_
  refine lv_iload X.1 X.2.1 dX2_init_20 (lv_at hl 4 rfl) ?_
  refine g_putiF 11 3 X hK hP hS htb rfl hinRX9 tyX9 tyX9_ok nmX9 rfl (by decide) k21 (fun _ h => h) rfl hnm rfl rfl rfl dX2_init_22 (fun H locs hP hS => ?_)
  generalize eI4 : g2 I3 b 3 a3 = I4 at hP
  exact g_vret (f := fun u => u) (z, T, I4, R) X hr hlk hK hP hS dX2_init_25 (by rw [← eI4, ← eI3, ← eI2, ← eI1])

set_option maxHeartbeats 4000000 in
set_option maxRecDepth 100000 in
/-- i2_3 -/
theorem i2_3 {b : Nat} {a0 a1 a2 a3 : Int32} (htb : T b = (8 + 8, 0)) : Met l yX2_init wsX2_init ({ frames := 1, cells := 0, slots := 0, locals := 21 }) (va_Pc [.ref b, .int a0, .int a1, .int a2, .int a3] (gW0 s0 D cy B (z, T, I, R))) (va_Qv (fun u => u = (z, T, g2 (g2 (g2 (g2 I b 0 a0) b 1 a1) b 2 a2) b 3 a3, R)) (fun u t => gW1 D cy B u t) (gA B)) 0 0 (gA B) := by
  refine g_met (maxL := 5) (ret := none) (by decide) rfl (Nat.le_of_ble_eq_true rfl) (fun p e s m args below meth c ls X hr hlk hnm hK hP hC hS hl => ?_)
  have hl : lv_has ls 5 [(0, .ref b), (1, .int a0), (2, .int a1), (3, .int a2), (4, .int a3)] := hl
  have hP : gP D cy B z T I R s.heap := hP
  have hB : B ≤ s.heap.size := by rw [hP.1]; exact hP.2.1
  have hinRX6 : ∀ w ∈ wsX60, w ∈ wsX2_init := fun _ h => List.mem_cons_of_mem _ (List.mem_append_left _ (List.mem_append_left _ (List.mem_append_right _ h)))
  have k9 : Cond.fieldLink RX2 9 "BarrowPlank$Man" "kind" "I" ∈ wsX2_init := by decide +kernel
  have k15 : Cond.fieldLink RX2 15 "BarrowPlank$Man" "number" "I" ∈ wsX2_init := by decide +kernel
  have k18 : Cond.fieldLink RX2 18 "BarrowPlank$Man" "v" "I" ∈ wsX2_init := by decide +kernel
  have k21 : Cond.fieldLink RX2 21 "BarrowPlank$Man" "strong" "I" ∈ wsX2_init := by decide +kernel
  refine lv_aload_n X.1 X.2.1 dX2_init_0 rfl (lv_at hl 0 rfl) ?_
  refine g_oinit X hl.1 (by decide +kernel) (by decide +kernel) (by decide +kernel) (Nat.le_of_ble_eq_true rfl) (Nat.le_of_ble_eq_true rfl) (Nat.le_of_ble_eq_true rfl) dX2_init_1 ?_
  refine lv_aload_n X.1 X.2.1 dX2_init_4 rfl (lv_at hl 0 rfl) ?_
  refine lv_iload_n X.1 X.2.1 dX2_init_5 rfl (lv_at hl 1 rfl) ?_
  refine g_putiF 8 0 X hK hP hS htb rfl hinRX6 tyX6 tyX6_ok nmX6 rfl (by decide) k9 (fun _ h => h) rfl hnm rfl rfl rfl dX2_init_6 (fun H locs hP hS => ?_)
  generalize eI1 : g2 I b 0 a0 = I1 at hP
  refine lv_aload_n X.1 X.2.1 dX2_init_9 rfl (lv_at hl 0 rfl) ?_
  refine lv_iload_n X.1 X.2.1 dX2_init_10 rfl (lv_at hl 2 rfl) ?_
  refine g_putiF 8 1 X hK hP hS htb rfl hinRX6 tyX6 tyX6_ok nmX6 rfl (by decide) k15 (fun _ h => h) rfl hnm rfl rfl rfl dX2_init_11 (fun H locs hP hS => ?_)
  generalize eI2 : g2 I1 b 1 a1 = I2 at hP
  refine lv_aload_n X.1 X.2.1 dX2_init_14 rfl (lv_at hl 0 rfl) ?_
  refine lv_iload_n X.1 X.2.1 dX2_init_15 rfl (lv_at hl 3 rfl) ?_
  refine g_putiF 8 2 X hK hP hS htb rfl hinRX6 tyX6 tyX6_ok nmX6 rfl (by decide) k18 (fun _ h => h) rfl hnm rfl rfl rfl dX2_init_16 (fun H locs hP hS => ?_)
  generalize eI3 : g2 I2 b 2 a2 = I3 at hP
  refine lv_aload_n X.1 X.2.1 dX2_init_19 rfl (lv_at hl 0 rfl) ?_
  refine lv_iload X.1 X.2.1 dX2_init_20 (lv_at hl 4 rfl) ?_
  refine g_putiF 8 3 X hK hP hS htb rfl hinRX6 tyX6 tyX6_ok nmX6 rfl (by decide) k21 (fun _ h => h) rfl hnm rfl rfl rfl dX2_init_22 (fun H locs hP hS => ?_)
  generalize eI4 : g2 I3 b 3 a3 = I4 at hP
  exact g_vret (f := fun u => u) (z, T, I4, R) X hr hlk hK hP hS dX2_init_25 (by rw [← eI4, ← eI3, ← eI2, ← eI1])

set_option maxHeartbeats 4000000 in
set_option maxRecDepth 100000 in
/-- i2_4 -/
theorem i2_4 {b : Nat} {a0 a1 a2 a3 : Int32} (htb : T b = (3 + 8, 0)) : Met l yX2_init wsX2_init ({ frames := 1, cells := 0, slots := 0, locals := 21 }) (va_Pc [.ref b, .int a0, .int a1, .int a2, .int a3] (gW0 s0 D cy B (z, T, I, R))) (va_Qv (fun u => u = (z, T, g2 (g2 (g2 (g2 I b 0 a0) b 1 a1) b 2 a2) b 3 a3, R)) (fun u t => gW1 D cy B u t) (gA B)) 0 0 (gA B) := by
  refine g_met (maxL := 5) (ret := none) (by decide) rfl (Nat.le_of_ble_eq_true rfl) (fun p e s m args below meth c ls X hr hlk hnm hK hP hC hS hl => ?_)
  have hl : lv_has ls 5 [(0, .ref b), (1, .int a0), (2, .int a1), (3, .int a2), (4, .int a3)] := hl
  have hP : gP D cy B z T I R s.heap := hP
  have hB : B ≤ s.heap.size := by rw [hP.1]; exact hP.2.1
  have hinRX1 : ∀ w ∈ wsX10, w ∈ wsX2_init := fun _ h => List.mem_cons_of_mem _ (List.mem_append_left _ (List.mem_append_left _ (List.mem_append_left _ (List.mem_append_left _ (List.mem_append_left _ (List.mem_append_right _ h))))))
  have k9 : Cond.fieldLink RX2 9 "BarrowPlank$Man" "kind" "I" ∈ wsX2_init := by decide +kernel
  have k15 : Cond.fieldLink RX2 15 "BarrowPlank$Man" "number" "I" ∈ wsX2_init := by decide +kernel
  have k18 : Cond.fieldLink RX2 18 "BarrowPlank$Man" "v" "I" ∈ wsX2_init := by decide +kernel
  have k21 : Cond.fieldLink RX2 21 "BarrowPlank$Man" "strong" "I" ∈ wsX2_init := by decide +kernel
  refine lv_aload_n X.1 X.2.1 dX2_init_0 rfl (lv_at hl 0 rfl) ?_
  refine g_oinit X hl.1 (by decide +kernel) (by decide +kernel) (by decide +kernel) (Nat.le_of_ble_eq_true rfl) (Nat.le_of_ble_eq_true rfl) (Nat.le_of_ble_eq_true rfl) dX2_init_1 ?_
  refine lv_aload_n X.1 X.2.1 dX2_init_4 rfl (lv_at hl 0 rfl) ?_
  refine lv_iload_n X.1 X.2.1 dX2_init_5 rfl (lv_at hl 1 rfl) ?_
  refine g_putiF 3 0 X hK hP hS htb rfl hinRX1 tyX1 tyX1_ok nmX1 rfl (by decide) k9 (fun _ h => h) rfl hnm rfl rfl rfl dX2_init_6 (fun H locs hP hS => ?_)
  generalize eI1 : g2 I b 0 a0 = I1 at hP
  refine lv_aload_n X.1 X.2.1 dX2_init_9 rfl (lv_at hl 0 rfl) ?_
  refine lv_iload_n X.1 X.2.1 dX2_init_10 rfl (lv_at hl 2 rfl) ?_
  refine g_putiF 3 1 X hK hP hS htb rfl hinRX1 tyX1 tyX1_ok nmX1 rfl (by decide) k15 (fun _ h => h) rfl hnm rfl rfl rfl dX2_init_11 (fun H locs hP hS => ?_)
  generalize eI2 : g2 I1 b 1 a1 = I2 at hP
  refine lv_aload_n X.1 X.2.1 dX2_init_14 rfl (lv_at hl 0 rfl) ?_
  refine lv_iload_n X.1 X.2.1 dX2_init_15 rfl (lv_at hl 3 rfl) ?_
  refine g_putiF 3 2 X hK hP hS htb rfl hinRX1 tyX1 tyX1_ok nmX1 rfl (by decide) k18 (fun _ h => h) rfl hnm rfl rfl rfl dX2_init_16 (fun H locs hP hS => ?_)
  generalize eI3 : g2 I2 b 2 a2 = I3 at hP
  refine lv_aload_n X.1 X.2.1 dX2_init_19 rfl (lv_at hl 0 rfl) ?_
  refine lv_iload X.1 X.2.1 dX2_init_20 (lv_at hl 4 rfl) ?_
  refine g_putiF 3 3 X hK hP hS htb rfl hinRX1 tyX1 tyX1_ok nmX1 rfl (by decide) k21 (fun _ h => h) rfl hnm rfl rfl rfl dX2_init_22 (fun H locs hP hS => ?_)
  generalize eI4 : g2 I3 b 3 a3 = I4 at hP
  exact g_vret (f := fun u => u) (z, T, I4, R) X hr hlk hK hP hS dX2_init_25 (by rw [← eI4, ← eI3, ← eI2, ← eI1])

set_option maxHeartbeats 4000000 in
set_option maxRecDepth 100000 in
/-- i2_5 -/
theorem i2_5 {b : Nat} {a0 a1 a2 a3 : Int32} (htb : T b = (9 + 8, 0)) : Met l yX2_init wsX2_init ({ frames := 1, cells := 0, slots := 0, locals := 21 }) (va_Pc [.ref b, .int a0, .int a1, .int a2, .int a3] (gW0 s0 D cy B (z, T, I, R))) (va_Qv (fun u => u = (z, T, g2 (g2 (g2 (g2 I b 0 a0) b 1 a1) b 2 a2) b 3 a3, R)) (fun u t => gW1 D cy B u t) (gA B)) 0 0 (gA B) := by
  refine g_met (maxL := 5) (ret := none) (by decide) rfl (Nat.le_of_ble_eq_true rfl) (fun p e s m args below meth c ls X hr hlk hnm hK hP hC hS hl => ?_)
  have hl : lv_has ls 5 [(0, .ref b), (1, .int a0), (2, .int a1), (3, .int a2), (4, .int a3)] := hl
  have hP : gP D cy B z T I R s.heap := hP
  have hB : B ≤ s.heap.size := by rw [hP.1]; exact hP.2.1
  have hinRX7 : ∀ w ∈ wsX70, w ∈ wsX2_init := fun _ h => List.mem_cons_of_mem _ (List.mem_append_left _ (List.mem_append_right _ h))
  have k9 : Cond.fieldLink RX2 9 "BarrowPlank$Man" "kind" "I" ∈ wsX2_init := by decide +kernel
  have k15 : Cond.fieldLink RX2 15 "BarrowPlank$Man" "number" "I" ∈ wsX2_init := by decide +kernel
  have k18 : Cond.fieldLink RX2 18 "BarrowPlank$Man" "v" "I" ∈ wsX2_init := by decide +kernel
  have k21 : Cond.fieldLink RX2 21 "BarrowPlank$Man" "strong" "I" ∈ wsX2_init := by decide +kernel
  refine lv_aload_n X.1 X.2.1 dX2_init_0 rfl (lv_at hl 0 rfl) ?_
  refine g_oinit X hl.1 (by decide +kernel) (by decide +kernel) (by decide +kernel) (Nat.le_of_ble_eq_true rfl) (Nat.le_of_ble_eq_true rfl) (Nat.le_of_ble_eq_true rfl) dX2_init_1 ?_
  refine lv_aload_n X.1 X.2.1 dX2_init_4 rfl (lv_at hl 0 rfl) ?_
  refine lv_iload_n X.1 X.2.1 dX2_init_5 rfl (lv_at hl 1 rfl) ?_
  refine g_putiF 9 0 X hK hP hS htb rfl hinRX7 tyX7 tyX7_ok nmX7 rfl (by decide) k9 (fun _ h => h) rfl hnm rfl rfl rfl dX2_init_6 (fun H locs hP hS => ?_)
  generalize eI1 : g2 I b 0 a0 = I1 at hP
  refine lv_aload_n X.1 X.2.1 dX2_init_9 rfl (lv_at hl 0 rfl) ?_
  refine lv_iload_n X.1 X.2.1 dX2_init_10 rfl (lv_at hl 2 rfl) ?_
  refine g_putiF 9 1 X hK hP hS htb rfl hinRX7 tyX7 tyX7_ok nmX7 rfl (by decide) k15 (fun _ h => h) rfl hnm rfl rfl rfl dX2_init_11 (fun H locs hP hS => ?_)
  generalize eI2 : g2 I1 b 1 a1 = I2 at hP
  refine lv_aload_n X.1 X.2.1 dX2_init_14 rfl (lv_at hl 0 rfl) ?_
  refine lv_iload_n X.1 X.2.1 dX2_init_15 rfl (lv_at hl 3 rfl) ?_
  refine g_putiF 9 2 X hK hP hS htb rfl hinRX7 tyX7 tyX7_ok nmX7 rfl (by decide) k18 (fun _ h => h) rfl hnm rfl rfl rfl dX2_init_16 (fun H locs hP hS => ?_)
  generalize eI3 : g2 I2 b 2 a2 = I3 at hP
  refine lv_aload_n X.1 X.2.1 dX2_init_19 rfl (lv_at hl 0 rfl) ?_
  refine lv_iload X.1 X.2.1 dX2_init_20 (lv_at hl 4 rfl) ?_
  refine g_putiF 9 3 X hK hP hS htb rfl hinRX7 tyX7 tyX7_ok nmX7 rfl (by decide) k21 (fun _ h => h) rfl hnm rfl rfl rfl dX2_init_22 (fun H locs hP hS => ?_)
  generalize eI4 : g2 I3 b 3 a3 = I4 at hP
  exact g_vret (f := fun u => u) (z, T, I4, R) X hr hlk hK hP hS dX2_init_25 (by rw [← eI4, ← eI3, ← eI2, ← eI1])

set_option maxHeartbeats 4000000 in
set_option maxRecDepth 100000 in
/-- i2_6 -/
theorem i2_6 {b : Nat} {a0 a1 a2 a3 : Int32} (htb : T b = (5 + 8, 0)) : Met l yX2_init wsX2_init ({ frames := 1, cells := 0, slots := 0, locals := 21 }) (va_Pc [.ref b, .int a0, .int a1, .int a2, .int a3] (gW0 s0 D cy B (z, T, I, R))) (va_Qv (fun u => u = (z, T, g2 (g2 (g2 (g2 I b 0 a0) b 1 a1) b 2 a2) b 3 a3, R)) (fun u t => gW1 D cy B u t) (gA B)) 0 0 (gA B) := by
  refine g_met (maxL := 5) (ret := none) (by decide) rfl (Nat.le_of_ble_eq_true rfl) (fun p e s m args below meth c ls X hr hlk hnm hK hP hC hS hl => ?_)
  have hl : lv_has ls 5 [(0, .ref b), (1, .int a0), (2, .int a1), (3, .int a2), (4, .int a3)] := hl
  have hP : gP D cy B z T I R s.heap := hP
  have hB : B ≤ s.heap.size := by rw [hP.1]; exact hP.2.1
  have hinRX3 : ∀ w ∈ wsX30, w ∈ wsX2_init := fun _ h => List.mem_cons_of_mem _ (List.mem_append_left _ (List.mem_append_left _ (List.mem_append_left _ (List.mem_append_right _ h))))
  have k9 : Cond.fieldLink RX2 9 "BarrowPlank$Man" "kind" "I" ∈ wsX2_init := by decide +kernel
  have k15 : Cond.fieldLink RX2 15 "BarrowPlank$Man" "number" "I" ∈ wsX2_init := by decide +kernel
  have k18 : Cond.fieldLink RX2 18 "BarrowPlank$Man" "v" "I" ∈ wsX2_init := by decide +kernel
  have k21 : Cond.fieldLink RX2 21 "BarrowPlank$Man" "strong" "I" ∈ wsX2_init := by decide +kernel
  refine lv_aload_n X.1 X.2.1 dX2_init_0 rfl (lv_at hl 0 rfl) ?_
  refine g_oinit X hl.1 (by decide +kernel) (by decide +kernel) (by decide +kernel) (Nat.le_of_ble_eq_true rfl) (Nat.le_of_ble_eq_true rfl) (Nat.le_of_ble_eq_true rfl) dX2_init_1 ?_
  refine lv_aload_n X.1 X.2.1 dX2_init_4 rfl (lv_at hl 0 rfl) ?_
  refine lv_iload_n X.1 X.2.1 dX2_init_5 rfl (lv_at hl 1 rfl) ?_
  refine g_putiF 5 0 X hK hP hS htb rfl hinRX3 tyX3 tyX3_ok nmX3 rfl (by decide) k9 (fun _ h => h) rfl hnm rfl rfl rfl dX2_init_6 (fun H locs hP hS => ?_)
  generalize eI1 : g2 I b 0 a0 = I1 at hP
  refine lv_aload_n X.1 X.2.1 dX2_init_9 rfl (lv_at hl 0 rfl) ?_
  refine lv_iload_n X.1 X.2.1 dX2_init_10 rfl (lv_at hl 2 rfl) ?_
  refine g_putiF 5 1 X hK hP hS htb rfl hinRX3 tyX3 tyX3_ok nmX3 rfl (by decide) k15 (fun _ h => h) rfl hnm rfl rfl rfl dX2_init_11 (fun H locs hP hS => ?_)
  generalize eI2 : g2 I1 b 1 a1 = I2 at hP
  refine lv_aload_n X.1 X.2.1 dX2_init_14 rfl (lv_at hl 0 rfl) ?_
  refine lv_iload_n X.1 X.2.1 dX2_init_15 rfl (lv_at hl 3 rfl) ?_
  refine g_putiF 5 2 X hK hP hS htb rfl hinRX3 tyX3 tyX3_ok nmX3 rfl (by decide) k18 (fun _ h => h) rfl hnm rfl rfl rfl dX2_init_16 (fun H locs hP hS => ?_)
  generalize eI3 : g2 I2 b 2 a2 = I3 at hP
  refine lv_aload_n X.1 X.2.1 dX2_init_19 rfl (lv_at hl 0 rfl) ?_
  refine lv_iload X.1 X.2.1 dX2_init_20 (lv_at hl 4 rfl) ?_
  refine g_putiF 5 3 X hK hP hS htb rfl hinRX3 tyX3 tyX3_ok nmX3 rfl (by decide) k21 (fun _ h => h) rfl hnm rfl rfl rfl dX2_init_22 (fun H locs hP hS => ?_)
  generalize eI4 : g2 I3 b 3 a3 = I4 at hP
  exact g_vret (f := fun u => u) (z, T, I4, R) X hr hlk hK hP hS dX2_init_25 (by rw [← eI4, ← eI3, ← eI2, ← eI1])

set_option maxHeartbeats 4000000 in
set_option maxRecDepth 100000 in
/-- i_X0_init_1 -/
theorem i_X0_init_1 {b : Nat} {a0 a1 a2 a3 : Int32} (htb : T b = (2 + 8, 0)) : Met l yX0_init wsX0_init ({ frames := 2, cells := 0, slots := 0, locals := 45 }) (va_Pc [.ref b, .int a0, .int a1, .int a2, .int a3] (gW0 s0 D cy B (z, T, I, R))) (va_Qv (fun u => u = (z, T, g2 (g2 (g2 (g2 I b 0 a0) b 1 a1) b 2 a2) b 3 a3, R)) (fun u t => gW1 D cy B u t) (gA B)) 0 0 (gA B) := by
  refine g_met (maxL := 5) (ret := none) (by decide) rfl (Nat.le_of_ble_eq_true rfl) (fun p e s m args below meth c ls X hr hlk hnm hK hP hC hS hl => ?_)
  have hl : lv_has ls 5 [(0, .ref b), (1, .int a0), (2, .int a1), (3, .int a2), (4, .int a3)] := hl
  have hP : gP D cy B z T I R s.heap := hP
  have hB : B ≤ s.heap.size := by rw [hP.1]; exact hP.2.1
  refine lv_aload_n X.1 X.2.1 dX0_init_0 rfl (lv_at hl 0 rfl) ?_
  refine lv_iload_n X.1 X.2.1 dX0_init_1 rfl (lv_at hl 1 rfl) ?_
  refine lv_iload_n X.1 X.2.1 dX0_init_2 rfl (lv_at hl 2 rfl) ?_
  refine lv_iload_n X.1 X.2.1 dX0_init_3 rfl (lv_at hl 3 rfl) ?_
  refine lv_iload X.1 X.2.1 dX0_init_4 (lv_at hl 4 rfl) ?_
  refine g_run_v (f := fun u => u) (g_runI [.int a0, .int a1, .int a2, .int a3] X hK hP hS hC hB (i2_1 htb) (cwI 4 X.2.2.2.2 gX0_init_X2_init rfl rfl rfl (X.2.2.2.2 (.initialized yX2_init.cls) (by decide +kernel)) (X.2.2.2.2 (.methodLink RX0 1 yX2_init) (by decide +kernel)) (X.2.2.2.2 (.instanceMethod yX2_init) (by decide +kernel)) rfl (by decide +kernel) ⟨Nat.le_of_ble_eq_true rfl, Nat.le_of_ble_eq_true rfl⟩) rfl hl.1 rfl (Nat.le_of_ble_eq_true rfl) dX0_init_6 (by exact ⟨Nat.zero_le _, Nat.zero_le _⟩)) hS (fun u H locs hq hP hS => ?_)
  subst hq
  generalize eJ1 : g2 (g2 (g2 (g2 I b 0 a0) b 1 a1) b 2 a2) b 3 a3 = J1 at hP
  have hP : gP D cy B z T J1 R H := hP
  exact g_vret (f := fun u => u) (z, T, J1, R) X hr hlk hK hP hS dX0_init_9 (by rw [← eJ1])

set_option maxHeartbeats 4000000 in
set_option maxRecDepth 100000 in
/-- i_X0_init_4 -/
theorem i_X0_init_4 {b : Nat} {a0 a1 a2 a3 : Int32} (htb : T b = (3 + 8, 0)) : Met l yX0_init wsX0_init ({ frames := 2, cells := 0, slots := 0, locals := 45 }) (va_Pc [.ref b, .int a0, .int a1, .int a2, .int a3] (gW0 s0 D cy B (z, T, I, R))) (va_Qv (fun u => u = (z, T, g2 (g2 (g2 (g2 I b 0 a0) b 1 a1) b 2 a2) b 3 a3, R)) (fun u t => gW1 D cy B u t) (gA B)) 0 0 (gA B) := by
  refine g_met (maxL := 5) (ret := none) (by decide) rfl (Nat.le_of_ble_eq_true rfl) (fun p e s m args below meth c ls X hr hlk hnm hK hP hC hS hl => ?_)
  have hl : lv_has ls 5 [(0, .ref b), (1, .int a0), (2, .int a1), (3, .int a2), (4, .int a3)] := hl
  have hP : gP D cy B z T I R s.heap := hP
  have hB : B ≤ s.heap.size := by rw [hP.1]; exact hP.2.1
  refine lv_aload_n X.1 X.2.1 dX0_init_0 rfl (lv_at hl 0 rfl) ?_
  refine lv_iload_n X.1 X.2.1 dX0_init_1 rfl (lv_at hl 1 rfl) ?_
  refine lv_iload_n X.1 X.2.1 dX0_init_2 rfl (lv_at hl 2 rfl) ?_
  refine lv_iload_n X.1 X.2.1 dX0_init_3 rfl (lv_at hl 3 rfl) ?_
  refine lv_iload X.1 X.2.1 dX0_init_4 (lv_at hl 4 rfl) ?_
  refine g_run_v (f := fun u => u) (g_runI [.int a0, .int a1, .int a2, .int a3] X hK hP hS hC hB (i2_4 htb) (cwI 4 X.2.2.2.2 gX0_init_X2_init rfl rfl rfl (X.2.2.2.2 (.initialized yX2_init.cls) (by decide +kernel)) (X.2.2.2.2 (.methodLink RX0 1 yX2_init) (by decide +kernel)) (X.2.2.2.2 (.instanceMethod yX2_init) (by decide +kernel)) rfl (by decide +kernel) ⟨Nat.le_of_ble_eq_true rfl, Nat.le_of_ble_eq_true rfl⟩) rfl hl.1 rfl (Nat.le_of_ble_eq_true rfl) dX0_init_6 (by exact ⟨Nat.zero_le _, Nat.zero_le _⟩)) hS (fun u H locs hq hP hS => ?_)
  subst hq
  generalize eJ1 : g2 (g2 (g2 (g2 I b 0 a0) b 1 a1) b 2 a2) b 3 a3 = J1 at hP
  have hP : gP D cy B z T J1 R H := hP
  exact g_vret (f := fun u => u) (z, T, J1, R) X hr hlk hK hP hS dX0_init_9 (by rw [← eJ1])

set_option maxHeartbeats 4000000 in
set_option maxRecDepth 100000 in
/-- i_X9_init_2 -/
theorem i_X9_init_2 {b : Nat} {a0 a1 a2 a3 : Int32} (htb : T b = (11 + 8, 0)) : Met l yX9_init wsX9_init ({ frames := 2, cells := 0, slots := 0, locals := 45 }) (va_Pc [.ref b, .int a0, .int a1, .int a2, .int a3] (gW0 s0 D cy B (z, T, I, R))) (va_Qv (fun u => u = (z, T, g2 (g2 (g2 (g2 I b 0 a0) b 1 a1) b 2 a2) b 3 a3, R)) (fun u t => gW1 D cy B u t) (gA B)) 0 0 (gA B) := by
  refine g_met (maxL := 5) (ret := none) (by decide) rfl (Nat.le_of_ble_eq_true rfl) (fun p e s m args below meth c ls X hr hlk hnm hK hP hC hS hl => ?_)
  have hl : lv_has ls 5 [(0, .ref b), (1, .int a0), (2, .int a1), (3, .int a2), (4, .int a3)] := hl
  have hP : gP D cy B z T I R s.heap := hP
  have hB : B ≤ s.heap.size := by rw [hP.1]; exact hP.2.1
  refine lv_aload_n X.1 X.2.1 dX9_init_0 rfl (lv_at hl 0 rfl) ?_
  refine lv_iload_n X.1 X.2.1 dX9_init_1 rfl (lv_at hl 1 rfl) ?_
  refine lv_iload_n X.1 X.2.1 dX9_init_2 rfl (lv_at hl 2 rfl) ?_
  refine lv_iload_n X.1 X.2.1 dX9_init_3 rfl (lv_at hl 3 rfl) ?_
  refine lv_iload X.1 X.2.1 dX9_init_4 (lv_at hl 4 rfl) ?_
  refine g_run_v (f := fun u => u) (g_runI [.int a0, .int a1, .int a2, .int a3] X hK hP hS hC hB (i2_2 htb) (cwI 4 X.2.2.2.2 gX9_init_X2_init rfl rfl rfl (X.2.2.2.2 (.initialized yX2_init.cls) (by decide +kernel)) (X.2.2.2.2 (.methodLink RX9 1 yX2_init) (by decide +kernel)) (X.2.2.2.2 (.instanceMethod yX2_init) (by decide +kernel)) rfl (by decide +kernel) ⟨Nat.le_of_ble_eq_true rfl, Nat.le_of_ble_eq_true rfl⟩) rfl hl.1 rfl (Nat.le_of_ble_eq_true rfl) dX9_init_6 (by exact ⟨Nat.zero_le _, Nat.zero_le _⟩)) hS (fun u H locs hq hP hS => ?_)
  subst hq
  generalize eJ1 : g2 (g2 (g2 (g2 I b 0 a0) b 1 a1) b 2 a2) b 3 a3 = J1 at hP
  have hP : gP D cy B z T J1 R H := hP
  exact g_vret (f := fun u => u) (z, T, J1, R) X hr hlk hK hP hS dX9_init_9 (by rw [← eJ1])

set_option maxHeartbeats 4000000 in
set_option maxRecDepth 100000 in
/-- i_X9_init_5 -/
theorem i_X9_init_5 {b : Nat} {a0 a1 a2 a3 : Int32} (htb : T b = (9 + 8, 0)) : Met l yX9_init wsX9_init ({ frames := 2, cells := 0, slots := 0, locals := 45 }) (va_Pc [.ref b, .int a0, .int a1, .int a2, .int a3] (gW0 s0 D cy B (z, T, I, R))) (va_Qv (fun u => u = (z, T, g2 (g2 (g2 (g2 I b 0 a0) b 1 a1) b 2 a2) b 3 a3, R)) (fun u t => gW1 D cy B u t) (gA B)) 0 0 (gA B) := by
  refine g_met (maxL := 5) (ret := none) (by decide) rfl (Nat.le_of_ble_eq_true rfl) (fun p e s m args below meth c ls X hr hlk hnm hK hP hC hS hl => ?_)
  have hl : lv_has ls 5 [(0, .ref b), (1, .int a0), (2, .int a1), (3, .int a2), (4, .int a3)] := hl
  have hP : gP D cy B z T I R s.heap := hP
  have hB : B ≤ s.heap.size := by rw [hP.1]; exact hP.2.1
  refine lv_aload_n X.1 X.2.1 dX9_init_0 rfl (lv_at hl 0 rfl) ?_
  refine lv_iload_n X.1 X.2.1 dX9_init_1 rfl (lv_at hl 1 rfl) ?_
  refine lv_iload_n X.1 X.2.1 dX9_init_2 rfl (lv_at hl 2 rfl) ?_
  refine lv_iload_n X.1 X.2.1 dX9_init_3 rfl (lv_at hl 3 rfl) ?_
  refine lv_iload X.1 X.2.1 dX9_init_4 (lv_at hl 4 rfl) ?_
  refine g_run_v (f := fun u => u) (g_runI [.int a0, .int a1, .int a2, .int a3] X hK hP hS hC hB (i2_5 htb) (cwI 4 X.2.2.2.2 gX9_init_X2_init rfl rfl rfl (X.2.2.2.2 (.initialized yX2_init.cls) (by decide +kernel)) (X.2.2.2.2 (.methodLink RX9 1 yX2_init) (by decide +kernel)) (X.2.2.2.2 (.instanceMethod yX2_init) (by decide +kernel)) rfl (by decide +kernel) ⟨Nat.le_of_ble_eq_true rfl, Nat.le_of_ble_eq_true rfl⟩) rfl hl.1 rfl (Nat.le_of_ble_eq_true rfl) dX9_init_6 (by exact ⟨Nat.zero_le _, Nat.zero_le _⟩)) hS (fun u H locs hq hP hS => ?_)
  subst hq
  generalize eJ1 : g2 (g2 (g2 (g2 I b 0 a0) b 1 a1) b 2 a2) b 3 a3 = J1 at hP
  have hP : gP D cy B z T J1 R H := hP
  exact g_vret (f := fun u => u) (z, T, J1, R) X hr hlk hK hP hS dX9_init_9 (by rw [← eJ1])

set_option maxHeartbeats 4000000 in
set_option maxRecDepth 100000 in
/-- i_X6_init_3 -/
theorem i_X6_init_3 {b : Nat} {a0 a1 a2 a3 : Int32} (htb : T b = (8 + 8, 0)) : Met l yX6_init wsX6_init ({ frames := 2, cells := 0, slots := 0, locals := 45 }) (va_Pc [.ref b, .int a0, .int a1, .int a2, .int a3] (gW0 s0 D cy B (z, T, I, R))) (va_Qv (fun u => u = (z, T, g2 (g2 (g2 (g2 I b 0 a0) b 1 a1) b 2 a2) b 3 a3, R)) (fun u t => gW1 D cy B u t) (gA B)) 0 0 (gA B) := by
  refine g_met (maxL := 5) (ret := none) (by decide) rfl (Nat.le_of_ble_eq_true rfl) (fun p e s m args below meth c ls X hr hlk hnm hK hP hC hS hl => ?_)
  have hl : lv_has ls 5 [(0, .ref b), (1, .int a0), (2, .int a1), (3, .int a2), (4, .int a3)] := hl
  have hP : gP D cy B z T I R s.heap := hP
  have hB : B ≤ s.heap.size := by rw [hP.1]; exact hP.2.1
  refine lv_aload_n X.1 X.2.1 dX6_init_0 rfl (lv_at hl 0 rfl) ?_
  refine lv_iload_n X.1 X.2.1 dX6_init_1 rfl (lv_at hl 1 rfl) ?_
  refine lv_iload_n X.1 X.2.1 dX6_init_2 rfl (lv_at hl 2 rfl) ?_
  refine lv_iload_n X.1 X.2.1 dX6_init_3 rfl (lv_at hl 3 rfl) ?_
  refine lv_iload X.1 X.2.1 dX6_init_4 (lv_at hl 4 rfl) ?_
  refine g_run_v (f := fun u => u) (g_runI [.int a0, .int a1, .int a2, .int a3] X hK hP hS hC hB (i2_3 htb) (cwI 4 X.2.2.2.2 gX6_init_X2_init rfl rfl rfl (X.2.2.2.2 (.initialized yX2_init.cls) (by decide +kernel)) (X.2.2.2.2 (.methodLink RX6 1 yX2_init) (by decide +kernel)) (X.2.2.2.2 (.instanceMethod yX2_init) (by decide +kernel)) rfl (by decide +kernel) ⟨Nat.le_of_ble_eq_true rfl, Nat.le_of_ble_eq_true rfl⟩) rfl hl.1 rfl (Nat.le_of_ble_eq_true rfl) dX6_init_6 (by exact ⟨Nat.zero_le _, Nat.zero_le _⟩)) hS (fun u H locs hq hP hS => ?_)
  subst hq
  generalize eJ1 : g2 (g2 (g2 (g2 I b 0 a0) b 1 a1) b 2 a2) b 3 a3 = J1 at hP
  have hP : gP D cy B z T J1 R H := hP
  exact g_vret (f := fun u => u) (z, T, J1, R) X hr hlk hK hP hS dX6_init_9 (by rw [← eJ1])

set_option maxHeartbeats 4000000 in
set_option maxRecDepth 100000 in
/-- i_X6_init_6 -/
theorem i_X6_init_6 {b : Nat} {a0 a1 a2 a3 : Int32} (htb : T b = (5 + 8, 0)) : Met l yX6_init wsX6_init ({ frames := 2, cells := 0, slots := 0, locals := 45 }) (va_Pc [.ref b, .int a0, .int a1, .int a2, .int a3] (gW0 s0 D cy B (z, T, I, R))) (va_Qv (fun u => u = (z, T, g2 (g2 (g2 (g2 I b 0 a0) b 1 a1) b 2 a2) b 3 a3, R)) (fun u t => gW1 D cy B u t) (gA B)) 0 0 (gA B) := by
  refine g_met (maxL := 5) (ret := none) (by decide) rfl (Nat.le_of_ble_eq_true rfl) (fun p e s m args below meth c ls X hr hlk hnm hK hP hC hS hl => ?_)
  have hl : lv_has ls 5 [(0, .ref b), (1, .int a0), (2, .int a1), (3, .int a2), (4, .int a3)] := hl
  have hP : gP D cy B z T I R s.heap := hP
  have hB : B ≤ s.heap.size := by rw [hP.1]; exact hP.2.1
  refine lv_aload_n X.1 X.2.1 dX6_init_0 rfl (lv_at hl 0 rfl) ?_
  refine lv_iload_n X.1 X.2.1 dX6_init_1 rfl (lv_at hl 1 rfl) ?_
  refine lv_iload_n X.1 X.2.1 dX6_init_2 rfl (lv_at hl 2 rfl) ?_
  refine lv_iload_n X.1 X.2.1 dX6_init_3 rfl (lv_at hl 3 rfl) ?_
  refine lv_iload X.1 X.2.1 dX6_init_4 (lv_at hl 4 rfl) ?_
  refine g_run_v (f := fun u => u) (g_runI [.int a0, .int a1, .int a2, .int a3] X hK hP hS hC hB (i2_6 htb) (cwI 4 X.2.2.2.2 gX6_init_X2_init rfl rfl rfl (X.2.2.2.2 (.initialized yX2_init.cls) (by decide +kernel)) (X.2.2.2.2 (.methodLink RX6 1 yX2_init) (by decide +kernel)) (X.2.2.2.2 (.instanceMethod yX2_init) (by decide +kernel)) rfl (by decide +kernel) ⟨Nat.le_of_ble_eq_true rfl, Nat.le_of_ble_eq_true rfl⟩) rfl hl.1 rfl (Nat.le_of_ble_eq_true rfl) dX6_init_6 (by exact ⟨Nat.zero_le _, Nat.zero_le _⟩)) hS (fun u H locs hq hP hS => ?_)
  subst hq
  generalize eJ1 : g2 (g2 (g2 (g2 I b 0 a0) b 1 a1) b 2 a2) b 3 a3 = J1 at hP
  have hP : gP D cy B z T J1 R H := hP
  exact g_vret (f := fun u => u) (z, T, J1, R) X hr hlk hK hP hS dX6_init_9 (by rw [← eJ1])

set_option maxHeartbeats 4000000 in
set_option maxRecDepth 100000 in
/-- i_X1_init_4 -/
theorem i_X1_init_4 {b : Nat} {a0 a1 a2 a3 : Int32} (htb : T b = (3 + 8, 0)) : Met l yX1_init wsX1_init ({ frames := 3, cells := 0, slots := 0, locals := 69 }) (va_Pc [.ref b, .int a0, .int a1, .int a2, .int a3] (gW0 s0 D cy B (z, T, I, R))) (va_Qv (fun u => u = (z, T, g2 (g2 (g2 (g2 I b 0 a0) b 1 a1) b 2 a2) b 3 a3, R)) (fun u t => gW1 D cy B u t) (gA B)) 0 0 (gA B) := by
  refine g_met (maxL := 5) (ret := none) (by decide) rfl (Nat.le_of_ble_eq_true rfl) (fun p e s m args below meth c ls X hr hlk hnm hK hP hC hS hl => ?_)
  have hl : lv_has ls 5 [(0, .ref b), (1, .int a0), (2, .int a1), (3, .int a2), (4, .int a3)] := hl
  have hP : gP D cy B z T I R s.heap := hP
  have hB : B ≤ s.heap.size := by rw [hP.1]; exact hP.2.1
  refine lv_aload_n X.1 X.2.1 dX1_init_0 rfl (lv_at hl 0 rfl) ?_
  refine lv_iload_n X.1 X.2.1 dX1_init_1 rfl (lv_at hl 1 rfl) ?_
  refine lv_iload_n X.1 X.2.1 dX1_init_2 rfl (lv_at hl 2 rfl) ?_
  refine lv_iload_n X.1 X.2.1 dX1_init_3 rfl (lv_at hl 3 rfl) ?_
  refine lv_iload X.1 X.2.1 dX1_init_4 (lv_at hl 4 rfl) ?_
  refine g_run_v (f := fun u => u) (g_runI [.int a0, .int a1, .int a2, .int a3] X hK hP hS hC hB (i_X0_init_4 htb) (cwI 4 X.2.2.2.2 gX1_init_X0_init rfl rfl rfl (X.2.2.2.2 (.initialized yX0_init.cls) (by decide +kernel)) (X.2.2.2.2 (.methodLink RX1 1 yX0_init) (by decide +kernel)) (X.2.2.2.2 (.instanceMethod yX0_init) (by decide +kernel)) rfl (by decide +kernel) ⟨Nat.le_of_ble_eq_true rfl, Nat.le_of_ble_eq_true rfl⟩) rfl hl.1 rfl (Nat.le_of_ble_eq_true rfl) dX1_init_6 (by exact ⟨Nat.zero_le _, Nat.zero_le _⟩)) hS (fun u H locs hq hP hS => ?_)
  subst hq
  generalize eJ1 : g2 (g2 (g2 (g2 I b 0 a0) b 1 a1) b 2 a2) b 3 a3 = J1 at hP
  have hP : gP D cy B z T J1 R H := hP
  exact g_vret (f := fun u => u) (z, T, J1, R) X hr hlk hK hP hS dX1_init_9 (by rw [← eJ1])

set_option maxHeartbeats 4000000 in
set_option maxRecDepth 100000 in
/-- i_X7_init_5 -/
theorem i_X7_init_5 {b : Nat} {a0 a1 a2 a3 : Int32} (htb : T b = (9 + 8, 0)) : Met l yX7_init wsX7_init ({ frames := 3, cells := 0, slots := 0, locals := 69 }) (va_Pc [.ref b, .int a0, .int a1, .int a2, .int a3] (gW0 s0 D cy B (z, T, I, R))) (va_Qv (fun u => u = (z, T, g2 (g2 (g2 (g2 I b 0 a0) b 1 a1) b 2 a2) b 3 a3, R)) (fun u t => gW1 D cy B u t) (gA B)) 0 0 (gA B) := by
  refine g_met (maxL := 5) (ret := none) (by decide) rfl (Nat.le_of_ble_eq_true rfl) (fun p e s m args below meth c ls X hr hlk hnm hK hP hC hS hl => ?_)
  have hl : lv_has ls 5 [(0, .ref b), (1, .int a0), (2, .int a1), (3, .int a2), (4, .int a3)] := hl
  have hP : gP D cy B z T I R s.heap := hP
  have hB : B ≤ s.heap.size := by rw [hP.1]; exact hP.2.1
  refine lv_aload_n X.1 X.2.1 dX7_init_0 rfl (lv_at hl 0 rfl) ?_
  refine lv_iload_n X.1 X.2.1 dX7_init_1 rfl (lv_at hl 1 rfl) ?_
  refine lv_iload_n X.1 X.2.1 dX7_init_2 rfl (lv_at hl 2 rfl) ?_
  refine lv_iload_n X.1 X.2.1 dX7_init_3 rfl (lv_at hl 3 rfl) ?_
  refine lv_iload X.1 X.2.1 dX7_init_4 (lv_at hl 4 rfl) ?_
  refine g_run_v (f := fun u => u) (g_runI [.int a0, .int a1, .int a2, .int a3] X hK hP hS hC hB (i_X9_init_5 htb) (cwI 4 X.2.2.2.2 gX7_init_X9_init rfl rfl rfl (X.2.2.2.2 (.initialized yX9_init.cls) (by decide +kernel)) (X.2.2.2.2 (.methodLink RX7 1 yX9_init) (by decide +kernel)) (X.2.2.2.2 (.instanceMethod yX9_init) (by decide +kernel)) rfl (by decide +kernel) ⟨Nat.le_of_ble_eq_true rfl, Nat.le_of_ble_eq_true rfl⟩) rfl hl.1 rfl (Nat.le_of_ble_eq_true rfl) dX7_init_6 (by exact ⟨Nat.zero_le _, Nat.zero_le _⟩)) hS (fun u H locs hq hP hS => ?_)
  subst hq
  generalize eJ1 : g2 (g2 (g2 (g2 I b 0 a0) b 1 a1) b 2 a2) b 3 a3 = J1 at hP
  have hP : gP D cy B z T J1 R H := hP
  exact g_vret (f := fun u => u) (z, T, J1, R) X hr hlk hK hP hS dX7_init_9 (by rw [← eJ1])

set_option maxHeartbeats 4000000 in
set_option maxRecDepth 100000 in
/-- i_X3_init_6 -/
theorem i_X3_init_6 {b : Nat} {a0 a1 a2 a3 : Int32} (htb : T b = (5 + 8, 0)) : Met l yX3_init wsX3_init ({ frames := 3, cells := 0, slots := 0, locals := 69 }) (va_Pc [.ref b, .int a0, .int a1, .int a2, .int a3] (gW0 s0 D cy B (z, T, I, R))) (va_Qv (fun u => u = (z, T, g2 (g2 (g2 (g2 I b 0 a0) b 1 a1) b 2 a2) b 3 a3, R)) (fun u t => gW1 D cy B u t) (gA B)) 0 0 (gA B) := by
  refine g_met (maxL := 5) (ret := none) (by decide) rfl (Nat.le_of_ble_eq_true rfl) (fun p e s m args below meth c ls X hr hlk hnm hK hP hC hS hl => ?_)
  have hl : lv_has ls 5 [(0, .ref b), (1, .int a0), (2, .int a1), (3, .int a2), (4, .int a3)] := hl
  have hP : gP D cy B z T I R s.heap := hP
  have hB : B ≤ s.heap.size := by rw [hP.1]; exact hP.2.1
  refine lv_aload_n X.1 X.2.1 dX3_init_0 rfl (lv_at hl 0 rfl) ?_
  refine lv_iload_n X.1 X.2.1 dX3_init_1 rfl (lv_at hl 1 rfl) ?_
  refine lv_iload_n X.1 X.2.1 dX3_init_2 rfl (lv_at hl 2 rfl) ?_
  refine lv_iload_n X.1 X.2.1 dX3_init_3 rfl (lv_at hl 3 rfl) ?_
  refine lv_iload X.1 X.2.1 dX3_init_4 (lv_at hl 4 rfl) ?_
  refine g_run_v (f := fun u => u) (g_runI [.int a0, .int a1, .int a2, .int a3] X hK hP hS hC hB (i_X6_init_6 htb) (cwI 4 X.2.2.2.2 gX3_init_X6_init rfl rfl rfl (X.2.2.2.2 (.initialized yX6_init.cls) (by decide +kernel)) (X.2.2.2.2 (.methodLink RX3 1 yX6_init) (by decide +kernel)) (X.2.2.2.2 (.instanceMethod yX6_init) (by decide +kernel)) rfl (by decide +kernel) ⟨Nat.le_of_ble_eq_true rfl, Nat.le_of_ble_eq_true rfl⟩) rfl hl.1 rfl (Nat.le_of_ble_eq_true rfl) dX3_init_6 (by exact ⟨Nat.zero_le _, Nat.zero_le _⟩)) hS (fun u H locs hq hP hS => ?_)
  subst hq
  generalize eJ1 : g2 (g2 (g2 (g2 I b 0 a0) b 1 a1) b 2 a2) b 3 a3 = J1 at hP
  have hP : gP D cy B z T J1 R H := hP
  exact g_vret (f := fun u => u) (z, T, J1, R) X hr hlk hK hP hS dX3_init_9 (by rw [← eJ1])

set_option maxHeartbeats 4000000 in
set_option maxRecDepth 100000 in
/-- t_make_0 -/
theorem t_make_0 {a1 a2 a3 : Int32} : Met l yX2_make wsX2_make ({ frames := 4, cells := 1, slots := 4, locals := 93 }) (va_Pc [.int 0, .int a1, .int a2, .int a3] (gW0 s0 D cy B (z, T, I, R))) (va_Qq (fun r u => r = some z ∧ ∃ T' I' R', u = (z + 1, T', I', R') ∧ (T' z = (mcl 0 + 8, 0) ∧ I' z 0 = nI 0 ∧ I' z 1 = a1 ∧ I' z 2 = a2 ∧ I' z 3 = a3) ∧ gNe z T T' I I' R R') (fun u t => gW1 D cy B u t) (gA B)) 1 4 (gA B) := by
  refine g_met (maxL := 4) (ret := (some (.object "BarrowPlank$Man"))) (by decide) rfl (Nat.le_of_ble_eq_true rfl) (fun p e s m args below meth c ls X hr hlk hnm hK hP hC hS hl => ?_)
  have hl : lv_has ls 4 [(0, .int 0), (1, .int a1), (2, .int a2), (3, .int a3)] := hl
  have hP : gP D cy B z T I R s.heap := hP
  have hB : B ≤ s.heap.size := by rw [hP.1]; exact hP.2.1
  have hinRX2 : ∀ w ∈ wsX20, w ∈ wsX2_make := fun _ h => List.mem_cons_of_mem _ (List.mem_append_right _ h)
  refine lv_iload_n X.1 X.2.1 dX2_make_0 rfl (lv_at hl 0 rfl) ?_
  refine lv_tableOut (tgt := 112) X.1 X.2.1 dX2_make_1 (by decide) (by decide) ?_
  refine g_new 4 X hK hP hS rfl hinRX2 tyX2 tyX2_ok (index := 10) (by decide +kernel) (by decide +kernel) (by decide +kernel) ndX2 (Nat.le_of_ble_eq_true rfl) (Nat.le_of_ble_eq_true rfl) dX2_make_112 (fun H hP hS => ?_)
  generalize eT1 : g1 T z (4 + 8, 0) = T1 at hP
  generalize eI2 : gr I z (fun _ => 0) = I2 at hP
  generalize eR3 : gr R z (fun _ => none) = R3 at hP
  have hT1z : T1 z = (4 + 8, 0) := by rw [← eT1]; exact g1_same
  have hT1n : ∀ c, c ≠ z → T1 c = T c := fun c h => by rw [← eT1]; exact g1_ne h
  have hI2n : ∀ c j, c ≠ z → I2 c j = I c j := fun c j h => by rw [← eI2, gr_row h]
  have hI2z : ∀ j, I2 z j = 0 := fun j => by rw [← eI2, gr_at]
  have hR3n : ∀ c j, c ≠ z → R3 c j = R c j := fun c j h => by rw [← eR3, gr_row h]
  have hR3z : ∀ j, R3 z j = none := fun j => by rw [← eR3, gr_at]
  refine lv_dup X.1 X.2.1 dX2_make_115 rfl ?_
  refine lv_iload_n X.1 X.2.1 dX2_make_116 rfl (lv_at hl 0 rfl) ?_
  refine lv_iload_n X.1 X.2.1 dX2_make_117 rfl (lv_at hl 1 rfl) ?_
  refine lv_iload_n X.1 X.2.1 dX2_make_118 rfl (lv_at hl 2 rfl) ?_
  refine lv_iload_n X.1 X.2.1 dX2_make_119 rfl (lv_at hl 3 rfl) ?_
  refine g_run_v (f := fun u => u) (g_runI [.int 0, .int a1, .int a2, .int a3] X hK hP hS hC hB (i2_0 (b := z) hT1z) (cwI 4 X.2.2.2.2 gX2_make_X2_init rfl rfl rfl (X.2.2.2.2 (.initialized yX2_init.cls) (by decide +kernel)) (X.2.2.2.2 (.methodLink RX2 44 yX2_init) (by decide +kernel)) (X.2.2.2.2 (.instanceMethod yX2_init) (by decide +kernel)) rfl (by decide +kernel) ⟨Nat.le_of_ble_eq_true rfl, Nat.le_of_ble_eq_true rfl⟩) rfl hl.1 rfl (Nat.le_of_ble_eq_true rfl) dX2_make_120 ⟨Nat.le_of_ble_eq_true rfl, Nat.le_of_ble_eq_true rfl⟩) hS (fun u H locs hq hP hS => ?_)
  subst hq
  generalize eJ4 : g2 (g2 (g2 (g2 I2 z 0 0) z 1 a1) z 2 a2) z 3 a3 = J4 at hP
  have hP : gP D cy B (z + 1) T1 J4 R3 H := hP
  exact g_aret (f := fun u => u) (some z) (z + 1, T1, J4, R3) X hr (Or.inl ⟨_, rfl⟩) hlk hK hP hS dX2_make_123 rfl ⟨rfl, T1, J4, R3, rfl, ⟨hT1z, (by rw [← eJ4, g2_nj (by decide), g2_nj (by decide), g2_nj (by decide), g2_same]; rfl), (by rw [← eJ4, g2_nj (by decide), g2_nj (by decide), g2_same]), (by rw [← eJ4, g2_nj (by decide), g2_same]), (by rw [← eJ4, g2_same])⟩, fun c hc => ⟨hT1n c hc, fun j => (by rw [← eJ4, g2_na hc, g2_na hc, g2_na hc, g2_na hc]; exact hI2n c j hc), fun j => hR3n c j hc⟩⟩

set_option maxHeartbeats 4000000 in
set_option maxRecDepth 100000 in
/-- t_make_1 -/
theorem t_make_1 {a1 a2 a3 : Int32} : Met l yX2_make wsX2_make ({ frames := 4, cells := 1, slots := 4, locals := 93 }) (va_Pc [.int 1, .int a1, .int a2, .int a3] (gW0 s0 D cy B (z, T, I, R))) (va_Qq (fun r u => r = some z ∧ ∃ T' I' R', u = (z + 1, T', I', R') ∧ (T' z = (mcl 1 + 8, 0) ∧ I' z 0 = nI 1 ∧ I' z 1 = a1 ∧ I' z 2 = a2 ∧ I' z 3 = a3) ∧ gNe z T T' I I' R R') (fun u t => gW1 D cy B u t) (gA B)) 1 4 (gA B) := by
  refine g_met (maxL := 4) (ret := (some (.object "BarrowPlank$Man"))) (by decide) rfl (Nat.le_of_ble_eq_true rfl) (fun p e s m args below meth c ls X hr hlk hnm hK hP hC hS hl => ?_)
  have hl : lv_has ls 4 [(0, .int 1), (1, .int a1), (2, .int a2), (3, .int a3)] := hl
  have hP : gP D cy B z T I R s.heap := hP
  have hB : B ≤ s.heap.size := by rw [hP.1]; exact hP.2.1
  have hinRX0 : ∀ w ∈ wsX00, w ∈ wsX2_make := fun _ h => List.mem_cons_of_mem _ (List.mem_append_left _ (List.mem_append_left _ (List.mem_append_left _ (List.mem_append_left _ (List.mem_append_left _ (List.mem_append_left _ (List.mem_append_right _ h)))))))
  refine lv_iload_n X.1 X.2.1 dX2_make_0 rfl (lv_at hl 0 rfl) ?_
  refine lv_tableIn (off := 39) (tgt := 40) X.1 X.2.1 dX2_make_1 (by decide) (by decide) (by decide) (by decide) ?_
  refine g_new 2 X hK hP hS rfl hinRX0 tyX0 tyX0_ok (index := 24) (by decide +kernel) (by decide +kernel) (by decide +kernel) ndX0 (Nat.le_of_ble_eq_true rfl) (Nat.le_of_ble_eq_true rfl) dX2_make_40 (fun H hP hS => ?_)
  generalize eT1 : g1 T z (2 + 8, 0) = T1 at hP
  generalize eI2 : gr I z (fun _ => 0) = I2 at hP
  generalize eR3 : gr R z (fun _ => none) = R3 at hP
  have hT1z : T1 z = (2 + 8, 0) := by rw [← eT1]; exact g1_same
  have hT1n : ∀ c, c ≠ z → T1 c = T c := fun c h => by rw [← eT1]; exact g1_ne h
  have hI2n : ∀ c j, c ≠ z → I2 c j = I c j := fun c j h => by rw [← eI2, gr_row h]
  have hI2z : ∀ j, I2 z j = 0 := fun j => by rw [← eI2, gr_at]
  have hR3n : ∀ c j, c ≠ z → R3 c j = R c j := fun c j h => by rw [← eR3, gr_row h]
  have hR3z : ∀ j, R3 z j = none := fun j => by rw [← eR3, gr_at]
  refine lv_dup X.1 X.2.1 dX2_make_43 rfl ?_
  refine lv_iload_n X.1 X.2.1 dX2_make_44 rfl (lv_at hl 0 rfl) ?_
  refine lv_iload_n X.1 X.2.1 dX2_make_45 rfl (lv_at hl 1 rfl) ?_
  refine lv_iload_n X.1 X.2.1 dX2_make_46 rfl (lv_at hl 2 rfl) ?_
  refine lv_iload_n X.1 X.2.1 dX2_make_47 rfl (lv_at hl 3 rfl) ?_
  refine g_run_v (f := fun u => u) (g_runI [.int 1, .int a1, .int a2, .int a3] X hK hP hS hC hB (i_X0_init_1 (b := z) hT1z) (cwI 4 X.2.2.2.2 gX2_make_X0_init rfl rfl rfl (X.2.2.2.2 (.initialized yX0_init.cls) (by decide +kernel)) (X.2.2.2.2 (.methodLink RX2 26 yX0_init) (by decide +kernel)) (X.2.2.2.2 (.instanceMethod yX0_init) (by decide +kernel)) rfl (by decide +kernel) ⟨Nat.le_of_ble_eq_true rfl, Nat.le_of_ble_eq_true rfl⟩) rfl hl.1 rfl (Nat.le_of_ble_eq_true rfl) dX2_make_48 ⟨Nat.le_of_ble_eq_true rfl, Nat.le_of_ble_eq_true rfl⟩) hS (fun u H locs hq hP hS => ?_)
  subst hq
  generalize eJ4 : g2 (g2 (g2 (g2 I2 z 0 1) z 1 a1) z 2 a2) z 3 a3 = J4 at hP
  have hP : gP D cy B (z + 1) T1 J4 R3 H := hP
  exact g_aret (f := fun u => u) (some z) (z + 1, T1, J4, R3) X hr (Or.inl ⟨_, rfl⟩) hlk hK hP hS dX2_make_51 rfl ⟨rfl, T1, J4, R3, rfl, ⟨hT1z, (by rw [← eJ4, g2_nj (by decide), g2_nj (by decide), g2_nj (by decide), g2_same]; rfl), (by rw [← eJ4, g2_nj (by decide), g2_nj (by decide), g2_same]), (by rw [← eJ4, g2_nj (by decide), g2_same]), (by rw [← eJ4, g2_same])⟩, fun c hc => ⟨hT1n c hc, fun j => (by rw [← eJ4, g2_na hc, g2_na hc, g2_na hc, g2_na hc]; exact hI2n c j hc), fun j => hR3n c j hc⟩⟩

set_option maxHeartbeats 4000000 in
set_option maxRecDepth 100000 in
/-- t_make_2 -/
theorem t_make_2 {a1 a2 a3 : Int32} : Met l yX2_make wsX2_make ({ frames := 4, cells := 1, slots := 4, locals := 93 }) (va_Pc [.int 2, .int a1, .int a2, .int a3] (gW0 s0 D cy B (z, T, I, R))) (va_Qq (fun r u => r = some z ∧ ∃ T' I' R', u = (z + 1, T', I', R') ∧ (T' z = (mcl 2 + 8, 0) ∧ I' z 0 = nI 2 ∧ I' z 1 = a1 ∧ I' z 2 = a2 ∧ I' z 3 = a3) ∧ gNe z T T' I I' R R') (fun u t => gW1 D cy B u t) (gA B)) 1 4 (gA B) := by
  refine g_met (maxL := 4) (ret := (some (.object "BarrowPlank$Man"))) (by decide) rfl (Nat.le_of_ble_eq_true rfl) (fun p e s m args below meth c ls X hr hlk hnm hK hP hC hS hl => ?_)
  have hl : lv_has ls 4 [(0, .int 2), (1, .int a1), (2, .int a2), (3, .int a3)] := hl
  have hP : gP D cy B z T I R s.heap := hP
  have hB : B ≤ s.heap.size := by rw [hP.1]; exact hP.2.1
  have hinRX9 : ∀ w ∈ wsX90, w ∈ wsX2_make := fun _ h => List.mem_cons_of_mem _ (List.mem_append_left _ (List.mem_append_left _ (List.mem_append_left _ (List.mem_append_left _ (List.mem_append_left _ (List.mem_append_right _ h))))))
  refine lv_iload_n X.1 X.2.1 dX2_make_0 rfl (lv_at hl 0 rfl) ?_
  refine lv_tableIn (off := 51) (tgt := 52) X.1 X.2.1 dX2_make_1 (by decide) (by decide) (by decide) (by decide) ?_
  refine g_new 11 X hK hP hS rfl hinRX9 tyX9 tyX9_ok (index := 29) (by decide +kernel) (by decide +kernel) (by decide +kernel) ndX9 (Nat.le_of_ble_eq_true rfl) (Nat.le_of_ble_eq_true rfl) dX2_make_52 (fun H hP hS => ?_)
  generalize eT1 : g1 T z (11 + 8, 0) = T1 at hP
  generalize eI2 : gr I z (fun _ => 0) = I2 at hP
  generalize eR3 : gr R z (fun _ => none) = R3 at hP
  have hT1z : T1 z = (11 + 8, 0) := by rw [← eT1]; exact g1_same
  have hT1n : ∀ c, c ≠ z → T1 c = T c := fun c h => by rw [← eT1]; exact g1_ne h
  have hI2n : ∀ c j, c ≠ z → I2 c j = I c j := fun c j h => by rw [← eI2, gr_row h]
  have hI2z : ∀ j, I2 z j = 0 := fun j => by rw [← eI2, gr_at]
  have hR3n : ∀ c j, c ≠ z → R3 c j = R c j := fun c j h => by rw [← eR3, gr_row h]
  have hR3z : ∀ j, R3 z j = none := fun j => by rw [← eR3, gr_at]
  refine lv_dup X.1 X.2.1 dX2_make_55 rfl ?_
  refine lv_iload_n X.1 X.2.1 dX2_make_56 rfl (lv_at hl 0 rfl) ?_
  refine lv_iload_n X.1 X.2.1 dX2_make_57 rfl (lv_at hl 1 rfl) ?_
  refine lv_iload_n X.1 X.2.1 dX2_make_58 rfl (lv_at hl 2 rfl) ?_
  refine lv_iload_n X.1 X.2.1 dX2_make_59 rfl (lv_at hl 3 rfl) ?_
  refine g_run_v (f := fun u => u) (g_runI [.int 2, .int a1, .int a2, .int a3] X hK hP hS hC hB (i_X9_init_2 (b := z) hT1z) (cwI 4 X.2.2.2.2 gX2_make_X9_init rfl rfl rfl (X.2.2.2.2 (.initialized yX9_init.cls) (by decide +kernel)) (X.2.2.2.2 (.methodLink RX2 31 yX9_init) (by decide +kernel)) (X.2.2.2.2 (.instanceMethod yX9_init) (by decide +kernel)) rfl (by decide +kernel) ⟨Nat.le_of_ble_eq_true rfl, Nat.le_of_ble_eq_true rfl⟩) rfl hl.1 rfl (Nat.le_of_ble_eq_true rfl) dX2_make_60 ⟨Nat.le_of_ble_eq_true rfl, Nat.le_of_ble_eq_true rfl⟩) hS (fun u H locs hq hP hS => ?_)
  subst hq
  generalize eJ4 : g2 (g2 (g2 (g2 I2 z 0 2) z 1 a1) z 2 a2) z 3 a3 = J4 at hP
  have hP : gP D cy B (z + 1) T1 J4 R3 H := hP
  exact g_aret (f := fun u => u) (some z) (z + 1, T1, J4, R3) X hr (Or.inl ⟨_, rfl⟩) hlk hK hP hS dX2_make_63 rfl ⟨rfl, T1, J4, R3, rfl, ⟨hT1z, (by rw [← eJ4, g2_nj (by decide), g2_nj (by decide), g2_nj (by decide), g2_same]; rfl), (by rw [← eJ4, g2_nj (by decide), g2_nj (by decide), g2_same]), (by rw [← eJ4, g2_nj (by decide), g2_same]), (by rw [← eJ4, g2_same])⟩, fun c hc => ⟨hT1n c hc, fun j => (by rw [← eJ4, g2_na hc, g2_na hc, g2_na hc, g2_na hc]; exact hI2n c j hc), fun j => hR3n c j hc⟩⟩

set_option maxHeartbeats 4000000 in
set_option maxRecDepth 100000 in
/-- t_make_3 -/
theorem t_make_3 {a1 a2 a3 : Int32} : Met l yX2_make wsX2_make ({ frames := 4, cells := 1, slots := 4, locals := 93 }) (va_Pc [.int 3, .int a1, .int a2, .int a3] (gW0 s0 D cy B (z, T, I, R))) (va_Qq (fun r u => r = some z ∧ ∃ T' I' R', u = (z + 1, T', I', R') ∧ (T' z = (mcl 3 + 8, 0) ∧ I' z 0 = nI 3 ∧ I' z 1 = a1 ∧ I' z 2 = a2 ∧ I' z 3 = a3) ∧ gNe z T T' I I' R R') (fun u t => gW1 D cy B u t) (gA B)) 1 4 (gA B) := by
  refine g_met (maxL := 4) (ret := (some (.object "BarrowPlank$Man"))) (by decide) rfl (Nat.le_of_ble_eq_true rfl) (fun p e s m args below meth c ls X hr hlk hnm hK hP hC hS hl => ?_)
  have hl : lv_has ls 4 [(0, .int 3), (1, .int a1), (2, .int a2), (3, .int a3)] := hl
  have hP : gP D cy B z T I R s.heap := hP
  have hB : B ≤ s.heap.size := by rw [hP.1]; exact hP.2.1
  have hinRX6 : ∀ w ∈ wsX60, w ∈ wsX2_make := fun _ h => List.mem_cons_of_mem _ (List.mem_append_left _ (List.mem_append_left _ (List.mem_append_left _ (List.mem_append_left _ (List.mem_append_right _ h)))))
  refine lv_iload_n X.1 X.2.1 dX2_make_0 rfl (lv_at hl 0 rfl) ?_
  refine lv_tableIn (off := 63) (tgt := 64) X.1 X.2.1 dX2_make_1 (by decide) (by decide) (by decide) (by decide) ?_
  refine g_new 8 X hK hP hS rfl hinRX6 tyX6 tyX6_ok (index := 32) (by decide +kernel) (by decide +kernel) (by decide +kernel) ndX6 (Nat.le_of_ble_eq_true rfl) (Nat.le_of_ble_eq_true rfl) dX2_make_64 (fun H hP hS => ?_)
  generalize eT1 : g1 T z (8 + 8, 0) = T1 at hP
  generalize eI2 : gr I z (fun _ => 0) = I2 at hP
  generalize eR3 : gr R z (fun _ => none) = R3 at hP
  have hT1z : T1 z = (8 + 8, 0) := by rw [← eT1]; exact g1_same
  have hT1n : ∀ c, c ≠ z → T1 c = T c := fun c h => by rw [← eT1]; exact g1_ne h
  have hI2n : ∀ c j, c ≠ z → I2 c j = I c j := fun c j h => by rw [← eI2, gr_row h]
  have hI2z : ∀ j, I2 z j = 0 := fun j => by rw [← eI2, gr_at]
  have hR3n : ∀ c j, c ≠ z → R3 c j = R c j := fun c j h => by rw [← eR3, gr_row h]
  have hR3z : ∀ j, R3 z j = none := fun j => by rw [← eR3, gr_at]
  refine lv_dup X.1 X.2.1 dX2_make_67 rfl ?_
  refine lv_iload_n X.1 X.2.1 dX2_make_68 rfl (lv_at hl 0 rfl) ?_
  refine lv_iload_n X.1 X.2.1 dX2_make_69 rfl (lv_at hl 1 rfl) ?_
  refine lv_iload_n X.1 X.2.1 dX2_make_70 rfl (lv_at hl 2 rfl) ?_
  refine lv_iload_n X.1 X.2.1 dX2_make_71 rfl (lv_at hl 3 rfl) ?_
  refine g_run_v (f := fun u => u) (g_runI [.int 3, .int a1, .int a2, .int a3] X hK hP hS hC hB (i_X6_init_3 (b := z) hT1z) (cwI 4 X.2.2.2.2 gX2_make_X6_init rfl rfl rfl (X.2.2.2.2 (.initialized yX6_init.cls) (by decide +kernel)) (X.2.2.2.2 (.methodLink RX2 34 yX6_init) (by decide +kernel)) (X.2.2.2.2 (.instanceMethod yX6_init) (by decide +kernel)) rfl (by decide +kernel) ⟨Nat.le_of_ble_eq_true rfl, Nat.le_of_ble_eq_true rfl⟩) rfl hl.1 rfl (Nat.le_of_ble_eq_true rfl) dX2_make_72 ⟨Nat.le_of_ble_eq_true rfl, Nat.le_of_ble_eq_true rfl⟩) hS (fun u H locs hq hP hS => ?_)
  subst hq
  generalize eJ4 : g2 (g2 (g2 (g2 I2 z 0 3) z 1 a1) z 2 a2) z 3 a3 = J4 at hP
  have hP : gP D cy B (z + 1) T1 J4 R3 H := hP
  exact g_aret (f := fun u => u) (some z) (z + 1, T1, J4, R3) X hr (Or.inl ⟨_, rfl⟩) hlk hK hP hS dX2_make_75 rfl ⟨rfl, T1, J4, R3, rfl, ⟨hT1z, (by rw [← eJ4, g2_nj (by decide), g2_nj (by decide), g2_nj (by decide), g2_same]; rfl), (by rw [← eJ4, g2_nj (by decide), g2_nj (by decide), g2_same]), (by rw [← eJ4, g2_nj (by decide), g2_same]), (by rw [← eJ4, g2_same])⟩, fun c hc => ⟨hT1n c hc, fun j => (by rw [← eJ4, g2_na hc, g2_na hc, g2_na hc, g2_na hc]; exact hI2n c j hc), fun j => hR3n c j hc⟩⟩

set_option maxHeartbeats 4000000 in
set_option maxRecDepth 100000 in
/-- t_make_4 -/
theorem t_make_4 {a1 a2 a3 : Int32} : Met l yX2_make wsX2_make ({ frames := 4, cells := 1, slots := 4, locals := 93 }) (va_Pc [.int 4, .int a1, .int a2, .int a3] (gW0 s0 D cy B (z, T, I, R))) (va_Qq (fun r u => r = some z ∧ ∃ T' I' R', u = (z + 1, T', I', R') ∧ (T' z = (mcl 4 + 8, 0) ∧ I' z 0 = nI 4 ∧ I' z 1 = a1 ∧ I' z 2 = a2 ∧ I' z 3 = a3) ∧ gNe z T T' I I' R R') (fun u t => gW1 D cy B u t) (gA B)) 1 4 (gA B) := by
  refine g_met (maxL := 4) (ret := (some (.object "BarrowPlank$Man"))) (by decide) rfl (Nat.le_of_ble_eq_true rfl) (fun p e s m args below meth c ls X hr hlk hnm hK hP hC hS hl => ?_)
  have hl : lv_has ls 4 [(0, .int 4), (1, .int a1), (2, .int a2), (3, .int a3)] := hl
  have hP : gP D cy B z T I R s.heap := hP
  have hB : B ≤ s.heap.size := by rw [hP.1]; exact hP.2.1
  have hinRX1 : ∀ w ∈ wsX10, w ∈ wsX2_make := fun _ h => List.mem_cons_of_mem _ (List.mem_append_left _ (List.mem_append_left _ (List.mem_append_left _ (List.mem_append_right _ h))))
  refine lv_iload_n X.1 X.2.1 dX2_make_0 rfl (lv_at hl 0 rfl) ?_
  refine lv_tableIn (off := 75) (tgt := 76) X.1 X.2.1 dX2_make_1 (by decide) (by decide) (by decide) (by decide) ?_
  refine g_new 3 X hK hP hS rfl hinRX1 tyX1 tyX1_ok (index := 35) (by decide +kernel) (by decide +kernel) (by decide +kernel) ndX1 (Nat.le_of_ble_eq_true rfl) (Nat.le_of_ble_eq_true rfl) dX2_make_76 (fun H hP hS => ?_)
  generalize eT1 : g1 T z (3 + 8, 0) = T1 at hP
  generalize eI2 : gr I z (fun _ => 0) = I2 at hP
  generalize eR3 : gr R z (fun _ => none) = R3 at hP
  have hT1z : T1 z = (3 + 8, 0) := by rw [← eT1]; exact g1_same
  have hT1n : ∀ c, c ≠ z → T1 c = T c := fun c h => by rw [← eT1]; exact g1_ne h
  have hI2n : ∀ c j, c ≠ z → I2 c j = I c j := fun c j h => by rw [← eI2, gr_row h]
  have hI2z : ∀ j, I2 z j = 0 := fun j => by rw [← eI2, gr_at]
  have hR3n : ∀ c j, c ≠ z → R3 c j = R c j := fun c j h => by rw [← eR3, gr_row h]
  have hR3z : ∀ j, R3 z j = none := fun j => by rw [← eR3, gr_at]
  refine lv_dup X.1 X.2.1 dX2_make_79 rfl ?_
  refine lv_iload_n X.1 X.2.1 dX2_make_80 rfl (lv_at hl 0 rfl) ?_
  refine lv_iload_n X.1 X.2.1 dX2_make_81 rfl (lv_at hl 1 rfl) ?_
  refine lv_iload_n X.1 X.2.1 dX2_make_82 rfl (lv_at hl 2 rfl) ?_
  refine lv_iload_n X.1 X.2.1 dX2_make_83 rfl (lv_at hl 3 rfl) ?_
  refine g_run_v (f := fun u => u) (g_runI [.int 4, .int a1, .int a2, .int a3] X hK hP hS hC hB (i_X1_init_4 (b := z) hT1z) (cwI 4 X.2.2.2.2 gX2_make_X1_init rfl rfl rfl (X.2.2.2.2 (.initialized yX1_init.cls) (by decide +kernel)) (X.2.2.2.2 (.methodLink RX2 37 yX1_init) (by decide +kernel)) (X.2.2.2.2 (.instanceMethod yX1_init) (by decide +kernel)) rfl (by decide +kernel) ⟨Nat.le_of_ble_eq_true rfl, Nat.le_of_ble_eq_true rfl⟩) rfl hl.1 rfl (Nat.le_of_ble_eq_true rfl) dX2_make_84 ⟨Nat.le_of_ble_eq_true rfl, Nat.le_of_ble_eq_true rfl⟩) hS (fun u H locs hq hP hS => ?_)
  subst hq
  generalize eJ4 : g2 (g2 (g2 (g2 I2 z 0 4) z 1 a1) z 2 a2) z 3 a3 = J4 at hP
  have hP : gP D cy B (z + 1) T1 J4 R3 H := hP
  exact g_aret (f := fun u => u) (some z) (z + 1, T1, J4, R3) X hr (Or.inl ⟨_, rfl⟩) hlk hK hP hS dX2_make_87 rfl ⟨rfl, T1, J4, R3, rfl, ⟨hT1z, (by rw [← eJ4, g2_nj (by decide), g2_nj (by decide), g2_nj (by decide), g2_same]; rfl), (by rw [← eJ4, g2_nj (by decide), g2_nj (by decide), g2_same]), (by rw [← eJ4, g2_nj (by decide), g2_same]), (by rw [← eJ4, g2_same])⟩, fun c hc => ⟨hT1n c hc, fun j => (by rw [← eJ4, g2_na hc, g2_na hc, g2_na hc, g2_na hc]; exact hI2n c j hc), fun j => hR3n c j hc⟩⟩

set_option maxHeartbeats 4000000 in
set_option maxRecDepth 100000 in
/-- t_make_5 -/
theorem t_make_5 {a1 a2 a3 : Int32} : Met l yX2_make wsX2_make ({ frames := 4, cells := 1, slots := 4, locals := 93 }) (va_Pc [.int 5, .int a1, .int a2, .int a3] (gW0 s0 D cy B (z, T, I, R))) (va_Qq (fun r u => r = some z ∧ ∃ T' I' R', u = (z + 1, T', I', R') ∧ (T' z = (mcl 5 + 8, 0) ∧ I' z 0 = nI 5 ∧ I' z 1 = a1 ∧ I' z 2 = a2 ∧ I' z 3 = a3) ∧ gNe z T T' I I' R R') (fun u t => gW1 D cy B u t) (gA B)) 1 4 (gA B) := by
  refine g_met (maxL := 4) (ret := (some (.object "BarrowPlank$Man"))) (by decide) rfl (Nat.le_of_ble_eq_true rfl) (fun p e s m args below meth c ls X hr hlk hnm hK hP hC hS hl => ?_)
  have hl : lv_has ls 4 [(0, .int 5), (1, .int a1), (2, .int a2), (3, .int a3)] := hl
  have hP : gP D cy B z T I R s.heap := hP
  have hB : B ≤ s.heap.size := by rw [hP.1]; exact hP.2.1
  have hinRX7 : ∀ w ∈ wsX70, w ∈ wsX2_make := fun _ h => List.mem_cons_of_mem _ (List.mem_append_left _ (List.mem_append_left _ (List.mem_append_right _ h)))
  refine lv_iload_n X.1 X.2.1 dX2_make_0 rfl (lv_at hl 0 rfl) ?_
  refine lv_tableIn (off := 87) (tgt := 88) X.1 X.2.1 dX2_make_1 (by decide) (by decide) (by decide) (by decide) ?_
  refine g_new 9 X hK hP hS rfl hinRX7 tyX7 tyX7_ok (index := 38) (by decide +kernel) (by decide +kernel) (by decide +kernel) ndX7 (Nat.le_of_ble_eq_true rfl) (Nat.le_of_ble_eq_true rfl) dX2_make_88 (fun H hP hS => ?_)
  generalize eT1 : g1 T z (9 + 8, 0) = T1 at hP
  generalize eI2 : gr I z (fun _ => 0) = I2 at hP
  generalize eR3 : gr R z (fun _ => none) = R3 at hP
  have hT1z : T1 z = (9 + 8, 0) := by rw [← eT1]; exact g1_same
  have hT1n : ∀ c, c ≠ z → T1 c = T c := fun c h => by rw [← eT1]; exact g1_ne h
  have hI2n : ∀ c j, c ≠ z → I2 c j = I c j := fun c j h => by rw [← eI2, gr_row h]
  have hI2z : ∀ j, I2 z j = 0 := fun j => by rw [← eI2, gr_at]
  have hR3n : ∀ c j, c ≠ z → R3 c j = R c j := fun c j h => by rw [← eR3, gr_row h]
  have hR3z : ∀ j, R3 z j = none := fun j => by rw [← eR3, gr_at]
  refine lv_dup X.1 X.2.1 dX2_make_91 rfl ?_
  refine lv_iload_n X.1 X.2.1 dX2_make_92 rfl (lv_at hl 0 rfl) ?_
  refine lv_iload_n X.1 X.2.1 dX2_make_93 rfl (lv_at hl 1 rfl) ?_
  refine lv_iload_n X.1 X.2.1 dX2_make_94 rfl (lv_at hl 2 rfl) ?_
  refine lv_iload_n X.1 X.2.1 dX2_make_95 rfl (lv_at hl 3 rfl) ?_
  refine g_run_v (f := fun u => u) (g_runI [.int 5, .int a1, .int a2, .int a3] X hK hP hS hC hB (i_X7_init_5 (b := z) hT1z) (cwI 4 X.2.2.2.2 gX2_make_X7_init rfl rfl rfl (X.2.2.2.2 (.initialized yX7_init.cls) (by decide +kernel)) (X.2.2.2.2 (.methodLink RX2 40 yX7_init) (by decide +kernel)) (X.2.2.2.2 (.instanceMethod yX7_init) (by decide +kernel)) rfl (by decide +kernel) ⟨Nat.le_of_ble_eq_true rfl, Nat.le_of_ble_eq_true rfl⟩) rfl hl.1 rfl (Nat.le_of_ble_eq_true rfl) dX2_make_96 ⟨Nat.le_of_ble_eq_true rfl, Nat.le_of_ble_eq_true rfl⟩) hS (fun u H locs hq hP hS => ?_)
  subst hq
  generalize eJ4 : g2 (g2 (g2 (g2 I2 z 0 5) z 1 a1) z 2 a2) z 3 a3 = J4 at hP
  have hP : gP D cy B (z + 1) T1 J4 R3 H := hP
  exact g_aret (f := fun u => u) (some z) (z + 1, T1, J4, R3) X hr (Or.inl ⟨_, rfl⟩) hlk hK hP hS dX2_make_99 rfl ⟨rfl, T1, J4, R3, rfl, ⟨hT1z, (by rw [← eJ4, g2_nj (by decide), g2_nj (by decide), g2_nj (by decide), g2_same]; rfl), (by rw [← eJ4, g2_nj (by decide), g2_nj (by decide), g2_same]), (by rw [← eJ4, g2_nj (by decide), g2_same]), (by rw [← eJ4, g2_same])⟩, fun c hc => ⟨hT1n c hc, fun j => (by rw [← eJ4, g2_na hc, g2_na hc, g2_na hc, g2_na hc]; exact hI2n c j hc), fun j => hR3n c j hc⟩⟩

set_option maxHeartbeats 4000000 in
set_option maxRecDepth 100000 in
/-- t_make_6 -/
theorem t_make_6 {a1 a2 a3 : Int32} : Met l yX2_make wsX2_make ({ frames := 4, cells := 1, slots := 4, locals := 93 }) (va_Pc [.int 6, .int a1, .int a2, .int a3] (gW0 s0 D cy B (z, T, I, R))) (va_Qq (fun r u => r = some z ∧ ∃ T' I' R', u = (z + 1, T', I', R') ∧ (T' z = (mcl 6 + 8, 0) ∧ I' z 0 = nI 6 ∧ I' z 1 = a1 ∧ I' z 2 = a2 ∧ I' z 3 = a3) ∧ gNe z T T' I I' R R') (fun u t => gW1 D cy B u t) (gA B)) 1 4 (gA B) := by
  refine g_met (maxL := 4) (ret := (some (.object "BarrowPlank$Man"))) (by decide) rfl (Nat.le_of_ble_eq_true rfl) (fun p e s m args below meth c ls X hr hlk hnm hK hP hC hS hl => ?_)
  have hl : lv_has ls 4 [(0, .int 6), (1, .int a1), (2, .int a2), (3, .int a3)] := hl
  have hP : gP D cy B z T I R s.heap := hP
  have hB : B ≤ s.heap.size := by rw [hP.1]; exact hP.2.1
  have hinRX3 : ∀ w ∈ wsX30, w ∈ wsX2_make := fun _ h => List.mem_cons_of_mem _ (List.mem_append_left _ (List.mem_append_right _ h))
  refine lv_iload_n X.1 X.2.1 dX2_make_0 rfl (lv_at hl 0 rfl) ?_
  refine lv_tableIn (off := 99) (tgt := 100) X.1 X.2.1 dX2_make_1 (by decide) (by decide) (by decide) (by decide) ?_
  refine g_new 5 X hK hP hS rfl hinRX3 tyX3 tyX3_ok (index := 41) (by decide +kernel) (by decide +kernel) (by decide +kernel) ndX3 (Nat.le_of_ble_eq_true rfl) (Nat.le_of_ble_eq_true rfl) dX2_make_100 (fun H hP hS => ?_)
  generalize eT1 : g1 T z (5 + 8, 0) = T1 at hP
  generalize eI2 : gr I z (fun _ => 0) = I2 at hP
  generalize eR3 : gr R z (fun _ => none) = R3 at hP
  have hT1z : T1 z = (5 + 8, 0) := by rw [← eT1]; exact g1_same
  have hT1n : ∀ c, c ≠ z → T1 c = T c := fun c h => by rw [← eT1]; exact g1_ne h
  have hI2n : ∀ c j, c ≠ z → I2 c j = I c j := fun c j h => by rw [← eI2, gr_row h]
  have hI2z : ∀ j, I2 z j = 0 := fun j => by rw [← eI2, gr_at]
  have hR3n : ∀ c j, c ≠ z → R3 c j = R c j := fun c j h => by rw [← eR3, gr_row h]
  have hR3z : ∀ j, R3 z j = none := fun j => by rw [← eR3, gr_at]
  refine lv_dup X.1 X.2.1 dX2_make_103 rfl ?_
  refine lv_iload_n X.1 X.2.1 dX2_make_104 rfl (lv_at hl 0 rfl) ?_
  refine lv_iload_n X.1 X.2.1 dX2_make_105 rfl (lv_at hl 1 rfl) ?_
  refine lv_iload_n X.1 X.2.1 dX2_make_106 rfl (lv_at hl 2 rfl) ?_
  refine lv_iload_n X.1 X.2.1 dX2_make_107 rfl (lv_at hl 3 rfl) ?_
  refine g_run_v (f := fun u => u) (g_runI [.int 6, .int a1, .int a2, .int a3] X hK hP hS hC hB (i_X3_init_6 (b := z) hT1z) (cwI 4 X.2.2.2.2 gX2_make_X3_init rfl rfl rfl (X.2.2.2.2 (.initialized yX3_init.cls) (by decide +kernel)) (X.2.2.2.2 (.methodLink RX2 43 yX3_init) (by decide +kernel)) (X.2.2.2.2 (.instanceMethod yX3_init) (by decide +kernel)) rfl (by decide +kernel) ⟨Nat.le_of_ble_eq_true rfl, Nat.le_of_ble_eq_true rfl⟩) rfl hl.1 rfl (Nat.le_of_ble_eq_true rfl) dX2_make_108 ⟨Nat.le_of_ble_eq_true rfl, Nat.le_of_ble_eq_true rfl⟩) hS (fun u H locs hq hP hS => ?_)
  subst hq
  generalize eJ4 : g2 (g2 (g2 (g2 I2 z 0 6) z 1 a1) z 2 a2) z 3 a3 = J4 at hP
  have hP : gP D cy B (z + 1) T1 J4 R3 H := hP
  exact g_aret (f := fun u => u) (some z) (z + 1, T1, J4, R3) X hr (Or.inl ⟨_, rfl⟩) hlk hK hP hS dX2_make_111 rfl ⟨rfl, T1, J4, R3, rfl, ⟨hT1z, (by rw [← eJ4, g2_nj (by decide), g2_nj (by decide), g2_nj (by decide), g2_same]; rfl), (by rw [← eJ4, g2_nj (by decide), g2_nj (by decide), g2_same]), (by rw [← eJ4, g2_nj (by decide), g2_same]), (by rw [← eJ4, g2_same])⟩, fun c hc => ⟨hT1n c hc, fun j => (by rw [← eJ4, g2_na hc, g2_na hc, g2_na hc, g2_na hc]; exact hI2n c j hc), fun j => hR3n c j hc⟩⟩

theorem t_make {κ : Nat} {a1 a2 a3 : Int32} (hκ : κ ≤ 6) : Met l yX2_make wsX2_make ({ frames := 4, cells := 1, slots := 4, locals := 93 }) (va_Pc [.int (nI κ), .int a1, .int a2, .int a3] (gW0 s0 D cy B (z, T, I, R))) (va_Qq (fun r u => r = some z ∧ ∃ T' I' R', u = (z + 1, T', I', R') ∧ (T' z = (mcl κ + 8, 0) ∧ I' z 0 = nI κ ∧ I' z 1 = a1 ∧ I' z 2 = a2 ∧ I' z 3 = a3) ∧ gNe z T T' I I' R R') (fun u t => gW1 D cy B u t) (gA B)) 1 4 (gA B) := by
  rcases k7 hκ with rfl | rfl | rfl | rfl | rfl | rfl | rfl
  · exact t_make_0
  · exact t_make_1
  · exact t_make_2
  · exact t_make_3
  · exact t_make_4
  · exact t_make_5
  · exact t_make_6
set_option maxHeartbeats 4000000 in
set_option maxRecDepth 100000 in
/-- t_man_n -/
theorem t_man_n (hTp : cTop q nw kp tr T R) (hNw : cNw q nw T I R σ fl ti sh) (hG : sGd fl ti sh) (hb : sBd σ K) {x y d9 : Int32} (hbad : ¬ (0 ≤ x ∧ x ≤ 6)) : Met l yX11_man wsX11_man ({ frames := 1, cells := 0, slots := 0, locals := 22 }) (va_Pc [.ref q, .int x, .int y, .int d9] (gW0 s0 D cy B (z, T, I, R))) (va_Qi (fun r u => r = -1 ∧ (z, T, I, R) = u) (fun u t => gW1 D cy B u t) (gA B)) 0 0 (gA B) := by
  refine g_met (maxL := 4) (ret := (some .int)) (by decide) rfl (Nat.le_of_ble_eq_true rfl) (fun p e s m args below meth c ls X hr hlk hnm hK hP hC hS hl => ?_)
  have hl : lv_has ls 4 [(0, .ref q), (1, .int x), (2, .int y), (3, .int d9)] := hl
  have hP : gP D cy B z T I R s.heap := hP
  have hB : B ≤ s.heap.size := by rw [hP.1]; exact hP.2.1
  have k17 : Cond.fieldLink RX11 17 "BarrowPlank" "now" "LBarrowPlank$Works;" ∈ wsX11_man := by decide +kernel
  have k102 : Cond.fieldLink RX11 102 "BarrowPlank$Works" "crew" "I" ∈ wsX11_man := by decide +kernel
  have hTp0 := hTp
  have hNw0 := hNw
  obtain ⟨hnw, hkp, htr, hTq, hR0, hR1, hR2, hR3, hR4, hN, hKp, hTr, hTrd, hTl⟩ := hTp
  obtain ⟨hA, hBb, hmen, hme, a, hsR, hst, hsi, hfa⟩ := hNw
  have h38 := hb.2.2.2.2.1
  have h0 := hb.1
  refine lv_iload_n X.1 X.2.1 dX11_man_0 rfl (lv_at hl 1 rfl) ?_
  refine lv_iconst (v := 0) X.1 X.2.1 dX11_man_1 (by decide) ?_
  refine lv_bipush (v := 6) X.1 X.2.1 dX11_man_2 (by decide) ?_
  refine g_run_i (f := fun u => u) (g_runS [.int x, .int 0, .int 6] X hK hP hS hC hB (d_outside) (va_cwS 3 X.2.2.2.2 gX11_man_X11_outside rfl rfl rfl (by decide +kernel) ⟨Nat.le_of_ble_eq_true rfl, Nat.le_of_ble_eq_true rfl⟩) rfl hl.1 rfl (Nat.le_of_ble_eq_true rfl) dX11_man_4 (by exact ⟨Nat.zero_le _, Nat.zero_le _⟩)) hS (fun r u H locs hq hP hS => ?_)
  obtain ⟨rfl, rfl⟩ := hq
  have hP : gP D cy B z T I R H := hP
  refine lv_if_eq (tgt := 12) X.1 X.2.1 dX11_man_7 (by decide) (fun c7 => ?_) (fun c7 => ?_)
  · exact absurd hbad (gt_0 c7)
  · refine lv_iconst (v := (-1)) X.1 X.2.1 dX11_man_10 (by decide) ?_
    exact g_iret (f := fun u => u) (z, T, I, R) X hr hlk hK hP hS dX11_man_11 ⟨rfl, rfl⟩

set_option maxHeartbeats 4000000 in
set_option maxRecDepth 100000 in
/-- t_man_b -/
theorem t_man_b (hTp : cTop q nw kp tr T R) (hNw : cNw q nw T I R σ fl ti sh) (hG : sGd fl ti sh) (hb : sBd σ K) {k9 : Nat} (hk9 : k9 ≤ 6) {y d9 : Int32} (hbad : ¬ ((0 ≤ y ∧ y ≤ 9) ∧ (1 ≤ d9 ∧ d9 ≤ 20))) : Met l yX11_man wsX11_man ({ frames := 1, cells := 0, slots := 0, locals := 22 }) (va_Pc [.ref q, .int (nI k9), .int y, .int d9] (gW0 s0 D cy B (z, T, I, R))) (va_Qi (fun r u => r = -2 ∧ (z, T, I, R) = u) (fun u t => gW1 D cy B u t) (gA B)) 0 0 (gA B) := by
  refine g_met (maxL := 4) (ret := (some .int)) (by decide) rfl (Nat.le_of_ble_eq_true rfl) (fun p e s m args below meth c ls X hr hlk hnm hK hP hC hS hl => ?_)
  have hl : lv_has ls 4 [(0, .ref q), (1, .int (nI k9)), (2, .int y), (3, .int d9)] := hl
  have hP : gP D cy B z T I R s.heap := hP
  have hB : B ≤ s.heap.size := by rw [hP.1]; exact hP.2.1
  have k17 : Cond.fieldLink RX11 17 "BarrowPlank" "now" "LBarrowPlank$Works;" ∈ wsX11_man := by decide +kernel
  have k102 : Cond.fieldLink RX11 102 "BarrowPlank$Works" "crew" "I" ∈ wsX11_man := by decide +kernel
  have hTp0 := hTp
  have hNw0 := hNw
  obtain ⟨hnw, hkp, htr, hTq, hR0, hR1, hR2, hR3, hR4, hN, hKp, hTr, hTrd, hTl⟩ := hTp
  obtain ⟨hA, hBb, hmen, hme, a, hsR, hst, hsi, hfa⟩ := hNw
  have h38 := hb.2.2.2.2.1
  have h0 := hb.1
  refine lv_iload_n X.1 X.2.1 dX11_man_0 rfl (lv_at hl 1 rfl) ?_
  refine lv_iconst (v := 0) X.1 X.2.1 dX11_man_1 (by decide) ?_
  refine lv_bipush (v := 6) X.1 X.2.1 dX11_man_2 (by decide) ?_
  refine g_run_i (f := fun u => u) (g_runS [.int (nI k9), .int 0, .int 6] X hK hP hS hC hB (d_outside) (va_cwS 3 X.2.2.2.2 gX11_man_X11_outside rfl rfl rfl (by decide +kernel) ⟨Nat.le_of_ble_eq_true rfl, Nat.le_of_ble_eq_true rfl⟩) rfl hl.1 rfl (Nat.le_of_ble_eq_true rfl) dX11_man_4 (by exact ⟨Nat.zero_le _, Nat.zero_le _⟩)) hS (fun r u H locs hq hP hS => ?_)
  obtain ⟨rfl, rfl⟩ := hq
  have hP : gP D cy B z T I R H := hP
  refine lv_if_eq (tgt := 12) X.1 X.2.1 dX11_man_7 (by decide) (fun c7 => ?_) (fun c7 => ?_)
  · refine lv_iload_n X.1 X.2.1 dX11_man_12 rfl (lv_at hl 2 rfl) ?_
    refine lv_iconst (v := 0) X.1 X.2.1 dX11_man_13 (by decide) ?_
    refine lv_bipush (v := 9) X.1 X.2.1 dX11_man_14 (by decide) ?_
    refine g_run_i (f := fun u => u) (g_runS [.int y, .int 0, .int 9] X hK hP hS hC hB (d_outside) (va_cwS 3 X.2.2.2.2 gX11_man_X11_outside rfl rfl rfl (by decide +kernel) ⟨Nat.le_of_ble_eq_true rfl, Nat.le_of_ble_eq_true rfl⟩) rfl hl.1 rfl (Nat.le_of_ble_eq_true rfl) dX11_man_16 (by exact ⟨Nat.zero_le _, Nat.zero_le _⟩)) hS (fun r u H locs hq hP hS => ?_)
    obtain ⟨rfl, rfl⟩ := hq
    have hP : gP D cy B z T I R H := hP
    refine lv_if_ne (tgt := 32) X.1 X.2.1 dX11_man_19 (by decide) (fun c19 => ?_) (fun c19 => ?_)
    · refine lv_bipush (v := (-2)) X.1 X.2.1 dX11_man_32 (by decide) ?_
      exact g_iret (f := fun u => u) (z, T, I, R) X hr hlk hK hP hS dX11_man_34 ⟨rfl, rfl⟩
    · refine lv_iload_n X.1 X.2.1 dX11_man_22 rfl (lv_at hl 3 rfl) ?_
      refine lv_iconst (v := 1) X.1 X.2.1 dX11_man_23 (by decide) ?_
      refine lv_bipush (v := 20) X.1 X.2.1 dX11_man_24 (by decide) ?_
      refine g_run_i (f := fun u => u) (g_runS [.int d9, .int 1, .int 20] X hK hP hS hC hB (d_outside) (va_cwS 3 X.2.2.2.2 gX11_man_X11_outside rfl rfl rfl (by decide +kernel) ⟨Nat.le_of_ble_eq_true rfl, Nat.le_of_ble_eq_true rfl⟩) rfl hl.1 rfl (Nat.le_of_ble_eq_true rfl) dX11_man_26 (by exact ⟨Nat.zero_le _, Nat.zero_le _⟩)) hS (fun r u H locs hq hP hS => ?_)
      obtain ⟨rfl, rfl⟩ := hq
      have hP : gP D cy B z T I R H := hP
      refine lv_if_eq (tgt := 35) X.1 X.2.1 dX11_man_29 (by decide) (fun c29 => ?_) (fun c29 => ?_)
      · exact absurd ⟨Classical.not_not.mp (gt_0 c19), Classical.not_not.mp (gt_0 c29)⟩ hbad
      · refine lv_bipush (v := (-2)) X.1 X.2.1 dX11_man_32 (by decide) ?_
        exact g_iret (f := fun u => u) (z, T, I, R) X hr hlk hK hP hS dX11_man_34 ⟨rfl, rfl⟩
  · exact absurd (g_le (a := 0) (b := 6) (x := 0) (y := 6) rfl rfl (by omega) (by omega) (by omega)) (gt_1 c7)

set_option maxHeartbeats 4000000 in
set_option maxRecDepth 100000 in
/-- t_man_f -/
theorem t_man_f (hTp : cTop q nw kp tr T R) (hNw : cNw q nw T I R σ fl ti sh) (hG : sGd fl ti sh) (hb : sBd σ K) {k9 v9 s9 : Nat} (hk9 : k9 ≤ 6) (hv9 : v9 ≤ 9) (hs1 : 1 ≤ s9) (hs20 : s9 ≤ 20) (h4 : σ 38 = 4) : Met l yX11_man wsX11_man ({ frames := 1, cells := 0, slots := 0, locals := 22 }) (va_Pc [.ref q, .int (nI k9), .int (nI v9), .int (nI s9)] (gW0 s0 D cy B (z, T, I, R))) (va_Qi (fun r u => r = -4 ∧ (z, T, I, R) = u) (fun u t => gW1 D cy B u t) (gA B)) 0 0 (gA B) := by
  refine g_met (maxL := 4) (ret := (some .int)) (by decide) rfl (Nat.le_of_ble_eq_true rfl) (fun p e s m args below meth c ls X hr hlk hnm hK hP hC hS hl => ?_)
  have hl : lv_has ls 4 [(0, .ref q), (1, .int (nI k9)), (2, .int (nI v9)), (3, .int (nI s9))] := hl
  have hP : gP D cy B z T I R s.heap := hP
  have hB : B ≤ s.heap.size := by rw [hP.1]; exact hP.2.1
  have hinRX10 : ∀ w ∈ wsX100, w ∈ wsX11_man := fun _ h => List.mem_cons_of_mem _ (List.mem_append_left _ (List.mem_append_left _ (List.mem_append_left _ (List.mem_append_left _ (List.mem_append_left _ (List.mem_append_left _ (List.mem_append_left _ (List.mem_append_right _ h))))))))
  have hinRX11 : ∀ w ∈ wsX110, w ∈ wsX11_man := fun _ h => List.mem_cons_of_mem _ (List.mem_append_left _ (List.mem_append_left _ (List.mem_append_left _ (List.mem_append_left _ (List.mem_append_left _ (List.mem_append_left _ (List.mem_append_left _ (List.mem_append_left _ (List.mem_append_right _ h)))))))))
  have k17 : Cond.fieldLink RX11 17 "BarrowPlank" "now" "LBarrowPlank$Works;" ∈ wsX11_man := by decide +kernel
  have k102 : Cond.fieldLink RX11 102 "BarrowPlank$Works" "crew" "I" ∈ wsX11_man := by decide +kernel
  have hTp0 := hTp
  have hNw0 := hNw
  obtain ⟨hnw, hkp, htr, hTq, hR0, hR1, hR2, hR3, hR4, hN, hKp, hTr, hTrd, hTl⟩ := hTp
  obtain ⟨hA, hBb, hmen, hme, a, hsR, hst, hsi, hfa⟩ := hNw
  have h38 := hb.2.2.2.2.1
  have h0 := hb.1
  refine lv_iload_n X.1 X.2.1 dX11_man_0 rfl (lv_at hl 1 rfl) ?_
  refine lv_iconst (v := 0) X.1 X.2.1 dX11_man_1 (by decide) ?_
  refine lv_bipush (v := 6) X.1 X.2.1 dX11_man_2 (by decide) ?_
  refine g_run_i (f := fun u => u) (g_runS [.int (nI k9), .int 0, .int 6] X hK hP hS hC hB (d_outside) (va_cwS 3 X.2.2.2.2 gX11_man_X11_outside rfl rfl rfl (by decide +kernel) ⟨Nat.le_of_ble_eq_true rfl, Nat.le_of_ble_eq_true rfl⟩) rfl hl.1 rfl (Nat.le_of_ble_eq_true rfl) dX11_man_4 (by exact ⟨Nat.zero_le _, Nat.zero_le _⟩)) hS (fun r u H locs hq hP hS => ?_)
  obtain ⟨rfl, rfl⟩ := hq
  have hP : gP D cy B z T I R H := hP
  refine lv_if_eq (tgt := 12) X.1 X.2.1 dX11_man_7 (by decide) (fun c7 => ?_) (fun c7 => ?_)
  · refine lv_iload_n X.1 X.2.1 dX11_man_12 rfl (lv_at hl 2 rfl) ?_
    refine lv_iconst (v := 0) X.1 X.2.1 dX11_man_13 (by decide) ?_
    refine lv_bipush (v := 9) X.1 X.2.1 dX11_man_14 (by decide) ?_
    refine g_run_i (f := fun u => u) (g_runS [.int (nI v9), .int 0, .int 9] X hK hP hS hC hB (d_outside) (va_cwS 3 X.2.2.2.2 gX11_man_X11_outside rfl rfl rfl (by decide +kernel) ⟨Nat.le_of_ble_eq_true rfl, Nat.le_of_ble_eq_true rfl⟩) rfl hl.1 rfl (Nat.le_of_ble_eq_true rfl) dX11_man_16 (by exact ⟨Nat.zero_le _, Nat.zero_le _⟩)) hS (fun r u H locs hq hP hS => ?_)
    obtain ⟨rfl, rfl⟩ := hq
    have hP : gP D cy B z T I R H := hP
    refine lv_if_ne (tgt := 32) X.1 X.2.1 dX11_man_19 (by decide) (fun c19 => ?_) (fun c19 => ?_)
    · exact absurd (g_le (a := 0) (b := 9) (x := 0) (y := 9) rfl rfl (by omega) (by omega) (by omega)) (gt_1 c19)
    · refine lv_iload_n X.1 X.2.1 dX11_man_22 rfl (lv_at hl 3 rfl) ?_
      refine lv_iconst (v := 1) X.1 X.2.1 dX11_man_23 (by decide) ?_
      refine lv_bipush (v := 20) X.1 X.2.1 dX11_man_24 (by decide) ?_
      refine g_run_i (f := fun u => u) (g_runS [.int (nI s9), .int 1, .int 20] X hK hP hS hC hB (d_outside) (va_cwS 3 X.2.2.2.2 gX11_man_X11_outside rfl rfl rfl (by decide +kernel) ⟨Nat.le_of_ble_eq_true rfl, Nat.le_of_ble_eq_true rfl⟩) rfl hl.1 rfl (Nat.le_of_ble_eq_true rfl) dX11_man_26 (by exact ⟨Nat.zero_le _, Nat.zero_le _⟩)) hS (fun r u H locs hq hP hS => ?_)
      obtain ⟨rfl, rfl⟩ := hq
      have hP : gP D cy B z T I R H := hP
      refine lv_if_eq (tgt := 35) X.1 X.2.1 dX11_man_29 (by decide) (fun c29 => ?_) (fun c29 => ?_)
      · refine lv_aload_n X.1 X.2.1 dX11_man_35 rfl (lv_at hl 0 rfl) ?_
        refine g_getr 13 0 X hK hP hTq rfl hinRX11 rfl (by decide) k17 (fun _ h => h) dX11_man_36 (show va_rf (R q 0) = .ref nw from by rw [hR0]; rfl) ?_
        refine g_geti 12 5 X hK hP hN.t0 rfl hinRX10 rfl (by decide) k102 (fun _ h => h) dX11_man_39 (show I nw 5 = nI (σ 38) from hA.2.2.1) ?_
        refine lv_iconst (v := 4) X.1 X.2.1 dX11_man_42 (by decide) ?_
        refine lv_icmp_lt (tgt := 49) X.1 X.2.1 dX11_man_43 (by decide) (fun c43 => ?_) (fun c43 => ?_)
        · exact absurd (gq_lt c43 (Eq.refl (nI (σ 38))) (show (4 : Int32) = nI 4 from rfl) (by omega) (by omega)) (by omega)
        · have n43 : 4 ≤ (σ 38) := gq_nlt c43 (Eq.refl (nI (σ 38))) (show (4 : Int32) = nI 4 from rfl) (by omega) (by omega)
          refine lv_bipush (v := (-4)) X.1 X.2.1 dX11_man_46 (by decide) ?_
          exact g_iret (f := fun u => u) (z, T, I, R) X hr hlk hK hP hS dX11_man_48 ⟨rfl, rfl⟩
      · exact absurd (g_le (a := 1) (b := 20) (x := 1) (y := 20) rfl rfl (by omega) (by omega) (by omega)) (gt_1 c29)
  · exact absurd (g_le (a := 0) (b := 6) (x := 0) (y := 6) rfl rfl (by omega) (by omega) (by omega)) (gt_1 c7)

set_option maxHeartbeats 4000000 in
set_option maxRecDepth 100000 in
/-- t_man -/
theorem t_man (hTp : cTop q nw kp tr T R) (hNw : cNw q nw T I R σ fl ti sh) (hG : sGd fl ti sh) (hb : sBd σ K) (hcas : gCas s0) (hzq : q + 65 ≤ z) {k9 v9 s9 : Nat} (hk9 : k9 ≤ 6) (hv9 : v9 ≤ 9) (hs1 : 1 ≤ s9) (hs20 : s9 ≤ 20) {jj : Nat} (hj : σ 38 = jj) (hj4 : jj < 4) : Met l yX11_man wsX11_man ({ frames := 5, cells := 1, slots := 4, locals := 116 }) (va_Pc [.ref q, .int (nI k9), .int (nI v9), .int (nI s9)] (gW0 s0 D cy B (z, T, I, R))) (va_Qi (fun r u => r = nI jj ∧ ∃ T' I' R', u = (z + 1, T', g2 (g2 I' (nw + 6) jj 0) nw 5 (nI jj + 1), g2 R' (nw + 5) jj (some z)) ∧ (T' z = (mcl k9 + 8, 0) ∧ I' z 0 = nI k9 ∧ I' z 1 = nI jj ∧ I' z 2 = nI v9 ∧ I' z 3 = nI s9) ∧ gNe z T T' I I' R R') (fun u t => gW1 D cy B u t) (gA B)) 1 4 (gA B) := by
  refine g_met (maxL := 4) (ret := (some .int)) (by decide) rfl (Nat.le_of_ble_eq_true rfl) (fun p e s m args below meth c ls X hr hlk hnm hK hP hC hS hl => ?_)
  have hl : lv_has ls 4 [(0, .ref q), (1, .int (nI k9)), (2, .int (nI v9)), (3, .int (nI s9))] := hl
  have hP : gP D cy B z T I R s.heap := hP
  have hB : B ≤ s.heap.size := by rw [hP.1]; exact hP.2.1
  have hinRX10 : ∀ w ∈ wsX100, w ∈ wsX11_man := fun _ h => List.mem_cons_of_mem _ (List.mem_append_left _ (List.mem_append_left _ (List.mem_append_left _ (List.mem_append_left _ (List.mem_append_left _ (List.mem_append_left _ (List.mem_append_left _ (List.mem_append_right _ h))))))))
  have hinRX11 : ∀ w ∈ wsX110, w ∈ wsX11_man := fun _ h => List.mem_cons_of_mem _ (List.mem_append_left _ (List.mem_append_left _ (List.mem_append_left _ (List.mem_append_left _ (List.mem_append_left _ (List.mem_append_left _ (List.mem_append_left _ (List.mem_append_left _ (List.mem_append_right _ h)))))))))
  have k17 : Cond.fieldLink RX11 17 "BarrowPlank" "now" "LBarrowPlank$Works;" ∈ wsX11_man := by decide +kernel
  have k102 : Cond.fieldLink RX11 102 "BarrowPlank$Works" "crew" "I" ∈ wsX11_man := by decide +kernel
  have hTp0 := hTp
  have hNw0 := hNw
  obtain ⟨hnw, hkp, htr, hTq, hR0, hR1, hR2, hR3, hR4, hN, hKp, hTr, hTrd, hTl⟩ := hTp
  obtain ⟨hA, hBb, hmen, hme, a, hsR, hst, hsi, hfa⟩ := hNw
  have h38 := hb.2.2.2.2.1
  have h0 := hb.1
  rw [hj] at h38
  refine lv_iload_n X.1 X.2.1 dX11_man_0 rfl (lv_at hl 1 rfl) ?_
  refine lv_iconst (v := 0) X.1 X.2.1 dX11_man_1 (by decide) ?_
  refine lv_bipush (v := 6) X.1 X.2.1 dX11_man_2 (by decide) ?_
  refine g_run_i (f := fun u => u) (g_runS [.int (nI k9), .int 0, .int 6] X hK hP hS hC hB (d_outside) (va_cwS 3 X.2.2.2.2 gX11_man_X11_outside rfl rfl rfl (by decide +kernel) ⟨Nat.le_of_ble_eq_true rfl, Nat.le_of_ble_eq_true rfl⟩) rfl hl.1 rfl (Nat.le_of_ble_eq_true rfl) dX11_man_4 ⟨Nat.le_of_ble_eq_true rfl, Nat.le_of_ble_eq_true rfl⟩) hS (fun r u H locs hq hP hS => ?_)
  obtain ⟨rfl, rfl⟩ := hq
  have hP : gP D cy B z T I R H := hP
  refine lv_if_eq (tgt := 12) X.1 X.2.1 dX11_man_7 (by decide) (fun c7 => ?_) (fun c7 => ?_)
  · refine lv_iload_n X.1 X.2.1 dX11_man_12 rfl (lv_at hl 2 rfl) ?_
    refine lv_iconst (v := 0) X.1 X.2.1 dX11_man_13 (by decide) ?_
    refine lv_bipush (v := 9) X.1 X.2.1 dX11_man_14 (by decide) ?_
    refine g_run_i (f := fun u => u) (g_runS [.int (nI v9), .int 0, .int 9] X hK hP hS hC hB (d_outside) (va_cwS 3 X.2.2.2.2 gX11_man_X11_outside rfl rfl rfl (by decide +kernel) ⟨Nat.le_of_ble_eq_true rfl, Nat.le_of_ble_eq_true rfl⟩) rfl hl.1 rfl (Nat.le_of_ble_eq_true rfl) dX11_man_16 ⟨Nat.le_of_ble_eq_true rfl, Nat.le_of_ble_eq_true rfl⟩) hS (fun r u H locs hq hP hS => ?_)
    obtain ⟨rfl, rfl⟩ := hq
    have hP : gP D cy B z T I R H := hP
    refine lv_if_ne (tgt := 32) X.1 X.2.1 dX11_man_19 (by decide) (fun c19 => ?_) (fun c19 => ?_)
    · exact absurd (g_le (a := 0) (b := 9) (x := 0) (y := 9) rfl rfl (by omega) (by omega) (by omega)) (gt_1 c19)
    · refine lv_iload_n X.1 X.2.1 dX11_man_22 rfl (lv_at hl 3 rfl) ?_
      refine lv_iconst (v := 1) X.1 X.2.1 dX11_man_23 (by decide) ?_
      refine lv_bipush (v := 20) X.1 X.2.1 dX11_man_24 (by decide) ?_
      refine g_run_i (f := fun u => u) (g_runS [.int (nI s9), .int 1, .int 20] X hK hP hS hC hB (d_outside) (va_cwS 3 X.2.2.2.2 gX11_man_X11_outside rfl rfl rfl (by decide +kernel) ⟨Nat.le_of_ble_eq_true rfl, Nat.le_of_ble_eq_true rfl⟩) rfl hl.1 rfl (Nat.le_of_ble_eq_true rfl) dX11_man_26 ⟨Nat.le_of_ble_eq_true rfl, Nat.le_of_ble_eq_true rfl⟩) hS (fun r u H locs hq hP hS => ?_)
      obtain ⟨rfl, rfl⟩ := hq
      have hP : gP D cy B z T I R H := hP
      refine lv_if_eq (tgt := 35) X.1 X.2.1 dX11_man_29 (by decide) (fun c29 => ?_) (fun c29 => ?_)
      · refine lv_aload_n X.1 X.2.1 dX11_man_35 rfl (lv_at hl 0 rfl) ?_
        refine g_getr 13 0 X hK hP hTq rfl hinRX11 rfl (by decide) k17 (fun _ h => h) dX11_man_36 (show va_rf (R q 0) = .ref nw from by rw [hR0]; rfl) ?_
        refine g_geti 12 5 X hK hP hN.t0 rfl hinRX10 rfl (by decide) k102 (fun _ h => h) dX11_man_39 (show I nw 5 = nI jj from (hA.2.2.1.trans (congrArg nI hj))) ?_
        refine lv_iconst (v := 4) X.1 X.2.1 dX11_man_42 (by decide) ?_
        refine lv_icmp_lt (tgt := 49) X.1 X.2.1 dX11_man_43 (by decide) (fun c43 => ?_) (fun c43 => ?_)
        · have n43 : jj < 4 := gq_lt c43 (Eq.refl (nI jj)) (show (4 : Int32) = nI 4 from rfl) (by omega) (by omega)
          refine lv_aload_n X.1 X.2.1 dX11_man_49 rfl (lv_at hl 0 rfl) ?_
          refine g_getr 13 0 X hK hP hTq rfl hinRX11 rfl (by decide) k17 (fun _ h => h) dX11_man_50 (show va_rf (R q 0) = .ref nw from by rw [hR0]; rfl) ?_
          refine lv_iload_n X.1 X.2.1 dX11_man_53 rfl (lv_at hl 1 rfl) ?_
          refine lv_aload_n X.1 X.2.1 dX11_man_54 rfl (lv_at hl 0 rfl) ?_
          refine g_getr 13 0 X hK hP hTq rfl hinRX11 rfl (by decide) k17 (fun _ h => h) dX11_man_55 (show va_rf (R q 0) = .ref nw from by rw [hR0]; rfl) ?_
          refine g_geti 12 5 X hK hP hN.t0 rfl hinRX10 rfl (by decide) k102 (fun _ h => h) dX11_man_58 (show I nw 5 = nI jj from (hA.2.2.1.trans (congrArg nI hj))) ?_
          refine lv_iload_n X.1 X.2.1 dX11_man_61 rfl (lv_at hl 2 rfl) ?_
          refine lv_iload_n X.1 X.2.1 dX11_man_62 rfl (lv_at hl 3 rfl) ?_
          refine g_run_q (f := fun u => u) (g_runS [.int (nI k9), .int (nI jj), .int (nI v9), .int (nI s9)] X hK hP hS hC hB (t_make (κ := k9) hk9) (va_cwS 4 X.2.2.2.2 gX11_man_X2_make rfl rfl rfl (by decide +kernel) ⟨Nat.le_of_ble_eq_true rfl, Nat.le_of_ble_eq_true rfl⟩) rfl hl.1 rfl (Nat.le_of_ble_eq_true rfl) dX11_man_63 ⟨Nat.le_of_ble_eq_true rfl, Nat.le_of_ble_eq_true rfl⟩) hS (fun r u H locs hq hP hS => ?_)
          obtain ⟨rfl, T9, I9, R9, rfl, ⟨hz0, hz1, hz2, hz3, hz4⟩, hne⟩ := hq
          have hP : gP D cy B (z + 1) T9 I9 R9 H := hP
          have hN9 : cWk nw T9 R9 := ⟨fun k t hk => ((hne _ (by have := List.getElem?_eq_some_iff.mp hk; obtain ⟨h9, -⟩ := this; have h8 : wTl.length = 15 := rfl; omega)).1).trans (hN.1 k t hk), fun k x hk => ((hne _ (by have h8 := wR_lt hk; omega)).2.2 _).trans (hN.2 k x hk)⟩
          have hTq := ((hne q (by omega)).1).trans hTq
          have hR0 := ((hne q (by omega)).2.2 0).trans hR0
          have hc5 := ((hne nw (by omega)).2.1 5).trans hA.2.2.1
          refine g_run_v (f := fun u => u) (g_runV (k := 12) [.ref z] X hK hP hS hC hB (d_hire hN9 hk9 hz0 (by unfold oW; omega) hz2 (by omega) hcas) (cwV 1 X.2.2.2.2 gX11_man_X10_hire rfl rfl rfl (by decide +kernel) ⟨Nat.le_of_ble_eq_true rfl, Nat.le_of_ble_eq_true rfl⟩) hN9.t0 rfl rfl hl.1 rfl (Nat.le_of_ble_eq_true rfl) dX11_man_66 ⟨Nat.le_of_ble_eq_true rfl, Nat.le_of_ble_eq_true rfl⟩) hS (fun u H locs hq hP hS => ?_)
          subst hq
          generalize eJ9 : g2 (g2 I9 (nw + 6) jj 0) nw 5 (nI jj + 1) = J9 at hP
          generalize eS9 : g2 R9 (nw + 5) jj (some z) = S9 at hP
          have hP : gP D cy B (z + 1) T9 J9 S9 H := hP
          have hR0 : S9 q 0 = some nw := gs_neR eS9 (by omega) hR0
          have hN8 : cWk nw T9 S9 := hN9.k (fun x hx => by rw [← eS9]; exact g2_other (wR_ne hx))
          have hN := hN8
          refine lv_aload_n X.1 X.2.1 dX11_man_69 rfl (lv_at hl 0 rfl) ?_
          refine g_getr 13 0 X hK hP hTq rfl hinRX11 rfl (by decide) k17 (fun _ h => h) dX11_man_70 (show va_rf (S9 q 0) = .ref nw from by rw [hR0]; rfl) ?_
          refine g_geti 12 5 X hK hP hN.t0 rfl hinRX10 rfl (by decide) k102 (fun _ h => h) dX11_man_73 (show J9 nw 5 = nI (jj + 1) from ((gs_at eJ9 rfl rfl).trans (nI_add jj 1))) ?_
          refine lv_iconst (v := 1) X.1 X.2.1 dX11_man_76 (by decide) ?_
          refine lv_isub X.1 X.2.1 dX11_man_77 ?_
          exact g_iret (f := fun u => u) (z + 1, T9, J9, S9) X hr hlk hK hP hS dX11_man_78 ⟨(gn_sub (Eq.refl (nI (jj + 1))) (show (1 : Int32) = nI 1 from rfl) (by omega)), T9, I9, R9, (by rw [eJ9, eS9]), ⟨hz0, hz1, hz2, hz3, hz4⟩, hne⟩
        · exact absurd (nI_lt hj4 (by omega)) c43
      · exact absurd (g_le (a := 1) (b := 20) (x := 1) (y := 20) rfl rfl (by omega) (by omega) (by omega)) (gt_1 c29)
  · exact absurd (g_le (a := 0) (b := 6) (x := 0) (y := 6) rfl rfl (by omega) (by omega) (by omega)) (gt_1 c7)

end PU