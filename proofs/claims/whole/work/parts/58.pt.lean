section PT
variable {l : Launch} {s0 : State} {D : va_G} {cy : Nat → ClassId} {B z : Nat} {T : Nat → Nat × Nat} {I : Nat → Nat → Int32} {R : Nat → Nat → Option Nat} {q nw kp tr : Nat} {σ : Nat → Nat} {K ti sh : Nat} {fl : List Nat}
/-- which KIND is under which -/
def uK (κ k : Nat) : Prop := k = κ ∨ (k < 4 ∧ κ = k + 3)
def gIns (s0 : State) : Prop := ∀ κ k, κ ≤ 6 → 0 < k → k ≤ 6 → (uK κ k → va_Nw (.castable (mnm κ) (mnm k)) s0) ∧ (¬ uK κ k → va_Nc (mnm κ) (mnm k) s0)
theorem gIns.now {s0 s : State} {B : Nat} (hC : gCst s0 B s) (h : gIns s0) : gIns s := fun κ k h1 h2 h3 => ⟨fun g => va_Nw.warmC hC.1 ((h κ k h1 h2 h3).1 g), fun g => va_Nc.moved hC.1.alike ((h κ k h1 h2 h3).2 g)⟩
set_option maxHeartbeats 4000000 in
set_option maxRecDepth 100000 in
/-- v_isUnder_0 -/
theorem v_isUnder_0 {b κ : Nat} (hκ : κ ≤ 6) (htb : T b = (mcl κ + 8, 0)) (hins : gIns s0) : Met l yX2_isUnder wsX2_isUnder ({ frames := 0, cells := 0, slots := 0, locals := 0 }) (va_Pc [.ref b, .int 0] (gW0 s0 D cy B (z, T, I, R))) (va_Qi (fun r u => r = gt (0 = 0 ∨ 0 = κ ∨ (0 < 0 ∧ 0 < 4 ∧ κ = 0 + 3)) ∧ (z, T, I, R) = u) (fun u t => gW1 D cy B u t) (gA B)) 0 0 (gA B) := by
  refine g_met (maxL := 2) (ret := (some .boolean)) (by decide) rfl (Nat.le_of_ble_eq_true rfl) (fun p e s m args below meth c ls X hr hlk hnm hK hP hC hS hl => ?_)
  have hl : lv_has ls 2 [(0, .ref b), (1, .int 0)] := hl
  have hP : gP D cy B z T I R s.heap := hP
  have hB : B ≤ s.heap.size := by rw [hP.1]; exact hP.2.1
  replace hins := hins.now hC
  refine lv_iload_n X.1 X.2.1 dX2_isUnder_0 rfl (lv_at hl 1 rfl) ?_
  refine lv_tableIn (off := 43) (tgt := 44) X.1 X.2.1 dX2_isUnder_1 (by decide) (by decide) (by decide) (by decide) ?_
  refine lv_iconst (v := 1) X.1 X.2.1 dX2_isUnder_44 (by decide) ?_
  exact g_zret (f := fun u => u) (z, T, I, R) X hr hlk hK hP hS dX2_isUnder_45 rfl ⟨(gt_yes (by omega)).symm, rfl⟩

set_option maxHeartbeats 4000000 in
set_option maxRecDepth 100000 in
/-- v_isUnder_1 -/
theorem v_isUnder_1 {b κ : Nat} (hκ : κ ≤ 6) (htb : T b = (mcl κ + 8, 0)) (hins : gIns s0) : Met l yX2_isUnder wsX2_isUnder ({ frames := 0, cells := 0, slots := 0, locals := 0 }) (va_Pc [.ref b, .int 1] (gW0 s0 D cy B (z, T, I, R))) (va_Qi (fun r u => r = gt (1 = 0 ∨ 1 = κ ∨ (0 < 1 ∧ 1 < 4 ∧ κ = 1 + 3)) ∧ (z, T, I, R) = u) (fun u t => gW1 D cy B u t) (gA B)) 0 0 (gA B) := by
  refine g_met (maxL := 2) (ret := (some .boolean)) (by decide) rfl (Nat.le_of_ble_eq_true rfl) (fun p e s m args below meth c ls X hr hlk hnm hK hP hC hS hl => ?_)
  have hl : lv_has ls 2 [(0, .ref b), (1, .int 1)] := hl
  have hP : gP D cy B z T I R s.heap := hP
  have hB : B ≤ s.heap.size := by rw [hP.1]; exact hP.2.1
  replace hins := hins.now hC
  refine lv_iload_n X.1 X.2.1 dX2_isUnder_0 rfl (lv_at hl 1 rfl) ?_
  refine lv_tableIn (off := 45) (tgt := 46) X.1 X.2.1 dX2_isUnder_1 (by decide) (by decide) (by decide) (by decide) ?_
  refine lv_aload_n X.1 X.2.1 dX2_isUnder_46 rfl (lv_at hl 0 rfl) ?_
  rcases k7 hκ with hc9 | hc9 | hc9 | hc9 | hc9 | hc9 | hc9
  · have hty8 : T b = (4 + 8, 0) := by rw [htb, hc9]; rfl
    have hi9 := (hins 0 1 (by omega) (by omega) (by omega)).2 (by unfold uK; omega)
    refine va_instNo (C := RX2) (nm := RX0) X.1 X.2.1 X.2.2.2.1 (X.2.2.2.2 (.classLink RX2 24 RX0) (by decide +kernel)) hi9 (g_recv hK hP hty8 rfl) dX2_isUnder_47 ?_
    exact g_zret (f := fun u => u) (z, T, I, R) X hr hlk hK hP hS dX2_isUnder_50 rfl ⟨(gt_no (by omega)).symm, rfl⟩
  · have hty8 : T b = (2 + 8, 0) := by rw [htb, hc9]; rfl
    have hi9 := (hins 1 1 (by omega) (by omega) (by omega)).1 (by unfold uK; omega)
    refine va_instY (C := RX0) (nm := RX0) X.1 X.2.1 X.2.2.2.1 (X.2.2.2.2 (.classLink RX2 24 RX0) (by decide +kernel)) hi9 (g_recv hK hP hty8 rfl) dX2_isUnder_47 ?_
    exact g_zret (f := fun u => u) (z, T, I, R) X hr hlk hK hP hS dX2_isUnder_50 rfl ⟨(gt_yes (by omega)).symm, rfl⟩
  · have hty8 : T b = (11 + 8, 0) := by rw [htb, hc9]; rfl
    have hi9 := (hins 2 1 (by omega) (by omega) (by omega)).2 (by unfold uK; omega)
    refine va_instNo (C := RX9) (nm := RX0) X.1 X.2.1 X.2.2.2.1 (X.2.2.2.2 (.classLink RX2 24 RX0) (by decide +kernel)) hi9 (g_recv hK hP hty8 rfl) dX2_isUnder_47 ?_
    exact g_zret (f := fun u => u) (z, T, I, R) X hr hlk hK hP hS dX2_isUnder_50 rfl ⟨(gt_no (by omega)).symm, rfl⟩
  · have hty8 : T b = (8 + 8, 0) := by rw [htb, hc9]; rfl
    have hi9 := (hins 3 1 (by omega) (by omega) (by omega)).2 (by unfold uK; omega)
    refine va_instNo (C := RX6) (nm := RX0) X.1 X.2.1 X.2.2.2.1 (X.2.2.2.2 (.classLink RX2 24 RX0) (by decide +kernel)) hi9 (g_recv hK hP hty8 rfl) dX2_isUnder_47 ?_
    exact g_zret (f := fun u => u) (z, T, I, R) X hr hlk hK hP hS dX2_isUnder_50 rfl ⟨(gt_no (by omega)).symm, rfl⟩
  · have hty8 : T b = (3 + 8, 0) := by rw [htb, hc9]; rfl
    have hi9 := (hins 4 1 (by omega) (by omega) (by omega)).1 (by unfold uK; omega)
    refine va_instY (C := RX1) (nm := RX0) X.1 X.2.1 X.2.2.2.1 (X.2.2.2.2 (.classLink RX2 24 RX0) (by decide +kernel)) hi9 (g_recv hK hP hty8 rfl) dX2_isUnder_47 ?_
    exact g_zret (f := fun u => u) (z, T, I, R) X hr hlk hK hP hS dX2_isUnder_50 rfl ⟨(gt_yes (by omega)).symm, rfl⟩
  · have hty8 : T b = (9 + 8, 0) := by rw [htb, hc9]; rfl
    have hi9 := (hins 5 1 (by omega) (by omega) (by omega)).2 (by unfold uK; omega)
    refine va_instNo (C := RX7) (nm := RX0) X.1 X.2.1 X.2.2.2.1 (X.2.2.2.2 (.classLink RX2 24 RX0) (by decide +kernel)) hi9 (g_recv hK hP hty8 rfl) dX2_isUnder_47 ?_
    exact g_zret (f := fun u => u) (z, T, I, R) X hr hlk hK hP hS dX2_isUnder_50 rfl ⟨(gt_no (by omega)).symm, rfl⟩
  · have hty8 : T b = (5 + 8, 0) := by rw [htb, hc9]; rfl
    have hi9 := (hins 6 1 (by omega) (by omega) (by omega)).2 (by unfold uK; omega)
    refine va_instNo (C := RX3) (nm := RX0) X.1 X.2.1 X.2.2.2.1 (X.2.2.2.2 (.classLink RX2 24 RX0) (by decide +kernel)) hi9 (g_recv hK hP hty8 rfl) dX2_isUnder_47 ?_
    exact g_zret (f := fun u => u) (z, T, I, R) X hr hlk hK hP hS dX2_isUnder_50 rfl ⟨(gt_no (by omega)).symm, rfl⟩

set_option maxHeartbeats 4000000 in
set_option maxRecDepth 100000 in
/-- v_isUnder_2 -/
theorem v_isUnder_2 {b κ : Nat} (hκ : κ ≤ 6) (htb : T b = (mcl κ + 8, 0)) (hins : gIns s0) : Met l yX2_isUnder wsX2_isUnder ({ frames := 0, cells := 0, slots := 0, locals := 0 }) (va_Pc [.ref b, .int 2] (gW0 s0 D cy B (z, T, I, R))) (va_Qi (fun r u => r = gt (2 = 0 ∨ 2 = κ ∨ (0 < 2 ∧ 2 < 4 ∧ κ = 2 + 3)) ∧ (z, T, I, R) = u) (fun u t => gW1 D cy B u t) (gA B)) 0 0 (gA B) := by
  refine g_met (maxL := 2) (ret := (some .boolean)) (by decide) rfl (Nat.le_of_ble_eq_true rfl) (fun p e s m args below meth c ls X hr hlk hnm hK hP hC hS hl => ?_)
  have hl : lv_has ls 2 [(0, .ref b), (1, .int 2)] := hl
  have hP : gP D cy B z T I R s.heap := hP
  have hB : B ≤ s.heap.size := by rw [hP.1]; exact hP.2.1
  replace hins := hins.now hC
  refine lv_iload_n X.1 X.2.1 dX2_isUnder_0 rfl (lv_at hl 1 rfl) ?_
  refine lv_tableIn (off := 50) (tgt := 51) X.1 X.2.1 dX2_isUnder_1 (by decide) (by decide) (by decide) (by decide) ?_
  refine lv_aload_n X.1 X.2.1 dX2_isUnder_51 rfl (lv_at hl 0 rfl) ?_
  rcases k7 hκ with hc9 | hc9 | hc9 | hc9 | hc9 | hc9 | hc9
  · have hty8 : T b = (4 + 8, 0) := by rw [htb, hc9]; rfl
    have hi9 := (hins 0 2 (by omega) (by omega) (by omega)).2 (by unfold uK; omega)
    refine va_instNo (C := RX2) (nm := RX9) X.1 X.2.1 X.2.2.2.1 (X.2.2.2.2 (.classLink RX2 29 RX9) (by decide +kernel)) hi9 (g_recv hK hP hty8 rfl) dX2_isUnder_52 ?_
    exact g_zret (f := fun u => u) (z, T, I, R) X hr hlk hK hP hS dX2_isUnder_55 rfl ⟨(gt_no (by omega)).symm, rfl⟩
  · have hty8 : T b = (2 + 8, 0) := by rw [htb, hc9]; rfl
    have hi9 := (hins 1 2 (by omega) (by omega) (by omega)).2 (by unfold uK; omega)
    refine va_instNo (C := RX0) (nm := RX9) X.1 X.2.1 X.2.2.2.1 (X.2.2.2.2 (.classLink RX2 29 RX9) (by decide +kernel)) hi9 (g_recv hK hP hty8 rfl) dX2_isUnder_52 ?_
    exact g_zret (f := fun u => u) (z, T, I, R) X hr hlk hK hP hS dX2_isUnder_55 rfl ⟨(gt_no (by omega)).symm, rfl⟩
  · have hty8 : T b = (11 + 8, 0) := by rw [htb, hc9]; rfl
    have hi9 := (hins 2 2 (by omega) (by omega) (by omega)).1 (by unfold uK; omega)
    refine va_instY (C := RX9) (nm := RX9) X.1 X.2.1 X.2.2.2.1 (X.2.2.2.2 (.classLink RX2 29 RX9) (by decide +kernel)) hi9 (g_recv hK hP hty8 rfl) dX2_isUnder_52 ?_
    exact g_zret (f := fun u => u) (z, T, I, R) X hr hlk hK hP hS dX2_isUnder_55 rfl ⟨(gt_yes (by omega)).symm, rfl⟩
  · have hty8 : T b = (8 + 8, 0) := by rw [htb, hc9]; rfl
    have hi9 := (hins 3 2 (by omega) (by omega) (by omega)).2 (by unfold uK; omega)
    refine va_instNo (C := RX6) (nm := RX9) X.1 X.2.1 X.2.2.2.1 (X.2.2.2.2 (.classLink RX2 29 RX9) (by decide +kernel)) hi9 (g_recv hK hP hty8 rfl) dX2_isUnder_52 ?_
    exact g_zret (f := fun u => u) (z, T, I, R) X hr hlk hK hP hS dX2_isUnder_55 rfl ⟨(gt_no (by omega)).symm, rfl⟩
  · have hty8 : T b = (3 + 8, 0) := by rw [htb, hc9]; rfl
    have hi9 := (hins 4 2 (by omega) (by omega) (by omega)).2 (by unfold uK; omega)
    refine va_instNo (C := RX1) (nm := RX9) X.1 X.2.1 X.2.2.2.1 (X.2.2.2.2 (.classLink RX2 29 RX9) (by decide +kernel)) hi9 (g_recv hK hP hty8 rfl) dX2_isUnder_52 ?_
    exact g_zret (f := fun u => u) (z, T, I, R) X hr hlk hK hP hS dX2_isUnder_55 rfl ⟨(gt_no (by omega)).symm, rfl⟩
  · have hty8 : T b = (9 + 8, 0) := by rw [htb, hc9]; rfl
    have hi9 := (hins 5 2 (by omega) (by omega) (by omega)).1 (by unfold uK; omega)
    refine va_instY (C := RX7) (nm := RX9) X.1 X.2.1 X.2.2.2.1 (X.2.2.2.2 (.classLink RX2 29 RX9) (by decide +kernel)) hi9 (g_recv hK hP hty8 rfl) dX2_isUnder_52 ?_
    exact g_zret (f := fun u => u) (z, T, I, R) X hr hlk hK hP hS dX2_isUnder_55 rfl ⟨(gt_yes (by omega)).symm, rfl⟩
  · have hty8 : T b = (5 + 8, 0) := by rw [htb, hc9]; rfl
    have hi9 := (hins 6 2 (by omega) (by omega) (by omega)).2 (by unfold uK; omega)
    refine va_instNo (C := RX3) (nm := RX9) X.1 X.2.1 X.2.2.2.1 (X.2.2.2.2 (.classLink RX2 29 RX9) (by decide +kernel)) hi9 (g_recv hK hP hty8 rfl) dX2_isUnder_52 ?_
    exact g_zret (f := fun u => u) (z, T, I, R) X hr hlk hK hP hS dX2_isUnder_55 rfl ⟨(gt_no (by omega)).symm, rfl⟩

set_option maxHeartbeats 4000000 in
set_option maxRecDepth 100000 in
/-- v_isUnder_3 -/
theorem v_isUnder_3 {b κ : Nat} (hκ : κ ≤ 6) (htb : T b = (mcl κ + 8, 0)) (hins : gIns s0) : Met l yX2_isUnder wsX2_isUnder ({ frames := 0, cells := 0, slots := 0, locals := 0 }) (va_Pc [.ref b, .int 3] (gW0 s0 D cy B (z, T, I, R))) (va_Qi (fun r u => r = gt (3 = 0 ∨ 3 = κ ∨ (0 < 3 ∧ 3 < 4 ∧ κ = 3 + 3)) ∧ (z, T, I, R) = u) (fun u t => gW1 D cy B u t) (gA B)) 0 0 (gA B) := by
  refine g_met (maxL := 2) (ret := (some .boolean)) (by decide) rfl (Nat.le_of_ble_eq_true rfl) (fun p e s m args below meth c ls X hr hlk hnm hK hP hC hS hl => ?_)
  have hl : lv_has ls 2 [(0, .ref b), (1, .int 3)] := hl
  have hP : gP D cy B z T I R s.heap := hP
  have hB : B ≤ s.heap.size := by rw [hP.1]; exact hP.2.1
  replace hins := hins.now hC
  refine lv_iload_n X.1 X.2.1 dX2_isUnder_0 rfl (lv_at hl 1 rfl) ?_
  refine lv_tableIn (off := 55) (tgt := 56) X.1 X.2.1 dX2_isUnder_1 (by decide) (by decide) (by decide) (by decide) ?_
  refine lv_aload_n X.1 X.2.1 dX2_isUnder_56 rfl (lv_at hl 0 rfl) ?_
  rcases k7 hκ with hc9 | hc9 | hc9 | hc9 | hc9 | hc9 | hc9
  · have hty8 : T b = (4 + 8, 0) := by rw [htb, hc9]; rfl
    have hi9 := (hins 0 3 (by omega) (by omega) (by omega)).2 (by unfold uK; omega)
    refine va_instNo (C := RX2) (nm := RX6) X.1 X.2.1 X.2.2.2.1 (X.2.2.2.2 (.classLink RX2 32 RX6) (by decide +kernel)) hi9 (g_recv hK hP hty8 rfl) dX2_isUnder_57 ?_
    exact g_zret (f := fun u => u) (z, T, I, R) X hr hlk hK hP hS dX2_isUnder_60 rfl ⟨(gt_no (by omega)).symm, rfl⟩
  · have hty8 : T b = (2 + 8, 0) := by rw [htb, hc9]; rfl
    have hi9 := (hins 1 3 (by omega) (by omega) (by omega)).2 (by unfold uK; omega)
    refine va_instNo (C := RX0) (nm := RX6) X.1 X.2.1 X.2.2.2.1 (X.2.2.2.2 (.classLink RX2 32 RX6) (by decide +kernel)) hi9 (g_recv hK hP hty8 rfl) dX2_isUnder_57 ?_
    exact g_zret (f := fun u => u) (z, T, I, R) X hr hlk hK hP hS dX2_isUnder_60 rfl ⟨(gt_no (by omega)).symm, rfl⟩
  · have hty8 : T b = (11 + 8, 0) := by rw [htb, hc9]; rfl
    have hi9 := (hins 2 3 (by omega) (by omega) (by omega)).2 (by unfold uK; omega)
    refine va_instNo (C := RX9) (nm := RX6) X.1 X.2.1 X.2.2.2.1 (X.2.2.2.2 (.classLink RX2 32 RX6) (by decide +kernel)) hi9 (g_recv hK hP hty8 rfl) dX2_isUnder_57 ?_
    exact g_zret (f := fun u => u) (z, T, I, R) X hr hlk hK hP hS dX2_isUnder_60 rfl ⟨(gt_no (by omega)).symm, rfl⟩
  · have hty8 : T b = (8 + 8, 0) := by rw [htb, hc9]; rfl
    have hi9 := (hins 3 3 (by omega) (by omega) (by omega)).1 (by unfold uK; omega)
    refine va_instY (C := RX6) (nm := RX6) X.1 X.2.1 X.2.2.2.1 (X.2.2.2.2 (.classLink RX2 32 RX6) (by decide +kernel)) hi9 (g_recv hK hP hty8 rfl) dX2_isUnder_57 ?_
    exact g_zret (f := fun u => u) (z, T, I, R) X hr hlk hK hP hS dX2_isUnder_60 rfl ⟨(gt_yes (by omega)).symm, rfl⟩
  · have hty8 : T b = (3 + 8, 0) := by rw [htb, hc9]; rfl
    have hi9 := (hins 4 3 (by omega) (by omega) (by omega)).2 (by unfold uK; omega)
    refine va_instNo (C := RX1) (nm := RX6) X.1 X.2.1 X.2.2.2.1 (X.2.2.2.2 (.classLink RX2 32 RX6) (by decide +kernel)) hi9 (g_recv hK hP hty8 rfl) dX2_isUnder_57 ?_
    exact g_zret (f := fun u => u) (z, T, I, R) X hr hlk hK hP hS dX2_isUnder_60 rfl ⟨(gt_no (by omega)).symm, rfl⟩
  · have hty8 : T b = (9 + 8, 0) := by rw [htb, hc9]; rfl
    have hi9 := (hins 5 3 (by omega) (by omega) (by omega)).2 (by unfold uK; omega)
    refine va_instNo (C := RX7) (nm := RX6) X.1 X.2.1 X.2.2.2.1 (X.2.2.2.2 (.classLink RX2 32 RX6) (by decide +kernel)) hi9 (g_recv hK hP hty8 rfl) dX2_isUnder_57 ?_
    exact g_zret (f := fun u => u) (z, T, I, R) X hr hlk hK hP hS dX2_isUnder_60 rfl ⟨(gt_no (by omega)).symm, rfl⟩
  · have hty8 : T b = (5 + 8, 0) := by rw [htb, hc9]; rfl
    have hi9 := (hins 6 3 (by omega) (by omega) (by omega)).1 (by unfold uK; omega)
    refine va_instY (C := RX3) (nm := RX6) X.1 X.2.1 X.2.2.2.1 (X.2.2.2.2 (.classLink RX2 32 RX6) (by decide +kernel)) hi9 (g_recv hK hP hty8 rfl) dX2_isUnder_57 ?_
    exact g_zret (f := fun u => u) (z, T, I, R) X hr hlk hK hP hS dX2_isUnder_60 rfl ⟨(gt_yes (by omega)).symm, rfl⟩

set_option maxHeartbeats 4000000 in
set_option maxRecDepth 100000 in
/-- v_isUnder_4 -/
theorem v_isUnder_4 {b κ : Nat} (hκ : κ ≤ 6) (htb : T b = (mcl κ + 8, 0)) (hins : gIns s0) : Met l yX2_isUnder wsX2_isUnder ({ frames := 0, cells := 0, slots := 0, locals := 0 }) (va_Pc [.ref b, .int 4] (gW0 s0 D cy B (z, T, I, R))) (va_Qi (fun r u => r = gt (4 = 0 ∨ 4 = κ ∨ (0 < 4 ∧ 4 < 4 ∧ κ = 4 + 3)) ∧ (z, T, I, R) = u) (fun u t => gW1 D cy B u t) (gA B)) 0 0 (gA B) := by
  refine g_met (maxL := 2) (ret := (some .boolean)) (by decide) rfl (Nat.le_of_ble_eq_true rfl) (fun p e s m args below meth c ls X hr hlk hnm hK hP hC hS hl => ?_)
  have hl : lv_has ls 2 [(0, .ref b), (1, .int 4)] := hl
  have hP : gP D cy B z T I R s.heap := hP
  have hB : B ≤ s.heap.size := by rw [hP.1]; exact hP.2.1
  replace hins := hins.now hC
  refine lv_iload_n X.1 X.2.1 dX2_isUnder_0 rfl (lv_at hl 1 rfl) ?_
  refine lv_tableIn (off := 60) (tgt := 61) X.1 X.2.1 dX2_isUnder_1 (by decide) (by decide) (by decide) (by decide) ?_
  refine lv_aload_n X.1 X.2.1 dX2_isUnder_61 rfl (lv_at hl 0 rfl) ?_
  rcases k7 hκ with hc9 | hc9 | hc9 | hc9 | hc9 | hc9 | hc9
  · have hty8 : T b = (4 + 8, 0) := by rw [htb, hc9]; rfl
    have hi9 := (hins 0 4 (by omega) (by omega) (by omega)).2 (by unfold uK; omega)
    refine va_instNo (C := RX2) (nm := RX1) X.1 X.2.1 X.2.2.2.1 (X.2.2.2.2 (.classLink RX2 35 RX1) (by decide +kernel)) hi9 (g_recv hK hP hty8 rfl) dX2_isUnder_62 ?_
    exact g_zret (f := fun u => u) (z, T, I, R) X hr hlk hK hP hS dX2_isUnder_65 rfl ⟨(gt_no (by omega)).symm, rfl⟩
  · have hty8 : T b = (2 + 8, 0) := by rw [htb, hc9]; rfl
    have hi9 := (hins 1 4 (by omega) (by omega) (by omega)).2 (by unfold uK; omega)
    refine va_instNo (C := RX0) (nm := RX1) X.1 X.2.1 X.2.2.2.1 (X.2.2.2.2 (.classLink RX2 35 RX1) (by decide +kernel)) hi9 (g_recv hK hP hty8 rfl) dX2_isUnder_62 ?_
    exact g_zret (f := fun u => u) (z, T, I, R) X hr hlk hK hP hS dX2_isUnder_65 rfl ⟨(gt_no (by omega)).symm, rfl⟩
  · have hty8 : T b = (11 + 8, 0) := by rw [htb, hc9]; rfl
    have hi9 := (hins 2 4 (by omega) (by omega) (by omega)).2 (by unfold uK; omega)
    refine va_instNo (C := RX9) (nm := RX1) X.1 X.2.1 X.2.2.2.1 (X.2.2.2.2 (.classLink RX2 35 RX1) (by decide +kernel)) hi9 (g_recv hK hP hty8 rfl) dX2_isUnder_62 ?_
    exact g_zret (f := fun u => u) (z, T, I, R) X hr hlk hK hP hS dX2_isUnder_65 rfl ⟨(gt_no (by omega)).symm, rfl⟩
  · have hty8 : T b = (8 + 8, 0) := by rw [htb, hc9]; rfl
    have hi9 := (hins 3 4 (by omega) (by omega) (by omega)).2 (by unfold uK; omega)
    refine va_instNo (C := RX6) (nm := RX1) X.1 X.2.1 X.2.2.2.1 (X.2.2.2.2 (.classLink RX2 35 RX1) (by decide +kernel)) hi9 (g_recv hK hP hty8 rfl) dX2_isUnder_62 ?_
    exact g_zret (f := fun u => u) (z, T, I, R) X hr hlk hK hP hS dX2_isUnder_65 rfl ⟨(gt_no (by omega)).symm, rfl⟩
  · have hty8 : T b = (3 + 8, 0) := by rw [htb, hc9]; rfl
    have hi9 := (hins 4 4 (by omega) (by omega) (by omega)).1 (by unfold uK; omega)
    refine va_instY (C := RX1) (nm := RX1) X.1 X.2.1 X.2.2.2.1 (X.2.2.2.2 (.classLink RX2 35 RX1) (by decide +kernel)) hi9 (g_recv hK hP hty8 rfl) dX2_isUnder_62 ?_
    exact g_zret (f := fun u => u) (z, T, I, R) X hr hlk hK hP hS dX2_isUnder_65 rfl ⟨(gt_yes (by omega)).symm, rfl⟩
  · have hty8 : T b = (9 + 8, 0) := by rw [htb, hc9]; rfl
    have hi9 := (hins 5 4 (by omega) (by omega) (by omega)).2 (by unfold uK; omega)
    refine va_instNo (C := RX7) (nm := RX1) X.1 X.2.1 X.2.2.2.1 (X.2.2.2.2 (.classLink RX2 35 RX1) (by decide +kernel)) hi9 (g_recv hK hP hty8 rfl) dX2_isUnder_62 ?_
    exact g_zret (f := fun u => u) (z, T, I, R) X hr hlk hK hP hS dX2_isUnder_65 rfl ⟨(gt_no (by omega)).symm, rfl⟩
  · have hty8 : T b = (5 + 8, 0) := by rw [htb, hc9]; rfl
    have hi9 := (hins 6 4 (by omega) (by omega) (by omega)).2 (by unfold uK; omega)
    refine va_instNo (C := RX3) (nm := RX1) X.1 X.2.1 X.2.2.2.1 (X.2.2.2.2 (.classLink RX2 35 RX1) (by decide +kernel)) hi9 (g_recv hK hP hty8 rfl) dX2_isUnder_62 ?_
    exact g_zret (f := fun u => u) (z, T, I, R) X hr hlk hK hP hS dX2_isUnder_65 rfl ⟨(gt_no (by omega)).symm, rfl⟩

set_option maxHeartbeats 4000000 in
set_option maxRecDepth 100000 in
/-- v_isUnder_5 -/
theorem v_isUnder_5 {b κ : Nat} (hκ : κ ≤ 6) (htb : T b = (mcl κ + 8, 0)) (hins : gIns s0) : Met l yX2_isUnder wsX2_isUnder ({ frames := 0, cells := 0, slots := 0, locals := 0 }) (va_Pc [.ref b, .int 5] (gW0 s0 D cy B (z, T, I, R))) (va_Qi (fun r u => r = gt (5 = 0 ∨ 5 = κ ∨ (0 < 5 ∧ 5 < 4 ∧ κ = 5 + 3)) ∧ (z, T, I, R) = u) (fun u t => gW1 D cy B u t) (gA B)) 0 0 (gA B) := by
  refine g_met (maxL := 2) (ret := (some .boolean)) (by decide) rfl (Nat.le_of_ble_eq_true rfl) (fun p e s m args below meth c ls X hr hlk hnm hK hP hC hS hl => ?_)
  have hl : lv_has ls 2 [(0, .ref b), (1, .int 5)] := hl
  have hP : gP D cy B z T I R s.heap := hP
  have hB : B ≤ s.heap.size := by rw [hP.1]; exact hP.2.1
  replace hins := hins.now hC
  refine lv_iload_n X.1 X.2.1 dX2_isUnder_0 rfl (lv_at hl 1 rfl) ?_
  refine lv_tableIn (off := 65) (tgt := 66) X.1 X.2.1 dX2_isUnder_1 (by decide) (by decide) (by decide) (by decide) ?_
  refine lv_aload_n X.1 X.2.1 dX2_isUnder_66 rfl (lv_at hl 0 rfl) ?_
  rcases k7 hκ with hc9 | hc9 | hc9 | hc9 | hc9 | hc9 | hc9
  · have hty8 : T b = (4 + 8, 0) := by rw [htb, hc9]; rfl
    have hi9 := (hins 0 5 (by omega) (by omega) (by omega)).2 (by unfold uK; omega)
    refine va_instNo (C := RX2) (nm := RX7) X.1 X.2.1 X.2.2.2.1 (X.2.2.2.2 (.classLink RX2 38 RX7) (by decide +kernel)) hi9 (g_recv hK hP hty8 rfl) dX2_isUnder_67 ?_
    exact g_zret (f := fun u => u) (z, T, I, R) X hr hlk hK hP hS dX2_isUnder_70 rfl ⟨(gt_no (by omega)).symm, rfl⟩
  · have hty8 : T b = (2 + 8, 0) := by rw [htb, hc9]; rfl
    have hi9 := (hins 1 5 (by omega) (by omega) (by omega)).2 (by unfold uK; omega)
    refine va_instNo (C := RX0) (nm := RX7) X.1 X.2.1 X.2.2.2.1 (X.2.2.2.2 (.classLink RX2 38 RX7) (by decide +kernel)) hi9 (g_recv hK hP hty8 rfl) dX2_isUnder_67 ?_
    exact g_zret (f := fun u => u) (z, T, I, R) X hr hlk hK hP hS dX2_isUnder_70 rfl ⟨(gt_no (by omega)).symm, rfl⟩
  · have hty8 : T b = (11 + 8, 0) := by rw [htb, hc9]; rfl
    have hi9 := (hins 2 5 (by omega) (by omega) (by omega)).2 (by unfold uK; omega)
    refine va_instNo (C := RX9) (nm := RX7) X.1 X.2.1 X.2.2.2.1 (X.2.2.2.2 (.classLink RX2 38 RX7) (by decide +kernel)) hi9 (g_recv hK hP hty8 rfl) dX2_isUnder_67 ?_
    exact g_zret (f := fun u => u) (z, T, I, R) X hr hlk hK hP hS dX2_isUnder_70 rfl ⟨(gt_no (by omega)).symm, rfl⟩
  · have hty8 : T b = (8 + 8, 0) := by rw [htb, hc9]; rfl
    have hi9 := (hins 3 5 (by omega) (by omega) (by omega)).2 (by unfold uK; omega)
    refine va_instNo (C := RX6) (nm := RX7) X.1 X.2.1 X.2.2.2.1 (X.2.2.2.2 (.classLink RX2 38 RX7) (by decide +kernel)) hi9 (g_recv hK hP hty8 rfl) dX2_isUnder_67 ?_
    exact g_zret (f := fun u => u) (z, T, I, R) X hr hlk hK hP hS dX2_isUnder_70 rfl ⟨(gt_no (by omega)).symm, rfl⟩
  · have hty8 : T b = (3 + 8, 0) := by rw [htb, hc9]; rfl
    have hi9 := (hins 4 5 (by omega) (by omega) (by omega)).2 (by unfold uK; omega)
    refine va_instNo (C := RX1) (nm := RX7) X.1 X.2.1 X.2.2.2.1 (X.2.2.2.2 (.classLink RX2 38 RX7) (by decide +kernel)) hi9 (g_recv hK hP hty8 rfl) dX2_isUnder_67 ?_
    exact g_zret (f := fun u => u) (z, T, I, R) X hr hlk hK hP hS dX2_isUnder_70 rfl ⟨(gt_no (by omega)).symm, rfl⟩
  · have hty8 : T b = (9 + 8, 0) := by rw [htb, hc9]; rfl
    have hi9 := (hins 5 5 (by omega) (by omega) (by omega)).1 (by unfold uK; omega)
    refine va_instY (C := RX7) (nm := RX7) X.1 X.2.1 X.2.2.2.1 (X.2.2.2.2 (.classLink RX2 38 RX7) (by decide +kernel)) hi9 (g_recv hK hP hty8 rfl) dX2_isUnder_67 ?_
    exact g_zret (f := fun u => u) (z, T, I, R) X hr hlk hK hP hS dX2_isUnder_70 rfl ⟨(gt_yes (by omega)).symm, rfl⟩
  · have hty8 : T b = (5 + 8, 0) := by rw [htb, hc9]; rfl
    have hi9 := (hins 6 5 (by omega) (by omega) (by omega)).2 (by unfold uK; omega)
    refine va_instNo (C := RX3) (nm := RX7) X.1 X.2.1 X.2.2.2.1 (X.2.2.2.2 (.classLink RX2 38 RX7) (by decide +kernel)) hi9 (g_recv hK hP hty8 rfl) dX2_isUnder_67 ?_
    exact g_zret (f := fun u => u) (z, T, I, R) X hr hlk hK hP hS dX2_isUnder_70 rfl ⟨(gt_no (by omega)).symm, rfl⟩

set_option maxHeartbeats 4000000 in
set_option maxRecDepth 100000 in
/-- v_isUnder_6 -/
theorem v_isUnder_6 {b κ : Nat} (hκ : κ ≤ 6) (htb : T b = (mcl κ + 8, 0)) (hins : gIns s0) : Met l yX2_isUnder wsX2_isUnder ({ frames := 0, cells := 0, slots := 0, locals := 0 }) (va_Pc [.ref b, .int 6] (gW0 s0 D cy B (z, T, I, R))) (va_Qi (fun r u => r = gt (6 = 0 ∨ 6 = κ ∨ (0 < 6 ∧ 6 < 4 ∧ κ = 6 + 3)) ∧ (z, T, I, R) = u) (fun u t => gW1 D cy B u t) (gA B)) 0 0 (gA B) := by
  refine g_met (maxL := 2) (ret := (some .boolean)) (by decide) rfl (Nat.le_of_ble_eq_true rfl) (fun p e s m args below meth c ls X hr hlk hnm hK hP hC hS hl => ?_)
  have hl : lv_has ls 2 [(0, .ref b), (1, .int 6)] := hl
  have hP : gP D cy B z T I R s.heap := hP
  have hB : B ≤ s.heap.size := by rw [hP.1]; exact hP.2.1
  replace hins := hins.now hC
  refine lv_iload_n X.1 X.2.1 dX2_isUnder_0 rfl (lv_at hl 1 rfl) ?_
  refine lv_tableIn (off := 70) (tgt := 71) X.1 X.2.1 dX2_isUnder_1 (by decide) (by decide) (by decide) (by decide) ?_
  refine lv_aload_n X.1 X.2.1 dX2_isUnder_71 rfl (lv_at hl 0 rfl) ?_
  rcases k7 hκ with hc9 | hc9 | hc9 | hc9 | hc9 | hc9 | hc9
  · have hty8 : T b = (4 + 8, 0) := by rw [htb, hc9]; rfl
    have hi9 := (hins 0 6 (by omega) (by omega) (by omega)).2 (by unfold uK; omega)
    refine va_instNo (C := RX2) (nm := RX3) X.1 X.2.1 X.2.2.2.1 (X.2.2.2.2 (.classLink RX2 41 RX3) (by decide +kernel)) hi9 (g_recv hK hP hty8 rfl) dX2_isUnder_72 ?_
    exact g_zret (f := fun u => u) (z, T, I, R) X hr hlk hK hP hS dX2_isUnder_75 rfl ⟨(gt_no (by omega)).symm, rfl⟩
  · have hty8 : T b = (2 + 8, 0) := by rw [htb, hc9]; rfl
    have hi9 := (hins 1 6 (by omega) (by omega) (by omega)).2 (by unfold uK; omega)
    refine va_instNo (C := RX0) (nm := RX3) X.1 X.2.1 X.2.2.2.1 (X.2.2.2.2 (.classLink RX2 41 RX3) (by decide +kernel)) hi9 (g_recv hK hP hty8 rfl) dX2_isUnder_72 ?_
    exact g_zret (f := fun u => u) (z, T, I, R) X hr hlk hK hP hS dX2_isUnder_75 rfl ⟨(gt_no (by omega)).symm, rfl⟩
  · have hty8 : T b = (11 + 8, 0) := by rw [htb, hc9]; rfl
    have hi9 := (hins 2 6 (by omega) (by omega) (by omega)).2 (by unfold uK; omega)
    refine va_instNo (C := RX9) (nm := RX3) X.1 X.2.1 X.2.2.2.1 (X.2.2.2.2 (.classLink RX2 41 RX3) (by decide +kernel)) hi9 (g_recv hK hP hty8 rfl) dX2_isUnder_72 ?_
    exact g_zret (f := fun u => u) (z, T, I, R) X hr hlk hK hP hS dX2_isUnder_75 rfl ⟨(gt_no (by omega)).symm, rfl⟩
  · have hty8 : T b = (8 + 8, 0) := by rw [htb, hc9]; rfl
    have hi9 := (hins 3 6 (by omega) (by omega) (by omega)).2 (by unfold uK; omega)
    refine va_instNo (C := RX6) (nm := RX3) X.1 X.2.1 X.2.2.2.1 (X.2.2.2.2 (.classLink RX2 41 RX3) (by decide +kernel)) hi9 (g_recv hK hP hty8 rfl) dX2_isUnder_72 ?_
    exact g_zret (f := fun u => u) (z, T, I, R) X hr hlk hK hP hS dX2_isUnder_75 rfl ⟨(gt_no (by omega)).symm, rfl⟩
  · have hty8 : T b = (3 + 8, 0) := by rw [htb, hc9]; rfl
    have hi9 := (hins 4 6 (by omega) (by omega) (by omega)).2 (by unfold uK; omega)
    refine va_instNo (C := RX1) (nm := RX3) X.1 X.2.1 X.2.2.2.1 (X.2.2.2.2 (.classLink RX2 41 RX3) (by decide +kernel)) hi9 (g_recv hK hP hty8 rfl) dX2_isUnder_72 ?_
    exact g_zret (f := fun u => u) (z, T, I, R) X hr hlk hK hP hS dX2_isUnder_75 rfl ⟨(gt_no (by omega)).symm, rfl⟩
  · have hty8 : T b = (9 + 8, 0) := by rw [htb, hc9]; rfl
    have hi9 := (hins 5 6 (by omega) (by omega) (by omega)).2 (by unfold uK; omega)
    refine va_instNo (C := RX7) (nm := RX3) X.1 X.2.1 X.2.2.2.1 (X.2.2.2.2 (.classLink RX2 41 RX3) (by decide +kernel)) hi9 (g_recv hK hP hty8 rfl) dX2_isUnder_72 ?_
    exact g_zret (f := fun u => u) (z, T, I, R) X hr hlk hK hP hS dX2_isUnder_75 rfl ⟨(gt_no (by omega)).symm, rfl⟩
  · have hty8 : T b = (5 + 8, 0) := by rw [htb, hc9]; rfl
    have hi9 := (hins 6 6 (by omega) (by omega) (by omega)).1 (by unfold uK; omega)
    refine va_instY (C := RX3) (nm := RX3) X.1 X.2.1 X.2.2.2.1 (X.2.2.2.2 (.classLink RX2 41 RX3) (by decide +kernel)) hi9 (g_recv hK hP hty8 rfl) dX2_isUnder_72 ?_
    exact g_zret (f := fun u => u) (z, T, I, R) X hr hlk hK hP hS dX2_isUnder_75 rfl ⟨(gt_yes (by omega)).symm, rfl⟩

theorem v_isUnder {b κ k : Nat} (hκ : κ ≤ 6) (hk : k ≤ 6) (htb : T b = (mcl κ + 8, 0)) (hins : gIns s0) : Met l yX2_isUnder wsX2_isUnder ({ frames := 0, cells := 0, slots := 0, locals := 0 }) (va_Pc [.ref b, .int (nI k)] (gW0 s0 D cy B (z, T, I, R))) (va_Qi (fun r u => r = gt (k = 0 ∨ k = κ ∨ (0 < k ∧ k < 4 ∧ κ = k + 3)) ∧ (z, T, I, R) = u) (fun u t => gW1 D cy B u t) (gA B)) 0 0 (gA B) := by
  rcases k7 hk with rfl | rfl | rfl | rfl | rfl | rfl | rfl
  · exact v_isUnder_0 hκ htb hins
  · exact v_isUnder_1 hκ htb hins
  · exact v_isUnder_2 hκ htb hins
  · exact v_isUnder_3 hκ htb hins
  · exact v_isUnder_4 hκ htb hins
  · exact v_isUnder_5 hκ htb hins
  · exact v_isUnder_6 hκ htb hins
set_option maxHeartbeats 4000000 in
set_option maxRecDepth 100000 in
/-- t_as_n -/
theorem t_as_n (hTp : cTop q nw kp tr T R) (hNw : cNw q nw T I R σ fl ti sh) (hG : sGd fl ti sh) (hb : sBd σ K) {v : Int32} (hno : ¬ (0 ≤ v ∧ v ≤ nI (σ 38) - 1)) (x : Int32) : Met l yX11_as wsX11_as ({ frames := 1, cells := 0, slots := 0, locals := 21 }) (va_Pc [.ref q, .int v, .int x] (gW0 s0 D cy B (z, T, I, R))) (va_Qi (fun r u => r = -1 ∧ (z, T, I, R) = u) (fun u t => gW1 D cy B u t) (gA B)) 0 0 (gA B) := by
  refine g_met (maxL := 4) (ret := (some .int)) (by decide) rfl (Nat.le_of_ble_eq_true rfl) (fun p e s m args below meth c ls X hr hlk hnm hK hP hC hS hl => ?_)
  have hl : lv_has ls 4 [(0, .ref q), (1, .int v), (2, .int x)] := hl
  have hP : gP D cy B z T I R s.heap := hP
  have hB : B ≤ s.heap.size := by rw [hP.1]; exact hP.2.1
  have hinRX11 : ∀ w ∈ wsX110, w ∈ wsX11_as := fun _ h => List.mem_cons_of_mem _ (List.mem_append_left _ (List.mem_append_left _ (List.mem_append_left _ (List.mem_append_left _ (List.mem_append_left _ (List.mem_append_left _ (List.mem_append_left _ (List.mem_append_left _ (List.mem_append_right _ h)))))))))
  have k17 : Cond.fieldLink RX11 17 "BarrowPlank" "now" "LBarrowPlank$Works;" ∈ wsX11_as := by decide +kernel
  have k122 : Cond.fieldLink RX11 122 "BarrowPlank$Man" "v" "I" ∈ wsX11_as := by decide +kernel
  have hTp0 := hTp
  have hNw0 := hNw
  obtain ⟨hnw, hkp, htr, hTq, hR0, hR1, hR2, hR3, hR4, hN, hKp, hTr, hTrd, hTl⟩ := hTp
  obtain ⟨hA, hBb, hmen, hme, a, hsR, hst, hsi, hfa⟩ := hNw
  have h38 := hb.2.2.2.2.1
  have h0 := hb.1
  refine lv_aload_n X.1 X.2.1 dX11_as_0 rfl (lv_at hl 0 rfl) ?_
  refine g_getr 13 0 X hK hP hTq rfl hinRX11 rfl (by decide) k17 (fun _ h => h) dX11_as_1 (show va_rf (R q 0) = .ref nw from by rw [hR0]; rfl) ?_
  refine lv_iload_n X.1 X.2.1 dX11_as_4 rfl (lv_at hl 1 rfl) ?_
  refine g_run_q (f := fun u => u) (g_runV (k := 12) [.int v] X hK hP hS hC hB (d_find_n (σ := σ) hN (hA.2.2.1) h38 hno) (cwV 1 X.2.2.2.2 gX11_as_X10_find rfl rfl rfl (by decide +kernel) ⟨Nat.le_of_ble_eq_true rfl, Nat.le_of_ble_eq_true rfl⟩) hN.t0 rfl rfl hl.1 rfl (Nat.le_of_ble_eq_true rfl) dX11_as_5 (by exact ⟨Nat.zero_le _, Nat.zero_le _⟩)) hS (fun r u H locs hq hP hS => ?_)
  obtain ⟨rfl, rfl⟩ := hq
  have hP : gP D cy B z T I R H := hP
  refine lv_astore_nN (lv' := [(3, .null), (0, .ref q), (1, .int v), (2, .int x)]) X.1 X.2.1 dX11_as_8 rfl hl (by decide) rfl (fun ls hl => ?_)
  refine lv_aload_nN X.1 X.2.1 dX11_as_9 rfl (lv_at hl 0 rfl) ?_
  refine lv_ifnullN (tgt := 23) X.1 X.2.1 dX11_as_10 (by decide) ?_
  refine lv_iconst (v := (-1)) X.1 X.2.1 dX11_as_23 (by decide) ?_
  exact g_iret (f := fun u => u) (z, T, I, R) X hr hlk hK hP hS dX11_as_24 ⟨rfl, rfl⟩

set_option maxHeartbeats 4000000 in
set_option maxRecDepth 100000 in
/-- t_as_b -/
theorem t_as_b (hTp : cTop q nw kp tr T R) (hNw : cNw q nw T I R σ fl ti sh) (hG : sGd fl ti sh) (hb : sBd σ K) {μ : Nat} (hμn : μ < σ 38) {x : Int32} (hbad : ¬ (0 ≤ x ∧ x ≤ 6)) : Met l yX11_as wsX11_as ({ frames := 1, cells := 0, slots := 0, locals := 22 }) (va_Pc [.ref q, .int (nI μ), .int x] (gW0 s0 D cy B (z, T, I, R))) (va_Qi (fun r u => r = -1 ∧ (z, T, I, R) = u) (fun u t => gW1 D cy B u t) (gA B)) 0 0 (gA B) := by
  refine g_met (maxL := 4) (ret := (some .int)) (by decide) rfl (Nat.le_of_ble_eq_true rfl) (fun p e s m args below meth c ls X hr hlk hnm hK hP hC hS hl => ?_)
  have hl : lv_has ls 4 [(0, .ref q), (1, .int (nI μ)), (2, .int x)] := hl
  have hP : gP D cy B z T I R s.heap := hP
  have hB : B ≤ s.heap.size := by rw [hP.1]; exact hP.2.1
  have hinRX11 : ∀ w ∈ wsX110, w ∈ wsX11_as := fun _ h => List.mem_cons_of_mem _ (List.mem_append_left _ (List.mem_append_left _ (List.mem_append_left _ (List.mem_append_left _ (List.mem_append_left _ (List.mem_append_left _ (List.mem_append_left _ (List.mem_append_left _ (List.mem_append_right _ h)))))))))
  have hin7 : ∀ κ, κ ≤ 6 → ∀ w ∈ mws κ, w ∈ wsX11_as := fun κ hκ => by
    rcases k7 hκ with rfl | rfl | rfl | rfl | rfl | rfl | rfl
    · exact fun _ h => List.mem_cons_of_mem _ (List.mem_append_left _ (List.mem_append_left _ (List.mem_append_left _ (List.mem_append_left _ (List.mem_append_left _ (List.mem_append_right _ h))))))
    · exact fun _ h => List.mem_cons_of_mem _ (List.mem_append_left _ (List.mem_append_left _ (List.mem_append_left _ (List.mem_append_left _ (List.mem_append_left _ (List.mem_append_left _ (List.mem_append_left _ (List.mem_append_right _ h))))))))
    · exact fun _ h => List.mem_cons_of_mem _ (List.mem_append_left _ (List.mem_append_right _ h))
    · exact fun _ h => List.mem_cons_of_mem _ (List.mem_append_left _ (List.mem_append_left _ (List.mem_append_left _ (List.mem_append_right _ h))))
    · exact fun _ h => List.mem_cons_of_mem _ (List.mem_append_left _ (List.mem_append_left _ (List.mem_append_left _ (List.mem_append_left _ (List.mem_append_left _ (List.mem_append_left _ (List.mem_append_right _ h)))))))
    · exact fun _ h => List.mem_cons_of_mem _ (List.mem_append_left _ (List.mem_append_left _ (List.mem_append_right _ h)))
    · exact fun _ h => List.mem_cons_of_mem _ (List.mem_append_left _ (List.mem_append_left _ (List.mem_append_left _ (List.mem_append_left _ (List.mem_append_right _ h)))))
  have k17 : Cond.fieldLink RX11 17 "BarrowPlank" "now" "LBarrowPlank$Works;" ∈ wsX11_as := by decide +kernel
  have k122 : Cond.fieldLink RX11 122 "BarrowPlank$Man" "v" "I" ∈ wsX11_as := by decide +kernel
  have hTp0 := hTp
  have hNw0 := hNw
  obtain ⟨hnw, hkp, htr, hTq, hR0, hR1, hR2, hR3, hR4, hN, hKp, hTr, hTrd, hTl⟩ := hTp
  obtain ⟨hA, hBb, hmen, hme, a, hsR, hst, hsi, hfa⟩ := hNw
  have h38 := hb.2.2.2.2.1
  have h0 := hb.1
  have hμ : μ < 4 := Nat.lt_of_lt_of_le hμn h38
  obtain ⟨b, hbm, hm, hb65⟩ := hmen μ hμn
  obtain ⟨hk6, hv9, hs20⟩ := hb.2.2.2.2.2.2.2.2.1 μ hμ
  have ht9 := hb.2.2.1 μ hμ
  refine lv_aload_n X.1 X.2.1 dX11_as_0 rfl (lv_at hl 0 rfl) ?_
  refine g_getr 13 0 X hK hP hTq rfl hinRX11 rfl (by decide) k17 (fun _ h => h) dX11_as_1 (show va_rf (R q 0) = .ref nw from by rw [hR0]; rfl) ?_
  refine lv_iload_n X.1 X.2.1 dX11_as_4 rfl (lv_at hl 1 rfl) ?_
  refine g_run_q (f := fun u => u) (g_runV (k := 12) [.int (nI μ)] X hK hP hS hC hB (d_find (σ := σ) hN (hA.2.2.1) h38 hμn hbm) (cwV 1 X.2.2.2.2 gX11_as_X10_find rfl rfl rfl (by decide +kernel) ⟨Nat.le_of_ble_eq_true rfl, Nat.le_of_ble_eq_true rfl⟩) hN.t0 rfl rfl hl.1 rfl (Nat.le_of_ble_eq_true rfl) dX11_as_5 (by exact ⟨Nat.zero_le _, Nat.zero_le _⟩)) hS (fun r u H locs hq hP hS => ?_)
  obtain ⟨rfl, rfl⟩ := hq
  have hP : gP D cy B z T I R H := hP
  refine lv_astore_n (lv' := [(3, .ref b), (0, .ref q), (1, .int (nI μ)), (2, .int x)]) X.1 X.2.1 dX11_as_8 rfl hl (by decide) rfl (fun ls hl => ?_)
  refine lv_aload_n X.1 X.2.1 dX11_as_9 rfl (lv_at hl 0 rfl) ?_
  refine lv_ifnull X.1 X.2.1 dX11_as_10 ?_
  refine lv_iload_n X.1 X.2.1 dX11_as_13 rfl (lv_at hl 3 rfl) ?_
  refine lv_iconst (v := 0) X.1 X.2.1 dX11_as_14 (by decide) ?_
  refine lv_bipush (v := 6) X.1 X.2.1 dX11_as_15 (by decide) ?_
  refine g_run_i (f := fun u => u) (g_runS [.int x, .int 0, .int 6] X hK hP hS hC hB (d_outside) (va_cwS 3 X.2.2.2.2 gX11_as_X11_outside rfl rfl rfl (by decide +kernel) ⟨Nat.le_of_ble_eq_true rfl, Nat.le_of_ble_eq_true rfl⟩) rfl hl.1 rfl (Nat.le_of_ble_eq_true rfl) dX11_as_17 (by exact ⟨Nat.zero_le _, Nat.zero_le _⟩)) hS (fun r u H locs hq hP hS => ?_)
  obtain ⟨rfl, rfl⟩ := hq
  have hP : gP D cy B z T I R H := hP
  refine lv_if_eq (tgt := 25) X.1 X.2.1 dX11_as_20 (by decide) (fun c20 => ?_) (fun c20 => ?_)
  · exact absurd hbad (gt_0 c20)
  · refine lv_iconst (v := (-1)) X.1 X.2.1 dX11_as_23 (by decide) ?_
    exact g_iret (f := fun u => u) (z, T, I, R) X hr hlk hK hP hS dX11_as_24 ⟨rfl, rfl⟩

set_option maxHeartbeats 4000000 in
set_option maxRecDepth 100000 in
/-- t_as -/
theorem t_as (hTp : cTop q nw kp tr T R) (hNw : cNw q nw T I R σ fl ti sh) (hG : sGd fl ti sh) (hb : sBd σ K) (hins : gIns s0) {μ : Nat} (hμn : μ < σ 38) {k9 : Nat} (hk9 : k9 ≤ 6) : Met l yX11_as wsX11_as ({ frames := 1, cells := 0, slots := 0, locals := 22 }) (va_Pc [.ref q, .int (nI μ), .int (nI k9)] (gW0 s0 D cy B (z, T, I, R))) (va_Qi (fun r u => r = (if k9 = 0 ∨ k9 = σ (44 + μ) ∨ (0 < k9 ∧ k9 < 4 ∧ σ (44 + μ) = k9 + 3) then nI (σ (48 + μ)) else -6) ∧ (z, T, I, R) = u) (fun u t => gW1 D cy B u t) (gA B)) 0 0 (gA B) := by
  refine g_met (maxL := 4) (ret := (some .int)) (by decide) rfl (Nat.le_of_ble_eq_true rfl) (fun p e s m args below meth c ls X hr hlk hnm hK hP hC hS hl => ?_)
  have hl : lv_has ls 4 [(0, .ref q), (1, .int (nI μ)), (2, .int (nI k9))] := hl
  have hP : gP D cy B z T I R s.heap := hP
  have hB : B ≤ s.heap.size := by rw [hP.1]; exact hP.2.1
  have hinRX11 : ∀ w ∈ wsX110, w ∈ wsX11_as := fun _ h => List.mem_cons_of_mem _ (List.mem_append_left _ (List.mem_append_left _ (List.mem_append_left _ (List.mem_append_left _ (List.mem_append_left _ (List.mem_append_left _ (List.mem_append_left _ (List.mem_append_left _ (List.mem_append_right _ h)))))))))
  have hin7 : ∀ κ, κ ≤ 6 → ∀ w ∈ mws κ, w ∈ wsX11_as := fun κ hκ => by
    rcases k7 hκ with rfl | rfl | rfl | rfl | rfl | rfl | rfl
    · exact fun _ h => List.mem_cons_of_mem _ (List.mem_append_left _ (List.mem_append_left _ (List.mem_append_left _ (List.mem_append_left _ (List.mem_append_left _ (List.mem_append_right _ h))))))
    · exact fun _ h => List.mem_cons_of_mem _ (List.mem_append_left _ (List.mem_append_left _ (List.mem_append_left _ (List.mem_append_left _ (List.mem_append_left _ (List.mem_append_left _ (List.mem_append_left _ (List.mem_append_right _ h))))))))
    · exact fun _ h => List.mem_cons_of_mem _ (List.mem_append_left _ (List.mem_append_right _ h))
    · exact fun _ h => List.mem_cons_of_mem _ (List.mem_append_left _ (List.mem_append_left _ (List.mem_append_left _ (List.mem_append_right _ h))))
    · exact fun _ h => List.mem_cons_of_mem _ (List.mem_append_left _ (List.mem_append_left _ (List.mem_append_left _ (List.mem_append_left _ (List.mem_append_left _ (List.mem_append_left _ (List.mem_append_right _ h)))))))
    · exact fun _ h => List.mem_cons_of_mem _ (List.mem_append_left _ (List.mem_append_left _ (List.mem_append_right _ h)))
    · exact fun _ h => List.mem_cons_of_mem _ (List.mem_append_left _ (List.mem_append_left _ (List.mem_append_left _ (List.mem_append_left _ (List.mem_append_right _ h)))))
  have k17 : Cond.fieldLink RX11 17 "BarrowPlank" "now" "LBarrowPlank$Works;" ∈ wsX11_as := by decide +kernel
  have k122 : Cond.fieldLink RX11 122 "BarrowPlank$Man" "v" "I" ∈ wsX11_as := by decide +kernel
  have hTp0 := hTp
  have hNw0 := hNw
  obtain ⟨hnw, hkp, htr, hTq, hR0, hR1, hR2, hR3, hR4, hN, hKp, hTr, hTrd, hTl⟩ := hTp
  obtain ⟨hA, hBb, hmen, hme, a, hsR, hst, hsi, hfa⟩ := hNw
  have h38 := hb.2.2.2.2.1
  have h0 := hb.1
  have hμ : μ < 4 := Nat.lt_of_lt_of_le hμn h38
  obtain ⟨b, hbm, hm, hb65⟩ := hmen μ hμn
  obtain ⟨hk6, hv9, hs20⟩ := hb.2.2.2.2.2.2.2.2.1 μ hμ
  have ht9 := hb.2.2.1 μ hμ
  refine lv_aload_n X.1 X.2.1 dX11_as_0 rfl (lv_at hl 0 rfl) ?_
  refine g_getr 13 0 X hK hP hTq rfl hinRX11 rfl (by decide) k17 (fun _ h => h) dX11_as_1 (show va_rf (R q 0) = .ref nw from by rw [hR0]; rfl) ?_
  refine lv_iload_n X.1 X.2.1 dX11_as_4 rfl (lv_at hl 1 rfl) ?_
  refine g_run_q (f := fun u => u) (g_runV (k := 12) [.int (nI μ)] X hK hP hS hC hB (d_find (σ := σ) hN (hA.2.2.1) h38 hμn hbm) (cwV 1 X.2.2.2.2 gX11_as_X10_find rfl rfl rfl (by decide +kernel) ⟨Nat.le_of_ble_eq_true rfl, Nat.le_of_ble_eq_true rfl⟩) hN.t0 rfl rfl hl.1 rfl (Nat.le_of_ble_eq_true rfl) dX11_as_5 (by exact ⟨Nat.zero_le _, Nat.zero_le _⟩)) hS (fun r u H locs hq hP hS => ?_)
  obtain ⟨rfl, rfl⟩ := hq
  have hP : gP D cy B z T I R H := hP
  refine lv_astore_n (lv' := [(3, .ref b), (0, .ref q), (1, .int (nI μ)), (2, .int (nI k9))]) X.1 X.2.1 dX11_as_8 rfl hl (by decide) rfl (fun ls hl => ?_)
  refine lv_aload_n X.1 X.2.1 dX11_as_9 rfl (lv_at hl 0 rfl) ?_
  refine lv_ifnull X.1 X.2.1 dX11_as_10 ?_
  refine lv_iload_n X.1 X.2.1 dX11_as_13 rfl (lv_at hl 3 rfl) ?_
  refine lv_iconst (v := 0) X.1 X.2.1 dX11_as_14 (by decide) ?_
  refine lv_bipush (v := 6) X.1 X.2.1 dX11_as_15 (by decide) ?_
  refine g_run_i (f := fun u => u) (g_runS [.int (nI k9), .int 0, .int 6] X hK hP hS hC hB (d_outside) (va_cwS 3 X.2.2.2.2 gX11_as_X11_outside rfl rfl rfl (by decide +kernel) ⟨Nat.le_of_ble_eq_true rfl, Nat.le_of_ble_eq_true rfl⟩) rfl hl.1 rfl (Nat.le_of_ble_eq_true rfl) dX11_as_17 (by exact ⟨Nat.zero_le _, Nat.zero_le _⟩)) hS (fun r u H locs hq hP hS => ?_)
  obtain ⟨rfl, rfl⟩ := hq
  have hP : gP D cy B z T I R H := hP
  refine lv_if_eq (tgt := 25) X.1 X.2.1 dX11_as_20 (by decide) (fun c20 => ?_) (fun c20 => ?_)
  · refine lv_aload_n X.1 X.2.1 dX11_as_25 rfl (lv_at hl 0 rfl) ?_
    refine lv_iload_n X.1 X.2.1 dX11_as_26 rfl (lv_at hl 3 rfl) ?_
    refine g_join 30 [.int (gt (k9 = 0 ∨ k9 = σ (44 + μ) ∨ (0 < k9 ∧ k9 < 4 ∧ σ (44 + μ) = k9 + 3)))] hP hS (fun hgo => ?_) (fun H locs hP hS => ?_)
    · have hk9x : σ (44 + μ) ≤ 6 := hk6
      rcases k7 hk9x with hc9 | hc9 | hc9 | hc9 | hc9 | hc9 | hc9
      · have hty8 : T b = (4 + 8, 0) := by rw [hm.1, hc9]; rfl
        refine g_run_i (f := fun u => u) (g_runV (k := 4) [.int (nI k9)] X hK hP hS hC hB (v_isUnder (k := k9) hk6 hk9 hm.1 hins) (cwV 1 X.2.2.2.2 gX11_as_X2_isUnder rfl rfl rfl (by decide +kernel) ⟨Nat.le_of_ble_eq_true rfl, Nat.le_of_ble_eq_true rfl⟩) hty8 rfl rfl hl.1 rfl (Nat.le_of_ble_eq_true rfl) dX11_as_27 (by exact ⟨Nat.zero_le _, Nat.zero_le _⟩)) hS (fun r u H locs hq hP hS => ?_)
        obtain ⟨rfl, rfl⟩ := hq
        exact hgo H locs hP hS
      · have hty8 : T b = (2 + 8, 0) := by rw [hm.1, hc9]; rfl
        refine g_run_i (f := fun u => u) (g_runU (k := 2) [.int (nI k9)] X hK hP hS hC hB (v_isUnder (k := k9) hk6 hk9 hm.1 hins) (va_cwU 1 X.2.2.2.2 gX11_as_X2_isUnder_u227X0 rfl rfl rfl rfl ⟨by decide, by decide, by decide +kernel⟩ ⟨Nat.le_of_ble_eq_true rfl, Nat.le_of_ble_eq_true rfl⟩) hty8 rfl rfl hl.1 rfl (Nat.le_of_ble_eq_true rfl) dX11_as_27 (by exact ⟨Nat.zero_le _, Nat.zero_le _⟩)) hS (fun r u H locs hq hP hS => ?_)
        obtain ⟨rfl, rfl⟩ := hq
        exact hgo H locs hP hS
      · have hty8 : T b = (11 + 8, 0) := by rw [hm.1, hc9]; rfl
        refine g_run_i (f := fun u => u) (g_runU (k := 11) [.int (nI k9)] X hK hP hS hC hB (v_isUnder (k := k9) hk6 hk9 hm.1 hins) (va_cwU 1 X.2.2.2.2 gX11_as_X2_isUnder_u227X9 rfl rfl rfl rfl ⟨by decide, by decide, by decide +kernel⟩ ⟨Nat.le_of_ble_eq_true rfl, Nat.le_of_ble_eq_true rfl⟩) hty8 rfl rfl hl.1 rfl (Nat.le_of_ble_eq_true rfl) dX11_as_27 (by exact ⟨Nat.zero_le _, Nat.zero_le _⟩)) hS (fun r u H locs hq hP hS => ?_)
        obtain ⟨rfl, rfl⟩ := hq
        exact hgo H locs hP hS
      · have hty8 : T b = (8 + 8, 0) := by rw [hm.1, hc9]; rfl
        refine g_run_i (f := fun u => u) (g_runU (k := 8) [.int (nI k9)] X hK hP hS hC hB (v_isUnder (k := k9) hk6 hk9 hm.1 hins) (va_cwU 1 X.2.2.2.2 gX11_as_X2_isUnder_u227X6 rfl rfl rfl rfl ⟨by decide, by decide, by decide +kernel⟩ ⟨Nat.le_of_ble_eq_true rfl, Nat.le_of_ble_eq_true rfl⟩) hty8 rfl rfl hl.1 rfl (Nat.le_of_ble_eq_true rfl) dX11_as_27 (by exact ⟨Nat.zero_le _, Nat.zero_le _⟩)) hS (fun r u H locs hq hP hS => ?_)
        obtain ⟨rfl, rfl⟩ := hq
        exact hgo H locs hP hS
      · have hty8 : T b = (3 + 8, 0) := by rw [hm.1, hc9]; rfl
        refine g_run_i (f := fun u => u) (g_runU (k := 3) [.int (nI k9)] X hK hP hS hC hB (v_isUnder (k := k9) hk6 hk9 hm.1 hins) (va_cwU 1 X.2.2.2.2 gX11_as_X2_isUnder_u227X1 rfl rfl rfl rfl ⟨by decide, by decide, by decide +kernel⟩ ⟨Nat.le_of_ble_eq_true rfl, Nat.le_of_ble_eq_true rfl⟩) hty8 rfl rfl hl.1 rfl (Nat.le_of_ble_eq_true rfl) dX11_as_27 (by exact ⟨Nat.zero_le _, Nat.zero_le _⟩)) hS (fun r u H locs hq hP hS => ?_)
        obtain ⟨rfl, rfl⟩ := hq
        exact hgo H locs hP hS
      · have hty8 : T b = (9 + 8, 0) := by rw [hm.1, hc9]; rfl
        refine g_run_i (f := fun u => u) (g_runU (k := 9) [.int (nI k9)] X hK hP hS hC hB (v_isUnder (k := k9) hk6 hk9 hm.1 hins) (va_cwU 1 X.2.2.2.2 gX11_as_X2_isUnder_u227X7 rfl rfl rfl rfl ⟨by decide, by decide, by decide +kernel⟩ ⟨Nat.le_of_ble_eq_true rfl, Nat.le_of_ble_eq_true rfl⟩) hty8 rfl rfl hl.1 rfl (Nat.le_of_ble_eq_true rfl) dX11_as_27 (by exact ⟨Nat.zero_le _, Nat.zero_le _⟩)) hS (fun r u H locs hq hP hS => ?_)
        obtain ⟨rfl, rfl⟩ := hq
        exact hgo H locs hP hS
      · have hty8 : T b = (5 + 8, 0) := by rw [hm.1, hc9]; rfl
        refine g_run_i (f := fun u => u) (g_runU (k := 5) [.int (nI k9)] X hK hP hS hC hB (v_isUnder (k := k9) hk6 hk9 hm.1 hins) (va_cwU 1 X.2.2.2.2 gX11_as_X2_isUnder_u227X3 rfl rfl rfl rfl ⟨by decide, by decide, by decide +kernel⟩ ⟨Nat.le_of_ble_eq_true rfl, Nat.le_of_ble_eq_true rfl⟩) hty8 rfl rfl hl.1 rfl (Nat.le_of_ble_eq_true rfl) dX11_as_27 (by exact ⟨Nat.zero_le _, Nat.zero_le _⟩)) hS (fun r u H locs hq hP hS => ?_)
        obtain ⟨rfl, rfl⟩ := hq
        exact hgo H locs hP hS
    refine lv_if_eq (tgt := 40) X.1 X.2.1 dX11_as_30 (by decide) (fun c30 => ?_) (fun c30 => ?_)
    · refine lv_bipush (v := (-6)) X.1 X.2.1 dX11_as_40 (by decide) ?_
      exact g_iret (f := fun u => u) (z, T, I, R) X hr hlk hK hP hS dX11_as_42 ⟨(if_neg (gt_0 c30)).symm, rfl⟩
    · refine lv_aload_n X.1 X.2.1 dX11_as_33 rfl (lv_at hl 0 rfl) ?_
      refine g_mget 2 (by decide) hk6 X hK hP hm.1 (hin7 _ hk6) k122 (fun _ h => h) dX11_as_34 (show I b 2 = nI (σ (48 + μ)) from hm.2.2.2.1) ?_
      refine lv_goto (tgt := 42) X.1 X.2.1 dX11_as_37 (by decide) ?_
      exact g_iret (f := fun u => u) (z, T, I, R) X hr hlk hK hP hS dX11_as_42 ⟨(if_pos (gt_1 c30)).symm, rfl⟩
  · exact absurd (g_le (a := 0) (b := 6) (x := 0) (y := 6) rfl rfl (by omega) (by omega) (by omega)) (gt_1 c20)

end PT