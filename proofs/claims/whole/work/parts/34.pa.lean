section PA
variable {l : Launch} {s0 : State} {D : va_G} {cy : Nat → ClassId} {B z : Nat} {T : Nat → Nat × Nat} {I : Nat → Nat → Int32} {R : Nat → Nat → Option Nat} {b κ v : Nat}
set_option maxHeartbeats 4000000 in
set_option maxRecDepth 100000 in
/-- v_X2_heaps -/
theorem v_X2_heaps (hκ : κ ≤ 6) (ht : T b = (mcl κ + 8, 0)) (hv : I b 2 = nI v)  : Met l yX2_heaps wsX2_heaps ({ frames := 0, cells := 0, slots := 0, locals := 0 }) (va_Pc [.ref b] (gW0 s0 D cy B (z, T, I, R))) (va_Qi (fun r u => r = nI 0 ∧ (z, T, I, R) = u) (fun u t => gW1 D cy B u t) (gA B)) 0 0 (gA B) := by
  refine g_met (maxL := 1) (ret := (some .int)) (by decide) rfl (Nat.le_of_ble_eq_true rfl) (fun p e s m args below meth c ls X hr hlk hnm hK hP hC hS hl => ?_)
  have hl : lv_has ls 1 [(0, .ref b)] := hl
  have hP : gP D cy B z T I R s.heap := hP
  have hB : B ≤ s.heap.size := by rw [hP.1]; exact hP.2.1
  refine lv_iconst (v := 0) X.1 X.2.1 dX2_heaps_0 (by decide) ?_
  exact g_iret (f := fun u => u) (z, T, I, R) X hr hlk hK hP hS dX2_heaps_1 ⟨rfl, rfl⟩

set_option maxHeartbeats 4000000 in
set_option maxRecDepth 100000 in
/-- v_X2_waits -/
theorem v_X2_waits (hκ : κ ≤ 6) (ht : T b = (mcl κ + 8, 0)) (hv : I b 2 = nI v)  : Met l yX2_waits wsX2_waits ({ frames := 0, cells := 0, slots := 0, locals := 0 }) (va_Pc [.ref b] (gW0 s0 D cy B (z, T, I, R))) (va_Qi (fun r u => r = nI 0 ∧ (z, T, I, R) = u) (fun u t => gW1 D cy B u t) (gA B)) 0 0 (gA B) := by
  refine g_met (maxL := 1) (ret := (some .int)) (by decide) rfl (Nat.le_of_ble_eq_true rfl) (fun p e s m args below meth c ls X hr hlk hnm hK hP hC hS hl => ?_)
  have hl : lv_has ls 1 [(0, .ref b)] := hl
  have hP : gP D cy B z T I R s.heap := hP
  have hB : B ≤ s.heap.size := by rw [hP.1]; exact hP.2.1
  refine lv_iconst (v := 0) X.1 X.2.1 dX2_waits_0 (by decide) ?_
  exact g_iret (f := fun u => u) (z, T, I, R) X hr hlk hK hP hS dX2_waits_1 ⟨rfl, rfl⟩

set_option maxHeartbeats 4000000 in
set_option maxRecDepth 100000 in
/-- v_X2_drags -/
theorem v_X2_drags (hκ : κ ≤ 6) (ht : T b = (mcl κ + 8, 0)) (hv : I b 2 = nI v) {a0 : Int32} {t : Nat} (h0 : a0 = nI t) : Met l yX2_drags wsX2_drags ({ frames := 0, cells := 0, slots := 0, locals := 0 }) (va_Pc [.ref b, .int a0] (gW0 s0 D cy B (z, T, I, R))) (va_Qi (fun r u => r = nI 0 ∧ (z, T, I, R) = u) (fun u t => gW1 D cy B u t) (gA B)) 0 0 (gA B) := by
  refine g_met (maxL := 2) (ret := (some .int)) (by decide) rfl (Nat.le_of_ble_eq_true rfl) (fun p e s m args below meth c ls X hr hlk hnm hK hP hC hS hl => ?_)
  have hl : lv_has ls 2 [(0, .ref b), (1, .int a0)] := hl
  have hP : gP D cy B z T I R s.heap := hP
  have hB : B ≤ s.heap.size := by rw [hP.1]; exact hP.2.1
  refine lv_iconst (v := 0) X.1 X.2.1 dX2_drags_0 (by decide) ?_
  exact g_iret (f := fun u => u) (z, T, I, R) X hr hlk hK hP hS dX2_drags_1 ⟨rfl, rfl⟩

set_option maxHeartbeats 4000000 in
set_option maxRecDepth 100000 in
/-- v_X2_slips -/
theorem v_X2_slips (hκ : κ ≤ 6) (ht : T b = (mcl κ + 8, 0)) (hv : I b 2 = nI v) {a0 : Int32} {b1 : Nat} (h0 : a0 = nI b1) : Met l yX2_slips wsX2_slips ({ frames := 0, cells := 0, slots := 0, locals := 0 }) (va_Pc [.ref b, .int a0] (gW0 s0 D cy B (z, T, I, R))) (va_Qi (fun r u => r = nI 0 ∧ (z, T, I, R) = u) (fun u t => gW1 D cy B u t) (gA B)) 0 0 (gA B) := by
  refine g_met (maxL := 2) (ret := (some .int)) (by decide) rfl (Nat.le_of_ble_eq_true rfl) (fun p e s m args below meth c ls X hr hlk hnm hK hP hC hS hl => ?_)
  have hl : lv_has ls 2 [(0, .ref b), (1, .int a0)] := hl
  have hP : gP D cy B z T I R s.heap := hP
  have hB : B ≤ s.heap.size := by rw [hP.1]; exact hP.2.1
  refine lv_iconst (v := 0) X.1 X.2.1 dX2_slips_0 (by decide) ?_
  exact g_iret (f := fun u => u) (z, T, I, R) X hr hlk hK hP hS dX2_slips_1 ⟨rfl, rfl⟩

set_option maxHeartbeats 4000000 in
set_option maxRecDepth 100000 in
/-- v_X2_slops -/
theorem v_X2_slops (hκ : κ ≤ 6) (ht : T b = (mcl κ + 8, 0)) (hv : I b 2 = nI v) {a0 a1 : Int32} {y b1 : Nat} (h0 : a0 = nI y) (h1 : a1 = nI b1) : Met l yX2_slops wsX2_slops ({ frames := 0, cells := 0, slots := 0, locals := 0 }) (va_Pc [.ref b, .int a0, .int a1] (gW0 s0 D cy B (z, T, I, R))) (va_Qi (fun r u => r = nI 0 ∧ (z, T, I, R) = u) (fun u t => gW1 D cy B u t) (gA B)) 0 0 (gA B) := by
  refine g_met (maxL := 3) (ret := (some .int)) (by decide) rfl (Nat.le_of_ble_eq_true rfl) (fun p e s m args below meth c ls X hr hlk hnm hK hP hC hS hl => ?_)
  have hl : lv_has ls 3 [(0, .ref b), (1, .int a0), (2, .int a1)] := hl
  have hP : gP D cy B z T I R s.heap := hP
  have hB : B ≤ s.heap.size := by rw [hP.1]; exact hP.2.1
  refine lv_iconst (v := 0) X.1 X.2.1 dX2_slops_0 (by decide) ?_
  exact g_iret (f := fun u => u) (z, T, I, R) X hr hlk hK hP hS dX2_slops_1 ⟨rfl, rfl⟩

set_option maxHeartbeats 4000000 in
set_option maxRecDepth 100000 in
/-- v_X2_tips -/
theorem v_X2_tips (hκ : κ ≤ 6) (ht : T b = (mcl κ + 8, 0)) (hv : I b 2 = nI v) {a0 a1 : Int32} {q b1 : Nat} (h0 : a0 = nI q) (h1 : a1 = nI b1) : Met l yX2_tips wsX2_tips ({ frames := 0, cells := 0, slots := 0, locals := 0 }) (va_Pc [.ref b, .int a0, .int a1] (gW0 s0 D cy B (z, T, I, R))) (va_Qi (fun r u => r = nI 0 ∧ (z, T, I, R) = u) (fun u t => gW1 D cy B u t) (gA B)) 0 0 (gA B) := by
  refine g_met (maxL := 3) (ret := (some .int)) (by decide) rfl (Nat.le_of_ble_eq_true rfl) (fun p e s m args below meth c ls X hr hlk hnm hK hP hC hS hl => ?_)
  have hl : lv_has ls 3 [(0, .ref b), (1, .int a0), (2, .int a1)] := hl
  have hP : gP D cy B z T I R s.heap := hP
  have hB : B ≤ s.heap.size := by rw [hP.1]; exact hP.2.1
  refine lv_iconst (v := 0) X.1 X.2.1 dX2_tips_0 (by decide) ?_
  exact g_iret (f := fun u => u) (z, T, I, R) X hr hlk hK hP hS dX2_tips_1 ⟨rfl, rfl⟩

set_option maxHeartbeats 4000000 in
set_option maxRecDepth 100000 in
/-- v_X0_heaps -/
theorem v_X0_heaps (hκ : κ ≤ 6) (ht : T b = (mcl κ + 8, 0)) (hv : I b 2 = nI v)  : Met l yX0_heaps wsX0_heaps ({ frames := 0, cells := 0, slots := 0, locals := 0 }) (va_Pc [.ref b] (gW0 s0 D cy B (z, T, I, R))) (va_Qi (fun r u => r = nI v ∧ (z, T, I, R) = u) (fun u t => gW1 D cy B u t) (gA B)) 0 0 (gA B) := by
  refine g_met (maxL := 1) (ret := (some .int)) (by decide) rfl (Nat.le_of_ble_eq_true rfl) (fun p e s m args below meth c ls X hr hlk hnm hK hP hC hS hl => ?_)
  have hl : lv_has ls 1 [(0, .ref b)] := hl
  have hP : gP D cy B z T I R s.heap := hP
  have hB : B ≤ s.heap.size := by rw [hP.1]; exact hP.2.1
  have hin7 : ∀ κ, κ ≤ 6 → ∀ w ∈ mws κ, w ∈ wsX0_heaps := fun κ hκ => by
    rcases k7 hκ with rfl | rfl | rfl | rfl | rfl | rfl | rfl
    · exact fun _ h => List.mem_cons_of_mem _ (List.mem_append_left _ (List.mem_append_left _ (List.mem_append_left _ (List.mem_append_left _ (List.mem_append_right _ h)))))
    · exact fun _ h => List.mem_cons_of_mem _ (List.mem_append_left _ (List.mem_append_left _ (List.mem_append_left _ (List.mem_append_left _ (List.mem_append_left _ (List.mem_append_left _ (List.mem_append_right _ h)))))))
    · exact fun _ h => List.mem_cons_of_mem _ (List.mem_append_right _ h)
    · exact fun _ h => List.mem_cons_of_mem _ (List.mem_append_left _ (List.mem_append_left _ (List.mem_append_right _ h)))
    · exact fun _ h => List.mem_cons_of_mem _ (List.mem_append_left _ (List.mem_append_left _ (List.mem_append_left _ (List.mem_append_left _ (List.mem_append_left _ (List.mem_append_right _ h))))))
    · exact fun _ h => List.mem_cons_of_mem _ (List.mem_append_left _ (List.mem_append_right _ h))
    · exact fun _ h => List.mem_cons_of_mem _ (List.mem_append_left _ (List.mem_append_left _ (List.mem_append_left _ (List.mem_append_right _ h))))
  have k7 : Cond.fieldLink RX0 7 "BarrowPlank$Full" "v" "I" ∈ wsX0_heaps := by decide +kernel
  refine lv_aload_n X.1 X.2.1 dX0_heaps_0 rfl (lv_at hl 0 rfl) ?_
  refine g_mget 2 (by decide) hκ X hK hP ht (hin7 κ hκ) k7 (u_same (X.2.2.2.2 (.sameField "BarrowPlank$Full" "BarrowPlank$Man" "v" "I") (by decide +kernel))) dX0_heaps_1 (show I b 2 = nI v from hv) ?_
  exact g_iret (f := fun u => u) (z, T, I, R) X hr hlk hK hP hS dX0_heaps_4 ⟨rfl, rfl⟩

set_option maxHeartbeats 4000000 in
set_option maxRecDepth 100000 in
/-- v_X9_waits -/
theorem v_X9_waits (hκ : κ ≤ 6) (ht : T b = (mcl κ + 8, 0)) (hv : I b 2 = nI v)  : Met l yX9_waits wsX9_waits ({ frames := 0, cells := 0, slots := 0, locals := 0 }) (va_Pc [.ref b] (gW0 s0 D cy B (z, T, I, R))) (va_Qi (fun r u => r = nI v ∧ (z, T, I, R) = u) (fun u t => gW1 D cy B u t) (gA B)) 0 0 (gA B) := by
  refine g_met (maxL := 1) (ret := (some .int)) (by decide) rfl (Nat.le_of_ble_eq_true rfl) (fun p e s m args below meth c ls X hr hlk hnm hK hP hC hS hl => ?_)
  have hl : lv_has ls 1 [(0, .ref b)] := hl
  have hP : gP D cy B z T I R s.heap := hP
  have hB : B ≤ s.heap.size := by rw [hP.1]; exact hP.2.1
  have hin7 : ∀ κ, κ ≤ 6 → ∀ w ∈ mws κ, w ∈ wsX9_waits := fun κ hκ => by
    rcases k7 hκ with rfl | rfl | rfl | rfl | rfl | rfl | rfl
    · exact fun _ h => List.mem_cons_of_mem _ (List.mem_append_left _ (List.mem_append_left _ (List.mem_append_left _ (List.mem_append_left _ (List.mem_append_right _ h)))))
    · exact fun _ h => List.mem_cons_of_mem _ (List.mem_append_left _ (List.mem_append_left _ (List.mem_append_left _ (List.mem_append_left _ (List.mem_append_left _ (List.mem_append_left _ (List.mem_append_right _ h)))))))
    · exact fun _ h => List.mem_cons_of_mem _ (List.mem_append_right _ h)
    · exact fun _ h => List.mem_cons_of_mem _ (List.mem_append_left _ (List.mem_append_left _ (List.mem_append_right _ h)))
    · exact fun _ h => List.mem_cons_of_mem _ (List.mem_append_left _ (List.mem_append_left _ (List.mem_append_left _ (List.mem_append_left _ (List.mem_append_left _ (List.mem_append_right _ h))))))
    · exact fun _ h => List.mem_cons_of_mem _ (List.mem_append_left _ (List.mem_append_right _ h))
    · exact fun _ h => List.mem_cons_of_mem _ (List.mem_append_left _ (List.mem_append_left _ (List.mem_append_left _ (List.mem_append_right _ h))))
  have k7 : Cond.fieldLink RX9 7 "BarrowPlank$Waiting" "v" "I" ∈ wsX9_waits := by decide +kernel
  refine lv_aload_n X.1 X.2.1 dX9_waits_0 rfl (lv_at hl 0 rfl) ?_
  refine g_mget 2 (by decide) hκ X hK hP ht (hin7 κ hκ) k7 (u_same (X.2.2.2.2 (.sameField "BarrowPlank$Waiting" "BarrowPlank$Man" "v" "I") (by decide +kernel))) dX9_waits_1 (show I b 2 = nI v from hv) ?_
  exact g_iret (f := fun u => u) (z, T, I, R) X hr hlk hK hP hS dX9_waits_4 ⟨rfl, rfl⟩

set_option maxHeartbeats 4000000 in
set_option maxRecDepth 100000 in
/-- v_X6_drags -/
theorem v_X6_drags (hκ : κ ≤ 6) (ht : T b = (mcl κ + 8, 0)) (hv : I b 2 = nI v) {a0 : Int32} {t : Nat} (h0 : a0 = nI t) (hb1 : t < 2 ^ 31) (hv9 : v < 2 ^ 31) : Met l yX6_drags wsX6_drags ({ frames := 0, cells := 0, slots := 0, locals := 0 }) (va_Pc [.ref b, .int a0] (gW0 s0 D cy B (z, T, I, R))) (va_Qi (fun r u => r = nI (if v < t then 1 else 0) ∧ (z, T, I, R) = u) (fun u t => gW1 D cy B u t) (gA B)) 0 0 (gA B) := by
  refine g_met (maxL := 2) (ret := (some .int)) (by decide) rfl (Nat.le_of_ble_eq_true rfl) (fun p e s m args below meth c ls X hr hlk hnm hK hP hC hS hl => ?_)
  have hl : lv_has ls 2 [(0, .ref b), (1, .int a0)] := hl
  have hP : gP D cy B z T I R s.heap := hP
  have hB : B ≤ s.heap.size := by rw [hP.1]; exact hP.2.1
  have hin7 : ∀ κ, κ ≤ 6 → ∀ w ∈ mws κ, w ∈ wsX6_drags := fun κ hκ => by
    rcases k7 hκ with rfl | rfl | rfl | rfl | rfl | rfl | rfl
    · exact fun _ h => List.mem_cons_of_mem _ (List.mem_append_left _ (List.mem_append_left _ (List.mem_append_left _ (List.mem_append_left _ (List.mem_append_right _ h)))))
    · exact fun _ h => List.mem_cons_of_mem _ (List.mem_append_left _ (List.mem_append_left _ (List.mem_append_left _ (List.mem_append_left _ (List.mem_append_left _ (List.mem_append_left _ (List.mem_append_right _ h)))))))
    · exact fun _ h => List.mem_cons_of_mem _ (List.mem_append_right _ h)
    · exact fun _ h => List.mem_cons_of_mem _ (List.mem_append_left _ (List.mem_append_left _ (List.mem_append_right _ h)))
    · exact fun _ h => List.mem_cons_of_mem _ (List.mem_append_left _ (List.mem_append_left _ (List.mem_append_left _ (List.mem_append_left _ (List.mem_append_left _ (List.mem_append_right _ h))))))
    · exact fun _ h => List.mem_cons_of_mem _ (List.mem_append_left _ (List.mem_append_right _ h))
    · exact fun _ h => List.mem_cons_of_mem _ (List.mem_append_left _ (List.mem_append_left _ (List.mem_append_left _ (List.mem_append_right _ h))))
  have k7 : Cond.fieldLink RX6 7 "BarrowPlank$Slow" "v" "I" ∈ wsX6_drags := by decide +kernel
  refine lv_iload_n X.1 X.2.1 dX6_drags_0 rfl (lv_at hl 1 rfl) ?_
  refine lv_aload_n X.1 X.2.1 dX6_drags_1 rfl (lv_at hl 0 rfl) ?_
  refine g_mget 2 (by decide) hκ X hK hP ht (hin7 κ hκ) k7 (u_same (X.2.2.2.2 (.sameField "BarrowPlank$Slow" "BarrowPlank$Man" "v" "I") (by decide +kernel))) dX6_drags_2 (show I b 2 = nI v from hv) ?_
  refine lv_icmp_le (tgt := 12) X.1 X.2.1 dX6_drags_5 (by decide) (fun c5 => ?_) (fun c5 => ?_)
  · have n5 : t ≤ v := gq_le c5 h0 (Eq.refl (nI v)) (by omega) (by omega)
    refine lv_iconst (v := 0) X.1 X.2.1 dX6_drags_12 (by decide) ?_
    exact g_iret (f := fun u => u) (z, T, I, R) X hr hlk hK hP hS dX6_drags_13 ⟨(by rw [if_neg (by omega)]; rfl), rfl⟩
  · have n5 : v < t := gq_nle c5 h0 (Eq.refl (nI v)) (by omega) (by omega)
    refine lv_iconst (v := 1) X.1 X.2.1 dX6_drags_8 (by decide) ?_
    refine lv_goto (tgt := 13) X.1 X.2.1 dX6_drags_9 (by decide) ?_
    exact g_iret (f := fun u => u) (z, T, I, R) X hr hlk hK hP hS dX6_drags_13 ⟨(by rw [if_pos (by omega)]; rfl), rfl⟩

set_option maxHeartbeats 4000000 in
set_option maxRecDepth 100000 in
/-- v_X1_slops -/
theorem v_X1_slops (hκ : κ ≤ 6) (ht : T b = (mcl κ + 8, 0)) (hv : I b 2 = nI v) {a0 a1 : Int32} {y b1 : Nat} (h0 : a0 = nI y) (h1 : a1 = nI b1) (hb1 : b1 < 2 ^ 31) (hv9 : v < 2 ^ 31) : Met l yX1_slops wsX1_slops ({ frames := 0, cells := 0, slots := 0, locals := 0 }) (va_Pc [.ref b, .int a0, .int a1] (gW0 s0 D cy B (z, T, I, R))) (va_Qi (fun r u => r = nI (if 0 < b1 then v else 0) ∧ (z, T, I, R) = u) (fun u t => gW1 D cy B u t) (gA B)) 0 0 (gA B) := by
  refine g_met (maxL := 3) (ret := (some .int)) (by decide) rfl (Nat.le_of_ble_eq_true rfl) (fun p e s m args below meth c ls X hr hlk hnm hK hP hC hS hl => ?_)
  have hl : lv_has ls 3 [(0, .ref b), (1, .int a0), (2, .int a1)] := hl
  have hP : gP D cy B z T I R s.heap := hP
  have hB : B ≤ s.heap.size := by rw [hP.1]; exact hP.2.1
  have hin7 : ∀ κ, κ ≤ 6 → ∀ w ∈ mws κ, w ∈ wsX1_slops := fun κ hκ => by
    rcases k7 hκ with rfl | rfl | rfl | rfl | rfl | rfl | rfl
    · exact fun _ h => List.mem_cons_of_mem _ (List.mem_append_left _ (List.mem_append_left _ (List.mem_append_left _ (List.mem_append_left _ (List.mem_append_right _ h)))))
    · exact fun _ h => List.mem_cons_of_mem _ (List.mem_append_left _ (List.mem_append_left _ (List.mem_append_left _ (List.mem_append_left _ (List.mem_append_left _ (List.mem_append_left _ (List.mem_append_right _ h)))))))
    · exact fun _ h => List.mem_cons_of_mem _ (List.mem_append_right _ h)
    · exact fun _ h => List.mem_cons_of_mem _ (List.mem_append_left _ (List.mem_append_left _ (List.mem_append_right _ h)))
    · exact fun _ h => List.mem_cons_of_mem _ (List.mem_append_left _ (List.mem_append_left _ (List.mem_append_left _ (List.mem_append_left _ (List.mem_append_left _ (List.mem_append_right _ h))))))
    · exact fun _ h => List.mem_cons_of_mem _ (List.mem_append_left _ (List.mem_append_right _ h))
    · exact fun _ h => List.mem_cons_of_mem _ (List.mem_append_left _ (List.mem_append_left _ (List.mem_append_left _ (List.mem_append_right _ h))))
  have k7 : Cond.fieldLink RX1 7 "BarrowPlank$Heaped" "v" "I" ∈ wsX1_slops := by decide +kernel
  refine lv_iload_n X.1 X.2.1 dX1_slops_0 rfl (lv_at hl 2 rfl) ?_
  refine lv_if_le (tgt := 11) X.1 X.2.1 dX1_slops_1 (by decide) (fun c1 => ?_) (fun c1 => ?_)
  · have n1 : b1 ≤ 0 := gq_le c1 h1 (show (0 : Int32) = nI 0 from rfl) (by omega) (by omega)
    refine lv_iconst (v := 0) X.1 X.2.1 dX1_slops_11 (by decide) ?_
    exact g_iret (f := fun u => u) (z, T, I, R) X hr hlk hK hP hS dX1_slops_12 ⟨(by rw [if_neg (by omega)]; rfl), rfl⟩
  · have n1 : 0 < b1 := gq_nle c1 h1 (show (0 : Int32) = nI 0 from rfl) (by omega) (by omega)
    refine lv_aload_n X.1 X.2.1 dX1_slops_4 rfl (lv_at hl 0 rfl) ?_
    refine g_mget 2 (by decide) hκ X hK hP ht (hin7 κ hκ) k7 (u_same (X.2.2.2.2 (.sameField "BarrowPlank$Heaped" "BarrowPlank$Man" "v" "I") (by decide +kernel))) dX1_slops_5 (show I b 2 = nI v from hv) ?_
    refine lv_goto (tgt := 12) X.1 X.2.1 dX1_slops_8 (by decide) ?_
    exact g_iret (f := fun u => u) (z, T, I, R) X hr hlk hK hP hS dX1_slops_12 ⟨(by rw [if_pos (by omega)]), rfl⟩

set_option maxHeartbeats 4000000 in
set_option maxRecDepth 100000 in
/-- v_X7_slops -/
theorem v_X7_slops (hκ : κ ≤ 6) (ht : T b = (mcl κ + 8, 0)) (hv : I b 2 = nI v) {a0 a1 : Int32} {y b1 : Nat} (h0 : a0 = nI y) (h1 : a1 = nI b1) (hb1 : y < 2 ^ 31) (hv9 : v < 2 ^ 31) : Met l yX7_slops wsX7_slops ({ frames := 0, cells := 0, slots := 0, locals := 0 }) (va_Pc [.ref b, .int a0, .int a1] (gW0 s0 D cy B (z, T, I, R))) (va_Qi (fun r u => r = nI (if y = v then 1 else 0) ∧ (z, T, I, R) = u) (fun u t => gW1 D cy B u t) (gA B)) 0 0 (gA B) := by
  refine g_met (maxL := 3) (ret := (some .int)) (by decide) rfl (Nat.le_of_ble_eq_true rfl) (fun p e s m args below meth c ls X hr hlk hnm hK hP hC hS hl => ?_)
  have hl : lv_has ls 3 [(0, .ref b), (1, .int a0), (2, .int a1)] := hl
  have hP : gP D cy B z T I R s.heap := hP
  have hB : B ≤ s.heap.size := by rw [hP.1]; exact hP.2.1
  have hin7 : ∀ κ, κ ≤ 6 → ∀ w ∈ mws κ, w ∈ wsX7_slops := fun κ hκ => by
    rcases k7 hκ with rfl | rfl | rfl | rfl | rfl | rfl | rfl
    · exact fun _ h => List.mem_cons_of_mem _ (List.mem_append_left _ (List.mem_append_left _ (List.mem_append_left _ (List.mem_append_left _ (List.mem_append_right _ h)))))
    · exact fun _ h => List.mem_cons_of_mem _ (List.mem_append_left _ (List.mem_append_left _ (List.mem_append_left _ (List.mem_append_left _ (List.mem_append_left _ (List.mem_append_left _ (List.mem_append_right _ h)))))))
    · exact fun _ h => List.mem_cons_of_mem _ (List.mem_append_right _ h)
    · exact fun _ h => List.mem_cons_of_mem _ (List.mem_append_left _ (List.mem_append_left _ (List.mem_append_right _ h)))
    · exact fun _ h => List.mem_cons_of_mem _ (List.mem_append_left _ (List.mem_append_left _ (List.mem_append_left _ (List.mem_append_left _ (List.mem_append_left _ (List.mem_append_right _ h))))))
    · exact fun _ h => List.mem_cons_of_mem _ (List.mem_append_left _ (List.mem_append_right _ h))
    · exact fun _ h => List.mem_cons_of_mem _ (List.mem_append_left _ (List.mem_append_left _ (List.mem_append_left _ (List.mem_append_right _ h))))
  have k7 : Cond.fieldLink RX7 7 "BarrowPlank$Spilt" "v" "I" ∈ wsX7_slops := by decide +kernel
  refine lv_iload_n X.1 X.2.1 dX7_slops_0 rfl (lv_at hl 1 rfl) ?_
  refine lv_aload_n X.1 X.2.1 dX7_slops_1 rfl (lv_at hl 0 rfl) ?_
  refine g_mget 2 (by decide) hκ X hK hP ht (hin7 κ hκ) k7 (u_same (X.2.2.2.2 (.sameField "BarrowPlank$Spilt" "BarrowPlank$Man" "v" "I") (by decide +kernel))) dX7_slops_2 (show I b 2 = nI v from hv) ?_
  refine lv_icmp_ne (tgt := 12) X.1 X.2.1 dX7_slops_5 (by decide) (fun c5 => ?_) (fun c5 => ?_)
  · have n5 : ¬ y = v := gq_ne c5 h0 (Eq.refl (nI v)) (by omega) (by omega)
    refine lv_iconst (v := 0) X.1 X.2.1 dX7_slops_12 (by decide) ?_
    exact g_iret (f := fun u => u) (z, T, I, R) X hr hlk hK hP hS dX7_slops_13 ⟨(by rw [if_neg n5]; rfl), rfl⟩
  · have n5 : y = v := gq_eq c5 h0 (Eq.refl (nI v)) (by omega) (by omega)
    refine lv_iconst (v := 1) X.1 X.2.1 dX7_slops_8 (by decide) ?_
    refine lv_goto (tgt := 13) X.1 X.2.1 dX7_slops_9 (by decide) ?_
    exact g_iret (f := fun u => u) (z, T, I, R) X hr hlk hK hP hS dX7_slops_13 ⟨(by rw [if_pos n5]; rfl), rfl⟩

set_option maxHeartbeats 4000000 in
set_option maxRecDepth 100000 in
/-- v_X3_isNarrow -/
theorem v_X3_isNarrow (hκ : κ ≤ 6) (ht : T b = (mcl κ + 8, 0)) (hv : I b 2 = nI v) {a0 : Int32} {b1 : Nat} (h0 : a0 = nI b1) (hb1 : b1 < 2 ^ 31) (hv9 : v < 2 ^ 31) : Met l yX3_isNarrow wsX3_isNarrow ({ frames := 0, cells := 0, slots := 0, locals := 0 }) (va_Pc [.ref b, .int a0] (gW0 s0 D cy B (z, T, I, R))) (va_Qi (fun r u => r = gt (0 < b1 ∧ b1 < v) ∧ (z, T, I, R) = u) (fun u t => gW1 D cy B u t) (gA B)) 0 0 (gA B) := by
  refine g_met (maxL := 2) (ret := (some .boolean)) (by decide) rfl (Nat.le_of_ble_eq_true rfl) (fun p e s m args below meth c ls X hr hlk hnm hK hP hC hS hl => ?_)
  have hl : lv_has ls 2 [(0, .ref b), (1, .int a0)] := hl
  have hP : gP D cy B z T I R s.heap := hP
  have hB : B ≤ s.heap.size := by rw [hP.1]; exact hP.2.1
  have hin7 : ∀ κ, κ ≤ 6 → ∀ w ∈ mws κ, w ∈ wsX3_isNarrow := fun κ hκ => by
    rcases k7 hκ with rfl | rfl | rfl | rfl | rfl | rfl | rfl
    · exact fun _ h => List.mem_cons_of_mem _ (List.mem_append_left _ (List.mem_append_left _ (List.mem_append_left _ (List.mem_append_left _ (List.mem_append_right _ h)))))
    · exact fun _ h => List.mem_cons_of_mem _ (List.mem_append_left _ (List.mem_append_left _ (List.mem_append_left _ (List.mem_append_left _ (List.mem_append_left _ (List.mem_append_left _ (List.mem_append_right _ h)))))))
    · exact fun _ h => List.mem_cons_of_mem _ (List.mem_append_right _ h)
    · exact fun _ h => List.mem_cons_of_mem _ (List.mem_append_left _ (List.mem_append_left _ (List.mem_append_right _ h)))
    · exact fun _ h => List.mem_cons_of_mem _ (List.mem_append_left _ (List.mem_append_left _ (List.mem_append_left _ (List.mem_append_left _ (List.mem_append_left _ (List.mem_append_right _ h))))))
    · exact fun _ h => List.mem_cons_of_mem _ (List.mem_append_left _ (List.mem_append_right _ h))
    · exact fun _ h => List.mem_cons_of_mem _ (List.mem_append_left _ (List.mem_append_left _ (List.mem_append_left _ (List.mem_append_right _ h))))
  have k7 : Cond.fieldLink RX3 7 "BarrowPlank$Off" "v" "I" ∈ wsX3_isNarrow := by decide +kernel
  refine lv_iload_n X.1 X.2.1 dX3_isNarrow_0 rfl (lv_at hl 1 rfl) ?_
  refine lv_if_le (tgt := 16) X.1 X.2.1 dX3_isNarrow_1 (by decide) (fun c1 => ?_) (fun c1 => ?_)
  · have n1 : b1 ≤ 0 := gq_le c1 h0 (show (0 : Int32) = nI 0 from rfl) (by omega) (by omega)
    refine lv_iconst (v := 0) X.1 X.2.1 dX3_isNarrow_16 (by decide) ?_
    exact g_zret (f := fun u => u) (z, T, I, R) X hr hlk hK hP hS dX3_isNarrow_17 rfl ⟨(by rw [gt_no (by omega)]), rfl⟩
  · have n1 : 0 < b1 := gq_nle c1 h0 (show (0 : Int32) = nI 0 from rfl) (by omega) (by omega)
    refine lv_iload_n X.1 X.2.1 dX3_isNarrow_4 rfl (lv_at hl 1 rfl) ?_
    refine lv_aload_n X.1 X.2.1 dX3_isNarrow_5 rfl (lv_at hl 0 rfl) ?_
    refine g_mget 2 (by decide) hκ X hK hP ht (hin7 κ hκ) k7 (u_same (X.2.2.2.2 (.sameField "BarrowPlank$Off" "BarrowPlank$Man" "v" "I") (by decide +kernel))) dX3_isNarrow_6 (show I b 2 = nI v from hv) ?_
    refine lv_icmp_ge (tgt := 16) X.1 X.2.1 dX3_isNarrow_9 (by decide) (fun c9 => ?_) (fun c9 => ?_)
    · have n9 : v ≤ b1 := gq_le c9 (Eq.refl (nI v)) h0 (by omega) (by omega)
      refine lv_iconst (v := 0) X.1 X.2.1 dX3_isNarrow_16 (by decide) ?_
      exact g_zret (f := fun u => u) (z, T, I, R) X hr hlk hK hP hS dX3_isNarrow_17 rfl ⟨(by rw [gt_no (by omega)]), rfl⟩
    · have n9 : b1 < v := gq_nle c9 (Eq.refl (nI v)) h0 (by omega) (by omega)
      refine lv_iconst (v := 1) X.1 X.2.1 dX3_isNarrow_12 (by decide) ?_
      refine lv_goto (tgt := 17) X.1 X.2.1 dX3_isNarrow_13 (by decide) ?_
      exact g_zret (f := fun u => u) (z, T, I, R) X hr hlk hK hP hS dX3_isNarrow_17 rfl ⟨(by rw [gt_yes (by omega)]), rfl⟩

set_option maxHeartbeats 4000000 in
set_option maxRecDepth 100000 in
/-- v_X3_slips -/
theorem v_X3_slips (hκ : κ ≤ 6) (ht : T b = (mcl κ + 8, 0)) (hv : I b 2 = nI v) {a0 : Int32} {b1 : Nat} (h0 : a0 = nI b1) (hb1 : b1 < 2 ^ 31) (hv9 : v < 2 ^ 31) (h6 : κ = 6) : Met l yX3_slips wsX3_slips ({ frames := 1, cells := 0, slots := 0, locals := 21 }) (va_Pc [.ref b, .int a0] (gW0 s0 D cy B (z, T, I, R))) (va_Qi (fun r u => r = nI (if 0 < b1 ∧ b1 < v then 20 else 0) ∧ (z, T, I, R) = u) (fun u t => gW1 D cy B u t) (gA B)) 0 0 (gA B) := by
  refine g_met (maxL := 2) (ret := (some .int)) (by decide) rfl (Nat.le_of_ble_eq_true rfl) (fun p e s m args below meth c ls X hr hlk hnm hK hP hC hS hl => ?_)
  have hl : lv_has ls 2 [(0, .ref b), (1, .int a0)] := hl
  have hP : gP D cy B z T I R s.heap := hP
  have hB : B ≤ s.heap.size := by rw [hP.1]; exact hP.2.1
  have ht6 : T b = (5 + 8, 0) := by rw [ht, h6]; rfl
  refine lv_aload_n X.1 X.2.1 dX3_slips_0 rfl (lv_at hl 0 rfl) ?_
  refine lv_iload_n X.1 X.2.1 dX3_slips_1 rfl (lv_at hl 1 rfl) ?_
  refine g_run_i (f := fun u => u) (g_runV (k := 5) [.int a0] X hK hP hS hC hB (v_X3_isNarrow hκ ht hv h0 hb1 hv9) (cwV 1 X.2.2.2.2 gX3_slips_X3_isNarrow rfl rfl rfl (by decide +kernel) ⟨Nat.le_of_ble_eq_true rfl, Nat.le_of_ble_eq_true rfl⟩) ht6 rfl rfl hl.1 rfl (Nat.le_of_ble_eq_true rfl) dX3_slips_2 (by exact ⟨Nat.zero_le _, Nat.zero_le _⟩)) hS (fun r u H locs hq hP hS => ?_)
  obtain ⟨rfl, rfl⟩ := hq
  have hP : gP D cy B z T I R H := hP
  refine lv_if_eq (tgt := 13) X.1 X.2.1 dX3_slips_5 (by decide) (fun c5 => ?_) (fun c5 => ?_)
  · refine lv_iconst (v := 0) X.1 X.2.1 dX3_slips_13 (by decide) ?_
    exact g_iret (f := fun u => u) (z, T, I, R) X hr hlk hK hP hS dX3_slips_14 ⟨(by rw [if_neg (gt_0 c5)]; rfl), rfl⟩
  · refine lv_bipush (v := 20) X.1 X.2.1 dX3_slips_8 (by decide) ?_
    refine lv_goto (tgt := 14) X.1 X.2.1 dX3_slips_10 (by decide) ?_
    exact g_iret (f := fun u => u) (z, T, I, R) X hr hlk hK hP hS dX3_slips_14 ⟨(by rw [if_pos (gt_1 c5)]; rfl), rfl⟩

set_option maxHeartbeats 4000000 in
set_option maxRecDepth 100000 in
/-- v_X3_tips -/
theorem v_X3_tips (hκ : κ ≤ 6) (ht : T b = (mcl κ + 8, 0)) (hv : I b 2 = nI v) {a0 a1 : Int32} {q b1 : Nat} (h0 : a0 = nI q) (h1 : a1 = nI b1) (hb1 : b1 < 2 ^ 31) (hv9 : v < 2 ^ 31) (hq9 : q < 2 ^ 31) (h6 : κ = 6) : Met l yX3_tips wsX3_tips ({ frames := 1, cells := 0, slots := 0, locals := 21 }) (va_Pc [.ref b, .int a0, .int a1] (gW0 s0 D cy B (z, T, I, R))) (va_Qi (fun r u => r = nI (if 0 < b1 ∧ b1 < v then q / 2 else 0) ∧ (z, T, I, R) = u) (fun u t => gW1 D cy B u t) (gA B)) 0 0 (gA B) := by
  refine g_met (maxL := 3) (ret := (some .int)) (by decide) rfl (Nat.le_of_ble_eq_true rfl) (fun p e s m args below meth c ls X hr hlk hnm hK hP hC hS hl => ?_)
  have hl : lv_has ls 3 [(0, .ref b), (1, .int a0), (2, .int a1)] := hl
  have hP : gP D cy B z T I R s.heap := hP
  have hB : B ≤ s.heap.size := by rw [hP.1]; exact hP.2.1
  have ht6 : T b = (5 + 8, 0) := by rw [ht, h6]; rfl
  refine lv_aload_n X.1 X.2.1 dX3_tips_0 rfl (lv_at hl 0 rfl) ?_
  refine lv_iload_n X.1 X.2.1 dX3_tips_1 rfl (lv_at hl 2 rfl) ?_
  refine g_run_i (f := fun u => u) (g_runV (k := 5) [.int a1] X hK hP hS hC hB (v_X3_isNarrow hκ ht hv h1 hb1 hv9) (cwV 1 X.2.2.2.2 gX3_tips_X3_isNarrow rfl rfl rfl (by decide +kernel) ⟨Nat.le_of_ble_eq_true rfl, Nat.le_of_ble_eq_true rfl⟩) ht6 rfl rfl hl.1 rfl (Nat.le_of_ble_eq_true rfl) dX3_tips_2 (by exact ⟨Nat.zero_le _, Nat.zero_le _⟩)) hS (fun r u H locs hq hP hS => ?_)
  obtain ⟨rfl, rfl⟩ := hq
  have hP : gP D cy B z T I R H := hP
  refine lv_if_eq (tgt := 14) X.1 X.2.1 dX3_tips_5 (by decide) (fun c5 => ?_) (fun c5 => ?_)
  · refine lv_iconst (v := 0) X.1 X.2.1 dX3_tips_14 (by decide) ?_
    exact g_iret (f := fun u => u) (z, T, I, R) X hr hlk hK hP hS dX3_tips_15 ⟨(by rw [if_neg (gt_0 c5)]; rfl), rfl⟩
  · refine lv_iload_n X.1 X.2.1 dX3_tips_8 rfl (lv_at hl 1 rfl) ?_
    refine lv_iconst (v := 2) X.1 X.2.1 dX3_tips_9 (by decide) ?_
    refine lv_idiv X.1 X.2.1 dX3_tips_10 (by decide) ?_
    refine lv_goto (tgt := 15) X.1 X.2.1 dX3_tips_11 (by decide) ?_
    exact g_iret (f := fun u => u) (z, T, I, R) X hr hlk hK hP hS dX3_tips_15 ⟨(by rw [if_pos (gt_1 c5)]; exact (gn_div h0 (show (2 : Int32) = nI 2 from rfl) (by omega) (by omega) (by omega))), rfl⟩

end PA