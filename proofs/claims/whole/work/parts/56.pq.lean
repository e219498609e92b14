section PQ
variable {l : Launch} {s0 : State} {D : va_G} {cy : Nat → ClassId} {B z : Nat} {T : Nat → Nat × Nat} {I : Nat → Nat → Int32} {R : Nat → Nat → Option Nat} {q nw kp tr : Nat} {σ : Nat → Nat} {K ti sh : Nat} {fl : List Nat}
theorem tu_e {ld t k μ ν ea eb fb : Nat} (hk : k < 200) (h : t < max ea fb + sSe fl sh σ μ ld) : sTu fl ti sh ld t (200 - k) μ ν σ ea eb fb = σ := by
  rw [show 200 - k = (200 - (k + 1)) + 1 by omega]
  exact if_pos h
theorem tu_s {ld t k μ ν ea eb fb : Nat} (hk : k < 200) (h : ¬ t < max ea fb + sSe fl sh σ μ ld) : sTu fl ti sh ld t (200 - k) μ ν σ ea eb fb = sTu fl ti sh ld t (200 - (k + 1)) ν μ (sGo fl ti sh σ μ ld) eb (max ea fb + sSe fl sh σ μ ld) (max ea fb + sFi sh σ μ ld) := by
  rw [show 200 - k = (200 - (k + 1)) + 1 by omega]
  exact if_neg h
set_option maxHeartbeats 4000000 in
set_option maxRecDepth 100000 in
/-- t_turns_nn -/
theorem t_turns_nn (hTp : cTop q nw kp tr T R) (hNw : cNw q nw T I R σ fl ti sh) (hG : sGd fl ti sh) (hb : sBd σ K) {v : Int32} (hno : ¬ (0 ≤ v ∧ v ≤ nI (σ 38) - 1)) {v2 : Int32} (hno2 : ¬ (0 ≤ v2 ∧ v2 ≤ nI (σ 38) - 1)) (x y : Int32) : Met l yX11_turns wsX11_turns ({ frames := 1, cells := 0, slots := 0, locals := 21 }) (va_Pc [.ref q, .int v, .int v2, .int x, .int y] (gW0 s0 D cy B (z, T, I, R))) (va_Qi (fun r u => r = -1 ∧ (z, T, I, R) = u) (fun u t => gW1 D cy B u t) (gA B)) 0 0 (gA B) := by
  refine g_met (maxL := 15) (ret := (some .int)) (by decide) rfl (Nat.le_of_ble_eq_true rfl) (fun p e s m args below meth c ls X hr hlk hnm hK hP hC hS hl => ?_)
  have hl : lv_has ls 15 [(0, .ref q), (1, .int v), (2, .int v2), (3, .int x), (4, .int y)] := hl
  have hP : gP D cy B z T I R s.heap := hP
  have hB : B ≤ s.heap.size := by rw [hP.1]; exact hP.2.1
  have hinRX11 : ∀ w ∈ wsX110, w ∈ wsX11_turns := fun _ h => List.mem_cons_of_mem _ (List.mem_append_left _ (List.mem_append_left _ (List.mem_append_left _ (List.mem_append_left _ (List.mem_append_left _ (List.mem_append_left _ (List.mem_append_left _ (List.mem_append_left _ (List.mem_append_left _ (List.mem_append_left _ (List.mem_append_right _ h)))))))))))
  have k17 : Cond.fieldLink RX11 17 "BarrowPlank" "now" "LBarrowPlank$Works;" ∈ wsX11_turns := by decide +kernel
  have k26 : Cond.fieldLink RX11 26 "BarrowPlank" "trial" "LBarrowPlank$Works;" ∈ wsX11_turns := by decide +kernel
  have k83 : Cond.fieldLink RX11 83 "BarrowPlank$Works" "over" "I" ∈ wsX11_turns := by decide +kernel
  have k147 : Cond.fieldLink RX11 147 "BarrowPlank$Trip" "seconds" "I" ∈ wsX11_turns := by decide +kernel
  have k182 : Cond.fieldLink RX11 182 "BarrowPlank$Trip" "filling" "I" ∈ wsX11_turns := by decide +kernel
  have hTp0 := hTp
  have hNw0 := hNw
  obtain ⟨hnw, hkp, htr, hTq, hR0, hR1, hR2, hR3, hR4, hN, hKp, hTr, hTrd, hTl⟩ := hTp
  obtain ⟨hA, hBb, hmen, hme, a, hsR, hst, hsi, hfa⟩ := hNw
  have h38 := hb.2.2.2.2.1
  have h0 := hb.1
  refine lv_aload_n X.1 X.2.1 dX11_turns_0 rfl (lv_at hl 0 rfl) ?_
  refine g_getr 13 0 X hK hP hTq rfl hinRX11 rfl (by decide) k17 (fun _ h => h) dX11_turns_1 (show va_rf (R q 0) = .ref nw from by rw [hR0]; rfl) ?_
  refine lv_iload_n X.1 X.2.1 dX11_turns_4 rfl (lv_at hl 1 rfl) ?_
  refine g_run_q (f := fun u => u) (g_runV (k := 12) [.int v] X hK hP hS hC hB (d_find_n (σ := σ) hN (hA.2.2.1) h38 hno) (cwV 1 X.2.2.2.2 gX11_turns_X10_find rfl rfl rfl (by decide +kernel) ⟨Nat.le_of_ble_eq_true rfl, Nat.le_of_ble_eq_true rfl⟩) hN.t0 rfl rfl hl.1 rfl (Nat.le_of_ble_eq_true rfl) dX11_turns_5 (by exact ⟨Nat.zero_le _, Nat.zero_le _⟩)) hS (fun r u H locs hq hP hS => ?_)
  obtain ⟨rfl, rfl⟩ := hq
  have hP : gP D cy B z T I R H := hP
  refine lv_astoreN (lv' := [(5, .null), (0, .ref q), (1, .int v), (2, .int v2), (3, .int x), (4, .int y)]) X.1 X.2.1 dX11_turns_8 hl (by decide) rfl (fun ls hl => ?_)
  refine lv_aload_n X.1 X.2.1 dX11_turns_10 rfl (lv_at hl 1 rfl) ?_
  refine g_getr 13 0 X hK hP hTq rfl hinRX11 rfl (by decide) k17 (fun _ h => h) dX11_turns_11 (show va_rf (R q 0) = .ref nw from by rw [hR0]; rfl) ?_
  refine lv_iload_n X.1 X.2.1 dX11_turns_14 rfl (lv_at hl 3 rfl) ?_
  refine g_run_q (f := fun u => u) (g_runV (k := 12) [.int v2] X hK hP hS hC hB (d_find_n (σ := σ) hN (hA.2.2.1) h38 hno2) (cwV 1 X.2.2.2.2 gX11_turns_X10_find rfl rfl rfl (by decide +kernel) ⟨Nat.le_of_ble_eq_true rfl, Nat.le_of_ble_eq_true rfl⟩) hN.t0 rfl rfl hl.1 rfl (Nat.le_of_ble_eq_true rfl) dX11_turns_15 (by exact ⟨Nat.zero_le _, Nat.zero_le _⟩)) hS (fun r u H locs hq hP hS => ?_)
  obtain ⟨rfl, rfl⟩ := hq
  have hP : gP D cy B z T I R H := hP
  refine lv_astoreN (lv' := [(6, .null), (5, .null), (0, .ref q), (1, .int v), (2, .int v2), (3, .int x), (4, .int y)]) X.1 X.2.1 dX11_turns_18 hl (by decide) rfl (fun ls hl => ?_)
  refine lv_aloadN X.1 X.2.1 dX11_turns_20 (lv_at hl 1 rfl) ?_
  refine lv_ifnullN (tgt := 30) X.1 X.2.1 dX11_turns_22 (by decide) ?_
  refine lv_iconst (v := (-1)) X.1 X.2.1 dX11_turns_30 (by decide) ?_
  exact g_iret (f := fun u => u) (z, T, I, R) X hr hlk hK hP hS dX11_turns_31 ⟨rfl, rfl⟩

set_option maxHeartbeats 4000000 in
set_option maxRecDepth 100000 in
/-- t_turns_ny -/
theorem t_turns_ny (hTp : cTop q nw kp tr T R) (hNw : cNw q nw T I R σ fl ti sh) (hG : sGd fl ti sh) (hb : sBd σ K) {ν : Nat} (hνn : ν < σ 38) {v : Int32} (hno : ¬ (0 ≤ v ∧ v ≤ nI (σ 38) - 1)) (x y : Int32) : Met l yX11_turns wsX11_turns ({ frames := 1, cells := 0, slots := 0, locals := 21 }) (va_Pc [.ref q, .int v, .int (nI ν), .int x, .int y] (gW0 s0 D cy B (z, T, I, R))) (va_Qi (fun r u => r = -1 ∧ (z, T, I, R) = u) (fun u t => gW1 D cy B u t) (gA B)) 0 0 (gA B) := by
  refine g_met (maxL := 15) (ret := (some .int)) (by decide) rfl (Nat.le_of_ble_eq_true rfl) (fun p e s m args below meth c ls X hr hlk hnm hK hP hC hS hl => ?_)
  have hl : lv_has ls 15 [(0, .ref q), (1, .int v), (2, .int (nI ν)), (3, .int x), (4, .int y)] := hl
  have hP : gP D cy B z T I R s.heap := hP
  have hB : B ≤ s.heap.size := by rw [hP.1]; exact hP.2.1
  have hinRX11 : ∀ w ∈ wsX110, w ∈ wsX11_turns := fun _ h => List.mem_cons_of_mem _ (List.mem_append_left _ (List.mem_append_left _ (List.mem_append_left _ (List.mem_append_left _ (List.mem_append_left _ (List.mem_append_left _ (List.mem_append_left _ (List.mem_append_left _ (List.mem_append_left _ (List.mem_append_left _ (List.mem_append_right _ h)))))))))))
  have k17 : Cond.fieldLink RX11 17 "BarrowPlank" "now" "LBarrowPlank$Works;" ∈ wsX11_turns := by decide +kernel
  have k26 : Cond.fieldLink RX11 26 "BarrowPlank" "trial" "LBarrowPlank$Works;" ∈ wsX11_turns := by decide +kernel
  have k83 : Cond.fieldLink RX11 83 "BarrowPlank$Works" "over" "I" ∈ wsX11_turns := by decide +kernel
  have k147 : Cond.fieldLink RX11 147 "BarrowPlank$Trip" "seconds" "I" ∈ wsX11_turns := by decide +kernel
  have k182 : Cond.fieldLink RX11 182 "BarrowPlank$Trip" "filling" "I" ∈ wsX11_turns := by decide +kernel
  have hTp0 := hTp
  have hNw0 := hNw
  obtain ⟨hnw, hkp, htr, hTq, hR0, hR1, hR2, hR3, hR4, hN, hKp, hTr, hTrd, hTl⟩ := hTp
  obtain ⟨hA, hBb, hmen, hme, a, hsR, hst, hsi, hfa⟩ := hNw
  have h38 := hb.2.2.2.2.1
  have h0 := hb.1
  have hν : ν < 4 := Nat.lt_of_lt_of_le hνn h38
  obtain ⟨b2, hbm2, hm2, hb652⟩ := hmen ν hνn
  refine lv_aload_n X.1 X.2.1 dX11_turns_0 rfl (lv_at hl 0 rfl) ?_
  refine g_getr 13 0 X hK hP hTq rfl hinRX11 rfl (by decide) k17 (fun _ h => h) dX11_turns_1 (show va_rf (R q 0) = .ref nw from by rw [hR0]; rfl) ?_
  refine lv_iload_n X.1 X.2.1 dX11_turns_4 rfl (lv_at hl 1 rfl) ?_
  refine g_run_q (f := fun u => u) (g_runV (k := 12) [.int v] X hK hP hS hC hB (d_find_n (σ := σ) hN (hA.2.2.1) h38 hno) (cwV 1 X.2.2.2.2 gX11_turns_X10_find rfl rfl rfl (by decide +kernel) ⟨Nat.le_of_ble_eq_true rfl, Nat.le_of_ble_eq_true rfl⟩) hN.t0 rfl rfl hl.1 rfl (Nat.le_of_ble_eq_true rfl) dX11_turns_5 (by exact ⟨Nat.zero_le _, Nat.zero_le _⟩)) hS (fun r u H locs hq hP hS => ?_)
  obtain ⟨rfl, rfl⟩ := hq
  have hP : gP D cy B z T I R H := hP
  refine lv_astoreN (lv' := [(5, .null), (0, .ref q), (1, .int v), (2, .int (nI ν)), (3, .int x), (4, .int y)]) X.1 X.2.1 dX11_turns_8 hl (by decide) rfl (fun ls hl => ?_)
  refine lv_aload_n X.1 X.2.1 dX11_turns_10 rfl (lv_at hl 1 rfl) ?_
  refine g_getr 13 0 X hK hP hTq rfl hinRX11 rfl (by decide) k17 (fun _ h => h) dX11_turns_11 (show va_rf (R q 0) = .ref nw from by rw [hR0]; rfl) ?_
  refine lv_iload_n X.1 X.2.1 dX11_turns_14 rfl (lv_at hl 3 rfl) ?_
  refine g_run_q (f := fun u => u) (g_runV (k := 12) [.int (nI ν)] X hK hP hS hC hB (d_find (σ := σ) hN (hA.2.2.1) h38 hνn hbm2) (cwV 1 X.2.2.2.2 gX11_turns_X10_find rfl rfl rfl (by decide +kernel) ⟨Nat.le_of_ble_eq_true rfl, Nat.le_of_ble_eq_true rfl⟩) hN.t0 rfl rfl hl.1 rfl (Nat.le_of_ble_eq_true rfl) dX11_turns_15 (by exact ⟨Nat.zero_le _, Nat.zero_le _⟩)) hS (fun r u H locs hq hP hS => ?_)
  obtain ⟨rfl, rfl⟩ := hq
  have hP : gP D cy B z T I R H := hP
  refine lv_astore (lv' := [(6, .ref b2), (5, .null), (0, .ref q), (1, .int v), (2, .int (nI ν)), (3, .int x), (4, .int y)]) X.1 X.2.1 dX11_turns_18 hl (by decide) rfl (fun ls hl => ?_)
  refine lv_aloadN X.1 X.2.1 dX11_turns_20 (lv_at hl 1 rfl) ?_
  refine lv_ifnullN (tgt := 30) X.1 X.2.1 dX11_turns_22 (by decide) ?_
  refine lv_iconst (v := (-1)) X.1 X.2.1 dX11_turns_30 (by decide) ?_
  exact g_iret (f := fun u => u) (z, T, I, R) X hr hlk hK hP hS dX11_turns_31 ⟨rfl, rfl⟩

set_option maxHeartbeats 4000000 in
set_option maxRecDepth 100000 in
/-- t_turns_yn -/
theorem t_turns_yn (hTp : cTop q nw kp tr T R) (hNw : cNw q nw T I R σ fl ti sh) (hG : sGd fl ti sh) (hb : sBd σ K) {μ : Nat} (hμn : μ < σ 38) {v : Int32} (hno : ¬ (0 ≤ v ∧ v ≤ nI (σ 38) - 1)) (x y : Int32) : Met l yX11_turns wsX11_turns ({ frames := 1, cells := 0, slots := 0, locals := 21 }) (va_Pc [.ref q, .int (nI μ), .int v, .int x, .int y] (gW0 s0 D cy B (z, T, I, R))) (va_Qi (fun r u => r = -1 ∧ (z, T, I, R) = u) (fun u t => gW1 D cy B u t) (gA B)) 0 0 (gA B) := by
  refine g_met (maxL := 15) (ret := (some .int)) (by decide) rfl (Nat.le_of_ble_eq_true rfl) (fun p e s m args below meth c ls X hr hlk hnm hK hP hC hS hl => ?_)
  have hl : lv_has ls 15 [(0, .ref q), (1, .int (nI μ)), (2, .int v), (3, .int x), (4, .int y)] := hl
  have hP : gP D cy B z T I R s.heap := hP
  have hB : B ≤ s.heap.size := by rw [hP.1]; exact hP.2.1
  have hinRX11 : ∀ w ∈ wsX110, w ∈ wsX11_turns := fun _ h => List.mem_cons_of_mem _ (List.mem_append_left _ (List.mem_append_left _ (List.mem_append_left _ (List.mem_append_left _ (List.mem_append_left _ (List.mem_append_left _ (List.mem_append_left _ (List.mem_append_left _ (List.mem_append_left _ (List.mem_append_left _ (List.mem_append_right _ h)))))))))))
  have k17 : Cond.fieldLink RX11 17 "BarrowPlank" "now" "LBarrowPlank$Works;" ∈ wsX11_turns := by decide +kernel
  have k26 : Cond.fieldLink RX11 26 "BarrowPlank" "trial" "LBarrowPlank$Works;" ∈ wsX11_turns := by decide +kernel
  have k83 : Cond.fieldLink RX11 83 "BarrowPlank$Works" "over" "I" ∈ wsX11_turns := by decide +kernel
  have k147 : Cond.fieldLink RX11 147 "BarrowPlank$Trip" "seconds" "I" ∈ wsX11_turns := by decide +kernel
  have k182 : Cond.fieldLink RX11 182 "BarrowPlank$Trip" "filling" "I" ∈ wsX11_turns := by decide +kernel
  have hTp0 := hTp
  have hNw0 := hNw
  obtain ⟨hnw, hkp, htr, hTq, hR0, hR1, hR2, hR3, hR4, hN, hKp, hTr, hTrd, hTl⟩ := hTp
  obtain ⟨hA, hBb, hmen, hme, a, hsR, hst, hsi, hfa⟩ := hNw
  have h38 := hb.2.2.2.2.1
  have h0 := hb.1
  have hμ : μ < 4 := Nat.lt_of_lt_of_le hμn h38
  obtain ⟨b, hbm, hm, hb65⟩ := hmen μ hμn
  obtain ⟨hk6, hv9, hs20⟩ := hb.2.2.2.2.2.2.2.2.1 μ hμ
  have ht9 := hb.2.2.1 μ hμ
  refine lv_aload_n X.1 X.2.1 dX11_turns_0 rfl (lv_at hl 0 rfl) ?_
  refine g_getr 13 0 X hK hP hTq rfl hinRX11 rfl (by decide) k17 (fun _ h => h) dX11_turns_1 (show va_rf (R q 0) = .ref nw from by rw [hR0]; rfl) ?_
  refine lv_iload_n X.1 X.2.1 dX11_turns_4 rfl (lv_at hl 1 rfl) ?_
  refine g_run_q (f := fun u => u) (g_runV (k := 12) [.int (nI μ)] X hK hP hS hC hB (d_find (σ := σ) hN (hA.2.2.1) h38 hμn hbm) (cwV 1 X.2.2.2.2 gX11_turns_X10_find rfl rfl rfl (by decide +kernel) ⟨Nat.le_of_ble_eq_true rfl, Nat.le_of_ble_eq_true rfl⟩) hN.t0 rfl rfl hl.1 rfl (Nat.le_of_ble_eq_true rfl) dX11_turns_5 (by exact ⟨Nat.zero_le _, Nat.zero_le _⟩)) hS (fun r u H locs hq hP hS => ?_)
  obtain ⟨rfl, rfl⟩ := hq
  have hP : gP D cy B z T I R H := hP
  refine lv_astore (lv' := [(5, .ref b), (0, .ref q), (1, .int (nI μ)), (2, .int v), (3, .int x), (4, .int y)]) X.1 X.2.1 dX11_turns_8 hl (by decide) rfl (fun ls hl => ?_)
  refine lv_aload_n X.1 X.2.1 dX11_turns_10 rfl (lv_at hl 1 rfl) ?_
  refine g_getr 13 0 X hK hP hTq rfl hinRX11 rfl (by decide) k17 (fun _ h => h) dX11_turns_11 (show va_rf (R q 0) = .ref nw from by rw [hR0]; rfl) ?_
  refine lv_iload_n X.1 X.2.1 dX11_turns_14 rfl (lv_at hl 3 rfl) ?_
  refine g_run_q (f := fun u => u) (g_runV (k := 12) [.int v] X hK hP hS hC hB (d_find_n (σ := σ) hN (hA.2.2.1) h38 hno) (cwV 1 X.2.2.2.2 gX11_turns_X10_find rfl rfl rfl (by decide +kernel) ⟨Nat.le_of_ble_eq_true rfl, Nat.le_of_ble_eq_true rfl⟩) hN.t0 rfl rfl hl.1 rfl (Nat.le_of_ble_eq_true rfl) dX11_turns_15 (by exact ⟨Nat.zero_le _, Nat.zero_le _⟩)) hS (fun r u H locs hq hP hS => ?_)
  obtain ⟨rfl, rfl⟩ := hq
  have hP : gP D cy B z T I R H := hP
  refine lv_astoreN (lv' := [(6, .null), (5, .ref b), (0, .ref q), (1, .int (nI μ)), (2, .int v), (3, .int x), (4, .int y)]) X.1 X.2.1 dX11_turns_18 hl (by decide) rfl (fun ls hl => ?_)
  refine lv_aload X.1 X.2.1 dX11_turns_20 (lv_at hl 1 rfl) ?_
  refine lv_ifnull X.1 X.2.1 dX11_turns_22 ?_
  refine lv_aloadN X.1 X.2.1 dX11_turns_25 (lv_at hl 0 rfl) ?_
  refine lv_ifnonnullN X.1 X.2.1 dX11_turns_27 ?_
  refine lv_iconst (v := (-1)) X.1 X.2.1 dX11_turns_30 (by decide) ?_
  exact g_iret (f := fun u => u) (z, T, I, R) X hr hlk hK hP hS dX11_turns_31 ⟨rfl, rfl⟩

set_option maxHeartbeats 4000000 in
set_option maxRecDepth 100000 in
/-- t_turns_b -/
theorem t_turns_b (hTp : cTop q nw kp tr T R) (hNw : cNw q nw T I R σ fl ti sh) (hG : sGd fl ti sh) (hb : sBd σ K) {μ : Nat} (hμn : μ < σ 38) {ν : Nat} (hνn : ν < σ 38) {x y : Int32} (hbad : μ = ν ∨ ¬ (1 ≤ x ∧ x ≤ 20) ∨ ¬ (0 ≤ y ∧ y ≤ 999)) : Met l yX11_turns wsX11_turns ({ frames := 2, cells := 0, slots := 0, locals := 42 }) (va_Pc [.ref q, .int (nI μ), .int (nI ν), .int x, .int y] (gW0 s0 D cy B (z, T, I, R))) (va_Qi (fun r u => r = -2 ∧ (z, T, I, R) = u) (fun u t => gW1 D cy B u t) (gA B)) 0 0 (gA B) := by
  refine g_met (maxL := 15) (ret := (some .int)) (by decide) rfl (Nat.le_of_ble_eq_true rfl) (fun p e s m args below meth c ls X hr hlk hnm hK hP hC hS hl => ?_)
  have hl : lv_has ls 15 [(0, .ref q), (1, .int (nI μ)), (2, .int (nI ν)), (3, .int x), (4, .int y)] := hl
  have hP : gP D cy B z T I R s.heap := hP
  have hB : B ≤ s.heap.size := by rw [hP.1]; exact hP.2.1
  have hinRX11 : ∀ w ∈ wsX110, w ∈ wsX11_turns := fun _ h => List.mem_cons_of_mem _ (List.mem_append_left _ (List.mem_append_left _ (List.mem_append_left _ (List.mem_append_left _ (List.mem_append_left _ (List.mem_append_left _ (List.mem_append_left _ (List.mem_append_left _ (List.mem_append_left _ (List.mem_append_left _ (List.mem_append_right _ h)))))))))))
  have hin7 : ∀ κ, κ ≤ 6 → ∀ w ∈ mws κ, w ∈ wsX11_turns := fun κ hκ => by
    rcases k7 hκ with rfl | rfl | rfl | rfl | rfl | rfl | rfl
    · exact fun _ h => List.mem_cons_of_mem _ (List.mem_append_left _ (List.mem_append_left _ (List.mem_append_left _ (List.mem_append_left _ (List.mem_append_left _ (List.mem_append_right _ h))))))
    · exact fun _ h => List.mem_cons_of_mem _ (List.mem_append_left _ (List.mem_append_left _ (List.mem_append_left _ (List.mem_append_left _ (List.mem_append_left _ (List.mem_append_left _ (List.mem_append_left _ (List.mem_append_right _ h))))))))
    · exact fun _ h => List.mem_cons_of_mem _ (List.mem_append_left _ (List.mem_append_right _ h))
    · exact fun _ h => List.mem_cons_of_mem _ (List.mem_append_left _ (List.mem_append_left _ (List.mem_append_left _ (List.mem_append_right _ h))))
    · exact fun _ h => List.mem_cons_of_mem _ (List.mem_append_left _ (List.mem_append_left _ (List.mem_append_left _ (List.mem_append_left _ (List.mem_append_left _ (List.mem_append_left _ (List.mem_append_right _ h)))))))
    · exact fun _ h => List.mem_cons_of_mem _ (List.mem_append_left _ (List.mem_append_left _ (List.mem_append_right _ h)))
    · exact fun _ h => List.mem_cons_of_mem _ (List.mem_append_left _ (List.mem_append_left _ (List.mem_append_left _ (List.mem_append_left _ (List.mem_append_right _ h)))))
  have k17 : Cond.fieldLink RX11 17 "BarrowPlank" "now" "LBarrowPlank$Works;" ∈ wsX11_turns := by decide +kernel
  have k26 : Cond.fieldLink RX11 26 "BarrowPlank" "trial" "LBarrowPlank$Works;" ∈ wsX11_turns := by decide +kernel
  have k83 : Cond.fieldLink RX11 83 "BarrowPlank$Works" "over" "I" ∈ wsX11_turns := by decide +kernel
  have k147 : Cond.fieldLink RX11 147 "BarrowPlank$Trip" "seconds" "I" ∈ wsX11_turns := by decide +kernel
  have k182 : Cond.fieldLink RX11 182 "BarrowPlank$Trip" "filling" "I" ∈ wsX11_turns := by decide +kernel
  have hTp0 := hTp
  have hNw0 := hNw
  obtain ⟨hnw, hkp, htr, hTq, hR0, hR1, hR2, hR3, hR4, hN, hKp, hTr, hTrd, hTl⟩ := hTp
  obtain ⟨hA, hBb, hmen, hme, a, hsR, hst, hsi, hfa⟩ := hNw
  have h38 := hb.2.2.2.2.1
  have h0 := hb.1
  have hμ : μ < 4 := Nat.lt_of_lt_of_le hμn h38
  obtain ⟨b, hbm, hm, hb65⟩ := hmen μ hμn
  obtain ⟨hk6, hv9, hs20⟩ := hb.2.2.2.2.2.2.2.2.1 μ hμ
  have ht9 := hb.2.2.1 μ hμ
  have hν : ν < 4 := Nat.lt_of_lt_of_le hνn h38
  obtain ⟨b2, hbm2, hm2, hb652⟩ := hmen ν hνn
  refine lv_aload_n X.1 X.2.1 dX11_turns_0 rfl (lv_at hl 0 rfl) ?_
  refine g_getr 13 0 X hK hP hTq rfl hinRX11 rfl (by decide) k17 (fun _ h => h) dX11_turns_1 (show va_rf (R q 0) = .ref nw from by rw [hR0]; rfl) ?_
  refine lv_iload_n X.1 X.2.1 dX11_turns_4 rfl (lv_at hl 1 rfl) ?_
  refine g_run_q (f := fun u => u) (g_runV (k := 12) [.int (nI μ)] X hK hP hS hC hB (d_find (σ := σ) hN (hA.2.2.1) h38 hμn hbm) (cwV 1 X.2.2.2.2 gX11_turns_X10_find rfl rfl rfl (by decide +kernel) ⟨Nat.le_of_ble_eq_true rfl, Nat.le_of_ble_eq_true rfl⟩) hN.t0 rfl rfl hl.1 rfl (Nat.le_of_ble_eq_true rfl) dX11_turns_5 (by exact ⟨Nat.zero_le _, Nat.zero_le _⟩)) hS (fun r u H locs hq hP hS => ?_)
  obtain ⟨rfl, rfl⟩ := hq
  have hP : gP D cy B z T I R H := hP
  refine lv_astore (lv' := [(5, .ref b), (0, .ref q), (1, .int (nI μ)), (2, .int (nI ν)), (3, .int x), (4, .int y)]) X.1 X.2.1 dX11_turns_8 hl (by decide) rfl (fun ls hl => ?_)
  refine lv_aload_n X.1 X.2.1 dX11_turns_10 rfl (lv_at hl 1 rfl) ?_
  refine g_getr 13 0 X hK hP hTq rfl hinRX11 rfl (by decide) k17 (fun _ h => h) dX11_turns_11 (show va_rf (R q 0) = .ref nw from by rw [hR0]; rfl) ?_
  refine lv_iload_n X.1 X.2.1 dX11_turns_14 rfl (lv_at hl 3 rfl) ?_
  refine g_run_q (f := fun u => u) (g_runV (k := 12) [.int (nI ν)] X hK hP hS hC hB (d_find (σ := σ) hN (hA.2.2.1) h38 hνn hbm2) (cwV 1 X.2.2.2.2 gX11_turns_X10_find rfl rfl rfl (by decide +kernel) ⟨Nat.le_of_ble_eq_true rfl, Nat.le_of_ble_eq_true rfl⟩) hN.t0 rfl rfl hl.1 rfl (Nat.le_of_ble_eq_true rfl) dX11_turns_15 (by exact ⟨Nat.zero_le _, Nat.zero_le _⟩)) hS (fun r u H locs hq hP hS => ?_)
  obtain ⟨rfl, rfl⟩ := hq
  have hP : gP D cy B z T I R H := hP
  refine lv_astore (lv' := [(6, .ref b2), (5, .ref b), (0, .ref q), (1, .int (nI μ)), (2, .int (nI ν)), (3, .int x), (4, .int y)]) X.1 X.2.1 dX11_turns_18 hl (by decide) rfl (fun ls hl => ?_)
  refine lv_aload X.1 X.2.1 dX11_turns_20 (lv_at hl 1 rfl) ?_
  refine lv_ifnull X.1 X.2.1 dX11_turns_22 ?_
  refine lv_aload X.1 X.2.1 dX11_turns_25 (lv_at hl 0 rfl) ?_
  refine lv_ifnonnull (tgt := 32) X.1 X.2.1 dX11_turns_27 (by decide) ?_
  refine lv_iload_n X.1 X.2.1 dX11_turns_32 rfl (lv_at hl 3 rfl) ?_
  refine lv_iload_n X.1 X.2.1 dX11_turns_33 rfl (lv_at hl 4 rfl) ?_
  refine lv_icmp_eq (tgt := 56) X.1 X.2.1 dX11_turns_34 (by decide) (fun c34 => ?_) (fun c34 => ?_)
  · have n34 : μ = ν := gq_eq c34 (Eq.refl (nI μ)) (Eq.refl (nI ν)) (by omega) (by omega)
    refine lv_bipush (v := (-2)) X.1 X.2.1 dX11_turns_56 (by decide) ?_
    exact g_iret (f := fun u => u) (z, T, I, R) X hr hlk hK hP hS dX11_turns_58 ⟨rfl, rfl⟩
  · have n34 : ¬ μ = ν := gq_ne c34 (Eq.refl (nI μ)) (Eq.refl (nI ν)) (by omega) (by omega)
    refine lv_iload_n X.1 X.2.1 dX11_turns_37 rfl (lv_at hl 5 rfl) ?_
    refine g_run_i (f := fun u => u) (g_runS [.int x] X hK hP hS hC hB (d_badLoad) (va_cwS 1 X.2.2.2.2 gX11_turns_X11_badLoad rfl rfl rfl (by decide +kernel) ⟨Nat.le_of_ble_eq_true rfl, Nat.le_of_ble_eq_true rfl⟩) rfl hl.1 rfl (Nat.le_of_ble_eq_true rfl) dX11_turns_38 (by exact ⟨Nat.zero_le _, Nat.zero_le _⟩)) hS (fun r u H locs hq hP hS => ?_)
    obtain ⟨rfl, rfl⟩ := hq
    have hP : gP D cy B z T I R H := hP
    refine lv_if_ne (tgt := 56) X.1 X.2.1 dX11_turns_41 (by decide) (fun c41 => ?_) (fun c41 => ?_)
    · refine lv_bipush (v := (-2)) X.1 X.2.1 dX11_turns_56 (by decide) ?_
      exact g_iret (f := fun u => u) (z, T, I, R) X hr hlk hK hP hS dX11_turns_58 ⟨rfl, rfl⟩
    · refine lv_iload X.1 X.2.1 dX11_turns_44 (lv_at hl 6 rfl) ?_
      refine lv_iconst (v := 0) X.1 X.2.1 dX11_turns_46 (by decide) ?_
      refine lv_sipush (v := 999) X.1 X.2.1 dX11_turns_47 (by decide) ?_
      refine g_run_i (f := fun u => u) (g_runS [.int y, .int 0, .int 999] X hK hP hS hC hB (d_outside) (va_cwS 3 X.2.2.2.2 gX11_turns_X11_outside rfl rfl rfl (by decide +kernel) ⟨Nat.le_of_ble_eq_true rfl, Nat.le_of_ble_eq_true rfl⟩) rfl hl.1 rfl (Nat.le_of_ble_eq_true rfl) dX11_turns_50 (by exact ⟨Nat.zero_le _, Nat.zero_le _⟩)) hS (fun r u H locs hq hP hS => ?_)
      obtain ⟨rfl, rfl⟩ := hq
      have hP : gP D cy B z T I R H := hP
      refine lv_if_eq (tgt := 59) X.1 X.2.1 dX11_turns_53 (by decide) (fun c53 => ?_) (fun c53 => ?_)
      · exact False.elim (hbad.elim (fun h => n34 h) (fun h => h.elim (fun h => h (Classical.not_not.mp (gt_0 c41))) (fun h => h (Classical.not_not.mp (gt_0 c53)))))
      · refine lv_bipush (v := (-2)) X.1 X.2.1 dX11_turns_56 (by decide) ?_
        exact g_iret (f := fun u => u) (z, T, I, R) X hr hlk hK hP hS dX11_turns_58 ⟨rfl, rfl⟩

set_option maxHeartbeats 4000000 in
set_option maxRecDepth 100000 in
/-- t_turns -/
theorem t_turns (hTp : cTop q nw kp tr T R) (hNw : cNw q nw T I R σ fl ti sh) (hG : sGd fl ti sh) (hb : sBd σ K) (hcas : gCas s0) {μ : Nat} (hμn : μ < σ 38) {ν : Nat} (hνn : ν < σ 38) (hne : ¬ μ = ν) {ld : Nat} (hl1 : 1 ≤ ld) (hld : ld ≤ 20) {t : Nat} (ht : t ≤ 999) (hKb : K ≤ 25000000) : Met l yX11_turns wsX11_turns ({ frames := 5, cells := 0, slots := 0, locals := 124 }) (va_Pc [.ref q, .int (nI μ), .int (nI ν), .int (nI ld), .int (nI t)] (gW0 s0 D cy B (z, T, I, R))) (va_Qi (fun r u => r = nI (sTu fl ti sh ld t 200 μ ν σ 0 0 0 1 - σ 1) ∧ ∃ I' R', u = (z, T, I', R') ∧ cQ q I I' R R') (fun u t => gW1 D cy B u t) (gA B)) 0 0 (gA B) := by
  refine g_met (maxL := 15) (ret := (some .int)) (by decide) rfl (Nat.le_of_ble_eq_true rfl) (fun p e s m args below meth c ls X hr hlk hnm hK hP hC hS hl => ?_)
  have hl : lv_has ls 15 [(0, .ref q), (1, .int (nI μ)), (2, .int (nI ν)), (3, .int (nI ld)), (4, .int (nI t))] := hl
  have hP : gP D cy B z T I R s.heap := hP
  have hB : B ≤ s.heap.size := by rw [hP.1]; exact hP.2.1
  have hinRX10 : ∀ w ∈ wsX100, w ∈ wsX11_turns := fun _ h => List.mem_cons_of_mem _ (List.mem_append_left _ (List.mem_append_left _ (List.mem_append_left _ (List.mem_append_left _ (List.mem_append_left _ (List.mem_append_left _ (List.mem_append_left _ (List.mem_append_left _ (List.mem_append_right _ h)))))))))
  have hinRX11 : ∀ w ∈ wsX110, w ∈ wsX11_turns := fun _ h => List.mem_cons_of_mem _ (List.mem_append_left _ (List.mem_append_left _ (List.mem_append_left _ (List.mem_append_left _ (List.mem_append_left _ (List.mem_append_left _ (List.mem_append_left _ (List.mem_append_left _ (List.mem_append_left _ (List.mem_append_left _ (List.mem_append_right _ h)))))))))))
  have hinRX8 : ∀ w ∈ wsX80, w ∈ wsX11_turns := fun _ h => List.mem_cons_of_mem _ (List.mem_append_left _ (List.mem_append_left _ (List.mem_append_left _ (List.mem_append_left _ (List.mem_append_left _ (List.mem_append_left _ (List.mem_append_left _ (List.mem_append_left _ (List.mem_append_left _ (List.mem_append_right _ h))))))))))
  have hin7 : ∀ κ, κ ≤ 6 → ∀ w ∈ mws κ, w ∈ wsX11_turns := fun κ hκ => by
    rcases k7 hκ with rfl | rfl | rfl | rfl | rfl | rfl | rfl
    · exact fun _ h => List.mem_cons_of_mem _ (List.mem_append_left _ (List.mem_append_left _ (List.mem_append_left _ (List.mem_append_left _ (List.mem_append_left _ (List.mem_append_right _ h))))))
    · exact fun _ h => List.mem_cons_of_mem _ (List.mem_append_left _ (List.mem_append_left _ (List.mem_append_left _ (List.mem_append_left _ (List.mem_append_left _ (List.mem_append_left _ (List.mem_append_left _ (List.mem_append_right _ h))))))))
    · exact fun _ h => List.mem_cons_of_mem _ (List.mem_append_left _ (List.mem_append_right _ h))
    · exact fun _ h => List.mem_cons_of_mem _ (List.mem_append_left _ (List.mem_append_left _ (List.mem_append_left _ (List.mem_append_right _ h))))
    · exact fun _ h => List.mem_cons_of_mem _ (List.mem_append_left _ (List.mem_append_left _ (List.mem_append_left _ (List.mem_append_left _ (List.mem_append_left _ (List.mem_append_left _ (List.mem_append_right _ h)))))))
    · exact fun _ h => List.mem_cons_of_mem _ (List.mem_append_left _ (List.mem_append_left _ (List.mem_append_right _ h)))
    · exact fun _ h => List.mem_cons_of_mem _ (List.mem_append_left _ (List.mem_append_left _ (List.mem_append_left _ (List.mem_append_left _ (List.mem_append_right _ h)))))
  have k17 : Cond.fieldLink RX11 17 "BarrowPlank" "now" "LBarrowPlank$Works;" ∈ wsX11_turns := by decide +kernel
  have k26 : Cond.fieldLink RX11 26 "BarrowPlank" "trial" "LBarrowPlank$Works;" ∈ wsX11_turns := by decide +kernel
  have k83 : Cond.fieldLink RX11 83 "BarrowPlank$Works" "over" "I" ∈ wsX11_turns := by decide +kernel
  have k147 : Cond.fieldLink RX11 147 "BarrowPlank$Trip" "seconds" "I" ∈ wsX11_turns := by decide +kernel
  have k182 : Cond.fieldLink RX11 182 "BarrowPlank$Trip" "filling" "I" ∈ wsX11_turns := by decide +kernel
  have hTp0 := hTp
  have hNw0 := hNw
  obtain ⟨hnw, hkp, htr, hTq, hR0, hR1, hR2, hR3, hR4, hN, hKp, hTr, hTrd, hTl⟩ := hTp
  obtain ⟨hA, hBb, hmen, hme, a, hsR, hst, hsi, hfa⟩ := hNw
  have h38 := hb.2.2.2.2.1
  have h0 := hb.1
  have hμ : μ < 4 := Nat.lt_of_lt_of_le hμn h38
  obtain ⟨b, hbm, hm, hb65⟩ := hmen μ hμn
  obtain ⟨hk6, hv9, hs20⟩ := hb.2.2.2.2.2.2.2.2.1 μ hμ
  have ht9 := hb.2.2.1 μ hμ
  have hν : ν < 4 := Nat.lt_of_lt_of_le hνn h38
  obtain ⟨b2, hbm2, hm2, hb652⟩ := hmen ν hνn
  refine lv_aload_n X.1 X.2.1 dX11_turns_0 rfl (lv_at hl 0 rfl) ?_
  refine g_getr 13 0 X hK hP hTq rfl hinRX11 rfl (by decide) k17 (fun _ h => h) dX11_turns_1 (show va_rf (R q 0) = .ref nw from by rw [hR0]; rfl) ?_
  refine lv_iload_n X.1 X.2.1 dX11_turns_4 rfl (lv_at hl 1 rfl) ?_
  refine g_run_q (f := fun u => u) (g_runV (k := 12) [.int (nI μ)] X hK hP hS hC hB (d_find (σ := σ) hN (hA.2.2.1) h38 hμn hbm) (cwV 1 X.2.2.2.2 gX11_turns_X10_find rfl rfl rfl (by decide +kernel) ⟨Nat.le_of_ble_eq_true rfl, Nat.le_of_ble_eq_true rfl⟩) hN.t0 rfl rfl hl.1 rfl (Nat.le_of_ble_eq_true rfl) dX11_turns_5 (by exact ⟨Nat.zero_le _, Nat.zero_le _⟩)) hS (fun r u H locs hq hP hS => ?_)
  obtain ⟨rfl, rfl⟩ := hq
  have hP : gP D cy B z T I R H := hP
  refine lv_astore (lv' := [(5, .ref b), (0, .ref q), (1, .int (nI μ)), (2, .int (nI ν)), (3, .int (nI ld)), (4, .int (nI t))]) X.1 X.2.1 dX11_turns_8 hl (by decide) rfl (fun ls hl => ?_)
  refine lv_aload_n X.1 X.2.1 dX11_turns_10 rfl (lv_at hl 1 rfl) ?_
  refine g_getr 13 0 X hK hP hTq rfl hinRX11 rfl (by decide) k17 (fun _ h => h) dX11_turns_11 (show va_rf (R q 0) = .ref nw from by rw [hR0]; rfl) ?_
  refine lv_iload_n X.1 X.2.1 dX11_turns_14 rfl (lv_at hl 3 rfl) ?_
  refine g_run_q (f := fun u => u) (g_runV (k := 12) [.int (nI ν)] X hK hP hS hC hB (d_find (σ := σ) hN (hA.2.2.1) h38 hνn hbm2) (cwV 1 X.2.2.2.2 gX11_turns_X10_find rfl rfl rfl (by decide +kernel) ⟨Nat.le_of_ble_eq_true rfl, Nat.le_of_ble_eq_true rfl⟩) hN.t0 rfl rfl hl.1 rfl (Nat.le_of_ble_eq_true rfl) dX11_turns_15 (by exact ⟨Nat.zero_le _, Nat.zero_le _⟩)) hS (fun r u H locs hq hP hS => ?_)
  obtain ⟨rfl, rfl⟩ := hq
  have hP : gP D cy B z T I R H := hP
  refine lv_astore (lv' := [(6, .ref b2), (5, .ref b), (0, .ref q), (1, .int (nI μ)), (2, .int (nI ν)), (3, .int (nI ld)), (4, .int (nI t))]) X.1 X.2.1 dX11_turns_18 hl (by decide) rfl (fun ls hl => ?_)
  refine lv_aload X.1 X.2.1 dX11_turns_20 (lv_at hl 1 rfl) ?_
  refine lv_ifnull X.1 X.2.1 dX11_turns_22 ?_
  refine lv_aload X.1 X.2.1 dX11_turns_25 (lv_at hl 0 rfl) ?_
  refine lv_ifnonnull (tgt := 32) X.1 X.2.1 dX11_turns_27 (by decide) ?_
  refine lv_iload_n X.1 X.2.1 dX11_turns_32 rfl (lv_at hl 3 rfl) ?_
  refine lv_iload_n X.1 X.2.1 dX11_turns_33 rfl (lv_at hl 4 rfl) ?_
  refine lv_icmp_eq (tgt := 56) X.1 X.2.1 dX11_turns_34 (by decide) (fun c34 => ?_) (fun c34 => ?_)
  · exact absurd (gq_eq c34 rfl rfl (by omega) (by omega)) hne
  · have n34 : ¬ μ = ν := gq_ne c34 (Eq.refl (nI μ)) (Eq.refl (nI ν)) (by omega) (by omega)
    refine lv_iload_n X.1 X.2.1 dX11_turns_37 rfl (lv_at hl 5 rfl) ?_
    refine g_run_i (f := fun u => u) (g_runS [.int (nI ld)] X hK hP hS hC hB (d_badLoad) (va_cwS 1 X.2.2.2.2 gX11_turns_X11_badLoad rfl rfl rfl (by decide +kernel) ⟨Nat.le_of_ble_eq_true rfl, Nat.le_of_ble_eq_true rfl⟩) rfl hl.1 rfl (Nat.le_of_ble_eq_true rfl) dX11_turns_38 (by exact ⟨Nat.zero_le _, Nat.zero_le _⟩)) hS (fun r u H locs hq hP hS => ?_)
    obtain ⟨rfl, rfl⟩ := hq
    have hP : gP D cy B z T I R H := hP
    refine lv_if_ne (tgt := 56) X.1 X.2.1 dX11_turns_41 (by decide) (fun c41 => ?_) (fun c41 => ?_)
    · exact absurd (g_le (a := 1) (b := 20) (x := 1) (y := 20) rfl rfl (by omega) (by omega) (by omega)) (gt_1 c41)
    · refine lv_iload X.1 X.2.1 dX11_turns_44 (lv_at hl 6 rfl) ?_
      refine lv_iconst (v := 0) X.1 X.2.1 dX11_turns_46 (by decide) ?_
      refine lv_sipush (v := 999) X.1 X.2.1 dX11_turns_47 (by decide) ?_
      refine g_run_i (f := fun u => u) (g_runS [.int (nI t), .int 0, .int 999] X hK hP hS hC hB (d_outside) (va_cwS 3 X.2.2.2.2 gX11_turns_X11_outside rfl rfl rfl (by decide +kernel) ⟨Nat.le_of_ble_eq_true rfl, Nat.le_of_ble_eq_true rfl⟩) rfl hl.1 rfl (Nat.le_of_ble_eq_true rfl) dX11_turns_50 (by exact ⟨Nat.zero_le _, Nat.zero_le _⟩)) hS (fun r u H locs hq hP hS => ?_)
      obtain ⟨rfl, rfl⟩ := hq
      have hP : gP D cy B z T I R H := hP
      refine lv_if_eq (tgt := 59) X.1 X.2.1 dX11_turns_53 (by decide) (fun c53 => ?_) (fun c53 => ?_)
      · refine lv_aload_n X.1 X.2.1 dX11_turns_59 rfl (lv_at hl 2 rfl) ?_
        refine g_getr 13 2 X hK hP hTq rfl hinRX11 rfl (by decide) k26 (fun _ h => h) dX11_turns_60 (show va_rf (R q 2) = .ref tr from by rw [hR2]; rfl) ?_
        refine lv_aload_n X.1 X.2.1 dX11_turns_63 rfl (lv_at hl 2 rfl) ?_
        refine g_getr 13 0 X hK hP hTq rfl hinRX11 rfl (by decide) k17 (fun _ h => h) dX11_turns_64 (show va_rf (R q 0) = .ref nw from by rw [hR0]; rfl) ?_
        refine g_run_v (f := fun u => u) (g_runV (k := 12) [.ref nw] X hK hP hS hC hB (d_take hTr hN (by omega) hA hme hsR hst.1 hcas) (cwV 1 X.2.2.2.2 gX11_turns_X10_take rfl rfl rfl (by decide +kernel) ⟨Nat.le_of_ble_eq_true rfl, Nat.le_of_ble_eq_true rfl⟩) hTr.t0 rfl rfl hl.1 rfl (Nat.le_of_ble_eq_true rfl) dX11_turns_67 (by exact ⟨Nat.zero_le _, Nat.zero_le _⟩)) hS (fun u H locs hq hP hS => ?_)
        obtain ⟨IK1, RK1, rfl, hAt, ⟨hm1K1, hm2K1⟩, hknK1, hfIK1, hfRK1⟩ := hq
        have hP : gP D cy B z T IK1 RK1 H := hP
        have hQK1 : cQ q I IK1 R RK1 := ⟨fun c j h => hfIK1 c j (by unfold qF at h; unfold tkW; omega), fun c j h => hfRK1 c j (by unfold qR at h; omega) (by unfold qR at h; omega)⟩
        have hfK1 := hQK1.1
        have hgK1 := hQK1.2
        have hTp := hTp0.fr hQK1.2
        obtain ⟨-, -, -, hTq, hR0, hR1, hR2, hR3, hR4, hN, hKp, hTr, hTrd, hTl⟩ := hTp
        have hA : cA nw IK1 σ := hA.k (fun c j h1 h2 => hfK1 c j (by unfold qF; omega))
        have hBb : cB nw IK1 σ := hBb.k (fun c j h1 h2 => hfK1 c j (by unfold qF; omega))
        have hm : cMn T IK1 σ μ b := hm.k (fun j => hfK1 b j (by unfold qF; omega))
        have hm2 : cMn T IK1 σ ν b2 := hm2.k (fun j => hfK1 b2 j (by unfold qF; omega))
        have hsR : RK1 nw 12 = some a := (hgK1 _ _ (by unfold qR; omega)).trans hsR
        have hst : cSt a T RK1 := hst.fr (fun j => hgK1 _ _ (by unfold qR; omega))
        have hsi : cSi a IK1 fl ti sh := hsi.k (fun c j g1 g2 => hfK1 c j (by unfold qF; omega))
        have hal : cAll tr b a μ T IK1 RK1 σ fl ti sh K := cAll.of (q := q) hTr hAt hm hb65 hfa hst hsi hm2K1 hG hb hμ hμn (by omega) (by omega)
        have hal2 : cAll tr b2 a ν T IK1 RK1 σ fl ti sh K := cAll.of (q := q) hTr hAt hm2 hb652 hfa hst hsi hm2K1 hG hb hν hνn (by omega) (by omega)
        have hCt : cC tr IK1 fl σ := cC.fg (fun c h1 h2 => hknK1 c h1 h2)
        refine lv_iconst (v := 0) X.1 X.2.1 dX11_turns_70 (by decide) ?_
        refine lv_istore (lv' := [(7, .int 0), (6, .ref b2), (5, .ref b), (0, .ref q), (1, .int (nI μ)), (2, .int (nI ν)), (3, .int (nI ld)), (4, .int (nI t))]) X.1 X.2.1 dX11_turns_71 hl (by decide) rfl (fun ls hl => ?_)
        refine lv_iconst (v := 0) X.1 X.2.1 dX11_turns_73 (by decide) ?_
        refine lv_istore (lv' := [(8, .int 0), (7, .int 0), (6, .ref b2), (5, .ref b), (0, .ref q), (1, .int (nI μ)), (2, .int (nI ν)), (3, .int (nI ld)), (4, .int (nI t))]) X.1 X.2.1 dX11_turns_74 hl (by decide) rfl (fun ls hl => ?_)
        refine lv_iconst (v := 0) X.1 X.2.1 dX11_turns_76 (by decide) ?_
        refine lv_istore (lv' := [(9, .int 0), (8, .int 0), (7, .int 0), (6, .ref b2), (5, .ref b), (0, .ref q), (1, .int (nI μ)), (2, .int (nI ν)), (3, .int (nI ld)), (4, .int (nI t))]) X.1 X.2.1 dX11_turns_77 hl (by decide) rfl (fun ls hl => ?_)
        refine lv_aload X.1 X.2.1 dX11_turns_79 (lv_at hl 4 rfl) ?_
        refine lv_astore (lv' := [(10, .ref b), (9, .int 0), (8, .int 0), (7, .int 0), (6, .ref b2), (5, .ref b), (0, .ref q), (1, .int (nI μ)), (2, .int (nI ν)), (3, .int (nI ld)), (4, .int (nI t))]) X.1 X.2.1 dX11_turns_81 hl (by decide) rfl (fun ls hl => ?_)
        refine lv_iconst (v := 0) X.1 X.2.1 dX11_turns_83 (by decide) ?_
        refine lv_istore (lv' := [(11, .int 0), (10, .ref b), (9, .int 0), (8, .int 0), (7, .int 0), (6, .ref b2), (5, .ref b), (0, .ref q), (1, .int (nI μ)), (2, .int (nI ν)), (3, .int (nI ld)), (4, .int (nI t))]) X.1 X.2.1 dX11_turns_84 hl (by decide) rfl (fun ls hl => ?_)
        have hbb : ¬ b2 = b := fun e9 => hne (by have h1 := hm.2.2.1; have h2 := hm2.2.2.1; rw [e9] at h2; exact gq_eq (h1.symm.trans h2) rfl rfl (by omega) (by omega))
        refine i_loop (I := IK1) 1000 86 [] (fun k Q9 ls => ∃ μk νk bk σk ea eb fb, ((μk = μ ∧ νk = ν ∧ bk = b) ∨ (μk = ν ∧ νk = μ ∧ bk = b2)) ∧ (cA tr Q9 σk ∧ cC tr Q9 fl σk ∧ sBd σk (K + 300000 * k) ∧ (∀ i, 18 ≤ i → σk i = σ i) ∧ σ 1 ≤ σk 1 ∧ sTu fl ti sh ld t 200 μ ν σ 0 0 0 = sTu fl ti sh ld t (200 - k) μk νk σk ea eb fb) ∧ (ea ≤ 999 ∧ eb ≤ 999 ∧ fb ≤ 999 ∧ 20 * k ≤ ea + eb) ∧ (∀ c j, ¬ kW tr c j → Q9 c j = IK1 c j) ∧ lv_has ls 15 [(0, .ref q), (1, .int (nI μ)), (2, .int (nI ν)), (3, .int (nI ld)), (4, .int (nI t)), (5, .ref b), (6, .ref b2), (7, .int (nI fb)), (8, .int (nI ea)), (9, .int (nI eb)), (10, .ref bk), (11, .int (nI k))]) 0 (by omega) ⟨μ, ν, b, σ, 0, 0, 0, Or.inl ⟨rfl, rfl, rfl⟩, ⟨hAt, hCt, hb, fun _ _ => rfl, Nat.le_refl _, rfl⟩, ⟨by omega, by omega, by omega, by omega⟩, fun _ _ _ => rfl, lv_sub hl [7, 8, 9, 10, 11, 6, 5, 4, 3, 2, 1, 0] rfl⟩ hP hS (fun k Q9 H locs ls hk hiv hP hS ih => ?_)
        obtain ⟨μk, νk, bk, σk, ea, eb, fb, hsw, ⟨hAt, hcc9, hb9, h18, hone, htu⟩, ⟨hea, heb, hfb, h20⟩, hko9, hl⟩ := hiv
        have hA : cA nw Q9 σ := hA.k (fun c j h1 h2 => hko9 c j (by unfold kW; omega))
        have hsi : cSi a Q9 fl ti sh := hsi.k (fun c j g1 g2 => hko9 c j (by unfold kW; omega))
        have hma : cMn T Q9 σk μ b := (hm.k (fun j => hko9 b j (by unfold kW; omega))).s (h18 _ (by omega)) (h18 _ (by omega)) (h18 _ (by omega))
        have hmb : cMn T Q9 σk ν b2 := (hm2.k (fun j => hko9 b2 j (by unfold kW; omega))).s (h18 _ (by omega)) (h18 _ (by omega)) (h18 _ (by omega))
        have hala : cAll tr b a μ T Q9 RK1 σk fl ti sh (K + 300000 * k) := cAll.of (q := q) hTr hAt hma hb65 hfa hst hsi hm2K1 hG hb9 hμ (by rw [h18 38 (by omega)]; exact hμn) (by omega) (by omega)
        have halb : cAll tr b2 a ν T Q9 RK1 σk fl ti sh (K + 300000 * k) := cAll.of (q := q) hTr hAt hmb hb652 hfa hst hsi hm2K1 hG hb9 hν (by rw [h18 38 (by omega)]; exact hνn) (by omega) (by omega)
        have hK9 := hb9.2.1.1
        rcases hsw with ⟨rfl, rfl, rfl⟩ | ⟨rfl, rfl, rfl⟩
        · have hse := sSe_le' hG hb9 hμ ld
          have hsg := sSe_ge fl sh σk μk ld
          have hfs := sFi_le fl sh σk μk ld
          refine lv_iload X.1 X.2.1 dX11_turns_86 (lv_at hl 11 rfl) ?_
          refine lv_sipush (v := 1000) X.1 X.2.1 dX11_turns_88 (by decide) ?_
          refine lv_icmp_ge (tgt := 186) X.1 X.2.1 dX11_turns_91 (by decide) (fun c91 => ?_) (fun c91 => ?_)
          · exact absurd (gq_le c91 (show (1000 : Int32) = nI 1000 from rfl) (Eq.refl (nI k)) (by omega) (by omega)) (by omega)
          · have n91 : k < 1000 := gq_nle c91 (show (1000 : Int32) = nI 1000 from rfl) (Eq.refl (nI k)) (by omega) (by omega)
            refine lv_aload_n X.1 X.2.1 dX11_turns_94 rfl (lv_at hl 0 rfl) ?_
            refine g_getr 13 2 X hK hP hTq rfl hinRX11 rfl (by decide) k26 (fun _ h => h) dX11_turns_95 (show va_rf (RK1 q 2) = .ref tr from by rw [hR2]; rfl) ?_
            refine lv_aload X.1 X.2.1 dX11_turns_98 (lv_at hl 10 rfl) ?_
            refine lv_iload_n X.1 X.2.1 dX11_turns_100 rfl (lv_at hl 3 rfl) ?_
            refine g_run_q (f := fun u => u) (g_runV (k := 12) [.ref bk, .int (nI ld)] X hK hP hS hC hB (d_plan hala hcc9 hld) (cwV 2 X.2.2.2.2 gX11_turns_X10_plan rfl rfl rfl (by decide +kernel) ⟨Nat.le_of_ble_eq_true rfl, Nat.le_of_ble_eq_true rfl⟩) hTr.t0 rfl rfl hl.1 rfl (Nat.le_of_ble_eq_true rfl) dX11_turns_101 (by exact ⟨Nat.zero_le _, Nat.zero_le _⟩)) hS (fun r u H locs hq hP hS => ?_)
            obtain ⟨hr9, IP2, rfl, htpP2, hccP2, hfrP2⟩ := hq
            subst hr9
            have hP : gP D cy B z T IP2 RK1 H := hP
            have hallP2 := hala.k (I' := IP2) (fun c j h => hfrP2 c j (by omega))
            refine lv_astore (lv' := [(12, .ref (tr + 11 + μk)), (0, .ref q), (1, .int (nI μk)), (2, .int (nI νk)), (3, .int (nI ld)), (4, .int (nI t)), (5, .ref bk), (6, .ref b2), (7, .int (nI fb)), (8, .int (nI ea)), (9, .int (nI eb)), (10, .ref bk), (11, .int (nI k))]) X.1 X.2.1 dX11_turns_104 hl (by decide) rfl (fun ls hl => ?_)
            refine lv_iload X.1 X.2.1 dX11_turns_106 (lv_at hl 9 rfl) ?_
            refine lv_iload X.1 X.2.1 dX11_turns_108 (lv_at hl 8 rfl) ?_
            refine va_mmax X.1 X.2.1 (X.2.2.1.trans hl.1.symm) X.2.2.2.1 (X.2.2.2.2 (.methodLink RX11 176 Lib.Math.max.name) (by decide +kernel)) (X.2.2.2.2 (.static Lib.Math.max.name) (by decide +kernel)) (X.2.2.2.2 (.initialized "java/lang/Math") (by decide +kernel)) (X.2.2.2.2 (.code Lib.Math.max.name Lib.Math.max.code 2 (some .int)) (by decide +kernel)) (Nat.le_of_ble_eq_true rfl) (Nat.le_of_ble_eq_true rfl) (Nat.zero_le _) (Nat.zero_le _) dX11_turns_110 ?_
            refine lv_cv (gm_max (Eq.refl (nI ea)) (Eq.refl (nI fb)) (by omega) (by omega)) ?_
            refine lv_istore (lv' := [(13, .int (nI (max ea fb))), (12, .ref (tr + 11 + μk)), (0, .ref q), (1, .int (nI μk)), (2, .int (nI νk)), (3, .int (nI ld)), (4, .int (nI t)), (5, .ref bk), (6, .ref b2), (7, .int (nI fb)), (8, .int (nI ea)), (9, .int (nI eb)), (10, .ref bk), (11, .int (nI k))]) X.1 X.2.1 dX11_turns_113 hl (by decide) rfl (fun ls hl => ?_)
            refine lv_iload X.1 X.2.1 dX11_turns_115 (lv_at hl 0 rfl) ?_
            refine lv_aload X.1 X.2.1 dX11_turns_117 (lv_at hl 1 rfl) ?_
            refine g_geti 10 4 X hK hP (hallP2.1.tript hallP2.2.2.2.2.2.2.2.2.2.2.1) rfl hinRX8 rfl (by decide) k147 (fun _ h => h) dX11_turns_119 (show IP2 (tr + 11 + μk) 4 = nI (sSe fl sh σk μk ld) from htpP2.2.2.1) ?_
            refine lv_iadd X.1 X.2.1 dX11_turns_122 ?_
            refine lv_cv (gn_add (Eq.refl (nI (max ea fb))) (Eq.refl (nI (sSe fl sh σk μk ld)))) ?_
            refine lv_istore (lv' := [(14, .int (nI ((max ea fb) + (sSe fl sh σk μk ld)))), (13, .int (nI (max ea fb))), (12, .ref (tr + 11 + μk)), (0, .ref q), (1, .int (nI μk)), (2, .int (nI νk)), (3, .int (nI ld)), (4, .int (nI t)), (5, .ref bk), (6, .ref b2), (7, .int (nI fb)), (8, .int (nI ea)), (9, .int (nI eb)), (10, .ref bk), (11, .int (nI k))]) X.1 X.2.1 dX11_turns_123 hl (by decide) rfl (fun ls hl => ?_)
            refine lv_iload X.1 X.2.1 dX11_turns_125 (lv_at hl 0 rfl) ?_
            refine lv_iload X.1 X.2.1 dX11_turns_127 (lv_at hl 7 rfl) ?_
            refine lv_icmp_le (tgt := 135) X.1 X.2.1 dX11_turns_129 (by decide) (fun c129 => ?_) (fun c129 => ?_)
            · have n129 : ((max ea fb) + (sSe fl sh σk μk ld)) ≤ t := gq_le c129 (Eq.refl (nI ((max ea fb) + (sSe fl sh σk μk ld)))) (Eq.refl (nI t)) (by omega) (by omega)
              refine lv_iload X.1 X.2.1 dX11_turns_135 (lv_at hl 1 rfl) ?_
              refine lv_aload X.1 X.2.1 dX11_turns_137 (lv_at hl 2 rfl) ?_
              refine g_geti 10 2 X hK hP (hallP2.1.tript hallP2.2.2.2.2.2.2.2.2.2.2.1) rfl hinRX8 rfl (by decide) k182 (fun _ h => h) dX11_turns_139 (show IP2 (tr + 11 + μk) 2 = nI (sFi sh σk μk ld) from htpP2.2.1) ?_
              refine lv_iadd X.1 X.2.1 dX11_turns_142 ?_
              refine lv_cv (gn_add (Eq.refl (nI (max ea fb))) (Eq.refl (nI (sFi sh σk μk ld)))) ?_
              refine lv_istore (lv' := [(7, .int (nI ((max ea fb) + (sFi sh σk μk ld)))), (14, .int (nI ((max ea fb) + (sSe fl sh σk μk ld)))), (13, .int (nI (max ea fb))), (12, .ref (tr + 11 + μk)), (0, .ref q), (1, .int (nI μk)), (2, .int (nI νk)), (3, .int (nI ld)), (4, .int (nI t)), (5, .ref bk), (6, .ref b2), (8, .int (nI ea)), (9, .int (nI eb)), (10, .ref bk), (11, .int (nI k))]) X.1 X.2.1 dX11_turns_143 hl (by decide) rfl (fun ls hl => ?_)
              refine lv_aload_n X.1 X.2.1 dX11_turns_145 rfl (lv_at hl 4 rfl) ?_
              refine g_getr 13 2 X hK hP hTq rfl hinRX11 rfl (by decide) k26 (fun _ h => h) dX11_turns_146 (show va_rf (RK1 q 2) = .ref tr from by rw [hR2]; rfl) ?_
              refine lv_aload X.1 X.2.1 dX11_turns_149 (lv_at hl 13 rfl) ?_
              refine lv_aload X.1 X.2.1 dX11_turns_151 (lv_at hl 3 rfl) ?_
              refine g_run_v (f := fun u => u) (g_runV (k := 12) [.ref bk, .ref (tr + 11 + μk)] X hK hP hS hC hB (d_finish hallP2 hccP2 htpP2 (by omega)) (cwV 2 X.2.2.2.2 gX11_turns_X10_finish rfl rfl rfl (by decide +kernel) ⟨Nat.le_of_ble_eq_true rfl, Nat.le_of_ble_eq_true rfl⟩) hTr.t0 rfl rfl hl.1 rfl (Nat.le_of_ble_eq_true rfl) dX11_turns_153 (by exact ⟨Nat.zero_le _, Nat.zero_le _⟩)) hS (fun u H locs hq hP hS => ?_)
              obtain ⟨IG3, rfl, ⟨hAG3, hCG3⟩, hfG3⟩ := hq
              have hP : gP D cy B z T IG3 RK1 H := hP
              refine lv_iload X.1 X.2.1 dX11_turns_156 (lv_at hl 12 rfl) ?_
              refine lv_istore (lv' := [(8, .int (nI eb)), (7, .int (nI ((max ea fb) + (sFi sh σk μk ld)))), (14, .int (nI ((max ea fb) + (sSe fl sh σk μk ld)))), (13, .int (nI (max ea fb))), (12, .ref (tr + 11 + μk)), (0, .ref q), (1, .int (nI μk)), (2, .int (nI νk)), (3, .int (nI ld)), (4, .int (nI t)), (5, .ref bk), (6, .ref b2), (9, .int (nI eb)), (10, .ref bk), (11, .int (nI k))]) X.1 X.2.1 dX11_turns_158 hl (by decide) rfl (fun ls hl => ?_)
              refine lv_iload X.1 X.2.1 dX11_turns_160 (lv_at hl 2 rfl) ?_
              refine lv_istore (lv' := [(9, .int (nI ((max ea fb) + (sSe fl sh σk μk ld)))), (8, .int (nI eb)), (7, .int (nI ((max ea fb) + (sFi sh σk μk ld)))), (14, .int (nI ((max ea fb) + (sSe fl sh σk μk ld)))), (13, .int (nI (max ea fb))), (12, .ref (tr + 11 + μk)), (0, .ref q), (1, .int (nI μk)), (2, .int (nI νk)), (3, .int (nI ld)), (4, .int (nI t)), (5, .ref bk), (6, .ref b2), (10, .ref bk), (11, .int (nI k))]) X.1 X.2.1 dX11_turns_162 hl (by decide) rfl (fun ls hl => ?_)
              refine lv_aload X.1 X.2.1 dX11_turns_164 (lv_at hl 13 rfl) ?_
              refine lv_aload X.1 X.2.1 dX11_turns_166 (lv_at hl 11 rfl) ?_
              refine lv_acmp_ne (rx := some bk) (ry := some bk) (tgt := 176) X.1 X.2.1 dX11_turns_168 (by decide) (fun h9 => absurd rfl h9) (fun _ => ?_)
              refine lv_aload X.1 X.2.1 dX11_turns_171 (lv_at hl 12 rfl) ?_
              refine lv_goto (tgt := 178) X.1 X.2.1 dX11_turns_173 (by decide) ?_
              refine lv_astore (lv' := [(10, .ref b2), (9, .int (nI ((max ea fb) + (sSe fl sh σk μk ld)))), (8, .int (nI eb)), (7, .int (nI ((max ea fb) + (sFi sh σk μk ld)))), (14, .int (nI ((max ea fb) + (sSe fl sh σk μk ld)))), (13, .int (nI (max ea fb))), (12, .ref (tr + 11 + μk)), (0, .ref q), (1, .int (nI μk)), (2, .int (nI νk)), (3, .int (nI ld)), (4, .int (nI t)), (5, .ref bk), (6, .ref b2), (11, .int (nI k))]) X.1 X.2.1 dX11_turns_178 hl (by decide) rfl (fun ls hl => ?_)
              refine lv_iinc (v := nI (k + 1)) (lv' := [(11, .int (nI (k + 1))), (10, .ref b2), (9, .int (nI ((max ea fb) + (sSe fl sh σk μk ld)))), (8, .int (nI eb)), (7, .int (nI ((max ea fb) + (sFi sh σk μk ld)))), (14, .int (nI ((max ea fb) + (sSe fl sh σk μk ld)))), (13, .int (nI (max ea fb))), (12, .ref (tr + 11 + μk)), (0, .ref q), (1, .int (nI μk)), (2, .int (nI νk)), (3, .int (nI ld)), (4, .int (nI t)), (5, .ref bk), (6, .ref b2)]) X.1 X.2.1 dX11_turns_180 hl (k := 14) rfl (gn_inc (Eq.refl (nI k)) 1) (by decide) rfl (fun ls hl => ?_)
              refine lv_goto (tgt := 86) X.1 X.2.1 dX11_turns_183 (by decide) ?_
              have hfG3x : ∀ c j, ¬ kW tr c j → IG3 c j = Q9 c j := fun c j h => (by unfold kW at h; exact (hfG3 c j (by omega) (by omega) (by omega) (by omega)).trans (hfrP2 c j (by omega)))
              exact ih _ _ _ _ (by omega) ⟨νk, μk, _, sGo fl ti sh σk μk ld, eb, max ea fb + sSe fl sh σk μk ld, max ea fb + sFi sh σk μk ld, Or.inr ⟨rfl, rfl, rfl⟩, ⟨hAG3, hCG3, (sBd_le (K' := K + 300000 * (k + 1)) (sBd_go' hG hb9 hμ ld) (by omega)), (fun i hi => (sGo_18 hμ hi).trans (h18 i hi)), (by rw [sGo_1]; omega), htu.trans (tu_s (by omega) (by omega))⟩, ⟨heb, (by omega), (by omega), (by omega)⟩, (fun c j h => (hfG3x c j h).trans (hko9 c j h)), lv_sub hl [8, 9, 10, 11, 12, 13, 14, 4, 3, 2, 1, 0] rfl⟩ hP hS
            · have n129 : t < ((max ea fb) + (sSe fl sh σk μk ld)) := gq_nle c129 (Eq.refl (nI ((max ea fb) + (sSe fl sh σk μk ld)))) (Eq.refl (nI t)) (by omega) (by omega)
              refine lv_goto (tgt := 186) X.1 X.2.1 dX11_turns_132 (by decide) ?_
              refine lv_aload_n X.1 X.2.1 dX11_turns_186 rfl (lv_at hl 3 rfl) ?_
              refine g_getr 13 2 X hK hP hTq rfl hinRX11 rfl (by decide) k26 (fun _ h => h) dX11_turns_187 (show va_rf (RK1 q 2) = .ref tr from by rw [hR2]; rfl) ?_
              refine g_geti 12 9 X hK hP hTr.t0 rfl hinRX10 rfl (by decide) k83 (fun _ h => h) dX11_turns_190 (show IP2 tr 9 = nI (σk 1) from ((hfrP2 _ _ (by omega)).trans hAt.2.2.2.2.1)) ?_
              refine lv_aload_n X.1 X.2.1 dX11_turns_193 rfl (lv_at hl 3 rfl) ?_
              refine g_getr 13 0 X hK hP hTq rfl hinRX11 rfl (by decide) k17 (fun _ h => h) dX11_turns_194 (show va_rf (RK1 q 0) = .ref nw from by rw [hR0]; rfl) ?_
              refine g_geti 12 9 X hK hP hN.t0 rfl hinRX10 rfl (by decide) k83 (fun _ h => h) dX11_turns_197 (show IP2 nw 9 = nI (σ 1) from ((hfrP2 _ _ (by omega)).trans hA.2.2.2.2.1)) ?_
              refine lv_isub X.1 X.2.1 dX11_turns_200 ?_
              have he9 : sTu fl ti sh ld t 200 μk νk σ 0 0 0 = σk := htu.trans (tu_e (by omega) (by omega))
              exact g_iret (f := fun u => u) (z, T, IP2, RK1) X hr hlk hK hP hS dX11_turns_201 ⟨((gn_sub (Eq.refl (nI (σk 1))) (Eq.refl (nI (σ 1))) (by omega))).trans (by rw [he9]), IP2, RK1, rfl, (hQK1.kw htr hko9).k7 htr (fun c j h => hfrP2 c j (by omega))⟩
        · have hse := sSe_le' hG hb9 hν ld
          have hsg := sSe_ge fl sh σk μk ld
          have hfs := sFi_le fl sh σk μk ld
          refine lv_iload X.1 X.2.1 dX11_turns_86 (lv_at hl 11 rfl) ?_
          refine lv_sipush (v := 1000) X.1 X.2.1 dX11_turns_88 (by decide) ?_
          refine lv_icmp_ge (tgt := 186) X.1 X.2.1 dX11_turns_91 (by decide) (fun c91 => ?_) (fun c91 => ?_)
          · exact absurd (gq_le c91 (show (1000 : Int32) = nI 1000 from rfl) (Eq.refl (nI k)) (by omega) (by omega)) (by omega)
          · have n91 : k < 1000 := gq_nle c91 (show (1000 : Int32) = nI 1000 from rfl) (Eq.refl (nI k)) (by omega) (by omega)
            refine lv_aload_n X.1 X.2.1 dX11_turns_94 rfl (lv_at hl 0 rfl) ?_
            refine g_getr 13 2 X hK hP hTq rfl hinRX11 rfl (by decide) k26 (fun _ h => h) dX11_turns_95 (show va_rf (RK1 q 2) = .ref tr from by rw [hR2]; rfl) ?_
            refine lv_aload X.1 X.2.1 dX11_turns_98 (lv_at hl 10 rfl) ?_
            refine lv_iload_n X.1 X.2.1 dX11_turns_100 rfl (lv_at hl 3 rfl) ?_
            refine g_run_q (f := fun u => u) (g_runV (k := 12) [.ref bk, .int (nI ld)] X hK hP hS hC hB (d_plan halb hcc9 hld) (cwV 2 X.2.2.2.2 gX11_turns_X10_plan rfl rfl rfl (by decide +kernel) ⟨Nat.le_of_ble_eq_true rfl, Nat.le_of_ble_eq_true rfl⟩) hTr.t0 rfl rfl hl.1 rfl (Nat.le_of_ble_eq_true rfl) dX11_turns_101 (by exact ⟨Nat.zero_le _, Nat.zero_le _⟩)) hS (fun r u H locs hq hP hS => ?_)
            obtain ⟨hr9, IP4, rfl, htpP4, hccP4, hfrP4⟩ := hq
            subst hr9
            have hP : gP D cy B z T IP4 RK1 H := hP
            have hallP4 := halb.k (I' := IP4) (fun c j h => hfrP4 c j (by omega))
            refine lv_astore (lv' := [(12, .ref (tr + 11 + μk)), (0, .ref q), (1, .int (nI νk)), (2, .int (nI μk)), (3, .int (nI ld)), (4, .int (nI t)), (5, .ref b), (6, .ref bk), (7, .int (nI fb)), (8, .int (nI ea)), (9, .int (nI eb)), (10, .ref bk), (11, .int (nI k))]) X.1 X.2.1 dX11_turns_104 hl (by decide) rfl (fun ls hl => ?_)
            refine lv_iload X.1 X.2.1 dX11_turns_106 (lv_at hl 9 rfl) ?_
            refine lv_iload X.1 X.2.1 dX11_turns_108 (lv_at hl 8 rfl) ?_
            refine va_mmax X.1 X.2.1 (X.2.2.1.trans hl.1.symm) X.2.2.2.1 (X.2.2.2.2 (.methodLink RX11 176 Lib.Math.max.name) (by decide +kernel)) (X.2.2.2.2 (.static Lib.Math.max.name) (by decide +kernel)) (X.2.2.2.2 (.initialized "java/lang/Math") (by decide +kernel)) (X.2.2.2.2 (.code Lib.Math.max.name Lib.Math.max.code 2 (some .int)) (by decide +kernel)) (Nat.le_of_ble_eq_true rfl) (Nat.le_of_ble_eq_true rfl) (Nat.zero_le _) (Nat.zero_le _) dX11_turns_110 ?_
            refine lv_cv (gm_max (Eq.refl (nI ea)) (Eq.refl (nI fb)) (by omega) (by omega)) ?_
            refine lv_istore (lv' := [(13, .int (nI (max ea fb))), (12, .ref (tr + 11 + μk)), (0, .ref q), (1, .int (nI νk)), (2, .int (nI μk)), (3, .int (nI ld)), (4, .int (nI t)), (5, .ref b), (6, .ref bk), (7, .int (nI fb)), (8, .int (nI ea)), (9, .int (nI eb)), (10, .ref bk), (11, .int (nI k))]) X.1 X.2.1 dX11_turns_113 hl (by decide) rfl (fun ls hl => ?_)
            refine lv_iload X.1 X.2.1 dX11_turns_115 (lv_at hl 0 rfl) ?_
            refine lv_aload X.1 X.2.1 dX11_turns_117 (lv_at hl 1 rfl) ?_
            refine g_geti 10 4 X hK hP (hallP4.1.tript hallP4.2.2.2.2.2.2.2.2.2.2.1) rfl hinRX8 rfl (by decide) k147 (fun _ h => h) dX11_turns_119 (show IP4 (tr + 11 + μk) 4 = nI (sSe fl sh σk μk ld) from htpP4.2.2.1) ?_
            refine lv_iadd X.1 X.2.1 dX11_turns_122 ?_
            refine lv_cv (gn_add (Eq.refl (nI (max ea fb))) (Eq.refl (nI (sSe fl sh σk μk ld)))) ?_
            refine lv_istore (lv' := [(14, .int (nI ((max ea fb) + (sSe fl sh σk μk ld)))), (13, .int (nI (max ea fb))), (12, .ref (tr + 11 + μk)), (0, .ref q), (1, .int (nI νk)), (2, .int (nI μk)), (3, .int (nI ld)), (4, .int (nI t)), (5, .ref b), (6, .ref bk), (7, .int (nI fb)), (8, .int (nI ea)), (9, .int (nI eb)), (10, .ref bk), (11, .int (nI k))]) X.1 X.2.1 dX11_turns_123 hl (by decide) rfl (fun ls hl => ?_)
            refine lv_iload X.1 X.2.1 dX11_turns_125 (lv_at hl 0 rfl) ?_
            refine lv_iload X.1 X.2.1 dX11_turns_127 (lv_at hl 7 rfl) ?_
            refine lv_icmp_le (tgt := 135) X.1 X.2.1 dX11_turns_129 (by decide) (fun c129 => ?_) (fun c129 => ?_)
            · have n129 : ((max ea fb) + (sSe fl sh σk μk ld)) ≤ t := gq_le c129 (Eq.refl (nI ((max ea fb) + (sSe fl sh σk μk ld)))) (Eq.refl (nI t)) (by omega) (by omega)
              refine lv_iload X.1 X.2.1 dX11_turns_135 (lv_at hl 1 rfl) ?_
              refine lv_aload X.1 X.2.1 dX11_turns_137 (lv_at hl 2 rfl) ?_
              refine g_geti 10 2 X hK hP (hallP4.1.tript hallP4.2.2.2.2.2.2.2.2.2.2.1) rfl hinRX8 rfl (by decide) k182 (fun _ h => h) dX11_turns_139 (show IP4 (tr + 11 + μk) 2 = nI (sFi sh σk μk ld) from htpP4.2.1) ?_
              refine lv_iadd X.1 X.2.1 dX11_turns_142 ?_
              refine lv_cv (gn_add (Eq.refl (nI (max ea fb))) (Eq.refl (nI (sFi sh σk μk ld)))) ?_
              refine lv_istore (lv' := [(7, .int (nI ((max ea fb) + (sFi sh σk μk ld)))), (14, .int (nI ((max ea fb) + (sSe fl sh σk μk ld)))), (13, .int (nI (max ea fb))), (12, .ref (tr + 11 + μk)), (0, .ref q), (1, .int (nI νk)), (2, .int (nI μk)), (3, .int (nI ld)), (4, .int (nI t)), (5, .ref b), (6, .ref bk), (8, .int (nI ea)), (9, .int (nI eb)), (10, .ref bk), (11, .int (nI k))]) X.1 X.2.1 dX11_turns_143 hl (by decide) rfl (fun ls hl => ?_)
              refine lv_aload_n X.1 X.2.1 dX11_turns_145 rfl (lv_at hl 4 rfl) ?_
              refine g_getr 13 2 X hK hP hTq rfl hinRX11 rfl (by decide) k26 (fun _ h => h) dX11_turns_146 (show va_rf (RK1 q 2) = .ref tr from by rw [hR2]; rfl) ?_
              refine lv_aload X.1 X.2.1 dX11_turns_149 (lv_at hl 13 rfl) ?_
              refine lv_aload X.1 X.2.1 dX11_turns_151 (lv_at hl 3 rfl) ?_
              refine g_run_v (f := fun u => u) (g_runV (k := 12) [.ref bk, .ref (tr + 11 + μk)] X hK hP hS hC hB (d_finish hallP4 hccP4 htpP4 (by omega)) (cwV 2 X.2.2.2.2 gX11_turns_X10_finish rfl rfl rfl (by decide +kernel) ⟨Nat.le_of_ble_eq_true rfl, Nat.le_of_ble_eq_true rfl⟩) hTr.t0 rfl rfl hl.1 rfl (Nat.le_of_ble_eq_true rfl) dX11_turns_153 (by exact ⟨Nat.zero_le _, Nat.zero_le _⟩)) hS (fun u H locs hq hP hS => ?_)
              obtain ⟨IG5, rfl, ⟨hAG5, hCG5⟩, hfG5⟩ := hq
              have hP : gP D cy B z T IG5 RK1 H := hP
              refine lv_iload X.1 X.2.1 dX11_turns_156 (lv_at hl 12 rfl) ?_
              refine lv_istore (lv' := [(8, .int (nI eb)), (7, .int (nI ((max ea fb) + (sFi sh σk μk ld)))), (14, .int (nI ((max ea fb) + (sSe fl sh σk μk ld)))), (13, .int (nI (max ea fb))), (12, .ref (tr + 11 + μk)), (0, .ref q), (1, .int (nI νk)), (2, .int (nI μk)), (3, .int (nI ld)), (4, .int (nI t)), (5, .ref b), (6, .ref bk), (9, .int (nI eb)), (10, .ref bk), (11, .int (nI k))]) X.1 X.2.1 dX11_turns_158 hl (by decide) rfl (fun ls hl => ?_)
              refine lv_iload X.1 X.2.1 dX11_turns_160 (lv_at hl 2 rfl) ?_
              refine lv_istore (lv' := [(9, .int (nI ((max ea fb) + (sSe fl sh σk μk ld)))), (8, .int (nI eb)), (7, .int (nI ((max ea fb) + (sFi sh σk μk ld)))), (14, .int (nI ((max ea fb) + (sSe fl sh σk μk ld)))), (13, .int (nI (max ea fb))), (12, .ref (tr + 11 + μk)), (0, .ref q), (1, .int (nI νk)), (2, .int (nI μk)), (3, .int (nI ld)), (4, .int (nI t)), (5, .ref b), (6, .ref bk), (10, .ref bk), (11, .int (nI k))]) X.1 X.2.1 dX11_turns_162 hl (by decide) rfl (fun ls hl => ?_)
              refine lv_aload X.1 X.2.1 dX11_turns_164 (lv_at hl 13 rfl) ?_
              refine lv_aload X.1 X.2.1 dX11_turns_166 (lv_at hl 11 rfl) ?_
              refine lv_acmp_ne (rx := some bk) (ry := some b) (tgt := 176) X.1 X.2.1 dX11_turns_168 (by decide) (fun _ => ?_) (fun h9 => absurd (Option.some.inj h9) hbb)
              refine lv_aload X.1 X.2.1 dX11_turns_176 (lv_at hl 11 rfl) ?_
              refine lv_astore (lv' := [(10, .ref b), (9, .int (nI ((max ea fb) + (sSe fl sh σk μk ld)))), (8, .int (nI eb)), (7, .int (nI ((max ea fb) + (sFi sh σk μk ld)))), (14, .int (nI ((max ea fb) + (sSe fl sh σk μk ld)))), (13, .int (nI (max ea fb))), (12, .ref (tr + 11 + μk)), (0, .ref q), (1, .int (nI νk)), (2, .int (nI μk)), (3, .int (nI ld)), (4, .int (nI t)), (5, .ref b), (6, .ref bk), (11, .int (nI k))]) X.1 X.2.1 dX11_turns_178 hl (by decide) rfl (fun ls hl => ?_)
              refine lv_iinc (v := nI (k + 1)) (lv' := [(11, .int (nI (k + 1))), (10, .ref b), (9, .int (nI ((max ea fb) + (sSe fl sh σk μk ld)))), (8, .int (nI eb)), (7, .int (nI ((max ea fb) + (sFi sh σk μk ld)))), (14, .int (nI ((max ea fb) + (sSe fl sh σk μk ld)))), (13, .int (nI (max ea fb))), (12, .ref (tr + 11 + μk)), (0, .ref q), (1, .int (nI νk)), (2, .int (nI μk)), (3, .int (nI ld)), (4, .int (nI t)), (5, .ref b), (6, .ref bk)]) X.1 X.2.1 dX11_turns_180 hl (k := 14) rfl (gn_inc (Eq.refl (nI k)) 1) (by decide) rfl (fun ls hl => ?_)
              refine lv_goto (tgt := 86) X.1 X.2.1 dX11_turns_183 (by decide) ?_
              have hfG5x : ∀ c j, ¬ kW tr c j → IG5 c j = Q9 c j := fun c j h => (by unfold kW at h; exact (hfG5 c j (by omega) (by omega) (by omega) (by omega)).trans (hfrP4 c j (by omega)))
              exact ih _ _ _ _ (by omega) ⟨νk, μk, _, sGo fl ti sh σk μk ld, eb, max ea fb + sSe fl sh σk μk ld, max ea fb + sFi sh σk μk ld, Or.inl ⟨rfl, rfl, rfl⟩, ⟨hAG5, hCG5, (sBd_le (K' := K + 300000 * (k + 1)) (sBd_go' hG hb9 hν ld) (by omega)), (fun i hi => (sGo_18 hν hi).trans (h18 i hi)), (by rw [sGo_1]; omega), htu.trans (tu_s (by omega) (by omega))⟩, ⟨heb, (by omega), (by omega), (by omega)⟩, (fun c j h => (hfG5x c j h).trans (hko9 c j h)), lv_sub hl [8, 9, 10, 11, 12, 13, 14, 4, 3, 2, 1, 0] rfl⟩ hP hS
            · have n129 : t < ((max ea fb) + (sSe fl sh σk μk ld)) := gq_nle c129 (Eq.refl (nI ((max ea fb) + (sSe fl sh σk μk ld)))) (Eq.refl (nI t)) (by omega) (by omega)
              refine lv_goto (tgt := 186) X.1 X.2.1 dX11_turns_132 (by decide) ?_
              refine lv_aload_n X.1 X.2.1 dX11_turns_186 rfl (lv_at hl 3 rfl) ?_
              refine g_getr 13 2 X hK hP hTq rfl hinRX11 rfl (by decide) k26 (fun _ h => h) dX11_turns_187 (show va_rf (RK1 q 2) = .ref tr from by rw [hR2]; rfl) ?_
              refine g_geti 12 9 X hK hP hTr.t0 rfl hinRX10 rfl (by decide) k83 (fun _ h => h) dX11_turns_190 (show IP4 tr 9 = nI (σk 1) from ((hfrP4 _ _ (by omega)).trans hAt.2.2.2.2.1)) ?_
              refine lv_aload_n X.1 X.2.1 dX11_turns_193 rfl (lv_at hl 3 rfl) ?_
              refine g_getr 13 0 X hK hP hTq rfl hinRX11 rfl (by decide) k17 (fun _ h => h) dX11_turns_194 (show va_rf (RK1 q 0) = .ref nw from by rw [hR0]; rfl) ?_
              refine g_geti 12 9 X hK hP hN.t0 rfl hinRX10 rfl (by decide) k83 (fun _ h => h) dX11_turns_197 (show IP4 nw 9 = nI (σ 1) from ((hfrP4 _ _ (by omega)).trans hA.2.2.2.2.1)) ?_
              refine lv_isub X.1 X.2.1 dX11_turns_200 ?_
              have he9 : sTu fl ti sh ld t 200 νk μk σ 0 0 0 = σk := htu.trans (tu_e (by omega) (by omega))
              exact g_iret (f := fun u => u) (z, T, IP4, RK1) X hr hlk hK hP hS dX11_turns_201 ⟨((gn_sub (Eq.refl (nI (σk 1))) (Eq.refl (nI (σ 1))) (by omega))).trans (by rw [he9]), IP4, RK1, rfl, (hQK1.kw htr hko9).k7 htr (fun c j h => hfrP4 c j (by omega))⟩
      · exact absurd (g_le (a := 0) (b := 999) (x := 0) (y := 999) rfl rfl (by omega) (by omega) (by omega)) (gt_1 c53)

end PQ