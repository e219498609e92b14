section PL
variable {l : Launch} {s0 : State} {D : va_G} {cy : Nat → ClassId} {B z : Nat} {T : Nat → Nat × Nat} {I : Nat → Nat → Int32} {R : Nat → Nat → Option Nat} {q nw kp tr : Nat} {σ : Nat → Nat} {K ti sh : Nat} {fl : List Nat}
theorem g_c16 : ∀ x, x < 128 → ((nI x).toUInt32 % 65536).toInt32 = nI x := by decide +kernel
theorem g_nc : ∀ x, x < 128 → vp_nar .char (nI x) = nI x := by decide +kernel
theorem ngI {n : Nat} (h : n ≤ 99) : (-nI n).toInt = -(n : Int) := by
  rw [Int32.toInt_neg, nI_toInt (by omega), Int.bmod_def]
  omega
theorem rest_v {t n : Nat} (ht : t ≤ 99) : (max 0 (min 99 ((t : Int) + -(n : Int)))).toNat = t - n := by omega

set_option maxHeartbeats 4000000 in
set_option maxRecDepth 100000 in
/-- t_earth_b -/
theorem t_earth_b (hTp : cTop q nw kp tr T R) (hNw : cNw q nw T I R σ fl ti sh) (hG : sGd fl ti sh) (hb : sBd σ K) {n : Int32} (hbad : ¬ (0 ≤ n ∧ n ≤ 999)) : Met l yX11_earth wsX11_earth ({ frames := 1, cells := 0, slots := 0, locals := 22 }) (va_Pc [.ref q, .int n] (gW0 s0 D cy B (z, T, I, R))) (va_Qi (fun r u => r = -2 ∧ (z, T, I, R) = u) (fun u t => gW1 D cy B u t) (gA B)) 0 0 (gA B) := by
  refine g_met (maxL := 3) (ret := (some .int)) (by decide) rfl (Nat.le_of_ble_eq_true rfl) (fun p e s m args below meth c ls X hr hlk hnm hK hP hC hS hl => ?_)
  have hl : lv_has ls 3 [(0, .ref q), (1, .int n)] := hl
  have hP : gP D cy B z T I R s.heap := hP
  have hB : B ≤ s.heap.size := by rw [hP.1]; exact hP.2.1
  have k17 : Cond.fieldLink RX11 17 "BarrowPlank" "now" "LBarrowPlank$Works;" ∈ wsX11_earth := by decide +kernel
  have k80 : Cond.fieldLink RX11 80 "BarrowPlank$Works" "earth" "I" ∈ wsX11_earth := by decide +kernel
  have hTp0 := hTp
  have hNw0 := hNw
  obtain ⟨hnw, hkp, htr, hTq, hR0, hR1, hR2, hR3, hR4, hN, hKp, hTr, hTrd, hTl⟩ := hTp
  obtain ⟨hA, hBb, hmen, hme, a, hsR, hst, hsi, hfa⟩ := hNw
  have h38 := hb.2.2.2.2.1
  have h0 := hb.1
  refine lv_iload_n X.1 X.2.1 dX11_earth_0 rfl (lv_at hl 1 rfl) ?_
  refine lv_iconst (v := 0) X.1 X.2.1 dX11_earth_1 (by decide) ?_
  refine lv_sipush (v := 999) X.1 X.2.1 dX11_earth_2 (by decide) ?_
  refine g_run_i (f := fun u => u) (g_runS [.int n, .int 0, .int 999] X hK hP hS hC hB (d_outside) (va_cwS 3 X.2.2.2.2 gX11_earth_X11_outside rfl rfl rfl (by decide +kernel) ⟨Nat.le_of_ble_eq_true rfl, Nat.le_of_ble_eq_true rfl⟩) rfl hl.1 rfl (Nat.le_of_ble_eq_true rfl) dX11_earth_5 (by exact ⟨Nat.zero_le _, Nat.zero_le _⟩)) hS (fun r u H locs hq hP hS => ?_)
  obtain ⟨rfl, rfl⟩ := hq
  have hP : gP D cy B z T I R H := hP
  refine lv_if_eq (tgt := 14) X.1 X.2.1 dX11_earth_8 (by decide) (fun c8 => ?_) (fun c8 => ?_)
  · exact absurd hbad (gt_0 c8)
  · refine lv_bipush (v := (-2)) X.1 X.2.1 dX11_earth_11 (by decide) ?_
    exact g_iret (f := fun u => u) (z, T, I, R) X hr hlk hK hP hS dX11_earth_13 ⟨rfl, rfl⟩

set_option maxHeartbeats 4000000 in
set_option maxRecDepth 100000 in
/-- t_earth -/
theorem t_earth (hTp : cTop q nw kp tr T R) (hNw : cNw q nw T I R σ fl ti sh) (hG : sGd fl ti sh) (hb : sBd σ K) {n : Nat} (hn : n ≤ 999) : Met l yX11_earth wsX11_earth ({ frames := 1, cells := 0, slots := 0, locals := 22 }) (va_Pc [.ref q, .int (nI n)] (gW0 s0 D cy B (z, T, I, R))) (va_Qi (fun r u => r = nI (σ 0) ∧ u = (z, T, g2 I nw 8 (nI n), R)) (fun u t => gW1 D cy B u t) (gA B)) 0 0 (gA B) := by
  refine g_met (maxL := 3) (ret := (some .int)) (by decide) rfl (Nat.le_of_ble_eq_true rfl) (fun p e s m args below meth c ls X hr hlk hnm hK hP hC hS hl => ?_)
  have hl : lv_has ls 3 [(0, .ref q), (1, .int (nI n))] := hl
  have hP : gP D cy B z T I R s.heap := hP
  have hB : B ≤ s.heap.size := by rw [hP.1]; exact hP.2.1
  have hinRX10 : ∀ w ∈ wsX100, w ∈ wsX11_earth := fun _ h => List.mem_cons_of_mem _ (List.mem_append_right _ h)
  have hinRX11 : ∀ w ∈ wsX110, w ∈ wsX11_earth := fun _ h => List.mem_cons_of_mem _ (List.mem_append_left _ (List.mem_append_right _ h))
  have k17 : Cond.fieldLink RX11 17 "BarrowPlank" "now" "LBarrowPlank$Works;" ∈ wsX11_earth := by decide +kernel
  have k80 : Cond.fieldLink RX11 80 "BarrowPlank$Works" "earth" "I" ∈ wsX11_earth := by decide +kernel
  have hTp0 := hTp
  have hNw0 := hNw
  obtain ⟨hnw, hkp, htr, hTq, hR0, hR1, hR2, hR3, hR4, hN, hKp, hTr, hTrd, hTl⟩ := hTp
  obtain ⟨hA, hBb, hmen, hme, a, hsR, hst, hsi, hfa⟩ := hNw
  have h38 := hb.2.2.2.2.1
  have h0 := hb.1
  refine lv_iload_n X.1 X.2.1 dX11_earth_0 rfl (lv_at hl 1 rfl) ?_
  refine lv_iconst (v := 0) X.1 X.2.1 dX11_earth_1 (by decide) ?_
  refine lv_sipush (v := 999) X.1 X.2.1 dX11_earth_2 (by decide) ?_
  refine g_run_i (f := fun u => u) (g_runS [.int (nI n), .int 0, .int 999] X hK hP hS hC hB (d_outside) (va_cwS 3 X.2.2.2.2 gX11_earth_X11_outside rfl rfl rfl (by decide +kernel) ⟨Nat.le_of_ble_eq_true rfl, Nat.le_of_ble_eq_true rfl⟩) rfl hl.1 rfl (Nat.le_of_ble_eq_true rfl) dX11_earth_5 (by exact ⟨Nat.zero_le _, Nat.zero_le _⟩)) hS (fun r u H locs hq hP hS => ?_)
  obtain ⟨rfl, rfl⟩ := hq
  have hP : gP D cy B z T I R H := hP
  refine lv_if_eq (tgt := 14) X.1 X.2.1 dX11_earth_8 (by decide) (fun c8 => ?_) (fun c8 => ?_)
  · refine lv_aload_n X.1 X.2.1 dX11_earth_14 rfl (lv_at hl 0 rfl) ?_
    refine g_getr 13 0 X hK hP hTq rfl hinRX11 rfl (by decide) k17 (fun _ h => h) dX11_earth_15 (show va_rf (R q 0) = .ref nw from by rw [hR0]; rfl) ?_
    refine g_geti 12 8 X hK hP hN.t0 rfl hinRX10 rfl (by decide) k80 (fun _ h => h) dX11_earth_18 (show I nw 8 = nI (σ 0) from hA.2.2.2.1) ?_
    refine lv_istore_n (lv' := [(2, .int (nI (σ 0))), (0, .ref q), (1, .int (nI n))]) X.1 X.2.1 dX11_earth_21 rfl hl (by decide) rfl (fun ls hl => ?_)
    refine lv_aload_n X.1 X.2.1 dX11_earth_22 rfl (lv_at hl 1 rfl) ?_
    refine g_getr 13 0 X hK hP hTq rfl hinRX11 rfl (by decide) k17 (fun _ h => h) dX11_earth_23 (show va_rf (R q 0) = .ref nw from by rw [hR0]; rfl) ?_
    refine lv_iload_n X.1 X.2.1 dX11_earth_26 rfl (lv_at hl 2 rfl) ?_
    refine g_puti 12 8 X hK hP hS hN.t0 rfl hinRX10 tyX10 tyX10_ok nmX10 rfl (by decide) k80 (fun _ h => h) rfl rfl rfl dX11_earth_27 (fun H locs hP hS => ?_)
    generalize eI1 : g2 I nw 8 (nI n) = I1 at hP
    refine lv_iload_n X.1 X.2.1 dX11_earth_30 rfl (lv_at hl 0 rfl) ?_
    exact g_iret (f := fun u => u) (z, T, I1, R) X hr hlk hK hP hS dX11_earth_31 ⟨rfl, (by rw [← eI1])⟩
  · exact absurd (g_le (a := 0) (b := 999) (x := 0) (y := 999) rfl rfl (by omega) (by omega) (by omega)) (gt_1 c8)

set_option maxHeartbeats 4000000 in
set_option maxRecDepth 100000 in
/-- t_told_0 -/
theorem t_told_0 (hTp : cTop q nw kp tr T R) (hNw : cNw q nw T I R σ fl ti sh) (hG : sGd fl ti sh) (hb : sBd σ K)  : Met l yX11_told wsX11_told ({ frames := 0, cells := 0, slots := 0, locals := 0 }) (va_Pc [.ref q, .int 0] (gW0 s0 D cy B (z, T, I, R))) (va_Qi (fun r u => r = nI (σ 0) ∧ (z, T, I, R) = u) (fun u t => gW1 D cy B u t) (gA B)) 0 0 (gA B) := by
  refine g_met (maxL := 2) (ret := (some .int)) (by decide) rfl (Nat.le_of_ble_eq_true rfl) (fun p e s m args below meth c ls X hr hlk hnm hK hP hC hS hl => ?_)
  have hl : lv_has ls 2 [(0, .ref q), (1, .int 0)] := hl
  have hP : gP D cy B z T I R s.heap := hP
  have hB : B ≤ s.heap.size := by rw [hP.1]; exact hP.2.1
  have hinRX10 : ∀ w ∈ wsX100, w ∈ wsX11_told := fun _ h => List.mem_cons_of_mem _ (List.mem_append_left _ (List.mem_append_right _ h))
  have hinRX11 : ∀ w ∈ wsX110, w ∈ wsX11_told := fun _ h => List.mem_cons_of_mem _ (List.mem_append_left _ (List.mem_append_left _ (List.mem_append_right _ h)))
  have k17 : Cond.fieldLink RX11 17 "BarrowPlank" "now" "LBarrowPlank$Works;" ∈ wsX11_told := by decide +kernel
  have k80 : Cond.fieldLink RX11 80 "BarrowPlank$Works" "earth" "I" ∈ wsX11_told := by decide +kernel
  have k83 : Cond.fieldLink RX11 83 "BarrowPlank$Works" "over" "I" ∈ wsX11_told := by decide +kernel
  have k86 : Cond.fieldLink RX11 86 "BarrowPlank$Works" "second" "I" ∈ wsX11_told := by decide +kernel
  have k89 : Cond.fieldLink RX11 89 "BarrowPlank$Works" "rounds" "I" ∈ wsX11_told := by decide +kernel
  have k92 : Cond.fieldLink RX11 92 "BarrowPlank$Works" "site" "LBarrowPlank$Site;" ∈ wsX11_told := by decide +kernel
  have k96 : Cond.fieldLink RX11 96 "BarrowPlank$Site" "tire" "I" ∈ wsX11_told := by decide +kernel
  have k99 : Cond.fieldLink RX11 99 "BarrowPlank$Site" "shovel" "I" ∈ wsX11_told := by decide +kernel
  have hTp0 := hTp
  have hNw0 := hNw
  obtain ⟨hnw, hkp, htr, hTq, hR0, hR1, hR2, hR3, hR4, hN, hKp, hTr, hTrd, hTl⟩ := hTp
  obtain ⟨hA, hBb, hmen, hme, a, hsR, hst, hsi, hfa⟩ := hNw
  have h38 := hb.2.2.2.2.1
  have h0 := hb.1
  refine lv_iload_n X.1 X.2.1 dX11_told_0 rfl (lv_at hl 1 rfl) ?_
  refine lv_tableIn (off := 39) (tgt := 40) X.1 X.2.1 dX11_told_1 (by decide) (by decide) (by decide) (by decide) ?_
  refine lv_aload_n X.1 X.2.1 dX11_told_40 rfl (lv_at hl 0 rfl) ?_
  refine g_getr 13 0 X hK hP hTq rfl hinRX11 rfl (by decide) k17 (fun _ h => h) dX11_told_41 (show va_rf (R q 0) = .ref nw from by rw [hR0]; rfl) ?_
  refine g_geti 12 8 X hK hP hN.t0 rfl hinRX10 rfl (by decide) k80 (fun _ h => h) dX11_told_44 (show I nw 8 = nI (σ 0) from hA.2.2.2.1) ?_
  exact g_iret (f := fun u => u) (z, T, I, R) X hr hlk hK hP hS dX11_told_47 ⟨rfl, rfl⟩

set_option maxHeartbeats 4000000 in
set_option maxRecDepth 100000 in
/-- t_told_1 -/
theorem t_told_1 (hTp : cTop q nw kp tr T R) (hNw : cNw q nw T I R σ fl ti sh) (hG : sGd fl ti sh) (hb : sBd σ K)  : Met l yX11_told wsX11_told ({ frames := 0, cells := 0, slots := 0, locals := 0 }) (va_Pc [.ref q, .int 1] (gW0 s0 D cy B (z, T, I, R))) (va_Qi (fun r u => r = nI (σ 1) ∧ (z, T, I, R) = u) (fun u t => gW1 D cy B u t) (gA B)) 0 0 (gA B) := by
  refine g_met (maxL := 2) (ret := (some .int)) (by decide) rfl (Nat.le_of_ble_eq_true rfl) (fun p e s m args below meth c ls X hr hlk hnm hK hP hC hS hl => ?_)
  have hl : lv_has ls 2 [(0, .ref q), (1, .int 1)] := hl
  have hP : gP D cy B z T I R s.heap := hP
  have hB : B ≤ s.heap.size := by rw [hP.1]; exact hP.2.1
  have hinRX10 : ∀ w ∈ wsX100, w ∈ wsX11_told := fun _ h => List.mem_cons_of_mem _ (List.mem_append_left _ (List.mem_append_right _ h))
  have hinRX11 : ∀ w ∈ wsX110, w ∈ wsX11_told := fun _ h => List.mem_cons_of_mem _ (List.mem_append_left _ (List.mem_append_left _ (List.mem_append_right _ h)))
  have k17 : Cond.fieldLink RX11 17 "BarrowPlank" "now" "LBarrowPlank$Works;" ∈ wsX11_told := by decide +kernel
  have k80 : Cond.fieldLink RX11 80 "BarrowPlank$Works" "earth" "I" ∈ wsX11_told := by decide +kernel
  have k83 : Cond.fieldLink RX11 83 "BarrowPlank$Works" "over" "I" ∈ wsX11_told := by decide +kernel
  have k86 : Cond.fieldLink RX11 86 "BarrowPlank$Works" "second" "I" ∈ wsX11_told := by decide +kernel
  have k89 : Cond.fieldLink RX11 89 "BarrowPlank$Works" "rounds" "I" ∈ wsX11_told := by decide +kernel
  have k92 : Cond.fieldLink RX11 92 "BarrowPlank$Works" "site" "LBarrowPlank$Site;" ∈ wsX11_told := by decide +kernel
  have k96 : Cond.fieldLink RX11 96 "BarrowPlank$Site" "tire" "I" ∈ wsX11_told := by decide +kernel
  have k99 : Cond.fieldLink RX11 99 "BarrowPlank$Site" "shovel" "I" ∈ wsX11_told := by decide +kernel
  have hTp0 := hTp
  have hNw0 := hNw
  obtain ⟨hnw, hkp, htr, hTq, hR0, hR1, hR2, hR3, hR4, hN, hKp, hTr, hTrd, hTl⟩ := hTp
  obtain ⟨hA, hBb, hmen, hme, a, hsR, hst, hsi, hfa⟩ := hNw
  have h38 := hb.2.2.2.2.1
  have h0 := hb.1
  refine lv_iload_n X.1 X.2.1 dX11_told_0 rfl (lv_at hl 1 rfl) ?_
  refine lv_tableIn (off := 47) (tgt := 48) X.1 X.2.1 dX11_told_1 (by decide) (by decide) (by decide) (by decide) ?_
  refine lv_aload_n X.1 X.2.1 dX11_told_48 rfl (lv_at hl 0 rfl) ?_
  refine g_getr 13 0 X hK hP hTq rfl hinRX11 rfl (by decide) k17 (fun _ h => h) dX11_told_49 (show va_rf (R q 0) = .ref nw from by rw [hR0]; rfl) ?_
  refine g_geti 12 9 X hK hP hN.t0 rfl hinRX10 rfl (by decide) k83 (fun _ h => h) dX11_told_52 (show I nw 9 = nI (σ 1) from hA.2.2.2.2.1) ?_
  exact g_iret (f := fun u => u) (z, T, I, R) X hr hlk hK hP hS dX11_told_55 ⟨rfl, rfl⟩

set_option maxHeartbeats 4000000 in
set_option maxRecDepth 100000 in
/-- t_told_2 -/
theorem t_told_2 (hTp : cTop q nw kp tr T R) (hNw : cNw q nw T I R σ fl ti sh) (hG : sGd fl ti sh) (hb : sBd σ K)  : Met l yX11_told wsX11_told ({ frames := 0, cells := 0, slots := 0, locals := 0 }) (va_Pc [.ref q, .int 2] (gW0 s0 D cy B (z, T, I, R))) (va_Qi (fun r u => r = nI (σ 2) ∧ (z, T, I, R) = u) (fun u t => gW1 D cy B u t) (gA B)) 0 0 (gA B) := by
  refine g_met (maxL := 2) (ret := (some .int)) (by decide) rfl (Nat.le_of_ble_eq_true rfl) (fun p e s m args below meth c ls X hr hlk hnm hK hP hC hS hl => ?_)
  have hl : lv_has ls 2 [(0, .ref q), (1, .int 2)] := hl
  have hP : gP D cy B z T I R s.heap := hP
  have hB : B ≤ s.heap.size := by rw [hP.1]; exact hP.2.1
  have hinRX10 : ∀ w ∈ wsX100, w ∈ wsX11_told := fun _ h => List.mem_cons_of_mem _ (List.mem_append_left _ (List.mem_append_right _ h))
  have hinRX11 : ∀ w ∈ wsX110, w ∈ wsX11_told := fun _ h => List.mem_cons_of_mem _ (List.mem_append_left _ (List.mem_append_left _ (List.mem_append_right _ h)))
  have k17 : Cond.fieldLink RX11 17 "BarrowPlank" "now" "LBarrowPlank$Works;" ∈ wsX11_told := by decide +kernel
  have k80 : Cond.fieldLink RX11 80 "BarrowPlank$Works" "earth" "I" ∈ wsX11_told := by decide +kernel
  have k83 : Cond.fieldLink RX11 83 "BarrowPlank$Works" "over" "I" ∈ wsX11_told := by decide +kernel
  have k86 : Cond.fieldLink RX11 86 "BarrowPlank$Works" "second" "I" ∈ wsX11_told := by decide +kernel
  have k89 : Cond.fieldLink RX11 89 "BarrowPlank$Works" "rounds" "I" ∈ wsX11_told := by decide +kernel
  have k92 : Cond.fieldLink RX11 92 "BarrowPlank$Works" "site" "LBarrowPlank$Site;" ∈ wsX11_told := by decide +kernel
  have k96 : Cond.fieldLink RX11 96 "BarrowPlank$Site" "tire" "I" ∈ wsX11_told := by decide +kernel
  have k99 : Cond.fieldLink RX11 99 "BarrowPlank$Site" "shovel" "I" ∈ wsX11_told := by decide +kernel
  have hTp0 := hTp
  have hNw0 := hNw
  obtain ⟨hnw, hkp, htr, hTq, hR0, hR1, hR2, hR3, hR4, hN, hKp, hTr, hTrd, hTl⟩ := hTp
  obtain ⟨hA, hBb, hmen, hme, a, hsR, hst, hsi, hfa⟩ := hNw
  have h38 := hb.2.2.2.2.1
  have h0 := hb.1
  refine lv_iload_n X.1 X.2.1 dX11_told_0 rfl (lv_at hl 1 rfl) ?_
  refine lv_tableIn (off := 55) (tgt := 56) X.1 X.2.1 dX11_told_1 (by decide) (by decide) (by decide) (by decide) ?_
  refine lv_aload_n X.1 X.2.1 dX11_told_56 rfl (lv_at hl 0 rfl) ?_
  refine g_getr 13 0 X hK hP hTq rfl hinRX11 rfl (by decide) k17 (fun _ h => h) dX11_told_57 (show va_rf (R q 0) = .ref nw from by rw [hR0]; rfl) ?_
  refine g_geti 12 10 X hK hP hN.t0 rfl hinRX10 rfl (by decide) k86 (fun _ h => h) dX11_told_60 (show I nw 10 = nI (σ 2) from hA.2.2.2.2.2.1) ?_
  exact g_iret (f := fun u => u) (z, T, I, R) X hr hlk hK hP hS dX11_told_63 ⟨rfl, rfl⟩

set_option maxHeartbeats 4000000 in
set_option maxRecDepth 100000 in
/-- t_told_3 -/
theorem t_told_3 (hTp : cTop q nw kp tr T R) (hNw : cNw q nw T I R σ fl ti sh) (hG : sGd fl ti sh) (hb : sBd σ K)  : Met l yX11_told wsX11_told ({ frames := 0, cells := 0, slots := 0, locals := 0 }) (va_Pc [.ref q, .int 3] (gW0 s0 D cy B (z, T, I, R))) (va_Qi (fun r u => r = nI (σ 3) ∧ (z, T, I, R) = u) (fun u t => gW1 D cy B u t) (gA B)) 0 0 (gA B) := by
  refine g_met (maxL := 2) (ret := (some .int)) (by decide) rfl (Nat.le_of_ble_eq_true rfl) (fun p e s m args below meth c ls X hr hlk hnm hK hP hC hS hl => ?_)
  have hl : lv_has ls 2 [(0, .ref q), (1, .int 3)] := hl
  have hP : gP D cy B z T I R s.heap := hP
  have hB : B ≤ s.heap.size := by rw [hP.1]; exact hP.2.1
  have hinRX10 : ∀ w ∈ wsX100, w ∈ wsX11_told := fun _ h => List.mem_cons_of_mem _ (List.mem_append_left _ (List.mem_append_right _ h))
  have hinRX11 : ∀ w ∈ wsX110, w ∈ wsX11_told := fun _ h => List.mem_cons_of_mem _ (List.mem_append_left _ (List.mem_append_left _ (List.mem_append_right _ h)))
  have k17 : Cond.fieldLink RX11 17 "BarrowPlank" "now" "LBarrowPlank$Works;" ∈ wsX11_told := by decide +kernel
  have k80 : Cond.fieldLink RX11 80 "BarrowPlank$Works" "earth" "I" ∈ wsX11_told := by decide +kernel
  have k83 : Cond.fieldLink RX11 83 "BarrowPlank$Works" "over" "I" ∈ wsX11_told := by decide +kernel
  have k86 : Cond.fieldLink RX11 86 "BarrowPlank$Works" "second" "I" ∈ wsX11_told := by decide +kernel
  have k89 : Cond.fieldLink RX11 89 "BarrowPlank$Works" "rounds" "I" ∈ wsX11_told := by decide +kernel
  have k92 : Cond.fieldLink RX11 92 "BarrowPlank$Works" "site" "LBarrowPlank$Site;" ∈ wsX11_told := by decide +kernel
  have k96 : Cond.fieldLink RX11 96 "BarrowPlank$Site" "tire" "I" ∈ wsX11_told := by decide +kernel
  have k99 : Cond.fieldLink RX11 99 "BarrowPlank$Site" "shovel" "I" ∈ wsX11_told := by decide +kernel
  have hTp0 := hTp
  have hNw0 := hNw
  obtain ⟨hnw, hkp, htr, hTq, hR0, hR1, hR2, hR3, hR4, hN, hKp, hTr, hTrd, hTl⟩ := hTp
  obtain ⟨hA, hBb, hmen, hme, a, hsR, hst, hsi, hfa⟩ := hNw
  have h38 := hb.2.2.2.2.1
  have h0 := hb.1
  refine lv_iload_n X.1 X.2.1 dX11_told_0 rfl (lv_at hl 1 rfl) ?_
  refine lv_tableIn (off := 63) (tgt := 64) X.1 X.2.1 dX11_told_1 (by decide) (by decide) (by decide) (by decide) ?_
  refine lv_aload_n X.1 X.2.1 dX11_told_64 rfl (lv_at hl 0 rfl) ?_
  refine g_getr 13 0 X hK hP hTq rfl hinRX11 rfl (by decide) k17 (fun _ h => h) dX11_told_65 (show va_rf (R q 0) = .ref nw from by rw [hR0]; rfl) ?_
  refine g_geti 12 11 X hK hP hN.t0 rfl hinRX10 rfl (by decide) k89 (fun _ h => h) dX11_told_68 (show I nw 11 = nI (σ 3) from hA.2.2.2.2.2.2.1) ?_
  exact g_iret (f := fun u => u) (z, T, I, R) X hr hlk hK hP hS dX11_told_71 ⟨rfl, rfl⟩

set_option maxHeartbeats 4000000 in
set_option maxRecDepth 100000 in
/-- t_told_4 -/
theorem t_told_4 (hTp : cTop q nw kp tr T R) (hNw : cNw q nw T I R σ fl ti sh) (hG : sGd fl ti sh) (hb : sBd σ K)  : Met l yX11_told wsX11_told ({ frames := 0, cells := 0, slots := 0, locals := 0 }) (va_Pc [.ref q, .int 4] (gW0 s0 D cy B (z, T, I, R))) (va_Qi (fun r u => r = nI ti ∧ (z, T, I, R) = u) (fun u t => gW1 D cy B u t) (gA B)) 0 0 (gA B) := by
  refine g_met (maxL := 2) (ret := (some .int)) (by decide) rfl (Nat.le_of_ble_eq_true rfl) (fun p e s m args below meth c ls X hr hlk hnm hK hP hC hS hl => ?_)
  have hl : lv_has ls 2 [(0, .ref q), (1, .int 4)] := hl
  have hP : gP D cy B z T I R s.heap := hP
  have hB : B ≤ s.heap.size := by rw [hP.1]; exact hP.2.1
  have hinRX10 : ∀ w ∈ wsX100, w ∈ wsX11_told := fun _ h => List.mem_cons_of_mem _ (List.mem_append_left _ (List.mem_append_right _ h))
  have hinRX11 : ∀ w ∈ wsX110, w ∈ wsX11_told := fun _ h => List.mem_cons_of_mem _ (List.mem_append_left _ (List.mem_append_left _ (List.mem_append_right _ h)))
  have hinRX4 : ∀ w ∈ wsX40, w ∈ wsX11_told := fun _ h => List.mem_cons_of_mem _ (List.mem_append_right _ h)
  have k17 : Cond.fieldLink RX11 17 "BarrowPlank" "now" "LBarrowPlank$Works;" ∈ wsX11_told := by decide +kernel
  have k80 : Cond.fieldLink RX11 80 "BarrowPlank$Works" "earth" "I" ∈ wsX11_told := by decide +kernel
  have k83 : Cond.fieldLink RX11 83 "BarrowPlank$Works" "over" "I" ∈ wsX11_told := by decide +kernel
  have k86 : Cond.fieldLink RX11 86 "BarrowPlank$Works" "second" "I" ∈ wsX11_told := by decide +kernel
  have k89 : Cond.fieldLink RX11 89 "BarrowPlank$Works" "rounds" "I" ∈ wsX11_told := by decide +kernel
  have k92 : Cond.fieldLink RX11 92 "BarrowPlank$Works" "site" "LBarrowPlank$Site;" ∈ wsX11_told := by decide +kernel
  have k96 : Cond.fieldLink RX11 96 "BarrowPlank$Site" "tire" "I" ∈ wsX11_told := by decide +kernel
  have k99 : Cond.fieldLink RX11 99 "BarrowPlank$Site" "shovel" "I" ∈ wsX11_told := by decide +kernel
  have hTp0 := hTp
  have hNw0 := hNw
  obtain ⟨hnw, hkp, htr, hTq, hR0, hR1, hR2, hR3, hR4, hN, hKp, hTr, hTrd, hTl⟩ := hTp
  obtain ⟨hA, hBb, hmen, hme, a, hsR, hst, hsi, hfa⟩ := hNw
  have h38 := hb.2.2.2.2.1
  have h0 := hb.1
  refine lv_iload_n X.1 X.2.1 dX11_told_0 rfl (lv_at hl 1 rfl) ?_
  refine lv_tableIn (off := 71) (tgt := 72) X.1 X.2.1 dX11_told_1 (by decide) (by decide) (by decide) (by decide) ?_
  refine lv_aload_n X.1 X.2.1 dX11_told_72 rfl (lv_at hl 0 rfl) ?_
  refine g_getr 13 0 X hK hP hTq rfl hinRX11 rfl (by decide) k17 (fun _ h => h) dX11_told_73 (show va_rf (R q 0) = .ref nw from by rw [hR0]; rfl) ?_
  refine g_getr 12 12 X hK hP hN.t0 rfl hinRX10 rfl (by decide) k92 (fun _ h => h) dX11_told_76 (show va_rf (R nw 12) = .ref a from by rw [hsR]; rfl) ?_
  refine g_geti 6 0 X hK hP hst.1 rfl hinRX4 rfl (by decide) k96 (fun _ h => h) dX11_told_79 (show I a 0 = nI ti from hsi.1) ?_
  exact g_iret (f := fun u => u) (z, T, I, R) X hr hlk hK hP hS dX11_told_82 ⟨rfl, rfl⟩

set_option maxHeartbeats 4000000 in
set_option maxRecDepth 100000 in
/-- t_told_5 -/
theorem t_told_5 (hTp : cTop q nw kp tr T R) (hNw : cNw q nw T I R σ fl ti sh) (hG : sGd fl ti sh) (hb : sBd σ K)  : Met l yX11_told wsX11_told ({ frames := 0, cells := 0, slots := 0, locals := 0 }) (va_Pc [.ref q, .int 5] (gW0 s0 D cy B (z, T, I, R))) (va_Qi (fun r u => r = nI sh ∧ (z, T, I, R) = u) (fun u t => gW1 D cy B u t) (gA B)) 0 0 (gA B) := by
  refine g_met (maxL := 2) (ret := (some .int)) (by decide) rfl (Nat.le_of_ble_eq_true rfl) (fun p e s m args below meth c ls X hr hlk hnm hK hP hC hS hl => ?_)
  have hl : lv_has ls 2 [(0, .ref q), (1, .int 5)] := hl
  have hP : gP D cy B z T I R s.heap := hP
  have hB : B ≤ s.heap.size := by rw [hP.1]; exact hP.2.1
  have hinRX10 : ∀ w ∈ wsX100, w ∈ wsX11_told := fun _ h => List.mem_cons_of_mem _ (List.mem_append_left _ (List.mem_append_right _ h))
  have hinRX11 : ∀ w ∈ wsX110, w ∈ wsX11_told := fun _ h => List.mem_cons_of_mem _ (List.mem_append_left _ (List.mem_append_left _ (List.mem_append_right _ h)))
  have hinRX4 : ∀ w ∈ wsX40, w ∈ wsX11_told := fun _ h => List.mem_cons_of_mem _ (List.mem_append_right _ h)
  have k17 : Cond.fieldLink RX11 17 "BarrowPlank" "now" "LBarrowPlank$Works;" ∈ wsX11_told := by decide +kernel
  have k80 : Cond.fieldLink RX11 80 "BarrowPlank$Works" "earth" "I" ∈ wsX11_told := by decide +kernel
  have k83 : Cond.fieldLink RX11 83 "BarrowPlank$Works" "over" "I" ∈ wsX11_told := by decide +kernel
  have k86 : Cond.fieldLink RX11 86 "BarrowPlank$Works" "second" "I" ∈ wsX11_told := by decide +kernel
  have k89 : Cond.fieldLink RX11 89 "BarrowPlank$Works" "rounds" "I" ∈ wsX11_told := by decide +kernel
  have k92 : Cond.fieldLink RX11 92 "BarrowPlank$Works" "site" "LBarrowPlank$Site;" ∈ wsX11_told := by decide +kernel
  have k96 : Cond.fieldLink RX11 96 "BarrowPlank$Site" "tire" "I" ∈ wsX11_told := by decide +kernel
  have k99 : Cond.fieldLink RX11 99 "BarrowPlank$Site" "shovel" "I" ∈ wsX11_told := by decide +kernel
  have hTp0 := hTp
  have hNw0 := hNw
  obtain ⟨hnw, hkp, htr, hTq, hR0, hR1, hR2, hR3, hR4, hN, hKp, hTr, hTrd, hTl⟩ := hTp
  obtain ⟨hA, hBb, hmen, hme, a, hsR, hst, hsi, hfa⟩ := hNw
  have h38 := hb.2.2.2.2.1
  have h0 := hb.1
  refine lv_iload_n X.1 X.2.1 dX11_told_0 rfl (lv_at hl 1 rfl) ?_
  refine lv_tableIn (off := 82) (tgt := 83) X.1 X.2.1 dX11_told_1 (by decide) (by decide) (by decide) (by decide) ?_
  refine lv_aload_n X.1 X.2.1 dX11_told_83 rfl (lv_at hl 0 rfl) ?_
  refine g_getr 13 0 X hK hP hTq rfl hinRX11 rfl (by decide) k17 (fun _ h => h) dX11_told_84 (show va_rf (R q 0) = .ref nw from by rw [hR0]; rfl) ?_
  refine g_getr 12 12 X hK hP hN.t0 rfl hinRX10 rfl (by decide) k92 (fun _ h => h) dX11_told_87 (show va_rf (R nw 12) = .ref a from by rw [hsR]; rfl) ?_
  refine g_geti 6 1 X hK hP hst.1 rfl hinRX4 rfl (by decide) k99 (fun _ h => h) dX11_told_90 (show I a 1 = nI sh from hsi.2.1) ?_
  exact g_iret (f := fun u => u) (z, T, I, R) X hr hlk hK hP hS dX11_told_93 ⟨rfl, rfl⟩

set_option maxHeartbeats 4000000 in
set_option maxRecDepth 100000 in
/-- t_told_n -/
theorem t_told_n (hTp : cTop q nw kp tr T R) (hNw : cNw q nw T I R σ fl ti sh) (hG : sGd fl ti sh) (hb : sBd σ K) {x : Int32} (hx : x.toInt < 0 ∨ 5 < x.toInt) : Met l yX11_told wsX11_told ({ frames := 0, cells := 0, slots := 0, locals := 0 }) (va_Pc [.ref q, .int x] (gW0 s0 D cy B (z, T, I, R))) (va_Qi (fun r u => r = -1 ∧ (z, T, I, R) = u) (fun u t => gW1 D cy B u t) (gA B)) 0 0 (gA B) := by
  refine g_met (maxL := 2) (ret := (some .int)) (by decide) rfl (Nat.le_of_ble_eq_true rfl) (fun p e s m args below meth c ls X hr hlk hnm hK hP hC hS hl => ?_)
  have hl : lv_has ls 2 [(0, .ref q), (1, .int x)] := hl
  have hP : gP D cy B z T I R s.heap := hP
  have hB : B ≤ s.heap.size := by rw [hP.1]; exact hP.2.1
  have k17 : Cond.fieldLink RX11 17 "BarrowPlank" "now" "LBarrowPlank$Works;" ∈ wsX11_told := by decide +kernel
  have k80 : Cond.fieldLink RX11 80 "BarrowPlank$Works" "earth" "I" ∈ wsX11_told := by decide +kernel
  have k83 : Cond.fieldLink RX11 83 "BarrowPlank$Works" "over" "I" ∈ wsX11_told := by decide +kernel
  have k86 : Cond.fieldLink RX11 86 "BarrowPlank$Works" "second" "I" ∈ wsX11_told := by decide +kernel
  have k89 : Cond.fieldLink RX11 89 "BarrowPlank$Works" "rounds" "I" ∈ wsX11_told := by decide +kernel
  have k92 : Cond.fieldLink RX11 92 "BarrowPlank$Works" "site" "LBarrowPlank$Site;" ∈ wsX11_told := by decide +kernel
  have k96 : Cond.fieldLink RX11 96 "BarrowPlank$Site" "tire" "I" ∈ wsX11_told := by decide +kernel
  have k99 : Cond.fieldLink RX11 99 "BarrowPlank$Site" "shovel" "I" ∈ wsX11_told := by decide +kernel
  have hTp0 := hTp
  have hNw0 := hNw
  obtain ⟨hnw, hkp, htr, hTq, hR0, hR1, hR2, hR3, hR4, hN, hKp, hTr, hTrd, hTl⟩ := hTp
  obtain ⟨hA, hBb, hmen, hme, a, hsR, hst, hsi, hfa⟩ := hNw
  have h38 := hb.2.2.2.2.1
  have h0 := hb.1
  refine lv_iload_n X.1 X.2.1 dX11_told_0 rfl (lv_at hl 1 rfl) ?_
  refine lv_tableOut (tgt := 94) X.1 X.2.1 dX11_told_1 hx (by decide) ?_
  refine lv_iconst (v := (-1)) X.1 X.2.1 dX11_told_94 (by decide) ?_
  exact g_iret (f := fun u => u) (z, T, I, R) X hr hlk hK hP hS dX11_told_95 ⟨rfl, rfl⟩

set_option maxHeartbeats 4000000 in
set_option maxRecDepth 100000 in
/-- t_of_n -/
theorem t_of_n (hTp : cTop q nw kp tr T R) (hNw : cNw q nw T I R σ fl ti sh) (hG : sGd fl ti sh) (hb : sBd σ K) {v : Int32} (hno : ¬ (0 ≤ v ∧ v ≤ nI (σ 38) - 1)) (x : Int32) : Met l yX11_of wsX11_of ({ frames := 1, cells := 0, slots := 0, locals := 21 }) (va_Pc [.ref q, .int v, .int x] (gW0 s0 D cy B (z, T, I, R))) (va_Qi (fun r u => r = -1 ∧ (z, T, I, R) = u) (fun u t => gW1 D cy B u t) (gA B)) 0 0 (gA B) := by
  refine g_met (maxL := 4) (ret := (some .int)) (by decide) rfl (Nat.le_of_ble_eq_true rfl) (fun p e s m args below meth c ls X hr hlk hnm hK hP hC hS hl => ?_)
  have hl : lv_has ls 4 [(0, .ref q), (1, .int v), (2, .int x)] := hl
  have hP : gP D cy B z T I R s.heap := hP
  have hB : B ≤ s.heap.size := by rw [hP.1]; exact hP.2.1
  have hinRX11 : ∀ w ∈ wsX110, w ∈ wsX11_of := fun _ h => List.mem_cons_of_mem _ (List.mem_append_left _ (List.mem_append_left _ (List.mem_append_left _ (List.mem_append_left _ (List.mem_append_left _ (List.mem_append_left _ (List.mem_append_left _ (List.mem_append_left _ (List.mem_append_right _ h)))))))))
  have k17 : Cond.fieldLink RX11 17 "BarrowPlank" "now" "LBarrowPlank$Works;" ∈ wsX11_of := by decide +kernel
  have k119 : Cond.fieldLink RX11 119 "BarrowPlank$Man" "kind" "I" ∈ wsX11_of := by decide +kernel
  have k122 : Cond.fieldLink RX11 122 "BarrowPlank$Man" "v" "I" ∈ wsX11_of := by decide +kernel
  have k125 : Cond.fieldLink RX11 125 "BarrowPlank$Man" "strong" "I" ∈ wsX11_of := by decide +kernel
  have k128 : Cond.fieldLink RX11 128 "BarrowPlank$Works" "tired" "[I" ∈ wsX11_of := by decide +kernel
  have k132 : Cond.fieldLink RX11 132 "BarrowPlank$Man" "number" "I" ∈ wsX11_of := by decide +kernel
  have hTp0 := hTp
  have hNw0 := hNw
  obtain ⟨hnw, hkp, htr, hTq, hR0, hR1, hR2, hR3, hR4, hN, hKp, hTr, hTrd, hTl⟩ := hTp
  obtain ⟨hA, hBb, hmen, hme, a, hsR, hst, hsi, hfa⟩ := hNw
  have h38 := hb.2.2.2.2.1
  have h0 := hb.1
  refine lv_aload_n X.1 X.2.1 dX11_of_0 rfl (lv_at hl 0 rfl) ?_
  refine g_getr 13 0 X hK hP hTq rfl hinRX11 rfl (by decide) k17 (fun _ h => h) dX11_of_1 (show va_rf (R q 0) = .ref nw from by rw [hR0]; rfl) ?_
  refine lv_iload_n X.1 X.2.1 dX11_of_4 rfl (lv_at hl 1 rfl) ?_
  refine g_run_q (f := fun u => u) (g_runV (k := 12) [.int v] X hK hP hS hC hB (d_find_n (σ := σ) hN (hA.2.2.1) h38 hno) (cwV 1 X.2.2.2.2 gX11_of_X10_find rfl rfl rfl (by decide +kernel) ⟨Nat.le_of_ble_eq_true rfl, Nat.le_of_ble_eq_true rfl⟩) hN.t0 rfl rfl hl.1 rfl (Nat.le_of_ble_eq_true rfl) dX11_of_5 (by exact ⟨Nat.zero_le _, Nat.zero_le _⟩)) hS (fun r u H locs hq hP hS => ?_)
  obtain ⟨rfl, rfl⟩ := hq
  have hP : gP D cy B z T I R H := hP
  refine lv_astore_nN (lv' := [(3, .null), (0, .ref q), (1, .int v), (2, .int x)]) X.1 X.2.1 dX11_of_8 rfl hl (by decide) rfl (fun ls hl => ?_)
  refine lv_aload_nN X.1 X.2.1 dX11_of_9 rfl (lv_at hl 0 rfl) ?_
  refine lv_ifnonnullN X.1 X.2.1 dX11_of_10 ?_
  refine lv_iconst (v := (-1)) X.1 X.2.1 dX11_of_13 (by decide) ?_
  exact g_iret (f := fun u => u) (z, T, I, R) X hr hlk hK hP hS dX11_of_14 ⟨rfl, rfl⟩

set_option maxHeartbeats 4000000 in
set_option maxRecDepth 100000 in
/-- t_of_0 -/
theorem t_of_0 (hTp : cTop q nw kp tr T R) (hNw : cNw q nw T I R σ fl ti sh) (hG : sGd fl ti sh) (hb : sBd σ K) {μ : Nat} (hμn : μ < σ 38) : Met l yX11_of wsX11_of ({ frames := 1, cells := 0, slots := 0, locals := 21 }) (va_Pc [.ref q, .int (nI μ), .int 0] (gW0 s0 D cy B (z, T, I, R))) (va_Qi (fun r u => r = nI (σ (44 + μ)) ∧ (z, T, I, R) = u) (fun u t => gW1 D cy B u t) (gA B)) 0 0 (gA B) := by
  refine g_met (maxL := 4) (ret := (some .int)) (by decide) rfl (Nat.le_of_ble_eq_true rfl) (fun p e s m args below meth c ls X hr hlk hnm hK hP hC hS hl => ?_)
  have hl : lv_has ls 4 [(0, .ref q), (1, .int (nI μ)), (2, .int 0)] := hl
  have hP : gP D cy B z T I R s.heap := hP
  have hB : B ≤ s.heap.size := by rw [hP.1]; exact hP.2.1
  have hinRX11 : ∀ w ∈ wsX110, w ∈ wsX11_of := fun _ h => List.mem_cons_of_mem _ (List.mem_append_left _ (List.mem_append_left _ (List.mem_append_left _ (List.mem_append_left _ (List.mem_append_left _ (List.mem_append_left _ (List.mem_append_left _ (List.mem_append_left _ (List.mem_append_right _ h)))))))))
  have hin7 : ∀ κ, κ ≤ 6 → ∀ w ∈ mws κ, w ∈ wsX11_of := fun κ hκ => by
    rcases k7 hκ with rfl | rfl | rfl | rfl | rfl | rfl | rfl
    · exact fun _ h => List.mem_cons_of_mem _ (List.mem_append_left _ (List.mem_append_left _ (List.mem_append_left _ (List.mem_append_left _ (List.mem_append_left _ (List.mem_append_right _ h))))))
    · exact fun _ h => List.mem_cons_of_mem _ (List.mem_append_left _ (List.mem_append_left _ (List.mem_append_left _ (List.mem_append_left _ (List.mem_append_left _ (List.mem_append_left _ (List.mem_append_left _ (List.mem_append_right _ h))))))))
    · exact fun _ h => List.mem_cons_of_mem _ (List.mem_append_left _ (List.mem_append_right _ h))
    · exact fun _ h => List.mem_cons_of_mem _ (List.mem_append_left _ (List.mem_append_left _ (List.mem_append_left _ (List.mem_append_right _ h))))
    · exact fun _ h => List.mem_cons_of_mem _ (List.mem_append_left _ (List.mem_append_left _ (List.mem_append_left _ (List.mem_append_left _ (List.mem_append_left _ (List.mem_append_left _ (List.mem_append_right _ h)))))))
    · exact fun _ h => List.mem_cons_of_mem _ (List.mem_append_left _ (List.mem_append_left _ (List.mem_append_right _ h)))
    · exact fun _ h => List.mem_cons_of_mem _ (List.mem_append_left _ (List.mem_append_left _ (List.mem_append_left _ (List.mem_append_left _ (List.mem_append_right _ h)))))
  have k17 : Cond.fieldLink RX11 17 "BarrowPlank" "now" "LBarrowPlank$Works;" ∈ wsX11_of := by decide +kernel
  have k119 : Cond.fieldLink RX11 119 "BarrowPlank$Man" "kind" "I" ∈ wsX11_of := by decide +kernel
  have k122 : Cond.fieldLink RX11 122 "BarrowPlank$Man" "v" "I" ∈ wsX11_of := by decide +kernel
  have k125 : Cond.fieldLink RX11 125 "BarrowPlank$Man" "strong" "I" ∈ wsX11_of := by decide +kernel
  have k128 : Cond.fieldLink RX11 128 "BarrowPlank$Works" "tired" "[I" ∈ wsX11_of := by decide +kernel
  have k132 : Cond.fieldLink RX11 132 "BarrowPlank$Man" "number" "I" ∈ wsX11_of := by decide +kernel
  have hTp0 := hTp
  have hNw0 := hNw
  obtain ⟨hnw, hkp, htr, hTq, hR0, hR1, hR2, hR3, hR4, hN, hKp, hTr, hTrd, hTl⟩ := hTp
  obtain ⟨hA, hBb, hmen, hme, a, hsR, hst, hsi, hfa⟩ := hNw
  have h38 := hb.2.2.2.2.1
  have h0 := hb.1
  have hμ : μ < 4 := Nat.lt_of_lt_of_le hμn h38
  obtain ⟨b, hbm, hm, hb65⟩ := hmen μ hμn
  obtain ⟨hk6, hv9, hs20⟩ := hb.2.2.2.2.2.2.2.2.1 μ hμ
  have ht9 := hb.2.2.1 μ hμ
  refine lv_aload_n X.1 X.2.1 dX11_of_0 rfl (lv_at hl 0 rfl) ?_
  refine g_getr 13 0 X hK hP hTq rfl hinRX11 rfl (by decide) k17 (fun _ h => h) dX11_of_1 (show va_rf (R q 0) = .ref nw from by rw [hR0]; rfl) ?_
  refine lv_iload_n X.1 X.2.1 dX11_of_4 rfl (lv_at hl 1 rfl) ?_
  refine g_run_q (f := fun u => u) (g_runV (k := 12) [.int (nI μ)] X hK hP hS hC hB (d_find (σ := σ) hN (hA.2.2.1) h38 hμn hbm) (cwV 1 X.2.2.2.2 gX11_of_X10_find rfl rfl rfl (by decide +kernel) ⟨Nat.le_of_ble_eq_true rfl, Nat.le_of_ble_eq_true rfl⟩) hN.t0 rfl rfl hl.1 rfl (Nat.le_of_ble_eq_true rfl) dX11_of_5 (by exact ⟨Nat.zero_le _, Nat.zero_le _⟩)) hS (fun r u H locs hq hP hS => ?_)
  obtain ⟨rfl, rfl⟩ := hq
  have hP : gP D cy B z T I R H := hP
  refine lv_astore_n (lv' := [(3, .ref b), (0, .ref q), (1, .int (nI μ)), (2, .int 0)]) X.1 X.2.1 dX11_of_8 rfl hl (by decide) rfl (fun ls hl => ?_)
  refine lv_aload_n X.1 X.2.1 dX11_of_9 rfl (lv_at hl 0 rfl) ?_
  refine lv_ifnonnull (tgt := 15) X.1 X.2.1 dX11_of_10 (by decide) ?_
  refine lv_iload_n X.1 X.2.1 dX11_of_15 rfl (lv_at hl 3 rfl) ?_
  refine lv_tableIn (off := 32) (tgt := 48) X.1 X.2.1 dX11_of_16 (by decide) (by decide) (by decide) (by decide) ?_
  refine lv_aload_n X.1 X.2.1 dX11_of_48 rfl (lv_at hl 0 rfl) ?_
  refine g_mget 0 (by decide) hk6 X hK hP hm.1 (hin7 _ hk6) k119 (fun _ h => h) dX11_of_49 (show I b 0 = nI (σ (44 + μ)) from hm.2.1) ?_
  exact g_iret (f := fun u => u) (z, T, I, R) X hr hlk hK hP hS dX11_of_52 ⟨rfl, rfl⟩

set_option maxHeartbeats 4000000 in
set_option maxRecDepth 100000 in
/-- t_of_1 -/
theorem t_of_1 (hTp : cTop q nw kp tr T R) (hNw : cNw q nw T I R σ fl ti sh) (hG : sGd fl ti sh) (hb : sBd σ K) {μ : Nat} (hμn : μ < σ 38) : Met l yX11_of wsX11_of ({ frames := 1, cells := 0, slots := 0, locals := 21 }) (va_Pc [.ref q, .int (nI μ), .int 1] (gW0 s0 D cy B (z, T, I, R))) (va_Qi (fun r u => r = nI (σ (48 + μ)) ∧ (z, T, I, R) = u) (fun u t => gW1 D cy B u t) (gA B)) 0 0 (gA B) := by
  refine g_met (maxL := 4) (ret := (some .int)) (by decide) rfl (Nat.le_of_ble_eq_true rfl) (fun p e s m args below meth c ls X hr hlk hnm hK hP hC hS hl => ?_)
  have hl : lv_has ls 4 [(0, .ref q), (1, .int (nI μ)), (2, .int 1)] := hl
  have hP : gP D cy B z T I R s.heap := hP
  have hB : B ≤ s.heap.size := by rw [hP.1]; exact hP.2.1
  have hinRX11 : ∀ w ∈ wsX110, w ∈ wsX11_of := fun _ h => List.mem_cons_of_mem _ (List.mem_append_left _ (List.mem_append_left _ (List.mem_append_left _ (List.mem_append_left _ (List.mem_append_left _ (List.mem_append_left _ (List.mem_append_left _ (List.mem_append_left _ (List.mem_append_right _ h)))))))))
  have hin7 : ∀ κ, κ ≤ 6 → ∀ w ∈ mws κ, w ∈ wsX11_of := fun κ hκ => by
    rcases k7 hκ with rfl | rfl | rfl | rfl | rfl | rfl | rfl
    · exact fun _ h => List.mem_cons_of_mem _ (List.mem_append_left _ (List.mem_append_left _ (List.mem_append_left _ (List.mem_append_left _ (List.mem_append_left _ (List.mem_append_right _ h))))))
    · exact fun _ h => List.mem_cons_of_mem _ (List.mem_append_left _ (List.mem_append_left _ (List.mem_append_left _ (List.mem_append_left _ (List.mem_append_left _ (List.mem_append_left _ (List.mem_append_left _ (List.mem_append_right _ h))))))))
    · exact fun _ h => List.mem_cons_of_mem _ (List.mem_append_left _ (List.mem_append_right _ h))
    · exact fun _ h => List.mem_cons_of_mem _ (List.mem_append_left _ (List.mem_append_left _ (List.mem_append_left _ (List.mem_append_right _ h))))
    · exact fun _ h => List.mem_cons_of_mem _ (List.mem_append_left _ (List.mem_append_left _ (List.mem_append_left _ (List.mem_append_left _ (List.mem_append_left _ (List.mem_append_left _ (List.mem_append_right _ h)))))))
    · exact fun _ h => List.mem_cons_of_mem _ (List.mem_append_left _ (List.mem_append_left _ (List.mem_append_right _ h)))
    · exact fun _ h => List.mem_cons_of_mem _ (List.mem_append_left _ (List.mem_append_left _ (List.mem_append_left _ (List.mem_append_left _ (List.mem_append_right _ h)))))
  have k17 : Cond.fieldLink RX11 17 "BarrowPlank" "now" "LBarrowPlank$Works;" ∈ wsX11_of := by decide +kernel
  have k119 : Cond.fieldLink RX11 119 "BarrowPlank$Man" "kind" "I" ∈ wsX11_of := by decide +kernel
  have k122 : Cond.fieldLink RX11 122 "BarrowPlank$Man" "v" "I" ∈ wsX11_of := by decide +kernel
  have k125 : Cond.fieldLink RX11 125 "BarrowPlank$Man" "strong" "I" ∈ wsX11_of := by decide +kernel
  have k128 : Cond.fieldLink RX11 128 "BarrowPlank$Works" "tired" "[I" ∈ wsX11_of := by decide +kernel
  have k132 : Cond.fieldLink RX11 132 "BarrowPlank$Man" "number" "I" ∈ wsX11_of := by decide +kernel
  have hTp0 := hTp
  have hNw0 := hNw
  obtain ⟨hnw, hkp, htr, hTq, hR0, hR1, hR2, hR3, hR4, hN, hKp, hTr, hTrd, hTl⟩ := hTp
  obtain ⟨hA, hBb, hmen, hme, a, hsR, hst, hsi, hfa⟩ := hNw
  have h38 := hb.2.2.2.2.1
  have h0 := hb.1
  have hμ : μ < 4 := Nat.lt_of_lt_of_le hμn h38
  obtain ⟨b, hbm, hm, hb65⟩ := hmen μ hμn
  obtain ⟨hk6, hv9, hs20⟩ := hb.2.2.2.2.2.2.2.2.1 μ hμ
  have ht9 := hb.2.2.1 μ hμ
  refine lv_aload_n X.1 X.2.1 dX11_of_0 rfl (lv_at hl 0 rfl) ?_
  refine g_getr 13 0 X hK hP hTq rfl hinRX11 rfl (by decide) k17 (fun _ h => h) dX11_of_1 (show va_rf (R q 0) = .ref nw from by rw [hR0]; rfl) ?_
  refine lv_iload_n X.1 X.2.1 dX11_of_4 rfl (lv_at hl 1 rfl) ?_
  refine g_run_q (f := fun u => u) (g_runV (k := 12) [.int (nI μ)] X hK hP hS hC hB (d_find (σ := σ) hN (hA.2.2.1) h38 hμn hbm) (cwV 1 X.2.2.2.2 gX11_of_X10_find rfl rfl rfl (by decide +kernel) ⟨Nat.le_of_ble_eq_true rfl, Nat.le_of_ble_eq_true rfl⟩) hN.t0 rfl rfl hl.1 rfl (Nat.le_of_ble_eq_true rfl) dX11_of_5 (by exact ⟨Nat.zero_le _, Nat.zero_le _⟩)) hS (fun r u H locs hq hP hS => ?_)
  obtain ⟨rfl, rfl⟩ := hq
  have hP : gP D cy B z T I R H := hP
  refine lv_astore_n (lv' := [(3, .ref b), (0, .ref q), (1, .int (nI μ)), (2, .int 1)]) X.1 X.2.1 dX11_of_8 rfl hl (by decide) rfl (fun ls hl => ?_)
  refine lv_aload_n X.1 X.2.1 dX11_of_9 rfl (lv_at hl 0 rfl) ?_
  refine lv_ifnonnull (tgt := 15) X.1 X.2.1 dX11_of_10 (by decide) ?_
  refine lv_iload_n X.1 X.2.1 dX11_of_15 rfl (lv_at hl 3 rfl) ?_
  refine lv_tableIn (off := 37) (tgt := 53) X.1 X.2.1 dX11_of_16 (by decide) (by decide) (by decide) (by decide) ?_
  refine lv_aload_n X.1 X.2.1 dX11_of_53 rfl (lv_at hl 0 rfl) ?_
  refine g_mget 2 (by decide) hk6 X hK hP hm.1 (hin7 _ hk6) k122 (fun _ h => h) dX11_of_54 (show I b 2 = nI (σ (48 + μ)) from hm.2.2.2.1) ?_
  exact g_iret (f := fun u => u) (z, T, I, R) X hr hlk hK hP hS dX11_of_57 ⟨rfl, rfl⟩

set_option maxHeartbeats 4000000 in
set_option maxRecDepth 100000 in
/-- t_of_2 -/
theorem t_of_2 (hTp : cTop q nw kp tr T R) (hNw : cNw q nw T I R σ fl ti sh) (hG : sGd fl ti sh) (hb : sBd σ K) {μ : Nat} (hμn : μ < σ 38) : Met l yX11_of wsX11_of ({ frames := 1, cells := 0, slots := 0, locals := 21 }) (va_Pc [.ref q, .int (nI μ), .int 2] (gW0 s0 D cy B (z, T, I, R))) (va_Qi (fun r u => r = nI (σ (52 + μ)) ∧ (z, T, I, R) = u) (fun u t => gW1 D cy B u t) (gA B)) 0 0 (gA B) := by
  refine g_met (maxL := 4) (ret := (some .int)) (by decide) rfl (Nat.le_of_ble_eq_true rfl) (fun p e s m args below meth c ls X hr hlk hnm hK hP hC hS hl => ?_)
  have hl : lv_has ls 4 [(0, .ref q), (1, .int (nI μ)), (2, .int 2)] := hl
  have hP : gP D cy B z T I R s.heap := hP
  have hB : B ≤ s.heap.size := by rw [hP.1]; exact hP.2.1
  have hinRX11 : ∀ w ∈ wsX110, w ∈ wsX11_of := fun _ h => List.mem_cons_of_mem _ (List.mem_append_left _ (List.mem_append_left _ (List.mem_append_left _ (List.mem_append_left _ (List.mem_append_left _ (List.mem_append_left _ (List.mem_append_left _ (List.mem_append_left _ (List.mem_append_right _ h)))))))))
  have hin7 : ∀ κ, κ ≤ 6 → ∀ w ∈ mws κ, w ∈ wsX11_of := fun κ hκ => by
    rcases k7 hκ with rfl | rfl | rfl | rfl | rfl | rfl | rfl
    · exact fun _ h => List.mem_cons_of_mem _ (List.mem_append_left _ (List.mem_append_left _ (List.mem_append_left _ (List.mem_append_left _ (List.mem_append_left _ (List.mem_append_right _ h))))))
    · exact fun _ h => List.mem_cons_of_mem _ (List.mem_append_left _ (List.mem_append_left _ (List.mem_append_left _ (List.mem_append_left _ (List.mem_append_left _ (List.mem_append_left _ (List.mem_append_left _ (List.mem_append_right _ h))))))))
    · exact fun _ h => List.mem_cons_of_mem _ (List.mem_append_left _ (List.mem_append_right _ h))
    · exact fun _ h => List.mem_cons_of_mem _ (List.mem_append_left _ (List.mem_append_left _ (List.mem_append_left _ (List.mem_append_right _ h))))
    · exact fun _ h => List.mem_cons_of_mem _ (List.mem_append_left _ (List.mem_append_left _ (List.mem_append_left _ (List.mem_append_left _ (List.mem_append_left _ (List.mem_append_left _ (List.mem_append_right _ h)))))))
    · exact fun _ h => List.mem_cons_of_mem _ (List.mem_append_left _ (List.mem_append_left _ (List.mem_append_right _ h)))
    · exact fun _ h => List.mem_cons_of_mem _ (List.mem_append_left _ (List.mem_append_left _ (List.mem_append_left _ (List.mem_append_left _ (List.mem_append_right _ h)))))
  have k17 : Cond.fieldLink RX11 17 "BarrowPlank" "now" "LBarrowPlank$Works;" ∈ wsX11_of := by decide +kernel
  have k119 : Cond.fieldLink RX11 119 "BarrowPlank$Man" "kind" "I" ∈ wsX11_of := by decide +kernel
  have k122 : Cond.fieldLink RX11 122 "BarrowPlank$Man" "v" "I" ∈ wsX11_of := by decide +kernel
  have k125 : Cond.fieldLink RX11 125 "BarrowPlank$Man" "strong" "I" ∈ wsX11_of := by decide +kernel
  have k128 : Cond.fieldLink RX11 128 "BarrowPlank$Works" "tired" "[I" ∈ wsX11_of := by decide +kernel
  have k132 : Cond.fieldLink RX11 132 "BarrowPlank$Man" "number" "I" ∈ wsX11_of := by decide +kernel
  have hTp0 := hTp
  have hNw0 := hNw
  obtain ⟨hnw, hkp, htr, hTq, hR0, hR1, hR2, hR3, hR4, hN, hKp, hTr, hTrd, hTl⟩ := hTp
  obtain ⟨hA, hBb, hmen, hme, a, hsR, hst, hsi, hfa⟩ := hNw
  have h38 := hb.2.2.2.2.1
  have h0 := hb.1
  have hμ : μ < 4 := Nat.lt_of_lt_of_le hμn h38
  obtain ⟨b, hbm, hm, hb65⟩ := hmen μ hμn
  obtain ⟨hk6, hv9, hs20⟩ := hb.2.2.2.2.2.2.2.2.1 μ hμ
  have ht9 := hb.2.2.1 μ hμ
  refine lv_aload_n X.1 X.2.1 dX11_of_0 rfl (lv_at hl 0 rfl) ?_
  refine g_getr 13 0 X hK hP hTq rfl hinRX11 rfl (by decide) k17 (fun _ h => h) dX11_of_1 (show va_rf (R q 0) = .ref nw from by rw [hR0]; rfl) ?_
  refine lv_iload_n X.1 X.2.1 dX11_of_4 rfl (lv_at hl 1 rfl) ?_
  refine g_run_q (f := fun u => u) (g_runV (k := 12) [.int (nI μ)] X hK hP hS hC hB (d_find (σ := σ) hN (hA.2.2.1) h38 hμn hbm) (cwV 1 X.2.2.2.2 gX11_of_X10_find rfl rfl rfl (by decide +kernel) ⟨Nat.le_of_ble_eq_true rfl, Nat.le_of_ble_eq_true rfl⟩) hN.t0 rfl rfl hl.1 rfl (Nat.le_of_ble_eq_true rfl) dX11_of_5 (by exact ⟨Nat.zero_le _, Nat.zero_le _⟩)) hS (fun r u H locs hq hP hS => ?_)
  obtain ⟨rfl, rfl⟩ := hq
  have hP : gP D cy B z T I R H := hP
  refine lv_astore_n (lv' := [(3, .ref b), (0, .ref q), (1, .int (nI μ)), (2, .int 2)]) X.1 X.2.1 dX11_of_8 rfl hl (by decide) rfl (fun ls hl => ?_)
  refine lv_aload_n X.1 X.2.1 dX11_of_9 rfl (lv_at hl 0 rfl) ?_
  refine lv_ifnonnull (tgt := 15) X.1 X.2.1 dX11_of_10 (by decide) ?_
  refine lv_iload_n X.1 X.2.1 dX11_of_15 rfl (lv_at hl 3 rfl) ?_
  refine lv_tableIn (off := 42) (tgt := 58) X.1 X.2.1 dX11_of_16 (by decide) (by decide) (by decide) (by decide) ?_
  refine lv_aload_n X.1 X.2.1 dX11_of_58 rfl (lv_at hl 0 rfl) ?_
  refine g_mget 3 (by decide) hk6 X hK hP hm.1 (hin7 _ hk6) k125 (fun _ h => h) dX11_of_59 (show I b 3 = nI (σ (52 + μ)) from hm.2.2.2.2) ?_
  exact g_iret (f := fun u => u) (z, T, I, R) X hr hlk hK hP hS dX11_of_62 ⟨rfl, rfl⟩

set_option maxHeartbeats 4000000 in
set_option maxRecDepth 100000 in
/-- t_of_3 -/
theorem t_of_3 (hTp : cTop q nw kp tr T R) (hNw : cNw q nw T I R σ fl ti sh) (hG : sGd fl ti sh) (hb : sBd σ K) {μ : Nat} (hμn : μ < σ 38) : Met l yX11_of wsX11_of ({ frames := 1, cells := 0, slots := 0, locals := 21 }) (va_Pc [.ref q, .int (nI μ), .int 3] (gW0 s0 D cy B (z, T, I, R))) (va_Qi (fun r u => r = nI (σ (4 + μ)) ∧ (z, T, I, R) = u) (fun u t => gW1 D cy B u t) (gA B)) 0 0 (gA B) := by
  refine g_met (maxL := 4) (ret := (some .int)) (by decide) rfl (Nat.le_of_ble_eq_true rfl) (fun p e s m args below meth c ls X hr hlk hnm hK hP hC hS hl => ?_)
  have hl : lv_has ls 4 [(0, .ref q), (1, .int (nI μ)), (2, .int 3)] := hl
  have hP : gP D cy B z T I R s.heap := hP
  have hB : B ≤ s.heap.size := by rw [hP.1]; exact hP.2.1
  have hinRX10 : ∀ w ∈ wsX100, w ∈ wsX11_of := fun _ h => List.mem_cons_of_mem _ (List.mem_append_right _ h)
  have hinRX11 : ∀ w ∈ wsX110, w ∈ wsX11_of := fun _ h => List.mem_cons_of_mem _ (List.mem_append_left _ (List.mem_append_left _ (List.mem_append_left _ (List.mem_append_left _ (List.mem_append_left _ (List.mem_append_left _ (List.mem_append_left _ (List.mem_append_left _ (List.mem_append_right _ h)))))))))
  have hin7 : ∀ κ, κ ≤ 6 → ∀ w ∈ mws κ, w ∈ wsX11_of := fun κ hκ => by
    rcases k7 hκ with rfl | rfl | rfl | rfl | rfl | rfl | rfl
    · exact fun _ h => List.mem_cons_of_mem _ (List.mem_append_left _ (List.mem_append_left _ (List.mem_append_left _ (List.mem_append_left _ (List.mem_append_left _ (List.mem_append_right _ h))))))
    · exact fun _ h => List.mem_cons_of_mem _ (List.mem_append_left _ (List.mem_append_left _ (List.mem_append_left _ (List.mem_append_left _ (List.mem_append_left _ (List.mem_append_left _ (List.mem_append_left _ (List.mem_append_right _ h))))))))
    · exact fun _ h => List.mem_cons_of_mem _ (List.mem_append_left _ (List.mem_append_right _ h))
    · exact fun _ h => List.mem_cons_of_mem _ (List.mem_append_left _ (List.mem_append_left _ (List.mem_append_left _ (List.mem_append_right _ h))))
    · exact fun _ h => List.mem_cons_of_mem _ (List.mem_append_left _ (List.mem_append_left _ (List.mem_append_left _ (List.mem_append_left _ (List.mem_append_left _ (List.mem_append_left _ (List.mem_append_right _ h)))))))
    · exact fun _ h => List.mem_cons_of_mem _ (List.mem_append_left _ (List.mem_append_left _ (List.mem_append_right _ h)))
    · exact fun _ h => List.mem_cons_of_mem _ (List.mem_append_left _ (List.mem_append_left _ (List.mem_append_left _ (List.mem_append_left _ (List.mem_append_right _ h)))))
  have k17 : Cond.fieldLink RX11 17 "BarrowPlank" "now" "LBarrowPlank$Works;" ∈ wsX11_of := by decide +kernel
  have k119 : Cond.fieldLink RX11 119 "BarrowPlank$Man" "kind" "I" ∈ wsX11_of := by decide +kernel
  have k122 : Cond.fieldLink RX11 122 "BarrowPlank$Man" "v" "I" ∈ wsX11_of := by decide +kernel
  have k125 : Cond.fieldLink RX11 125 "BarrowPlank$Man" "strong" "I" ∈ wsX11_of := by decide +kernel
  have k128 : Cond.fieldLink RX11 128 "BarrowPlank$Works" "tired" "[I" ∈ wsX11_of := by decide +kernel
  have k132 : Cond.fieldLink RX11 132 "BarrowPlank$Man" "number" "I" ∈ wsX11_of := by decide +kernel
  have hTp0 := hTp
  have hNw0 := hNw
  obtain ⟨hnw, hkp, htr, hTq, hR0, hR1, hR2, hR3, hR4, hN, hKp, hTr, hTrd, hTl⟩ := hTp
  obtain ⟨hA, hBb, hmen, hme, a, hsR, hst, hsi, hfa⟩ := hNw
  have h38 := hb.2.2.2.2.1
  have h0 := hb.1
  have hμ : μ < 4 := Nat.lt_of_lt_of_le hμn h38
  obtain ⟨b, hbm, hm, hb65⟩ := hmen μ hμn
  obtain ⟨hk6, hv9, hs20⟩ := hb.2.2.2.2.2.2.2.2.1 μ hμ
  have ht9 := hb.2.2.1 μ hμ
  refine lv_aload_n X.1 X.2.1 dX11_of_0 rfl (lv_at hl 0 rfl) ?_
  refine g_getr 13 0 X hK hP hTq rfl hinRX11 rfl (by decide) k17 (fun _ h => h) dX11_of_1 (show va_rf (R q 0) = .ref nw from by rw [hR0]; rfl) ?_
  refine lv_iload_n X.1 X.2.1 dX11_of_4 rfl (lv_at hl 1 rfl) ?_
  refine g_run_q (f := fun u => u) (g_runV (k := 12) [.int (nI μ)] X hK hP hS hC hB (d_find (σ := σ) hN (hA.2.2.1) h38 hμn hbm) (cwV 1 X.2.2.2.2 gX11_of_X10_find rfl rfl rfl (by decide +kernel) ⟨Nat.le_of_ble_eq_true rfl, Nat.le_of_ble_eq_true rfl⟩) hN.t0 rfl rfl hl.1 rfl (Nat.le_of_ble_eq_true rfl) dX11_of_5 (by exact ⟨Nat.zero_le _, Nat.zero_le _⟩)) hS (fun r u H locs hq hP hS => ?_)
  obtain ⟨rfl, rfl⟩ := hq
  have hP : gP D cy B z T I R H := hP
  refine lv_astore_n (lv' := [(3, .ref b), (0, .ref q), (1, .int (nI μ)), (2, .int 3)]) X.1 X.2.1 dX11_of_8 rfl hl (by decide) rfl (fun ls hl => ?_)
  refine lv_aload_n X.1 X.2.1 dX11_of_9 rfl (lv_at hl 0 rfl) ?_
  refine lv_ifnonnull (tgt := 15) X.1 X.2.1 dX11_of_10 (by decide) ?_
  refine lv_iload_n X.1 X.2.1 dX11_of_15 rfl (lv_at hl 3 rfl) ?_
  refine lv_tableIn (off := 47) (tgt := 63) X.1 X.2.1 dX11_of_16 (by decide) (by decide) (by decide) (by decide) ?_
  refine lv_aload_n X.1 X.2.1 dX11_of_63 rfl (lv_at hl 1 rfl) ?_
  refine g_getr 13 0 X hK hP hTq rfl hinRX11 rfl (by decide) k17 (fun _ h => h) dX11_of_64 (show va_rf (R q 0) = .ref nw from by rw [hR0]; rfl) ?_
  refine g_getr 12 2 X hK hP hN.t0 rfl hinRX10 rfl (by decide) k128 (fun _ h => h) dX11_of_67 (show va_rf (R nw 2) = .ref (nw + 6) from by rw [(show R nw 2 = some (nw + 6) from hN.r 2 rfl)]; rfl) ?_
  refine lv_aload_n X.1 X.2.1 dX11_of_70 rfl (lv_at hl 0 rfl) ?_
  refine g_mget 1 (by decide) hk6 X hK hP hm.1 (hin7 _ hk6) k132 (fun _ h => h) dX11_of_71 (show I b 1 = nI μ from hm.2.2.1) ?_
  refine g_iald μ X hK hP (hN.t 6 rfl) (gIx_of (Eq.refl (nI μ)) (by omega) (by omega)) dX11_of_74 (show I (nw + 6) μ = nI (σ (4 + μ)) from (hA.2.1 μ (by omega))) ?_
  exact g_iret (f := fun u => u) (z, T, I, R) X hr hlk hK hP hS dX11_of_75 ⟨rfl, rfl⟩

set_option maxHeartbeats 4000000 in
set_option maxRecDepth 100000 in
/-- t_of_w -/
theorem t_of_w (hTp : cTop q nw kp tr T R) (hNw : cNw q nw T I R σ fl ti sh) (hG : sGd fl ti sh) (hb : sBd σ K) {μ : Nat} (hμn : μ < σ 38) {x : Int32} (hx : x.toInt < 0 ∨ 3 < x.toInt) : Met l yX11_of wsX11_of ({ frames := 1, cells := 0, slots := 0, locals := 21 }) (va_Pc [.ref q, .int (nI μ), .int x] (gW0 s0 D cy B (z, T, I, R))) (va_Qi (fun r u => r = -1 ∧ (z, T, I, R) = u) (fun u t => gW1 D cy B u t) (gA B)) 0 0 (gA B) := by
  refine g_met (maxL := 4) (ret := (some .int)) (by decide) rfl (Nat.le_of_ble_eq_true rfl) (fun p e s m args below meth c ls X hr hlk hnm hK hP hC hS hl => ?_)
  have hl : lv_has ls 4 [(0, .ref q), (1, .int (nI μ)), (2, .int x)] := hl
  have hP : gP D cy B z T I R s.heap := hP
  have hB : B ≤ s.heap.size := by rw [hP.1]; exact hP.2.1
  have hinRX11 : ∀ w ∈ wsX110, w ∈ wsX11_of := fun _ h => List.mem_cons_of_mem _ (List.mem_append_left _ (List.mem_append_left _ (List.mem_append_left _ (List.mem_append_left _ (List.mem_append_left _ (List.mem_append_left _ (List.mem_append_left _ (List.mem_append_left _ (List.mem_append_right _ h)))))))))
  have hin7 : ∀ κ, κ ≤ 6 → ∀ w ∈ mws κ, w ∈ wsX11_of := fun κ hκ => by
    rcases k7 hκ with rfl | rfl | rfl | rfl | rfl | rfl | rfl
    · exact fun _ h => List.mem_cons_of_mem _ (List.mem_append_left _ (List.mem_append_left _ (List.mem_append_left _ (List.mem_append_left _ (List.mem_append_left _ (List.mem_append_right _ h))))))
    · exact fun _ h => List.mem_cons_of_mem _ (List.mem_append_left _ (List.mem_append_left _ (List.mem_append_left _ (List.mem_append_left _ (List.mem_append_left _ (List.mem_append_left _ (List.mem_append_left _ (List.mem_append_right _ h))))))))
    · exact fun _ h => List.mem_cons_of_mem _ (List.mem_append_left _ (List.mem_append_right _ h))
    · exact fun _ h => List.mem_cons_of_mem _ (List.mem_append_left _ (List.mem_append_left _ (List.mem_append_left _ (List.mem_append_right _ h))))
    · exact fun _ h => List.mem_cons_of_mem _ (List.mem_append_left _ (List.mem_append_left _ (List.mem_append_left _ (List.mem_append_left _ (List.mem_append_left _ (List.mem_append_left _ (List.mem_append_right _ h)))))))
    · exact fun _ h => List.mem_cons_of_mem _ (List.mem_append_left _ (List.mem_append_left _ (List.mem_append_right _ h)))
    · exact fun _ h => List.mem_cons_of_mem _ (List.mem_append_left _ (List.mem_append_left _ (List.mem_append_left _ (List.mem_append_left _ (List.mem_append_right _ h)))))
  have k17 : Cond.fieldLink RX11 17 "BarrowPlank" "now" "LBarrowPlank$Works;" ∈ wsX11_of := by decide +kernel
  have k119 : Cond.fieldLink RX11 119 "BarrowPlank$Man" "kind" "I" ∈ wsX11_of := by decide +kernel
  have k122 : Cond.fieldLink RX11 122 "BarrowPlank$Man" "v" "I" ∈ wsX11_of := by decide +kernel
  have k125 : Cond.fieldLink RX11 125 "BarrowPlank$Man" "strong" "I" ∈ wsX11_of := by decide +kernel
  have k128 : Cond.fieldLink RX11 128 "BarrowPlank$Works" "tired" "[I" ∈ wsX11_of := by decide +kernel
  have k132 : Cond.fieldLink RX11 132 "BarrowPlank$Man" "number" "I" ∈ wsX11_of := by decide +kernel
  have hTp0 := hTp
  have hNw0 := hNw
  obtain ⟨hnw, hkp, htr, hTq, hR0, hR1, hR2, hR3, hR4, hN, hKp, hTr, hTrd, hTl⟩ := hTp
  obtain ⟨hA, hBb, hmen, hme, a, hsR, hst, hsi, hfa⟩ := hNw
  have h38 := hb.2.2.2.2.1
  have h0 := hb.1
  have hμ : μ < 4 := Nat.lt_of_lt_of_le hμn h38
  obtain ⟨b, hbm, hm, hb65⟩ := hmen μ hμn
  obtain ⟨hk6, hv9, hs20⟩ := hb.2.2.2.2.2.2.2.2.1 μ hμ
  have ht9 := hb.2.2.1 μ hμ
  refine lv_aload_n X.1 X.2.1 dX11_of_0 rfl (lv_at hl 0 rfl) ?_
  refine g_getr 13 0 X hK hP hTq rfl hinRX11 rfl (by decide) k17 (fun _ h => h) dX11_of_1 (show va_rf (R q 0) = .ref nw from by rw [hR0]; rfl) ?_
  refine lv_iload_n X.1 X.2.1 dX11_of_4 rfl (lv_at hl 1 rfl) ?_
  refine g_run_q (f := fun u => u) (g_runV (k := 12) [.int (nI μ)] X hK hP hS hC hB (d_find (σ := σ) hN (hA.2.2.1) h38 hμn hbm) (cwV 1 X.2.2.2.2 gX11_of_X10_find rfl rfl rfl (by decide +kernel) ⟨Nat.le_of_ble_eq_true rfl, Nat.le_of_ble_eq_true rfl⟩) hN.t0 rfl rfl hl.1 rfl (Nat.le_of_ble_eq_true rfl) dX11_of_5 (by exact ⟨Nat.zero_le _, Nat.zero_le _⟩)) hS (fun r u H locs hq hP hS => ?_)
  obtain ⟨rfl, rfl⟩ := hq
  have hP : gP D cy B z T I R H := hP
  refine lv_astore_n (lv' := [(3, .ref b), (0, .ref q), (1, .int (nI μ)), (2, .int x)]) X.1 X.2.1 dX11_of_8 rfl hl (by decide) rfl (fun ls hl => ?_)
  refine lv_aload_n X.1 X.2.1 dX11_of_9 rfl (lv_at hl 0 rfl) ?_
  refine lv_ifnonnull (tgt := 15) X.1 X.2.1 dX11_of_10 (by decide) ?_
  refine lv_iload_n X.1 X.2.1 dX11_of_15 rfl (lv_at hl 3 rfl) ?_
  refine lv_tableOut (tgt := 76) X.1 X.2.1 dX11_of_16 hx (by decide) ?_
  refine lv_iconst (v := (-1)) X.1 X.2.1 dX11_of_76 (by decide) ?_
  exact g_iret (f := fun u => u) (z, T, I, R) X hr hlk hK hP hS dX11_of_77 ⟨rfl, rfl⟩

set_option maxHeartbeats 4000000 in
set_option maxRecDepth 100000 in
/-- t_count_0 -/
theorem t_count_0 (hTp : cTop q nw kp tr T R) (hNw : cNw q nw T I R σ fl ti sh) (hG : sGd fl ti sh) (hb : sBd σ K)  : Met l yX11_count wsX11_count ({ frames := 0, cells := 0, slots := 0, locals := 0 }) (va_Pc [.ref q, .int 0] (gW0 s0 D cy B (z, T, I, R))) (va_Qi (fun r u => r = nI (σ 38) ∧ (z, T, I, R) = u) (fun u t => gW1 D cy B u t) (gA B)) 0 0 (gA B) := by
  refine g_met (maxL := 2) (ret := (some .int)) (by decide) rfl (Nat.le_of_ble_eq_true rfl) (fun p e s m args below meth c ls X hr hlk hnm hK hP hC hS hl => ?_)
  have hl : lv_has ls 2 [(0, .ref q), (1, .int 0)] := hl
  have hP : gP D cy B z T I R s.heap := hP
  have hB : B ≤ s.heap.size := by rw [hP.1]; exact hP.2.1
  have hinRX10 : ∀ w ∈ wsX100, w ∈ wsX11_count := fun _ h => List.mem_cons_of_mem _ (List.mem_append_left _ (List.mem_append_right _ h))
  have hinRX11 : ∀ w ∈ wsX110, w ∈ wsX11_count := fun _ h => List.mem_cons_of_mem _ (List.mem_append_left _ (List.mem_append_left _ (List.mem_append_right _ h)))
  have k17 : Cond.fieldLink RX11 17 "BarrowPlank" "now" "LBarrowPlank$Works;" ∈ wsX11_count := by decide +kernel
  have k39 : Cond.fieldLink RX11 39 "BarrowPlank" "bodies" "Ljava/util/ArrayList;" ∈ wsX11_count := by decide +kernel
  have k51 : Cond.fieldLink RX11 51 "BarrowPlank$Works" "signs" "I" ∈ wsX11_count := by decide +kernel
  have k59 : Cond.fieldLink RX11 59 "BarrowPlank$Works" "sites" "I" ∈ wsX11_count := by decide +kernel
  have k102 : Cond.fieldLink RX11 102 "BarrowPlank$Works" "crew" "I" ∈ wsX11_count := by decide +kernel
  have k197 : Cond.fieldLink RX11 197 "BarrowPlank$Works" "notes" "I" ∈ wsX11_count := by decide +kernel
  have hTp0 := hTp
  have hNw0 := hNw
  obtain ⟨hnw, hkp, htr, hTq, hR0, hR1, hR2, hR3, hR4, hN, hKp, hTr, hTrd, hTl⟩ := hTp
  obtain ⟨hA, hBb, hmen, hme, a, hsR, hst, hsi, hfa⟩ := hNw
  have h38 := hb.2.2.2.2.1
  have h0 := hb.1
  refine lv_iload_n X.1 X.2.1 dX11_count_0 rfl (lv_at hl 1 rfl) ?_
  refine lv_tableIn (off := 35) (tgt := 36) X.1 X.2.1 dX11_count_1 (by decide) (by decide) (by decide) (by decide) ?_
  refine lv_aload_n X.1 X.2.1 dX11_count_36 rfl (lv_at hl 0 rfl) ?_
  refine g_getr 13 0 X hK hP hTq rfl hinRX11 rfl (by decide) k17 (fun _ h => h) dX11_count_37 (show va_rf (R q 0) = .ref nw from by rw [hR0]; rfl) ?_
  refine g_geti 12 5 X hK hP hN.t0 rfl hinRX10 rfl (by decide) k102 (fun _ h => h) dX11_count_40 (show I nw 5 = nI (σ 38) from hA.2.2.1) ?_
  exact g_iret (f := fun u => u) (z, T, I, R) X hr hlk hK hP hS dX11_count_43 ⟨rfl, rfl⟩

set_option maxHeartbeats 4000000 in
set_option maxRecDepth 100000 in
/-- t_count_1 -/
theorem t_count_1 (hTp : cTop q nw kp tr T R) (hNw : cNw q nw T I R σ fl ti sh) (hG : sGd fl ti sh) (hb : sBd σ K)  : Met l yX11_count wsX11_count ({ frames := 0, cells := 0, slots := 0, locals := 0 }) (va_Pc [.ref q, .int 1] (gW0 s0 D cy B (z, T, I, R))) (va_Qi (fun r u => r = nI (σ 39) ∧ (z, T, I, R) = u) (fun u t => gW1 D cy B u t) (gA B)) 0 0 (gA B) := by
  refine g_met (maxL := 2) (ret := (some .int)) (by decide) rfl (Nat.le_of_ble_eq_true rfl) (fun p e s m args below meth c ls X hr hlk hnm hK hP hC hS hl => ?_)
  have hl : lv_has ls 2 [(0, .ref q), (1, .int 1)] := hl
  have hP : gP D cy B z T I R s.heap := hP
  have hB : B ≤ s.heap.size := by rw [hP.1]; exact hP.2.1
  have hinRX10 : ∀ w ∈ wsX100, w ∈ wsX11_count := fun _ h => List.mem_cons_of_mem _ (List.mem_append_left _ (List.mem_append_right _ h))
  have hinRX11 : ∀ w ∈ wsX110, w ∈ wsX11_count := fun _ h => List.mem_cons_of_mem _ (List.mem_append_left _ (List.mem_append_left _ (List.mem_append_right _ h)))
  have k17 : Cond.fieldLink RX11 17 "BarrowPlank" "now" "LBarrowPlank$Works;" ∈ wsX11_count := by decide +kernel
  have k39 : Cond.fieldLink RX11 39 "BarrowPlank" "bodies" "Ljava/util/ArrayList;" ∈ wsX11_count := by decide +kernel
  have k51 : Cond.fieldLink RX11 51 "BarrowPlank$Works" "signs" "I" ∈ wsX11_count := by decide +kernel
  have k59 : Cond.fieldLink RX11 59 "BarrowPlank$Works" "sites" "I" ∈ wsX11_count := by decide +kernel
  have k102 : Cond.fieldLink RX11 102 "BarrowPlank$Works" "crew" "I" ∈ wsX11_count := by decide +kernel
  have k197 : Cond.fieldLink RX11 197 "BarrowPlank$Works" "notes" "I" ∈ wsX11_count := by decide +kernel
  have hTp0 := hTp
  have hNw0 := hNw
  obtain ⟨hnw, hkp, htr, hTq, hR0, hR1, hR2, hR3, hR4, hN, hKp, hTr, hTrd, hTl⟩ := hTp
  obtain ⟨hA, hBb, hmen, hme, a, hsR, hst, hsi, hfa⟩ := hNw
  have h38 := hb.2.2.2.2.1
  have h0 := hb.1
  refine lv_iload_n X.1 X.2.1 dX11_count_0 rfl (lv_at hl 1 rfl) ?_
  refine lv_tableIn (off := 43) (tgt := 44) X.1 X.2.1 dX11_count_1 (by decide) (by decide) (by decide) (by decide) ?_
  refine lv_aload_n X.1 X.2.1 dX11_count_44 rfl (lv_at hl 0 rfl) ?_
  refine g_getr 13 0 X hK hP hTq rfl hinRX11 rfl (by decide) k17 (fun _ h => h) dX11_count_45 (show va_rf (R q 0) = .ref nw from by rw [hR0]; rfl) ?_
  refine g_geti 12 13 X hK hP hN.t0 rfl hinRX10 rfl (by decide) k59 (fun _ h => h) dX11_count_48 (show I nw 13 = nI (σ 39) from hA.2.2.2.2.2.2.2) ?_
  exact g_iret (f := fun u => u) (z, T, I, R) X hr hlk hK hP hS dX11_count_51 ⟨rfl, rfl⟩

set_option maxHeartbeats 4000000 in
set_option maxRecDepth 100000 in
/-- t_count_2 -/
theorem t_count_2 (hTp : cTop q nw kp tr T R) (hNw : cNw q nw T I R σ fl ti sh) (hG : sGd fl ti sh) (hb : sBd σ K)  : Met l yX11_count wsX11_count ({ frames := 0, cells := 0, slots := 0, locals := 0 }) (va_Pc [.ref q, .int 2] (gW0 s0 D cy B (z, T, I, R))) (va_Qi (fun r u => r = nI (σ 40) ∧ (z, T, I, R) = u) (fun u t => gW1 D cy B u t) (gA B)) 0 0 (gA B) := by
  refine g_met (maxL := 2) (ret := (some .int)) (by decide) rfl (Nat.le_of_ble_eq_true rfl) (fun p e s m args below meth c ls X hr hlk hnm hK hP hC hS hl => ?_)
  have hl : lv_has ls 2 [(0, .ref q), (1, .int 2)] := hl
  have hP : gP D cy B z T I R s.heap := hP
  have hB : B ≤ s.heap.size := by rw [hP.1]; exact hP.2.1
  have hinRX10 : ∀ w ∈ wsX100, w ∈ wsX11_count := fun _ h => List.mem_cons_of_mem _ (List.mem_append_left _ (List.mem_append_right _ h))
  have hinRX11 : ∀ w ∈ wsX110, w ∈ wsX11_count := fun _ h => List.mem_cons_of_mem _ (List.mem_append_left _ (List.mem_append_left _ (List.mem_append_right _ h)))
  have k17 : Cond.fieldLink RX11 17 "BarrowPlank" "now" "LBarrowPlank$Works;" ∈ wsX11_count := by decide +kernel
  have k39 : Cond.fieldLink RX11 39 "BarrowPlank" "bodies" "Ljava/util/ArrayList;" ∈ wsX11_count := by decide +kernel
  have k51 : Cond.fieldLink RX11 51 "BarrowPlank$Works" "signs" "I" ∈ wsX11_count := by decide +kernel
  have k59 : Cond.fieldLink RX11 59 "BarrowPlank$Works" "sites" "I" ∈ wsX11_count := by decide +kernel
  have k102 : Cond.fieldLink RX11 102 "BarrowPlank$Works" "crew" "I" ∈ wsX11_count := by decide +kernel
  have k197 : Cond.fieldLink RX11 197 "BarrowPlank$Works" "notes" "I" ∈ wsX11_count := by decide +kernel
  have hTp0 := hTp
  have hNw0 := hNw
  obtain ⟨hnw, hkp, htr, hTq, hR0, hR1, hR2, hR3, hR4, hN, hKp, hTr, hTrd, hTl⟩ := hTp
  obtain ⟨hA, hBb, hmen, hme, a, hsR, hst, hsi, hfa⟩ := hNw
  have h38 := hb.2.2.2.2.1
  have h0 := hb.1
  refine lv_iload_n X.1 X.2.1 dX11_count_0 rfl (lv_at hl 1 rfl) ?_
  refine lv_tableIn (off := 51) (tgt := 52) X.1 X.2.1 dX11_count_1 (by decide) (by decide) (by decide) (by decide) ?_
  refine lv_aload_n X.1 X.2.1 dX11_count_52 rfl (lv_at hl 0 rfl) ?_
  refine g_getr 13 0 X hK hP hTq rfl hinRX11 rfl (by decide) k17 (fun _ h => h) dX11_count_53 (show va_rf (R q 0) = .ref nw from by rw [hR0]; rfl) ?_
  refine g_geti 12 7 X hK hP hN.t0 rfl hinRX10 rfl (by decide) k197 (fun _ h => h) dX11_count_56 (show I nw 7 = nI (σ 40) from hBb.2.1) ?_
  exact g_iret (f := fun u => u) (z, T, I, R) X hr hlk hK hP hS dX11_count_59 ⟨rfl, rfl⟩

set_option maxHeartbeats 4000000 in
set_option maxRecDepth 100000 in
/-- t_count_3 -/
theorem t_count_3 (hTp : cTop q nw kp tr T R) (hNw : cNw q nw T I R σ fl ti sh) (hG : sGd fl ti sh) (hb : sBd σ K)  : Met l yX11_count wsX11_count ({ frames := 0, cells := 0, slots := 0, locals := 0 }) (va_Pc [.ref q, .int 3] (gW0 s0 D cy B (z, T, I, R))) (va_Qi (fun r u => r = nI (σ 41) ∧ (z, T, I, R) = u) (fun u t => gW1 D cy B u t) (gA B)) 0 0 (gA B) := by
  refine g_met (maxL := 2) (ret := (some .int)) (by decide) rfl (Nat.le_of_ble_eq_true rfl) (fun p e s m args below meth c ls X hr hlk hnm hK hP hC hS hl => ?_)
  have hl : lv_has ls 2 [(0, .ref q), (1, .int 3)] := hl
  have hP : gP D cy B z T I R s.heap := hP
  have hB : B ≤ s.heap.size := by rw [hP.1]; exact hP.2.1
  have hinRX10 : ∀ w ∈ wsX100, w ∈ wsX11_count := fun _ h => List.mem_cons_of_mem _ (List.mem_append_left _ (List.mem_append_right _ h))
  have hinRX11 : ∀ w ∈ wsX110, w ∈ wsX11_count := fun _ h => List.mem_cons_of_mem _ (List.mem_append_left _ (List.mem_append_left _ (List.mem_append_right _ h)))
  have k17 : Cond.fieldLink RX11 17 "BarrowPlank" "now" "LBarrowPlank$Works;" ∈ wsX11_count := by decide +kernel
  have k39 : Cond.fieldLink RX11 39 "BarrowPlank" "bodies" "Ljava/util/ArrayList;" ∈ wsX11_count := by decide +kernel
  have k51 : Cond.fieldLink RX11 51 "BarrowPlank$Works" "signs" "I" ∈ wsX11_count := by decide +kernel
  have k59 : Cond.fieldLink RX11 59 "BarrowPlank$Works" "sites" "I" ∈ wsX11_count := by decide +kernel
  have k102 : Cond.fieldLink RX11 102 "BarrowPlank$Works" "crew" "I" ∈ wsX11_count := by decide +kernel
  have k197 : Cond.fieldLink RX11 197 "BarrowPlank$Works" "notes" "I" ∈ wsX11_count := by decide +kernel
  have hTp0 := hTp
  have hNw0 := hNw
  obtain ⟨hnw, hkp, htr, hTq, hR0, hR1, hR2, hR3, hR4, hN, hKp, hTr, hTrd, hTl⟩ := hTp
  obtain ⟨hA, hBb, hmen, hme, a, hsR, hst, hsi, hfa⟩ := hNw
  have h38 := hb.2.2.2.2.1
  have h0 := hb.1
  refine lv_iload_n X.1 X.2.1 dX11_count_0 rfl (lv_at hl 1 rfl) ?_
  refine lv_tableIn (off := 59) (tgt := 60) X.1 X.2.1 dX11_count_1 (by decide) (by decide) (by decide) (by decide) ?_
  refine lv_aload_n X.1 X.2.1 dX11_count_60 rfl (lv_at hl 0 rfl) ?_
  refine g_getr 13 0 X hK hP hTq rfl hinRX11 rfl (by decide) k17 (fun _ h => h) dX11_count_61 (show va_rf (R q 0) = .ref nw from by rw [hR0]; rfl) ?_
  refine g_geti 12 6 X hK hP hN.t0 rfl hinRX10 rfl (by decide) k51 (fun _ h => h) dX11_count_64 (show I nw 6 = nI (σ 41) from hBb.1) ?_
  exact g_iret (f := fun u => u) (z, T, I, R) X hr hlk hK hP hS dX11_count_67 ⟨rfl, rfl⟩

set_option maxHeartbeats 4000000 in
set_option maxRecDepth 100000 in
/-- t_count_n -/
theorem t_count_n (hTp : cTop q nw kp tr T R) (hNw : cNw q nw T I R σ fl ti sh) (hG : sGd fl ti sh) (hb : sBd σ K) {x : Int32} (hx : x.toInt < 0 ∨ 4 < x.toInt) : Met l yX11_count wsX11_count ({ frames := 0, cells := 0, slots := 0, locals := 0 }) (va_Pc [.ref q, .int x] (gW0 s0 D cy B (z, T, I, R))) (va_Qi (fun r u => r = -1 ∧ (z, T, I, R) = u) (fun u t => gW1 D cy B u t) (gA B)) 0 0 (gA B) := by
  refine g_met (maxL := 2) (ret := (some .int)) (by decide) rfl (Nat.le_of_ble_eq_true rfl) (fun p e s m args below meth c ls X hr hlk hnm hK hP hC hS hl => ?_)
  have hl : lv_has ls 2 [(0, .ref q), (1, .int x)] := hl
  have hP : gP D cy B z T I R s.heap := hP
  have hB : B ≤ s.heap.size := by rw [hP.1]; exact hP.2.1
  have k17 : Cond.fieldLink RX11 17 "BarrowPlank" "now" "LBarrowPlank$Works;" ∈ wsX11_count := by decide +kernel
  have k39 : Cond.fieldLink RX11 39 "BarrowPlank" "bodies" "Ljava/util/ArrayList;" ∈ wsX11_count := by decide +kernel
  have k51 : Cond.fieldLink RX11 51 "BarrowPlank$Works" "signs" "I" ∈ wsX11_count := by decide +kernel
  have k59 : Cond.fieldLink RX11 59 "BarrowPlank$Works" "sites" "I" ∈ wsX11_count := by decide +kernel
  have k102 : Cond.fieldLink RX11 102 "BarrowPlank$Works" "crew" "I" ∈ wsX11_count := by decide +kernel
  have k197 : Cond.fieldLink RX11 197 "BarrowPlank$Works" "notes" "I" ∈ wsX11_count := by decide +kernel
  have hTp0 := hTp
  have hNw0 := hNw
  obtain ⟨hnw, hkp, htr, hTq, hR0, hR1, hR2, hR3, hR4, hN, hKp, hTr, hTrd, hTl⟩ := hTp
  obtain ⟨hA, hBb, hmen, hme, a, hsR, hst, hsi, hfa⟩ := hNw
  have h38 := hb.2.2.2.2.1
  have h0 := hb.1
  refine lv_iload_n X.1 X.2.1 dX11_count_0 rfl (lv_at hl 1 rfl) ?_
  refine lv_tableOut (tgt := 76) X.1 X.2.1 dX11_count_1 hx (by decide) ?_
  refine lv_iconst (v := (-1)) X.1 X.2.1 dX11_count_76 (by decide) ?_
  exact g_iret (f := fun u => u) (z, T, I, R) X hr hlk hK hP hS dX11_count_77 ⟨rfl, rfl⟩

set_option maxHeartbeats 4000000 in
set_option maxRecDepth 100000 in
/-- t_yard_n -/
theorem t_yard_n (hTp : cTop q nw kp tr T R) (hNw : cNw q nw T I R σ fl ti sh) (hG : sGd fl ti sh) (hb : sBd σ K) {aa bb n : Int32} (hno : ¬ ((0 ≤ aa ∧ aa ≤ 9) ∧ (0 ≤ bb ∧ bb ≤ 2))) : Met l yX11_yard wsX11_yard ({ frames := 1, cells := 0, slots := 0, locals := 22 }) (va_Pc [.ref q, .int aa, .int bb, .int n] (gW0 s0 D cy B (z, T, I, R))) (va_Qi (fun r u => r = -1 ∧ (z, T, I, R) = u) (fun u t => gW1 D cy B u t) (gA B)) 0 0 (gA B) := by
  refine g_met (maxL := 4) (ret := (some .int)) (by decide) rfl (Nat.le_of_ble_eq_true rfl) (fun p e s m args below meth c ls X hr hlk hnm hK hP hC hS hl => ?_)
  have hl : lv_has ls 4 [(0, .ref q), (1, .int aa), (2, .int bb), (3, .int n)] := hl
  have hP : gP D cy B z T I R s.heap := hP
  have hB : B ≤ s.heap.size := by rw [hP.1]; exact hP.2.1
  have k17 : Cond.fieldLink RX11 17 "BarrowPlank" "now" "LBarrowPlank$Works;" ∈ wsX11_yard := by decide +kernel
  have hTp0 := hTp
  have hNw0 := hNw
  obtain ⟨hnw, hkp, htr, hTq, hR0, hR1, hR2, hR3, hR4, hN, hKp, hTr, hTrd, hTl⟩ := hTp
  obtain ⟨hA, hBb, hmen, hme, a, hsR, hst, hsi, hfa⟩ := hNw
  have h38 := hb.2.2.2.2.1
  have h0 := hb.1
  refine lv_iload_n X.1 X.2.1 dX11_yard_0 rfl (lv_at hl 1 rfl) ?_
  refine lv_iconst (v := 0) X.1 X.2.1 dX11_yard_1 (by decide) ?_
  refine lv_bipush (v := 9) X.1 X.2.1 dX11_yard_2 (by decide) ?_
  refine g_run_i (f := fun u => u) (g_runS [.int aa, .int 0, .int 9] X hK hP hS hC hB (d_outside) (va_cwS 3 X.2.2.2.2 gX11_yard_X11_outside rfl rfl rfl (by decide +kernel) ⟨Nat.le_of_ble_eq_true rfl, Nat.le_of_ble_eq_true rfl⟩) rfl hl.1 rfl (Nat.le_of_ble_eq_true rfl) dX11_yard_4 (by exact ⟨Nat.zero_le _, Nat.zero_le _⟩)) hS (fun r u H locs hq hP hS => ?_)
  obtain ⟨rfl, rfl⟩ := hq
  have hP : gP D cy B z T I R H := hP
  refine lv_if_ne (tgt := 19) X.1 X.2.1 dX11_yard_7 (by decide) (fun c7 => ?_) (fun c7 => ?_)
  · refine lv_iconst (v := (-1)) X.1 X.2.1 dX11_yard_19 (by decide) ?_
    exact g_iret (f := fun u => u) (z, T, I, R) X hr hlk hK hP hS dX11_yard_20 ⟨rfl, rfl⟩
  · refine lv_iload_n X.1 X.2.1 dX11_yard_10 rfl (lv_at hl 2 rfl) ?_
    refine lv_iconst (v := 0) X.1 X.2.1 dX11_yard_11 (by decide) ?_
    refine lv_iconst (v := 2) X.1 X.2.1 dX11_yard_12 (by decide) ?_
    refine g_run_i (f := fun u => u) (g_runS [.int bb, .int 0, .int 2] X hK hP hS hC hB (d_outside) (va_cwS 3 X.2.2.2.2 gX11_yard_X11_outside rfl rfl rfl (by decide +kernel) ⟨Nat.le_of_ble_eq_true rfl, Nat.le_of_ble_eq_true rfl⟩) rfl hl.1 rfl (Nat.le_of_ble_eq_true rfl) dX11_yard_13 (by exact ⟨Nat.zero_le _, Nat.zero_le _⟩)) hS (fun r u H locs hq hP hS => ?_)
    obtain ⟨rfl, rfl⟩ := hq
    have hP : gP D cy B z T I R H := hP
    refine lv_if_eq (tgt := 21) X.1 X.2.1 dX11_yard_16 (by decide) (fun c16 => ?_) (fun c16 => ?_)
    · exact absurd ⟨Classical.not_not.mp (gt_0 c7), Classical.not_not.mp (gt_0 c16)⟩ hno
    · refine lv_iconst (v := (-1)) X.1 X.2.1 dX11_yard_19 (by decide) ?_
      exact g_iret (f := fun u => u) (z, T, I, R) X hr hlk hK hP hS dX11_yard_20 ⟨rfl, rfl⟩

set_option maxHeartbeats 4000000 in
set_option maxRecDepth 100000 in
/-- t_yard_b -/
theorem t_yard_b (hTp : cTop q nw kp tr T R) (hNw : cNw q nw T I R σ fl ti sh) (hG : sGd fl ti sh) (hb : sBd σ K) {aa bb : Nat} (ha : aa < 10) (hb3 : bb < 3) {n : Int32} (hbad : ¬ (0 ≤ n ∧ n ≤ 9)) : Met l yX11_yard wsX11_yard ({ frames := 1, cells := 0, slots := 0, locals := 22 }) (va_Pc [.ref q, .int (nI aa), .int (nI bb), .int n] (gW0 s0 D cy B (z, T, I, R))) (va_Qi (fun r u => r = -2 ∧ (z, T, I, R) = u) (fun u t => gW1 D cy B u t) (gA B)) 0 0 (gA B) := by
  refine g_met (maxL := 4) (ret := (some .int)) (by decide) rfl (Nat.le_of_ble_eq_true rfl) (fun p e s m args below meth c ls X hr hlk hnm hK hP hC hS hl => ?_)
  have hl : lv_has ls 4 [(0, .ref q), (1, .int (nI aa)), (2, .int (nI bb)), (3, .int n)] := hl
  have hP : gP D cy B z T I R s.heap := hP
  have hB : B ≤ s.heap.size := by rw [hP.1]; exact hP.2.1
  have k17 : Cond.fieldLink RX11 17 "BarrowPlank" "now" "LBarrowPlank$Works;" ∈ wsX11_yard := by decide +kernel
  have hTp0 := hTp
  have hNw0 := hNw
  obtain ⟨hnw, hkp, htr, hTq, hR0, hR1, hR2, hR3, hR4, hN, hKp, hTr, hTrd, hTl⟩ := hTp
  obtain ⟨hA, hBb, hmen, hme, a, hsR, hst, hsi, hfa⟩ := hNw
  have h38 := hb.2.2.2.2.1
  have h0 := hb.1
  refine lv_iload_n X.1 X.2.1 dX11_yard_0 rfl (lv_at hl 1 rfl) ?_
  refine lv_iconst (v := 0) X.1 X.2.1 dX11_yard_1 (by decide) ?_
  refine lv_bipush (v := 9) X.1 X.2.1 dX11_yard_2 (by decide) ?_
  refine g_run_i (f := fun u => u) (g_runS [.int (nI aa), .int 0, .int 9] X hK hP hS hC hB (d_outside) (va_cwS 3 X.2.2.2.2 gX11_yard_X11_outside rfl rfl rfl (by decide +kernel) ⟨Nat.le_of_ble_eq_true rfl, Nat.le_of_ble_eq_true rfl⟩) rfl hl.1 rfl (Nat.le_of_ble_eq_true rfl) dX11_yard_4 (by exact ⟨Nat.zero_le _, Nat.zero_le _⟩)) hS (fun r u H locs hq hP hS => ?_)
  obtain ⟨rfl, rfl⟩ := hq
  have hP : gP D cy B z T I R H := hP
  refine lv_if_ne (tgt := 19) X.1 X.2.1 dX11_yard_7 (by decide) (fun c7 => ?_) (fun c7 => ?_)
  · exact absurd (g_le (a := 0) (b := 9) (x := 0) (y := 9) rfl rfl (by omega) (by omega) (by omega)) (gt_1 c7)
  · refine lv_iload_n X.1 X.2.1 dX11_yard_10 rfl (lv_at hl 2 rfl) ?_
    refine lv_iconst (v := 0) X.1 X.2.1 dX11_yard_11 (by decide) ?_
    refine lv_iconst (v := 2) X.1 X.2.1 dX11_yard_12 (by decide) ?_
    refine g_run_i (f := fun u => u) (g_runS [.int (nI bb), .int 0, .int 2] X hK hP hS hC hB (d_outside) (va_cwS 3 X.2.2.2.2 gX11_yard_X11_outside rfl rfl rfl (by decide +kernel) ⟨Nat.le_of_ble_eq_true rfl, Nat.le_of_ble_eq_true rfl⟩) rfl hl.1 rfl (Nat.le_of_ble_eq_true rfl) dX11_yard_13 (by exact ⟨Nat.zero_le _, Nat.zero_le _⟩)) hS (fun r u H locs hq hP hS => ?_)
    obtain ⟨rfl, rfl⟩ := hq
    have hP : gP D cy B z T I R H := hP
    refine lv_if_eq (tgt := 21) X.1 X.2.1 dX11_yard_16 (by decide) (fun c16 => ?_) (fun c16 => ?_)
    · refine lv_iload_n X.1 X.2.1 dX11_yard_21 rfl (lv_at hl 3 rfl) ?_
      refine lv_iconst (v := 0) X.1 X.2.1 dX11_yard_22 (by decide) ?_
      refine lv_bipush (v := 9) X.1 X.2.1 dX11_yard_23 (by decide) ?_
      refine g_run_i (f := fun u => u) (g_runS [.int n, .int 0, .int 9] X hK hP hS hC hB (d_outside) (va_cwS 3 X.2.2.2.2 gX11_yard_X11_outside rfl rfl rfl (by decide +kernel) ⟨Nat.le_of_ble_eq_true rfl, Nat.le_of_ble_eq_true rfl⟩) rfl hl.1 rfl (Nat.le_of_ble_eq_true rfl) dX11_yard_25 (by exact ⟨Nat.zero_le _, Nat.zero_le _⟩)) hS (fun r u H locs hq hP hS => ?_)
      obtain ⟨rfl, rfl⟩ := hq
      have hP : gP D cy B z T I R H := hP
      refine lv_if_eq (tgt := 34) X.1 X.2.1 dX11_yard_28 (by decide) (fun c28 => ?_) (fun c28 => ?_)
      · exact absurd hbad (gt_0 c28)
      · refine lv_bipush (v := (-2)) X.1 X.2.1 dX11_yard_31 (by decide) ?_
        exact g_iret (f := fun u => u) (z, T, I, R) X hr hlk hK hP hS dX11_yard_33 ⟨rfl, rfl⟩
    · exact absurd (g_le (a := 0) (b := 2) (x := 0) (y := 2) rfl rfl (by omega) (by omega) (by omega)) (gt_1 c16)

set_option maxHeartbeats 4000000 in
set_option maxRecDepth 100000 in
/-- t_yard -/
theorem t_yard (hTp : cTop q nw kp tr T R) (hNw : cNw q nw T I R σ fl ti sh) (hG : sGd fl ti sh) (hb : sBd σ K) {aa bb n : Nat} (ha : aa < 10) (hb3 : bb < 3) (hn : n ≤ 9) : Met l yX11_yard wsX11_yard ({ frames := 2, cells := 0, slots := 0, locals := 45 }) (va_Pc [.ref q, .int (nI aa), .int (nI bb), .int (nI n)] (gW0 s0 D cy B (z, T, I, R))) (va_Qi (fun r u => r = nI (σ (8 + 10 * bb + aa)) ∧ u = (z, T, iFg nw (g2 I (nw + 2 + bb) aa (nI n)) 4, R)) (fun u t => gW1 D cy B u t) (gA B)) 0 0 (gA B) := by
  refine g_met (maxL := 4) (ret := (some .int)) (by decide) rfl (Nat.le_of_ble_eq_true rfl) (fun p e s m args below meth c ls X hr hlk hnm hK hP hC hS hl => ?_)
  have hl : lv_has ls 4 [(0, .ref q), (1, .int (nI aa)), (2, .int (nI bb)), (3, .int (nI n))] := hl
  have hP : gP D cy B z T I R s.heap := hP
  have hB : B ≤ s.heap.size := by rw [hP.1]; exact hP.2.1
  have hinRX11 : ∀ w ∈ wsX110, w ∈ wsX11_yard := fun _ h => List.mem_cons_of_mem _ (List.mem_append_left _ (List.mem_append_left _ (List.mem_append_right _ h)))
  have k17 : Cond.fieldLink RX11 17 "BarrowPlank" "now" "LBarrowPlank$Works;" ∈ wsX11_yard := by decide +kernel
  have hTp0 := hTp
  have hNw0 := hNw
  obtain ⟨hnw, hkp, htr, hTq, hR0, hR1, hR2, hR3, hR4, hN, hKp, hTr, hTrd, hTl⟩ := hTp
  obtain ⟨hA, hBb, hmen, hme, a, hsR, hst, hsi, hfa⟩ := hNw
  have h38 := hb.2.2.2.2.1
  have h0 := hb.1
  refine lv_iload_n X.1 X.2.1 dX11_yard_0 rfl (lv_at hl 1 rfl) ?_
  refine lv_iconst (v := 0) X.1 X.2.1 dX11_yard_1 (by decide) ?_
  refine lv_bipush (v := 9) X.1 X.2.1 dX11_yard_2 (by decide) ?_
  refine g_run_i (f := fun u => u) (g_runS [.int (nI aa), .int 0, .int 9] X hK hP hS hC hB (d_outside) (va_cwS 3 X.2.2.2.2 gX11_yard_X11_outside rfl rfl rfl (by decide +kernel) ⟨Nat.le_of_ble_eq_true rfl, Nat.le_of_ble_eq_true rfl⟩) rfl hl.1 rfl (Nat.le_of_ble_eq_true rfl) dX11_yard_4 (by exact ⟨Nat.zero_le _, Nat.zero_le _⟩)) hS (fun r u H locs hq hP hS => ?_)
  obtain ⟨rfl, rfl⟩ := hq
  have hP : gP D cy B z T I R H := hP
  refine lv_if_ne (tgt := 19) X.1 X.2.1 dX11_yard_7 (by decide) (fun c7 => ?_) (fun c7 => ?_)
  · exact absurd (g_le (a := 0) (b := 9) (x := 0) (y := 9) rfl rfl (by omega) (by omega) (by omega)) (gt_1 c7)
  · refine lv_iload_n X.1 X.2.1 dX11_yard_10 rfl (lv_at hl 2 rfl) ?_
    refine lv_iconst (v := 0) X.1 X.2.1 dX11_yard_11 (by decide) ?_
    refine lv_iconst (v := 2) X.1 X.2.1 dX11_yard_12 (by decide) ?_
    refine g_run_i (f := fun u => u) (g_runS [.int (nI bb), .int 0, .int 2] X hK hP hS hC hB (d_outside) (va_cwS 3 X.2.2.2.2 gX11_yard_X11_outside rfl rfl rfl (by decide +kernel) ⟨Nat.le_of_ble_eq_true rfl, Nat.le_of_ble_eq_true rfl⟩) rfl hl.1 rfl (Nat.le_of_ble_eq_true rfl) dX11_yard_13 (by exact ⟨Nat.zero_le _, Nat.zero_le _⟩)) hS (fun r u H locs hq hP hS => ?_)
    obtain ⟨rfl, rfl⟩ := hq
    have hP : gP D cy B z T I R H := hP
    refine lv_if_eq (tgt := 21) X.1 X.2.1 dX11_yard_16 (by decide) (fun c16 => ?_) (fun c16 => ?_)
    · refine lv_iload_n X.1 X.2.1 dX11_yard_21 rfl (lv_at hl 3 rfl) ?_
      refine lv_iconst (v := 0) X.1 X.2.1 dX11_yard_22 (by decide) ?_
      refine lv_bipush (v := 9) X.1 X.2.1 dX11_yard_23 (by decide) ?_
      refine g_run_i (f := fun u => u) (g_runS [.int (nI n), .int 0, .int 9] X hK hP hS hC hB (d_outside) (va_cwS 3 X.2.2.2.2 gX11_yard_X11_outside rfl rfl rfl (by decide +kernel) ⟨Nat.le_of_ble_eq_true rfl, Nat.le_of_ble_eq_true rfl⟩) rfl hl.1 rfl (Nat.le_of_ble_eq_true rfl) dX11_yard_25 (by exact ⟨Nat.zero_le _, Nat.zero_le _⟩)) hS (fun r u H locs hq hP hS => ?_)
      obtain ⟨rfl, rfl⟩ := hq
      have hP : gP D cy B z T I R H := hP
      refine lv_if_eq (tgt := 34) X.1 X.2.1 dX11_yard_28 (by decide) (fun c28 => ?_) (fun c28 => ?_)
      · refine lv_aload_n X.1 X.2.1 dX11_yard_34 rfl (lv_at hl 0 rfl) ?_
        refine g_getr 13 0 X hK hP hTq rfl hinRX11 rfl (by decide) k17 (fun _ h => h) dX11_yard_35 (show va_rf (R q 0) = .ref nw from by rw [hR0]; rfl) ?_
        refine lv_iload_n X.1 X.2.1 dX11_yard_38 rfl (lv_at hl 1 rfl) ?_
        refine lv_iload_n X.1 X.2.1 dX11_yard_39 rfl (lv_at hl 2 rfl) ?_
        refine lv_iload_n X.1 X.2.1 dX11_yard_40 rfl (lv_at hl 3 rfl) ?_
        refine g_run_i (f := fun u => u) (g_runV (k := 12) [.int (nI aa), .int (nI bb), .int (nI n)] X hK hP hS hC hB (d_lay (y := aa) (wh := bb) hN ha hb3) (cwV 3 X.2.2.2.2 gX11_yard_X10_lay rfl rfl rfl (by decide +kernel) ⟨Nat.le_of_ble_eq_true rfl, Nat.le_of_ble_eq_true rfl⟩) hN.t0 rfl rfl hl.1 rfl (Nat.le_of_ble_eq_true rfl) dX11_yard_41 (by exact ⟨Nat.zero_le _, Nat.zero_le _⟩)) hS (fun r u H locs hq hP hS => ?_)
        obtain ⟨rfl, rfl⟩ := hq
        exact g_iret (f := fun u => u) (z, T, iFg nw (g2 I (nw + 2 + bb) aa (nI n)) 4, R) X hr hlk hK hP hS dX11_yard_44 ⟨hA.1 bb aa hb3 ha, rfl⟩
      · exact absurd (g_le (a := 0) (b := 9) (x := 0) (y := 9) rfl rfl (by omega) (by omega) (by omega)) (gt_1 c28)
    · exact absurd (g_le (a := 0) (b := 2) (x := 0) (y := 2) rfl rfl (by omega) (by omega) (by omega)) (gt_1 c16)

set_option maxHeartbeats 4000000 in
set_option maxRecDepth 100000 in
/-- t_book_e -/
theorem t_book_e (hTp : cTop q nw kp tr T R) (hNw : cNw q nw T I R σ fl ti sh) (hG : sGd fl ti sh) (hb : sBd σ K)  : Met l yX11_book wsX11_book ({ frames := 0, cells := 0, slots := 0, locals := 0 }) (va_Pc [.ref q, .int (-1)] (gW0 s0 D cy B (z, T, I, R))) (va_Qi (fun r u => r = 0 ∧ u = (z, T, g2 I nw 7 0, R)) (fun u t => gW1 D cy B u t) (gA B)) 0 0 (gA B) := by
  refine g_met (maxL := 2) (ret := (some .int)) (by decide) rfl (Nat.le_of_ble_eq_true rfl) (fun p e s m args below meth c ls X hr hlk hnm hK hP hC hS hl => ?_)
  have hl : lv_has ls 2 [(0, .ref q), (1, .int (-1))] := hl
  have hP : gP D cy B z T I R s.heap := hP
  have hB : B ≤ s.heap.size := by rw [hP.1]; exact hP.2.1
  have hinRX10 : ∀ w ∈ wsX100, w ∈ wsX11_book := fun _ h => List.mem_cons_of_mem _ (List.mem_append_right _ h)
  have hinRX11 : ∀ w ∈ wsX110, w ∈ wsX11_book := fun _ h => List.mem_cons_of_mem _ (List.mem_append_left _ (List.mem_append_right _ h))
  have k17 : Cond.fieldLink RX11 17 "BarrowPlank" "now" "LBarrowPlank$Works;" ∈ wsX11_book := by decide +kernel
  have k197 : Cond.fieldLink RX11 197 "BarrowPlank$Works" "notes" "I" ∈ wsX11_book := by decide +kernel
  have k200 : Cond.fieldLink RX11 200 "BarrowPlank$Works" "noted" "[I" ∈ wsX11_book := by decide +kernel
  have hTp0 := hTp
  have hNw0 := hNw
  obtain ⟨hnw, hkp, htr, hTq, hR0, hR1, hR2, hR3, hR4, hN, hKp, hTr, hTrd, hTl⟩ := hTp
  obtain ⟨hA, hBb, hmen, hme, a, hsR, hst, hsi, hfa⟩ := hNw
  have h38 := hb.2.2.2.2.1
  have h0 := hb.1
  refine lv_iload_n X.1 X.2.1 dX11_book_0 rfl (lv_at hl 1 rfl) ?_
  refine lv_iconst (v := (-1)) X.1 X.2.1 dX11_book_1 (by decide) ?_
  refine lv_icmp_ne (tgt := 15) X.1 X.2.1 dX11_book_2 (by decide) (fun c2 => ?_) (fun c2 => ?_)
  · exact absurd rfl c2
  · refine lv_aload_n X.1 X.2.1 dX11_book_5 rfl (lv_at hl 0 rfl) ?_
    refine g_getr 13 0 X hK hP hTq rfl hinRX11 rfl (by decide) k17 (fun _ h => h) dX11_book_6 (show va_rf (R q 0) = .ref nw from by rw [hR0]; rfl) ?_
    refine lv_iconst (v := 0) X.1 X.2.1 dX11_book_9 (by decide) ?_
    refine g_puti 12 7 X hK hP hS hN.t0 rfl hinRX10 tyX10 tyX10_ok nmX10 rfl (by decide) k197 (fun _ h => h) rfl rfl rfl dX11_book_10 (fun H locs hP hS => ?_)
    generalize eI1 : g2 I nw 7 0 = I1 at hP
    refine lv_iconst (v := 0) X.1 X.2.1 dX11_book_13 (by decide) ?_
    exact g_iret (f := fun u => u) (z, T, I1, R) X hr hlk hK hP hS dX11_book_14 ⟨rfl, (by rw [← eI1])⟩

set_option maxHeartbeats 4000000 in
set_option maxRecDepth 100000 in
/-- t_book_b -/
theorem t_book_b (hTp : cTop q nw kp tr T R) (hNw : cNw q nw T I R σ fl ti sh) (hG : sGd fl ti sh) (hb : sBd σ K) {n : Int32} (h1 : ¬ n = -1) (hbad : ¬ (0 ≤ n ∧ n ≤ 9999)) : Met l yX11_book wsX11_book ({ frames := 1, cells := 0, slots := 0, locals := 22 }) (va_Pc [.ref q, .int n] (gW0 s0 D cy B (z, T, I, R))) (va_Qi (fun r u => r = -2 ∧ (z, T, I, R) = u) (fun u t => gW1 D cy B u t) (gA B)) 0 0 (gA B) := by
  refine g_met (maxL := 2) (ret := (some .int)) (by decide) rfl (Nat.le_of_ble_eq_true rfl) (fun p e s m args below meth c ls X hr hlk hnm hK hP hC hS hl => ?_)
  have hl : lv_has ls 2 [(0, .ref q), (1, .int n)] := hl
  have hP : gP D cy B z T I R s.heap := hP
  have hB : B ≤ s.heap.size := by rw [hP.1]; exact hP.2.1
  have k17 : Cond.fieldLink RX11 17 "BarrowPlank" "now" "LBarrowPlank$Works;" ∈ wsX11_book := by decide +kernel
  have k197 : Cond.fieldLink RX11 197 "BarrowPlank$Works" "notes" "I" ∈ wsX11_book := by decide +kernel
  have k200 : Cond.fieldLink RX11 200 "BarrowPlank$Works" "noted" "[I" ∈ wsX11_book := by decide +kernel
  have hTp0 := hTp
  have hNw0 := hNw
  obtain ⟨hnw, hkp, htr, hTq, hR0, hR1, hR2, hR3, hR4, hN, hKp, hTr, hTrd, hTl⟩ := hTp
  obtain ⟨hA, hBb, hmen, hme, a, hsR, hst, hsi, hfa⟩ := hNw
  have h38 := hb.2.2.2.2.1
  have h0 := hb.1
  refine lv_iload_n X.1 X.2.1 dX11_book_0 rfl (lv_at hl 1 rfl) ?_
  refine lv_iconst (v := (-1)) X.1 X.2.1 dX11_book_1 (by decide) ?_
  refine lv_icmp_ne (tgt := 15) X.1 X.2.1 dX11_book_2 (by decide) (fun c2 => ?_) (fun c2 => ?_)
  · refine lv_iload_n X.1 X.2.1 dX11_book_15 rfl (lv_at hl 1 rfl) ?_
    refine lv_iconst (v := 0) X.1 X.2.1 dX11_book_16 (by decide) ?_
    refine lv_sipush (v := 9999) X.1 X.2.1 dX11_book_17 (by decide) ?_
    refine g_run_i (f := fun u => u) (g_runS [.int n, .int 0, .int 9999] X hK hP hS hC hB (d_outside) (va_cwS 3 X.2.2.2.2 gX11_book_X11_outside rfl rfl rfl (by decide +kernel) ⟨Nat.le_of_ble_eq_true rfl, Nat.le_of_ble_eq_true rfl⟩) rfl hl.1 rfl (Nat.le_of_ble_eq_true rfl) dX11_book_20 (by exact ⟨Nat.zero_le _, Nat.zero_le _⟩)) hS (fun r u H locs hq hP hS => ?_)
    obtain ⟨rfl, rfl⟩ := hq
    have hP : gP D cy B z T I R H := hP
    refine lv_if_eq (tgt := 29) X.1 X.2.1 dX11_book_23 (by decide) (fun c23 => ?_) (fun c23 => ?_)
    · exact absurd hbad (gt_0 c23)
    · refine lv_bipush (v := (-2)) X.1 X.2.1 dX11_book_26 (by decide) ?_
      exact g_iret (f := fun u => u) (z, T, I, R) X hr hlk hK hP hS dX11_book_28 ⟨rfl, rfl⟩
  · exact absurd c2 h1

set_option maxHeartbeats 4000000 in
set_option maxRecDepth 100000 in
/-- t_book_f -/
theorem t_book_f (hTp : cTop q nw kp tr T R) (hNw : cNw q nw T I R σ fl ti sh) (hG : sGd fl ti sh) (hb : sBd σ K) {n : Nat} (hn : n ≤ 9999) (h12 : σ 40 = 12) : Met l yX11_book wsX11_book ({ frames := 1, cells := 0, slots := 0, locals := 22 }) (va_Pc [.ref q, .int (nI n)] (gW0 s0 D cy B (z, T, I, R))) (va_Qi (fun r u => r = -4 ∧ (z, T, I, R) = u) (fun u t => gW1 D cy B u t) (gA B)) 0 0 (gA B) := by
  refine g_met (maxL := 2) (ret := (some .int)) (by decide) rfl (Nat.le_of_ble_eq_true rfl) (fun p e s m args below meth c ls X hr hlk hnm hK hP hC hS hl => ?_)
  have hl : lv_has ls 2 [(0, .ref q), (1, .int (nI n))] := hl
  have hP : gP D cy B z T I R s.heap := hP
  have hB : B ≤ s.heap.size := by rw [hP.1]; exact hP.2.1
  have hinRX10 : ∀ w ∈ wsX100, w ∈ wsX11_book := fun _ h => List.mem_cons_of_mem _ (List.mem_append_right _ h)
  have hinRX11 : ∀ w ∈ wsX110, w ∈ wsX11_book := fun _ h => List.mem_cons_of_mem _ (List.mem_append_left _ (List.mem_append_right _ h))
  have k17 : Cond.fieldLink RX11 17 "BarrowPlank" "now" "LBarrowPlank$Works;" ∈ wsX11_book := by decide +kernel
  have k197 : Cond.fieldLink RX11 197 "BarrowPlank$Works" "notes" "I" ∈ wsX11_book := by decide +kernel
  have k200 : Cond.fieldLink RX11 200 "BarrowPlank$Works" "noted" "[I" ∈ wsX11_book := by decide +kernel
  have hTp0 := hTp
  have hNw0 := hNw
  obtain ⟨hnw, hkp, htr, hTq, hR0, hR1, hR2, hR3, hR4, hN, hKp, hTr, hTrd, hTl⟩ := hTp
  obtain ⟨hA, hBb, hmen, hme, a, hsR, hst, hsi, hfa⟩ := hNw
  have h38 := hb.2.2.2.2.1
  have h0 := hb.1
  refine lv_iload_n X.1 X.2.1 dX11_book_0 rfl (lv_at hl 1 rfl) ?_
  refine lv_iconst (v := (-1)) X.1 X.2.1 dX11_book_1 (by decide) ?_
  refine lv_icmp_ne (tgt := 15) X.1 X.2.1 dX11_book_2 (by decide) (fun c2 => ?_) (fun c2 => ?_)
  · refine lv_iload_n X.1 X.2.1 dX11_book_15 rfl (lv_at hl 1 rfl) ?_
    refine lv_iconst (v := 0) X.1 X.2.1 dX11_book_16 (by decide) ?_
    refine lv_sipush (v := 9999) X.1 X.2.1 dX11_book_17 (by decide) ?_
    refine g_run_i (f := fun u => u) (g_runS [.int (nI n), .int 0, .int 9999] X hK hP hS hC hB (d_outside) (va_cwS 3 X.2.2.2.2 gX11_book_X11_outside rfl rfl rfl (by decide +kernel) ⟨Nat.le_of_ble_eq_true rfl, Nat.le_of_ble_eq_true rfl⟩) rfl hl.1 rfl (Nat.le_of_ble_eq_true rfl) dX11_book_20 (by exact ⟨Nat.zero_le _, Nat.zero_le _⟩)) hS (fun r u H locs hq hP hS => ?_)
    obtain ⟨rfl, rfl⟩ := hq
    have hP : gP D cy B z T I R H := hP
    refine lv_if_eq (tgt := 29) X.1 X.2.1 dX11_book_23 (by decide) (fun c23 => ?_) (fun c23 => ?_)
    · refine lv_aload_n X.1 X.2.1 dX11_book_29 rfl (lv_at hl 0 rfl) ?_
      refine g_getr 13 0 X hK hP hTq rfl hinRX11 rfl (by decide) k17 (fun _ h => h) dX11_book_30 (show va_rf (R q 0) = .ref nw from by rw [hR0]; rfl) ?_
      refine g_geti 12 7 X hK hP hN.t0 rfl hinRX10 rfl (by decide) k197 (fun _ h => h) dX11_book_33 (show I nw 7 = nI (σ 40) from hBb.2.1) ?_
      refine lv_bipush (v := 12) X.1 X.2.1 dX11_book_36 (by decide) ?_
      refine lv_icmp_lt (tgt := 44) X.1 X.2.1 dX11_book_38 (by decide) (fun c38 => ?_) (fun c38 => ?_)
      · exact absurd (gq_lt c38 (Eq.refl (nI (σ 40))) (show (12 : Int32) = nI 12 from rfl) (by omega) (by omega)) (by omega)
      · have n38 : 12 ≤ (σ 40) := gq_nlt c38 (Eq.refl (nI (σ 40))) (show (12 : Int32) = nI 12 from rfl) (by omega) (by omega)
        refine lv_bipush (v := (-4)) X.1 X.2.1 dX11_book_41 (by decide) ?_
        exact g_iret (f := fun u => u) (z, T, I, R) X hr hlk hK hP hS dX11_book_43 ⟨rfl, rfl⟩
    · exact absurd (g_le (a := 0) (b := 9999) (x := 0) (y := 9999) rfl rfl (by omega) (by omega) (by omega)) (gt_1 c23)
  · exact absurd c2 (gn_m1 (by omega))

set_option maxHeartbeats 4000000 in
set_option maxRecDepth 100000 in
/-- t_book -/
theorem t_book (hTp : cTop q nw kp tr T R) (hNw : cNw q nw T I R σ fl ti sh) (hG : sGd fl ti sh) (hb : sBd σ K) {n jj : Nat} (hn : n ≤ 9999) (hj : σ 40 = jj) (hj12 : jj < 12) : Met l yX11_book wsX11_book ({ frames := 1, cells := 0, slots := 0, locals := 22 }) (va_Pc [.ref q, .int (nI n)] (gW0 s0 D cy B (z, T, I, R))) (va_Qi (fun r u => r = nI (jj + 1) ∧ u = (z, T, g2 (g2 I (nw + 8) jj (nI n)) nw 7 (nI (jj + 1)), R)) (fun u t => gW1 D cy B u t) (gA B)) 0 0 (gA B) := by
  refine g_met (maxL := 2) (ret := (some .int)) (by decide) rfl (Nat.le_of_ble_eq_true rfl) (fun p e s m args below meth c ls X hr hlk hnm hK hP hC hS hl => ?_)
  have hl : lv_has ls 2 [(0, .ref q), (1, .int (nI n))] := hl
  have hP : gP D cy B z T I R s.heap := hP
  have hB : B ≤ s.heap.size := by rw [hP.1]; exact hP.2.1
  have hinRX10 : ∀ w ∈ wsX100, w ∈ wsX11_book := fun _ h => List.mem_cons_of_mem _ (List.mem_append_right _ h)
  have hinRX11 : ∀ w ∈ wsX110, w ∈ wsX11_book := fun _ h => List.mem_cons_of_mem _ (List.mem_append_left _ (List.mem_append_right _ h))
  have k17 : Cond.fieldLink RX11 17 "BarrowPlank" "now" "LBarrowPlank$Works;" ∈ wsX11_book := by decide +kernel
  have k197 : Cond.fieldLink RX11 197 "BarrowPlank$Works" "notes" "I" ∈ wsX11_book := by decide +kernel
  have k200 : Cond.fieldLink RX11 200 "BarrowPlank$Works" "noted" "[I" ∈ wsX11_book := by decide +kernel
  have hTp0 := hTp
  have hNw0 := hNw
  obtain ⟨hnw, hkp, htr, hTq, hR0, hR1, hR2, hR3, hR4, hN, hKp, hTr, hTrd, hTl⟩ := hTp
  obtain ⟨hA, hBb, hmen, hme, a, hsR, hst, hsi, hfa⟩ := hNw
  have h38 := hb.2.2.2.2.1
  have h0 := hb.1
  refine lv_iload_n X.1 X.2.1 dX11_book_0 rfl (lv_at hl 1 rfl) ?_
  refine lv_iconst (v := (-1)) X.1 X.2.1 dX11_book_1 (by decide) ?_
  refine lv_icmp_ne (tgt := 15) X.1 X.2.1 dX11_book_2 (by decide) (fun c2 => ?_) (fun c2 => ?_)
  · refine lv_iload_n X.1 X.2.1 dX11_book_15 rfl (lv_at hl 1 rfl) ?_
    refine lv_iconst (v := 0) X.1 X.2.1 dX11_book_16 (by decide) ?_
    refine lv_sipush (v := 9999) X.1 X.2.1 dX11_book_17 (by decide) ?_
    refine g_run_i (f := fun u => u) (g_runS [.int (nI n), .int 0, .int 9999] X hK hP hS hC hB (d_outside) (va_cwS 3 X.2.2.2.2 gX11_book_X11_outside rfl rfl rfl (by decide +kernel) ⟨Nat.le_of_ble_eq_true rfl, Nat.le_of_ble_eq_true rfl⟩) rfl hl.1 rfl (Nat.le_of_ble_eq_true rfl) dX11_book_20 (by exact ⟨Nat.zero_le _, Nat.zero_le _⟩)) hS (fun r u H locs hq hP hS => ?_)
    obtain ⟨rfl, rfl⟩ := hq
    have hP : gP D cy B z T I R H := hP
    refine lv_if_eq (tgt := 29) X.1 X.2.1 dX11_book_23 (by decide) (fun c23 => ?_) (fun c23 => ?_)
    · refine lv_aload_n X.1 X.2.1 dX11_book_29 rfl (lv_at hl 0 rfl) ?_
      refine g_getr 13 0 X hK hP hTq rfl hinRX11 rfl (by decide) k17 (fun _ h => h) dX11_book_30 (show va_rf (R q 0) = .ref nw from by rw [hR0]; rfl) ?_
      refine g_geti 12 7 X hK hP hN.t0 rfl hinRX10 rfl (by decide) k197 (fun _ h => h) dX11_book_33 (show I nw 7 = nI jj from (hBb.2.1.trans (congrArg nI hj))) ?_
      refine lv_bipush (v := 12) X.1 X.2.1 dX11_book_36 (by decide) ?_
      refine lv_icmp_lt (tgt := 44) X.1 X.2.1 dX11_book_38 (by decide) (fun c38 => ?_) (fun c38 => ?_)
      · have n38 : jj < 12 := gq_lt c38 (Eq.refl (nI jj)) (show (12 : Int32) = nI 12 from rfl) (by omega) (by omega)
        refine lv_aload_n X.1 X.2.1 dX11_book_44 rfl (lv_at hl 0 rfl) ?_
        refine g_getr 13 0 X hK hP hTq rfl hinRX11 rfl (by decide) k17 (fun _ h => h) dX11_book_45 (show va_rf (R q 0) = .ref nw from by rw [hR0]; rfl) ?_
        refine g_getr 12 4 X hK hP hN.t0 rfl hinRX10 rfl (by decide) k200 (fun _ h => h) dX11_book_48 (show va_rf (R nw 4) = .ref (nw + 8) from by rw [(show R nw 4 = some (nw + 8) from hN.r 4 rfl)]; rfl) ?_
        refine lv_aload_n X.1 X.2.1 dX11_book_51 rfl (lv_at hl 0 rfl) ?_
        refine g_getr 13 0 X hK hP hTq rfl hinRX11 rfl (by decide) k17 (fun _ h => h) dX11_book_52 (show va_rf (R q 0) = .ref nw from by rw [hR0]; rfl) ?_
        refine g_geti 12 7 X hK hP hN.t0 rfl hinRX10 rfl (by decide) k197 (fun _ h => h) dX11_book_55 (show I nw 7 = nI jj from (hBb.2.1.trans (congrArg nI hj))) ?_
        refine lv_iload_n X.1 X.2.1 dX11_book_58 rfl (lv_at hl 1 rfl) ?_
        refine g_iast jj X hK hP hS (hN.t 8 rfl) (gIx_of (Eq.refl (nI jj)) (by omega) (by omega)) dX11_book_59 (fun H locs hP hS => ?_)
        generalize eI1 : g2 I (nw + 8) jj (nI n) = I1 at hP
        refine lv_aload_n X.1 X.2.1 dX11_book_60 rfl (lv_at hl 0 rfl) ?_
        refine g_getr 13 0 X hK hP hTq rfl hinRX11 rfl (by decide) k17 (fun _ h => h) dX11_book_61 (show va_rf (R q 0) = .ref nw from by rw [hR0]; rfl) ?_
        refine lv_dup X.1 X.2.1 dX11_book_64 rfl ?_
        refine g_geti 12 7 X hK hP hN.t0 rfl hinRX10 rfl (by decide) k197 (fun _ h => h) dX11_book_65 (show I1 nw 7 = nI jj from (gs_ne eI1 (by omega) (hBb.2.1.trans (congrArg nI hj)))) ?_
        refine lv_iconst (v := 1) X.1 X.2.1 dX11_book_68 (by decide) ?_
        refine lv_iadd X.1 X.2.1 dX11_book_69 ?_
        refine g_puti 12 7 X hK hP hS hN.t0 rfl hinRX10 tyX10 tyX10_ok nmX10 rfl (by decide) k197 (fun _ h => h) rfl rfl rfl dX11_book_70 (fun H locs hP hS => ?_)
        generalize eI2 : g2 I1 nw 7 ((nI jj) + 1) = I2 at hP
        refine lv_aload_n X.1 X.2.1 dX11_book_73 rfl (lv_at hl 0 rfl) ?_
        refine g_getr 13 0 X hK hP hTq rfl hinRX11 rfl (by decide) k17 (fun _ h => h) dX11_book_74 (show va_rf (R q 0) = .ref nw from by rw [hR0]; rfl) ?_
        refine g_geti 12 7 X hK hP hN.t0 rfl hinRX10 rfl (by decide) k197 (fun _ h => h) dX11_book_77 (show I2 nw 7 = (nI jj) + 1 from (gs_same eI2)) ?_
        exact g_iret (f := fun u => u) (z, T, I2, R) X hr hlk hK hP hS dX11_book_80 ⟨(gn_add (Eq.refl (nI jj)) (show (1 : Int32) = nI 1 from rfl)), (by rw [← eI2, ← eI1, ← (show (nI jj) + 1 = nI (jj + 1) from (gn_add (Eq.refl (nI jj)) (show (1 : Int32) = nI 1 from rfl)))])⟩
      · exact absurd (nI_lt hj12 (by omega)) c38
    · exact absurd (g_le (a := 0) (b := 9999) (x := 0) (y := 9999) rfl rfl (by omega) (by omega) (by omega)) (gt_1 c23)
  · exact absurd c2 (gn_m1 (by omega))

set_option maxHeartbeats 4000000 in
set_option maxRecDepth 100000 in
/-- t_feed_b -/
theorem t_feed_b (hTp : cTop q nw kp tr T R) (hNw : cNw q nw T I R σ fl ti sh) (hG : sGd fl ti sh) (hb : sBd σ K) {n : Int32} (hbad : ¬ (0 ≤ n ∧ n ≤ 127)) : Met l yX11_feed wsX11_feed ({ frames := 1, cells := 0, slots := 0, locals := 22 }) (va_Pc [.ref q, .int n] (gW0 s0 D cy B (z, T, I, R))) (va_Qi (fun r u => r = -2 ∧ (z, T, I, R) = u) (fun u t => gW1 D cy B u t) (gA B)) 0 0 (gA B) := by
  refine g_met (maxL := 2) (ret := (some .int)) (by decide) rfl (Nat.le_of_ble_eq_true rfl) (fun p e s m args below meth c ls X hr hlk hnm hK hP hC hS hl => ?_)
  have hl : lv_has ls 2 [(0, .ref q), (1, .int n)] := hl
  have hP : gP D cy B z T I R s.heap := hP
  have hB : B ≤ s.heap.size := by rw [hP.1]; exact hP.2.1
  have k17 : Cond.fieldLink RX11 17 "BarrowPlank" "now" "LBarrowPlank$Works;" ∈ wsX11_feed := by decide +kernel
  have k51 : Cond.fieldLink RX11 51 "BarrowPlank$Works" "signs" "I" ∈ wsX11_feed := by decide +kernel
  have k55 : Cond.fieldLink RX11 55 "BarrowPlank$Works" "tape" "[C" ∈ wsX11_feed := by decide +kernel
  have hTp0 := hTp
  have hNw0 := hNw
  obtain ⟨hnw, hkp, htr, hTq, hR0, hR1, hR2, hR3, hR4, hN, hKp, hTr, hTrd, hTl⟩ := hTp
  obtain ⟨hA, hBb, hmen, hme, a, hsR, hst, hsi, hfa⟩ := hNw
  have h38 := hb.2.2.2.2.1
  have h0 := hb.1
  refine lv_iload_n X.1 X.2.1 dX11_feed_0 rfl (lv_at hl 1 rfl) ?_
  refine lv_iconst (v := 0) X.1 X.2.1 dX11_feed_1 (by decide) ?_
  refine lv_bipush (v := 127) X.1 X.2.1 dX11_feed_2 (by decide) ?_
  refine g_run_i (f := fun u => u) (g_runS [.int n, .int 0, .int 127] X hK hP hS hC hB (d_outside) (va_cwS 3 X.2.2.2.2 gX11_feed_X11_outside rfl rfl rfl (by decide +kernel) ⟨Nat.le_of_ble_eq_true rfl, Nat.le_of_ble_eq_true rfl⟩) rfl hl.1 rfl (Nat.le_of_ble_eq_true rfl) dX11_feed_4 (by exact ⟨Nat.zero_le _, Nat.zero_le _⟩)) hS (fun r u H locs hq hP hS => ?_)
  obtain ⟨rfl, rfl⟩ := hq
  have hP : gP D cy B z T I R H := hP
  refine lv_if_eq (tgt := 13) X.1 X.2.1 dX11_feed_7 (by decide) (fun c7 => ?_) (fun c7 => ?_)
  · exact absurd hbad (gt_0 c7)
  · refine lv_bipush (v := (-2)) X.1 X.2.1 dX11_feed_10 (by decide) ?_
    exact g_iret (f := fun u => u) (z, T, I, R) X hr hlk hK hP hS dX11_feed_12 ⟨rfl, rfl⟩

set_option maxHeartbeats 4000000 in
set_option maxRecDepth 100000 in
/-- t_feed_f -/
theorem t_feed_f (hTp : cTop q nw kp tr T R) (hNw : cNw q nw T I R σ fl ti sh) (hG : sGd fl ti sh) (hb : sBd σ K) {n : Nat} (hn : n ≤ 127) (h100 : σ 41 = 100) : Met l yX11_feed wsX11_feed ({ frames := 1, cells := 0, slots := 0, locals := 22 }) (va_Pc [.ref q, .int (nI n)] (gW0 s0 D cy B (z, T, I, R))) (va_Qi (fun r u => r = -4 ∧ (z, T, I, R) = u) (fun u t => gW1 D cy B u t) (gA B)) 0 0 (gA B) := by
  refine g_met (maxL := 2) (ret := (some .int)) (by decide) rfl (Nat.le_of_ble_eq_true rfl) (fun p e s m args below meth c ls X hr hlk hnm hK hP hC hS hl => ?_)
  have hl : lv_has ls 2 [(0, .ref q), (1, .int (nI n))] := hl
  have hP : gP D cy B z T I R s.heap := hP
  have hB : B ≤ s.heap.size := by rw [hP.1]; exact hP.2.1
  have hinRX10 : ∀ w ∈ wsX100, w ∈ wsX11_feed := fun _ h => List.mem_cons_of_mem _ (List.mem_append_right _ h)
  have hinRX11 : ∀ w ∈ wsX110, w ∈ wsX11_feed := fun _ h => List.mem_cons_of_mem _ (List.mem_append_left _ (List.mem_append_right _ h))
  have k17 : Cond.fieldLink RX11 17 "BarrowPlank" "now" "LBarrowPlank$Works;" ∈ wsX11_feed := by decide +kernel
  have k51 : Cond.fieldLink RX11 51 "BarrowPlank$Works" "signs" "I" ∈ wsX11_feed := by decide +kernel
  have k55 : Cond.fieldLink RX11 55 "BarrowPlank$Works" "tape" "[C" ∈ wsX11_feed := by decide +kernel
  have hTp0 := hTp
  have hNw0 := hNw
  obtain ⟨hnw, hkp, htr, hTq, hR0, hR1, hR2, hR3, hR4, hN, hKp, hTr, hTrd, hTl⟩ := hTp
  obtain ⟨hA, hBb, hmen, hme, a, hsR, hst, hsi, hfa⟩ := hNw
  have h38 := hb.2.2.2.2.1
  have h0 := hb.1
  refine lv_iload_n X.1 X.2.1 dX11_feed_0 rfl (lv_at hl 1 rfl) ?_
  refine lv_iconst (v := 0) X.1 X.2.1 dX11_feed_1 (by decide) ?_
  refine lv_bipush (v := 127) X.1 X.2.1 dX11_feed_2 (by decide) ?_
  refine g_run_i (f := fun u => u) (g_runS [.int (nI n), .int 0, .int 127] X hK hP hS hC hB (d_outside) (va_cwS 3 X.2.2.2.2 gX11_feed_X11_outside rfl rfl rfl (by decide +kernel) ⟨Nat.le_of_ble_eq_true rfl, Nat.le_of_ble_eq_true rfl⟩) rfl hl.1 rfl (Nat.le_of_ble_eq_true rfl) dX11_feed_4 (by exact ⟨Nat.zero_le _, Nat.zero_le _⟩)) hS (fun r u H locs hq hP hS => ?_)
  obtain ⟨rfl, rfl⟩ := hq
  have hP : gP D cy B z T I R H := hP
  refine lv_if_eq (tgt := 13) X.1 X.2.1 dX11_feed_7 (by decide) (fun c7 => ?_) (fun c7 => ?_)
  · refine lv_aload_n X.1 X.2.1 dX11_feed_13 rfl (lv_at hl 0 rfl) ?_
    refine g_getr 13 0 X hK hP hTq rfl hinRX11 rfl (by decide) k17 (fun _ h => h) dX11_feed_14 (show va_rf (R q 0) = .ref nw from by rw [hR0]; rfl) ?_
    refine g_geti 12 6 X hK hP hN.t0 rfl hinRX10 rfl (by decide) k51 (fun _ h => h) dX11_feed_17 (show I nw 6 = nI (σ 41) from hBb.1) ?_
    refine lv_bipush (v := 100) X.1 X.2.1 dX11_feed_20 (by decide) ?_
    refine lv_icmp_lt (tgt := 28) X.1 X.2.1 dX11_feed_22 (by decide) (fun c22 => ?_) (fun c22 => ?_)
    · exact absurd (gq_lt c22 (Eq.refl (nI (σ 41))) (show (100 : Int32) = nI 100 from rfl) (by omega) (by omega)) (by omega)
    · have n22 : 100 ≤ (σ 41) := gq_nlt c22 (Eq.refl (nI (σ 41))) (show (100 : Int32) = nI 100 from rfl) (by omega) (by omega)
      refine lv_bipush (v := (-4)) X.1 X.2.1 dX11_feed_25 (by decide) ?_
      exact g_iret (f := fun u => u) (z, T, I, R) X hr hlk hK hP hS dX11_feed_27 ⟨rfl, rfl⟩
  · exact absurd (g_le (a := 0) (b := 127) (x := 0) (y := 127) rfl rfl (by omega) (by omega) (by omega)) (gt_1 c7)

set_option maxHeartbeats 4000000 in
set_option maxRecDepth 100000 in
/-- t_feed -/
theorem t_feed (hTp : cTop q nw kp tr T R) (hNw : cNw q nw T I R σ fl ti sh) (hG : sGd fl ti sh) (hb : sBd σ K) {n jj : Nat} (hn : n ≤ 127) (hj : σ 41 = jj) (hj100 : jj < 100) : Met l yX11_feed wsX11_feed ({ frames := 1, cells := 0, slots := 0, locals := 22 }) (va_Pc [.ref q, .int (nI n)] (gW0 s0 D cy B (z, T, I, R))) (va_Qi (fun r u => r = nI (jj + 1) ∧ u = (z, T, g2 (g2 I (nw + 7) jj (nI n)) nw 6 (nI (jj + 1)), R)) (fun u t => gW1 D cy B u t) (gA B)) 0 0 (gA B) := by
  refine g_met (maxL := 2) (ret := (some .int)) (by decide) rfl (Nat.le_of_ble_eq_true rfl) (fun p e s m args below meth c ls X hr hlk hnm hK hP hC hS hl => ?_)
  have hl : lv_has ls 2 [(0, .ref q), (1, .int (nI n))] := hl
  have hP : gP D cy B z T I R s.heap := hP
  have hB : B ≤ s.heap.size := by rw [hP.1]; exact hP.2.1
  have hinRX10 : ∀ w ∈ wsX100, w ∈ wsX11_feed := fun _ h => List.mem_cons_of_mem _ (List.mem_append_right _ h)
  have hinRX11 : ∀ w ∈ wsX110, w ∈ wsX11_feed := fun _ h => List.mem_cons_of_mem _ (List.mem_append_left _ (List.mem_append_right _ h))
  have k17 : Cond.fieldLink RX11 17 "BarrowPlank" "now" "LBarrowPlank$Works;" ∈ wsX11_feed := by decide +kernel
  have k51 : Cond.fieldLink RX11 51 "BarrowPlank$Works" "signs" "I" ∈ wsX11_feed := by decide +kernel
  have k55 : Cond.fieldLink RX11 55 "BarrowPlank$Works" "tape" "[C" ∈ wsX11_feed := by decide +kernel
  have hTp0 := hTp
  have hNw0 := hNw
  obtain ⟨hnw, hkp, htr, hTq, hR0, hR1, hR2, hR3, hR4, hN, hKp, hTr, hTrd, hTl⟩ := hTp
  obtain ⟨hA, hBb, hmen, hme, a, hsR, hst, hsi, hfa⟩ := hNw
  have h38 := hb.2.2.2.2.1
  have h0 := hb.1
  refine lv_iload_n X.1 X.2.1 dX11_feed_0 rfl (lv_at hl 1 rfl) ?_
  refine lv_iconst (v := 0) X.1 X.2.1 dX11_feed_1 (by decide) ?_
  refine lv_bipush (v := 127) X.1 X.2.1 dX11_feed_2 (by decide) ?_
  refine g_run_i (f := fun u => u) (g_runS [.int (nI n), .int 0, .int 127] X hK hP hS hC hB (d_outside) (va_cwS 3 X.2.2.2.2 gX11_feed_X11_outside rfl rfl rfl (by decide +kernel) ⟨Nat.le_of_ble_eq_true rfl, Nat.le_of_ble_eq_true rfl⟩) rfl hl.1 rfl (Nat.le_of_ble_eq_true rfl) dX11_feed_4 (by exact ⟨Nat.zero_le _, Nat.zero_le _⟩)) hS (fun r u H locs hq hP hS => ?_)
  obtain ⟨rfl, rfl⟩ := hq
  have hP : gP D cy B z T I R H := hP
  refine lv_if_eq (tgt := 13) X.1 X.2.1 dX11_feed_7 (by decide) (fun c7 => ?_) (fun c7 => ?_)
  · refine lv_aload_n X.1 X.2.1 dX11_feed_13 rfl (lv_at hl 0 rfl) ?_
    refine g_getr 13 0 X hK hP hTq rfl hinRX11 rfl (by decide) k17 (fun _ h => h) dX11_feed_14 (show va_rf (R q 0) = .ref nw from by rw [hR0]; rfl) ?_
    refine g_geti 12 6 X hK hP hN.t0 rfl hinRX10 rfl (by decide) k51 (fun _ h => h) dX11_feed_17 (show I nw 6 = nI jj from (hBb.1.trans (congrArg nI hj))) ?_
    refine lv_bipush (v := 100) X.1 X.2.1 dX11_feed_20 (by decide) ?_
    refine lv_icmp_lt (tgt := 28) X.1 X.2.1 dX11_feed_22 (by decide) (fun c22 => ?_) (fun c22 => ?_)
    · have n22 : jj < 100 := gq_lt c22 (Eq.refl (nI jj)) (show (100 : Int32) = nI 100 from rfl) (by omega) (by omega)
      refine lv_aload_n X.1 X.2.1 dX11_feed_28 rfl (lv_at hl 0 rfl) ?_
      refine g_getr 13 0 X hK hP hTq rfl hinRX11 rfl (by decide) k17 (fun _ h => h) dX11_feed_29 (show va_rf (R q 0) = .ref nw from by rw [hR0]; rfl) ?_
      refine g_getr 12 3 X hK hP hN.t0 rfl hinRX10 rfl (by decide) k55 (fun _ h => h) dX11_feed_32 (show va_rf (R nw 3) = .ref (nw + 7) from by rw [(show R nw 3 = some (nw + 7) from hN.r 3 rfl)]; rfl) ?_
      refine lv_aload_n X.1 X.2.1 dX11_feed_35 rfl (lv_at hl 0 rfl) ?_
      refine g_getr 13 0 X hK hP hTq rfl hinRX11 rfl (by decide) k17 (fun _ h => h) dX11_feed_36 (show va_rf (R q 0) = .ref nw from by rw [hR0]; rfl) ?_
      refine g_geti 12 6 X hK hP hN.t0 rfl hinRX10 rfl (by decide) k51 (fun _ h => h) dX11_feed_39 (show I nw 6 = nI jj from (hBb.1.trans (congrArg nI hj))) ?_
      refine lv_iload_n X.1 X.2.1 dX11_feed_42 rfl (lv_at hl 1 rfl) ?_
      refine lv_i2c X.1 X.2.1 dX11_feed_43 rfl ?_
      refine lv_cv (g_c16 n (by omega)) ?_
      refine g_cast jj X hK hP hS (hN.t 7 rfl) (gIx_of (Eq.refl (nI jj)) (by omega) (by omega)) dX11_feed_44 (fun H locs hP hS => ?_)
      rw [g_nc n (by omega)] at hP
      generalize eI1 : g2 I (nw + 7) jj (nI n) = I1 at hP
      refine lv_aload_n X.1 X.2.1 dX11_feed_45 rfl (lv_at hl 0 rfl) ?_
      refine g_getr 13 0 X hK hP hTq rfl hinRX11 rfl (by decide) k17 (fun _ h => h) dX11_feed_46 (show va_rf (R q 0) = .ref nw from by rw [hR0]; rfl) ?_
      refine lv_dup X.1 X.2.1 dX11_feed_49 rfl ?_
      refine g_geti 12 6 X hK hP hN.t0 rfl hinRX10 rfl (by decide) k51 (fun _ h => h) dX11_feed_50 (show I1 nw 6 = nI jj from (gs_ne eI1 (by omega) (hBb.1.trans (congrArg nI hj)))) ?_
      refine lv_iconst (v := 1) X.1 X.2.1 dX11_feed_53 (by decide) ?_
      refine lv_iadd X.1 X.2.1 dX11_feed_54 ?_
      refine g_puti 12 6 X hK hP hS hN.t0 rfl hinRX10 tyX10 tyX10_ok nmX10 rfl (by decide) k51 (fun _ h => h) rfl rfl rfl dX11_feed_55 (fun H locs hP hS => ?_)
      generalize eI2 : g2 I1 nw 6 ((nI jj) + 1) = I2 at hP
      refine lv_aload_n X.1 X.2.1 dX11_feed_58 rfl (lv_at hl 0 rfl) ?_
      refine g_getr 13 0 X hK hP hTq rfl hinRX11 rfl (by decide) k17 (fun _ h => h) dX11_feed_59 (show va_rf (R q 0) = .ref nw from by rw [hR0]; rfl) ?_
      refine g_geti 12 6 X hK hP hN.t0 rfl hinRX10 rfl (by decide) k51 (fun _ h => h) dX11_feed_62 (show I2 nw 6 = (nI jj) + 1 from (gs_same eI2)) ?_
      exact g_iret (f := fun u => u) (z, T, I2, R) X hr hlk hK hP hS dX11_feed_65 ⟨(gn_add (Eq.refl (nI jj)) (show (1 : Int32) = nI 1 from rfl)), (by rw [← eI2, ← eI1, ← (show (nI jj) + 1 = nI (jj + 1) from (gn_add (Eq.refl (nI jj)) (show (1 : Int32) = nI 1 from rfl)))])⟩
    · exact absurd (nI_lt hj100 (by omega)) c22
  · exact absurd (g_le (a := 0) (b := 127) (x := 0) (y := 127) rfl rfl (by omega) (by omega) (by omega)) (gt_1 c7)

set_option maxHeartbeats 4000000 in
set_option maxRecDepth 100000 in
/-- t_rest_n -/
theorem t_rest_n (hTp : cTop q nw kp tr T R) (hNw : cNw q nw T I R σ fl ti sh) (hG : sGd fl ti sh) (hb : sBd σ K) {v : Int32} (hno : ¬ (0 ≤ v ∧ v ≤ nI (σ 38) - 1)) (x : Int32) : Met l yX11_rest wsX11_rest ({ frames := 1, cells := 0, slots := 0, locals := 21 }) (va_Pc [.ref q, .int v, .int x] (gW0 s0 D cy B (z, T, I, R))) (va_Qi (fun r u => r = -1 ∧ (z, T, I, R) = u) (fun u t => gW1 D cy B u t) (gA B)) 0 0 (gA B) := by
  refine g_met (maxL := 4) (ret := (some .int)) (by decide) rfl (Nat.le_of_ble_eq_true rfl) (fun p e s m args below meth c ls X hr hlk hnm hK hP hC hS hl => ?_)
  have hl : lv_has ls 4 [(0, .ref q), (1, .int v), (2, .int x)] := hl
  have hP : gP D cy B z T I R s.heap := hP
  have hB : B ≤ s.heap.size := by rw [hP.1]; exact hP.2.1
  have hinRX11 : ∀ w ∈ wsX110, w ∈ wsX11_rest := fun _ h => List.mem_cons_of_mem _ (List.mem_append_left _ (List.mem_append_left _ (List.mem_append_left _ (List.mem_append_left _ (List.mem_append_left _ (List.mem_append_left _ (List.mem_append_left _ (List.mem_append_left _ (List.mem_append_right _ h)))))))))
  have k17 : Cond.fieldLink RX11 17 "BarrowPlank" "now" "LBarrowPlank$Works;" ∈ wsX11_rest := by decide +kernel
  have k128 : Cond.fieldLink RX11 128 "BarrowPlank$Works" "tired" "[I" ∈ wsX11_rest := by decide +kernel
  have k132 : Cond.fieldLink RX11 132 "BarrowPlank$Man" "number" "I" ∈ wsX11_rest := by decide +kernel
  have hTp0 := hTp
  have hNw0 := hNw
  obtain ⟨hnw, hkp, htr, hTq, hR0, hR1, hR2, hR3, hR4, hN, hKp, hTr, hTrd, hTl⟩ := hTp
  obtain ⟨hA, hBb, hmen, hme, a, hsR, hst, hsi, hfa⟩ := hNw
  have h38 := hb.2.2.2.2.1
  have h0 := hb.1
  refine lv_aload_n X.1 X.2.1 dX11_rest_0 rfl (lv_at hl 0 rfl) ?_
  refine g_getr 13 0 X hK hP hTq rfl hinRX11 rfl (by decide) k17 (fun _ h => h) dX11_rest_1 (show va_rf (R q 0) = .ref nw from by rw [hR0]; rfl) ?_
  refine lv_iload_n X.1 X.2.1 dX11_rest_4 rfl (lv_at hl 1 rfl) ?_
  refine g_run_q (f := fun u => u) (g_runV (k := 12) [.int v] X hK hP hS hC hB (d_find_n (σ := σ) hN (hA.2.2.1) h38 hno) (cwV 1 X.2.2.2.2 gX11_rest_X10_find rfl rfl rfl (by decide +kernel) ⟨Nat.le_of_ble_eq_true rfl, Nat.le_of_ble_eq_true rfl⟩) hN.t0 rfl rfl hl.1 rfl (Nat.le_of_ble_eq_true rfl) dX11_rest_5 (by exact ⟨Nat.zero_le _, Nat.zero_le _⟩)) hS (fun r u H locs hq hP hS => ?_)
  obtain ⟨rfl, rfl⟩ := hq
  have hP : gP D cy B z T I R H := hP
  refine lv_astore_nN (lv' := [(3, .null), (0, .ref q), (1, .int v), (2, .int x)]) X.1 X.2.1 dX11_rest_8 rfl hl (by decide) rfl (fun ls hl => ?_)
  refine lv_aload_nN X.1 X.2.1 dX11_rest_9 rfl (lv_at hl 0 rfl) ?_
  refine lv_ifnonnullN X.1 X.2.1 dX11_rest_10 ?_
  refine lv_iconst (v := (-1)) X.1 X.2.1 dX11_rest_13 (by decide) ?_
  exact g_iret (f := fun u => u) (z, T, I, R) X hr hlk hK hP hS dX11_rest_14 ⟨rfl, rfl⟩

set_option maxHeartbeats 4000000 in
set_option maxRecDepth 100000 in
/-- t_rest_b -/
theorem t_rest_b (hTp : cTop q nw kp tr T R) (hNw : cNw q nw T I R σ fl ti sh) (hG : sGd fl ti sh) (hb : sBd σ K) {μ : Nat} (hμn : μ < σ 38) {n : Int32} (hbad : ¬ (0 ≤ n ∧ n ≤ 99)) : Met l yX11_rest wsX11_rest ({ frames := 1, cells := 0, slots := 0, locals := 22 }) (va_Pc [.ref q, .int (nI μ), .int n] (gW0 s0 D cy B (z, T, I, R))) (va_Qi (fun r u => r = -2 ∧ (z, T, I, R) = u) (fun u t => gW1 D cy B u t) (gA B)) 0 0 (gA B) := by
  refine g_met (maxL := 4) (ret := (some .int)) (by decide) rfl (Nat.le_of_ble_eq_true rfl) (fun p e s m args below meth c ls X hr hlk hnm hK hP hC hS hl => ?_)
  have hl : lv_has ls 4 [(0, .ref q), (1, .int (nI μ)), (2, .int n)] := hl
  have hP : gP D cy B z T I R s.heap := hP
  have hB : B ≤ s.heap.size := by rw [hP.1]; exact hP.2.1
  have hinRX11 : ∀ w ∈ wsX110, w ∈ wsX11_rest := fun _ h => List.mem_cons_of_mem _ (List.mem_append_left _ (List.mem_append_left _ (List.mem_append_left _ (List.mem_append_left _ (List.mem_append_left _ (List.mem_append_left _ (List.mem_append_left _ (List.mem_append_left _ (List.mem_append_right _ h)))))))))
  have hin7 : ∀ κ, κ ≤ 6 → ∀ w ∈ mws κ, w ∈ wsX11_rest := fun κ hκ => by
    rcases k7 hκ with rfl | rfl | rfl | rfl | rfl | rfl | rfl
    · exact fun _ h => List.mem_cons_of_mem _ (List.mem_append_left _ (List.mem_append_left _ (List.mem_append_left _ (List.mem_append_left _ (List.mem_append_right _ h)))))
    · exact fun _ h => List.mem_cons_of_mem _ (List.mem_append_left _ (List.mem_append_left _ (List.mem_append_left _ (List.mem_append_left _ (List.mem_append_left _ (List.mem_append_left _ (List.mem_append_right _ h)))))))
    · exact fun _ h => List.mem_cons_of_mem _ (List.mem_append_right _ h)
    · exact fun _ h => List.mem_cons_of_mem _ (List.mem_append_left _ (List.mem_append_left _ (List.mem_append_right _ h)))
    · exact fun _ h => List.mem_cons_of_mem _ (List.mem_append_left _ (List.mem_append_left _ (List.mem_append_left _ (List.mem_append_left _ (List.mem_append_left _ (List.mem_append_right _ h))))))
    · exact fun _ h => List.mem_cons_of_mem _ (List.mem_append_left _ (List.mem_append_right _ h))
    · exact fun _ h => List.mem_cons_of_mem _ (List.mem_append_left _ (List.mem_append_left _ (List.mem_append_left _ (List.mem_append_right _ h))))
  have k17 : Cond.fieldLink RX11 17 "BarrowPlank" "now" "LBarrowPlank$Works;" ∈ wsX11_rest := by decide +kernel
  have k128 : Cond.fieldLink RX11 128 "BarrowPlank$Works" "tired" "[I" ∈ wsX11_rest := by decide +kernel
  have k132 : Cond.fieldLink RX11 132 "BarrowPlank$Man" "number" "I" ∈ wsX11_rest := by decide +kernel
  have hTp0 := hTp
  have hNw0 := hNw
  obtain ⟨hnw, hkp, htr, hTq, hR0, hR1, hR2, hR3, hR4, hN, hKp, hTr, hTrd, hTl⟩ := hTp
  obtain ⟨hA, hBb, hmen, hme, a, hsR, hst, hsi, hfa⟩ := hNw
  have h38 := hb.2.2.2.2.1
  have h0 := hb.1
  have hμ : μ < 4 := Nat.lt_of_lt_of_le hμn h38
  obtain ⟨b, hbm, hm, hb65⟩ := hmen μ hμn
  obtain ⟨hk6, hv9, hs20⟩ := hb.2.2.2.2.2.2.2.2.1 μ hμ
  have ht9 := hb.2.2.1 μ hμ
  refine lv_aload_n X.1 X.2.1 dX11_rest_0 rfl (lv_at hl 0 rfl) ?_
  refine g_getr 13 0 X hK hP hTq rfl hinRX11 rfl (by decide) k17 (fun _ h => h) dX11_rest_1 (show va_rf (R q 0) = .ref nw from by rw [hR0]; rfl) ?_
  refine lv_iload_n X.1 X.2.1 dX11_rest_4 rfl (lv_at hl 1 rfl) ?_
  refine g_run_q (f := fun u => u) (g_runV (k := 12) [.int (nI μ)] X hK hP hS hC hB (d_find (σ := σ) hN (hA.2.2.1) h38 hμn hbm) (cwV 1 X.2.2.2.2 gX11_rest_X10_find rfl rfl rfl (by decide +kernel) ⟨Nat.le_of_ble_eq_true rfl, Nat.le_of_ble_eq_true rfl⟩) hN.t0 rfl rfl hl.1 rfl (Nat.le_of_ble_eq_true rfl) dX11_rest_5 (by exact ⟨Nat.zero_le _, Nat.zero_le _⟩)) hS (fun r u H locs hq hP hS => ?_)
  obtain ⟨rfl, rfl⟩ := hq
  have hP : gP D cy B z T I R H := hP
  refine lv_astore_n (lv' := [(3, .ref b), (0, .ref q), (1, .int (nI μ)), (2, .int n)]) X.1 X.2.1 dX11_rest_8 rfl hl (by decide) rfl (fun ls hl => ?_)
  refine lv_aload_n X.1 X.2.1 dX11_rest_9 rfl (lv_at hl 0 rfl) ?_
  refine lv_ifnonnull (tgt := 15) X.1 X.2.1 dX11_rest_10 (by decide) ?_
  refine lv_iload_n X.1 X.2.1 dX11_rest_15 rfl (lv_at hl 3 rfl) ?_
  refine lv_iconst (v := 0) X.1 X.2.1 dX11_rest_16 (by decide) ?_
  refine lv_bipush (v := 99) X.1 X.2.1 dX11_rest_17 (by decide) ?_
  refine g_run_i (f := fun u => u) (g_runS [.int n, .int 0, .int 99] X hK hP hS hC hB (d_outside) (va_cwS 3 X.2.2.2.2 gX11_rest_X11_outside rfl rfl rfl (by decide +kernel) ⟨Nat.le_of_ble_eq_true rfl, Nat.le_of_ble_eq_true rfl⟩) rfl hl.1 rfl (Nat.le_of_ble_eq_true rfl) dX11_rest_19 (by exact ⟨Nat.zero_le _, Nat.zero_le _⟩)) hS (fun r u H locs hq hP hS => ?_)
  obtain ⟨rfl, rfl⟩ := hq
  have hP : gP D cy B z T I R H := hP
  refine lv_if_eq (tgt := 28) X.1 X.2.1 dX11_rest_22 (by decide) (fun c22 => ?_) (fun c22 => ?_)
  · exact absurd hbad (gt_0 c22)
  · refine lv_bipush (v := (-2)) X.1 X.2.1 dX11_rest_25 (by decide) ?_
    exact g_iret (f := fun u => u) (z, T, I, R) X hr hlk hK hP hS dX11_rest_27 ⟨rfl, rfl⟩

set_option maxHeartbeats 4000000 in
set_option maxRecDepth 100000 in
/-- t_rest -/
theorem t_rest (hTp : cTop q nw kp tr T R) (hNw : cNw q nw T I R σ fl ti sh) (hG : sGd fl ti sh) (hb : sBd σ K) {μ : Nat} (hμn : μ < σ 38) {n : Nat} (hn : n ≤ 99) : Met l yX11_rest wsX11_rest ({ frames := 2, cells := 0, slots := 0, locals := 44 }) (va_Pc [.ref q, .int (nI μ), .int (nI n)] (gW0 s0 D cy B (z, T, I, R))) (va_Qi (fun r u => r = nI (σ (4 + μ) - n) ∧ u = (z, T, g2 I (nw + 6) μ (nI (σ (4 + μ) - n)), R)) (fun u t => gW1 D cy B u t) (gA B)) 0 0 (gA B) := by
  refine g_met (maxL := 4) (ret := (some .int)) (by decide) rfl (Nat.le_of_ble_eq_true rfl) (fun p e s m args below meth c ls X hr hlk hnm hK hP hC hS hl => ?_)
  have hl : lv_has ls 4 [(0, .ref q), (1, .int (nI μ)), (2, .int (nI n))] := hl
  have hP : gP D cy B z T I R s.heap := hP
  have hB : B ≤ s.heap.size := by rw [hP.1]; exact hP.2.1
  have hinRX10 : ∀ w ∈ wsX100, w ∈ wsX11_rest := fun _ h => List.mem_cons_of_mem _ (List.mem_append_left _ (List.mem_append_left _ (List.mem_append_left _ (List.mem_append_left _ (List.mem_append_left _ (List.mem_append_left _ (List.mem_append_left _ (List.mem_append_right _ h))))))))
  have hinRX11 : ∀ w ∈ wsX110, w ∈ wsX11_rest := fun _ h => List.mem_cons_of_mem _ (List.mem_append_left _ (List.mem_append_left _ (List.mem_append_left _ (List.mem_append_left _ (List.mem_append_left _ (List.mem_append_left _ (List.mem_append_left _ (List.mem_append_left _ (List.mem_append_right _ h)))))))))
  have hin7 : ∀ κ, κ ≤ 6 → ∀ w ∈ mws κ, w ∈ wsX11_rest := fun κ hκ => by
    rcases k7 hκ with rfl | rfl | rfl | rfl | rfl | rfl | rfl
    · exact fun _ h => List.mem_cons_of_mem _ (List.mem_append_left _ (List.mem_append_left _ (List.mem_append_left _ (List.mem_append_left _ (List.mem_append_right _ h)))))
    · exact fun _ h => List.mem_cons_of_mem _ (List.mem_append_left _ (List.mem_append_left _ (List.mem_append_left _ (List.mem_append_left _ (List.mem_append_left _ (List.mem_append_left _ (List.mem_append_right _ h)))))))
    · exact fun _ h => List.mem_cons_of_mem _ (List.mem_append_right _ h)
    · exact fun _ h => List.mem_cons_of_mem _ (List.mem_append_left _ (List.mem_append_left _ (List.mem_append_right _ h)))
    · exact fun _ h => List.mem_cons_of_mem _ (List.mem_append_left _ (List.mem_append_left _ (List.mem_append_left _ (List.mem_append_left _ (List.mem_append_left _ (List.mem_append_right _ h))))))
    · exact fun _ h => List.mem_cons_of_mem _ (List.mem_append_left _ (List.mem_append_right _ h))
    · exact fun _ h => List.mem_cons_of_mem _ (List.mem_append_left _ (List.mem_append_left _ (List.mem_append_left _ (List.mem_append_right _ h))))
  have k17 : Cond.fieldLink RX11 17 "BarrowPlank" "now" "LBarrowPlank$Works;" ∈ wsX11_rest := by decide +kernel
  have k128 : Cond.fieldLink RX11 128 "BarrowPlank$Works" "tired" "[I" ∈ wsX11_rest := by decide +kernel
  have k132 : Cond.fieldLink RX11 132 "BarrowPlank$Man" "number" "I" ∈ wsX11_rest := by decide +kernel
  have hTp0 := hTp
  have hNw0 := hNw
  obtain ⟨hnw, hkp, htr, hTq, hR0, hR1, hR2, hR3, hR4, hN, hKp, hTr, hTrd, hTl⟩ := hTp
  obtain ⟨hA, hBb, hmen, hme, a, hsR, hst, hsi, hfa⟩ := hNw
  have h38 := hb.2.2.2.2.1
  have h0 := hb.1
  have hμ : μ < 4 := Nat.lt_of_lt_of_le hμn h38
  obtain ⟨b, hbm, hm, hb65⟩ := hmen μ hμn
  obtain ⟨hk6, hv9, hs20⟩ := hb.2.2.2.2.2.2.2.2.1 μ hμ
  have ht9 := hb.2.2.1 μ hμ
  refine lv_aload_n X.1 X.2.1 dX11_rest_0 rfl (lv_at hl 0 rfl) ?_
  refine g_getr 13 0 X hK hP hTq rfl hinRX11 rfl (by decide) k17 (fun _ h => h) dX11_rest_1 (show va_rf (R q 0) = .ref nw from by rw [hR0]; rfl) ?_
  refine lv_iload_n X.1 X.2.1 dX11_rest_4 rfl (lv_at hl 1 rfl) ?_
  refine g_run_q (f := fun u => u) (g_runV (k := 12) [.int (nI μ)] X hK hP hS hC hB (d_find (σ := σ) hN (hA.2.2.1) h38 hμn hbm) (cwV 1 X.2.2.2.2 gX11_rest_X10_find rfl rfl rfl (by decide +kernel) ⟨Nat.le_of_ble_eq_true rfl, Nat.le_of_ble_eq_true rfl⟩) hN.t0 rfl rfl hl.1 rfl (Nat.le_of_ble_eq_true rfl) dX11_rest_5 (by exact ⟨Nat.zero_le _, Nat.zero_le _⟩)) hS (fun r u H locs hq hP hS => ?_)
  obtain ⟨rfl, rfl⟩ := hq
  have hP : gP D cy B z T I R H := hP
  refine lv_astore_n (lv' := [(3, .ref b), (0, .ref q), (1, .int (nI μ)), (2, .int (nI n))]) X.1 X.2.1 dX11_rest_8 rfl hl (by decide) rfl (fun ls hl => ?_)
  refine lv_aload_n X.1 X.2.1 dX11_rest_9 rfl (lv_at hl 0 rfl) ?_
  refine lv_ifnonnull (tgt := 15) X.1 X.2.1 dX11_rest_10 (by decide) ?_
  refine lv_iload_n X.1 X.2.1 dX11_rest_15 rfl (lv_at hl 3 rfl) ?_
  refine lv_iconst (v := 0) X.1 X.2.1 dX11_rest_16 (by decide) ?_
  refine lv_bipush (v := 99) X.1 X.2.1 dX11_rest_17 (by decide) ?_
  refine g_run_i (f := fun u => u) (g_runS [.int (nI n), .int 0, .int 99] X hK hP hS hC hB (d_outside) (va_cwS 3 X.2.2.2.2 gX11_rest_X11_outside rfl rfl rfl (by decide +kernel) ⟨Nat.le_of_ble_eq_true rfl, Nat.le_of_ble_eq_true rfl⟩) rfl hl.1 rfl (Nat.le_of_ble_eq_true rfl) dX11_rest_19 (by exact ⟨Nat.zero_le _, Nat.zero_le _⟩)) hS (fun r u H locs hq hP hS => ?_)
  obtain ⟨rfl, rfl⟩ := hq
  have hP : gP D cy B z T I R H := hP
  refine lv_if_eq (tgt := 28) X.1 X.2.1 dX11_rest_22 (by decide) (fun c22 => ?_) (fun c22 => ?_)
  · refine lv_aload_n X.1 X.2.1 dX11_rest_28 rfl (lv_at hl 1 rfl) ?_
    refine g_getr 13 0 X hK hP hTq rfl hinRX11 rfl (by decide) k17 (fun _ h => h) dX11_rest_29 (show va_rf (R q 0) = .ref nw from by rw [hR0]; rfl) ?_
    refine lv_aload_n X.1 X.2.1 dX11_rest_32 rfl (lv_at hl 0 rfl) ?_
    refine lv_iload_n X.1 X.2.1 dX11_rest_33 rfl (lv_at hl 3 rfl) ?_
    refine lv_ineg X.1 X.2.1 dX11_rest_34 ?_
    refine g_run_v (f := fun u => u) (g_runV (k := 12) [.ref b, .int (-(nI n))] X hK hP hS hC hB (d_tire6 hN (hA.2.1 μ hμ) hm (by unfold oW; omega) hk6 hv9 hμ ht9 (ngI hn) (by omega) (by omega)) (cwV 2 X.2.2.2.2 gX11_rest_X10_tire rfl rfl rfl (by decide +kernel) ⟨Nat.le_of_ble_eq_true rfl, Nat.le_of_ble_eq_true rfl⟩) hN.t0 rfl rfl hl.1 rfl (Nat.le_of_ble_eq_true rfl) dX11_rest_35 (by exact ⟨Nat.zero_le _, Nat.zero_le _⟩)) hS (fun u H locs hq hP hS => ?_)
    subst hq
    rw [show (max 0 (min 99 ((σ (4 + μ) : Int) + -(n : Int)))).toNat = σ (4 + μ) - n from rest_v ht9] at hP
    generalize eJ1 : g2 I (nw + 6) μ (nI (σ (4 + μ) - n)) = J1 at hP
    have hP : gP D cy B z T J1 R H := hP
    refine lv_aload_n X.1 X.2.1 dX11_rest_38 rfl (lv_at hl 1 rfl) ?_
    refine g_getr 13 0 X hK hP hTq rfl hinRX11 rfl (by decide) k17 (fun _ h => h) dX11_rest_39 (show va_rf (R q 0) = .ref nw from by rw [hR0]; rfl) ?_
    refine g_getr 12 2 X hK hP hN.t0 rfl hinRX10 rfl (by decide) k128 (fun _ h => h) dX11_rest_42 (show va_rf (R nw 2) = .ref (nw + 6) from by rw [(show R nw 2 = some (nw + 6) from hN.r 2 rfl)]; rfl) ?_
    refine lv_aload_n X.1 X.2.1 dX11_rest_45 rfl (lv_at hl 0 rfl) ?_
    refine g_mget 1 (by decide) hk6 X hK hP hm.1 (hin7 _ hk6) k132 (fun _ h => h) dX11_rest_46 (show J1 b 1 = nI μ from (gs_ne eJ1 (by omega) hm.2.2.1)) ?_
    refine g_iald μ X hK hP (hN.t 6 rfl) (gIx_of (Eq.refl (nI μ)) (by omega) (by omega)) dX11_rest_49 (show J1 (nw + 6) μ = nI (σ (4 + μ) - n) from (gs_same eJ1)) ?_
    exact g_iret (f := fun u => u) (z, T, J1, R) X hr hlk hK hP hS dX11_rest_50 ⟨(Eq.refl (nI (σ (4 + μ) - n))), (by rw [← eJ1])⟩
  · exact absurd (g_le (a := 0) (b := 99) (x := 0) (y := 99) rfl rfl (by omega) (by omega) (by omega)) (gt_1 c22)

set_option maxHeartbeats 4000000 in
set_option maxRecDepth 100000 in
/-- t_round_n -/
theorem t_round_n (hTp : cTop q nw kp tr T R) (hNw : cNw q nw T I R σ fl ti sh) (hG : sGd fl ti sh) (hb : sBd σ K) {v : Int32} (hno : ¬ (0 ≤ v ∧ v ≤ nI (σ 38) - 1)) (x : Int32) : Met l yX11_round wsX11_round ({ frames := 1, cells := 0, slots := 0, locals := 21 }) (va_Pc [.ref q, .int v, .int x] (gW0 s0 D cy B (z, T, I, R))) (va_Qi (fun r u => r = -1 ∧ (z, T, I, R) = u) (fun u t => gW1 D cy B u t) (gA B)) 0 0 (gA B) := by
  refine g_met (maxL := 5) (ret := (some .int)) (by decide) rfl (Nat.le_of_ble_eq_true rfl) (fun p e s m args below meth c ls X hr hlk hnm hK hP hC hS hl => ?_)
  have hl : lv_has ls 5 [(0, .ref q), (1, .int v), (2, .int x)] := hl
  have hP : gP D cy B z T I R s.heap := hP
  have hB : B ≤ s.heap.size := by rw [hP.1]; exact hP.2.1
  have hinRX11 : ∀ w ∈ wsX110, w ∈ wsX11_round := fun _ h => List.mem_cons_of_mem _ (List.mem_append_left _ (List.mem_append_left _ (List.mem_append_left _ (List.mem_append_left _ (List.mem_append_left _ (List.mem_append_left _ (List.mem_append_left _ (List.mem_append_left _ (List.mem_append_left _ (List.mem_append_left _ (List.mem_append_right _ h)))))))))))
  have k17 : Cond.fieldLink RX11 17 "BarrowPlank" "now" "LBarrowPlank$Works;" ∈ wsX11_round := by decide +kernel
  have k89 : Cond.fieldLink RX11 89 "BarrowPlank$Works" "rounds" "I" ∈ wsX11_round := by decide +kernel
  have k147 : Cond.fieldLink RX11 147 "BarrowPlank$Trip" "seconds" "I" ∈ wsX11_round := by decide +kernel
  have hTp0 := hTp
  have hNw0 := hNw
  obtain ⟨hnw, hkp, htr, hTq, hR0, hR1, hR2, hR3, hR4, hN, hKp, hTr, hTrd, hTl⟩ := hTp
  obtain ⟨hA, hBb, hmen, hme, a, hsR, hst, hsi, hfa⟩ := hNw
  have h38 := hb.2.2.2.2.1
  have h0 := hb.1
  refine lv_aload_n X.1 X.2.1 dX11_round_0 rfl (lv_at hl 0 rfl) ?_
  refine g_getr 13 0 X hK hP hTq rfl hinRX11 rfl (by decide) k17 (fun _ h => h) dX11_round_1 (show va_rf (R q 0) = .ref nw from by rw [hR0]; rfl) ?_
  refine lv_iload_n X.1 X.2.1 dX11_round_4 rfl (lv_at hl 1 rfl) ?_
  refine g_run_q (f := fun u => u) (g_runV (k := 12) [.int v] X hK hP hS hC hB (d_find_n (σ := σ) hN (hA.2.2.1) h38 hno) (cwV 1 X.2.2.2.2 gX11_round_X10_find rfl rfl rfl (by decide +kernel) ⟨Nat.le_of_ble_eq_true rfl, Nat.le_of_ble_eq_true rfl⟩) hN.t0 rfl rfl hl.1 rfl (Nat.le_of_ble_eq_true rfl) dX11_round_5 (by exact ⟨Nat.zero_le _, Nat.zero_le _⟩)) hS (fun r u H locs hq hP hS => ?_)
  obtain ⟨rfl, rfl⟩ := hq
  have hP : gP D cy B z T I R H := hP
  refine lv_astore_nN (lv' := [(3, .null), (0, .ref q), (1, .int v), (2, .int x)]) X.1 X.2.1 dX11_round_8 rfl hl (by decide) rfl (fun ls hl => ?_)
  refine lv_aload_nN X.1 X.2.1 dX11_round_9 rfl (lv_at hl 0 rfl) ?_
  refine lv_ifnonnullN X.1 X.2.1 dX11_round_10 ?_
  refine lv_iconst (v := (-1)) X.1 X.2.1 dX11_round_13 (by decide) ?_
  exact g_iret (f := fun u => u) (z, T, I, R) X hr hlk hK hP hS dX11_round_14 ⟨rfl, rfl⟩

set_option maxHeartbeats 4000000 in
set_option maxRecDepth 100000 in
/-- t_round_b -/
theorem t_round_b (hTp : cTop q nw kp tr T R) (hNw : cNw q nw T I R σ fl ti sh) (hG : sGd fl ti sh) (hb : sBd σ K) {μ : Nat} (hμn : μ < σ 38) {ld : Int32} (hbad : ¬ (1 ≤ ld ∧ ld ≤ 20)) : Met l yX11_round wsX11_round ({ frames := 2, cells := 0, slots := 0, locals := 42 }) (va_Pc [.ref q, .int (nI μ), .int ld] (gW0 s0 D cy B (z, T, I, R))) (va_Qi (fun r u => r = -2 ∧ (z, T, I, R) = u) (fun u t => gW1 D cy B u t) (gA B)) 0 0 (gA B) := by
  refine g_met (maxL := 5) (ret := (some .int)) (by decide) rfl (Nat.le_of_ble_eq_true rfl) (fun p e s m args below meth c ls X hr hlk hnm hK hP hC hS hl => ?_)
  have hl : lv_has ls 5 [(0, .ref q), (1, .int (nI μ)), (2, .int ld)] := hl
  have hP : gP D cy B z T I R s.heap := hP
  have hB : B ≤ s.heap.size := by rw [hP.1]; exact hP.2.1
  have hinRX11 : ∀ w ∈ wsX110, w ∈ wsX11_round := fun _ h => List.mem_cons_of_mem _ (List.mem_append_left _ (List.mem_append_left _ (List.mem_append_left _ (List.mem_append_left _ (List.mem_append_left _ (List.mem_append_left _ (List.mem_append_left _ (List.mem_append_left _ (List.mem_append_left _ (List.mem_append_left _ (List.mem_append_right _ h)))))))))))
  have hin7 : ∀ κ, κ ≤ 6 → ∀ w ∈ mws κ, w ∈ wsX11_round := fun κ hκ => by
    rcases k7 hκ with rfl | rfl | rfl | rfl | rfl | rfl | rfl
    · exact fun _ h => List.mem_cons_of_mem _ (List.mem_append_left _ (List.mem_append_left _ (List.mem_append_left _ (List.mem_append_left _ (List.mem_append_left _ (List.mem_append_right _ h))))))
    · exact fun _ h => List.mem_cons_of_mem _ (List.mem_append_left _ (List.mem_append_left _ (List.mem_append_left _ (List.mem_append_left _ (List.mem_append_left _ (List.mem_append_left _ (List.mem_append_left _ (List.mem_append_right _ h))))))))
    · exact fun _ h => List.mem_cons_of_mem _ (List.mem_append_left _ (List.mem_append_right _ h))
    · exact fun _ h => List.mem_cons_of_mem _ (List.mem_append_left _ (List.mem_append_left _ (List.mem_append_left _ (List.mem_append_right _ h))))
    · exact fun _ h => List.mem_cons_of_mem _ (List.mem_append_left _ (List.mem_append_left _ (List.mem_append_left _ (List.mem_append_left _ (List.mem_append_left _ (List.mem_append_left _ (List.mem_append_right _ h)))))))
    · exact fun _ h => List.mem_cons_of_mem _ (List.mem_append_left _ (List.mem_append_left _ (List.mem_append_right _ h)))
    · exact fun _ h => List.mem_cons_of_mem _ (List.mem_append_left _ (List.mem_append_left _ (List.mem_append_left _ (List.mem_append_left _ (List.mem_append_right _ h)))))
  have k17 : Cond.fieldLink RX11 17 "BarrowPlank" "now" "LBarrowPlank$Works;" ∈ wsX11_round := by decide +kernel
  have k89 : Cond.fieldLink RX11 89 "BarrowPlank$Works" "rounds" "I" ∈ wsX11_round := by decide +kernel
  have k147 : Cond.fieldLink RX11 147 "BarrowPlank$Trip" "seconds" "I" ∈ wsX11_round := by decide +kernel
  have hTp0 := hTp
  have hNw0 := hNw
  obtain ⟨hnw, hkp, htr, hTq, hR0, hR1, hR2, hR3, hR4, hN, hKp, hTr, hTrd, hTl⟩ := hTp
  obtain ⟨hA, hBb, hmen, hme, a, hsR, hst, hsi, hfa⟩ := hNw
  have h38 := hb.2.2.2.2.1
  have h0 := hb.1
  have hμ : μ < 4 := Nat.lt_of_lt_of_le hμn h38
  obtain ⟨b, hbm, hm, hb65⟩ := hmen μ hμn
  obtain ⟨hk6, hv9, hs20⟩ := hb.2.2.2.2.2.2.2.2.1 μ hμ
  have ht9 := hb.2.2.1 μ hμ
  refine lv_aload_n X.1 X.2.1 dX11_round_0 rfl (lv_at hl 0 rfl) ?_
  refine g_getr 13 0 X hK hP hTq rfl hinRX11 rfl (by decide) k17 (fun _ h => h) dX11_round_1 (show va_rf (R q 0) = .ref nw from by rw [hR0]; rfl) ?_
  refine lv_iload_n X.1 X.2.1 dX11_round_4 rfl (lv_at hl 1 rfl) ?_
  refine g_run_q (f := fun u => u) (g_runV (k := 12) [.int (nI μ)] X hK hP hS hC hB (d_find (σ := σ) hN (hA.2.2.1) h38 hμn hbm) (cwV 1 X.2.2.2.2 gX11_round_X10_find rfl rfl rfl (by decide +kernel) ⟨Nat.le_of_ble_eq_true rfl, Nat.le_of_ble_eq_true rfl⟩) hN.t0 rfl rfl hl.1 rfl (Nat.le_of_ble_eq_true rfl) dX11_round_5 (by exact ⟨Nat.zero_le _, Nat.zero_le _⟩)) hS (fun r u H locs hq hP hS => ?_)
  obtain ⟨rfl, rfl⟩ := hq
  have hP : gP D cy B z T I R H := hP
  refine lv_astore_n (lv' := [(3, .ref b), (0, .ref q), (1, .int (nI μ)), (2, .int ld)]) X.1 X.2.1 dX11_round_8 rfl hl (by decide) rfl (fun ls hl => ?_)
  refine lv_aload_n X.1 X.2.1 dX11_round_9 rfl (lv_at hl 0 rfl) ?_
  refine lv_ifnonnull (tgt := 15) X.1 X.2.1 dX11_round_10 (by decide) ?_
  refine lv_iload_n X.1 X.2.1 dX11_round_15 rfl (lv_at hl 3 rfl) ?_
  refine g_run_i (f := fun u => u) (g_runS [.int ld] X hK hP hS hC hB (d_badLoad) (va_cwS 1 X.2.2.2.2 gX11_round_X11_badLoad rfl rfl rfl (by decide +kernel) ⟨Nat.le_of_ble_eq_true rfl, Nat.le_of_ble_eq_true rfl⟩) rfl hl.1 rfl (Nat.le_of_ble_eq_true rfl) dX11_round_16 (by exact ⟨Nat.zero_le _, Nat.zero_le _⟩)) hS (fun r u H locs hq hP hS => ?_)
  obtain ⟨rfl, rfl⟩ := hq
  have hP : gP D cy B z T I R H := hP
  refine lv_if_eq (tgt := 25) X.1 X.2.1 dX11_round_19 (by decide) (fun c19 => ?_) (fun c19 => ?_)
  · exact absurd hbad (gt_0 c19)
  · refine lv_bipush (v := (-2)) X.1 X.2.1 dX11_round_22 (by decide) ?_
    exact g_iret (f := fun u => u) (z, T, I, R) X hr hlk hK hP hS dX11_round_24 ⟨rfl, rfl⟩

set_option maxHeartbeats 4000000 in
set_option maxRecDepth 100000 in
/-- t_round_s -/
theorem t_round_s (hTp : cTop q nw kp tr T R) (hNw : cNw q nw T I R σ fl ti sh) (hG : sGd fl ti sh) (hb : sBd σ K) {μ : Nat} (hμn : μ < σ 38) {ld : Nat} (hl1 : 1 ≤ ld) (hld : ld ≤ 20) (h999 : σ 3 = 999) : Met l yX11_round wsX11_round ({ frames := 2, cells := 0, slots := 0, locals := 42 }) (va_Pc [.ref q, .int (nI μ), .int (nI ld)] (gW0 s0 D cy B (z, T, I, R))) (va_Qi (fun r u => r = -3 ∧ (z, T, I, R) = u) (fun u t => gW1 D cy B u t) (gA B)) 0 0 (gA B) := by
  refine g_met (maxL := 5) (ret := (some .int)) (by decide) rfl (Nat.le_of_ble_eq_true rfl) (fun p e s m args below meth c ls X hr hlk hnm hK hP hC hS hl => ?_)
  have hl : lv_has ls 5 [(0, .ref q), (1, .int (nI μ)), (2, .int (nI ld))] := hl
  have hP : gP D cy B z T I R s.heap := hP
  have hB : B ≤ s.heap.size := by rw [hP.1]; exact hP.2.1
  have hinRX10 : ∀ w ∈ wsX100, w ∈ wsX11_round := fun _ h => List.mem_cons_of_mem _ (List.mem_append_left _ (List.mem_append_left _ (List.mem_append_left _ (List.mem_append_left _ (List.mem_append_left _ (List.mem_append_left _ (List.mem_append_left _ (List.mem_append_left _ (List.mem_append_left _ (List.mem_append_right _ h))))))))))
  have hinRX11 : ∀ w ∈ wsX110, w ∈ wsX11_round := fun _ h => List.mem_cons_of_mem _ (List.mem_append_left _ (List.mem_append_left _ (List.mem_append_left _ (List.mem_append_left _ (List.mem_append_left _ (List.mem_append_left _ (List.mem_append_left _ (List.mem_append_left _ (List.mem_append_left _ (List.mem_append_left _ (List.mem_append_right _ h)))))))))))
  have hin7 : ∀ κ, κ ≤ 6 → ∀ w ∈ mws κ, w ∈ wsX11_round := fun κ hκ => by
    rcases k7 hκ with rfl | rfl | rfl | rfl | rfl | rfl | rfl
    · exact fun _ h => List.mem_cons_of_mem _ (List.mem_append_left _ (List.mem_append_left _ (List.mem_append_left _ (List.mem_append_left _ (List.mem_append_left _ (List.mem_append_right _ h))))))
    · exact fun _ h => List.mem_cons_of_mem _ (List.mem_append_left _ (List.mem_append_left _ (List.mem_append_left _ (List.mem_append_left _ (List.mem_append_left _ (List.mem_append_left _ (List.mem_append_left _ (List.mem_append_right _ h))))))))
    · exact fun _ h => List.mem_cons_of_mem _ (List.mem_append_left _ (List.mem_append_right _ h))
    · exact fun _ h => List.mem_cons_of_mem _ (List.mem_append_left _ (List.mem_append_left _ (List.mem_append_left _ (List.mem_append_right _ h))))
    · exact fun _ h => List.mem_cons_of_mem _ (List.mem_append_left _ (List.mem_append_left _ (List.mem_append_left _ (List.mem_append_left _ (List.mem_append_left _ (List.mem_append_left _ (List.mem_append_right _ h)))))))
    · exact fun _ h => List.mem_cons_of_mem _ (List.mem_append_left _ (List.mem_append_left _ (List.mem_append_right _ h)))
    · exact fun _ h => List.mem_cons_of_mem _ (List.mem_append_left _ (List.mem_append_left _ (List.mem_append_left _ (List.mem_append_left _ (List.mem_append_right _ h)))))
  have k17 : Cond.fieldLink RX11 17 "BarrowPlank" "now" "LBarrowPlank$Works;" ∈ wsX11_round := by decide +kernel
  have k89 : Cond.fieldLink RX11 89 "BarrowPlank$Works" "rounds" "I" ∈ wsX11_round := by decide +kernel
  have k147 : Cond.fieldLink RX11 147 "BarrowPlank$Trip" "seconds" "I" ∈ wsX11_round := by decide +kernel
  have hTp0 := hTp
  have hNw0 := hNw
  obtain ⟨hnw, hkp, htr, hTq, hR0, hR1, hR2, hR3, hR4, hN, hKp, hTr, hTrd, hTl⟩ := hTp
  obtain ⟨hA, hBb, hmen, hme, a, hsR, hst, hsi, hfa⟩ := hNw
  have h38 := hb.2.2.2.2.1
  have h0 := hb.1
  have hμ : μ < 4 := Nat.lt_of_lt_of_le hμn h38
  obtain ⟨b, hbm, hm, hb65⟩ := hmen μ hμn
  obtain ⟨hk6, hv9, hs20⟩ := hb.2.2.2.2.2.2.2.2.1 μ hμ
  have ht9 := hb.2.2.1 μ hμ
  refine lv_aload_n X.1 X.2.1 dX11_round_0 rfl (lv_at hl 0 rfl) ?_
  refine g_getr 13 0 X hK hP hTq rfl hinRX11 rfl (by decide) k17 (fun _ h => h) dX11_round_1 (show va_rf (R q 0) = .ref nw from by rw [hR0]; rfl) ?_
  refine lv_iload_n X.1 X.2.1 dX11_round_4 rfl (lv_at hl 1 rfl) ?_
  refine g_run_q (f := fun u => u) (g_runV (k := 12) [.int (nI μ)] X hK hP hS hC hB (d_find (σ := σ) hN (hA.2.2.1) h38 hμn hbm) (cwV 1 X.2.2.2.2 gX11_round_X10_find rfl rfl rfl (by decide +kernel) ⟨Nat.le_of_ble_eq_true rfl, Nat.le_of_ble_eq_true rfl⟩) hN.t0 rfl rfl hl.1 rfl (Nat.le_of_ble_eq_true rfl) dX11_round_5 (by exact ⟨Nat.zero_le _, Nat.zero_le _⟩)) hS (fun r u H locs hq hP hS => ?_)
  obtain ⟨rfl, rfl⟩ := hq
  have hP : gP D cy B z T I R H := hP
  refine lv_astore_n (lv' := [(3, .ref b), (0, .ref q), (1, .int (nI μ)), (2, .int (nI ld))]) X.1 X.2.1 dX11_round_8 rfl hl (by decide) rfl (fun ls hl => ?_)
  refine lv_aload_n X.1 X.2.1 dX11_round_9 rfl (lv_at hl 0 rfl) ?_
  refine lv_ifnonnull (tgt := 15) X.1 X.2.1 dX11_round_10 (by decide) ?_
  refine lv_iload_n X.1 X.2.1 dX11_round_15 rfl (lv_at hl 3 rfl) ?_
  refine g_run_i (f := fun u => u) (g_runS [.int (nI ld)] X hK hP hS hC hB (d_badLoad) (va_cwS 1 X.2.2.2.2 gX11_round_X11_badLoad rfl rfl rfl (by decide +kernel) ⟨Nat.le_of_ble_eq_true rfl, Nat.le_of_ble_eq_true rfl⟩) rfl hl.1 rfl (Nat.le_of_ble_eq_true rfl) dX11_round_16 (by exact ⟨Nat.zero_le _, Nat.zero_le _⟩)) hS (fun r u H locs hq hP hS => ?_)
  obtain ⟨rfl, rfl⟩ := hq
  have hP : gP D cy B z T I R H := hP
  refine lv_if_eq (tgt := 25) X.1 X.2.1 dX11_round_19 (by decide) (fun c19 => ?_) (fun c19 => ?_)
  · refine lv_aload_n X.1 X.2.1 dX11_round_25 rfl (lv_at hl 1 rfl) ?_
    refine g_getr 13 0 X hK hP hTq rfl hinRX11 rfl (by decide) k17 (fun _ h => h) dX11_round_26 (show va_rf (R q 0) = .ref nw from by rw [hR0]; rfl) ?_
    refine g_geti 12 11 X hK hP hN.t0 rfl hinRX10 rfl (by decide) k89 (fun _ h => h) dX11_round_29 (show I nw 11 = nI (σ 3) from hA.2.2.2.2.2.2.1) ?_
    refine lv_sipush (v := 999) X.1 X.2.1 dX11_round_32 (by decide) ?_
    refine lv_icmp_lt (tgt := 41) X.1 X.2.1 dX11_round_35 (by decide) (fun c35 => ?_) (fun c35 => ?_)
    · exact absurd (gq_lt c35 (Eq.refl (nI (σ 3))) (show (999 : Int32) = nI 999 from rfl) (by omega) (by omega)) (by omega)
    · have n35 : 999 ≤ (σ 3) := gq_nlt c35 (Eq.refl (nI (σ 3))) (show (999 : Int32) = nI 999 from rfl) (by omega) (by omega)
      refine lv_bipush (v := (-3)) X.1 X.2.1 dX11_round_38 (by decide) ?_
      exact g_iret (f := fun u => u) (z, T, I, R) X hr hlk hK hP hS dX11_round_40 ⟨rfl, rfl⟩
  · exact absurd (g_le (a := 1) (b := 20) (x := 1) (y := 20) rfl rfl (by omega) (by omega) (by omega)) (gt_1 c19)

set_option maxHeartbeats 4000000 in
set_option maxRecDepth 100000 in
/-- t_round -/
theorem t_round (hTp : cTop q nw kp tr T R) (hNw : cNw q nw T I R σ fl ti sh) (hG : sGd fl ti sh) (hb : sBd σ K) {μ : Nat} (hμn : μ < σ 38) {ld : Nat} (hl1 : 1 ≤ ld) (hld : ld ≤ 20) (h999 : σ 3 < 999) (hCc : cC nw I fl σ) (hKb : K < 2 ^ 28) : Met l yX11_round wsX11_round ({ frames := 5, cells := 0, slots := 0, locals := 124 }) (va_Pc [.ref q, .int (nI μ), .int (nI ld)] (gW0 s0 D cy B (z, T, I, R))) (va_Qi (fun r u => r = nI (sSe fl sh σ μ ld) ∧ ∃ I', u = (z, T, I', R) ∧ (cA nw I' (sGo fl ti sh σ μ ld) ∧ cC nw I' fl (sGo fl ti sh σ μ ld)) ∧ ∀ c j, ¬ kW nw c j → I' c j = I c j) (fun u t => gW1 D cy B u t) (gA B)) 0 0 (gA B) := by
  refine g_met (maxL := 5) (ret := (some .int)) (by decide) rfl (Nat.le_of_ble_eq_true rfl) (fun p e s m args below meth c ls X hr hlk hnm hK hP hC hS hl => ?_)
  have hl : lv_has ls 5 [(0, .ref q), (1, .int (nI μ)), (2, .int (nI ld))] := hl
  have hP : gP D cy B z T I R s.heap := hP
  have hB : B ≤ s.heap.size := by rw [hP.1]; exact hP.2.1
  have hinRX10 : ∀ w ∈ wsX100, w ∈ wsX11_round := fun _ h => List.mem_cons_of_mem _ (List.mem_append_left _ (List.mem_append_left _ (List.mem_append_left _ (List.mem_append_left _ (List.mem_append_left _ (List.mem_append_left _ (List.mem_append_left _ (List.mem_append_left _ (List.mem_append_left _ (List.mem_append_right _ h))))))))))
  have hinRX11 : ∀ w ∈ wsX110, w ∈ wsX11_round := fun _ h => List.mem_cons_of_mem _ (List.mem_append_left _ (List.mem_append_left _ (List.mem_append_left _ (List.mem_append_left _ (List.mem_append_left _ (List.mem_append_left _ (List.mem_append_left _ (List.mem_append_left _ (List.mem_append_left _ (List.mem_append_left _ (List.mem_append_right _ h)))))))))))
  have hinRX8 : ∀ w ∈ wsX80, w ∈ wsX11_round := fun _ h => List.mem_cons_of_mem _ (List.mem_append_left _ (List.mem_append_left _ (List.mem_append_left _ (List.mem_append_left _ (List.mem_append_left _ (List.mem_append_left _ (List.mem_append_left _ (List.mem_append_left _ (List.mem_append_right _ h)))))))))
  have hin7 : ∀ κ, κ ≤ 6 → ∀ w ∈ mws κ, w ∈ wsX11_round := fun κ hκ => by
    rcases k7 hκ with rfl | rfl | rfl | rfl | rfl | rfl | rfl
    · exact fun _ h => List.mem_cons_of_mem _ (List.mem_append_left _ (List.mem_append_left _ (List.mem_append_left _ (List.mem_append_left _ (List.mem_append_left _ (List.mem_append_right _ h))))))
    · exact fun _ h => List.mem_cons_of_mem _ (List.mem_append_left _ (List.mem_append_left _ (List.mem_append_left _ (List.mem_append_left _ (List.mem_append_left _ (List.mem_append_left _ (List.mem_append_left _ (List.mem_append_right _ h))))))))
    · exact fun _ h => List.mem_cons_of_mem _ (List.mem_append_left _ (List.mem_append_right _ h))
    · exact fun _ h => List.mem_cons_of_mem _ (List.mem_append_left _ (List.mem_append_left _ (List.mem_append_left _ (List.mem_append_right _ h))))
    · exact fun _ h => List.mem_cons_of_mem _ (List.mem_append_left _ (List.mem_append_left _ (List.mem_append_left _ (List.mem_append_left _ (List.mem_append_left _ (List.mem_append_left _ (List.mem_append_right _ h)))))))
    · exact fun _ h => List.mem_cons_of_mem _ (List.mem_append_left _ (List.mem_append_left _ (List.mem_append_right _ h)))
    · exact fun _ h => List.mem_cons_of_mem _ (List.mem_append_left _ (List.mem_append_left _ (List.mem_append_left _ (List.mem_append_left _ (List.mem_append_right _ h)))))
  have k17 : Cond.fieldLink RX11 17 "BarrowPlank" "now" "LBarrowPlank$Works;" ∈ wsX11_round := by decide +kernel
  have k89 : Cond.fieldLink RX11 89 "BarrowPlank$Works" "rounds" "I" ∈ wsX11_round := by decide +kernel
  have k147 : Cond.fieldLink RX11 147 "BarrowPlank$Trip" "seconds" "I" ∈ wsX11_round := by decide +kernel
  have hTp0 := hTp
  have hNw0 := hNw
  obtain ⟨hnw, hkp, htr, hTq, hR0, hR1, hR2, hR3, hR4, hN, hKp, hTr, hTrd, hTl⟩ := hTp
  obtain ⟨hA, hBb, hmen, hme, a, hsR, hst, hsi, hfa⟩ := hNw
  have h38 := hb.2.2.2.2.1
  have h0 := hb.1
  have hμ : μ < 4 := Nat.lt_of_lt_of_le hμn h38
  obtain ⟨b, hbm, hm, hb65⟩ := hmen μ hμn
  obtain ⟨hk6, hv9, hs20⟩ := hb.2.2.2.2.2.2.2.2.1 μ hμ
  have ht9 := hb.2.2.1 μ hμ
  have hall : cAll nw b a μ T I R σ fl ti sh K := cAll.of hN hA hm hb65 hfa hst hsi hsR hG hb hμ hμn (by omega) (by omega)
  refine lv_aload_n X.1 X.2.1 dX11_round_0 rfl (lv_at hl 0 rfl) ?_
  refine g_getr 13 0 X hK hP hTq rfl hinRX11 rfl (by decide) k17 (fun _ h => h) dX11_round_1 (show va_rf (R q 0) = .ref nw from by rw [hR0]; rfl) ?_
  refine lv_iload_n X.1 X.2.1 dX11_round_4 rfl (lv_at hl 1 rfl) ?_
  refine g_run_q (f := fun u => u) (g_runV (k := 12) [.int (nI μ)] X hK hP hS hC hB (d_find (σ := σ) hN (hA.2.2.1) h38 hμn hbm) (cwV 1 X.2.2.2.2 gX11_round_X10_find rfl rfl rfl (by decide +kernel) ⟨Nat.le_of_ble_eq_true rfl, Nat.le_of_ble_eq_true rfl⟩) hN.t0 rfl rfl hl.1 rfl (Nat.le_of_ble_eq_true rfl) dX11_round_5 (by exact ⟨Nat.zero_le _, Nat.zero_le _⟩)) hS (fun r u H locs hq hP hS => ?_)
  obtain ⟨rfl, rfl⟩ := hq
  have hP : gP D cy B z T I R H := hP
  refine lv_astore_n (lv' := [(3, .ref b), (0, .ref q), (1, .int (nI μ)), (2, .int (nI ld))]) X.1 X.2.1 dX11_round_8 rfl hl (by decide) rfl (fun ls hl => ?_)
  refine lv_aload_n X.1 X.2.1 dX11_round_9 rfl (lv_at hl 0 rfl) ?_
  refine lv_ifnonnull (tgt := 15) X.1 X.2.1 dX11_round_10 (by decide) ?_
  refine lv_iload_n X.1 X.2.1 dX11_round_15 rfl (lv_at hl 3 rfl) ?_
  refine g_run_i (f := fun u => u) (g_runS [.int (nI ld)] X hK hP hS hC hB (d_badLoad) (va_cwS 1 X.2.2.2.2 gX11_round_X11_badLoad rfl rfl rfl (by decide +kernel) ⟨Nat.le_of_ble_eq_true rfl, Nat.le_of_ble_eq_true rfl⟩) rfl hl.1 rfl (Nat.le_of_ble_eq_true rfl) dX11_round_16 (by exact ⟨Nat.zero_le _, Nat.zero_le _⟩)) hS (fun r u H locs hq hP hS => ?_)
  obtain ⟨rfl, rfl⟩ := hq
  have hP : gP D cy B z T I R H := hP
  refine lv_if_eq (tgt := 25) X.1 X.2.1 dX11_round_19 (by decide) (fun c19 => ?_) (fun c19 => ?_)
  · refine lv_aload_n X.1 X.2.1 dX11_round_25 rfl (lv_at hl 1 rfl) ?_
    refine g_getr 13 0 X hK hP hTq rfl hinRX11 rfl (by decide) k17 (fun _ h => h) dX11_round_26 (show va_rf (R q 0) = .ref nw from by rw [hR0]; rfl) ?_
    refine g_geti 12 11 X hK hP hN.t0 rfl hinRX10 rfl (by decide) k89 (fun _ h => h) dX11_round_29 (show I nw 11 = nI (σ 3) from hA.2.2.2.2.2.2.1) ?_
    refine lv_sipush (v := 999) X.1 X.2.1 dX11_round_32 (by decide) ?_
    refine lv_icmp_lt (tgt := 41) X.1 X.2.1 dX11_round_35 (by decide) (fun c35 => ?_) (fun c35 => ?_)
    · have n35 : (σ 3) < 999 := gq_lt c35 (Eq.refl (nI (σ 3))) (show (999 : Int32) = nI 999 from rfl) (by omega) (by omega)
      refine lv_aload_n X.1 X.2.1 dX11_round_41 rfl (lv_at hl 1 rfl) ?_
      refine g_getr 13 0 X hK hP hTq rfl hinRX11 rfl (by decide) k17 (fun _ h => h) dX11_round_42 (show va_rf (R q 0) = .ref nw from by rw [hR0]; rfl) ?_
      refine lv_aload_n X.1 X.2.1 dX11_round_45 rfl (lv_at hl 0 rfl) ?_
      refine lv_iload_n X.1 X.2.1 dX11_round_46 rfl (lv_at hl 3 rfl) ?_
      refine g_run_q (f := fun u => u) (g_runV (k := 12) [.ref b, .int (nI ld)] X hK hP hS hC hB (d_plan hall hCc hld) (cwV 2 X.2.2.2.2 gX11_round_X10_plan rfl rfl rfl (by decide +kernel) ⟨Nat.le_of_ble_eq_true rfl, Nat.le_of_ble_eq_true rfl⟩) hN.t0 rfl rfl hl.1 rfl (Nat.le_of_ble_eq_true rfl) dX11_round_47 (by exact ⟨Nat.zero_le _, Nat.zero_le _⟩)) hS (fun r u H locs hq hP hS => ?_)
      obtain ⟨hr9, IP1, rfl, htpP1, hccP1, hfrP1⟩ := hq
      subst hr9
      have hP : gP D cy B z T IP1 R H := hP
      have hallP1 := hall.k (I' := IP1) (fun c j h => hfrP1 c j (by omega))
      refine lv_astore (lv' := [(4, .ref (nw + 11 + μ)), (3, .ref b), (0, .ref q), (1, .int (nI μ)), (2, .int (nI ld))]) X.1 X.2.1 dX11_round_50 hl (by decide) rfl (fun ls hl => ?_)
      refine lv_aload_n X.1 X.2.1 dX11_round_52 rfl (lv_at hl 2 rfl) ?_
      refine g_getr 13 0 X hK hP hTq rfl hinRX11 rfl (by decide) k17 (fun _ h => h) dX11_round_53 (show va_rf (R q 0) = .ref nw from by rw [hR0]; rfl) ?_
      refine lv_aload_n X.1 X.2.1 dX11_round_56 rfl (lv_at hl 1 rfl) ?_
      refine lv_aload X.1 X.2.1 dX11_round_57 (lv_at hl 0 rfl) ?_
      refine g_run_v (f := fun u => u) (g_runV (k := 12) [.ref b, .ref (nw + 11 + μ)] X hK hP hS hC hB (d_finish hallP1 hccP1 htpP1 hKb) (cwV 2 X.2.2.2.2 gX11_round_X10_finish rfl rfl rfl (by decide +kernel) ⟨Nat.le_of_ble_eq_true rfl, Nat.le_of_ble_eq_true rfl⟩) hN.t0 rfl rfl hl.1 rfl (Nat.le_of_ble_eq_true rfl) dX11_round_59 (by exact ⟨Nat.zero_le _, Nat.zero_le _⟩)) hS (fun u H locs hq hP hS => ?_)
      obtain ⟨IG2, rfl, ⟨hAG2, hCG2⟩, hfG2⟩ := hq
      have hP : gP D cy B z T IG2 R H := hP
      refine lv_aload X.1 X.2.1 dX11_round_62 (lv_at hl 0 rfl) ?_
      refine g_geti 10 4 X hK hP (hallP1.1.tript hallP1.2.2.2.2.2.2.2.2.2.2.1) rfl hinRX8 rfl (by decide) k147 (fun _ h => h) dX11_round_64 (show IG2 (nw + 11 + μ) 4 = nI (sSe fl sh σ μ ld) from ((hfG2 _ _ (by omega) (by omega) (by omega) (by omega)).trans htpP1.2.2.1)) ?_
      exact g_iret (f := fun u => u) (z, T, IG2, R) X hr hlk hK hP hS dX11_round_67 ⟨rfl, IG2, rfl, ⟨hAG2, hCG2⟩, fun c j h => (by unfold kW at h; exact (hfG2 c j (by omega) (by omega) (by omega) (by omega)).trans (hfrP1 c j (by omega)))⟩
    · exact absurd (nI_lt h999 (by omega)) c35
  · exact absurd (g_le (a := 1) (b := 20) (x := 1) (y := 20) rfl rfl (by omega) (by omega) (by omega)) (gt_1 c19)

end PL