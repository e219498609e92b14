section PK
variable {l : Launch} {s0 : State} {D : va_G} {cy : Nat → ClassId} {B z : Nat} {T : Nat → Nat × Nat} {I : Nat → Nat → Int32} {R : Nat → Nat → Option Nat} {q nw kp tr : Nat} {σ : Nat → Nat} {K ti sh : Nat} {fl : List Nat}
set_option maxHeartbeats 4000000 in
set_option maxRecDepth 100000 in
/-- d_outside -/
theorem d_outside {x lo hi : Int32} : Met l yX11_outside wsX11_outside ({ frames := 0, cells := 0, slots := 0, locals := 0 }) (va_Pc [.int x, .int lo, .int hi] (gW0 s0 D cy B (z, T, I, R))) (va_Qi (fun r u => r = gt (¬ (lo ≤ x ∧ x ≤ hi)) ∧ (z, T, I, R) = u) (fun u t => gW1 D cy B u t) (gA B)) 0 0 (gA B) := by
  refine g_met (maxL := 3) (ret := (some .boolean)) (by decide) rfl (Nat.le_of_ble_eq_true rfl) (fun p e s m args below meth c ls X hr hlk hnm hK hP hC hS hl => ?_)
  have hl : lv_has ls 3 [(0, .int x), (1, .int lo), (2, .int hi)] := hl
  have hP : gP D cy B z T I R s.heap := hP
  have hB : B ≤ s.heap.size := by rw [hP.1]; exact hP.2.1
  refine lv_iload_n X.1 X.2.1 dX11_outside_0 rfl (lv_at hl 0 rfl) ?_
  refine lv_iload_n X.1 X.2.1 dX11_outside_1 rfl (lv_at hl 1 rfl) ?_
  refine lv_icmp_lt (tgt := 10) X.1 X.2.1 dX11_outside_2 (by decide) (fun c2 => ?_) (fun c2 => ?_)
  · refine lv_iconst (v := 1) X.1 X.2.1 dX11_outside_10 (by decide) ?_
    refine lv_goto (tgt := 15) X.1 X.2.1 dX11_outside_11 (by decide) ?_
    exact g_zret (f := fun u => u) (z, T, I, R) X hr hlk hK hP hS dX11_outside_15 rfl ⟨(gt_yes (c := ¬ (lo ≤ x ∧ x ≤ hi)) (fun h => Int32.not_le.mpr c2 h.1)).symm, rfl⟩
  · refine lv_iload_n X.1 X.2.1 dX11_outside_5 rfl (lv_at hl 0 rfl) ?_
    refine lv_iload_n X.1 X.2.1 dX11_outside_6 rfl (lv_at hl 2 rfl) ?_
    refine lv_icmp_le (tgt := 14) X.1 X.2.1 dX11_outside_7 (by decide) (fun c7 => ?_) (fun c7 => ?_)
    · refine lv_iconst (v := 0) X.1 X.2.1 dX11_outside_14 (by decide) ?_
      exact g_zret (f := fun u => u) (z, T, I, R) X hr hlk hK hP hS dX11_outside_15 rfl ⟨(gt_no (c := ¬ (lo ≤ x ∧ x ≤ hi)) (fun h => h ⟨Int32.not_lt.mp c2, c7⟩)).symm, rfl⟩
    · refine lv_iconst (v := 1) X.1 X.2.1 dX11_outside_10 (by decide) ?_
      refine lv_goto (tgt := 15) X.1 X.2.1 dX11_outside_11 (by decide) ?_
      exact g_zret (f := fun u => u) (z, T, I, R) X hr hlk hK hP hS dX11_outside_15 rfl ⟨(gt_yes (c := ¬ (lo ≤ x ∧ x ≤ hi)) (fun h => c7 h.2)).symm, rfl⟩

set_option maxHeartbeats 4000000 in
set_option maxRecDepth 100000 in
/-- d_badLoad -/
theorem d_badLoad {x : Int32} : Met l yX11_badLoad wsX11_badLoad ({ frames := 1, cells := 0, slots := 0, locals := 22 }) (va_Pc [.int x] (gW0 s0 D cy B (z, T, I, R))) (va_Qi (fun r u => r = gt (¬ (1 ≤ x ∧ x ≤ 20)) ∧ (z, T, I, R) = u) (fun u t => gW1 D cy B u t) (gA B)) 0 0 (gA B) := by
  refine g_met (maxL := 1) (ret := (some .boolean)) (by decide) rfl (Nat.le_of_ble_eq_true rfl) (fun p e s m args below meth c ls X hr hlk hnm hK hP hC hS hl => ?_)
  have hl : lv_has ls 1 [(0, .int x)] := hl
  have hP : gP D cy B z T I R s.heap := hP
  have hB : B ≤ s.heap.size := by rw [hP.1]; exact hP.2.1
  refine lv_iload_n X.1 X.2.1 dX11_badLoad_0 rfl (lv_at hl 0 rfl) ?_
  refine lv_iconst (v := 1) X.1 X.2.1 dX11_badLoad_1 (by decide) ?_
  refine lv_bipush (v := 20) X.1 X.2.1 dX11_badLoad_2 (by decide) ?_
  refine g_run_i (f := fun u => u) (g_runS [.int x, .int 1, .int 20] X hK hP hS hC hB (d_outside) (va_cwS 3 X.2.2.2.2 gX11_badLoad_X11_outside rfl rfl rfl (by decide +kernel) ⟨Nat.le_of_ble_eq_true rfl, Nat.le_of_ble_eq_true rfl⟩) rfl hl.1 rfl (Nat.le_of_ble_eq_true rfl) dX11_badLoad_4 (by exact ⟨Nat.zero_le _, Nat.zero_le _⟩)) hS (fun r u H locs hq hP hS => ?_)
  obtain ⟨rfl, rfl⟩ := hq
  have hP : gP D cy B z T I R H := hP
  exact g_zret (f := fun u => u) (z, T, I, R) X hr hlk hK hP hS dX11_badLoad_7 (gb_n (gt_b _)) ⟨rfl, rfl⟩

set_option maxHeartbeats 4000000 in
set_option maxRecDepth 100000 in
/-- t_at_n -/
theorem t_at_n (hTp : cTop q nw kp tr T R) (hNw : cNw q nw T I R σ fl ti sh) (hG : sGd fl ti sh) (hb : sBd σ K) {aa bb : Int32} (hno : ¬ ((0 ≤ aa ∧ aa ≤ 9) ∧ (0 ≤ bb ∧ bb ≤ 2))) : Met l yX11_at wsX11_at ({ frames := 1, cells := 0, slots := 0, locals := 22 }) (va_Pc [.ref q, .int aa, .int bb] (gW0 s0 D cy B (z, T, I, R))) (va_Qi (fun r u => r = -1 ∧ (z, T, I, R) = u) (fun u t => gW1 D cy B u t) (gA B)) 0 0 (gA B) := by
  refine g_met (maxL := 3) (ret := (some .int)) (by decide) rfl (Nat.le_of_ble_eq_true rfl) (fun p e s m args below meth c ls X hr hlk hnm hK hP hC hS hl => ?_)
  have hl : lv_has ls 3 [(0, .ref q), (1, .int aa), (2, .int bb)] := hl
  have hP : gP D cy B z T I R s.heap := hP
  have hB : B ≤ s.heap.size := by rw [hP.1]; exact hP.2.1
  have k17 : Cond.fieldLink RX11 17 "BarrowPlank" "now" "LBarrowPlank$Works;" ∈ wsX11_at := by decide +kernel
  have k76 : Cond.fieldLink RX11 76 "BarrowPlank$Works" "yards" "[[I" ∈ wsX11_at := by decide +kernel
  have hTp0 := hTp
  have hNw0 := hNw
  obtain ⟨hnw, hkp, htr, hTq, hR0, hR1, hR2, hR3, hR4, hN, hKp, hTr, hTrd, hTl⟩ := hTp
  obtain ⟨hA, hBb, hmen, hme, a, hsR, hst, hsi, hfa⟩ := hNw
  have h38 := hb.2.2.2.2.1
  have h0 := hb.1
  refine lv_iload_n X.1 X.2.1 dX11_at_0 rfl (lv_at hl 1 rfl) ?_
  refine lv_iconst (v := 0) X.1 X.2.1 dX11_at_1 (by decide) ?_
  refine lv_bipush (v := 9) X.1 X.2.1 dX11_at_2 (by decide) ?_
  refine g_run_i (f := fun u => u) (g_runS [.int aa, .int 0, .int 9] X hK hP hS hC hB (d_outside) (va_cwS 3 X.2.2.2.2 gX11_at_X11_outside rfl rfl rfl (by decide +kernel) ⟨Nat.le_of_ble_eq_true rfl, Nat.le_of_ble_eq_true rfl⟩) rfl hl.1 rfl (Nat.le_of_ble_eq_true rfl) dX11_at_4 (by exact ⟨Nat.zero_le _, Nat.zero_le _⟩)) hS (fun r u H locs hq hP hS => ?_)
  obtain ⟨rfl, rfl⟩ := hq
  have hP : gP D cy B z T I R H := hP
  refine lv_if_ne (tgt := 19) X.1 X.2.1 dX11_at_7 (by decide) (fun c7 => ?_) (fun c7 => ?_)
  · refine lv_iconst (v := (-1)) X.1 X.2.1 dX11_at_19 (by decide) ?_
    exact g_iret (f := fun u => u) (z, T, I, R) X hr hlk hK hP hS dX11_at_20 ⟨rfl, rfl⟩
  · refine lv_iload_n X.1 X.2.1 dX11_at_10 rfl (lv_at hl 2 rfl) ?_
    refine lv_iconst (v := 0) X.1 X.2.1 dX11_at_11 (by decide) ?_
    refine lv_iconst (v := 2) X.1 X.2.1 dX11_at_12 (by decide) ?_
    refine g_run_i (f := fun u => u) (g_runS [.int bb, .int 0, .int 2] X hK hP hS hC hB (d_outside) (va_cwS 3 X.2.2.2.2 gX11_at_X11_outside rfl rfl rfl (by decide +kernel) ⟨Nat.le_of_ble_eq_true rfl, Nat.le_of_ble_eq_true rfl⟩) rfl hl.1 rfl (Nat.le_of_ble_eq_true rfl) dX11_at_13 (by exact ⟨Nat.zero_le _, Nat.zero_le _⟩)) hS (fun r u H locs hq hP hS => ?_)
    obtain ⟨rfl, rfl⟩ := hq
    have hP : gP D cy B z T I R H := hP
    refine lv_if_eq (tgt := 21) X.1 X.2.1 dX11_at_16 (by decide) (fun c16 => ?_) (fun c16 => ?_)
    · exact absurd ⟨Classical.not_not.mp (gt_0 c7), Classical.not_not.mp (gt_0 c16)⟩ hno
    · refine lv_iconst (v := (-1)) X.1 X.2.1 dX11_at_19 (by decide) ?_
      exact g_iret (f := fun u => u) (z, T, I, R) X hr hlk hK hP hS dX11_at_20 ⟨rfl, rfl⟩

set_option maxHeartbeats 4000000 in
set_option maxRecDepth 100000 in
/-- t_at -/
theorem t_at (hTp : cTop q nw kp tr T R) (hNw : cNw q nw T I R σ fl ti sh) (hG : sGd fl ti sh) (hb : sBd σ K) {aa bb : Nat} (ha : aa < 10) (hb3 : bb < 3) : Met l yX11_at wsX11_at ({ frames := 1, cells := 0, slots := 0, locals := 22 }) (va_Pc [.ref q, .int (nI aa), .int (nI bb)] (gW0 s0 D cy B (z, T, I, R))) (va_Qi (fun r u => r = nI (σ (8 + 10 * bb + aa)) ∧ (z, T, I, R) = u) (fun u t => gW1 D cy B u t) (gA B)) 0 0 (gA B) := by
  refine g_met (maxL := 3) (ret := (some .int)) (by decide) rfl (Nat.le_of_ble_eq_true rfl) (fun p e s m args below meth c ls X hr hlk hnm hK hP hC hS hl => ?_)
  have hl : lv_has ls 3 [(0, .ref q), (1, .int (nI aa)), (2, .int (nI bb))] := hl
  have hP : gP D cy B z T I R s.heap := hP
  have hB : B ≤ s.heap.size := by rw [hP.1]; exact hP.2.1
  have hinRX10 : ∀ w ∈ wsX100, w ∈ wsX11_at := fun _ h => List.mem_cons_of_mem _ (List.mem_append_right _ h)
  have hinRX11 : ∀ w ∈ wsX110, w ∈ wsX11_at := fun _ h => List.mem_cons_of_mem _ (List.mem_append_left _ (List.mem_append_right _ h))
  have k17 : Cond.fieldLink RX11 17 "BarrowPlank" "now" "LBarrowPlank$Works;" ∈ wsX11_at := by decide +kernel
  have k76 : Cond.fieldLink RX11 76 "BarrowPlank$Works" "yards" "[[I" ∈ wsX11_at := by decide +kernel
  have hTp0 := hTp
  have hNw0 := hNw
  obtain ⟨hnw, hkp, htr, hTq, hR0, hR1, hR2, hR3, hR4, hN, hKp, hTr, hTrd, hTl⟩ := hTp
  obtain ⟨hA, hBb, hmen, hme, a, hsR, hst, hsi, hfa⟩ := hNw
  have h38 := hb.2.2.2.2.1
  have h0 := hb.1
  refine lv_iload_n X.1 X.2.1 dX11_at_0 rfl (lv_at hl 1 rfl) ?_
  refine lv_iconst (v := 0) X.1 X.2.1 dX11_at_1 (by decide) ?_
  refine lv_bipush (v := 9) X.1 X.2.1 dX11_at_2 (by decide) ?_
  refine g_run_i (f := fun u => u) (g_runS [.int (nI aa), .int 0, .int 9] X hK hP hS hC hB (d_outside) (va_cwS 3 X.2.2.2.2 gX11_at_X11_outside rfl rfl rfl (by decide +kernel) ⟨Nat.le_of_ble_eq_true rfl, Nat.le_of_ble_eq_true rfl⟩) rfl hl.1 rfl (Nat.le_of_ble_eq_true rfl) dX11_at_4 (by exact ⟨Nat.zero_le _, Nat.zero_le _⟩)) hS (fun r u H locs hq hP hS => ?_)
  obtain ⟨rfl, rfl⟩ := hq
  have hP : gP D cy B z T I R H := hP
  refine lv_if_ne (tgt := 19) X.1 X.2.1 dX11_at_7 (by decide) (fun c7 => ?_) (fun c7 => ?_)
  · exact absurd (g_le (a := 0) (b := 9) (x := 0) (y := 9) rfl rfl (by omega) (by omega) (by omega)) (gt_1 c7)
  · refine lv_iload_n X.1 X.2.1 dX11_at_10 rfl (lv_at hl 2 rfl) ?_
    refine lv_iconst (v := 0) X.1 X.2.1 dX11_at_11 (by decide) ?_
    refine lv_iconst (v := 2) X.1 X.2.1 dX11_at_12 (by decide) ?_
    refine g_run_i (f := fun u => u) (g_runS [.int (nI bb), .int 0, .int 2] X hK hP hS hC hB (d_outside) (va_cwS 3 X.2.2.2.2 gX11_at_X11_outside rfl rfl rfl (by decide +kernel) ⟨Nat.le_of_ble_eq_true rfl, Nat.le_of_ble_eq_true rfl⟩) rfl hl.1 rfl (Nat.le_of_ble_eq_true rfl) dX11_at_13 (by exact ⟨Nat.zero_le _, Nat.zero_le _⟩)) hS (fun r u H locs hq hP hS => ?_)
    obtain ⟨rfl, rfl⟩ := hq
    have hP : gP D cy B z T I R H := hP
    refine lv_if_eq (tgt := 21) X.1 X.2.1 dX11_at_16 (by decide) (fun c16 => ?_) (fun c16 => ?_)
    · refine lv_aload_n X.1 X.2.1 dX11_at_21 rfl (lv_at hl 0 rfl) ?_
      refine g_getr 13 0 X hK hP hTq rfl hinRX11 rfl (by decide) k17 (fun _ h => h) dX11_at_22 (show va_rf (R q 0) = .ref nw from by rw [hR0]; rfl) ?_
      refine g_getr 12 0 X hK hP hN.t0 rfl hinRX10 rfl (by decide) k76 (fun _ h => h) dX11_at_25 (show va_rf (R nw 0) = .ref (nw + 1) from by rw [(show R nw 0 = some (nw + 1) from hN.r 0 rfl)]; rfl) ?_
      refine lv_iload_n X.1 X.2.1 dX11_at_28 rfl (lv_at hl 2 rfl) ?_
      refine g_2aald bb X hK hP (hN.t 1 rfl) (gIx_of (Eq.refl (nI bb)) (by omega) (by omega)) dX11_at_29 (show va_rf (R (nw + 1) bb) = .ref (nw + 2 + bb) from by rw [(hN.yd (k := bb) (by omega))]; rfl) ?_
      refine lv_iload_n X.1 X.2.1 dX11_at_30 rfl (lv_at hl 1 rfl) ?_
      refine g_iald aa X hK hP (hN.ydt (by omega)) (gIx_of (Eq.refl (nI aa)) (by omega) (by omega)) dX11_at_31 (show I (nw + 2 + bb) aa = nI (σ (8 + 10 * bb + aa)) from (hA.1 bb aa (by omega) (by omega))) ?_
      exact g_iret (f := fun u => u) (z, T, I, R) X hr hlk hK hP hS dX11_at_32 ⟨rfl, rfl⟩
    · exact absurd (g_le (a := 0) (b := 2) (x := 0) (y := 2) rfl rfl (by omega) (by omega) (by omega)) (gt_1 c16)

end PK