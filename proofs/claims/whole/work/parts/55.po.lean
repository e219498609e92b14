section PO
variable {l : Launch} {s0 : State} {D : va_G} {cy : Nat → ClassId} {B z : Nat} {T : Nat → Nat × Nat} {I : Nat → Nat → Int32} {R : Nat → Nat → Option Nat} {q nw kp tr : Nat} {σ : Nat → Nat} {K ti sh : Nat} {fl : List Nat}
set_option maxHeartbeats 4000000 in
set_option maxRecDepth 100000 in
/-- t_image -/
theorem t_image (hTp : cTop q nw kp tr T R) (hNw : cNw q nw T I R σ fl ti sh) (hG : sGd fl ti sh) (hb : sBd σ K) (hcas : gCas s0) : Met l yX11_image wsX11_image ({ frames := 3, cells := 0, slots := 0, locals := 103 }) (va_Pc [.ref q] (gW0 s0 D cy B (z, T, I, R))) (va_Qi (fun r u => r = nI (σ 38) ∧ ∃ I' R', u = (z, T, I', R') ∧ cA kp I' σ ∧ cB kp I' σ ∧ (∀ k, k < 4 → R' (kp + 5) k = R (nw + 5) k) ∧ R' kp 12 = R nw 12 ∧ I' q 5 = 1 ∧ (∀ c j, ¬ (kp ≤ c ∧ c < kp + 15) → ¬ (c = q ∧ j = 5) → I' c j = I c j) ∧ ∀ c j, ¬ c = kp + 5 → ¬ (c = kp ∧ j = 12) → R' c j = R c j) (fun u t => gW1 D cy B u t) (gA B)) 0 0 (gA B) := by
  refine g_met (maxL := 1) (ret := (some .int)) (by decide) rfl (Nat.le_of_ble_eq_true rfl) (fun p e s m args below meth c ls X hr hlk hnm hK hP hC hS hl => ?_)
  have hl : lv_has ls 1 [(0, .ref q)] := hl
  have hP : gP D cy B z T I R s.heap := hP
  have hB : B ≤ s.heap.size := by rw [hP.1]; exact hP.2.1
  have hinRX10 : ∀ w ∈ wsX100, w ∈ wsX11_image := fun _ h => List.mem_cons_of_mem _ (List.mem_append_left _ (List.mem_append_right _ h))
  have hinRX11 : ∀ w ∈ wsX110, w ∈ wsX11_image := fun _ h => List.mem_cons_of_mem _ (List.mem_append_left _ (List.mem_append_left _ (List.mem_append_right _ h)))
  have k17 : Cond.fieldLink RX11 17 "BarrowPlank" "now" "LBarrowPlank$Works;" ∈ wsX11_image := by decide +kernel
  have k23 : Cond.fieldLink RX11 23 "BarrowPlank" "kept" "LBarrowPlank$Works;" ∈ wsX11_image := by decide +kernel
  have k43 : Cond.fieldLink RX11 43 "BarrowPlank" "imaged" "Z" ∈ wsX11_image := by decide +kernel
  have k102 : Cond.fieldLink RX11 102 "BarrowPlank$Works" "crew" "I" ∈ wsX11_image := by decide +kernel
  have hTp0 := hTp
  have hNw0 := hNw
  obtain ⟨hnw, hkp, htr, hTq, hR0, hR1, hR2, hR3, hR4, hN, hKp, hTr, hTrd, hTl⟩ := hTp
  obtain ⟨hA, hBb, hmen, hme, a, hsR, hst, hsi, hfa⟩ := hNw
  have h38 := hb.2.2.2.2.1
  have h0 := hb.1
  refine lv_aload_n X.1 X.2.1 dX11_image_0 rfl (lv_at hl 0 rfl) ?_
  refine g_getr 13 1 X hK hP hTq rfl hinRX11 rfl (by decide) k23 (fun _ h => h) dX11_image_1 (show va_rf (R q 1) = .ref kp from by rw [hR1]; rfl) ?_
  refine lv_aload_n X.1 X.2.1 dX11_image_4 rfl (lv_at hl 0 rfl) ?_
  refine g_getr 13 0 X hK hP hTq rfl hinRX11 rfl (by decide) k17 (fun _ h => h) dX11_image_5 (show va_rf (R q 0) = .ref nw from by rw [hR0]; rfl) ?_
  refine g_run_v (f := fun u => u) (g_runV (k := 12) [.ref nw] X hK hP hS hC hB (d_takeAll hKp hN (by omega) hA hBb hb.2.2.2.2.2.2.2.2.2.2 hme hsR hst.1 hcas) (cwV 1 X.2.2.2.2 gX11_image_X10_takeAll rfl rfl rfl (by decide +kernel) ⟨Nat.le_of_ble_eq_true rfl, Nat.le_of_ble_eq_true rfl⟩) hKp.t0 rfl rfl hl.1 rfl (Nat.le_of_ble_eq_true rfl) dX11_image_8 (by exact ⟨Nat.zero_le _, Nat.zero_le _⟩)) hS (fun u H locs hq hP hS => ?_)
  obtain ⟨IK1, RK1, rfl, hcAK1, hcBK1, ⟨hm1K1, hm2K1⟩, hknK1, hfIK1, hfRK1⟩ := hq
  have hP : gP D cy B z T IK1 RK1 H := hP
  have hR0 := (hfRK1 q 0 (by omega) (by omega)).trans hR0
  have hR1 := (hfRK1 q 1 (by omega) (by omega)).trans hR1
  have hR2 := (hfRK1 q 2 (by omega) (by omega)).trans hR2
  have hR3 := (hfRK1 q 3 (by omega) (by omega)).trans hR3
  have hR4 := (hfRK1 q 4 (by omega) (by omega)).trans hR4
  refine lv_aload_n X.1 X.2.1 dX11_image_11 rfl (lv_at hl 0 rfl) ?_
  refine lv_iconst (v := 1) X.1 X.2.1 dX11_image_12 (by decide) ?_
  refine g_puti 13 5 X hK hP hS hTq rfl hinRX11 tyX11 tyX11_ok nmX11 rfl (by decide) k43 (fun _ h => h) rfl rfl rfl dX11_image_13 (fun H locs hP hS => ?_)
  generalize eI2 : g2 IK1 q 5 1 = I2 at hP
  refine lv_aload_n X.1 X.2.1 dX11_image_16 rfl (lv_at hl 0 rfl) ?_
  refine g_getr 13 0 X hK hP hTq rfl hinRX11 rfl (by decide) k17 (fun _ h => h) dX11_image_17 (show va_rf (RK1 q 0) = .ref nw from by rw [hR0]; rfl) ?_
  refine g_geti 12 5 X hK hP hN.t0 rfl hinRX10 rfl (by decide) k102 (fun _ h => h) dX11_image_20 (show I2 nw 5 = nI (σ 38) from (gs_ne eI2 (by omega) ((hfIK1 _ _ (by omega)).trans hA.2.2.1))) ?_
  have hfo : ∀ c j, ¬ (kp ≤ c ∧ c < kp + 15) → ¬ (c = q ∧ j = 5) → I2 c j = I c j := fun c j h1 h2 => gs_ne eI2 (by omega) (hfIK1 c j h1)
  have hf2 : ∀ c j, kp ≤ c → I2 c j = IK1 c j := fun c j h1 => gs_ne eI2 (by omega) rfl
  exact g_iret (f := fun u => u) (z, T, I2, RK1) X hr hlk hK hP hS dX11_image_23 ⟨rfl, I2, RK1, rfl, hcAK1.k (fun c j h1 h2 => hf2 c j h1), hcBK1.k (fun c j h1 h2 => hf2 c j h1), hm1K1, hm2K1.trans hsR.symm, gs_same eI2, hfo, hfRK1⟩

set_option maxHeartbeats 4000000 in
set_option maxRecDepth 100000 in
/-- t_undo_n -/
theorem t_undo_n (hTp : cTop q nw kp tr T R) (hNw : cNw q nw T I R σ fl ti sh) (hG : sGd fl ti sh) (hb : sBd σ K) (h5 : I q 5 = 0) : Met l yX11_undo wsX11_undo ({ frames := 0, cells := 0, slots := 0, locals := 0 }) (va_Pc [.ref q] (gW0 s0 D cy B (z, T, I, R))) (va_Qi (fun r u => r = -3 ∧ (z, T, I, R) = u) (fun u t => gW1 D cy B u t) (gA B)) 0 0 (gA B) := by
  refine g_met (maxL := 1) (ret := (some .int)) (by decide) rfl (Nat.le_of_ble_eq_true rfl) (fun p e s m args below meth c ls X hr hlk hnm hK hP hC hS hl => ?_)
  have hl : lv_has ls 1 [(0, .ref q)] := hl
  have hP : gP D cy B z T I R s.heap := hP
  have hB : B ≤ s.heap.size := by rw [hP.1]; exact hP.2.1
  have hinRX11 : ∀ w ∈ wsX110, w ∈ wsX11_undo := fun _ h => List.mem_cons_of_mem _ (List.mem_append_left _ (List.mem_append_left _ (List.mem_append_right _ h)))
  have k17 : Cond.fieldLink RX11 17 "BarrowPlank" "now" "LBarrowPlank$Works;" ∈ wsX11_undo := by decide +kernel
  have k23 : Cond.fieldLink RX11 23 "BarrowPlank" "kept" "LBarrowPlank$Works;" ∈ wsX11_undo := by decide +kernel
  have k43 : Cond.fieldLink RX11 43 "BarrowPlank" "imaged" "Z" ∈ wsX11_undo := by decide +kernel
  have k102 : Cond.fieldLink RX11 102 "BarrowPlank$Works" "crew" "I" ∈ wsX11_undo := by decide +kernel
  have hTp0 := hTp
  have hNw0 := hNw
  obtain ⟨hnw, hkp, htr, hTq, hR0, hR1, hR2, hR3, hR4, hN, hKp, hTr, hTrd, hTl⟩ := hTp
  obtain ⟨hA, hBb, hmen, hme, a, hsR, hst, hsi, hfa⟩ := hNw
  have h38 := hb.2.2.2.2.1
  have h0 := hb.1
  refine lv_aload_n X.1 X.2.1 dX11_undo_0 rfl (lv_at hl 0 rfl) ?_
  refine g_geti 13 5 X hK hP hTq rfl hinRX11 rfl (by decide) k43 (fun _ h => h) dX11_undo_1 (show I q 5 = I q 5 from rfl) ?_
  refine lv_if_ne (tgt := 10) X.1 X.2.1 dX11_undo_4 (by decide) (fun c4 => ?_) (fun c4 => ?_)
  · exact absurd h5 c4
  · refine lv_bipush (v := (-3)) X.1 X.2.1 dX11_undo_7 (by decide) ?_
    exact g_iret (f := fun u => u) (z, T, I, R) X hr hlk hK hP hS dX11_undo_9 ⟨rfl, rfl⟩

set_option maxHeartbeats 4000000 in
set_option maxRecDepth 100000 in
/-- t_undo -/
theorem t_undo (hTp : cTop q nw kp tr T R) (hNw : cNw q nw T I R σ fl ti sh) (hG : sGd fl ti sh) (hb : sBd σ K) (hcas : gCas s0) {σi : Nat → Nat} {fi : List Nat} {t2 s2 K2 : Nat} (hKw : cNw q kp T I R σi fi t2 s2) (hbi : sBd σi K2) (h5 : I q 5 = 1) : Met l yX11_undo wsX11_undo ({ frames := 3, cells := 0, slots := 0, locals := 103 }) (va_Pc [.ref q] (gW0 s0 D cy B (z, T, I, R))) (va_Qi (fun r u => r = nI (σi 38) ∧ ∃ I' R', u = (z, T, I', R') ∧ cA nw I' σi ∧ cB nw I' σi ∧ (∀ k, k < 4 → R' (nw + 5) k = R (kp + 5) k) ∧ R' nw 12 = R kp 12 ∧ (∀ c, nw + 11 ≤ c → c < nw + 15 → I' c 0 = 0) ∧ (∀ c j, ¬ (nw ≤ c ∧ c < nw + 15) → ¬ (c = q ∧ j = 5) → I' c j = I c j) ∧ ∀ c j, ¬ c = nw + 5 → ¬ (c = nw ∧ j = 12) → R' c j = R c j) (fun u t => gW1 D cy B u t) (gA B)) 0 0 (gA B) := by
  refine g_met (maxL := 1) (ret := (some .int)) (by decide) rfl (Nat.le_of_ble_eq_true rfl) (fun p e s m args below meth c ls X hr hlk hnm hK hP hC hS hl => ?_)
  have hl : lv_has ls 1 [(0, .ref q)] := hl
  have hP : gP D cy B z T I R s.heap := hP
  have hB : B ≤ s.heap.size := by rw [hP.1]; exact hP.2.1
  have hinRX10 : ∀ w ∈ wsX100, w ∈ wsX11_undo := fun _ h => List.mem_cons_of_mem _ (List.mem_append_left _ (List.mem_append_right _ h))
  have hinRX11 : ∀ w ∈ wsX110, w ∈ wsX11_undo := fun _ h => List.mem_cons_of_mem _ (List.mem_append_left _ (List.mem_append_left _ (List.mem_append_right _ h)))
  have k17 : Cond.fieldLink RX11 17 "BarrowPlank" "now" "LBarrowPlank$Works;" ∈ wsX11_undo := by decide +kernel
  have k23 : Cond.fieldLink RX11 23 "BarrowPlank" "kept" "LBarrowPlank$Works;" ∈ wsX11_undo := by decide +kernel
  have k43 : Cond.fieldLink RX11 43 "BarrowPlank" "imaged" "Z" ∈ wsX11_undo := by decide +kernel
  have k102 : Cond.fieldLink RX11 102 "BarrowPlank$Works" "crew" "I" ∈ wsX11_undo := by decide +kernel
  have hTp0 := hTp
  have hNw0 := hNw
  obtain ⟨hnw, hkp, htr, hTq, hR0, hR1, hR2, hR3, hR4, hN, hKp, hTr, hTrd, hTl⟩ := hTp
  obtain ⟨hA, hBb, hmen, hme, a, hsR, hst, hsi, hfa⟩ := hNw
  have h38 := hb.2.2.2.2.1
  have h0 := hb.1
  obtain ⟨hA2, hB2, hmen2, hme2, a2, hsR2, hst2, hsi2, hfa2⟩ := hKw
  refine lv_aload_n X.1 X.2.1 dX11_undo_0 rfl (lv_at hl 0 rfl) ?_
  refine g_geti 13 5 X hK hP hTq rfl hinRX11 rfl (by decide) k43 (fun _ h => h) dX11_undo_1 (show I q 5 = I q 5 from rfl) ?_
  refine lv_if_ne (tgt := 10) X.1 X.2.1 dX11_undo_4 (by decide) (fun c4 => ?_) (fun c4 => ?_)
  · refine lv_aload_n X.1 X.2.1 dX11_undo_10 rfl (lv_at hl 0 rfl) ?_
    refine g_getr 13 0 X hK hP hTq rfl hinRX11 rfl (by decide) k17 (fun _ h => h) dX11_undo_11 (show va_rf (R q 0) = .ref nw from by rw [hR0]; rfl) ?_
    refine lv_aload_n X.1 X.2.1 dX11_undo_14 rfl (lv_at hl 0 rfl) ?_
    refine g_getr 13 1 X hK hP hTq rfl hinRX11 rfl (by decide) k23 (fun _ h => h) dX11_undo_15 (show va_rf (R q 1) = .ref kp from by rw [hR1]; rfl) ?_
    refine g_run_v (f := fun u => u) (g_runV (k := 12) [.ref kp] X hK hP hS hC hB (d_takeAll hN hKp (by omega) hA2 hB2 hbi.2.2.2.2.2.2.2.2.2.2 hme2 hsR2 hst2.1 hcas) (cwV 1 X.2.2.2.2 gX11_undo_X10_takeAll rfl rfl rfl (by decide +kernel) ⟨Nat.le_of_ble_eq_true rfl, Nat.le_of_ble_eq_true rfl⟩) hN.t0 rfl rfl hl.1 rfl (Nat.le_of_ble_eq_true rfl) dX11_undo_18 (by exact ⟨Nat.zero_le _, Nat.zero_le _⟩)) hS (fun u H locs hq hP hS => ?_)
    obtain ⟨IK1, RK1, rfl, hcAK1, hcBK1, ⟨hm1K1, hm2K1⟩, hknK1, hfIK1, hfRK1⟩ := hq
    have hP : gP D cy B z T IK1 RK1 H := hP
    have hR0 := (hfRK1 q 0 (by omega) (by omega)).trans hR0
    have hR1 := (hfRK1 q 1 (by omega) (by omega)).trans hR1
    have hR2 := (hfRK1 q 2 (by omega) (by omega)).trans hR2
    have hR3 := (hfRK1 q 3 (by omega) (by omega)).trans hR3
    have hR4 := (hfRK1 q 4 (by omega) (by omega)).trans hR4
    refine lv_aload_n X.1 X.2.1 dX11_undo_21 rfl (lv_at hl 0 rfl) ?_
    refine g_getr 13 0 X hK hP hTq rfl hinRX11 rfl (by decide) k17 (fun _ h => h) dX11_undo_22 (show va_rf (RK1 q 0) = .ref nw from by rw [hR0]; rfl) ?_
    refine g_geti 12 5 X hK hP hN.t0 rfl hinRX10 rfl (by decide) k102 (fun _ h => h) dX11_undo_25 (show IK1 nw 5 = nI (σi 38) from hcAK1.2.2.1) ?_
    exact g_iret (f := fun u => u) (z, T, IK1, RK1) X hr hlk hK hP hS dX11_undo_28 ⟨rfl, IK1, RK1, rfl, hcAK1, hcBK1, hm1K1, hm2K1.trans hsR2.symm, hknK1, (fun c j h _ => hfIK1 c j h), hfRK1⟩
  · rw [h5] at c4; exact absurd c4 (by decide)

set_option maxHeartbeats 4000000 in
set_option maxRecDepth 100000 in
/-- t_pave_n -/
theorem t_pave_n (hTp : cTop q nw kp tr T R) (hNw : cNw q nw T I R σ fl ti sh) (hG : sGd fl ti sh) (hb : sBd σ K) {v : Int32} (hno : ¬ (0 ≤ v ∧ v ≤ nI (σ 38) - 1)) (x : Int32) : Met l yX11_pave wsX11_pave ({ frames := 1, cells := 0, slots := 0, locals := 21 }) (va_Pc [.ref q, .int v, .int x] (gW0 s0 D cy B (z, T, I, R))) (va_Qi (fun r u => r = -1 ∧ (z, T, I, R) = u) (fun u t => gW1 D cy B u t) (gA B)) 0 0 (gA B) := by
  refine g_met (maxL := 10) (ret := (some .int)) (by decide) rfl (Nat.le_of_ble_eq_true rfl) (fun p e s m args below meth c ls X hr hlk hnm hK hP hC hS hl => ?_)
  have hl : lv_has ls 10 [(0, .ref q), (1, .int v), (2, .int x)] := hl
  have hP : gP D cy B z T I R s.heap := hP
  have hB : B ≤ s.heap.size := by rw [hP.1]; exact hP.2.1
  have hinRX11 : ∀ w ∈ wsX110, w ∈ wsX11_pave := fun _ h => List.mem_cons_of_mem _ (List.mem_append_left _ (List.mem_append_left _ (List.mem_append_left _ (List.mem_append_left _ (List.mem_append_left _ (List.mem_append_left _ (List.mem_append_left _ (List.mem_append_left _ (List.mem_append_left _ (List.mem_append_left _ (List.mem_append_right _ h)))))))))))
  have k17 : Cond.fieldLink RX11 17 "BarrowPlank" "now" "LBarrowPlank$Works;" ∈ wsX11_pave := by decide +kernel
  have k26 : Cond.fieldLink RX11 26 "BarrowPlank" "trial" "LBarrowPlank$Works;" ∈ wsX11_pave := by decide +kernel
  have k147 : Cond.fieldLink RX11 147 "BarrowPlank$Trip" "seconds" "I" ∈ wsX11_pave := by decide +kernel
  have hTp0 := hTp
  have hNw0 := hNw
  obtain ⟨hnw, hkp, htr, hTq, hR0, hR1, hR2, hR3, hR4, hN, hKp, hTr, hTrd, hTl⟩ := hTp
  obtain ⟨hA, hBb, hmen, hme, a, hsR, hst, hsi, hfa⟩ := hNw
  have h38 := hb.2.2.2.2.1
  have h0 := hb.1
  refine lv_aload_n X.1 X.2.1 dX11_pave_0 rfl (lv_at hl 0 rfl) ?_
  refine g_getr 13 0 X hK hP hTq rfl hinRX11 rfl (by decide) k17 (fun _ h => h) dX11_pave_1 (show va_rf (R q 0) = .ref nw from by rw [hR0]; rfl) ?_
  refine lv_iload_n X.1 X.2.1 dX11_pave_4 rfl (lv_at hl 1 rfl) ?_
  refine g_run_q (f := fun u => u) (g_runV (k := 12) [.int v] X hK hP hS hC hB (d_find_n (σ := σ) hN (hA.2.2.1) h38 hno) (cwV 1 X.2.2.2.2 gX11_pave_X10_find rfl rfl rfl (by decide +kernel) ⟨Nat.le_of_ble_eq_true rfl, Nat.le_of_ble_eq_true rfl⟩) hN.t0 rfl rfl hl.1 rfl (Nat.le_of_ble_eq_true rfl) dX11_pave_5 (by exact ⟨Nat.zero_le _, Nat.zero_le _⟩)) hS (fun r u H locs hq hP hS => ?_)
  obtain ⟨rfl, rfl⟩ := hq
  have hP : gP D cy B z T I R H := hP
  refine lv_astore_nN (lv' := [(3, .null), (0, .ref q), (1, .int v), (2, .int x)]) X.1 X.2.1 dX11_pave_8 rfl hl (by decide) rfl (fun ls hl => ?_)
  refine lv_aload_nN X.1 X.2.1 dX11_pave_9 rfl (lv_at hl 0 rfl) ?_
  refine lv_ifnonnullN X.1 X.2.1 dX11_pave_10 ?_
  refine lv_iconst (v := (-1)) X.1 X.2.1 dX11_pave_13 (by decide) ?_
  exact g_iret (f := fun u => u) (z, T, I, R) X hr hlk hK hP hS dX11_pave_14 ⟨rfl, rfl⟩

set_option maxHeartbeats 4000000 in
set_option maxRecDepth 100000 in
/-- t_pave_b -/
theorem t_pave_b (hTp : cTop q nw kp tr T R) (hNw : cNw q nw T I R σ fl ti sh) (hG : sGd fl ti sh) (hb : sBd σ K) {μ : Nat} (hμn : μ < σ 38) {x : Int32} (hbad : ¬ (1 ≤ x ∧ x ≤ 20)) : Met l yX11_pave wsX11_pave ({ frames := 2, cells := 0, slots := 0, locals := 42 }) (va_Pc [.ref q, .int (nI μ), .int x] (gW0 s0 D cy B (z, T, I, R))) (va_Qi (fun r u => r = -2 ∧ (z, T, I, R) = u) (fun u t => gW1 D cy B u t) (gA B)) 0 0 (gA B) := by
  refine g_met (maxL := 10) (ret := (some .int)) (by decide) rfl (Nat.le_of_ble_eq_true rfl) (fun p e s m args below meth c ls X hr hlk hnm hK hP hC hS hl => ?_)
  have hl : lv_has ls 10 [(0, .ref q), (1, .int (nI μ)), (2, .int x)] := hl
  have hP : gP D cy B z T I R s.heap := hP
  have hB : B ≤ s.heap.size := by rw [hP.1]; exact hP.2.1
  have hinRX11 : ∀ w ∈ wsX110, w ∈ wsX11_pave := fun _ h => List.mem_cons_of_mem _ (List.mem_append_left _ (List.mem_append_left _ (List.mem_append_left _ (List.mem_append_left _ (List.mem_append_left _ (List.mem_append_left _ (List.mem_append_left _ (List.mem_append_left _ (List.mem_append_left _ (List.mem_append_left _ (List.mem_append_right _ h)))))))))))
  have hin7 : ∀ κ, κ ≤ 6 → ∀ w ∈ mws κ, w ∈ wsX11_pave := fun κ hκ => by
    rcases k7 hκ with rfl | rfl | rfl | rfl | rfl | rfl | rfl
    · exact fun _ h => List.mem_cons_of_mem _ (List.mem_append_left _ (List.mem_append_left _ (List.mem_append_left _ (List.mem_append_left _ (List.mem_append_left _ (List.mem_append_right _ h))))))
    · exact fun _ h => List.mem_cons_of_mem _ (List.mem_append_left _ (List.mem_append_left _ (List.mem_append_left _ (List.mem_append_left _ (List.mem_append_left _ (List.mem_append_left _ (List.mem_append_left _ (List.mem_append_right _ h))))))))
    · exact fun _ h => List.mem_cons_of_mem _ (List.mem_append_left _ (List.mem_append_right _ h))
    · exact fun _ h => List.mem_cons_of_mem _ (List.mem_append_left _ (List.mem_append_left _ (List.mem_append_left _ (List.mem_append_right _ h))))
    · exact fun _ h => List.mem_cons_of_mem _ (List.mem_append_left _ (List.mem_append_left _ (List.mem_append_left _ (List.mem_append_left _ (List.mem_append_left _ (List.mem_append_left _ (List.mem_append_right _ h)))))))
    · exact fun _ h => List.mem_cons_of_mem _ (List.mem_append_left _ (List.mem_append_left _ (List.mem_append_right _ h)))
    · exact fun _ h => List.mem_cons_of_mem _ (List.mem_append_left _ (List.mem_append_left _ (List.mem_append_left _ (List.mem_append_left _ (List.mem_append_right _ h)))))
  have k17 : Cond.fieldLink RX11 17 "BarrowPlank" "now" "LBarrowPlank$Works;" ∈ wsX11_pave := by decide +kernel
  have k26 : Cond.fieldLink RX11 26 "BarrowPlank" "trial" "LBarrowPlank$Works;" ∈ wsX11_pave := by decide +kernel
  have k147 : Cond.fieldLink RX11 147 "BarrowPlank$Trip" "seconds" "I" ∈ wsX11_pave := by decide +kernel
  have hTp0 := hTp
  have hNw0 := hNw
  obtain ⟨hnw, hkp, htr, hTq, hR0, hR1, hR2, hR3, hR4, hN, hKp, hTr, hTrd, hTl⟩ := hTp
  obtain ⟨hA, hBb, hmen, hme, a, hsR, hst, hsi, hfa⟩ := hNw
  have h38 := hb.2.2.2.2.1
  have h0 := hb.1
  have hμ : μ < 4 := Nat.lt_of_lt_of_le hμn h38
  obtain ⟨b, hbm, hm, hb65⟩ := hmen μ hμn
  obtain ⟨hk6, hv9, hs20⟩ := hb.2.2.2.2.2.2.2.2.1 μ hμ
  have ht9 := hb.2.2.1 μ hμ
  refine lv_aload_n X.1 X.2.1 dX11_pave_0 rfl (lv_at hl 0 rfl) ?_
  refine g_getr 13 0 X hK hP hTq rfl hinRX11 rfl (by decide) k17 (fun _ h => h) dX11_pave_1 (show va_rf (R q 0) = .ref nw from by rw [hR0]; rfl) ?_
  refine lv_iload_n X.1 X.2.1 dX11_pave_4 rfl (lv_at hl 1 rfl) ?_
  refine g_run_q (f := fun u => u) (g_runV (k := 12) [.int (nI μ)] X hK hP hS hC hB (d_find (σ := σ) hN (hA.2.2.1) h38 hμn hbm) (cwV 1 X.2.2.2.2 gX11_pave_X10_find rfl rfl rfl (by decide +kernel) ⟨Nat.le_of_ble_eq_true rfl, Nat.le_of_ble_eq_true rfl⟩) hN.t0 rfl rfl hl.1 rfl (Nat.le_of_ble_eq_true rfl) dX11_pave_5 (by exact ⟨Nat.zero_le _, Nat.zero_le _⟩)) hS (fun r u H locs hq hP hS => ?_)
  obtain ⟨rfl, rfl⟩ := hq
  have hP : gP D cy B z T I R H := hP
  refine lv_astore_n (lv' := [(3, .ref b), (0, .ref q), (1, .int (nI μ)), (2, .int x)]) X.1 X.2.1 dX11_pave_8 rfl hl (by decide) rfl (fun ls hl => ?_)
  refine lv_aload_n X.1 X.2.1 dX11_pave_9 rfl (lv_at hl 0 rfl) ?_
  refine lv_ifnonnull (tgt := 15) X.1 X.2.1 dX11_pave_10 (by decide) ?_
  refine lv_iload_n X.1 X.2.1 dX11_pave_15 rfl (lv_at hl 3 rfl) ?_
  refine g_run_i (f := fun u => u) (g_runS [.int x] X hK hP hS hC hB (d_badLoad) (va_cwS 1 X.2.2.2.2 gX11_pave_X11_badLoad rfl rfl rfl (by decide +kernel) ⟨Nat.le_of_ble_eq_true rfl, Nat.le_of_ble_eq_true rfl⟩) rfl hl.1 rfl (Nat.le_of_ble_eq_true rfl) dX11_pave_16 (by exact ⟨Nat.zero_le _, Nat.zero_le _⟩)) hS (fun r u H locs hq hP hS => ?_)
  obtain ⟨rfl, rfl⟩ := hq
  have hP : gP D cy B z T I R H := hP
  refine lv_if_eq (tgt := 25) X.1 X.2.1 dX11_pave_19 (by decide) (fun c19 => ?_) (fun c19 => ?_)
  · exact absurd hbad (gt_0 c19)
  · refine lv_bipush (v := (-2)) X.1 X.2.1 dX11_pave_22 (by decide) ?_
    exact g_iret (f := fun u => u) (z, T, I, R) X hr hlk hK hP hS dX11_pave_24 ⟨rfl, rfl⟩

theorem pv_1 {y : Nat} : s1 (s1 σ (8 + 10 * 0 + y) 0) (8 + 10 * 1 + y) 0 = sPv σ y := by
  funext i
  unfold s1 sPv g1
  simp only [show 8 + 10 * 0 + y = 8 + y by omega, show 8 + 10 * 1 + y = 18 + y by omega]
theorem pv_2 {y : Nat} : s1 (s1 (sPv σ y) (8 + 10 * 0 + y) (σ (8 + y))) (8 + 10 * 1 + y) (σ (18 + y)) = σ := by
  funext i
  unfold s1 sPv g1
  by_cases h1 : i = 8 + 10 * 1 + y
  · rw [if_pos h1, h1, show 8 + 10 * 1 + y = 18 + y by omega]
  · rw [if_neg h1]
    by_cases h2 : i = 8 + 10 * 0 + y
    · rw [if_pos h2, h2, show 8 + 10 * 0 + y = 8 + y by omega]
    · rw [if_neg h2, if_neg (by omega), if_neg (by omega)]
theorem sPv_38 {y i : Nat} (hy : y < 10) (h : 38 ≤ i) : sPv σ y i = σ i := by
  unfold sPv g1
  rw [if_neg (by omega), if_neg (by omega)]
def oP2 (f : Option (Nat × Nat)) : Int32 := match f with
  | none => 0
  | some q => nI q.1
theorem pa_0 {g : Nat → Nat} : sPa g (0 + 1) = some (0, g 0) := rfl
theorem pa_le {g : Nat → Nat} {G k : Nat} (hg : ∀ n, g n ≤ G) (hG : G < 2 ^ 31) (hk : ¬ k = 0) : (oL (sPa g k) ≤ nI (g k) → sPa g (k + 1) = sPa g k) ∧ (¬ oL (sPa g k) ≤ nI (g k) → sPa g (k + 1) = some (k, g k)) := by
  have e : sPa g (k + 1) = (match sPa g k with
    | none => some (k, g k)
    | some (b, q) => if g k < q then some (k, g k) else some (b, q)) := rfl
  have hg1 := hg k
  have hn : ¬ sPa g k = none := by
    obtain ⟨m, rfl⟩ : ∃ m, k = m + 1 := ⟨k - 1, by omega⟩
    intro h
    unfold sPa at h
    split at h
    · cases h
    · split at h <;> cases h
  generalize hf : sPa g k = f at *
  rcases f with _ | ⟨b, q⟩
  · exact absurd rfl hn
  · have h1 := (sPa_le hg k b q hf).2
    rw [e]
    constructor
    · intro c
      have c2 := gq_le c rfl rfl (by omega) (by omega)
      exact if_neg (by omega)
    · intro c
      have c2 := gq_nle c rfl rfl (by omega) (by omega)
      exact if_pos (by omega)
theorem pa_fin {g : Nat → Nat} : oP2 (sPa g 10) = oP (sPa g 10) := by
  have hn : ¬ sPa g 10 = none := by
    intro h
    unfold sPa at h
    split at h
    · cases h
    · split at h <;> cases h
  generalize sPa g 10 = f at *
  rcases f with _ | ⟨b, q⟩
  · exact absurd rfl hn
  · rfl
theorem pa_k {g : Nat → Nat} {k : Nat} (hg : ∀ n, n < 10 → g n ≤ 290000) (hk9 : k < 10) (hk : ¬ k = 0) : (oL (sPa g k) ≤ nI (g k) → sPa g (k + 1) = sPa g k) ∧ (¬ oL (sPa g k) ≤ nI (g k) → sPa g (k + 1) = some (k, g k)) := by
  have h := pa_le (g := fun n => if n < 10 then g n else 0) (G := 290000) (k := k) (fun n => by
    by_cases h : n < 10
    · show (if n < 10 then g n else 0) ≤ _
      rw [if_pos h]
      exact hg n h
    · show (if n < 10 then g n else 0) ≤ _
      rw [if_neg h]
      omega) (by omega) hk
  have e : ∀ n, n ≤ 10 → sPa (fun n => if n < 10 then g n else 0) n = sPa g n := fun n => by
    induction n with
    | zero => intro _; rfl
    | succ n ih =>
      intro hn
      unfold sPa
      rw [ih (by omega), if_pos (show n < 10 by omega)]
  rw [e k (by omega), e (k + 1) (by omega)] at h
  simp only [if_pos hk9] at h
  exact h
set_option maxHeartbeats 4000000 in
set_option maxRecDepth 100000 in
/-- t_pave -/
theorem t_pave (hTp : cTop q nw kp tr T R) (hNw : cNw q nw T I R σ fl ti sh) (hG : sGd fl ti sh) (hb : sBd σ K) (hcas : gCas s0) {μ : Nat} (hμn : μ < σ 38) {ld : Nat} (hl1 : 1 ≤ ld) (hld : ld ≤ 20) (hKb : K ≤ 25000000) : Met l yX11_pave wsX11_pave ({ frames := 5, cells := 0, slots := 0, locals := 124 }) (va_Pc [.ref q, .int (nI μ), .int (nI ld)] (gW0 s0 D cy B (z, T, I, R))) (va_Qi (fun r u => r = oP (sPa (fun y => sSe fl sh (sPv σ y) μ ld) 10) ∧ ∃ I' R', u = (z, T, I', R') ∧ cQ q I I' R R') (fun u t => gW1 D cy B u t) (gA B)) 0 0 (gA B) := by
  refine g_met (maxL := 10) (ret := (some .int)) (by decide) rfl (Nat.le_of_ble_eq_true rfl) (fun p e s m args below meth c ls X hr hlk hnm hK hP hC hS hl => ?_)
  have hl : lv_has ls 10 [(0, .ref q), (1, .int (nI μ)), (2, .int (nI ld))] := hl
  have hP : gP D cy B z T I R s.heap := hP
  have hB : B ≤ s.heap.size := by rw [hP.1]; exact hP.2.1
  have hinRX11 : ∀ w ∈ wsX110, w ∈ wsX11_pave := fun _ h => List.mem_cons_of_mem _ (List.mem_append_left _ (List.mem_append_left _ (List.mem_append_left _ (List.mem_append_left _ (List.mem_append_left _ (List.mem_append_left _ (List.mem_append_left _ (List.mem_append_left _ (List.mem_append_left _ (List.mem_append_left _ (List.mem_append_right _ h)))))))))))
  have hinRX8 : ∀ w ∈ wsX80, w ∈ wsX11_pave := fun _ h => List.mem_cons_of_mem _ (List.mem_append_left _ (List.mem_append_left _ (List.mem_append_left _ (List.mem_append_left _ (List.mem_append_left _ (List.mem_append_left _ (List.mem_append_left _ (List.mem_append_left _ (List.mem_append_left _ (List.mem_append_right _ h))))))))))
  have hin7 : ∀ κ, κ ≤ 6 → ∀ w ∈ mws κ, w ∈ wsX11_pave := fun κ hκ => by
    rcases k7 hκ with rfl | rfl | rfl | rfl | rfl | rfl | rfl
    · exact fun _ h => List.mem_cons_of_mem _ (List.mem_append_left _ (List.mem_append_left _ (List.mem_append_left _ (List.mem_append_left _ (List.mem_append_left _ (List.mem_append_right _ h))))))
    · exact fun _ h => List.mem_cons_of_mem _ (List.mem_append_left _ (List.mem_append_left _ (List.mem_append_left _ (List.mem_append_left _ (List.mem_append_left _ (List.mem_append_left _ (List.mem_append_left _ (List.mem_append_right _ h))))))))
    · exact fun _ h => List.mem_cons_of_mem _ (List.mem_append_left _ (List.mem_append_right _ h))
    · exact fun _ h => List.mem_cons_of_mem _ (List.mem_append_left _ (List.mem_append_left _ (List.mem_append_left _ (List.mem_append_right _ h))))
    · exact fun _ h => List.mem_cons_of_mem _ (List.mem_append_left _ (List.mem_append_left _ (List.mem_append_left _ (List.mem_append_left _ (List.mem_append_left _ (List.mem_append_left _ (List.mem_append_right _ h)))))))
    · exact fun _ h => List.mem_cons_of_mem _ (List.mem_append_left _ (List.mem_append_left _ (List.mem_append_right _ h)))
    · exact fun _ h => List.mem_cons_of_mem _ (List.mem_append_left _ (List.mem_append_left _ (List.mem_append_left _ (List.mem_append_left _ (List.mem_append_right _ h)))))
  have k17 : Cond.fieldLink RX11 17 "BarrowPlank" "now" "LBarrowPlank$Works;" ∈ wsX11_pave := by decide +kernel
  have k26 : Cond.fieldLink RX11 26 "BarrowPlank" "trial" "LBarrowPlank$Works;" ∈ wsX11_pave := by decide +kernel
  have k147 : Cond.fieldLink RX11 147 "BarrowPlank$Trip" "seconds" "I" ∈ wsX11_pave := by decide +kernel
  have hTp0 := hTp
  have hNw0 := hNw
  obtain ⟨hnw, hkp, htr, hTq, hR0, hR1, hR2, hR3, hR4, hN, hKp, hTr, hTrd, hTl⟩ := hTp
  obtain ⟨hA, hBb, hmen, hme, a, hsR, hst, hsi, hfa⟩ := hNw
  have h38 := hb.2.2.2.2.1
  have h0 := hb.1
  have hμ : μ < 4 := Nat.lt_of_lt_of_le hμn h38
  obtain ⟨b, hbm, hm, hb65⟩ := hmen μ hμn
  obtain ⟨hk6, hv9, hs20⟩ := hb.2.2.2.2.2.2.2.2.1 μ hμ
  have ht9 := hb.2.2.1 μ hμ
  refine lv_aload_n X.1 X.2.1 dX11_pave_0 rfl (lv_at hl 0 rfl) ?_
  refine g_getr 13 0 X hK hP hTq rfl hinRX11 rfl (by decide) k17 (fun _ h => h) dX11_pave_1 (show va_rf (R q 0) = .ref nw from by rw [hR0]; rfl) ?_
  refine lv_iload_n X.1 X.2.1 dX11_pave_4 rfl (lv_at hl 1 rfl) ?_
  refine g_run_q (f := fun u => u) (g_runV (k := 12) [.int (nI μ)] X hK hP hS hC hB (d_find (σ := σ) hN (hA.2.2.1) h38 hμn hbm) (cwV 1 X.2.2.2.2 gX11_pave_X10_find rfl rfl rfl (by decide +kernel) ⟨Nat.le_of_ble_eq_true rfl, Nat.le_of_ble_eq_true rfl⟩) hN.t0 rfl rfl hl.1 rfl (Nat.le_of_ble_eq_true rfl) dX11_pave_5 (by exact ⟨Nat.zero_le _, Nat.zero_le _⟩)) hS (fun r u H locs hq hP hS => ?_)
  obtain ⟨rfl, rfl⟩ := hq
  have hP : gP D cy B z T I R H := hP
  refine lv_astore_n (lv' := [(3, .ref b), (0, .ref q), (1, .int (nI μ)), (2, .int (nI ld))]) X.1 X.2.1 dX11_pave_8 rfl hl (by decide) rfl (fun ls hl => ?_)
  refine lv_aload_n X.1 X.2.1 dX11_pave_9 rfl (lv_at hl 0 rfl) ?_
  refine lv_ifnonnull (tgt := 15) X.1 X.2.1 dX11_pave_10 (by decide) ?_
  refine lv_iload_n X.1 X.2.1 dX11_pave_15 rfl (lv_at hl 3 rfl) ?_
  refine g_run_i (f := fun u => u) (g_runS [.int (nI ld)] X hK hP hS hC hB (d_badLoad) (va_cwS 1 X.2.2.2.2 gX11_pave_X11_badLoad rfl rfl rfl (by decide +kernel) ⟨Nat.le_of_ble_eq_true rfl, Nat.le_of_ble_eq_true rfl⟩) rfl hl.1 rfl (Nat.le_of_ble_eq_true rfl) dX11_pave_16 (by exact ⟨Nat.zero_le _, Nat.zero_le _⟩)) hS (fun r u H locs hq hP hS => ?_)
  obtain ⟨rfl, rfl⟩ := hq
  have hP : gP D cy B z T I R H := hP
  refine lv_if_eq (tgt := 25) X.1 X.2.1 dX11_pave_19 (by decide) (fun c19 => ?_) (fun c19 => ?_)
  · refine lv_aload_n X.1 X.2.1 dX11_pave_25 rfl (lv_at hl 1 rfl) ?_
    refine g_getr 13 2 X hK hP hTq rfl hinRX11 rfl (by decide) k26 (fun _ h => h) dX11_pave_26 (show va_rf (R q 2) = .ref tr from by rw [hR2]; rfl) ?_
    refine lv_aload_n X.1 X.2.1 dX11_pave_29 rfl (lv_at hl 1 rfl) ?_
    refine g_getr 13 0 X hK hP hTq rfl hinRX11 rfl (by decide) k17 (fun _ h => h) dX11_pave_30 (show va_rf (R q 0) = .ref nw from by rw [hR0]; rfl) ?_
    refine g_run_v (f := fun u => u) (g_runV (k := 12) [.ref nw] X hK hP hS hC hB (d_take hTr hN (by omega) hA hme hsR hst.1 hcas) (cwV 1 X.2.2.2.2 gX11_pave_X10_take rfl rfl rfl (by decide +kernel) ⟨Nat.le_of_ble_eq_true rfl, Nat.le_of_ble_eq_true rfl⟩) hTr.t0 rfl rfl hl.1 rfl (Nat.le_of_ble_eq_true rfl) dX11_pave_33 (by exact ⟨Nat.zero_le _, Nat.zero_le _⟩)) hS (fun u H locs hq hP hS => ?_)
    obtain ⟨IK1, RK1, rfl, hAt, ⟨hm1K1, hm2K1⟩, hknK1, hfIK1, hfRK1⟩ := hq
    have hP : gP D cy B z T IK1 RK1 H := hP
    have hQK1 : cQ q I IK1 R RK1 := ⟨fun c j h => hfIK1 c j (by unfold qF at h; unfold tkW; omega), fun c j h => hfRK1 c j (by unfold qR at h; omega) (by unfold qR at h; omega)⟩
    have hfK1 := hQK1.1
    have hgK1 := hQK1.2
    have hTp := hTp0.fr hQK1.2
    obtain ⟨-, -, -, hTq, hR0, hR1, hR2, hR3, hR4, hN, hKp, hTr, hTrd, hTl⟩ := hTp
    have hA : cA nw IK1 σ := hA.k (fun c j h1 h2 => hfK1 c j (by unfold qF; omega))
    have hBb : cB nw IK1 σ := hBb.k (fun c j h1 h2 => hfK1 c j (by unfold qF; omega))
    have hm : cMn T IK1 σ μ b := hm.k (fun j => hfK1 b j (by unfold qF; omega))
    have hsR : RK1 nw 12 = some a := (hgK1 _ _ (by unfold qR; omega)).trans hsR
    have hst : cSt a T RK1 := hst.fr (fun j => hgK1 _ _ (by unfold qR; omega))
    have hsi : cSi a IK1 fl ti sh := hsi.k (fun c j g1 g2 => hfK1 c j (by unfold qF; omega))
    have hal : cAll tr b a μ T IK1 RK1 σ fl ti sh K := cAll.of (q := q) hTr hAt hm hb65 hfa hst hsi hm2K1 hG hb hμ hμn (by omega) (by omega)
    have hCt : cC tr IK1 fl σ := cC.fg (fun c h1 h2 => hknK1 c h1 h2)
    refine lv_iconst (v := 0) X.1 X.2.1 dX11_pave_36 (by decide) ?_
    refine lv_istore (lv' := [(4, .int 0), (3, .ref b), (0, .ref q), (1, .int (nI μ)), (2, .int (nI ld))]) X.1 X.2.1 dX11_pave_37 hl (by decide) rfl (fun ls hl => ?_)
    refine lv_iconst (v := 0) X.1 X.2.1 dX11_pave_39 (by decide) ?_
    refine lv_istore (lv' := [(5, .int 0), (4, .int 0), (3, .ref b), (0, .ref q), (1, .int (nI μ)), (2, .int (nI ld))]) X.1 X.2.1 dX11_pave_40 hl (by decide) rfl (fun ls hl => ?_)
    refine lv_iconst (v := 0) X.1 X.2.1 dX11_pave_42 (by decide) ?_
    refine lv_istore (lv' := [(6, .int 0), (5, .int 0), (4, .int 0), (3, .ref b), (0, .ref q), (1, .int (nI μ)), (2, .int (nI ld))]) X.1 X.2.1 dX11_pave_43 hl (by decide) rfl (fun ls hl => ?_)
    have hgle : ∀ n, n < 10 → (fun y => sSe fl sh (sPv σ y) μ ld) n ≤ 290000 := fun n hn => sSe_le' hG (sBd_pv hb hn) hμ ld
    refine i_loop (I := IK1) 10 45 [] (fun k Q9 ls => (cAll tr b a μ T Q9 RK1 σ fl ti sh K ∧ cQ q I Q9 R RK1) ∧ lv_has ls 10 [(0, .ref q), (1, .int (nI μ)), (2, .int (nI ld)), (3, .ref b), (4, .int (oP2 (sPa (fun y => sSe fl sh (sPv σ y) μ ld) k))), (5, .int (oL (sPa (fun y => sSe fl sh (sPv σ y) μ ld) k))), (6, .int (nI k))]) 0 (by omega) ⟨⟨hal, hQK1⟩, lv_sub hl [4, 5, 6, 3, 2, 1, 0] rfl⟩ hP hS (fun k Q9 H locs ls hk hiv hP hS ih => ?_)
    obtain ⟨⟨hal9, hQ9⟩, hl⟩ := hiv
    have hAt := hal9.2.1
    have hm := hal9.2.2.1
    have hf9 := hQ9.1
    refine lv_iload X.1 X.2.1 dX11_pave_45 (lv_at hl 6 rfl) ?_
    refine lv_bipush (v := 10) X.1 X.2.1 dX11_pave_47 (by decide) ?_
    refine lv_icmp_ge (tgt := 144) X.1 X.2.1 dX11_pave_49 (by decide) (fun c49 => ?_) (fun c49 => ?_)
    · have n49 : 10 ≤ k := gq_le c49 (show (10 : Int32) = nI 10 from rfl) (Eq.refl (nI k)) (by omega) (by omega)
      refine lv_iload X.1 X.2.1 dX11_pave_144 (lv_at hl 4 rfl) ?_
      obtain rfl : k = 10 := by omega
      exact g_iret (f := fun u => u) (z, T, Q9, RK1) X hr hlk hK hP hS dX11_pave_146 ⟨pa_fin, Q9, RK1, rfl, hQ9⟩
    · have n49 : k < 10 := gq_nle c49 (show (10 : Int32) = nI 10 from rfl) (Eq.refl (nI k)) (by omega) (by omega)
      refine lv_aload_n X.1 X.2.1 dX11_pave_52 rfl (lv_at hl 0 rfl) ?_
      refine g_getr 13 2 X hK hP hTq rfl hinRX11 rfl (by decide) k26 (fun _ h => h) dX11_pave_53 (show va_rf (RK1 q 2) = .ref tr from by rw [hR2]; rfl) ?_
      refine lv_iload X.1 X.2.1 dX11_pave_56 (lv_at hl 6 rfl) ?_
      refine lv_iconst (v := 0) X.1 X.2.1 dX11_pave_58 (by decide) ?_
      refine lv_iconst (v := 0) X.1 X.2.1 dX11_pave_59 (by decide) ?_
      refine g_run_i (f := fun u => u) (g_runV (k := 12) [.int (nI k), .int 0, .int 0] X hK hP hS hC hB (d_lay (y := k) (wh := 0) hTr (by omega) (by omega)) (cwV 3 X.2.2.2.2 gX11_pave_X10_lay rfl rfl rfl (by decide +kernel) ⟨Nat.le_of_ble_eq_true rfl, Nat.le_of_ble_eq_true rfl⟩) hTr.t0 rfl rfl hl.1 rfl (Nat.le_of_ble_eq_true rfl) dX11_pave_60 (by exact ⟨Nat.zero_le _, Nat.zero_le _⟩)) hS (fun r u H locs hq hP hS => ?_)
      obtain ⟨rfl, rfl⟩ := hq
      generalize eJ2 : g2 Q9 (tr + 2 + 0) k 0 = J2 at hP
      generalize eF3 : iFg tr J2 4 = F3 at hP
      have hP : gP D cy B z T F3 RK1 H := hP
      refine lv_cv (y := nI (σ (8 + k))) (hAt.s (y := k) (by omega)) ?_
      have hx1 := lay_cA (wh := 0) (y := k) (v := 0) hAt (by omega) (by omega) eJ2 eF3
      have hg1 : ∀ c j, ¬ (tr ≤ c ∧ c < tr + 15) → F3 c j = Q9 c j := fun c j h => (by rw [← eF3, iFg_r (by omega)]; exact gs_ne eJ2 (by omega) rfl)
      refine lv_istore (lv' := [(7, .int (nI (σ (8 + k)))), (0, .ref q), (1, .int (nI μ)), (2, .int (nI ld)), (3, .ref b), (4, .int (oP2 (sPa (fun y => sSe fl sh (sPv σ y) μ ld) k))), (5, .int (oL (sPa (fun y => sSe fl sh (sPv σ y) μ ld) k))), (6, .int (nI k))]) X.1 X.2.1 dX11_pave_63 hl (by decide) rfl (fun ls hl => ?_)
      refine lv_aload_n X.1 X.2.1 dX11_pave_65 rfl (lv_at hl 1 rfl) ?_
      refine g_getr 13 2 X hK hP hTq rfl hinRX11 rfl (by decide) k26 (fun _ h => h) dX11_pave_66 (show va_rf (RK1 q 2) = .ref tr from by rw [hR2]; rfl) ?_
      refine lv_iload X.1 X.2.1 dX11_pave_69 (lv_at hl 7 rfl) ?_
      refine lv_iconst (v := 1) X.1 X.2.1 dX11_pave_71 (by decide) ?_
      refine lv_iconst (v := 0) X.1 X.2.1 dX11_pave_72 (by decide) ?_
      refine g_run_i (f := fun u => u) (g_runV (k := 12) [.int (nI k), .int 1, .int 0] X hK hP hS hC hB (d_lay (y := k) (wh := 1) hTr (by omega) (by omega)) (cwV 3 X.2.2.2.2 gX11_pave_X10_lay rfl rfl rfl (by decide +kernel) ⟨Nat.le_of_ble_eq_true rfl, Nat.le_of_ble_eq_true rfl⟩) hTr.t0 rfl rfl hl.1 rfl (Nat.le_of_ble_eq_true rfl) dX11_pave_73 (by exact ⟨Nat.zero_le _, Nat.zero_le _⟩)) hS (fun r u H locs hq hP hS => ?_)
      obtain ⟨rfl, rfl⟩ := hq
      generalize eJ4 : g2 F3 (tr + 2 + 1) k 0 = J4 at hP
      generalize eF5 : iFg tr J4 4 = F5 at hP
      have hP : gP D cy B z T F5 RK1 H := hP
      refine lv_cv (y := nI (σ (18 + k))) (by rw [← eF3]; exact (iFg_r (by omega)).trans (gs_ne eJ2 (by omega) (hAt.l (y := k) (by omega)))) ?_
      have hx2 := lay_cA (wh := 1) (y := k) (v := 0) hx1 (by omega) (by omega) eJ4 eF5
      rw [pv_1] at hx2
      have hg2 : ∀ c j, ¬ (tr ≤ c ∧ c < tr + 15) → F5 c j = Q9 c j := fun c j h => (by rw [← eF5, iFg_r (by omega)]; exact gs_ne eJ4 (by omega) (hg1 c j h))
      have halL : cAll tr b a μ T F5 RK1 (sPv σ k) fl ti sh K := hal9.up hx2 (fun i hi => sPv_38 (by omega) hi) (sBd_pv hb (by omega)) hg2
      have hCL : cC tr F5 fl (sPv σ k) := cC.fg (fun c h1 h2 => by rw [← eF5]; exact iFg_k h1 (by omega))
      have hm : cMn T F5 (sPv σ k) μ b := halL.2.2.1
      refine lv_istore (lv' := [(8, .int (nI (σ (18 + k)))), (7, .int (nI (σ (8 + k)))), (0, .ref q), (1, .int (nI μ)), (2, .int (nI ld)), (3, .ref b), (4, .int (oP2 (sPa (fun y => sSe fl sh (sPv σ y) μ ld) k))), (5, .int (oL (sPa (fun y => sSe fl sh (sPv σ y) μ ld) k))), (6, .int (nI k))]) X.1 X.2.1 dX11_pave_76 hl (by decide) rfl (fun ls hl => ?_)
      refine lv_aload_n X.1 X.2.1 dX11_pave_78 rfl (lv_at hl 2 rfl) ?_
      refine g_getr 13 2 X hK hP hTq rfl hinRX11 rfl (by decide) k26 (fun _ h => h) dX11_pave_79 (show va_rf (RK1 q 2) = .ref tr from by rw [hR2]; rfl) ?_
      refine lv_aload_n X.1 X.2.1 dX11_pave_82 rfl (lv_at hl 5 rfl) ?_
      refine lv_iload_n X.1 X.2.1 dX11_pave_83 rfl (lv_at hl 4 rfl) ?_
      refine g_run_q (f := fun u => u) (g_runV (k := 12) [.ref b, .int (nI ld)] X hK hP hS hC hB (d_plan halL hCL hld) (cwV 2 X.2.2.2.2 gX11_pave_X10_plan rfl rfl rfl (by decide +kernel) ⟨Nat.le_of_ble_eq_true rfl, Nat.le_of_ble_eq_true rfl⟩) hTr.t0 rfl rfl hl.1 rfl (Nat.le_of_ble_eq_true rfl) dX11_pave_84 (by exact ⟨Nat.zero_le _, Nat.zero_le _⟩)) hS (fun r u H locs hq hP hS => ?_)
      obtain ⟨hr9, IP6, rfl, htpP6, hccP6, hfrP6⟩ := hq
      subst hr9
      have hP : gP D cy B z T IP6 RK1 H := hP
      have hallP6 := halL.k (I' := IP6) (fun c j h => hfrP6 c j (by omega))
      refine g_geti 10 4 X hK hP (hallP6.1.tript hallP6.2.2.2.2.2.2.2.2.2.2.1) rfl hinRX8 rfl (by decide) k147 (fun _ h => h) dX11_pave_87 (show IP6 (tr + 11 + μ) 4 = nI (sSe fl sh (sPv σ k) μ ld) from htpP6.2.2.1) ?_
      refine lv_istore (lv' := [(9, .int (nI (sSe fl sh (sPv σ k) μ ld))), (8, .int (nI (σ (18 + k)))), (7, .int (nI (σ (8 + k)))), (0, .ref q), (1, .int (nI μ)), (2, .int (nI ld)), (3, .ref b), (4, .int (oP2 (sPa (fun y => sSe fl sh (sPv σ y) μ ld) k))), (5, .int (oL (sPa (fun y => sSe fl sh (sPv σ y) μ ld) k))), (6, .int (nI k))]) X.1 X.2.1 dX11_pave_90 hl (by decide) rfl (fun ls hl => ?_)
      refine lv_aload_n X.1 X.2.1 dX11_pave_92 rfl (lv_at hl 3 rfl) ?_
      refine g_getr 13 2 X hK hP hTq rfl hinRX11 rfl (by decide) k26 (fun _ h => h) dX11_pave_93 (show va_rf (RK1 q 2) = .ref tr from by rw [hR2]; rfl) ?_
      refine lv_iload X.1 X.2.1 dX11_pave_96 (lv_at hl 9 rfl) ?_
      refine lv_iconst (v := 0) X.1 X.2.1 dX11_pave_98 (by decide) ?_
      refine lv_iload X.1 X.2.1 dX11_pave_99 (lv_at hl 2 rfl) ?_
      refine g_run_i (f := fun u => u) (g_runV (k := 12) [.int (nI k), .int 0, .int (nI (σ (8 + k)))] X hK hP hS hC hB (d_lay (y := k) (wh := 0) hTr (by omega) (by omega)) (cwV 3 X.2.2.2.2 gX11_pave_X10_lay rfl rfl rfl (by decide +kernel) ⟨Nat.le_of_ble_eq_true rfl, Nat.le_of_ble_eq_true rfl⟩) hTr.t0 rfl rfl hl.1 rfl (Nat.le_of_ble_eq_true rfl) dX11_pave_101 (by exact ⟨Nat.zero_le _, Nat.zero_le _⟩)) hS (fun r u H locs hq hP hS => ?_)
      obtain ⟨rfl, rfl⟩ := hq
      generalize eJ7 : g2 IP6 (tr + 2 + 0) k (nI (σ (8 + k))) = J7 at hP
      generalize eF8 : iFg tr J7 4 = F8 at hP
      have hP : gP D cy B z T F8 RK1 H := hP
      refine lv_cv (y := nI (sPv σ k (8 + k))) ((hfrP6 _ _ (by omega)).trans (hx2.s (y := k) (by omega))) ?_
      have hx3 := lay_cA (wh := 0) (y := k) (v := σ (8 + k)) hallP6.2.1 (by omega) (by omega) eJ7 eF8
      have hg3 : ∀ c j, ¬ (tr ≤ c ∧ c < tr + 15) → F8 c j = Q9 c j := fun c j h => (by rw [← eF8, iFg_r (by omega)]; exact gs_ne eJ7 (by omega) ((hfrP6 c j (by omega)).trans (hg2 c j h)))
      refine lv_pop X.1 X.2.1 dX11_pave_104 rfl ?_
      refine lv_aload_n X.1 X.2.1 dX11_pave_105 rfl (lv_at hl 3 rfl) ?_
      refine g_getr 13 2 X hK hP hTq rfl hinRX11 rfl (by decide) k26 (fun _ h => h) dX11_pave_106 (show va_rf (RK1 q 2) = .ref tr from by rw [hR2]; rfl) ?_
      refine lv_iload X.1 X.2.1 dX11_pave_109 (lv_at hl 9 rfl) ?_
      refine lv_iconst (v := 1) X.1 X.2.1 dX11_pave_111 (by decide) ?_
      refine lv_iload X.1 X.2.1 dX11_pave_112 (lv_at hl 1 rfl) ?_
      refine g_run_i (f := fun u => u) (g_runV (k := 12) [.int (nI k), .int 1, .int (nI (σ (18 + k)))] X hK hP hS hC hB (d_lay (y := k) (wh := 1) hTr (by omega) (by omega)) (cwV 3 X.2.2.2.2 gX11_pave_X10_lay rfl rfl rfl (by decide +kernel) ⟨Nat.le_of_ble_eq_true rfl, Nat.le_of_ble_eq_true rfl⟩) hTr.t0 rfl rfl hl.1 rfl (Nat.le_of_ble_eq_true rfl) dX11_pave_114 (by exact ⟨Nat.zero_le _, Nat.zero_le _⟩)) hS (fun r u H locs hq hP hS => ?_)
      obtain ⟨rfl, rfl⟩ := hq
      generalize eJ9 : g2 F8 (tr + 2 + 1) k (nI (σ (18 + k))) = J9 at hP
      generalize eF10 : iFg tr J9 4 = F10 at hP
      have hP : gP D cy B z T F10 RK1 H := hP
      refine lv_cv (y := nI (sPv σ k (18 + k))) (by rw [← eF8]; exact (iFg_r (by omega)).trans (gs_ne eJ7 (by omega) ((hfrP6 _ _ (by omega)).trans (hx2.l (y := k) (by omega))))) ?_
      have hx4 := lay_cA (wh := 1) (y := k) (v := σ (18 + k)) hx3 (by omega) (by omega) eJ9 eF10
      rw [pv_2] at hx4
      have hg4 : ∀ c j, ¬ (tr ≤ c ∧ c < tr + 15) → F10 c j = Q9 c j := fun c j h => (by rw [← eF10, iFg_r (by omega)]; exact gs_ne eJ9 (by omega) (hg3 c j h))
      have halM : cAll tr b a μ T F10 RK1 σ fl ti sh K := hal9.up hx4 (fun _ _ => rfl) hb hg4
      refine lv_pop X.1 X.2.1 dX11_pave_117 rfl ?_
      refine lv_iload X.1 X.2.1 dX11_pave_118 (lv_at hl 9 rfl) ?_
      refine lv_if_eq (tgt := 130) X.1 X.2.1 dX11_pave_120 (by decide) (fun c120 => ?_) (fun c120 => ?_)
      · have n120 : k = 0 := gq_eq c120 (Eq.refl (nI k)) (show (0 : Int32) = nI 0 from rfl) (by omega) (by omega)
        refine lv_iload X.1 X.2.1 dX11_pave_130 (lv_at hl 9 rfl) ?_
        refine lv_istore (lv' := [(4, .int (nI k)), (9, .int (nI (sSe fl sh (sPv σ k) μ ld))), (8, .int (nI (σ (18 + k)))), (7, .int (nI (σ (8 + k)))), (0, .ref q), (1, .int (nI μ)), (2, .int (nI ld)), (3, .ref b), (5, .int (oL (sPa (fun y => sSe fl sh (sPv σ y) μ ld) k))), (6, .int (nI k))]) X.1 X.2.1 dX11_pave_132 hl (by decide) rfl (fun ls hl => ?_)
        refine lv_iload X.1 X.2.1 dX11_pave_134 (lv_at hl 1 rfl) ?_
        refine lv_istore (lv' := [(5, .int (nI (sSe fl sh (sPv σ k) μ ld))), (4, .int (nI k)), (9, .int (nI (sSe fl sh (sPv σ k) μ ld))), (8, .int (nI (σ (18 + k)))), (7, .int (nI (σ (8 + k)))), (0, .ref q), (1, .int (nI μ)), (2, .int (nI ld)), (3, .ref b), (6, .int (nI k))]) X.1 X.2.1 dX11_pave_136 hl (by decide) rfl (fun ls hl => ?_)
        refine lv_iinc (v := nI (k + 1)) (lv' := [(6, .int (nI (k + 1))), (5, .int (nI (sSe fl sh (sPv σ k) μ ld))), (4, .int (nI k)), (9, .int (nI (sSe fl sh (sPv σ k) μ ld))), (8, .int (nI (σ (18 + k)))), (7, .int (nI (σ (8 + k)))), (0, .ref q), (1, .int (nI μ)), (2, .int (nI ld)), (3, .ref b)]) X.1 X.2.1 dX11_pave_138 hl (k := 9) rfl (gn_inc (Eq.refl (nI k)) 1) (by decide) rfl (fun ls hl => ?_)
        refine lv_goto (tgt := 45) X.1 X.2.1 dX11_pave_141 (by decide) ?_
        obtain rfl : k = 0 := n120
        have e9 : (sPa (fun y => sSe fl sh (sPv σ y) μ ld) (0 + 1)) = some (0, sSe fl sh (sPv σ 0) μ ld) := rfl
        exact ih _ _ _ _ (by omega) ⟨⟨halM, hQ9.k7 htr hg4⟩, (by rw [e9]; exact lv_sub hl [6, 7, 8, 9, 2, 1, 0] rfl)⟩ hP hS
      · have n120 : ¬ k = 0 := gq_ne c120 (Eq.refl (nI k)) (show (0 : Int32) = nI 0 from rfl) (by omega) (by omega)
        refine lv_iload X.1 X.2.1 dX11_pave_123 (lv_at hl 0 rfl) ?_
        refine lv_iload X.1 X.2.1 dX11_pave_125 (lv_at hl 8 rfl) ?_
        refine lv_icmp_ge (tgt := 138) X.1 X.2.1 dX11_pave_127 (by decide) (fun c127 => ?_) (fun c127 => ?_)
        · refine lv_iinc (v := nI (k + 1)) (lv' := [(6, .int (nI (k + 1))), (9, .int (nI (sSe fl sh (sPv σ k) μ ld))), (8, .int (nI (σ (18 + k)))), (7, .int (nI (σ (8 + k)))), (0, .ref q), (1, .int (nI μ)), (2, .int (nI ld)), (3, .ref b), (4, .int (oP2 (sPa (fun y => sSe fl sh (sPv σ y) μ ld) k))), (5, .int (oL (sPa (fun y => sSe fl sh (sPv σ y) μ ld) k)))]) X.1 X.2.1 dX11_pave_138 hl (k := 9) rfl (gn_inc (Eq.refl (nI k)) 1) (by decide) rfl (fun ls hl => ?_)
          refine lv_goto (tgt := 45) X.1 X.2.1 dX11_pave_141 (by decide) ?_
          have hgl9 := hgle k (by omega)
          have e9 : (sPa (fun y => sSe fl sh (sPv σ y) μ ld) (k + 1)) = (sPa (fun y => sSe fl sh (sPv σ y) μ ld) k) := (pa_k hgle (by omega) n120).1 c127
          exact ih _ _ _ _ (by omega) ⟨⟨halM, hQ9.k7 htr hg4⟩, (by rw [e9]; exact lv_sub hl [4, 5, 6, 7, 8, 9, 0] rfl)⟩ hP hS
        · refine lv_iload X.1 X.2.1 dX11_pave_130 (lv_at hl 9 rfl) ?_
          refine lv_istore (lv' := [(4, .int (nI k)), (9, .int (nI (sSe fl sh (sPv σ k) μ ld))), (8, .int (nI (σ (18 + k)))), (7, .int (nI (σ (8 + k)))), (0, .ref q), (1, .int (nI μ)), (2, .int (nI ld)), (3, .ref b), (5, .int (oL (sPa (fun y => sSe fl sh (sPv σ y) μ ld) k))), (6, .int (nI k))]) X.1 X.2.1 dX11_pave_132 hl (by decide) rfl (fun ls hl => ?_)
          refine lv_iload X.1 X.2.1 dX11_pave_134 (lv_at hl 1 rfl) ?_
          refine lv_istore (lv' := [(5, .int (nI (sSe fl sh (sPv σ k) μ ld))), (4, .int (nI k)), (9, .int (nI (sSe fl sh (sPv σ k) μ ld))), (8, .int (nI (σ (18 + k)))), (7, .int (nI (σ (8 + k)))), (0, .ref q), (1, .int (nI μ)), (2, .int (nI ld)), (3, .ref b), (6, .int (nI k))]) X.1 X.2.1 dX11_pave_136 hl (by decide) rfl (fun ls hl => ?_)
          refine lv_iinc (v := nI (k + 1)) (lv' := [(6, .int (nI (k + 1))), (5, .int (nI (sSe fl sh (sPv σ k) μ ld))), (4, .int (nI k)), (9, .int (nI (sSe fl sh (sPv σ k) μ ld))), (8, .int (nI (σ (18 + k)))), (7, .int (nI (σ (8 + k)))), (0, .ref q), (1, .int (nI μ)), (2, .int (nI ld)), (3, .ref b)]) X.1 X.2.1 dX11_pave_138 hl (k := 9) rfl (gn_inc (Eq.refl (nI k)) 1) (by decide) rfl (fun ls hl => ?_)
          refine lv_goto (tgt := 45) X.1 X.2.1 dX11_pave_141 (by decide) ?_
          have hgl9 := hgle k (by omega)
          have e9 : (sPa (fun y => sSe fl sh (sPv σ y) μ ld) (k + 1)) = some (k, sSe fl sh (sPv σ k) μ ld) := (pa_k hgle (by omega) n120).2 c127
          exact ih _ _ _ _ (by omega) ⟨⟨halM, hQ9.k7 htr hg4⟩, (by rw [e9]; exact lv_sub hl [6, 7, 8, 9, 2, 1, 0] rfl)⟩ hP hS
  · exact absurd (g_le (a := 1) (b := 20) (x := 1) (y := 20) rfl rfl (by omega) (by omega) (by omega)) (gt_1 c19)

end PO