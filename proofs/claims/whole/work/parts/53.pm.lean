section PM
variable {l : Launch} {s0 : State} {D : va_G} {cy : Nat → ClassId} {B z : Nat} {T : Nat → Nat × Nat} {I : Nat → Nat → Int32} {R : Nat → Nat → Option Nat} {q nw kp tr : Nat} {σ : Nat → Nat} {K ti sh : Nat} {fl : List Nat}
theorem cB.k {w : Nat} {I I' : Nat → Nat → Int32} {σ : Nat → Nat} (h : cB w I σ) (hk : ∀ c j, w ≤ c → c < w + 15 → I' c j = I c j) : cB w I' σ := ⟨(hk _ _ (by omega) (by omega)).trans h.1, (hk _ _ (by omega) (by omega)).trans h.2.1, fun k g => (hk _ _ (by omega) (by omega)).trans (h.2.2.1 k g), fun k g => (hk _ _ (by omega) (by omega)).trans (h.2.2.2 k g)⟩
theorem cBy_ov {μ ld t : Nat} : σ 1 ≤ cBy fl ti sh μ ld t 200 σ 0 1 ∧ cBy fl ti sh μ ld t 200 σ 0 1 - σ 1 = sOv fl ti sh σ μ t ld := by
  have h := (cBy_al (fl := fl) (ti := ti) (sh := sh) (μ := μ) (ld := ld) (t := t) 200 σ 0).one
  rw [h]
  exact ⟨sBy_1 200 σ 0, rfl⟩
theorem cQ.kw {q tr : Nat} {I J I' : Nat → Nat → Int32} {R R' : Nat → Nat → Option Nat} (h : cQ q I J R R') (ht : tr = q + 36) (hk : ∀ c j, ¬ kW tr c j → I' c j = J c j) : cQ q I I' R R' := ⟨fun c j g => (hk c j (by unfold qF at g; unfold kW; omega)).trans (h.1 c j g), h.2⟩
theorem cQ.k7 {q tr : Nat} {I J I' : Nat → Nat → Int32} {R R' : Nat → Nat → Option Nat} (h : cQ q I J R R') (ht : tr = q + 36) (hk : ∀ c j, ¬ (tr ≤ c ∧ c < tr + 15) → I' c j = J c j) : cQ q I I' R R' := ⟨fun c j g => (hk c j (by unfold qF at g; omega)).trans (h.1 c j g), h.2⟩

set_option maxHeartbeats 4000000 in
set_option maxRecDepth 100000 in
/-- t_overBy -/
theorem t_overBy (hTp : cTop q nw kp tr T R) (hNw : cNw q nw T I R σ fl ti sh) (hG : sGd fl ti sh) (hb : sBd σ K) (hcas : gCas s0) {μ b : Nat} (hμ : μ < 4) (hμn : μ < σ 38) (hm : cMn T I σ μ b) (hb65 : q + 65 ≤ b) {ld t : Nat} (hld : ld ≤ 20) (ht : t ≤ 9999) (hKb : K ≤ 25000000) : Met l yX11_overBy wsX11_overBy ({ frames := 6, cells := 0, slots := 0, locals := 150 }) (va_Pc [.ref q, .ref b, .int (nI ld), .int (nI t)] (gW0 s0 D cy B (z, T, I, R))) (va_Qi (fun r u => r = nI (sOv fl ti sh σ μ t ld) ∧ ∃ I' R', u = (z, T, I', R') ∧ cQ q I I' R R') (fun u t => gW1 D cy B u t) (gA B)) 0 0 (gA B) := by
  refine g_met (maxL := 4) (ret := (some .int)) (by decide) rfl (Nat.le_of_ble_eq_true rfl) (fun p e s m args below meth c ls X hr hlk hnm hK hP hC hS hl => ?_)
  have hl : lv_has ls 4 [(0, .ref q), (1, .ref b), (2, .int (nI ld)), (3, .int (nI t))] := hl
  have hP : gP D cy B z T I R s.heap := hP
  have hB : B ≤ s.heap.size := by rw [hP.1]; exact hP.2.1
  have hinRX10 : ∀ w ∈ wsX100, w ∈ wsX11_overBy := fun _ h => List.mem_cons_of_mem _ (List.mem_append_left _ (List.mem_append_left _ (List.mem_append_left _ (List.mem_append_left _ (List.mem_append_left _ (List.mem_append_left _ (List.mem_append_left _ (List.mem_append_left _ (List.mem_append_left _ (List.mem_append_right _ h))))))))))
  have hinRX11 : ∀ w ∈ wsX110, w ∈ wsX11_overBy := fun _ h => List.mem_cons_of_mem _ (List.mem_append_left _ (List.mem_append_left _ (List.mem_append_left _ (List.mem_append_left _ (List.mem_append_left _ (List.mem_append_left _ (List.mem_append_left _ (List.mem_append_left _ (List.mem_append_left _ (List.mem_append_left _ (List.mem_append_right _ h)))))))))))
  have k17 : Cond.fieldLink RX11 17 "BarrowPlank" "now" "LBarrowPlank$Works;" ∈ wsX11_overBy := by decide +kernel
  have k26 : Cond.fieldLink RX11 26 "BarrowPlank" "trial" "LBarrowPlank$Works;" ∈ wsX11_overBy := by decide +kernel
  have k83 : Cond.fieldLink RX11 83 "BarrowPlank$Works" "over" "I" ∈ wsX11_overBy := by decide +kernel
  have hTp0 := hTp
  have hNw0 := hNw
  obtain ⟨hnw, hkp, htr, hTq, hR0, hR1, hR2, hR3, hR4, hN, hKp, hTr, hTrd, hTl⟩ := hTp
  obtain ⟨hA, hBb, hmen, hme, a, hsR, hst, hsi, hfa⟩ := hNw
  have h38 := hb.2.2.2.2.1
  have h0 := hb.1
  refine lv_aload_n X.1 X.2.1 dX11_overBy_0 rfl (lv_at hl 0 rfl) ?_
  refine g_getr 13 2 X hK hP hTq rfl hinRX11 rfl (by decide) k26 (fun _ h => h) dX11_overBy_1 (show va_rf (R q 2) = .ref tr from by rw [hR2]; rfl) ?_
  refine lv_aload_n X.1 X.2.1 dX11_overBy_4 rfl (lv_at hl 0 rfl) ?_
  refine g_getr 13 0 X hK hP hTq rfl hinRX11 rfl (by decide) k17 (fun _ h => h) dX11_overBy_5 (show va_rf (R q 0) = .ref nw from by rw [hR0]; rfl) ?_
  refine g_run_v (f := fun u => u) (g_runV (k := 12) [.ref nw] X hK hP hS hC hB (d_take hTr hN (by omega) hA hme hsR hst.1 hcas) (cwV 1 X.2.2.2.2 gX11_overBy_X10_take rfl rfl rfl (by decide +kernel) ⟨Nat.le_of_ble_eq_true rfl, Nat.le_of_ble_eq_true rfl⟩) hTr.t0 rfl rfl hl.1 rfl (Nat.le_of_ble_eq_true rfl) dX11_overBy_8 (by exact ⟨Nat.zero_le _, Nat.zero_le _⟩)) hS (fun u H locs hq hP hS => ?_)
  obtain ⟨IK1, RK1, rfl, hAt, ⟨hm1K1, hm2K1⟩, hknK1, hfIK1, hfRK1⟩ := hq
  have hP : gP D cy B z T IK1 RK1 H := hP
  have hQK1 : cQ q I IK1 R RK1 := ⟨fun c j h => hfIK1 c j (by unfold qF at h; unfold tkW; omega), fun c j h => hfRK1 c j (by unfold qR at h; omega) (by unfold qR at h; omega)⟩
  have hfK1 := hQK1.1
  have hgK1 := hQK1.2
  have hTp := hTp0.fr hQK1.2
  obtain ⟨-, -, -, hTq, hR0, hR1, hR2, hR3, hR4, hN, hKp, hTr, hTrd, hTl⟩ := hTp
  have hA : cA nw IK1 σ := hA.k (fun c j h1 h2 => hfK1 c j (by unfold qF; omega))
  have hBb : cB nw IK1 σ := hBb.k (fun c j h1 h2 => hfK1 c j (by unfold qF; omega))
  have hm : cMn T IK1 σ μ b := hm.k (fun j => hfK1 b j (by unfold qF; omega))
  have hsR : RK1 nw 12 = some a := (hgK1 _ _ (by unfold qR; omega)).trans hsR
  have hst : cSt a T RK1 := hst.fr (fun j => hgK1 _ _ (by unfold qR; omega))
  have hsi : cSi a IK1 fl ti sh := hsi.k (fun c j g1 g2 => hfK1 c j (by unfold qF; omega))
  have hal : cAll tr b a μ T IK1 RK1 σ fl ti sh K := cAll.of (q := q) hTr hAt hm hb65 hfa hst hsi hm2K1 hG hb hμ hμn (by omega) (by omega)
  have hCt : cC tr IK1 fl σ := cC.fg (fun c h1 h2 => hknK1 c h1 h2)
  refine lv_aload_n X.1 X.2.1 dX11_overBy_11 rfl (lv_at hl 0 rfl) ?_
  refine g_getr 13 2 X hK hP hTq rfl hinRX11 rfl (by decide) k26 (fun _ h => h) dX11_overBy_12 (show va_rf (RK1 q 2) = .ref tr from by rw [hR2]; rfl) ?_
  refine lv_aload_n X.1 X.2.1 dX11_overBy_15 rfl (lv_at hl 1 rfl) ?_
  refine lv_iload_n X.1 X.2.1 dX11_overBy_16 rfl (lv_at hl 2 rfl) ?_
  refine lv_iload_n X.1 X.2.1 dX11_overBy_17 rfl (lv_at hl 3 rfl) ?_
  refine g_run_v (f := fun u => u) (g_runV (k := 12) [.ref b, .int (nI ld), .int (nI t)] X hK hP hS hC hB (d_carry hal hCt hld ht (by omega)) (cwV 3 X.2.2.2.2 gX11_overBy_X10_carry rfl rfl rfl (by decide +kernel) ⟨Nat.le_of_ble_eq_true rfl, Nat.le_of_ble_eq_true rfl⟩) hTr.t0 rfl rfl hl.1 rfl (Nat.le_of_ble_eq_true rfl) dX11_overBy_18 (by exact ⟨Nat.zero_le _, Nat.zero_le _⟩)) hS (fun u H locs hq hP hS => ?_)
  obtain ⟨IC2, rfl, ⟨hAt, hCt, hbt, h18⟩, hfc⟩ := hq
  have hP : gP D cy B z T IC2 RK1 H := hP
  have hov := cBy_ov (σ := σ) (fl := fl) (ti := ti) (sh := sh) (μ := μ) (ld := ld) (t := t)
  have hA : cA nw IC2 σ := hA.k (fun c j h1 h2 => hfc c j (by unfold kW; omega))
  refine lv_aload_n X.1 X.2.1 dX11_overBy_21 rfl (lv_at hl 0 rfl) ?_
  refine g_getr 13 2 X hK hP hTq rfl hinRX11 rfl (by decide) k26 (fun _ h => h) dX11_overBy_22 (show va_rf (RK1 q 2) = .ref tr from by rw [hR2]; rfl) ?_
  refine g_geti 12 9 X hK hP hTr.t0 rfl hinRX10 rfl (by decide) k83 (fun _ h => h) dX11_overBy_25 (show IC2 tr 9 = nI (cBy fl ti sh μ ld t 200 σ 0 1) from hAt.2.2.2.2.1) ?_
  refine lv_aload_n X.1 X.2.1 dX11_overBy_28 rfl (lv_at hl 0 rfl) ?_
  refine g_getr 13 0 X hK hP hTq rfl hinRX11 rfl (by decide) k17 (fun _ h => h) dX11_overBy_29 (show va_rf (RK1 q 0) = .ref nw from by rw [hR0]; rfl) ?_
  refine g_geti 12 9 X hK hP hN.t0 rfl hinRX10 rfl (by decide) k83 (fun _ h => h) dX11_overBy_32 (show IC2 nw 9 = nI (σ 1) from hA.2.2.2.2.1) ?_
  refine lv_isub X.1 X.2.1 dX11_overBy_35 ?_
  exact g_iret (f := fun u => u) (z, T, IC2, RK1) X hr hlk hK hP hS dX11_overBy_36 ⟨((gn_sub (Eq.refl (nI (cBy fl ti sh μ ld t 200 σ 0 1))) (Eq.refl (nI (σ 1))) (by omega))).trans (congrArg nI hov.2), IC2, RK1, rfl, hQK1.kw htr hfc⟩

set_option maxHeartbeats 4000000 in
set_option maxRecDepth 100000 in
/-- t_by_n -/
theorem t_by_n (hTp : cTop q nw kp tr T R) (hNw : cNw q nw T I R σ fl ti sh) (hG : sGd fl ti sh) (hb : sBd σ K) {v : Int32} (hno : ¬ (0 ≤ v ∧ v ≤ nI (σ 38) - 1)) (x y : Int32) : Met l yX11_by wsX11_by ({ frames := 1, cells := 0, slots := 0, locals := 21 }) (va_Pc [.ref q, .int v, .int x, .int y] (gW0 s0 D cy B (z, T, I, R))) (va_Qi (fun r u => r = -1 ∧ (z, T, I, R) = u) (fun u t => gW1 D cy B u t) (gA B)) 0 0 (gA B) := by
  refine g_met (maxL := 5) (ret := (some .int)) (by decide) rfl (Nat.le_of_ble_eq_true rfl) (fun p e s m args below meth c ls X hr hlk hnm hK hP hC hS hl => ?_)
  have hl : lv_has ls 5 [(0, .ref q), (1, .int v), (2, .int x), (3, .int y)] := hl
  have hP : gP D cy B z T I R s.heap := hP
  have hB : B ≤ s.heap.size := by rw [hP.1]; exact hP.2.1
  have hinRX11 : ∀ w ∈ wsX110, w ∈ wsX11_by := fun _ h => List.mem_cons_of_mem _ (List.mem_append_left _ (List.mem_append_left _ (List.mem_append_left _ (List.mem_append_left _ (List.mem_append_left _ (List.mem_append_left _ (List.mem_append_left _ (List.mem_append_left _ (List.mem_append_left _ (List.mem_append_left _ (List.mem_append_right _ h)))))))))))
  have k17 : Cond.fieldLink RX11 17 "BarrowPlank" "now" "LBarrowPlank$Works;" ∈ wsX11_by := by decide +kernel
  have hTp0 := hTp
  have hNw0 := hNw
  obtain ⟨hnw, hkp, htr, hTq, hR0, hR1, hR2, hR3, hR4, hN, hKp, hTr, hTrd, hTl⟩ := hTp
  obtain ⟨hA, hBb, hmen, hme, a, hsR, hst, hsi, hfa⟩ := hNw
  have h38 := hb.2.2.2.2.1
  have h0 := hb.1
  refine lv_aload_n X.1 X.2.1 dX11_by_0 rfl (lv_at hl 0 rfl) ?_
  refine g_getr 13 0 X hK hP hTq rfl hinRX11 rfl (by decide) k17 (fun _ h => h) dX11_by_1 (show va_rf (R q 0) = .ref nw from by rw [hR0]; rfl) ?_
  refine lv_iload_n X.1 X.2.1 dX11_by_4 rfl (lv_at hl 1 rfl) ?_
  refine g_run_q (f := fun u => u) (g_runV (k := 12) [.int v] X hK hP hS hC hB (d_find_n (σ := σ) hN (hA.2.2.1) h38 hno) (cwV 1 X.2.2.2.2 gX11_by_X10_find rfl rfl rfl (by decide +kernel) ⟨Nat.le_of_ble_eq_true rfl, Nat.le_of_ble_eq_true rfl⟩) hN.t0 rfl rfl hl.1 rfl (Nat.le_of_ble_eq_true rfl) dX11_by_5 (by exact ⟨Nat.zero_le _, Nat.zero_le _⟩)) hS (fun r u H locs hq hP hS => ?_)
  obtain ⟨rfl, rfl⟩ := hq
  have hP : gP D cy B z T I R H := hP
  refine lv_astoreN (lv' := [(4, .null), (0, .ref q), (1, .int v), (2, .int x), (3, .int y)]) X.1 X.2.1 dX11_by_8 hl (by decide) rfl (fun ls hl => ?_)
  refine lv_aloadN X.1 X.2.1 dX11_by_10 (lv_at hl 0 rfl) ?_
  refine lv_ifnonnullN X.1 X.2.1 dX11_by_12 ?_
  refine lv_iconst (v := (-1)) X.1 X.2.1 dX11_by_15 (by decide) ?_
  exact g_iret (f := fun u => u) (z, T, I, R) X hr hlk hK hP hS dX11_by_16 ⟨rfl, rfl⟩

set_option maxHeartbeats 4000000 in
set_option maxRecDepth 100000 in
/-- t_by_b -/
theorem t_by_b (hTp : cTop q nw kp tr T R) (hNw : cNw q nw T I R σ fl ti sh) (hG : sGd fl ti sh) (hb : sBd σ K) {μ : Nat} (hμn : μ < σ 38) {x y : Int32} (hbad : ¬ ((1 ≤ x ∧ x ≤ 20) ∧ (0 ≤ y ∧ y ≤ 9999))) : Met l yX11_by wsX11_by ({ frames := 2, cells := 0, slots := 0, locals := 42 }) (va_Pc [.ref q, .int (nI μ), .int x, .int y] (gW0 s0 D cy B (z, T, I, R))) (va_Qi (fun r u => r = -2 ∧ (z, T, I, R) = u) (fun u t => gW1 D cy B u t) (gA B)) 0 0 (gA B) := by
  refine g_met (maxL := 5) (ret := (some .int)) (by decide) rfl (Nat.le_of_ble_eq_true rfl) (fun p e s m args below meth c ls X hr hlk hnm hK hP hC hS hl => ?_)
  have hl : lv_has ls 5 [(0, .ref q), (1, .int (nI μ)), (2, .int x), (3, .int y)] := hl
  have hP : gP D cy B z T I R s.heap := hP
  have hB : B ≤ s.heap.size := by rw [hP.1]; exact hP.2.1
  have hinRX11 : ∀ w ∈ wsX110, w ∈ wsX11_by := fun _ h => List.mem_cons_of_mem _ (List.mem_append_left _ (List.mem_append_left _ (List.mem_append_left _ (List.mem_append_left _ (List.mem_append_left _ (List.mem_append_left _ (List.mem_append_left _ (List.mem_append_left _ (List.mem_append_left _ (List.mem_append_left _ (List.mem_append_right _ h)))))))))))
  have hin7 : ∀ κ, κ ≤ 6 → ∀ w ∈ mws κ, w ∈ wsX11_by := fun κ hκ => by
    rcases k7 hκ with rfl | rfl | rfl | rfl | rfl | rfl | rfl
    · exact fun _ h => List.mem_cons_of_mem _ (List.mem_append_left _ (List.mem_append_left _ (List.mem_append_left _ (List.mem_append_left _ (List.mem_append_left _ (List.mem_append_right _ h))))))
    · exact fun _ h => List.mem_cons_of_mem _ (List.mem_append_left _ (List.mem_append_left _ (List.mem_append_left _ (List.mem_append_left _ (List.mem_append_left _ (List.mem_append_left _ (List.mem_append_left _ (List.mem_append_right _ h))))))))
    · exact fun _ h => List.mem_cons_of_mem _ (List.mem_append_left _ (List.mem_append_right _ h))
    · exact fun _ h => List.mem_cons_of_mem _ (List.mem_append_left _ (List.mem_append_left _ (List.mem_append_left _ (List.mem_append_right _ h))))
    · exact fun _ h => List.mem_cons_of_mem _ (List.mem_append_left _ (List.mem_append_left _ (List.mem_append_left _ (List.mem_append_left _ (List.mem_append_left _ (List.mem_append_left _ (List.mem_append_right _ h)))))))
    · exact fun _ h => List.mem_cons_of_mem _ (List.mem_append_left _ (List.mem_append_left _ (List.mem_append_right _ h)))
    · exact fun _ h => List.mem_cons_of_mem _ (List.mem_append_left _ (List.mem_append_left _ (List.mem_append_left _ (List.mem_append_left _ (List.mem_append_right _ h)))))
  have k17 : Cond.fieldLink RX11 17 "BarrowPlank" "now" "LBarrowPlank$Works;" ∈ wsX11_by := by decide +kernel
  have hTp0 := hTp
  have hNw0 := hNw
  obtain ⟨hnw, hkp, htr, hTq, hR0, hR1, hR2, hR3, hR4, hN, hKp, hTr, hTrd, hTl⟩ := hTp
  obtain ⟨hA, hBb, hmen, hme, a, hsR, hst, hsi, hfa⟩ := hNw
  have h38 := hb.2.2.2.2.1
  have h0 := hb.1
  have hμ : μ < 4 := Nat.lt_of_lt_of_le hμn h38
  obtain ⟨b, hbm, hm, hb65⟩ := hmen μ hμn
  obtain ⟨hk6, hv9, hs20⟩ := hb.2.2.2.2.2.2.2.2.1 μ hμ
  have ht9 := hb.2.2.1 μ hμ
  refine lv_aload_n X.1 X.2.1 dX11_by_0 rfl (lv_at hl 0 rfl) ?_
  refine g_getr 13 0 X hK hP hTq rfl hinRX11 rfl (by decide) k17 (fun _ h => h) dX11_by_1 (show va_rf (R q 0) = .ref nw from by rw [hR0]; rfl) ?_
  refine lv_iload_n X.1 X.2.1 dX11_by_4 rfl (lv_at hl 1 rfl) ?_
  refine g_run_q (f := fun u => u) (g_runV (k := 12) [.int (nI μ)] X hK hP hS hC hB (d_find (σ := σ) hN (hA.2.2.1) h38 hμn hbm) (cwV 1 X.2.2.2.2 gX11_by_X10_find rfl rfl rfl (by decide +kernel) ⟨Nat.le_of_ble_eq_true rfl, Nat.le_of_ble_eq_true rfl⟩) hN.t0 rfl rfl hl.1 rfl (Nat.le_of_ble_eq_true rfl) dX11_by_5 (by exact ⟨Nat.zero_le _, Nat.zero_le _⟩)) hS (fun r u H locs hq hP hS => ?_)
  obtain ⟨rfl, rfl⟩ := hq
  have hP : gP D cy B z T I R H := hP
  refine lv_astore (lv' := [(4, .ref b), (0, .ref q), (1, .int (nI μ)), (2, .int x), (3, .int y)]) X.1 X.2.1 dX11_by_8 hl (by decide) rfl (fun ls hl => ?_)
  refine lv_aload X.1 X.2.1 dX11_by_10 (lv_at hl 0 rfl) ?_
  refine lv_ifnonnull (tgt := 17) X.1 X.2.1 dX11_by_12 (by decide) ?_
  refine lv_iload_n X.1 X.2.1 dX11_by_17 rfl (lv_at hl 3 rfl) ?_
  refine g_run_i (f := fun u => u) (g_runS [.int x] X hK hP hS hC hB (d_badLoad) (va_cwS 1 X.2.2.2.2 gX11_by_X11_badLoad rfl rfl rfl (by decide +kernel) ⟨Nat.le_of_ble_eq_true rfl, Nat.le_of_ble_eq_true rfl⟩) rfl hl.1 rfl (Nat.le_of_ble_eq_true rfl) dX11_by_18 (by exact ⟨Nat.zero_le _, Nat.zero_le _⟩)) hS (fun r u H locs hq hP hS => ?_)
  obtain ⟨rfl, rfl⟩ := hq
  have hP : gP D cy B z T I R H := hP
  refine lv_if_ne (tgt := 35) X.1 X.2.1 dX11_by_21 (by decide) (fun c21 => ?_) (fun c21 => ?_)
  · refine lv_bipush (v := (-2)) X.1 X.2.1 dX11_by_35 (by decide) ?_
    exact g_iret (f := fun u => u) (z, T, I, R) X hr hlk hK hP hS dX11_by_37 ⟨rfl, rfl⟩
  · refine lv_iload_n X.1 X.2.1 dX11_by_24 rfl (lv_at hl 4 rfl) ?_
    refine lv_iconst (v := 0) X.1 X.2.1 dX11_by_25 (by decide) ?_
    refine lv_sipush (v := 9999) X.1 X.2.1 dX11_by_26 (by decide) ?_
    refine g_run_i (f := fun u => u) (g_runS [.int y, .int 0, .int 9999] X hK hP hS hC hB (d_outside) (va_cwS 3 X.2.2.2.2 gX11_by_X11_outside rfl rfl rfl (by decide +kernel) ⟨Nat.le_of_ble_eq_true rfl, Nat.le_of_ble_eq_true rfl⟩) rfl hl.1 rfl (Nat.le_of_ble_eq_true rfl) dX11_by_29 (by exact ⟨Nat.zero_le _, Nat.zero_le _⟩)) hS (fun r u H locs hq hP hS => ?_)
    obtain ⟨rfl, rfl⟩ := hq
    have hP : gP D cy B z T I R H := hP
    refine lv_if_eq (tgt := 38) X.1 X.2.1 dX11_by_32 (by decide) (fun c32 => ?_) (fun c32 => ?_)
    · exact absurd ⟨Classical.not_not.mp (gt_0 c21), Classical.not_not.mp (gt_0 c32)⟩ hbad
    · refine lv_bipush (v := (-2)) X.1 X.2.1 dX11_by_35 (by decide) ?_
      exact g_iret (f := fun u => u) (z, T, I, R) X hr hlk hK hP hS dX11_by_37 ⟨rfl, rfl⟩

set_option maxHeartbeats 4000000 in
set_option maxRecDepth 100000 in
/-- t_by -/
theorem t_by (hTp : cTop q nw kp tr T R) (hNw : cNw q nw T I R σ fl ti sh) (hG : sGd fl ti sh) (hb : sBd σ K) (hcas : gCas s0) {μ : Nat} (hμn : μ < σ 38) {ld : Nat} (hl1 : 1 ≤ ld) (hld : ld ≤ 20) {t : Nat} (ht : t ≤ 9999) (hKb : K ≤ 25000000) : Met l yX11_by wsX11_by ({ frames := 7, cells := 0, slots := 0, locals := 173 }) (va_Pc [.ref q, .int (nI μ), .int (nI ld), .int (nI t)] (gW0 s0 D cy B (z, T, I, R))) (va_Qi (fun r u => r = nI (sOv fl ti sh σ μ t ld) ∧ ∃ I' R', u = (z, T, I', R') ∧ cQ q I I' R R') (fun u t => gW1 D cy B u t) (gA B)) 0 0 (gA B) := by
  refine g_met (maxL := 5) (ret := (some .int)) (by decide) rfl (Nat.le_of_ble_eq_true rfl) (fun p e s m args below meth c ls X hr hlk hnm hK hP hC hS hl => ?_)
  have hl : lv_has ls 5 [(0, .ref q), (1, .int (nI μ)), (2, .int (nI ld)), (3, .int (nI t))] := hl
  have hP : gP D cy B z T I R s.heap := hP
  have hB : B ≤ s.heap.size := by rw [hP.1]; exact hP.2.1
  have hinRX11 : ∀ w ∈ wsX110, w ∈ wsX11_by := fun _ h => List.mem_cons_of_mem _ (List.mem_append_left _ (List.mem_append_left _ (List.mem_append_left _ (List.mem_append_left _ (List.mem_append_left _ (List.mem_append_left _ (List.mem_append_left _ (List.mem_append_left _ (List.mem_append_left _ (List.mem_append_left _ (List.mem_append_right _ h)))))))))))
  have hin7 : ∀ κ, κ ≤ 6 → ∀ w ∈ mws κ, w ∈ wsX11_by := fun κ hκ => by
    rcases k7 hκ with rfl | rfl | rfl | rfl | rfl | rfl | rfl
    · exact fun _ h => List.mem_cons_of_mem _ (List.mem_append_left _ (List.mem_append_left _ (List.mem_append_left _ (List.mem_append_left _ (List.mem_append_left _ (List.mem_append_right _ h))))))
    · exact fun _ h => List.mem_cons_of_mem _ (List.mem_append_left _ (List.mem_append_left _ (List.mem_append_left _ (List.mem_append_left _ (List.mem_append_left _ (List.mem_append_left _ (List.mem_append_left _ (List.mem_append_right _ h))))))))
    · exact fun _ h => List.mem_cons_of_mem _ (List.mem_append_left _ (List.mem_append_right _ h))
    · exact fun _ h => List.mem_cons_of_mem _ (List.mem_append_left _ (List.mem_append_left _ (List.mem_append_left _ (List.mem_append_right _ h))))
    · exact fun _ h => List.mem_cons_of_mem _ (List.mem_append_left _ (List.mem_append_left _ (List.mem_append_left _ (List.mem_append_left _ (List.mem_append_left _ (List.mem_append_left _ (List.mem_append_right _ h)))))))
    · exact fun _ h => List.mem_cons_of_mem _ (List.mem_append_left _ (List.mem_append_left _ (List.mem_append_right _ h)))
    · exact fun _ h => List.mem_cons_of_mem _ (List.mem_append_left _ (List.mem_append_left _ (List.mem_append_left _ (List.mem_append_left _ (List.mem_append_right _ h)))))
  have k17 : Cond.fieldLink RX11 17 "BarrowPlank" "now" "LBarrowPlank$Works;" ∈ wsX11_by := by decide +kernel
  have hTp0 := hTp
  have hNw0 := hNw
  obtain ⟨hnw, hkp, htr, hTq, hR0, hR1, hR2, hR3, hR4, hN, hKp, hTr, hTrd, hTl⟩ := hTp
  obtain ⟨hA, hBb, hmen, hme, a, hsR, hst, hsi, hfa⟩ := hNw
  have h38 := hb.2.2.2.2.1
  have h0 := hb.1
  have hμ : μ < 4 := Nat.lt_of_lt_of_le hμn h38
  obtain ⟨b, hbm, hm, hb65⟩ := hmen μ hμn
  obtain ⟨hk6, hv9, hs20⟩ := hb.2.2.2.2.2.2.2.2.1 μ hμ
  have ht9 := hb.2.2.1 μ hμ
  refine lv_aload_n X.1 X.2.1 dX11_by_0 rfl (lv_at hl 0 rfl) ?_
  refine g_getr 13 0 X hK hP hTq rfl hinRX11 rfl (by decide) k17 (fun _ h => h) dX11_by_1 (show va_rf (R q 0) = .ref nw from by rw [hR0]; rfl) ?_
  refine lv_iload_n X.1 X.2.1 dX11_by_4 rfl (lv_at hl 1 rfl) ?_
  refine g_run_q (f := fun u => u) (g_runV (k := 12) [.int (nI μ)] X hK hP hS hC hB (d_find (σ := σ) hN (hA.2.2.1) h38 hμn hbm) (cwV 1 X.2.2.2.2 gX11_by_X10_find rfl rfl rfl (by decide +kernel) ⟨Nat.le_of_ble_eq_true rfl, Nat.le_of_ble_eq_true rfl⟩) hN.t0 rfl rfl hl.1 rfl (Nat.le_of_ble_eq_true rfl) dX11_by_5 (by exact ⟨Nat.zero_le _, Nat.zero_le _⟩)) hS (fun r u H locs hq hP hS => ?_)
  obtain ⟨rfl, rfl⟩ := hq
  have hP : gP D cy B z T I R H := hP
  refine lv_astore (lv' := [(4, .ref b), (0, .ref q), (1, .int (nI μ)), (2, .int (nI ld)), (3, .int (nI t))]) X.1 X.2.1 dX11_by_8 hl (by decide) rfl (fun ls hl => ?_)
  refine lv_aload X.1 X.2.1 dX11_by_10 (lv_at hl 0 rfl) ?_
  refine lv_ifnonnull (tgt := 17) X.1 X.2.1 dX11_by_12 (by decide) ?_
  refine lv_iload_n X.1 X.2.1 dX11_by_17 rfl (lv_at hl 3 rfl) ?_
  refine g_run_i (f := fun u => u) (g_runS [.int (nI ld)] X hK hP hS hC hB (d_badLoad) (va_cwS 1 X.2.2.2.2 gX11_by_X11_badLoad rfl rfl rfl (by decide +kernel) ⟨Nat.le_of_ble_eq_true rfl, Nat.le_of_ble_eq_true rfl⟩) rfl hl.1 rfl (Nat.le_of_ble_eq_true rfl) dX11_by_18 (by exact ⟨Nat.zero_le _, Nat.zero_le _⟩)) hS (fun r u H locs hq hP hS => ?_)
  obtain ⟨rfl, rfl⟩ := hq
  have hP : gP D cy B z T I R H := hP
  refine lv_if_ne (tgt := 35) X.1 X.2.1 dX11_by_21 (by decide) (fun c21 => ?_) (fun c21 => ?_)
  · exact absurd (g_le (a := 1) (b := 20) (x := 1) (y := 20) rfl rfl (by omega) (by omega) (by omega)) (gt_1 c21)
  · refine lv_iload_n X.1 X.2.1 dX11_by_24 rfl (lv_at hl 4 rfl) ?_
    refine lv_iconst (v := 0) X.1 X.2.1 dX11_by_25 (by decide) ?_
    refine lv_sipush (v := 9999) X.1 X.2.1 dX11_by_26 (by decide) ?_
    refine g_run_i (f := fun u => u) (g_runS [.int (nI t), .int 0, .int 9999] X hK hP hS hC hB (d_outside) (va_cwS 3 X.2.2.2.2 gX11_by_X11_outside rfl rfl rfl (by decide +kernel) ⟨Nat.le_of_ble_eq_true rfl, Nat.le_of_ble_eq_true rfl⟩) rfl hl.1 rfl (Nat.le_of_ble_eq_true rfl) dX11_by_29 (by exact ⟨Nat.zero_le _, Nat.zero_le _⟩)) hS (fun r u H locs hq hP hS => ?_)
    obtain ⟨rfl, rfl⟩ := hq
    have hP : gP D cy B z T I R H := hP
    refine lv_if_eq (tgt := 38) X.1 X.2.1 dX11_by_32 (by decide) (fun c32 => ?_) (fun c32 => ?_)
    · refine lv_aload_n X.1 X.2.1 dX11_by_38 rfl (lv_at hl 1 rfl) ?_
      refine lv_aload X.1 X.2.1 dX11_by_39 (lv_at hl 0 rfl) ?_
      refine lv_iload_n X.1 X.2.1 dX11_by_41 rfl (lv_at hl 3 rfl) ?_
      refine lv_iload_n X.1 X.2.1 dX11_by_42 rfl (lv_at hl 4 rfl) ?_
      refine g_run_i (f := fun u => u) (g_runV (k := 13) [.ref b, .int (nI ld), .int (nI t)] X hK hP hS hC hB (t_overBy (ld := ld) hTp0 hNw0 hG hb hcas hμ hμn hm hb65 hld ht hKb) (cwV 3 X.2.2.2.2 gX11_by_X11_overBy rfl rfl rfl (by decide +kernel) ⟨Nat.le_of_ble_eq_true rfl, Nat.le_of_ble_eq_true rfl⟩) hTq rfl rfl hl.1 rfl (Nat.le_of_ble_eq_true rfl) dX11_by_43 (by exact ⟨Nat.zero_le _, Nat.zero_le _⟩)) hS (fun r u H locs hq hP hS => ?_)
      obtain ⟨rfl, IV1, RV1, rfl, hQV1⟩ := hq
      have hP : gP D cy B z T IV1 RV1 H := hP
      have hfV1 := hQV1.1
      have hgV1 := hQV1.2
      exact g_iret (f := fun u => u) (z, T, IV1, RV1) X hr hlk hK hP hS dX11_by_46 ⟨rfl, IV1, RV1, rfl, hQV1⟩
    · exact absurd (g_le (a := 0) (b := 9999) (x := 0) (y := 9999) rfl rfl (by omega) (by omega) (by omega)) (gt_1 c32)

set_option maxHeartbeats 4000000 in
set_option maxRecDepth 100000 in
/-- t_full_n -/
theorem t_full_n (hTp : cTop q nw kp tr T R) (hNw : cNw q nw T I R σ fl ti sh) (hG : sGd fl ti sh) (hb : sBd σ K) {v : Int32} (hno : ¬ (0 ≤ v ∧ v ≤ nI (σ 38) - 1)) (x : Int32) : Met l yX11_full wsX11_full ({ frames := 1, cells := 0, slots := 0, locals := 21 }) (va_Pc [.ref q, .int v, .int x] (gW0 s0 D cy B (z, T, I, R))) (va_Qi (fun r u => r = -1 ∧ (z, T, I, R) = u) (fun u t => gW1 D cy B u t) (gA B)) 0 0 (gA B) := by
  refine g_met (maxL := 8) (ret := (some .int)) (by decide) rfl (Nat.le_of_ble_eq_true rfl) (fun p e s m args below meth c ls X hr hlk hnm hK hP hC hS hl => ?_)
  have hl : lv_has ls 8 [(0, .ref q), (1, .int v), (2, .int x)] := hl
  have hP : gP D cy B z T I R s.heap := hP
  have hB : B ≤ s.heap.size := by rw [hP.1]; exact hP.2.1
  have hinRX11 : ∀ w ∈ wsX110, w ∈ wsX11_full := fun _ h => List.mem_cons_of_mem _ (List.mem_append_left _ (List.mem_append_left _ (List.mem_append_left _ (List.mem_append_left _ (List.mem_append_left _ (List.mem_append_left _ (List.mem_append_left _ (List.mem_append_left _ (List.mem_append_left _ (List.mem_append_left _ (List.mem_append_right _ h)))))))))))
  have k17 : Cond.fieldLink RX11 17 "BarrowPlank" "now" "LBarrowPlank$Works;" ∈ wsX11_full := by decide +kernel
  have hTp0 := hTp
  have hNw0 := hNw
  obtain ⟨hnw, hkp, htr, hTq, hR0, hR1, hR2, hR3, hR4, hN, hKp, hTr, hTrd, hTl⟩ := hTp
  obtain ⟨hA, hBb, hmen, hme, a, hsR, hst, hsi, hfa⟩ := hNw
  have h38 := hb.2.2.2.2.1
  have h0 := hb.1
  refine lv_aload_n X.1 X.2.1 dX11_full_0 rfl (lv_at hl 0 rfl) ?_
  refine g_getr 13 0 X hK hP hTq rfl hinRX11 rfl (by decide) k17 (fun _ h => h) dX11_full_1 (show va_rf (R q 0) = .ref nw from by rw [hR0]; rfl) ?_
  refine lv_iload_n X.1 X.2.1 dX11_full_4 rfl (lv_at hl 1 rfl) ?_
  refine g_run_q (f := fun u => u) (g_runV (k := 12) [.int v] X hK hP hS hC hB (d_find_n (σ := σ) hN (hA.2.2.1) h38 hno) (cwV 1 X.2.2.2.2 gX11_full_X10_find rfl rfl rfl (by decide +kernel) ⟨Nat.le_of_ble_eq_true rfl, Nat.le_of_ble_eq_true rfl⟩) hN.t0 rfl rfl hl.1 rfl (Nat.le_of_ble_eq_true rfl) dX11_full_5 (by exact ⟨Nat.zero_le _, Nat.zero_le _⟩)) hS (fun r u H locs hq hP hS => ?_)
  obtain ⟨rfl, rfl⟩ := hq
  have hP : gP D cy B z T I R H := hP
  refine lv_astore_nN (lv' := [(3, .null), (0, .ref q), (1, .int v), (2, .int x)]) X.1 X.2.1 dX11_full_8 rfl hl (by decide) rfl (fun ls hl => ?_)
  refine lv_aload_nN X.1 X.2.1 dX11_full_9 rfl (lv_at hl 0 rfl) ?_
  refine lv_ifnonnullN X.1 X.2.1 dX11_full_10 ?_
  refine lv_iconst (v := (-1)) X.1 X.2.1 dX11_full_13 (by decide) ?_
  exact g_iret (f := fun u => u) (z, T, I, R) X hr hlk hK hP hS dX11_full_14 ⟨rfl, rfl⟩

set_option maxHeartbeats 4000000 in
set_option maxRecDepth 100000 in
/-- t_full_b -/
theorem t_full_b (hTp : cTop q nw kp tr T R) (hNw : cNw q nw T I R σ fl ti sh) (hG : sGd fl ti sh) (hb : sBd σ K) {μ : Nat} (hμn : μ < σ 38) {x : Int32} (hbad : ¬ (0 ≤ x ∧ x ≤ 9999)) : Met l yX11_full wsX11_full ({ frames := 1, cells := 0, slots := 0, locals := 22 }) (va_Pc [.ref q, .int (nI μ), .int x] (gW0 s0 D cy B (z, T, I, R))) (va_Qi (fun r u => r = -2 ∧ (z, T, I, R) = u) (fun u t => gW1 D cy B u t) (gA B)) 0 0 (gA B) := by
  refine g_met (maxL := 8) (ret := (some .int)) (by decide) rfl (Nat.le_of_ble_eq_true rfl) (fun p e s m args below meth c ls X hr hlk hnm hK hP hC hS hl => ?_)
  have hl : lv_has ls 8 [(0, .ref q), (1, .int (nI μ)), (2, .int x)] := hl
  have hP : gP D cy B z T I R s.heap := hP
  have hB : B ≤ s.heap.size := by rw [hP.1]; exact hP.2.1
  have hinRX11 : ∀ w ∈ wsX110, w ∈ wsX11_full := fun _ h => List.mem_cons_of_mem _ (List.mem_append_left _ (List.mem_append_left _ (List.mem_append_left _ (List.mem_append_left _ (List.mem_append_left _ (List.mem_append_left _ (List.mem_append_left _ (List.mem_append_left _ (List.mem_append_left _ (List.mem_append_left _ (List.mem_append_right _ h)))))))))))
  have hin7 : ∀ κ, κ ≤ 6 → ∀ w ∈ mws κ, w ∈ wsX11_full := fun κ hκ => by
    rcases k7 hκ with rfl | rfl | rfl | rfl | rfl | rfl | rfl
    · exact fun _ h => List.mem_cons_of_mem _ (List.mem_append_left _ (List.mem_append_left _ (List.mem_append_left _ (List.mem_append_left _ (List.mem_append_left _ (List.mem_append_right _ h))))))
    · exact fun _ h => List.mem_cons_of_mem _ (List.mem_append_left _ (List.mem_append_left _ (List.mem_append_left _ (List.mem_append_left _ (List.mem_append_left _ (List.mem_append_left _ (List.mem_append_left _ (List.mem_append_right _ h))))))))
    · exact fun _ h => List.mem_cons_of_mem _ (List.mem_append_left _ (List.mem_append_right _ h))
    · exact fun _ h => List.mem_cons_of_mem _ (List.mem_append_left _ (List.mem_append_left _ (List.mem_append_left _ (List.mem_append_right _ h))))
    · exact fun _ h => List.mem_cons_of_mem _ (List.mem_append_left _ (List.mem_append_left _ (List.mem_append_left _ (List.mem_append_left _ (List.mem_append_left _ (List.mem_append_left _ (List.mem_append_right _ h)))))))
    · exact fun _ h => List.mem_cons_of_mem _ (List.mem_append_left _ (List.mem_append_left _ (List.mem_append_right _ h)))
    · exact fun _ h => List.mem_cons_of_mem _ (List.mem_append_left _ (List.mem_append_left _ (List.mem_append_left _ (List.mem_append_left _ (List.mem_append_right _ h)))))
  have k17 : Cond.fieldLink RX11 17 "BarrowPlank" "now" "LBarrowPlank$Works;" ∈ wsX11_full := by decide +kernel
  have hTp0 := hTp
  have hNw0 := hNw
  obtain ⟨hnw, hkp, htr, hTq, hR0, hR1, hR2, hR3, hR4, hN, hKp, hTr, hTrd, hTl⟩ := hTp
  obtain ⟨hA, hBb, hmen, hme, a, hsR, hst, hsi, hfa⟩ := hNw
  have h38 := hb.2.2.2.2.1
  have h0 := hb.1
  have hμ : μ < 4 := Nat.lt_of_lt_of_le hμn h38
  obtain ⟨b, hbm, hm, hb65⟩ := hmen μ hμn
  obtain ⟨hk6, hv9, hs20⟩ := hb.2.2.2.2.2.2.2.2.1 μ hμ
  have ht9 := hb.2.2.1 μ hμ
  refine lv_aload_n X.1 X.2.1 dX11_full_0 rfl (lv_at hl 0 rfl) ?_
  refine g_getr 13 0 X hK hP hTq rfl hinRX11 rfl (by decide) k17 (fun _ h => h) dX11_full_1 (show va_rf (R q 0) = .ref nw from by rw [hR0]; rfl) ?_
  refine lv_iload_n X.1 X.2.1 dX11_full_4 rfl (lv_at hl 1 rfl) ?_
  refine g_run_q (f := fun u => u) (g_runV (k := 12) [.int (nI μ)] X hK hP hS hC hB (d_find (σ := σ) hN (hA.2.2.1) h38 hμn hbm) (cwV 1 X.2.2.2.2 gX11_full_X10_find rfl rfl rfl (by decide +kernel) ⟨Nat.le_of_ble_eq_true rfl, Nat.le_of_ble_eq_true rfl⟩) hN.t0 rfl rfl hl.1 rfl (Nat.le_of_ble_eq_true rfl) dX11_full_5 (by exact ⟨Nat.zero_le _, Nat.zero_le _⟩)) hS (fun r u H locs hq hP hS => ?_)
  obtain ⟨rfl, rfl⟩ := hq
  have hP : gP D cy B z T I R H := hP
  refine lv_astore_n (lv' := [(3, .ref b), (0, .ref q), (1, .int (nI μ)), (2, .int x)]) X.1 X.2.1 dX11_full_8 rfl hl (by decide) rfl (fun ls hl => ?_)
  refine lv_aload_n X.1 X.2.1 dX11_full_9 rfl (lv_at hl 0 rfl) ?_
  refine lv_ifnonnull (tgt := 15) X.1 X.2.1 dX11_full_10 (by decide) ?_
  refine lv_iload_n X.1 X.2.1 dX11_full_15 rfl (lv_at hl 3 rfl) ?_
  refine lv_iconst (v := 0) X.1 X.2.1 dX11_full_16 (by decide) ?_
  refine lv_sipush (v := 9999) X.1 X.2.1 dX11_full_17 (by decide) ?_
  refine g_run_i (f := fun u => u) (g_runS [.int x, .int 0, .int 9999] X hK hP hS hC hB (d_outside) (va_cwS 3 X.2.2.2.2 gX11_full_X11_outside rfl rfl rfl (by decide +kernel) ⟨Nat.le_of_ble_eq_true rfl, Nat.le_of_ble_eq_true rfl⟩) rfl hl.1 rfl (Nat.le_of_ble_eq_true rfl) dX11_full_20 (by exact ⟨Nat.zero_le _, Nat.zero_le _⟩)) hS (fun r u H locs hq hP hS => ?_)
  obtain ⟨rfl, rfl⟩ := hq
  have hP : gP D cy B z T I R H := hP
  refine lv_if_eq (tgt := 29) X.1 X.2.1 dX11_full_23 (by decide) (fun c23 => ?_) (fun c23 => ?_)
  · exact absurd hbad (gt_0 c23)
  · refine lv_bipush (v := (-2)) X.1 X.2.1 dX11_full_26 (by decide) ?_
    exact g_iret (f := fun u => u) (z, T, I, R) X hr hlk hK hP hS dX11_full_28 ⟨rfl, rfl⟩

set_option maxHeartbeats 4000000 in
set_option maxRecDepth 100000 in
/-- t_full -/
theorem t_full (hTp : cTop q nw kp tr T R) (hNw : cNw q nw T I R σ fl ti sh) (hG : sGd fl ti sh) (hb : sBd σ K) (hcas : gCas s0) {μ : Nat} (hμn : μ < σ 38) {t : Nat} (ht : t ≤ 9999) (hKb : K ≤ 25000000) : Met l yX11_full wsX11_full ({ frames := 7, cells := 0, slots := 0, locals := 173 }) (va_Pc [.ref q, .int (nI μ), .int (nI t)] (gW0 s0 D cy B (z, T, I, R))) (va_Qi (fun r u => r = nI (sFb (sOv fl ti sh σ μ t) 19).1 ∧ ∃ I' R', u = (z, T, I', R') ∧ cQ q I I' R R') (fun u t => gW1 D cy B u t) (gA B)) 0 0 (gA B) := by
  refine g_met (maxL := 8) (ret := (some .int)) (by decide) rfl (Nat.le_of_ble_eq_true rfl) (fun p e s m args below meth c ls X hr hlk hnm hK hP hC hS hl => ?_)
  have hl : lv_has ls 8 [(0, .ref q), (1, .int (nI μ)), (2, .int (nI t))] := hl
  have hP : gP D cy B z T I R s.heap := hP
  have hB : B ≤ s.heap.size := by rw [hP.1]; exact hP.2.1
  have hinRX11 : ∀ w ∈ wsX110, w ∈ wsX11_full := fun _ h => List.mem_cons_of_mem _ (List.mem_append_left _ (List.mem_append_left _ (List.mem_append_left _ (List.mem_append_left _ (List.mem_append_left _ (List.mem_append_left _ (List.mem_append_left _ (List.mem_append_left _ (List.mem_append_left _ (List.mem_append_left _ (List.mem_append_right _ h)))))))))))
  have hin7 : ∀ κ, κ ≤ 6 → ∀ w ∈ mws κ, w ∈ wsX11_full := fun κ hκ => by
    rcases k7 hκ with rfl | rfl | rfl | rfl | rfl | rfl | rfl
    · exact fun _ h => List.mem_cons_of_mem _ (List.mem_append_left _ (List.mem_append_left _ (List.mem_append_left _ (List.mem_append_left _ (List.mem_append_left _ (List.mem_append_right _ h))))))
    · exact fun _ h => List.mem_cons_of_mem _ (List.mem_append_left _ (List.mem_append_left _ (List.mem_append_left _ (List.mem_append_left _ (List.mem_append_left _ (List.mem_append_left _ (List.mem_append_left _ (List.mem_append_right _ h))))))))
    · exact fun _ h => List.mem_cons_of_mem _ (List.mem_append_left _ (List.mem_append_right _ h))
    · exact fun _ h => List.mem_cons_of_mem _ (List.mem_append_left _ (List.mem_append_left _ (List.mem_append_left _ (List.mem_append_right _ h))))
    · exact fun _ h => List.mem_cons_of_mem _ (List.mem_append_left _ (List.mem_append_left _ (List.mem_append_left _ (List.mem_append_left _ (List.mem_append_left _ (List.mem_append_left _ (List.mem_append_right _ h)))))))
    · exact fun _ h => List.mem_cons_of_mem _ (List.mem_append_left _ (List.mem_append_left _ (List.mem_append_right _ h)))
    · exact fun _ h => List.mem_cons_of_mem _ (List.mem_append_left _ (List.mem_append_left _ (List.mem_append_left _ (List.mem_append_left _ (List.mem_append_right _ h)))))
  have k17 : Cond.fieldLink RX11 17 "BarrowPlank" "now" "LBarrowPlank$Works;" ∈ wsX11_full := by decide +kernel
  have hTp0 := hTp
  have hNw0 := hNw
  obtain ⟨hnw, hkp, htr, hTq, hR0, hR1, hR2, hR3, hR4, hN, hKp, hTr, hTrd, hTl⟩ := hTp
  obtain ⟨hA, hBb, hmen, hme, a, hsR, hst, hsi, hfa⟩ := hNw
  have h38 := hb.2.2.2.2.1
  have h0 := hb.1
  have hμ : μ < 4 := Nat.lt_of_lt_of_le hμn h38
  obtain ⟨b, hbm, hm, hb65⟩ := hmen μ hμn
  obtain ⟨hk6, hv9, hs20⟩ := hb.2.2.2.2.2.2.2.2.1 μ hμ
  have ht9 := hb.2.2.1 μ hμ
  refine lv_aload_n X.1 X.2.1 dX11_full_0 rfl (lv_at hl 0 rfl) ?_
  refine g_getr 13 0 X hK hP hTq rfl hinRX11 rfl (by decide) k17 (fun _ h => h) dX11_full_1 (show va_rf (R q 0) = .ref nw from by rw [hR0]; rfl) ?_
  refine lv_iload_n X.1 X.2.1 dX11_full_4 rfl (lv_at hl 1 rfl) ?_
  refine g_run_q (f := fun u => u) (g_runV (k := 12) [.int (nI μ)] X hK hP hS hC hB (d_find (σ := σ) hN (hA.2.2.1) h38 hμn hbm) (cwV 1 X.2.2.2.2 gX11_full_X10_find rfl rfl rfl (by decide +kernel) ⟨Nat.le_of_ble_eq_true rfl, Nat.le_of_ble_eq_true rfl⟩) hN.t0 rfl rfl hl.1 rfl (Nat.le_of_ble_eq_true rfl) dX11_full_5 (by exact ⟨Nat.zero_le _, Nat.zero_le _⟩)) hS (fun r u H locs hq hP hS => ?_)
  obtain ⟨rfl, rfl⟩ := hq
  have hP : gP D cy B z T I R H := hP
  refine lv_astore_n (lv' := [(3, .ref b), (0, .ref q), (1, .int (nI μ)), (2, .int (nI t))]) X.1 X.2.1 dX11_full_8 rfl hl (by decide) rfl (fun ls hl => ?_)
  refine lv_aload_n X.1 X.2.1 dX11_full_9 rfl (lv_at hl 0 rfl) ?_
  refine lv_ifnonnull (tgt := 15) X.1 X.2.1 dX11_full_10 (by decide) ?_
  refine lv_iload_n X.1 X.2.1 dX11_full_15 rfl (lv_at hl 3 rfl) ?_
  refine lv_iconst (v := 0) X.1 X.2.1 dX11_full_16 (by decide) ?_
  refine lv_sipush (v := 9999) X.1 X.2.1 dX11_full_17 (by decide) ?_
  refine g_run_i (f := fun u => u) (g_runS [.int (nI t), .int 0, .int 9999] X hK hP hS hC hB (d_outside) (va_cwS 3 X.2.2.2.2 gX11_full_X11_outside rfl rfl rfl (by decide +kernel) ⟨Nat.le_of_ble_eq_true rfl, Nat.le_of_ble_eq_true rfl⟩) rfl hl.1 rfl (Nat.le_of_ble_eq_true rfl) dX11_full_20 (by exact ⟨Nat.zero_le _, Nat.zero_le _⟩)) hS (fun r u H locs hq hP hS => ?_)
  obtain ⟨rfl, rfl⟩ := hq
  have hP : gP D cy B z T I R H := hP
  refine lv_if_eq (tgt := 29) X.1 X.2.1 dX11_full_23 (by decide) (fun c23 => ?_) (fun c23 => ?_)
  · refine lv_iconst (v := 1) X.1 X.2.1 dX11_full_29 (by decide) ?_
    refine lv_istore (lv' := [(4, .int 1), (3, .ref b), (0, .ref q), (1, .int (nI μ)), (2, .int (nI t))]) X.1 X.2.1 dX11_full_30 hl (by decide) rfl (fun ls hl => ?_)
    refine lv_aload_n X.1 X.2.1 dX11_full_32 rfl (lv_at hl 2 rfl) ?_
    refine lv_aload_n X.1 X.2.1 dX11_full_33 rfl (lv_at hl 1 rfl) ?_
    refine lv_iconst (v := 1) X.1 X.2.1 dX11_full_34 (by decide) ?_
    refine lv_iload_n X.1 X.2.1 dX11_full_35 rfl (lv_at hl 4 rfl) ?_
    refine g_run_i (f := fun u => u) (g_runV (k := 13) [.ref b, .int 1, .int (nI t)] X hK hP hS hC hB (t_overBy (ld := 1) hTp0 hNw0 hG hb hcas hμ hμn hm hb65 (by omega) ht hKb) (cwV 3 X.2.2.2.2 gX11_full_X11_overBy rfl rfl rfl (by decide +kernel) ⟨Nat.le_of_ble_eq_true rfl, Nat.le_of_ble_eq_true rfl⟩) hTq rfl rfl hl.1 rfl (Nat.le_of_ble_eq_true rfl) dX11_full_36 (by exact ⟨Nat.zero_le _, Nat.zero_le _⟩)) hS (fun r u H locs hq hP hS => ?_)
    obtain ⟨rfl, IV1, RV1, rfl, hQV1⟩ := hq
    have hP : gP D cy B z T IV1 RV1 H := hP
    have hfV1 := hQV1.1
    have hgV1 := hQV1.2
    refine lv_istore (lv' := [(5, .int (nI (sOv fl ti sh σ μ t 1))), (4, .int 1), (3, .ref b), (0, .ref q), (1, .int (nI μ)), (2, .int (nI t))]) X.1 X.2.1 dX11_full_39 hl (by decide) rfl (fun ls hl => ?_)
    refine lv_iconst (v := 2) X.1 X.2.1 dX11_full_41 (by decide) ?_
    refine lv_istore (lv' := [(6, .int 2), (5, .int (nI (sOv fl ti sh σ μ t 1))), (4, .int 1), (3, .ref b), (0, .ref q), (1, .int (nI μ)), (2, .int (nI t))]) X.1 X.2.1 dX11_full_42 hl (by decide) rfl (fun ls hl => ?_)
    have hov9 := sOv_le (fl := fl) (ti := ti) (sh := sh) hb μ t
    refine ir_loop (I := IV1) (R := RV1) 19 44 [] (fun k Jz Rz ls => cQ q I Jz R Rz ∧ lv_has ls 8 [(0, .ref q), (1, .int (nI μ)), (2, .int (nI t)), (3, .ref b), (4, .int (nI ((sFb (sOv fl ti sh σ μ t) k).1))), (5, .int (nI ((sFb (sOv fl ti sh σ μ t) k).2))), (6, .int (nI (k + 2)))]) 0 (by omega) ⟨hQV1, lv_sub hl [4, 5, 6, 3, 2, 1, 0] rfl⟩ hP hS (fun k Jz Rz H locs ls hk hiv hP hS ih => ?_)
    obtain ⟨hQ9, hl⟩ := hiv
    have hTp9 := hTp0.fr hQ9.2
    have hNw9 := hNw0.fr (by omega) (by omega) hQ9
    have hm9 : cMn T Jz σ μ b := hm.k (fun j => hQ9.1 b j (by unfold qF; omega))
    have hsf := sFb_le hov9 k
    have hs2 := hov9 (k + 2)
    refine lv_iload X.1 X.2.1 dX11_full_44 (lv_at hl 6 rfl) ?_
    refine lv_bipush (v := 20) X.1 X.2.1 dX11_full_46 (by decide) ?_
    refine lv_icmp_gt (tgt := 82) X.1 X.2.1 dX11_full_48 (by decide) (fun c48 => ?_) (fun c48 => ?_)
    · have n48 : 20 < (k + 2) := gq_lt c48 (show (20 : Int32) = nI 20 from rfl) (Eq.refl (nI (k + 2))) (by omega) (by omega)
      refine lv_iload X.1 X.2.1 dX11_full_82 (lv_at hl 4 rfl) ?_
      exact g_iret (f := fun u => u) (z, T, Jz, Rz) X hr hlk hK hP hS dX11_full_84 ⟨(by rw [show k = 19 by omega]), Jz, Rz, rfl, hQ9⟩
    · have n48 : (k + 2) ≤ 20 := gq_nlt c48 (show (20 : Int32) = nI 20 from rfl) (Eq.refl (nI (k + 2))) (by omega) (by omega)
      refine lv_aload_n X.1 X.2.1 dX11_full_51 rfl (lv_at hl 0 rfl) ?_
      refine lv_aload_n X.1 X.2.1 dX11_full_52 rfl (lv_at hl 3 rfl) ?_
      refine lv_iload X.1 X.2.1 dX11_full_53 (lv_at hl 6 rfl) ?_
      refine lv_iload_n X.1 X.2.1 dX11_full_55 rfl (lv_at hl 2 rfl) ?_
      refine g_run_i (f := fun u => u) (g_runV (k := 13) [.ref b, .int (nI (k + 2)), .int (nI t)] X hK hP hS hC hB (t_overBy (ld := (k + 2)) hTp9 hNw9 hG hb hcas hμ hμn hm9 hb65 (by omega) ht hKb) (cwV 3 X.2.2.2.2 gX11_full_X11_overBy rfl rfl rfl (by decide +kernel) ⟨Nat.le_of_ble_eq_true rfl, Nat.le_of_ble_eq_true rfl⟩) hTq rfl rfl hl.1 rfl (Nat.le_of_ble_eq_true rfl) dX11_full_56 (by exact ⟨Nat.zero_le _, Nat.zero_le _⟩)) hS (fun r u H locs hq hP hS => ?_)
      obtain ⟨rfl, IV2, RV2, rfl, hQV2⟩ := hq
      have hP : gP D cy B z T IV2 RV2 H := hP
      have hfV2 := hQV2.1
      have hgV2 := hQV2.2
      refine lv_istore (lv' := [(7, .int (nI (sOv fl ti sh σ μ t (k + 2)))), (0, .ref q), (1, .int (nI μ)), (2, .int (nI t)), (3, .ref b), (4, .int (nI ((sFb (sOv fl ti sh σ μ t) k).1))), (5, .int (nI ((sFb (sOv fl ti sh σ μ t) k).2))), (6, .int (nI (k + 2)))]) X.1 X.2.1 dX11_full_59 hl (by decide) rfl (fun ls hl => ?_)
      refine lv_iload X.1 X.2.1 dX11_full_61 (lv_at hl 0 rfl) ?_
      refine lv_iload X.1 X.2.1 dX11_full_63 (lv_at hl 6 rfl) ?_
      refine lv_icmp_le (tgt := 76) X.1 X.2.1 dX11_full_65 (by decide) (fun c65 => ?_) (fun c65 => ?_)
      · have n65 : (sOv fl ti sh σ μ t (k + 2)) ≤ (sFb (sOv fl ti sh σ μ t) k).2 := gq_le c65 (Eq.refl (nI (sOv fl ti sh σ μ t (k + 2)))) (Eq.refl (nI ((sFb (sOv fl ti sh σ μ t) k).2))) (by omega) (by omega)
        refine lv_iinc (v := nI ((k + 2) + 1)) (lv' := [(6, .int (nI ((k + 2) + 1))), (7, .int (nI (sOv fl ti sh σ μ t (k + 2)))), (0, .ref q), (1, .int (nI μ)), (2, .int (nI t)), (3, .ref b), (4, .int (nI ((sFb (sOv fl ti sh σ μ t) k).1))), (5, .int (nI ((sFb (sOv fl ti sh σ μ t) k).2)))]) X.1 X.2.1 dX11_full_76 hl (k := 7) rfl (gn_inc (Eq.refl (nI (k + 2))) 1) (by decide) rfl (fun ls hl => ?_)
        refine lv_goto (tgt := 44) X.1 X.2.1 dX11_full_79 (by decide) ?_
        have e9 : sFb (sOv fl ti sh σ μ t) (k + 1) = sFb (sOv fl ti sh σ μ t) k := if_neg (by omega)
        exact ih _ _ _ _ _ (by omega) ⟨hQ9.trs hQV2, (by rw [e9]; exact lv_sub hl [2, 3, 4, 5, 6, 7, 0] rfl)⟩ hP hS
      · have n65 : (sFb (sOv fl ti sh σ μ t) k).2 < (sOv fl ti sh σ μ t (k + 2)) := gq_nle c65 (Eq.refl (nI (sOv fl ti sh σ μ t (k + 2)))) (Eq.refl (nI ((sFb (sOv fl ti sh σ μ t) k).2))) (by omega) (by omega)
        refine lv_iload X.1 X.2.1 dX11_full_68 (lv_at hl 0 rfl) ?_
        refine lv_istore (lv' := [(5, .int (nI (sOv fl ti sh σ μ t (k + 2)))), (7, .int (nI (sOv fl ti sh σ μ t (k + 2)))), (0, .ref q), (1, .int (nI μ)), (2, .int (nI t)), (3, .ref b), (4, .int (nI ((sFb (sOv fl ti sh σ μ t) k).1))), (6, .int (nI (k + 2)))]) X.1 X.2.1 dX11_full_70 hl (by decide) rfl (fun ls hl => ?_)
        refine lv_iload X.1 X.2.1 dX11_full_72 (lv_at hl 7 rfl) ?_
        refine lv_istore (lv' := [(4, .int (nI (k + 2))), (5, .int (nI (sOv fl ti sh σ μ t (k + 2)))), (7, .int (nI (sOv fl ti sh σ μ t (k + 2)))), (0, .ref q), (1, .int (nI μ)), (2, .int (nI t)), (3, .ref b), (6, .int (nI (k + 2)))]) X.1 X.2.1 dX11_full_74 hl (by decide) rfl (fun ls hl => ?_)
        refine lv_iinc (v := nI ((k + 2) + 1)) (lv' := [(6, .int (nI ((k + 2) + 1))), (4, .int (nI (k + 2))), (5, .int (nI (sOv fl ti sh σ μ t (k + 2)))), (7, .int (nI (sOv fl ti sh σ μ t (k + 2)))), (0, .ref q), (1, .int (nI μ)), (2, .int (nI t)), (3, .ref b)]) X.1 X.2.1 dX11_full_76 hl (k := 7) rfl (gn_inc (Eq.refl (nI (k + 2))) 1) (by decide) rfl (fun ls hl => ?_)
        refine lv_goto (tgt := 44) X.1 X.2.1 dX11_full_79 (by decide) ?_
        have e9 : sFb (sOv fl ti sh σ μ t) (k + 1) = (k + 2, sOv fl ti sh σ μ t (k + 2)) := if_pos (by omega)
        exact ih _ _ _ _ _ (by omega) ⟨hQ9.trs hQV2, (by rw [e9]; exact lv_sub hl [4, 5, 6, 7, 1, 2, 0] rfl)⟩ hP hS
  · exact absurd (g_le (a := 0) (b := 9999) (x := 0) (y := 9999) rfl rfl (by omega) (by omega) (by omega)) (gt_1 c23)

set_option maxHeartbeats 4000000 in
set_option maxRecDepth 100000 in
/-- t_run_n -/
theorem t_run_n (hTp : cTop q nw kp tr T R) (hNw : cNw q nw T I R σ fl ti sh) (hG : sGd fl ti sh) (hb : sBd σ K) {v w9 : Int32} (hno : ¬ (0 ≤ v ∧ v ≤ nI (σ 38) - 1)) (x y : Int32) : Met l yX11_run wsX11_run ({ frames := 1, cells := 0, slots := 0, locals := 21 }) (va_Pc [.ref q, .int v, .int x, .int y, .int w9] (gW0 s0 D cy B (z, T, I, R))) (va_Qi (fun r u => r = -1001 ∧ (z, T, I, R) = u) (fun u t => gW1 D cy B u t) (gA B)) 0 0 (gA B) := by
  refine g_met (maxL := 7) (ret := (some .int)) (by decide) rfl (Nat.le_of_ble_eq_true rfl) (fun p e s m args below meth c ls X hr hlk hnm hK hP hC hS hl => ?_)
  have hl : lv_has ls 7 [(0, .ref q), (1, .int v), (2, .int x), (3, .int y), (4, .int w9)] := hl
  have hP : gP D cy B z T I R s.heap := hP
  have hB : B ≤ s.heap.size := by rw [hP.1]; exact hP.2.1
  have hinRX11 : ∀ w ∈ wsX110, w ∈ wsX11_run := fun _ h => List.mem_cons_of_mem _ (List.mem_append_left _ (List.mem_append_left _ (List.mem_append_left _ (List.mem_append_left _ (List.mem_append_left _ (List.mem_append_left _ (List.mem_append_left _ (List.mem_append_left _ (List.mem_append_left _ (List.mem_append_left _ (List.mem_append_right _ h)))))))))))
  have k17 : Cond.fieldLink RX11 17 "BarrowPlank" "now" "LBarrowPlank$Works;" ∈ wsX11_run := by decide +kernel
  have k26 : Cond.fieldLink RX11 26 "BarrowPlank" "trial" "LBarrowPlank$Works;" ∈ wsX11_run := by decide +kernel
  have k80 : Cond.fieldLink RX11 80 "BarrowPlank$Works" "earth" "I" ∈ wsX11_run := by decide +kernel
  have k83 : Cond.fieldLink RX11 83 "BarrowPlank$Works" "over" "I" ∈ wsX11_run := by decide +kernel
  have k86 : Cond.fieldLink RX11 86 "BarrowPlank$Works" "second" "I" ∈ wsX11_run := by decide +kernel
  have k128 : Cond.fieldLink RX11 128 "BarrowPlank$Works" "tired" "[I" ∈ wsX11_run := by decide +kernel
  have k132 : Cond.fieldLink RX11 132 "BarrowPlank$Man" "number" "I" ∈ wsX11_run := by decide +kernel
  have hTp0 := hTp
  have hNw0 := hNw
  obtain ⟨hnw, hkp, htr, hTq, hR0, hR1, hR2, hR3, hR4, hN, hKp, hTr, hTrd, hTl⟩ := hTp
  obtain ⟨hA, hBb, hmen, hme, a, hsR, hst, hsi, hfa⟩ := hNw
  have h38 := hb.2.2.2.2.1
  have h0 := hb.1
  refine lv_aload_n X.1 X.2.1 dX11_run_0 rfl (lv_at hl 0 rfl) ?_
  refine g_getr 13 0 X hK hP hTq rfl hinRX11 rfl (by decide) k17 (fun _ h => h) dX11_run_1 (show va_rf (R q 0) = .ref nw from by rw [hR0]; rfl) ?_
  refine lv_iload_n X.1 X.2.1 dX11_run_4 rfl (lv_at hl 1 rfl) ?_
  refine g_run_q (f := fun u => u) (g_runV (k := 12) [.int v] X hK hP hS hC hB (d_find_n (σ := σ) hN (hA.2.2.1) h38 hno) (cwV 1 X.2.2.2.2 gX11_run_X10_find rfl rfl rfl (by decide +kernel) ⟨Nat.le_of_ble_eq_true rfl, Nat.le_of_ble_eq_true rfl⟩) hN.t0 rfl rfl hl.1 rfl (Nat.le_of_ble_eq_true rfl) dX11_run_5 (by exact ⟨Nat.zero_le _, Nat.zero_le _⟩)) hS (fun r u H locs hq hP hS => ?_)
  obtain ⟨rfl, rfl⟩ := hq
  have hP : gP D cy B z T I R H := hP
  refine lv_astoreN (lv' := [(5, .null), (0, .ref q), (1, .int v), (2, .int x), (3, .int y), (4, .int w9)]) X.1 X.2.1 dX11_run_8 hl (by decide) rfl (fun ls hl => ?_)
  refine lv_aloadN X.1 X.2.1 dX11_run_10 (lv_at hl 0 rfl) ?_
  refine lv_ifnullN (tgt := 25) X.1 X.2.1 dX11_run_12 (by decide) ?_
  refine lv_sipush (v := (-1001)) X.1 X.2.1 dX11_run_25 (by decide) ?_
  exact g_iret (f := fun u => u) (z, T, I, R) X hr hlk hK hP hS dX11_run_28 ⟨rfl, rfl⟩

set_option maxHeartbeats 4000000 in
set_option maxRecDepth 100000 in
/-- t_run_w -/
theorem t_run_w (hTp : cTop q nw kp tr T R) (hNw : cNw q nw T I R σ fl ti sh) (hG : sGd fl ti sh) (hb : sBd σ K) {μ : Nat} (hμn : μ < σ 38) {w9 : Int32} (hbad : ¬ (0 ≤ w9 ∧ w9 ≤ 3)) (x y : Int32) : Met l yX11_run wsX11_run ({ frames := 1, cells := 0, slots := 0, locals := 22 }) (va_Pc [.ref q, .int (nI μ), .int x, .int y, .int w9] (gW0 s0 D cy B (z, T, I, R))) (va_Qi (fun r u => r = -1001 ∧ (z, T, I, R) = u) (fun u t => gW1 D cy B u t) (gA B)) 0 0 (gA B) := by
  refine g_met (maxL := 7) (ret := (some .int)) (by decide) rfl (Nat.le_of_ble_eq_true rfl) (fun p e s m args below meth c ls X hr hlk hnm hK hP hC hS hl => ?_)
  have hl : lv_has ls 7 [(0, .ref q), (1, .int (nI μ)), (2, .int x), (3, .int y), (4, .int w9)] := hl
  have hP : gP D cy B z T I R s.heap := hP
  have hB : B ≤ s.heap.size := by rw [hP.1]; exact hP.2.1
  have hinRX11 : ∀ w ∈ wsX110, w ∈ wsX11_run := fun _ h => List.mem_cons_of_mem _ (List.mem_append_left _ (List.mem_append_left _ (List.mem_append_left _ (List.mem_append_left _ (List.mem_append_left _ (List.mem_append_left _ (List.mem_append_left _ (List.mem_append_left _ (List.mem_append_left _ (List.mem_append_left _ (List.mem_append_right _ h)))))))))))
  have hin7 : ∀ κ, κ ≤ 6 → ∀ w ∈ mws κ, w ∈ wsX11_run := fun κ hκ => by
    rcases k7 hκ with rfl | rfl | rfl | rfl | rfl | rfl | rfl
    · exact fun _ h => List.mem_cons_of_mem _ (List.mem_append_left _ (List.mem_append_left _ (List.mem_append_left _ (List.mem_append_left _ (List.mem_append_left _ (List.mem_append_left _ (List.mem_append_right _ h)))))))
    · exact fun _ h => List.mem_cons_of_mem _ (List.mem_append_left _ (List.mem_append_left _ (List.mem_append_left _ (List.mem_append_left _ (List.mem_append_left _ (List.mem_append_left _ (List.mem_append_left _ (List.mem_append_left _ (List.mem_append_right _ h)))))))))
    · exact fun _ h => List.mem_cons_of_mem _ (List.mem_append_left _ (List.mem_append_left _ (List.mem_append_right _ h)))
    · exact fun _ h => List.mem_cons_of_mem _ (List.mem_append_left _ (List.mem_append_left _ (List.mem_append_left _ (List.mem_append_left _ (List.mem_append_right _ h)))))
    · exact fun _ h => List.mem_cons_of_mem _ (List.mem_append_left _ (List.mem_append_left _ (List.mem_append_left _ (List.mem_append_left _ (List.mem_append_left _ (List.mem_append_left _ (List.mem_append_left _ (List.mem_append_right _ h))))))))
    · exact fun _ h => List.mem_cons_of_mem _ (List.mem_append_left _ (List.mem_append_left _ (List.mem_append_left _ (List.mem_append_right _ h))))
    · exact fun _ h => List.mem_cons_of_mem _ (List.mem_append_left _ (List.mem_append_left _ (List.mem_append_left _ (List.mem_append_left _ (List.mem_append_left _ (List.mem_append_right _ h))))))
  have k17 : Cond.fieldLink RX11 17 "BarrowPlank" "now" "LBarrowPlank$Works;" ∈ wsX11_run := by decide +kernel
  have k26 : Cond.fieldLink RX11 26 "BarrowPlank" "trial" "LBarrowPlank$Works;" ∈ wsX11_run := by decide +kernel
  have k80 : Cond.fieldLink RX11 80 "BarrowPlank$Works" "earth" "I" ∈ wsX11_run := by decide +kernel
  have k83 : Cond.fieldLink RX11 83 "BarrowPlank$Works" "over" "I" ∈ wsX11_run := by decide +kernel
  have k86 : Cond.fieldLink RX11 86 "BarrowPlank$Works" "second" "I" ∈ wsX11_run := by decide +kernel
  have k128 : Cond.fieldLink RX11 128 "BarrowPlank$Works" "tired" "[I" ∈ wsX11_run := by decide +kernel
  have k132 : Cond.fieldLink RX11 132 "BarrowPlank$Man" "number" "I" ∈ wsX11_run := by decide +kernel
  have hTp0 := hTp
  have hNw0 := hNw
  obtain ⟨hnw, hkp, htr, hTq, hR0, hR1, hR2, hR3, hR4, hN, hKp, hTr, hTrd, hTl⟩ := hTp
  obtain ⟨hA, hBb, hmen, hme, a, hsR, hst, hsi, hfa⟩ := hNw
  have h38 := hb.2.2.2.2.1
  have h0 := hb.1
  have hμ : μ < 4 := Nat.lt_of_lt_of_le hμn h38
  obtain ⟨b, hbm, hm, hb65⟩ := hmen μ hμn
  obtain ⟨hk6, hv9, hs20⟩ := hb.2.2.2.2.2.2.2.2.1 μ hμ
  have ht9 := hb.2.2.1 μ hμ
  refine lv_aload_n X.1 X.2.1 dX11_run_0 rfl (lv_at hl 0 rfl) ?_
  refine g_getr 13 0 X hK hP hTq rfl hinRX11 rfl (by decide) k17 (fun _ h => h) dX11_run_1 (show va_rf (R q 0) = .ref nw from by rw [hR0]; rfl) ?_
  refine lv_iload_n X.1 X.2.1 dX11_run_4 rfl (lv_at hl 1 rfl) ?_
  refine g_run_q (f := fun u => u) (g_runV (k := 12) [.int (nI μ)] X hK hP hS hC hB (d_find (σ := σ) hN (hA.2.2.1) h38 hμn hbm) (cwV 1 X.2.2.2.2 gX11_run_X10_find rfl rfl rfl (by decide +kernel) ⟨Nat.le_of_ble_eq_true rfl, Nat.le_of_ble_eq_true rfl⟩) hN.t0 rfl rfl hl.1 rfl (Nat.le_of_ble_eq_true rfl) dX11_run_5 (by exact ⟨Nat.zero_le _, Nat.zero_le _⟩)) hS (fun r u H locs hq hP hS => ?_)
  obtain ⟨rfl, rfl⟩ := hq
  have hP : gP D cy B z T I R H := hP
  refine lv_astore (lv' := [(5, .ref b), (0, .ref q), (1, .int (nI μ)), (2, .int x), (3, .int y), (4, .int w9)]) X.1 X.2.1 dX11_run_8 hl (by decide) rfl (fun ls hl => ?_)
  refine lv_aload X.1 X.2.1 dX11_run_10 (lv_at hl 0 rfl) ?_
  refine lv_ifnull X.1 X.2.1 dX11_run_12 ?_
  refine lv_iload X.1 X.2.1 dX11_run_15 (lv_at hl 5 rfl) ?_
  refine lv_iconst (v := 0) X.1 X.2.1 dX11_run_17 (by decide) ?_
  refine lv_iconst (v := 3) X.1 X.2.1 dX11_run_18 (by decide) ?_
  refine g_run_i (f := fun u => u) (g_runS [.int w9, .int 0, .int 3] X hK hP hS hC hB (d_outside) (va_cwS 3 X.2.2.2.2 gX11_run_X11_outside rfl rfl rfl (by decide +kernel) ⟨Nat.le_of_ble_eq_true rfl, Nat.le_of_ble_eq_true rfl⟩) rfl hl.1 rfl (Nat.le_of_ble_eq_true rfl) dX11_run_19 (by exact ⟨Nat.zero_le _, Nat.zero_le _⟩)) hS (fun r u H locs hq hP hS => ?_)
  obtain ⟨rfl, rfl⟩ := hq
  have hP : gP D cy B z T I R H := hP
  refine lv_if_eq (tgt := 29) X.1 X.2.1 dX11_run_22 (by decide) (fun c22 => ?_) (fun c22 => ?_)
  · exact absurd hbad (gt_0 c22)
  · refine lv_sipush (v := (-1001)) X.1 X.2.1 dX11_run_25 (by decide) ?_
    exact g_iret (f := fun u => u) (z, T, I, R) X hr hlk hK hP hS dX11_run_28 ⟨rfl, rfl⟩

set_option maxHeartbeats 4000000 in
set_option maxRecDepth 100000 in
/-- t_run_b -/
theorem t_run_b (hTp : cTop q nw kp tr T R) (hNw : cNw q nw T I R σ fl ti sh) (hG : sGd fl ti sh) (hb : sBd σ K) {μ : Nat} (hμn : μ < σ 38) {w9 : Nat} (hw9 : w9 ≤ 3) {x y : Int32} (hbad : ¬ ((0 ≤ x ∧ x ≤ 30) ∧ (1 ≤ y ∧ y ≤ 20))) : Met l yX11_run wsX11_run ({ frames := 2, cells := 0, slots := 0, locals := 42 }) (va_Pc [.ref q, .int (nI μ), .int x, .int y, .int (nI w9)] (gW0 s0 D cy B (z, T, I, R))) (va_Qi (fun r u => r = -1002 ∧ (z, T, I, R) = u) (fun u t => gW1 D cy B u t) (gA B)) 0 0 (gA B) := by
  refine g_met (maxL := 7) (ret := (some .int)) (by decide) rfl (Nat.le_of_ble_eq_true rfl) (fun p e s m args below meth c ls X hr hlk hnm hK hP hC hS hl => ?_)
  have hl : lv_has ls 7 [(0, .ref q), (1, .int (nI μ)), (2, .int x), (3, .int y), (4, .int (nI w9))] := hl
  have hP : gP D cy B z T I R s.heap := hP
  have hB : B ≤ s.heap.size := by rw [hP.1]; exact hP.2.1
  have hinRX11 : ∀ w ∈ wsX110, w ∈ wsX11_run := fun _ h => List.mem_cons_of_mem _ (List.mem_append_left _ (List.mem_append_left _ (List.mem_append_left _ (List.mem_append_left _ (List.mem_append_left _ (List.mem_append_left _ (List.mem_append_left _ (List.mem_append_left _ (List.mem_append_left _ (List.mem_append_left _ (List.mem_append_right _ h)))))))))))
  have hin7 : ∀ κ, κ ≤ 6 → ∀ w ∈ mws κ, w ∈ wsX11_run := fun κ hκ => by
    rcases k7 hκ with rfl | rfl | rfl | rfl | rfl | rfl | rfl
    · exact fun _ h => List.mem_cons_of_mem _ (List.mem_append_left _ (List.mem_append_left _ (List.mem_append_left _ (List.mem_append_left _ (List.mem_append_left _ (List.mem_append_left _ (List.mem_append_right _ h)))))))
    · exact fun _ h => List.mem_cons_of_mem _ (List.mem_append_left _ (List.mem_append_left _ (List.mem_append_left _ (List.mem_append_left _ (List.mem_append_left _ (List.mem_append_left _ (List.mem_append_left _ (List.mem_append_left _ (List.mem_append_right _ h)))))))))
    · exact fun _ h => List.mem_cons_of_mem _ (List.mem_append_left _ (List.mem_append_left _ (List.mem_append_right _ h)))
    · exact fun _ h => List.mem_cons_of_mem _ (List.mem_append_left _ (List.mem_append_left _ (List.mem_append_left _ (List.mem_append_left _ (List.mem_append_right _ h)))))
    · exact fun _ h => List.mem_cons_of_mem _ (List.mem_append_left _ (List.mem_append_left _ (List.mem_append_left _ (List.mem_append_left _ (List.mem_append_left _ (List.mem_append_left _ (List.mem_append_left _ (List.mem_append_right _ h))))))))
    · exact fun _ h => List.mem_cons_of_mem _ (List.mem_append_left _ (List.mem_append_left _ (List.mem_append_left _ (List.mem_append_right _ h))))
    · exact fun _ h => List.mem_cons_of_mem _ (List.mem_append_left _ (List.mem_append_left _ (List.mem_append_left _ (List.mem_append_left _ (List.mem_append_left _ (List.mem_append_right _ h))))))
  have k17 : Cond.fieldLink RX11 17 "BarrowPlank" "now" "LBarrowPlank$Works;" ∈ wsX11_run := by decide +kernel
  have k26 : Cond.fieldLink RX11 26 "BarrowPlank" "trial" "LBarrowPlank$Works;" ∈ wsX11_run := by decide +kernel
  have k80 : Cond.fieldLink RX11 80 "BarrowPlank$Works" "earth" "I" ∈ wsX11_run := by decide +kernel
  have k83 : Cond.fieldLink RX11 83 "BarrowPlank$Works" "over" "I" ∈ wsX11_run := by decide +kernel
  have k86 : Cond.fieldLink RX11 86 "BarrowPlank$Works" "second" "I" ∈ wsX11_run := by decide +kernel
  have k128 : Cond.fieldLink RX11 128 "BarrowPlank$Works" "tired" "[I" ∈ wsX11_run := by decide +kernel
  have k132 : Cond.fieldLink RX11 132 "BarrowPlank$Man" "number" "I" ∈ wsX11_run := by decide +kernel
  have hTp0 := hTp
  have hNw0 := hNw
  obtain ⟨hnw, hkp, htr, hTq, hR0, hR1, hR2, hR3, hR4, hN, hKp, hTr, hTrd, hTl⟩ := hTp
  obtain ⟨hA, hBb, hmen, hme, a, hsR, hst, hsi, hfa⟩ := hNw
  have h38 := hb.2.2.2.2.1
  have h0 := hb.1
  have hμ : μ < 4 := Nat.lt_of_lt_of_le hμn h38
  obtain ⟨b, hbm, hm, hb65⟩ := hmen μ hμn
  obtain ⟨hk6, hv9, hs20⟩ := hb.2.2.2.2.2.2.2.2.1 μ hμ
  have ht9 := hb.2.2.1 μ hμ
  refine lv_aload_n X.1 X.2.1 dX11_run_0 rfl (lv_at hl 0 rfl) ?_
  refine g_getr 13 0 X hK hP hTq rfl hinRX11 rfl (by decide) k17 (fun _ h => h) dX11_run_1 (show va_rf (R q 0) = .ref nw from by rw [hR0]; rfl) ?_
  refine lv_iload_n X.1 X.2.1 dX11_run_4 rfl (lv_at hl 1 rfl) ?_
  refine g_run_q (f := fun u => u) (g_runV (k := 12) [.int (nI μ)] X hK hP hS hC hB (d_find (σ := σ) hN (hA.2.2.1) h38 hμn hbm) (cwV 1 X.2.2.2.2 gX11_run_X10_find rfl rfl rfl (by decide +kernel) ⟨Nat.le_of_ble_eq_true rfl, Nat.le_of_ble_eq_true rfl⟩) hN.t0 rfl rfl hl.1 rfl (Nat.le_of_ble_eq_true rfl) dX11_run_5 (by exact ⟨Nat.zero_le _, Nat.zero_le _⟩)) hS (fun r u H locs hq hP hS => ?_)
  obtain ⟨rfl, rfl⟩ := hq
  have hP : gP D cy B z T I R H := hP
  refine lv_astore (lv' := [(5, .ref b), (0, .ref q), (1, .int (nI μ)), (2, .int x), (3, .int y), (4, .int (nI w9))]) X.1 X.2.1 dX11_run_8 hl (by decide) rfl (fun ls hl => ?_)
  refine lv_aload X.1 X.2.1 dX11_run_10 (lv_at hl 0 rfl) ?_
  refine lv_ifnull X.1 X.2.1 dX11_run_12 ?_
  refine lv_iload X.1 X.2.1 dX11_run_15 (lv_at hl 5 rfl) ?_
  refine lv_iconst (v := 0) X.1 X.2.1 dX11_run_17 (by decide) ?_
  refine lv_iconst (v := 3) X.1 X.2.1 dX11_run_18 (by decide) ?_
  refine g_run_i (f := fun u => u) (g_runS [.int (nI w9), .int 0, .int 3] X hK hP hS hC hB (d_outside) (va_cwS 3 X.2.2.2.2 gX11_run_X11_outside rfl rfl rfl (by decide +kernel) ⟨Nat.le_of_ble_eq_true rfl, Nat.le_of_ble_eq_true rfl⟩) rfl hl.1 rfl (Nat.le_of_ble_eq_true rfl) dX11_run_19 (by exact ⟨Nat.zero_le _, Nat.zero_le _⟩)) hS (fun r u H locs hq hP hS => ?_)
  obtain ⟨rfl, rfl⟩ := hq
  have hP : gP D cy B z T I R H := hP
  refine lv_if_eq (tgt := 29) X.1 X.2.1 dX11_run_22 (by decide) (fun c22 => ?_) (fun c22 => ?_)
  · refine lv_iload_n X.1 X.2.1 dX11_run_29 rfl (lv_at hl 3 rfl) ?_
    refine lv_iconst (v := 0) X.1 X.2.1 dX11_run_30 (by decide) ?_
    refine lv_bipush (v := 30) X.1 X.2.1 dX11_run_31 (by decide) ?_
    refine g_run_i (f := fun u => u) (g_runS [.int x, .int 0, .int 30] X hK hP hS hC hB (d_outside) (va_cwS 3 X.2.2.2.2 gX11_run_X11_outside rfl rfl rfl (by decide +kernel) ⟨Nat.le_of_ble_eq_true rfl, Nat.le_of_ble_eq_true rfl⟩) rfl hl.1 rfl (Nat.le_of_ble_eq_true rfl) dX11_run_33 (by exact ⟨Nat.zero_le _, Nat.zero_le _⟩)) hS (fun r u H locs hq hP hS => ?_)
    obtain ⟨rfl, rfl⟩ := hq
    have hP : gP D cy B z T I R H := hP
    refine lv_if_ne (tgt := 46) X.1 X.2.1 dX11_run_36 (by decide) (fun c36 => ?_) (fun c36 => ?_)
    · refine lv_sipush (v := (-1002)) X.1 X.2.1 dX11_run_46 (by decide) ?_
      exact g_iret (f := fun u => u) (z, T, I, R) X hr hlk hK hP hS dX11_run_49 ⟨rfl, rfl⟩
    · refine lv_iload_n X.1 X.2.1 dX11_run_39 rfl (lv_at hl 4 rfl) ?_
      refine g_run_i (f := fun u => u) (g_runS [.int y] X hK hP hS hC hB (d_badLoad) (va_cwS 1 X.2.2.2.2 gX11_run_X11_badLoad rfl rfl rfl (by decide +kernel) ⟨Nat.le_of_ble_eq_true rfl, Nat.le_of_ble_eq_true rfl⟩) rfl hl.1 rfl (Nat.le_of_ble_eq_true rfl) dX11_run_40 (by exact ⟨Nat.zero_le _, Nat.zero_le _⟩)) hS (fun r u H locs hq hP hS => ?_)
      obtain ⟨rfl, rfl⟩ := hq
      have hP : gP D cy B z T I R H := hP
      refine lv_if_eq (tgt := 50) X.1 X.2.1 dX11_run_43 (by decide) (fun c43 => ?_) (fun c43 => ?_)
      · exact absurd ⟨Classical.not_not.mp (gt_0 c36), Classical.not_not.mp (gt_0 c43)⟩ hbad
      · refine lv_sipush (v := (-1002)) X.1 X.2.1 dX11_run_46 (by decide) ?_
        exact g_iret (f := fun u => u) (z, T, I, R) X hr hlk hK hP hS dX11_run_49 ⟨rfl, rfl⟩
  · exact absurd (g_le (a := 0) (b := 3) (x := 0) (y := 3) rfl rfl (by omega) (by omega) (by omega)) (gt_1 c22)

set_option maxHeartbeats 4000000 in
set_option maxRecDepth 100000 in
/-- t_run_0 -/
theorem t_run_0 (hTp : cTop q nw kp tr T R) (hNw : cNw q nw T I R σ fl ti sh) (hG : sGd fl ti sh) (hb : sBd σ K) (hcas : gCas s0) {μ : Nat} (hμn : μ < σ 38) {n : Nat} (hn : n ≤ 30) {ld : Nat} (hl1 : 1 ≤ ld) (hld : ld ≤ 20) (hKb : K ≤ 25000000) : Met l yX11_run wsX11_run ({ frames := 5, cells := 0, slots := 0, locals := 124 }) (va_Pc [.ref q, .int (nI μ), .int (nI n), .int (nI ld), .int 0] (gW0 s0 D cy B (z, T, I, R))) (va_Qi (fun r u => r = nI (sRs 0 σ (sIt fl ti sh σ μ ld n)) ∧ ∃ I' R', u = (z, T, I', R') ∧ cQ q I I' R R') (fun u t => gW1 D cy B u t) (gA B)) 0 0 (gA B) := by
  refine g_met (maxL := 7) (ret := (some .int)) (by decide) rfl (Nat.le_of_ble_eq_true rfl) (fun p e s m args below meth c ls X hr hlk hnm hK hP hC hS hl => ?_)
  have hl : lv_has ls 7 [(0, .ref q), (1, .int (nI μ)), (2, .int (nI n)), (3, .int (nI ld)), (4, .int 0)] := hl
  have hP : gP D cy B z T I R s.heap := hP
  have hB : B ≤ s.heap.size := by rw [hP.1]; exact hP.2.1
  have hinRX10 : ∀ w ∈ wsX100, w ∈ wsX11_run := fun _ h => List.mem_cons_of_mem _ (List.mem_append_left _ (List.mem_append_left _ (List.mem_append_left _ (List.mem_append_left _ (List.mem_append_left _ (List.mem_append_left _ (List.mem_append_left _ (List.mem_append_left _ (List.mem_append_left _ (List.mem_append_right _ h))))))))))
  have hinRX11 : ∀ w ∈ wsX110, w ∈ wsX11_run := fun _ h => List.mem_cons_of_mem _ (List.mem_append_left _ (List.mem_append_left _ (List.mem_append_left _ (List.mem_append_left _ (List.mem_append_left _ (List.mem_append_left _ (List.mem_append_left _ (List.mem_append_left _ (List.mem_append_left _ (List.mem_append_left _ (List.mem_append_right _ h)))))))))))
  have hin7 : ∀ κ, κ ≤ 6 → ∀ w ∈ mws κ, w ∈ wsX11_run := fun κ hκ => by
    rcases k7 hκ with rfl | rfl | rfl | rfl | rfl | rfl | rfl
    · exact fun _ h => List.mem_cons_of_mem _ (List.mem_append_left _ (List.mem_append_left _ (List.mem_append_left _ (List.mem_append_left _ (List.mem_append_left _ (List.mem_append_left _ (List.mem_append_right _ h)))))))
    · exact fun _ h => List.mem_cons_of_mem _ (List.mem_append_left _ (List.mem_append_left _ (List.mem_append_left _ (List.mem_append_left _ (List.mem_append_left _ (List.mem_append_left _ (List.mem_append_left _ (List.mem_append_left _ (List.mem_append_right _ h)))))))))
    · exact fun _ h => List.mem_cons_of_mem _ (List.mem_append_left _ (List.mem_append_left _ (List.mem_append_right _ h)))
    · exact fun _ h => List.mem_cons_of_mem _ (List.mem_append_left _ (List.mem_append_left _ (List.mem_append_left _ (List.mem_append_left _ (List.mem_append_right _ h)))))
    · exact fun _ h => List.mem_cons_of_mem _ (List.mem_append_left _ (List.mem_append_left _ (List.mem_append_left _ (List.mem_append_left _ (List.mem_append_left _ (List.mem_append_left _ (List.mem_append_left _ (List.mem_append_right _ h))))))))
    · exact fun _ h => List.mem_cons_of_mem _ (List.mem_append_left _ (List.mem_append_left _ (List.mem_append_left _ (List.mem_append_right _ h))))
    · exact fun _ h => List.mem_cons_of_mem _ (List.mem_append_left _ (List.mem_append_left _ (List.mem_append_left _ (List.mem_append_left _ (List.mem_append_left _ (List.mem_append_right _ h))))))
  have k17 : Cond.fieldLink RX11 17 "BarrowPlank" "now" "LBarrowPlank$Works;" ∈ wsX11_run := by decide +kernel
  have k26 : Cond.fieldLink RX11 26 "BarrowPlank" "trial" "LBarrowPlank$Works;" ∈ wsX11_run := by decide +kernel
  have k80 : Cond.fieldLink RX11 80 "BarrowPlank$Works" "earth" "I" ∈ wsX11_run := by decide +kernel
  have k83 : Cond.fieldLink RX11 83 "BarrowPlank$Works" "over" "I" ∈ wsX11_run := by decide +kernel
  have k86 : Cond.fieldLink RX11 86 "BarrowPlank$Works" "second" "I" ∈ wsX11_run := by decide +kernel
  have k128 : Cond.fieldLink RX11 128 "BarrowPlank$Works" "tired" "[I" ∈ wsX11_run := by decide +kernel
  have k132 : Cond.fieldLink RX11 132 "BarrowPlank$Man" "number" "I" ∈ wsX11_run := by decide +kernel
  have hTp0 := hTp
  have hNw0 := hNw
  obtain ⟨hnw, hkp, htr, hTq, hR0, hR1, hR2, hR3, hR4, hN, hKp, hTr, hTrd, hTl⟩ := hTp
  obtain ⟨hA, hBb, hmen, hme, a, hsR, hst, hsi, hfa⟩ := hNw
  have h38 := hb.2.2.2.2.1
  have h0 := hb.1
  have hμ : μ < 4 := Nat.lt_of_lt_of_le hμn h38
  obtain ⟨b, hbm, hm, hb65⟩ := hmen μ hμn
  obtain ⟨hk6, hv9, hs20⟩ := hb.2.2.2.2.2.2.2.2.1 μ hμ
  have ht9 := hb.2.2.1 μ hμ
  refine lv_aload_n X.1 X.2.1 dX11_run_0 rfl (lv_at hl 0 rfl) ?_
  refine g_getr 13 0 X hK hP hTq rfl hinRX11 rfl (by decide) k17 (fun _ h => h) dX11_run_1 (show va_rf (R q 0) = .ref nw from by rw [hR0]; rfl) ?_
  refine lv_iload_n X.1 X.2.1 dX11_run_4 rfl (lv_at hl 1 rfl) ?_
  refine g_run_q (f := fun u => u) (g_runV (k := 12) [.int (nI μ)] X hK hP hS hC hB (d_find (σ := σ) hN (hA.2.2.1) h38 hμn hbm) (cwV 1 X.2.2.2.2 gX11_run_X10_find rfl rfl rfl (by decide +kernel) ⟨Nat.le_of_ble_eq_true rfl, Nat.le_of_ble_eq_true rfl⟩) hN.t0 rfl rfl hl.1 rfl (Nat.le_of_ble_eq_true rfl) dX11_run_5 (by exact ⟨Nat.zero_le _, Nat.zero_le _⟩)) hS (fun r u H locs hq hP hS => ?_)
  obtain ⟨rfl, rfl⟩ := hq
  have hP : gP D cy B z T I R H := hP
  refine lv_astore (lv' := [(5, .ref b), (0, .ref q), (1, .int (nI μ)), (2, .int (nI n)), (3, .int (nI ld)), (4, .int 0)]) X.1 X.2.1 dX11_run_8 hl (by decide) rfl (fun ls hl => ?_)
  refine lv_aload X.1 X.2.1 dX11_run_10 (lv_at hl 0 rfl) ?_
  refine lv_ifnull X.1 X.2.1 dX11_run_12 ?_
  refine lv_iload X.1 X.2.1 dX11_run_15 (lv_at hl 5 rfl) ?_
  refine lv_iconst (v := 0) X.1 X.2.1 dX11_run_17 (by decide) ?_
  refine lv_iconst (v := 3) X.1 X.2.1 dX11_run_18 (by decide) ?_
  refine g_run_i (f := fun u => u) (g_runS [.int 0, .int 0, .int 3] X hK hP hS hC hB (d_outside) (va_cwS 3 X.2.2.2.2 gX11_run_X11_outside rfl rfl rfl (by decide +kernel) ⟨Nat.le_of_ble_eq_true rfl, Nat.le_of_ble_eq_true rfl⟩) rfl hl.1 rfl (Nat.le_of_ble_eq_true rfl) dX11_run_19 (by exact ⟨Nat.zero_le _, Nat.zero_le _⟩)) hS (fun r u H locs hq hP hS => ?_)
  obtain ⟨rfl, rfl⟩ := hq
  have hP : gP D cy B z T I R H := hP
  refine lv_if_eq (tgt := 29) X.1 X.2.1 dX11_run_22 (by decide) (fun c22 => ?_) (fun c22 => ?_)
  · refine lv_iload_n X.1 X.2.1 dX11_run_29 rfl (lv_at hl 3 rfl) ?_
    refine lv_iconst (v := 0) X.1 X.2.1 dX11_run_30 (by decide) ?_
    refine lv_bipush (v := 30) X.1 X.2.1 dX11_run_31 (by decide) ?_
    refine g_run_i (f := fun u => u) (g_runS [.int (nI n), .int 0, .int 30] X hK hP hS hC hB (d_outside) (va_cwS 3 X.2.2.2.2 gX11_run_X11_outside rfl rfl rfl (by decide +kernel) ⟨Nat.le_of_ble_eq_true rfl, Nat.le_of_ble_eq_true rfl⟩) rfl hl.1 rfl (Nat.le_of_ble_eq_true rfl) dX11_run_33 (by exact ⟨Nat.zero_le _, Nat.zero_le _⟩)) hS (fun r u H locs hq hP hS => ?_)
    obtain ⟨rfl, rfl⟩ := hq
    have hP : gP D cy B z T I R H := hP
    refine lv_if_ne (tgt := 46) X.1 X.2.1 dX11_run_36 (by decide) (fun c36 => ?_) (fun c36 => ?_)
    · exact absurd (g_le (a := 0) (b := 30) (x := 0) (y := 30) rfl rfl (by omega) (by omega) (by omega)) (gt_1 c36)
    · refine lv_iload_n X.1 X.2.1 dX11_run_39 rfl (lv_at hl 4 rfl) ?_
      refine g_run_i (f := fun u => u) (g_runS [.int (nI ld)] X hK hP hS hC hB (d_badLoad) (va_cwS 1 X.2.2.2.2 gX11_run_X11_badLoad rfl rfl rfl (by decide +kernel) ⟨Nat.le_of_ble_eq_true rfl, Nat.le_of_ble_eq_true rfl⟩) rfl hl.1 rfl (Nat.le_of_ble_eq_true rfl) dX11_run_40 (by exact ⟨Nat.zero_le _, Nat.zero_le _⟩)) hS (fun r u H locs hq hP hS => ?_)
      obtain ⟨rfl, rfl⟩ := hq
      have hP : gP D cy B z T I R H := hP
      refine lv_if_eq (tgt := 50) X.1 X.2.1 dX11_run_43 (by decide) (fun c43 => ?_) (fun c43 => ?_)
      · refine lv_aload_n X.1 X.2.1 dX11_run_50 rfl (lv_at hl 1 rfl) ?_
        refine g_getr 13 2 X hK hP hTq rfl hinRX11 rfl (by decide) k26 (fun _ h => h) dX11_run_51 (show va_rf (R q 2) = .ref tr from by rw [hR2]; rfl) ?_
        refine lv_aload_n X.1 X.2.1 dX11_run_54 rfl (lv_at hl 1 rfl) ?_
        refine g_getr 13 0 X hK hP hTq rfl hinRX11 rfl (by decide) k17 (fun _ h => h) dX11_run_55 (show va_rf (R q 0) = .ref nw from by rw [hR0]; rfl) ?_
        refine g_run_v (f := fun u => u) (g_runV (k := 12) [.ref nw] X hK hP hS hC hB (d_take hTr hN (by omega) hA hme hsR hst.1 hcas) (cwV 1 X.2.2.2.2 gX11_run_X10_take rfl rfl rfl (by decide +kernel) ⟨Nat.le_of_ble_eq_true rfl, Nat.le_of_ble_eq_true rfl⟩) hTr.t0 rfl rfl hl.1 rfl (Nat.le_of_ble_eq_true rfl) dX11_run_58 (by exact ⟨Nat.zero_le _, Nat.zero_le _⟩)) hS (fun u H locs hq hP hS => ?_)
        obtain ⟨IK1, RK1, rfl, hAt, ⟨hm1K1, hm2K1⟩, hknK1, hfIK1, hfRK1⟩ := hq
        have hP : gP D cy B z T IK1 RK1 H := hP
        have hQK1 : cQ q I IK1 R RK1 := ⟨fun c j h => hfIK1 c j (by unfold qF at h; unfold tkW; omega), fun c j h => hfRK1 c j (by unfold qR at h; omega) (by unfold qR at h; omega)⟩
        have hfK1 := hQK1.1
        have hgK1 := hQK1.2
        have hTp := hTp0.fr hQK1.2
        obtain ⟨-, -, -, hTq, hR0, hR1, hR2, hR3, hR4, hN, hKp, hTr, hTrd, hTl⟩ := hTp
        have hA : cA nw IK1 σ := hA.k (fun c j h1 h2 => hfK1 c j (by unfold qF; omega))
        have hBb : cB nw IK1 σ := hBb.k (fun c j h1 h2 => hfK1 c j (by unfold qF; omega))
        have hm : cMn T IK1 σ μ b := hm.k (fun j => hfK1 b j (by unfold qF; omega))
        have hsR : RK1 nw 12 = some a := (hgK1 _ _ (by unfold qR; omega)).trans hsR
        have hst : cSt a T RK1 := hst.fr (fun j => hgK1 _ _ (by unfold qR; omega))
        have hsi : cSi a IK1 fl ti sh := hsi.k (fun c j g1 g2 => hfK1 c j (by unfold qF; omega))
        have hal : cAll tr b a μ T IK1 RK1 σ fl ti sh K := cAll.of (q := q) hTr hAt hm hb65 hfa hst hsi hm2K1 hG hb hμ hμn (by omega) (by omega)
        have hCt : cC tr IK1 fl σ := cC.fg (fun c h1 h2 => hknK1 c h1 h2)
        refine lv_iconst (v := 0) X.1 X.2.1 dX11_run_61 (by decide) ?_
        refine lv_istore (lv' := [(6, .int 0), (5, .ref b), (0, .ref q), (1, .int (nI μ)), (2, .int (nI n)), (3, .int (nI ld)), (4, .int 0)]) X.1 X.2.1 dX11_run_62 hl (by decide) rfl (fun ls hl => ?_)
        refine i_loop (I := IK1) n 64 [] (fun k Q9 ls => (cAll tr b a μ T Q9 RK1 (sIt fl ti sh σ μ ld k) fl ti sh (K + 300000 * k) ∧ cC tr Q9 fl (sIt fl ti sh σ μ ld k) ∧ ∀ c j, ¬ kW tr c j → Q9 c j = IK1 c j) ∧ lv_has ls 7 [(0, .ref q), (1, .int (nI μ)), (2, .int (nI n)), (3, .int (nI ld)), (4, .int 0), (5, .ref b), (6, .int (nI k))]) 0 (by omega) ⟨⟨hal, hCt, fun _ _ _ => rfl⟩, lv_sub hl [2, 3, 4, 5, 6, 1, 0] rfl⟩ hP hS (fun k Q9 H locs ls hk hiv hP hS ih => ?_)
        obtain ⟨⟨hal9, hcc9, hko9⟩, hl⟩ := hiv
        have hAt := hal9.2.1
        have hb9 := hal9.2.2.2.2.2.2.2.2.2.1
        have hse := sSe_le' hG hb9 hμ ld
        have hA : cA nw Q9 σ := hA.k (fun c j h1 h2 => hko9 c j (by unfold kW; omega))
        have hBb : cB nw Q9 σ := hBb.k (fun c j h1 h2 => hko9 c j (by unfold kW; omega))
        have hm : cMn T Q9 σ μ b := hm.k (fun j => hko9 b j (by unfold kW; omega))
        refine lv_iload X.1 X.2.1 dX11_run_64 (lv_at hl 6 rfl) ?_
        refine lv_iload_n X.1 X.2.1 dX11_run_66 rfl (lv_at hl 2 rfl) ?_
        refine lv_icmp_ge (tgt := 95) X.1 X.2.1 dX11_run_67 (by decide) (fun c67 => ?_) (fun c67 => ?_)
        · have n67 : n ≤ k := gq_le c67 (Eq.refl (nI n)) (Eq.refl (nI k)) (by omega) (by omega)
          have him := sIt_m (σ := σ) (fl := fl) (ti := ti) (sh := sh) (μ := μ) (ld := ld) k
          refine lv_aload_n X.1 X.2.1 dX11_run_95 rfl (lv_at hl 0 rfl) ?_
          refine g_getr 13 2 X hK hP hTq rfl hinRX11 rfl (by decide) k26 (fun _ h => h) dX11_run_96 (show va_rf (RK1 q 2) = .ref tr from by rw [hR2]; rfl) ?_
          refine g_geti 12 9 X hK hP hTr.t0 rfl hinRX10 rfl (by decide) k83 (fun _ h => h) dX11_run_99 (show Q9 tr 9 = nI (sIt fl ti sh σ μ ld k 1) from hAt.2.2.2.2.1) ?_
          refine lv_aload_n X.1 X.2.1 dX11_run_102 rfl (lv_at hl 0 rfl) ?_
          refine g_getr 13 0 X hK hP hTq rfl hinRX11 rfl (by decide) k17 (fun _ h => h) dX11_run_103 (show va_rf (RK1 q 0) = .ref nw from by rw [hR0]; rfl) ?_
          refine g_geti 12 9 X hK hP hN.t0 rfl hinRX10 rfl (by decide) k83 (fun _ h => h) dX11_run_106 (show Q9 nw 9 = nI (σ 1) from hA.2.2.2.2.1) ?_
          refine lv_isub X.1 X.2.1 dX11_run_109 ?_
          refine lv_istore (lv' := [(6, .int ((nI (sIt fl ti sh σ μ ld k 1)) - (nI (σ 1)))), (0, .ref q), (1, .int (nI μ)), (2, .int (nI n)), (3, .int (nI ld)), (4, .int 0), (5, .ref b)]) X.1 X.2.1 dX11_run_110 hl (by decide) rfl (fun ls hl => ?_)
          refine lv_iload X.1 X.2.1 dX11_run_112 (lv_at hl 5 rfl) ?_
          refine lv_tableIn (off := 26) (tgt := 140) X.1 X.2.1 dX11_run_114 (by decide) (by decide) (by decide) (by decide) ?_
          refine lv_iload X.1 X.2.1 dX11_run_140 (lv_at hl 0 rfl) ?_
          have hkn9 : k = n := by omega
          exact g_iret (f := fun u => u) (z, T, Q9, RK1) X hr hlk hK hP hS dX11_run_142 ⟨((gn_sub (Eq.refl (nI (sIt fl ti sh σ μ ld k 1))) (Eq.refl (nI (σ 1))) (by omega))).trans (by rw [hkn9]; rfl), Q9, RK1, rfl, hQK1.kw htr hko9⟩
        · have n67 : k < n := gq_nle c67 (Eq.refl (nI n)) (Eq.refl (nI k)) (by omega) (by omega)
          refine lv_aload_n X.1 X.2.1 dX11_run_70 rfl (lv_at hl 0 rfl) ?_
          refine g_getr 13 2 X hK hP hTq rfl hinRX11 rfl (by decide) k26 (fun _ h => h) dX11_run_71 (show va_rf (RK1 q 2) = .ref tr from by rw [hR2]; rfl) ?_
          refine lv_aload X.1 X.2.1 dX11_run_74 (lv_at hl 5 rfl) ?_
          refine lv_aload_n X.1 X.2.1 dX11_run_76 rfl (lv_at hl 0 rfl) ?_
          refine g_getr 13 2 X hK hP hTq rfl hinRX11 rfl (by decide) k26 (fun _ h => h) dX11_run_77 (show va_rf (RK1 q 2) = .ref tr from by rw [hR2]; rfl) ?_
          refine lv_aload X.1 X.2.1 dX11_run_80 (lv_at hl 5 rfl) ?_
          refine lv_iload_n X.1 X.2.1 dX11_run_82 rfl (lv_at hl 3 rfl) ?_
          refine g_run_q (f := fun u => u) (g_runV (k := 12) [.ref b, .int (nI ld)] X hK hP hS hC hB (d_plan hal9 hcc9 hld) (cwV 2 X.2.2.2.2 gX11_run_X10_plan rfl rfl rfl (by decide +kernel) ⟨Nat.le_of_ble_eq_true rfl, Nat.le_of_ble_eq_true rfl⟩) hTr.t0 rfl rfl hl.1 rfl (Nat.le_of_ble_eq_true rfl) dX11_run_83 (by exact ⟨Nat.zero_le _, Nat.zero_le _⟩)) hS (fun r u H locs hq hP hS => ?_)
          obtain ⟨hr9, IP2, rfl, htpP2, hccP2, hfrP2⟩ := hq
          subst hr9
          have hP : gP D cy B z T IP2 RK1 H := hP
          have hallP2 := hal9.k (I' := IP2) (fun c j h => hfrP2 c j (by omega))
          refine g_run_v (f := fun u => u) (g_runV (k := 12) [.ref b, .ref (tr + 11 + μ)] X hK hP hS hC hB (d_finish hallP2 hccP2 htpP2 (by omega)) (cwV 2 X.2.2.2.2 gX11_run_X10_finish rfl rfl rfl (by decide +kernel) ⟨Nat.le_of_ble_eq_true rfl, Nat.le_of_ble_eq_true rfl⟩) hTr.t0 rfl rfl hl.1 rfl (Nat.le_of_ble_eq_true rfl) dX11_run_86 (by exact ⟨Nat.zero_le _, Nat.zero_le _⟩)) hS (fun u H locs hq hP hS => ?_)
          obtain ⟨IG3, rfl, ⟨hAG3, hCG3⟩, hfG3⟩ := hq
          have hP : gP D cy B z T IG3 RK1 H := hP
          refine lv_iinc (v := nI (k + 1)) (lv' := [(6, .int (nI (k + 1))), (0, .ref q), (1, .int (nI μ)), (2, .int (nI n)), (3, .int (nI ld)), (4, .int 0), (5, .ref b)]) X.1 X.2.1 dX11_run_89 hl (k := 6) rfl (gn_inc (Eq.refl (nI k)) 1) (by decide) rfl (fun ls hl => ?_)
          refine lv_goto (tgt := 64) X.1 X.2.1 dX11_run_92 (by decide) ?_
          have hfG3x : ∀ c j, ¬ kW tr c j → IG3 c j = Q9 c j := fun c j h => (by unfold kW at h; exact (hfG3 c j (by omega) (by omega) (by omega) (by omega)).trans (hfrP2 c j (by omega)))
          exact ih _ _ _ _ (by omega) ⟨⟨(hal9.go hAG3 (fun i hi => sGo_18 hμ hi) (sBd_le (K' := K + 300000 * (k + 1)) (sBd_go' hG hb9 hμ ld) (by omega)) hfG3x), hCG3, fun c j h => (hfG3x c j h).trans (hko9 c j h)⟩, lv_sub hl [1, 2, 3, 4, 5, 6, 0] rfl⟩ hP hS
      · exact absurd (g_le (a := 1) (b := 20) (x := 1) (y := 20) rfl rfl (by omega) (by omega) (by omega)) (gt_1 c43)
  · exact absurd (by decide) (gt_1 c22)

set_option maxHeartbeats 4000000 in
set_option maxRecDepth 100000 in
/-- t_run_1 -/
theorem t_run_1 (hTp : cTop q nw kp tr T R) (hNw : cNw q nw T I R σ fl ti sh) (hG : sGd fl ti sh) (hb : sBd σ K) (hcas : gCas s0) {μ : Nat} (hμn : μ < σ 38) {n : Nat} (hn : n ≤ 30) {ld : Nat} (hl1 : 1 ≤ ld) (hld : ld ≤ 20) (hKb : K ≤ 25000000) : Met l yX11_run wsX11_run ({ frames := 5, cells := 0, slots := 0, locals := 124 }) (va_Pc [.ref q, .int (nI μ), .int (nI n), .int (nI ld), .int 1] (gW0 s0 D cy B (z, T, I, R))) (va_Qi (fun r u => r = nI (sRs 1 σ (sIt fl ti sh σ μ ld n)) ∧ ∃ I' R', u = (z, T, I', R') ∧ cQ q I I' R R') (fun u t => gW1 D cy B u t) (gA B)) 0 0 (gA B) := by
  refine g_met (maxL := 7) (ret := (some .int)) (by decide) rfl (Nat.le_of_ble_eq_true rfl) (fun p e s m args below meth c ls X hr hlk hnm hK hP hC hS hl => ?_)
  have hl : lv_has ls 7 [(0, .ref q), (1, .int (nI μ)), (2, .int (nI n)), (3, .int (nI ld)), (4, .int 1)] := hl
  have hP : gP D cy B z T I R s.heap := hP
  have hB : B ≤ s.heap.size := by rw [hP.1]; exact hP.2.1
  have hinRX10 : ∀ w ∈ wsX100, w ∈ wsX11_run := fun _ h => List.mem_cons_of_mem _ (List.mem_append_left _ (List.mem_append_left _ (List.mem_append_left _ (List.mem_append_left _ (List.mem_append_left _ (List.mem_append_left _ (List.mem_append_left _ (List.mem_append_left _ (List.mem_append_left _ (List.mem_append_right _ h))))))))))
  have hinRX11 : ∀ w ∈ wsX110, w ∈ wsX11_run := fun _ h => List.mem_cons_of_mem _ (List.mem_append_left _ (List.mem_append_left _ (List.mem_append_left _ (List.mem_append_left _ (List.mem_append_left _ (List.mem_append_left _ (List.mem_append_left _ (List.mem_append_left _ (List.mem_append_left _ (List.mem_append_left _ (List.mem_append_right _ h)))))))))))
  have hin7 : ∀ κ, κ ≤ 6 → ∀ w ∈ mws κ, w ∈ wsX11_run := fun κ hκ => by
    rcases k7 hκ with rfl | rfl | rfl | rfl | rfl | rfl | rfl
    · exact fun _ h => List.mem_cons_of_mem _ (List.mem_append_left _ (List.mem_append_left _ (List.mem_append_left _ (List.mem_append_left _ (List.mem_append_left _ (List.mem_append_left _ (List.mem_append_right _ h)))))))
    · exact fun _ h => List.mem_cons_of_mem _ (List.mem_append_left _ (List.mem_append_left _ (List.mem_append_left _ (List.mem_append_left _ (List.mem_append_left _ (List.mem_append_left _ (List.mem_append_left _ (List.mem_append_left _ (List.mem_append_right _ h)))))))))
    · exact fun _ h => List.mem_cons_of_mem _ (List.mem_append_left _ (List.mem_append_left _ (List.mem_append_right _ h)))
    · exact fun _ h => List.mem_cons_of_mem _ (List.mem_append_left _ (List.mem_append_left _ (List.mem_append_left _ (List.mem_append_left _ (List.mem_append_right _ h)))))
    · exact fun _ h => List.mem_cons_of_mem _ (List.mem_append_left _ (List.mem_append_left _ (List.mem_append_left _ (List.mem_append_left _ (List.mem_append_left _ (List.mem_append_left _ (List.mem_append_left _ (List.mem_append_right _ h))))))))
    · exact fun _ h => List.mem_cons_of_mem _ (List.mem_append_left _ (List.mem_append_left _ (List.mem_append_left _ (List.mem_append_right _ h))))
    · exact fun _ h => List.mem_cons_of_mem _ (List.mem_append_left _ (List.mem_append_left _ (List.mem_append_left _ (List.mem_append_left _ (List.mem_append_left _ (List.mem_append_right _ h))))))
  have k17 : Cond.fieldLink RX11 17 "BarrowPlank" "now" "LBarrowPlank$Works;" ∈ wsX11_run := by decide +kernel
  have k26 : Cond.fieldLink RX11 26 "BarrowPlank" "trial" "LBarrowPlank$Works;" ∈ wsX11_run := by decide +kernel
  have k80 : Cond.fieldLink RX11 80 "BarrowPlank$Works" "earth" "I" ∈ wsX11_run := by decide +kernel
  have k83 : Cond.fieldLink RX11 83 "BarrowPlank$Works" "over" "I" ∈ wsX11_run := by decide +kernel
  have k86 : Cond.fieldLink RX11 86 "BarrowPlank$Works" "second" "I" ∈ wsX11_run := by decide +kernel
  have k128 : Cond.fieldLink RX11 128 "BarrowPlank$Works" "tired" "[I" ∈ wsX11_run := by decide +kernel
  have k132 : Cond.fieldLink RX11 132 "BarrowPlank$Man" "number" "I" ∈ wsX11_run := by decide +kernel
  have hTp0 := hTp
  have hNw0 := hNw
  obtain ⟨hnw, hkp, htr, hTq, hR0, hR1, hR2, hR3, hR4, hN, hKp, hTr, hTrd, hTl⟩ := hTp
  obtain ⟨hA, hBb, hmen, hme, a, hsR, hst, hsi, hfa⟩ := hNw
  have h38 := hb.2.2.2.2.1
  have h0 := hb.1
  have hμ : μ < 4 := Nat.lt_of_lt_of_le hμn h38
  obtain ⟨b, hbm, hm, hb65⟩ := hmen μ hμn
  obtain ⟨hk6, hv9, hs20⟩ := hb.2.2.2.2.2.2.2.2.1 μ hμ
  have ht9 := hb.2.2.1 μ hμ
  refine lv_aload_n X.1 X.2.1 dX11_run_0 rfl (lv_at hl 0 rfl) ?_
  refine g_getr 13 0 X hK hP hTq rfl hinRX11 rfl (by decide) k17 (fun _ h => h) dX11_run_1 (show va_rf (R q 0) = .ref nw from by rw [hR0]; rfl) ?_
  refine lv_iload_n X.1 X.2.1 dX11_run_4 rfl (lv_at hl 1 rfl) ?_
  refine g_run_q (f := fun u => u) (g_runV (k := 12) [.int (nI μ)] X hK hP hS hC hB (d_find (σ := σ) hN (hA.2.2.1) h38 hμn hbm) (cwV 1 X.2.2.2.2 gX11_run_X10_find rfl rfl rfl (by decide +kernel) ⟨Nat.le_of_ble_eq_true rfl, Nat.le_of_ble_eq_true rfl⟩) hN.t0 rfl rfl hl.1 rfl (Nat.le_of_ble_eq_true rfl) dX11_run_5 (by exact ⟨Nat.zero_le _, Nat.zero_le _⟩)) hS (fun r u H locs hq hP hS => ?_)
  obtain ⟨rfl, rfl⟩ := hq
  have hP : gP D cy B z T I R H := hP
  refine lv_astore (lv' := [(5, .ref b), (0, .ref q), (1, .int (nI μ)), (2, .int (nI n)), (3, .int (nI ld)), (4, .int 1)]) X.1 X.2.1 dX11_run_8 hl (by decide) rfl (fun ls hl => ?_)
  refine lv_aload X.1 X.2.1 dX11_run_10 (lv_at hl 0 rfl) ?_
  refine lv_ifnull X.1 X.2.1 dX11_run_12 ?_
  refine lv_iload X.1 X.2.1 dX11_run_15 (lv_at hl 5 rfl) ?_
  refine lv_iconst (v := 0) X.1 X.2.1 dX11_run_17 (by decide) ?_
  refine lv_iconst (v := 3) X.1 X.2.1 dX11_run_18 (by decide) ?_
  refine g_run_i (f := fun u => u) (g_runS [.int 1, .int 0, .int 3] X hK hP hS hC hB (d_outside) (va_cwS 3 X.2.2.2.2 gX11_run_X11_outside rfl rfl rfl (by decide +kernel) ⟨Nat.le_of_ble_eq_true rfl, Nat.le_of_ble_eq_true rfl⟩) rfl hl.1 rfl (Nat.le_of_ble_eq_true rfl) dX11_run_19 (by exact ⟨Nat.zero_le _, Nat.zero_le _⟩)) hS (fun r u H locs hq hP hS => ?_)
  obtain ⟨rfl, rfl⟩ := hq
  have hP : gP D cy B z T I R H := hP
  refine lv_if_eq (tgt := 29) X.1 X.2.1 dX11_run_22 (by decide) (fun c22 => ?_) (fun c22 => ?_)
  · refine lv_iload_n X.1 X.2.1 dX11_run_29 rfl (lv_at hl 3 rfl) ?_
    refine lv_iconst (v := 0) X.1 X.2.1 dX11_run_30 (by decide) ?_
    refine lv_bipush (v := 30) X.1 X.2.1 dX11_run_31 (by decide) ?_
    refine g_run_i (f := fun u => u) (g_runS [.int (nI n), .int 0, .int 30] X hK hP hS hC hB (d_outside) (va_cwS 3 X.2.2.2.2 gX11_run_X11_outside rfl rfl rfl (by decide +kernel) ⟨Nat.le_of_ble_eq_true rfl, Nat.le_of_ble_eq_true rfl⟩) rfl hl.1 rfl (Nat.le_of_ble_eq_true rfl) dX11_run_33 (by exact ⟨Nat.zero_le _, Nat.zero_le _⟩)) hS (fun r u H locs hq hP hS => ?_)
    obtain ⟨rfl, rfl⟩ := hq
    have hP : gP D cy B z T I R H := hP
    refine lv_if_ne (tgt := 46) X.1 X.2.1 dX11_run_36 (by decide) (fun c36 => ?_) (fun c36 => ?_)
    · exact absurd (g_le (a := 0) (b := 30) (x := 0) (y := 30) rfl rfl (by omega) (by omega) (by omega)) (gt_1 c36)
    · refine lv_iload_n X.1 X.2.1 dX11_run_39 rfl (lv_at hl 4 rfl) ?_
      refine g_run_i (f := fun u => u) (g_runS [.int (nI ld)] X hK hP hS hC hB (d_badLoad) (va_cwS 1 X.2.2.2.2 gX11_run_X11_badLoad rfl rfl rfl (by decide +kernel) ⟨Nat.le_of_ble_eq_true rfl, Nat.le_of_ble_eq_true rfl⟩) rfl hl.1 rfl (Nat.le_of_ble_eq_true rfl) dX11_run_40 (by exact ⟨Nat.zero_le _, Nat.zero_le _⟩)) hS (fun r u H locs hq hP hS => ?_)
      obtain ⟨rfl, rfl⟩ := hq
      have hP : gP D cy B z T I R H := hP
      refine lv_if_eq (tgt := 50) X.1 X.2.1 dX11_run_43 (by decide) (fun c43 => ?_) (fun c43 => ?_)
      · refine lv_aload_n X.1 X.2.1 dX11_run_50 rfl (lv_at hl 1 rfl) ?_
        refine g_getr 13 2 X hK hP hTq rfl hinRX11 rfl (by decide) k26 (fun _ h => h) dX11_run_51 (show va_rf (R q 2) = .ref tr from by rw [hR2]; rfl) ?_
        refine lv_aload_n X.1 X.2.1 dX11_run_54 rfl (lv_at hl 1 rfl) ?_
        refine g_getr 13 0 X hK hP hTq rfl hinRX11 rfl (by decide) k17 (fun _ h => h) dX11_run_55 (show va_rf (R q 0) = .ref nw from by rw [hR0]; rfl) ?_
        refine g_run_v (f := fun u => u) (g_runV (k := 12) [.ref nw] X hK hP hS hC hB (d_take hTr hN (by omega) hA hme hsR hst.1 hcas) (cwV 1 X.2.2.2.2 gX11_run_X10_take rfl rfl rfl (by decide +kernel) ⟨Nat.le_of_ble_eq_true rfl, Nat.le_of_ble_eq_true rfl⟩) hTr.t0 rfl rfl hl.1 rfl (Nat.le_of_ble_eq_true rfl) dX11_run_58 (by exact ⟨Nat.zero_le _, Nat.zero_le _⟩)) hS (fun u H locs hq hP hS => ?_)
        obtain ⟨IK1, RK1, rfl, hAt, ⟨hm1K1, hm2K1⟩, hknK1, hfIK1, hfRK1⟩ := hq
        have hP : gP D cy B z T IK1 RK1 H := hP
        have hQK1 : cQ q I IK1 R RK1 := ⟨fun c j h => hfIK1 c j (by unfold qF at h; unfold tkW; omega), fun c j h => hfRK1 c j (by unfold qR at h; omega) (by unfold qR at h; omega)⟩
        have hfK1 := hQK1.1
        have hgK1 := hQK1.2
        have hTp := hTp0.fr hQK1.2
        obtain ⟨-, -, -, hTq, hR0, hR1, hR2, hR3, hR4, hN, hKp, hTr, hTrd, hTl⟩ := hTp
        have hA : cA nw IK1 σ := hA.k (fun c j h1 h2 => hfK1 c j (by unfold qF; omega))
        have hBb : cB nw IK1 σ := hBb.k (fun c j h1 h2 => hfK1 c j (by unfold qF; omega))
        have hm : cMn T IK1 σ μ b := hm.k (fun j => hfK1 b j (by unfold qF; omega))
        have hsR : RK1 nw 12 = some a := (hgK1 _ _ (by unfold qR; omega)).trans hsR
        have hst : cSt a T RK1 := hst.fr (fun j => hgK1 _ _ (by unfold qR; omega))
        have hsi : cSi a IK1 fl ti sh := hsi.k (fun c j g1 g2 => hfK1 c j (by unfold qF; omega))
        have hal : cAll tr b a μ T IK1 RK1 σ fl ti sh K := cAll.of (q := q) hTr hAt hm hb65 hfa hst hsi hm2K1 hG hb hμ hμn (by omega) (by omega)
        have hCt : cC tr IK1 fl σ := cC.fg (fun c h1 h2 => hknK1 c h1 h2)
        refine lv_iconst (v := 0) X.1 X.2.1 dX11_run_61 (by decide) ?_
        refine lv_istore (lv' := [(6, .int 0), (5, .ref b), (0, .ref q), (1, .int (nI μ)), (2, .int (nI n)), (3, .int (nI ld)), (4, .int 1)]) X.1 X.2.1 dX11_run_62 hl (by decide) rfl (fun ls hl => ?_)
        refine i_loop (I := IK1) n 64 [] (fun k Q9 ls => (cAll tr b a μ T Q9 RK1 (sIt fl ti sh σ μ ld k) fl ti sh (K + 300000 * k) ∧ cC tr Q9 fl (sIt fl ti sh σ μ ld k) ∧ ∀ c j, ¬ kW tr c j → Q9 c j = IK1 c j) ∧ lv_has ls 7 [(0, .ref q), (1, .int (nI μ)), (2, .int (nI n)), (3, .int (nI ld)), (4, .int 1), (5, .ref b), (6, .int (nI k))]) 0 (by omega) ⟨⟨hal, hCt, fun _ _ _ => rfl⟩, lv_sub hl [2, 3, 4, 5, 6, 1, 0] rfl⟩ hP hS (fun k Q9 H locs ls hk hiv hP hS ih => ?_)
        obtain ⟨⟨hal9, hcc9, hko9⟩, hl⟩ := hiv
        have hAt := hal9.2.1
        have hb9 := hal9.2.2.2.2.2.2.2.2.2.1
        have hse := sSe_le' hG hb9 hμ ld
        have hA : cA nw Q9 σ := hA.k (fun c j h1 h2 => hko9 c j (by unfold kW; omega))
        have hBb : cB nw Q9 σ := hBb.k (fun c j h1 h2 => hko9 c j (by unfold kW; omega))
        have hm : cMn T Q9 σ μ b := hm.k (fun j => hko9 b j (by unfold kW; omega))
        refine lv_iload X.1 X.2.1 dX11_run_64 (lv_at hl 6 rfl) ?_
        refine lv_iload_n X.1 X.2.1 dX11_run_66 rfl (lv_at hl 2 rfl) ?_
        refine lv_icmp_ge (tgt := 95) X.1 X.2.1 dX11_run_67 (by decide) (fun c67 => ?_) (fun c67 => ?_)
        · have n67 : n ≤ k := gq_le c67 (Eq.refl (nI n)) (Eq.refl (nI k)) (by omega) (by omega)
          have him := sIt_m (σ := σ) (fl := fl) (ti := ti) (sh := sh) (μ := μ) (ld := ld) k
          refine lv_aload_n X.1 X.2.1 dX11_run_95 rfl (lv_at hl 0 rfl) ?_
          refine g_getr 13 2 X hK hP hTq rfl hinRX11 rfl (by decide) k26 (fun _ h => h) dX11_run_96 (show va_rf (RK1 q 2) = .ref tr from by rw [hR2]; rfl) ?_
          refine g_geti 12 9 X hK hP hTr.t0 rfl hinRX10 rfl (by decide) k83 (fun _ h => h) dX11_run_99 (show Q9 tr 9 = nI (sIt fl ti sh σ μ ld k 1) from hAt.2.2.2.2.1) ?_
          refine lv_aload_n X.1 X.2.1 dX11_run_102 rfl (lv_at hl 0 rfl) ?_
          refine g_getr 13 0 X hK hP hTq rfl hinRX11 rfl (by decide) k17 (fun _ h => h) dX11_run_103 (show va_rf (RK1 q 0) = .ref nw from by rw [hR0]; rfl) ?_
          refine g_geti 12 9 X hK hP hN.t0 rfl hinRX10 rfl (by decide) k83 (fun _ h => h) dX11_run_106 (show Q9 nw 9 = nI (σ 1) from hA.2.2.2.2.1) ?_
          refine lv_isub X.1 X.2.1 dX11_run_109 ?_
          refine lv_istore (lv' := [(6, .int ((nI (sIt fl ti sh σ μ ld k 1)) - (nI (σ 1)))), (0, .ref q), (1, .int (nI μ)), (2, .int (nI n)), (3, .int (nI ld)), (4, .int 1), (5, .ref b)]) X.1 X.2.1 dX11_run_110 hl (by decide) rfl (fun ls hl => ?_)
          refine lv_iload X.1 X.2.1 dX11_run_112 (lv_at hl 5 rfl) ?_
          refine lv_tableIn (off := 29) (tgt := 143) X.1 X.2.1 dX11_run_114 (by decide) (by decide) (by decide) (by decide) ?_
          refine lv_aload_n X.1 X.2.1 dX11_run_143 rfl (lv_at hl 1 rfl) ?_
          refine g_getr 13 2 X hK hP hTq rfl hinRX11 rfl (by decide) k26 (fun _ h => h) dX11_run_144 (show va_rf (RK1 q 2) = .ref tr from by rw [hR2]; rfl) ?_
          refine g_geti 12 10 X hK hP hTr.t0 rfl hinRX10 rfl (by decide) k86 (fun _ h => h) dX11_run_147 (show Q9 tr 10 = nI (sIt fl ti sh σ μ ld k 2) from hAt.2.2.2.2.2.1) ?_
          refine lv_aload_n X.1 X.2.1 dX11_run_150 rfl (lv_at hl 1 rfl) ?_
          refine g_getr 13 0 X hK hP hTq rfl hinRX11 rfl (by decide) k17 (fun _ h => h) dX11_run_151 (show va_rf (RK1 q 0) = .ref nw from by rw [hR0]; rfl) ?_
          refine g_geti 12 10 X hK hP hN.t0 rfl hinRX10 rfl (by decide) k86 (fun _ h => h) dX11_run_154 (show Q9 nw 10 = nI (σ 2) from hA.2.2.2.2.2.1) ?_
          refine lv_isub X.1 X.2.1 dX11_run_157 ?_
          have hkn9 : k = n := by omega
          exact g_iret (f := fun u => u) (z, T, Q9, RK1) X hr hlk hK hP hS dX11_run_158 ⟨((gn_sub (Eq.refl (nI (sIt fl ti sh σ μ ld k 2))) (Eq.refl (nI (σ 2))) (by omega))).trans (by rw [hkn9]; rfl), Q9, RK1, rfl, hQK1.kw htr hko9⟩
        · have n67 : k < n := gq_nle c67 (Eq.refl (nI n)) (Eq.refl (nI k)) (by omega) (by omega)
          refine lv_aload_n X.1 X.2.1 dX11_run_70 rfl (lv_at hl 0 rfl) ?_
          refine g_getr 13 2 X hK hP hTq rfl hinRX11 rfl (by decide) k26 (fun _ h => h) dX11_run_71 (show va_rf (RK1 q 2) = .ref tr from by rw [hR2]; rfl) ?_
          refine lv_aload X.1 X.2.1 dX11_run_74 (lv_at hl 5 rfl) ?_
          refine lv_aload_n X.1 X.2.1 dX11_run_76 rfl (lv_at hl 0 rfl) ?_
          refine g_getr 13 2 X hK hP hTq rfl hinRX11 rfl (by decide) k26 (fun _ h => h) dX11_run_77 (show va_rf (RK1 q 2) = .ref tr from by rw [hR2]; rfl) ?_
          refine lv_aload X.1 X.2.1 dX11_run_80 (lv_at hl 5 rfl) ?_
          refine lv_iload_n X.1 X.2.1 dX11_run_82 rfl (lv_at hl 3 rfl) ?_
          refine g_run_q (f := fun u => u) (g_runV (k := 12) [.ref b, .int (nI ld)] X hK hP hS hC hB (d_plan hal9 hcc9 hld) (cwV 2 X.2.2.2.2 gX11_run_X10_plan rfl rfl rfl (by decide +kernel) ⟨Nat.le_of_ble_eq_true rfl, Nat.le_of_ble_eq_true rfl⟩) hTr.t0 rfl rfl hl.1 rfl (Nat.le_of_ble_eq_true rfl) dX11_run_83 (by exact ⟨Nat.zero_le _, Nat.zero_le _⟩)) hS (fun r u H locs hq hP hS => ?_)
          obtain ⟨hr9, IP2, rfl, htpP2, hccP2, hfrP2⟩ := hq
          subst hr9
          have hP : gP D cy B z T IP2 RK1 H := hP
          have hallP2 := hal9.k (I' := IP2) (fun c j h => hfrP2 c j (by omega))
          refine g_run_v (f := fun u => u) (g_runV (k := 12) [.ref b, .ref (tr + 11 + μ)] X hK hP hS hC hB (d_finish hallP2 hccP2 htpP2 (by omega)) (cwV 2 X.2.2.2.2 gX11_run_X10_finish rfl rfl rfl (by decide +kernel) ⟨Nat.le_of_ble_eq_true rfl, Nat.le_of_ble_eq_true rfl⟩) hTr.t0 rfl rfl hl.1 rfl (Nat.le_of_ble_eq_true rfl) dX11_run_86 (by exact ⟨Nat.zero_le _, Nat.zero_le _⟩)) hS (fun u H locs hq hP hS => ?_)
          obtain ⟨IG3, rfl, ⟨hAG3, hCG3⟩, hfG3⟩ := hq
          have hP : gP D cy B z T IG3 RK1 H := hP
          refine lv_iinc (v := nI (k + 1)) (lv' := [(6, .int (nI (k + 1))), (0, .ref q), (1, .int (nI μ)), (2, .int (nI n)), (3, .int (nI ld)), (4, .int 1), (5, .ref b)]) X.1 X.2.1 dX11_run_89 hl (k := 6) rfl (gn_inc (Eq.refl (nI k)) 1) (by decide) rfl (fun ls hl => ?_)
          refine lv_goto (tgt := 64) X.1 X.2.1 dX11_run_92 (by decide) ?_
          have hfG3x : ∀ c j, ¬ kW tr c j → IG3 c j = Q9 c j := fun c j h => (by unfold kW at h; exact (hfG3 c j (by omega) (by omega) (by omega) (by omega)).trans (hfrP2 c j (by omega)))
          exact ih _ _ _ _ (by omega) ⟨⟨(hal9.go hAG3 (fun i hi => sGo_18 hμ hi) (sBd_le (K' := K + 300000 * (k + 1)) (sBd_go' hG hb9 hμ ld) (by omega)) hfG3x), hCG3, fun c j h => (hfG3x c j h).trans (hko9 c j h)⟩, lv_sub hl [1, 2, 3, 4, 5, 6, 0] rfl⟩ hP hS
      · exact absurd (g_le (a := 1) (b := 20) (x := 1) (y := 20) rfl rfl (by omega) (by omega) (by omega)) (gt_1 c43)
  · exact absurd (by decide) (gt_1 c22)

set_option maxHeartbeats 4000000 in
set_option maxRecDepth 100000 in
/-- t_run_2 -/
theorem t_run_2 (hTp : cTop q nw kp tr T R) (hNw : cNw q nw T I R σ fl ti sh) (hG : sGd fl ti sh) (hb : sBd σ K) (hcas : gCas s0) {μ : Nat} (hμn : μ < σ 38) {n : Nat} (hn : n ≤ 30) {ld : Nat} (hl1 : 1 ≤ ld) (hld : ld ≤ 20) (hKb : K ≤ 25000000) : Met l yX11_run wsX11_run ({ frames := 5, cells := 0, slots := 0, locals := 124 }) (va_Pc [.ref q, .int (nI μ), .int (nI n), .int (nI ld), .int 2] (gW0 s0 D cy B (z, T, I, R))) (va_Qi (fun r u => r = nI ((sIt fl ti sh σ μ ld n) (4 + μ)) ∧ ∃ I' R', u = (z, T, I', R') ∧ cQ q I I' R R') (fun u t => gW1 D cy B u t) (gA B)) 0 0 (gA B) := by
  refine g_met (maxL := 7) (ret := (some .int)) (by decide) rfl (Nat.le_of_ble_eq_true rfl) (fun p e s m args below meth c ls X hr hlk hnm hK hP hC hS hl => ?_)
  have hl : lv_has ls 7 [(0, .ref q), (1, .int (nI μ)), (2, .int (nI n)), (3, .int (nI ld)), (4, .int 2)] := hl
  have hP : gP D cy B z T I R s.heap := hP
  have hB : B ≤ s.heap.size := by rw [hP.1]; exact hP.2.1
  have hinRX10 : ∀ w ∈ wsX100, w ∈ wsX11_run := fun _ h => List.mem_cons_of_mem _ (List.mem_append_left _ (List.mem_append_left _ (List.mem_append_left _ (List.mem_append_left _ (List.mem_append_left _ (List.mem_append_left _ (List.mem_append_left _ (List.mem_append_left _ (List.mem_append_left _ (List.mem_append_right _ h))))))))))
  have hinRX11 : ∀ w ∈ wsX110, w ∈ wsX11_run := fun _ h => List.mem_cons_of_mem _ (List.mem_append_left _ (List.mem_append_left _ (List.mem_append_left _ (List.mem_append_left _ (List.mem_append_left _ (List.mem_append_left _ (List.mem_append_left _ (List.mem_append_left _ (List.mem_append_left _ (List.mem_append_left _ (List.mem_append_right _ h)))))))))))
  have hin7 : ∀ κ, κ ≤ 6 → ∀ w ∈ mws κ, w ∈ wsX11_run := fun κ hκ => by
    rcases k7 hκ with rfl | rfl | rfl | rfl | rfl | rfl | rfl
    · exact fun _ h => List.mem_cons_of_mem _ (List.mem_append_left _ (List.mem_append_left _ (List.mem_append_left _ (List.mem_append_left _ (List.mem_append_left _ (List.mem_append_left _ (List.mem_append_right _ h)))))))
    · exact fun _ h => List.mem_cons_of_mem _ (List.mem_append_left _ (List.mem_append_left _ (List.mem_append_left _ (List.mem_append_left _ (List.mem_append_left _ (List.mem_append_left _ (List.mem_append_left _ (List.mem_append_left _ (List.mem_append_right _ h)))))))))
    · exact fun _ h => List.mem_cons_of_mem _ (List.mem_append_left _ (List.mem_append_left _ (List.mem_append_right _ h)))
    · exact fun _ h => List.mem_cons_of_mem _ (List.mem_append_left _ (List.mem_append_left _ (List.mem_append_left _ (List.mem_append_left _ (List.mem_append_right _ h)))))
    · exact fun _ h => List.mem_cons_of_mem _ (List.mem_append_left _ (List.mem_append_left _ (List.mem_append_left _ (List.mem_append_left _ (List.mem_append_left _ (List.mem_append_left _ (List.mem_append_left _ (List.mem_append_right _ h))))))))
    · exact fun _ h => List.mem_cons_of_mem _ (List.mem_append_left _ (List.mem_append_left _ (List.mem_append_left _ (List.mem_append_right _ h))))
    · exact fun _ h => List.mem_cons_of_mem _ (List.mem_append_left _ (List.mem_append_left _ (List.mem_append_left _ (List.mem_append_left _ (List.mem_append_left _ (List.mem_append_right _ h))))))
  have k17 : Cond.fieldLink RX11 17 "BarrowPlank" "now" "LBarrowPlank$Works;" ∈ wsX11_run := by decide +kernel
  have k26 : Cond.fieldLink RX11 26 "BarrowPlank" "trial" "LBarrowPlank$Works;" ∈ wsX11_run := by decide +kernel
  have k80 : Cond.fieldLink RX11 80 "BarrowPlank$Works" "earth" "I" ∈ wsX11_run := by decide +kernel
  have k83 : Cond.fieldLink RX11 83 "BarrowPlank$Works" "over" "I" ∈ wsX11_run := by decide +kernel
  have k86 : Cond.fieldLink RX11 86 "BarrowPlank$Works" "second" "I" ∈ wsX11_run := by decide +kernel
  have k128 : Cond.fieldLink RX11 128 "BarrowPlank$Works" "tired" "[I" ∈ wsX11_run := by decide +kernel
  have k132 : Cond.fieldLink RX11 132 "BarrowPlank$Man" "number" "I" ∈ wsX11_run := by decide +kernel
  have hTp0 := hTp
  have hNw0 := hNw
  obtain ⟨hnw, hkp, htr, hTq, hR0, hR1, hR2, hR3, hR4, hN, hKp, hTr, hTrd, hTl⟩ := hTp
  obtain ⟨hA, hBb, hmen, hme, a, hsR, hst, hsi, hfa⟩ := hNw
  have h38 := hb.2.2.2.2.1
  have h0 := hb.1
  have hμ : μ < 4 := Nat.lt_of_lt_of_le hμn h38
  obtain ⟨b, hbm, hm, hb65⟩ := hmen μ hμn
  obtain ⟨hk6, hv9, hs20⟩ := hb.2.2.2.2.2.2.2.2.1 μ hμ
  have ht9 := hb.2.2.1 μ hμ
  refine lv_aload_n X.1 X.2.1 dX11_run_0 rfl (lv_at hl 0 rfl) ?_
  refine g_getr 13 0 X hK hP hTq rfl hinRX11 rfl (by decide) k17 (fun _ h => h) dX11_run_1 (show va_rf (R q 0) = .ref nw from by rw [hR0]; rfl) ?_
  refine lv_iload_n X.1 X.2.1 dX11_run_4 rfl (lv_at hl 1 rfl) ?_
  refine g_run_q (f := fun u => u) (g_runV (k := 12) [.int (nI μ)] X hK hP hS hC hB (d_find (σ := σ) hN (hA.2.2.1) h38 hμn hbm) (cwV 1 X.2.2.2.2 gX11_run_X10_find rfl rfl rfl (by decide +kernel) ⟨Nat.le_of_ble_eq_true rfl, Nat.le_of_ble_eq_true rfl⟩) hN.t0 rfl rfl hl.1 rfl (Nat.le_of_ble_eq_true rfl) dX11_run_5 (by exact ⟨Nat.zero_le _, Nat.zero_le _⟩)) hS (fun r u H locs hq hP hS => ?_)
  obtain ⟨rfl, rfl⟩ := hq
  have hP : gP D cy B z T I R H := hP
  refine lv_astore (lv' := [(5, .ref b), (0, .ref q), (1, .int (nI μ)), (2, .int (nI n)), (3, .int (nI ld)), (4, .int 2)]) X.1 X.2.1 dX11_run_8 hl (by decide) rfl (fun ls hl => ?_)
  refine lv_aload X.1 X.2.1 dX11_run_10 (lv_at hl 0 rfl) ?_
  refine lv_ifnull X.1 X.2.1 dX11_run_12 ?_
  refine lv_iload X.1 X.2.1 dX11_run_15 (lv_at hl 5 rfl) ?_
  refine lv_iconst (v := 0) X.1 X.2.1 dX11_run_17 (by decide) ?_
  refine lv_iconst (v := 3) X.1 X.2.1 dX11_run_18 (by decide) ?_
  refine g_run_i (f := fun u => u) (g_runS [.int 2, .int 0, .int 3] X hK hP hS hC hB (d_outside) (va_cwS 3 X.2.2.2.2 gX11_run_X11_outside rfl rfl rfl (by decide +kernel) ⟨Nat.le_of_ble_eq_true rfl, Nat.le_of_ble_eq_true rfl⟩) rfl hl.1 rfl (Nat.le_of_ble_eq_true rfl) dX11_run_19 (by exact ⟨Nat.zero_le _, Nat.zero_le _⟩)) hS (fun r u H locs hq hP hS => ?_)
  obtain ⟨rfl, rfl⟩ := hq
  have hP : gP D cy B z T I R H := hP
  refine lv_if_eq (tgt := 29) X.1 X.2.1 dX11_run_22 (by decide) (fun c22 => ?_) (fun c22 => ?_)
  · refine lv_iload_n X.1 X.2.1 dX11_run_29 rfl (lv_at hl 3 rfl) ?_
    refine lv_iconst (v := 0) X.1 X.2.1 dX11_run_30 (by decide) ?_
    refine lv_bipush (v := 30) X.1 X.2.1 dX11_run_31 (by decide) ?_
    refine g_run_i (f := fun u => u) (g_runS [.int (nI n), .int 0, .int 30] X hK hP hS hC hB (d_outside) (va_cwS 3 X.2.2.2.2 gX11_run_X11_outside rfl rfl rfl (by decide +kernel) ⟨Nat.le_of_ble_eq_true rfl, Nat.le_of_ble_eq_true rfl⟩) rfl hl.1 rfl (Nat.le_of_ble_eq_true rfl) dX11_run_33 (by exact ⟨Nat.zero_le _, Nat.zero_le _⟩)) hS (fun r u H locs hq hP hS => ?_)
    obtain ⟨rfl, rfl⟩ := hq
    have hP : gP D cy B z T I R H := hP
    refine lv_if_ne (tgt := 46) X.1 X.2.1 dX11_run_36 (by decide) (fun c36 => ?_) (fun c36 => ?_)
    · exact absurd (g_le (a := 0) (b := 30) (x := 0) (y := 30) rfl rfl (by omega) (by omega) (by omega)) (gt_1 c36)
    · refine lv_iload_n X.1 X.2.1 dX11_run_39 rfl (lv_at hl 4 rfl) ?_
      refine g_run_i (f := fun u => u) (g_runS [.int (nI ld)] X hK hP hS hC hB (d_badLoad) (va_cwS 1 X.2.2.2.2 gX11_run_X11_badLoad rfl rfl rfl (by decide +kernel) ⟨Nat.le_of_ble_eq_true rfl, Nat.le_of_ble_eq_true rfl⟩) rfl hl.1 rfl (Nat.le_of_ble_eq_true rfl) dX11_run_40 (by exact ⟨Nat.zero_le _, Nat.zero_le _⟩)) hS (fun r u H locs hq hP hS => ?_)
      obtain ⟨rfl, rfl⟩ := hq
      have hP : gP D cy B z T I R H := hP
      refine lv_if_eq (tgt := 50) X.1 X.2.1 dX11_run_43 (by decide) (fun c43 => ?_) (fun c43 => ?_)
      · refine lv_aload_n X.1 X.2.1 dX11_run_50 rfl (lv_at hl 1 rfl) ?_
        refine g_getr 13 2 X hK hP hTq rfl hinRX11 rfl (by decide) k26 (fun _ h => h) dX11_run_51 (show va_rf (R q 2) = .ref tr from by rw [hR2]; rfl) ?_
        refine lv_aload_n X.1 X.2.1 dX11_run_54 rfl (lv_at hl 1 rfl) ?_
        refine g_getr 13 0 X hK hP hTq rfl hinRX11 rfl (by decide) k17 (fun _ h => h) dX11_run_55 (show va_rf (R q 0) = .ref nw from by rw [hR0]; rfl) ?_
        refine g_run_v (f := fun u => u) (g_runV (k := 12) [.ref nw] X hK hP hS hC hB (d_take hTr hN (by omega) hA hme hsR hst.1 hcas) (cwV 1 X.2.2.2.2 gX11_run_X10_take rfl rfl rfl (by decide +kernel) ⟨Nat.le_of_ble_eq_true rfl, Nat.le_of_ble_eq_true rfl⟩) hTr.t0 rfl rfl hl.1 rfl (Nat.le_of_ble_eq_true rfl) dX11_run_58 (by exact ⟨Nat.zero_le _, Nat.zero_le _⟩)) hS (fun u H locs hq hP hS => ?_)
        obtain ⟨IK1, RK1, rfl, hAt, ⟨hm1K1, hm2K1⟩, hknK1, hfIK1, hfRK1⟩ := hq
        have hP : gP D cy B z T IK1 RK1 H := hP
        have hQK1 : cQ q I IK1 R RK1 := ⟨fun c j h => hfIK1 c j (by unfold qF at h; unfold tkW; omega), fun c j h => hfRK1 c j (by unfold qR at h; omega) (by unfold qR at h; omega)⟩
        have hfK1 := hQK1.1
        have hgK1 := hQK1.2
        have hTp := hTp0.fr hQK1.2
        obtain ⟨-, -, -, hTq, hR0, hR1, hR2, hR3, hR4, hN, hKp, hTr, hTrd, hTl⟩ := hTp
        have hA : cA nw IK1 σ := hA.k (fun c j h1 h2 => hfK1 c j (by unfold qF; omega))
        have hBb : cB nw IK1 σ := hBb.k (fun c j h1 h2 => hfK1 c j (by unfold qF; omega))
        have hm : cMn T IK1 σ μ b := hm.k (fun j => hfK1 b j (by unfold qF; omega))
        have hsR : RK1 nw 12 = some a := (hgK1 _ _ (by unfold qR; omega)).trans hsR
        have hst : cSt a T RK1 := hst.fr (fun j => hgK1 _ _ (by unfold qR; omega))
        have hsi : cSi a IK1 fl ti sh := hsi.k (fun c j g1 g2 => hfK1 c j (by unfold qF; omega))
        have hal : cAll tr b a μ T IK1 RK1 σ fl ti sh K := cAll.of (q := q) hTr hAt hm hb65 hfa hst hsi hm2K1 hG hb hμ hμn (by omega) (by omega)
        have hCt : cC tr IK1 fl σ := cC.fg (fun c h1 h2 => hknK1 c h1 h2)
        refine lv_iconst (v := 0) X.1 X.2.1 dX11_run_61 (by decide) ?_
        refine lv_istore (lv' := [(6, .int 0), (5, .ref b), (0, .ref q), (1, .int (nI μ)), (2, .int (nI n)), (3, .int (nI ld)), (4, .int 2)]) X.1 X.2.1 dX11_run_62 hl (by decide) rfl (fun ls hl => ?_)
        refine i_loop (I := IK1) n 64 [] (fun k Q9 ls => (cAll tr b a μ T Q9 RK1 (sIt fl ti sh σ μ ld k) fl ti sh (K + 300000 * k) ∧ cC tr Q9 fl (sIt fl ti sh σ μ ld k) ∧ ∀ c j, ¬ kW tr c j → Q9 c j = IK1 c j) ∧ lv_has ls 7 [(0, .ref q), (1, .int (nI μ)), (2, .int (nI n)), (3, .int (nI ld)), (4, .int 2), (5, .ref b), (6, .int (nI k))]) 0 (by omega) ⟨⟨hal, hCt, fun _ _ _ => rfl⟩, lv_sub hl [2, 3, 4, 5, 6, 1, 0] rfl⟩ hP hS (fun k Q9 H locs ls hk hiv hP hS ih => ?_)
        obtain ⟨⟨hal9, hcc9, hko9⟩, hl⟩ := hiv
        have hAt := hal9.2.1
        have hb9 := hal9.2.2.2.2.2.2.2.2.2.1
        have hse := sSe_le' hG hb9 hμ ld
        have hA : cA nw Q9 σ := hA.k (fun c j h1 h2 => hko9 c j (by unfold kW; omega))
        have hBb : cB nw Q9 σ := hBb.k (fun c j h1 h2 => hko9 c j (by unfold kW; omega))
        have hm : cMn T Q9 σ μ b := hm.k (fun j => hko9 b j (by unfold kW; omega))
        refine lv_iload X.1 X.2.1 dX11_run_64 (lv_at hl 6 rfl) ?_
        refine lv_iload_n X.1 X.2.1 dX11_run_66 rfl (lv_at hl 2 rfl) ?_
        refine lv_icmp_ge (tgt := 95) X.1 X.2.1 dX11_run_67 (by decide) (fun c67 => ?_) (fun c67 => ?_)
        · have n67 : n ≤ k := gq_le c67 (Eq.refl (nI n)) (Eq.refl (nI k)) (by omega) (by omega)
          have him := sIt_m (σ := σ) (fl := fl) (ti := ti) (sh := sh) (μ := μ) (ld := ld) k
          refine lv_aload_n X.1 X.2.1 dX11_run_95 rfl (lv_at hl 0 rfl) ?_
          refine g_getr 13 2 X hK hP hTq rfl hinRX11 rfl (by decide) k26 (fun _ h => h) dX11_run_96 (show va_rf (RK1 q 2) = .ref tr from by rw [hR2]; rfl) ?_
          refine g_geti 12 9 X hK hP hTr.t0 rfl hinRX10 rfl (by decide) k83 (fun _ h => h) dX11_run_99 (show Q9 tr 9 = nI (sIt fl ti sh σ μ ld k 1) from hAt.2.2.2.2.1) ?_
          refine lv_aload_n X.1 X.2.1 dX11_run_102 rfl (lv_at hl 0 rfl) ?_
          refine g_getr 13 0 X hK hP hTq rfl hinRX11 rfl (by decide) k17 (fun _ h => h) dX11_run_103 (show va_rf (RK1 q 0) = .ref nw from by rw [hR0]; rfl) ?_
          refine g_geti 12 9 X hK hP hN.t0 rfl hinRX10 rfl (by decide) k83 (fun _ h => h) dX11_run_106 (show Q9 nw 9 = nI (σ 1) from hA.2.2.2.2.1) ?_
          refine lv_isub X.1 X.2.1 dX11_run_109 ?_
          refine lv_istore (lv' := [(6, .int ((nI (sIt fl ti sh σ μ ld k 1)) - (nI (σ 1)))), (0, .ref q), (1, .int (nI μ)), (2, .int (nI n)), (3, .int (nI ld)), (4, .int 2), (5, .ref b)]) X.1 X.2.1 dX11_run_110 hl (by decide) rfl (fun ls hl => ?_)
          refine lv_iload X.1 X.2.1 dX11_run_112 (lv_at hl 5 rfl) ?_
          refine lv_tableIn (off := 45) (tgt := 159) X.1 X.2.1 dX11_run_114 (by decide) (by decide) (by decide) (by decide) ?_
          refine lv_aload_n X.1 X.2.1 dX11_run_159 rfl (lv_at hl 1 rfl) ?_
          refine g_getr 13 2 X hK hP hTq rfl hinRX11 rfl (by decide) k26 (fun _ h => h) dX11_run_160 (show va_rf (RK1 q 2) = .ref tr from by rw [hR2]; rfl) ?_
          refine g_getr 12 2 X hK hP hTr.t0 rfl hinRX10 rfl (by decide) k128 (fun _ h => h) dX11_run_163 (show va_rf (RK1 tr 2) = .ref (tr + 6) from by rw [(show RK1 tr 2 = some (tr + 6) from hTr.r 2 rfl)]; rfl) ?_
          refine lv_aload X.1 X.2.1 dX11_run_166 (lv_at hl 6 rfl) ?_
          refine g_mget 1 (by decide) hk6 X hK hP hm.1 (hin7 _ hk6) k132 (fun _ h => h) dX11_run_168 (show Q9 b 1 = nI μ from hm.2.2.1) ?_
          refine g_iald μ X hK hP (hTr.t 6 rfl) (gIx_of (Eq.refl (nI μ)) (by omega) (by omega)) dX11_run_171 (show Q9 (tr + 6) μ = nI (sIt fl ti sh σ μ ld k (4 + μ)) from (hAt.2.1 μ (by omega))) ?_
          have hkn9 : k = n := by omega
          exact g_iret (f := fun u => u) (z, T, Q9, RK1) X hr hlk hK hP hS dX11_run_172 ⟨((Eq.refl (nI (sIt fl ti sh σ μ ld k (4 + μ))))).trans (by rw [hkn9]), Q9, RK1, rfl, hQK1.kw htr hko9⟩
        · have n67 : k < n := gq_nle c67 (Eq.refl (nI n)) (Eq.refl (nI k)) (by omega) (by omega)
          refine lv_aload_n X.1 X.2.1 dX11_run_70 rfl (lv_at hl 0 rfl) ?_
          refine g_getr 13 2 X hK hP hTq rfl hinRX11 rfl (by decide) k26 (fun _ h => h) dX11_run_71 (show va_rf (RK1 q 2) = .ref tr from by rw [hR2]; rfl) ?_
          refine lv_aload X.1 X.2.1 dX11_run_74 (lv_at hl 5 rfl) ?_
          refine lv_aload_n X.1 X.2.1 dX11_run_76 rfl (lv_at hl 0 rfl) ?_
          refine g_getr 13 2 X hK hP hTq rfl hinRX11 rfl (by decide) k26 (fun _ h => h) dX11_run_77 (show va_rf (RK1 q 2) = .ref tr from by rw [hR2]; rfl) ?_
          refine lv_aload X.1 X.2.1 dX11_run_80 (lv_at hl 5 rfl) ?_
          refine lv_iload_n X.1 X.2.1 dX11_run_82 rfl (lv_at hl 3 rfl) ?_
          refine g_run_q (f := fun u => u) (g_runV (k := 12) [.ref b, .int (nI ld)] X hK hP hS hC hB (d_plan hal9 hcc9 hld) (cwV 2 X.2.2.2.2 gX11_run_X10_plan rfl rfl rfl (by decide +kernel) ⟨Nat.le_of_ble_eq_true rfl, Nat.le_of_ble_eq_true rfl⟩) hTr.t0 rfl rfl hl.1 rfl (Nat.le_of_ble_eq_true rfl) dX11_run_83 (by exact ⟨Nat.zero_le _, Nat.zero_le _⟩)) hS (fun r u H locs hq hP hS => ?_)
          obtain ⟨hr9, IP2, rfl, htpP2, hccP2, hfrP2⟩ := hq
          subst hr9
          have hP : gP D cy B z T IP2 RK1 H := hP
          have hallP2 := hal9.k (I' := IP2) (fun c j h => hfrP2 c j (by omega))
          refine g_run_v (f := fun u => u) (g_runV (k := 12) [.ref b, .ref (tr + 11 + μ)] X hK hP hS hC hB (d_finish hallP2 hccP2 htpP2 (by omega)) (cwV 2 X.2.2.2.2 gX11_run_X10_finish rfl rfl rfl (by decide +kernel) ⟨Nat.le_of_ble_eq_true rfl, Nat.le_of_ble_eq_true rfl⟩) hTr.t0 rfl rfl hl.1 rfl (Nat.le_of_ble_eq_true rfl) dX11_run_86 (by exact ⟨Nat.zero_le _, Nat.zero_le _⟩)) hS (fun u H locs hq hP hS => ?_)
          obtain ⟨IG3, rfl, ⟨hAG3, hCG3⟩, hfG3⟩ := hq
          have hP : gP D cy B z T IG3 RK1 H := hP
          refine lv_iinc (v := nI (k + 1)) (lv' := [(6, .int (nI (k + 1))), (0, .ref q), (1, .int (nI μ)), (2, .int (nI n)), (3, .int (nI ld)), (4, .int 2), (5, .ref b)]) X.1 X.2.1 dX11_run_89 hl (k := 6) rfl (gn_inc (Eq.refl (nI k)) 1) (by decide) rfl (fun ls hl => ?_)
          refine lv_goto (tgt := 64) X.1 X.2.1 dX11_run_92 (by decide) ?_
          have hfG3x : ∀ c j, ¬ kW tr c j → IG3 c j = Q9 c j := fun c j h => (by unfold kW at h; exact (hfG3 c j (by omega) (by omega) (by omega) (by omega)).trans (hfrP2 c j (by omega)))
          exact ih _ _ _ _ (by omega) ⟨⟨(hal9.go hAG3 (fun i hi => sGo_18 hμ hi) (sBd_le (K' := K + 300000 * (k + 1)) (sBd_go' hG hb9 hμ ld) (by omega)) hfG3x), hCG3, fun c j h => (hfG3x c j h).trans (hko9 c j h)⟩, lv_sub hl [1, 2, 3, 4, 5, 6, 0] rfl⟩ hP hS
      · exact absurd (g_le (a := 1) (b := 20) (x := 1) (y := 20) rfl rfl (by omega) (by omega) (by omega)) (gt_1 c43)
  · exact absurd (by decide) (gt_1 c22)

set_option maxHeartbeats 4000000 in
set_option maxRecDepth 100000 in
/-- t_run_3 -/
theorem t_run_3 (hTp : cTop q nw kp tr T R) (hNw : cNw q nw T I R σ fl ti sh) (hG : sGd fl ti sh) (hb : sBd σ K) (hcas : gCas s0) {μ : Nat} (hμn : μ < σ 38) {n : Nat} (hn : n ≤ 30) {ld : Nat} (hl1 : 1 ≤ ld) (hld : ld ≤ 20) (hKb : K ≤ 25000000) : Met l yX11_run wsX11_run ({ frames := 5, cells := 0, slots := 0, locals := 124 }) (va_Pc [.ref q, .int (nI μ), .int (nI n), .int (nI ld), .int 3] (gW0 s0 D cy B (z, T, I, R))) (va_Qi (fun r u => r = nI (sRs 3 σ (sIt fl ti sh σ μ ld n)) ∧ ∃ I' R', u = (z, T, I', R') ∧ cQ q I I' R R') (fun u t => gW1 D cy B u t) (gA B)) 0 0 (gA B) := by
  refine g_met (maxL := 7) (ret := (some .int)) (by decide) rfl (Nat.le_of_ble_eq_true rfl) (fun p e s m args below meth c ls X hr hlk hnm hK hP hC hS hl => ?_)
  have hl : lv_has ls 7 [(0, .ref q), (1, .int (nI μ)), (2, .int (nI n)), (3, .int (nI ld)), (4, .int 3)] := hl
  have hP : gP D cy B z T I R s.heap := hP
  have hB : B ≤ s.heap.size := by rw [hP.1]; exact hP.2.1
  have hinRX10 : ∀ w ∈ wsX100, w ∈ wsX11_run := fun _ h => List.mem_cons_of_mem _ (List.mem_append_left _ (List.mem_append_left _ (List.mem_append_left _ (List.mem_append_left _ (List.mem_append_left _ (List.mem_append_left _ (List.mem_append_left _ (List.mem_append_left _ (List.mem_append_left _ (List.mem_append_right _ h))))))))))
  have hinRX11 : ∀ w ∈ wsX110, w ∈ wsX11_run := fun _ h => List.mem_cons_of_mem _ (List.mem_append_left _ (List.mem_append_left _ (List.mem_append_left _ (List.mem_append_left _ (List.mem_append_left _ (List.mem_append_left _ (List.mem_append_left _ (List.mem_append_left _ (List.mem_append_left _ (List.mem_append_left _ (List.mem_append_right _ h)))))))))))
  have hin7 : ∀ κ, κ ≤ 6 → ∀ w ∈ mws κ, w ∈ wsX11_run := fun κ hκ => by
    rcases k7 hκ with rfl | rfl | rfl | rfl | rfl | rfl | rfl
    · exact fun _ h => List.mem_cons_of_mem _ (List.mem_append_left _ (List.mem_append_left _ (List.mem_append_left _ (List.mem_append_left _ (List.mem_append_left _ (List.mem_append_left _ (List.mem_append_right _ h)))))))
    · exact fun _ h => List.mem_cons_of_mem _ (List.mem_append_left _ (List.mem_append_left _ (List.mem_append_left _ (List.mem_append_left _ (List.mem_append_left _ (List.mem_append_left _ (List.mem_append_left _ (List.mem_append_left _ (List.mem_append_right _ h)))))))))
    · exact fun _ h => List.mem_cons_of_mem _ (List.mem_append_left _ (List.mem_append_left _ (List.mem_append_right _ h)))
    · exact fun _ h => List.mem_cons_of_mem _ (List.mem_append_left _ (List.mem_append_left _ (List.mem_append_left _ (List.mem_append_left _ (List.mem_append_right _ h)))))
    · exact fun _ h => List.mem_cons_of_mem _ (List.mem_append_left _ (List.mem_append_left _ (List.mem_append_left _ (List.mem_append_left _ (List.mem_append_left _ (List.mem_append_left _ (List.mem_append_left _ (List.mem_append_right _ h))))))))
    · exact fun _ h => List.mem_cons_of_mem _ (List.mem_append_left _ (List.mem_append_left _ (List.mem_append_left _ (List.mem_append_right _ h))))
    · exact fun _ h => List.mem_cons_of_mem _ (List.mem_append_left _ (List.mem_append_left _ (List.mem_append_left _ (List.mem_append_left _ (List.mem_append_left _ (List.mem_append_right _ h))))))
  have k17 : Cond.fieldLink RX11 17 "BarrowPlank" "now" "LBarrowPlank$Works;" ∈ wsX11_run := by decide +kernel
  have k26 : Cond.fieldLink RX11 26 "BarrowPlank" "trial" "LBarrowPlank$Works;" ∈ wsX11_run := by decide +kernel
  have k80 : Cond.fieldLink RX11 80 "BarrowPlank$Works" "earth" "I" ∈ wsX11_run := by decide +kernel
  have k83 : Cond.fieldLink RX11 83 "BarrowPlank$Works" "over" "I" ∈ wsX11_run := by decide +kernel
  have k86 : Cond.fieldLink RX11 86 "BarrowPlank$Works" "second" "I" ∈ wsX11_run := by decide +kernel
  have k128 : Cond.fieldLink RX11 128 "BarrowPlank$Works" "tired" "[I" ∈ wsX11_run := by decide +kernel
  have k132 : Cond.fieldLink RX11 132 "BarrowPlank$Man" "number" "I" ∈ wsX11_run := by decide +kernel
  have hTp0 := hTp
  have hNw0 := hNw
  obtain ⟨hnw, hkp, htr, hTq, hR0, hR1, hR2, hR3, hR4, hN, hKp, hTr, hTrd, hTl⟩ := hTp
  obtain ⟨hA, hBb, hmen, hme, a, hsR, hst, hsi, hfa⟩ := hNw
  have h38 := hb.2.2.2.2.1
  have h0 := hb.1
  have hμ : μ < 4 := Nat.lt_of_lt_of_le hμn h38
  obtain ⟨b, hbm, hm, hb65⟩ := hmen μ hμn
  obtain ⟨hk6, hv9, hs20⟩ := hb.2.2.2.2.2.2.2.2.1 μ hμ
  have ht9 := hb.2.2.1 μ hμ
  refine lv_aload_n X.1 X.2.1 dX11_run_0 rfl (lv_at hl 0 rfl) ?_
  refine g_getr 13 0 X hK hP hTq rfl hinRX11 rfl (by decide) k17 (fun _ h => h) dX11_run_1 (show va_rf (R q 0) = .ref nw from by rw [hR0]; rfl) ?_
  refine lv_iload_n X.1 X.2.1 dX11_run_4 rfl (lv_at hl 1 rfl) ?_
  refine g_run_q (f := fun u => u) (g_runV (k := 12) [.int (nI μ)] X hK hP hS hC hB (d_find (σ := σ) hN (hA.2.2.1) h38 hμn hbm) (cwV 1 X.2.2.2.2 gX11_run_X10_find rfl rfl rfl (by decide +kernel) ⟨Nat.le_of_ble_eq_true rfl, Nat.le_of_ble_eq_true rfl⟩) hN.t0 rfl rfl hl.1 rfl (Nat.le_of_ble_eq_true rfl) dX11_run_5 (by exact ⟨Nat.zero_le _, Nat.zero_le _⟩)) hS (fun r u H locs hq hP hS => ?_)
  obtain ⟨rfl, rfl⟩ := hq
  have hP : gP D cy B z T I R H := hP
  refine lv_astore (lv' := [(5, .ref b), (0, .ref q), (1, .int (nI μ)), (2, .int (nI n)), (3, .int (nI ld)), (4, .int 3)]) X.1 X.2.1 dX11_run_8 hl (by decide) rfl (fun ls hl => ?_)
  refine lv_aload X.1 X.2.1 dX11_run_10 (lv_at hl 0 rfl) ?_
  refine lv_ifnull X.1 X.2.1 dX11_run_12 ?_
  refine lv_iload X.1 X.2.1 dX11_run_15 (lv_at hl 5 rfl) ?_
  refine lv_iconst (v := 0) X.1 X.2.1 dX11_run_17 (by decide) ?_
  refine lv_iconst (v := 3) X.1 X.2.1 dX11_run_18 (by decide) ?_
  refine g_run_i (f := fun u => u) (g_runS [.int 3, .int 0, .int 3] X hK hP hS hC hB (d_outside) (va_cwS 3 X.2.2.2.2 gX11_run_X11_outside rfl rfl rfl (by decide +kernel) ⟨Nat.le_of_ble_eq_true rfl, Nat.le_of_ble_eq_true rfl⟩) rfl hl.1 rfl (Nat.le_of_ble_eq_true rfl) dX11_run_19 (by exact ⟨Nat.zero_le _, Nat.zero_le _⟩)) hS (fun r u H locs hq hP hS => ?_)
  obtain ⟨rfl, rfl⟩ := hq
  have hP : gP D cy B z T I R H := hP
  refine lv_if_eq (tgt := 29) X.1 X.2.1 dX11_run_22 (by decide) (fun c22 => ?_) (fun c22 => ?_)
  · refine lv_iload_n X.1 X.2.1 dX11_run_29 rfl (lv_at hl 3 rfl) ?_
    refine lv_iconst (v := 0) X.1 X.2.1 dX11_run_30 (by decide) ?_
    refine lv_bipush (v := 30) X.1 X.2.1 dX11_run_31 (by decide) ?_
    refine g_run_i (f := fun u => u) (g_runS [.int (nI n), .int 0, .int 30] X hK hP hS hC hB (d_outside) (va_cwS 3 X.2.2.2.2 gX11_run_X11_outside rfl rfl rfl (by decide +kernel) ⟨Nat.le_of_ble_eq_true rfl, Nat.le_of_ble_eq_true rfl⟩) rfl hl.1 rfl (Nat.le_of_ble_eq_true rfl) dX11_run_33 (by exact ⟨Nat.zero_le _, Nat.zero_le _⟩)) hS (fun r u H locs hq hP hS => ?_)
    obtain ⟨rfl, rfl⟩ := hq
    have hP : gP D cy B z T I R H := hP
    refine lv_if_ne (tgt := 46) X.1 X.2.1 dX11_run_36 (by decide) (fun c36 => ?_) (fun c36 => ?_)
    · exact absurd (g_le (a := 0) (b := 30) (x := 0) (y := 30) rfl rfl (by omega) (by omega) (by omega)) (gt_1 c36)
    · refine lv_iload_n X.1 X.2.1 dX11_run_39 rfl (lv_at hl 4 rfl) ?_
      refine g_run_i (f := fun u => u) (g_runS [.int (nI ld)] X hK hP hS hC hB (d_badLoad) (va_cwS 1 X.2.2.2.2 gX11_run_X11_badLoad rfl rfl rfl (by decide +kernel) ⟨Nat.le_of_ble_eq_true rfl, Nat.le_of_ble_eq_true rfl⟩) rfl hl.1 rfl (Nat.le_of_ble_eq_true rfl) dX11_run_40 (by exact ⟨Nat.zero_le _, Nat.zero_le _⟩)) hS (fun r u H locs hq hP hS => ?_)
      obtain ⟨rfl, rfl⟩ := hq
      have hP : gP D cy B z T I R H := hP
      refine lv_if_eq (tgt := 50) X.1 X.2.1 dX11_run_43 (by decide) (fun c43 => ?_) (fun c43 => ?_)
      · refine lv_aload_n X.1 X.2.1 dX11_run_50 rfl (lv_at hl 1 rfl) ?_
        refine g_getr 13 2 X hK hP hTq rfl hinRX11 rfl (by decide) k26 (fun _ h => h) dX11_run_51 (show va_rf (R q 2) = .ref tr from by rw [hR2]; rfl) ?_
        refine lv_aload_n X.1 X.2.1 dX11_run_54 rfl (lv_at hl 1 rfl) ?_
        refine g_getr 13 0 X hK hP hTq rfl hinRX11 rfl (by decide) k17 (fun _ h => h) dX11_run_55 (show va_rf (R q 0) = .ref nw from by rw [hR0]; rfl) ?_
        refine g_run_v (f := fun u => u) (g_runV (k := 12) [.ref nw] X hK hP hS hC hB (d_take hTr hN (by omega) hA hme hsR hst.1 hcas) (cwV 1 X.2.2.2.2 gX11_run_X10_take rfl rfl rfl (by decide +kernel) ⟨Nat.le_of_ble_eq_true rfl, Nat.le_of_ble_eq_true rfl⟩) hTr.t0 rfl rfl hl.1 rfl (Nat.le_of_ble_eq_true rfl) dX11_run_58 (by exact ⟨Nat.zero_le _, Nat.zero_le _⟩)) hS (fun u H locs hq hP hS => ?_)
        obtain ⟨IK1, RK1, rfl, hAt, ⟨hm1K1, hm2K1⟩, hknK1, hfIK1, hfRK1⟩ := hq
        have hP : gP D cy B z T IK1 RK1 H := hP
        have hQK1 : cQ q I IK1 R RK1 := ⟨fun c j h => hfIK1 c j (by unfold qF at h; unfold tkW; omega), fun c j h => hfRK1 c j (by unfold qR at h; omega) (by unfold qR at h; omega)⟩
        have hfK1 := hQK1.1
        have hgK1 := hQK1.2
        have hTp := hTp0.fr hQK1.2
        obtain ⟨-, -, -, hTq, hR0, hR1, hR2, hR3, hR4, hN, hKp, hTr, hTrd, hTl⟩ := hTp
        have hA : cA nw IK1 σ := hA.k (fun c j h1 h2 => hfK1 c j (by unfold qF; omega))
        have hBb : cB nw IK1 σ := hBb.k (fun c j h1 h2 => hfK1 c j (by unfold qF; omega))
        have hm : cMn T IK1 σ μ b := hm.k (fun j => hfK1 b j (by unfold qF; omega))
        have hsR : RK1 nw 12 = some a := (hgK1 _ _ (by unfold qR; omega)).trans hsR
        have hst : cSt a T RK1 := hst.fr (fun j => hgK1 _ _ (by unfold qR; omega))
        have hsi : cSi a IK1 fl ti sh := hsi.k (fun c j g1 g2 => hfK1 c j (by unfold qF; omega))
        have hal : cAll tr b a μ T IK1 RK1 σ fl ti sh K := cAll.of (q := q) hTr hAt hm hb65 hfa hst hsi hm2K1 hG hb hμ hμn (by omega) (by omega)
        have hCt : cC tr IK1 fl σ := cC.fg (fun c h1 h2 => hknK1 c h1 h2)
        refine lv_iconst (v := 0) X.1 X.2.1 dX11_run_61 (by decide) ?_
        refine lv_istore (lv' := [(6, .int 0), (5, .ref b), (0, .ref q), (1, .int (nI μ)), (2, .int (nI n)), (3, .int (nI ld)), (4, .int 3)]) X.1 X.2.1 dX11_run_62 hl (by decide) rfl (fun ls hl => ?_)
        refine i_loop (I := IK1) n 64 [] (fun k Q9 ls => (cAll tr b a μ T Q9 RK1 (sIt fl ti sh σ μ ld k) fl ti sh (K + 300000 * k) ∧ cC tr Q9 fl (sIt fl ti sh σ μ ld k) ∧ ∀ c j, ¬ kW tr c j → Q9 c j = IK1 c j) ∧ lv_has ls 7 [(0, .ref q), (1, .int (nI μ)), (2, .int (nI n)), (3, .int (nI ld)), (4, .int 3), (5, .ref b), (6, .int (nI k))]) 0 (by omega) ⟨⟨hal, hCt, fun _ _ _ => rfl⟩, lv_sub hl [2, 3, 4, 5, 6, 1, 0] rfl⟩ hP hS (fun k Q9 H locs ls hk hiv hP hS ih => ?_)
        obtain ⟨⟨hal9, hcc9, hko9⟩, hl⟩ := hiv
        have hAt := hal9.2.1
        have hb9 := hal9.2.2.2.2.2.2.2.2.2.1
        have hse := sSe_le' hG hb9 hμ ld
        have hA : cA nw Q9 σ := hA.k (fun c j h1 h2 => hko9 c j (by unfold kW; omega))
        have hBb : cB nw Q9 σ := hBb.k (fun c j h1 h2 => hko9 c j (by unfold kW; omega))
        have hm : cMn T Q9 σ μ b := hm.k (fun j => hko9 b j (by unfold kW; omega))
        refine lv_iload X.1 X.2.1 dX11_run_64 (lv_at hl 6 rfl) ?_
        refine lv_iload_n X.1 X.2.1 dX11_run_66 rfl (lv_at hl 2 rfl) ?_
        refine lv_icmp_ge (tgt := 95) X.1 X.2.1 dX11_run_67 (by decide) (fun c67 => ?_) (fun c67 => ?_)
        · have n67 : n ≤ k := gq_le c67 (Eq.refl (nI n)) (Eq.refl (nI k)) (by omega) (by omega)
          have him := sIt_m (σ := σ) (fl := fl) (ti := ti) (sh := sh) (μ := μ) (ld := ld) k
          refine lv_aload_n X.1 X.2.1 dX11_run_95 rfl (lv_at hl 0 rfl) ?_
          refine g_getr 13 2 X hK hP hTq rfl hinRX11 rfl (by decide) k26 (fun _ h => h) dX11_run_96 (show va_rf (RK1 q 2) = .ref tr from by rw [hR2]; rfl) ?_
          refine g_geti 12 9 X hK hP hTr.t0 rfl hinRX10 rfl (by decide) k83 (fun _ h => h) dX11_run_99 (show Q9 tr 9 = nI (sIt fl ti sh σ μ ld k 1) from hAt.2.2.2.2.1) ?_
          refine lv_aload_n X.1 X.2.1 dX11_run_102 rfl (lv_at hl 0 rfl) ?_
          refine g_getr 13 0 X hK hP hTq rfl hinRX11 rfl (by decide) k17 (fun _ h => h) dX11_run_103 (show va_rf (RK1 q 0) = .ref nw from by rw [hR0]; rfl) ?_
          refine g_geti 12 9 X hK hP hN.t0 rfl hinRX10 rfl (by decide) k83 (fun _ h => h) dX11_run_106 (show Q9 nw 9 = nI (σ 1) from hA.2.2.2.2.1) ?_
          refine lv_isub X.1 X.2.1 dX11_run_109 ?_
          refine lv_istore (lv' := [(6, .int ((nI (sIt fl ti sh σ μ ld k 1)) - (nI (σ 1)))), (0, .ref q), (1, .int (nI μ)), (2, .int (nI n)), (3, .int (nI ld)), (4, .int 3), (5, .ref b)]) X.1 X.2.1 dX11_run_110 hl (by decide) rfl (fun ls hl => ?_)
          refine lv_iload X.1 X.2.1 dX11_run_112 (lv_at hl 5 rfl) ?_
          refine lv_tableOut (tgt := 173) X.1 X.2.1 dX11_run_114 (by decide) (by decide) ?_
          refine lv_aload_n X.1 X.2.1 dX11_run_173 rfl (lv_at hl 1 rfl) ?_
          refine g_getr 13 0 X hK hP hTq rfl hinRX11 rfl (by decide) k17 (fun _ h => h) dX11_run_174 (show va_rf (RK1 q 0) = .ref nw from by rw [hR0]; rfl) ?_
          refine g_geti 12 8 X hK hP hN.t0 rfl hinRX10 rfl (by decide) k80 (fun _ h => h) dX11_run_177 (show Q9 nw 8 = nI (σ 0) from hA.2.2.2.1) ?_
          refine lv_aload_n X.1 X.2.1 dX11_run_180 rfl (lv_at hl 1 rfl) ?_
          refine g_getr 13 2 X hK hP hTq rfl hinRX11 rfl (by decide) k26 (fun _ h => h) dX11_run_181 (show va_rf (RK1 q 2) = .ref tr from by rw [hR2]; rfl) ?_
          refine g_geti 12 8 X hK hP hTr.t0 rfl hinRX10 rfl (by decide) k80 (fun _ h => h) dX11_run_184 (show Q9 tr 8 = nI (sIt fl ti sh σ μ ld k 0) from hAt.2.2.2.1) ?_
          refine lv_isub X.1 X.2.1 dX11_run_187 ?_
          refine lv_iload X.1 X.2.1 dX11_run_188 (lv_at hl 0 rfl) ?_
          refine lv_isub X.1 X.2.1 dX11_run_190 ?_
          have hkn9 : k = n := by omega
          exact g_iret (f := fun u => u) (z, T, Q9, RK1) X hr hlk hK hP hS dX11_run_191 ⟨((gn_sub (gn_sub (Eq.refl (nI (σ 0))) (Eq.refl (nI (sIt fl ti sh σ μ ld k 0))) (by omega)) (gn_sub (Eq.refl (nI (sIt fl ti sh σ μ ld k 1))) (Eq.refl (nI (σ 1))) (by omega)) (by omega))).trans (by rw [hkn9]; rfl), Q9, RK1, rfl, hQK1.kw htr hko9⟩
        · have n67 : k < n := gq_nle c67 (Eq.refl (nI n)) (Eq.refl (nI k)) (by omega) (by omega)
          refine lv_aload_n X.1 X.2.1 dX11_run_70 rfl (lv_at hl 0 rfl) ?_
          refine g_getr 13 2 X hK hP hTq rfl hinRX11 rfl (by decide) k26 (fun _ h => h) dX11_run_71 (show va_rf (RK1 q 2) = .ref tr from by rw [hR2]; rfl) ?_
          refine lv_aload X.1 X.2.1 dX11_run_74 (lv_at hl 5 rfl) ?_
          refine lv_aload_n X.1 X.2.1 dX11_run_76 rfl (lv_at hl 0 rfl) ?_
          refine g_getr 13 2 X hK hP hTq rfl hinRX11 rfl (by decide) k26 (fun _ h => h) dX11_run_77 (show va_rf (RK1 q 2) = .ref tr from by rw [hR2]; rfl) ?_
          refine lv_aload X.1 X.2.1 dX11_run_80 (lv_at hl 5 rfl) ?_
          refine lv_iload_n X.1 X.2.1 dX11_run_82 rfl (lv_at hl 3 rfl) ?_
          refine g_run_q (f := fun u => u) (g_runV (k := 12) [.ref b, .int (nI ld)] X hK hP hS hC hB (d_plan hal9 hcc9 hld) (cwV 2 X.2.2.2.2 gX11_run_X10_plan rfl rfl rfl (by decide +kernel) ⟨Nat.le_of_ble_eq_true rfl, Nat.le_of_ble_eq_true rfl⟩) hTr.t0 rfl rfl hl.1 rfl (Nat.le_of_ble_eq_true rfl) dX11_run_83 (by exact ⟨Nat.zero_le _, Nat.zero_le _⟩)) hS (fun r u H locs hq hP hS => ?_)
          obtain ⟨hr9, IP2, rfl, htpP2, hccP2, hfrP2⟩ := hq
          subst hr9
          have hP : gP D cy B z T IP2 RK1 H := hP
          have hallP2 := hal9.k (I' := IP2) (fun c j h => hfrP2 c j (by omega))
          refine g_run_v (f := fun u => u) (g_runV (k := 12) [.ref b, .ref (tr + 11 + μ)] X hK hP hS hC hB (d_finish hallP2 hccP2 htpP2 (by omega)) (cwV 2 X.2.2.2.2 gX11_run_X10_finish rfl rfl rfl (by decide +kernel) ⟨Nat.le_of_ble_eq_true rfl, Nat.le_of_ble_eq_true rfl⟩) hTr.t0 rfl rfl hl.1 rfl (Nat.le_of_ble_eq_true rfl) dX11_run_86 (by exact ⟨Nat.zero_le _, Nat.zero_le _⟩)) hS (fun u H locs hq hP hS => ?_)
          obtain ⟨IG3, rfl, ⟨hAG3, hCG3⟩, hfG3⟩ := hq
          have hP : gP D cy B z T IG3 RK1 H := hP
          refine lv_iinc (v := nI (k + 1)) (lv' := [(6, .int (nI (k + 1))), (0, .ref q), (1, .int (nI μ)), (2, .int (nI n)), (3, .int (nI ld)), (4, .int 3), (5, .ref b)]) X.1 X.2.1 dX11_run_89 hl (k := 6) rfl (gn_inc (Eq.refl (nI k)) 1) (by decide) rfl (fun ls hl => ?_)
          refine lv_goto (tgt := 64) X.1 X.2.1 dX11_run_92 (by decide) ?_
          have hfG3x : ∀ c j, ¬ kW tr c j → IG3 c j = Q9 c j := fun c j h => (by unfold kW at h; exact (hfG3 c j (by omega) (by omega) (by omega) (by omega)).trans (hfrP2 c j (by omega)))
          exact ih _ _ _ _ (by omega) ⟨⟨(hal9.go hAG3 (fun i hi => sGo_18 hμ hi) (sBd_le (K' := K + 300000 * (k + 1)) (sBd_go' hG hb9 hμ ld) (by omega)) hfG3x), hCG3, fun c j h => (hfG3x c j h).trans (hko9 c j h)⟩, lv_sub hl [1, 2, 3, 4, 5, 6, 0] rfl⟩ hP hS
      · exact absurd (g_le (a := 1) (b := 20) (x := 1) (y := 20) rfl rfl (by omega) (by omega) (by omega)) (gt_1 c43)
  · exact absurd (by decide) (gt_1 c22)

set_option maxHeartbeats 4000000 in
set_option maxRecDepth 100000 in
/-- t_looked_n -/
theorem t_looked_n (hTp : cTop q nw kp tr T R) (hNw : cNw q nw T I R σ fl ti sh) (hG : sGd fl ti sh) (hb : sBd σ K) {v : Int32} (hno : ¬ (0 ≤ v ∧ v ≤ nI (σ 38) - 1)) (x : Int32) : Met l yX11_looked wsX11_looked ({ frames := 1, cells := 0, slots := 0, locals := 21 }) (va_Pc [.ref q, .int v, .int x] (gW0 s0 D cy B (z, T, I, R))) (va_Qi (fun r u => r = -1 ∧ (z, T, I, R) = u) (fun u t => gW1 D cy B u t) (gA B)) 0 0 (gA B) := by
  refine g_met (maxL := 6) (ret := (some .int)) (by decide) rfl (Nat.le_of_ble_eq_true rfl) (fun p e s m args below meth c ls X hr hlk hnm hK hP hC hS hl => ?_)
  have hl : lv_has ls 6 [(0, .ref q), (1, .int v), (2, .int x)] := hl
  have hP : gP D cy B z T I R s.heap := hP
  have hB : B ≤ s.heap.size := by rw [hP.1]; exact hP.2.1
  have hinRX11 : ∀ w ∈ wsX110, w ∈ wsX11_looked := fun _ h => List.mem_cons_of_mem _ (List.mem_append_left _ (List.mem_append_left _ (List.mem_append_left _ (List.mem_append_left _ (List.mem_append_left _ (List.mem_append_left _ (List.mem_append_left _ (List.mem_append_left _ (List.mem_append_left _ (List.mem_append_left _ (List.mem_append_right _ h)))))))))))
  have k17 : Cond.fieldLink RX11 17 "BarrowPlank" "now" "LBarrowPlank$Works;" ∈ wsX11_looked := by decide +kernel
  have k26 : Cond.fieldLink RX11 26 "BarrowPlank" "trial" "LBarrowPlank$Works;" ∈ wsX11_looked := by decide +kernel
  have k147 : Cond.fieldLink RX11 147 "BarrowPlank$Trip" "seconds" "I" ∈ wsX11_looked := by decide +kernel
  have k197 : Cond.fieldLink RX11 197 "BarrowPlank$Works" "notes" "I" ∈ wsX11_looked := by decide +kernel
  have k200 : Cond.fieldLink RX11 200 "BarrowPlank$Works" "noted" "[I" ∈ wsX11_looked := by decide +kernel
  have hTp0 := hTp
  have hNw0 := hNw
  obtain ⟨hnw, hkp, htr, hTq, hR0, hR1, hR2, hR3, hR4, hN, hKp, hTr, hTrd, hTl⟩ := hTp
  obtain ⟨hA, hBb, hmen, hme, a, hsR, hst, hsi, hfa⟩ := hNw
  have h38 := hb.2.2.2.2.1
  have h0 := hb.1
  refine lv_aload_n X.1 X.2.1 dX11_looked_0 rfl (lv_at hl 0 rfl) ?_
  refine g_getr 13 0 X hK hP hTq rfl hinRX11 rfl (by decide) k17 (fun _ h => h) dX11_looked_1 (show va_rf (R q 0) = .ref nw from by rw [hR0]; rfl) ?_
  refine lv_iload_n X.1 X.2.1 dX11_looked_4 rfl (lv_at hl 1 rfl) ?_
  refine g_run_q (f := fun u => u) (g_runV (k := 12) [.int v] X hK hP hS hC hB (d_find_n (σ := σ) hN (hA.2.2.1) h38 hno) (cwV 1 X.2.2.2.2 gX11_looked_X10_find rfl rfl rfl (by decide +kernel) ⟨Nat.le_of_ble_eq_true rfl, Nat.le_of_ble_eq_true rfl⟩) hN.t0 rfl rfl hl.1 rfl (Nat.le_of_ble_eq_true rfl) dX11_looked_5 (by exact ⟨Nat.zero_le _, Nat.zero_le _⟩)) hS (fun r u H locs hq hP hS => ?_)
  obtain ⟨rfl, rfl⟩ := hq
  have hP : gP D cy B z T I R H := hP
  refine lv_astore_nN (lv' := [(3, .null), (0, .ref q), (1, .int v), (2, .int x)]) X.1 X.2.1 dX11_looked_8 rfl hl (by decide) rfl (fun ls hl => ?_)
  refine lv_aload_nN X.1 X.2.1 dX11_looked_9 rfl (lv_at hl 0 rfl) ?_
  refine lv_ifnonnullN X.1 X.2.1 dX11_looked_10 ?_
  refine lv_iconst (v := (-1)) X.1 X.2.1 dX11_looked_13 (by decide) ?_
  exact g_iret (f := fun u => u) (z, T, I, R) X hr hlk hK hP hS dX11_looked_14 ⟨rfl, rfl⟩

set_option maxHeartbeats 4000000 in
set_option maxRecDepth 100000 in
/-- t_looked_b -/
theorem t_looked_b (hTp : cTop q nw kp tr T R) (hNw : cNw q nw T I R σ fl ti sh) (hG : sGd fl ti sh) (hb : sBd σ K) {μ : Nat} (hμn : μ < σ 38) {x : Int32} (hbad : ¬ (1 ≤ x ∧ x ≤ 20)) : Met l yX11_looked wsX11_looked ({ frames := 2, cells := 0, slots := 0, locals := 42 }) (va_Pc [.ref q, .int (nI μ), .int x] (gW0 s0 D cy B (z, T, I, R))) (va_Qi (fun r u => r = -2 ∧ (z, T, I, R) = u) (fun u t => gW1 D cy B u t) (gA B)) 0 0 (gA B) := by
  refine g_met (maxL := 6) (ret := (some .int)) (by decide) rfl (Nat.le_of_ble_eq_true rfl) (fun p e s m args below meth c ls X hr hlk hnm hK hP hC hS hl => ?_)
  have hl : lv_has ls 6 [(0, .ref q), (1, .int (nI μ)), (2, .int x)] := hl
  have hP : gP D cy B z T I R s.heap := hP
  have hB : B ≤ s.heap.size := by rw [hP.1]; exact hP.2.1
  have hinRX11 : ∀ w ∈ wsX110, w ∈ wsX11_looked := fun _ h => List.mem_cons_of_mem _ (List.mem_append_left _ (List.mem_append_left _ (List.mem_append_left _ (List.mem_append_left _ (List.mem_append_left _ (List.mem_append_left _ (List.mem_append_left _ (List.mem_append_left _ (List.mem_append_left _ (List.mem_append_left _ (List.mem_append_right _ h)))))))))))
  have hin7 : ∀ κ, κ ≤ 6 → ∀ w ∈ mws κ, w ∈ wsX11_looked := fun κ hκ => by
    rcases k7 hκ with rfl | rfl | rfl | rfl | rfl | rfl | rfl
    · exact fun _ h => List.mem_cons_of_mem _ (List.mem_append_left _ (List.mem_append_left _ (List.mem_append_left _ (List.mem_append_left _ (List.mem_append_left _ (List.mem_append_right _ h))))))
    · exact fun _ h => List.mem_cons_of_mem _ (List.mem_append_left _ (List.mem_append_left _ (List.mem_append_left _ (List.mem_append_left _ (List.mem_append_left _ (List.mem_append_left _ (List.mem_append_left _ (List.mem_append_right _ h))))))))
    · exact fun _ h => List.mem_cons_of_mem _ (List.mem_append_left _ (List.mem_append_right _ h))
    · exact fun _ h => List.mem_cons_of_mem _ (List.mem_append_left _ (List.mem_append_left _ (List.mem_append_left _ (List.mem_append_right _ h))))
    · exact fun _ h => List.mem_cons_of_mem _ (List.mem_append_left _ (List.mem_append_left _ (List.mem_append_left _ (List.mem_append_left _ (List.mem_append_left _ (List.mem_append_left _ (List.mem_append_right _ h)))))))
    · exact fun _ h => List.mem_cons_of_mem _ (List.mem_append_left _ (List.mem_append_left _ (List.mem_append_right _ h)))
    · exact fun _ h => List.mem_cons_of_mem _ (List.mem_append_left _ (List.mem_append_left _ (List.mem_append_left _ (List.mem_append_left _ (List.mem_append_right _ h)))))
  have k17 : Cond.fieldLink RX11 17 "BarrowPlank" "now" "LBarrowPlank$Works;" ∈ wsX11_looked := by decide +kernel
  have k26 : Cond.fieldLink RX11 26 "BarrowPlank" "trial" "LBarrowPlank$Works;" ∈ wsX11_looked := by decide +kernel
  have k147 : Cond.fieldLink RX11 147 "BarrowPlank$Trip" "seconds" "I" ∈ wsX11_looked := by decide +kernel
  have k197 : Cond.fieldLink RX11 197 "BarrowPlank$Works" "notes" "I" ∈ wsX11_looked := by decide +kernel
  have k200 : Cond.fieldLink RX11 200 "BarrowPlank$Works" "noted" "[I" ∈ wsX11_looked := by decide +kernel
  have hTp0 := hTp
  have hNw0 := hNw
  obtain ⟨hnw, hkp, htr, hTq, hR0, hR1, hR2, hR3, hR4, hN, hKp, hTr, hTrd, hTl⟩ := hTp
  obtain ⟨hA, hBb, hmen, hme, a, hsR, hst, hsi, hfa⟩ := hNw
  have h38 := hb.2.2.2.2.1
  have h0 := hb.1
  have hμ : μ < 4 := Nat.lt_of_lt_of_le hμn h38
  obtain ⟨b, hbm, hm, hb65⟩ := hmen μ hμn
  obtain ⟨hk6, hv9, hs20⟩ := hb.2.2.2.2.2.2.2.2.1 μ hμ
  have ht9 := hb.2.2.1 μ hμ
  refine lv_aload_n X.1 X.2.1 dX11_looked_0 rfl (lv_at hl 0 rfl) ?_
  refine g_getr 13 0 X hK hP hTq rfl hinRX11 rfl (by decide) k17 (fun _ h => h) dX11_looked_1 (show va_rf (R q 0) = .ref nw from by rw [hR0]; rfl) ?_
  refine lv_iload_n X.1 X.2.1 dX11_looked_4 rfl (lv_at hl 1 rfl) ?_
  refine g_run_q (f := fun u => u) (g_runV (k := 12) [.int (nI μ)] X hK hP hS hC hB (d_find (σ := σ) hN (hA.2.2.1) h38 hμn hbm) (cwV 1 X.2.2.2.2 gX11_looked_X10_find rfl rfl rfl (by decide +kernel) ⟨Nat.le_of_ble_eq_true rfl, Nat.le_of_ble_eq_true rfl⟩) hN.t0 rfl rfl hl.1 rfl (Nat.le_of_ble_eq_true rfl) dX11_looked_5 (by exact ⟨Nat.zero_le _, Nat.zero_le _⟩)) hS (fun r u H locs hq hP hS => ?_)
  obtain ⟨rfl, rfl⟩ := hq
  have hP : gP D cy B z T I R H := hP
  refine lv_astore_n (lv' := [(3, .ref b), (0, .ref q), (1, .int (nI μ)), (2, .int x)]) X.1 X.2.1 dX11_looked_8 rfl hl (by decide) rfl (fun ls hl => ?_)
  refine lv_aload_n X.1 X.2.1 dX11_looked_9 rfl (lv_at hl 0 rfl) ?_
  refine lv_ifnonnull (tgt := 15) X.1 X.2.1 dX11_looked_10 (by decide) ?_
  refine lv_iload_n X.1 X.2.1 dX11_looked_15 rfl (lv_at hl 3 rfl) ?_
  refine g_run_i (f := fun u => u) (g_runS [.int x] X hK hP hS hC hB (d_badLoad) (va_cwS 1 X.2.2.2.2 gX11_looked_X11_badLoad rfl rfl rfl (by decide +kernel) ⟨Nat.le_of_ble_eq_true rfl, Nat.le_of_ble_eq_true rfl⟩) rfl hl.1 rfl (Nat.le_of_ble_eq_true rfl) dX11_looked_16 (by exact ⟨Nat.zero_le _, Nat.zero_le _⟩)) hS (fun r u H locs hq hP hS => ?_)
  obtain ⟨rfl, rfl⟩ := hq
  have hP : gP D cy B z T I R H := hP
  refine lv_if_eq (tgt := 25) X.1 X.2.1 dX11_looked_19 (by decide) (fun c19 => ?_) (fun c19 => ?_)
  · exact absurd hbad (gt_0 c19)
  · refine lv_bipush (v := (-2)) X.1 X.2.1 dX11_looked_22 (by decide) ?_
    exact g_iret (f := fun u => u) (z, T, I, R) X hr hlk hK hP hS dX11_looked_24 ⟨rfl, rfl⟩

theorem sLk_n {μ ld n k : Nat} (hk : k < n) (h : ¬ sSe fl sh (sIt fl ti sh σ μ ld k) μ ld = σ (56 + k)) : sLk fl ti sh σ μ ld (n - k) k = some k := by
  rw [show n - k = (n - (k + 1)) + 1 by omega]
  exact if_neg h
theorem sLk_y {μ ld n k : Nat} (hk : k < n) (h : sSe fl sh (sIt fl ti sh σ μ ld k) μ ld = σ (56 + k)) : sLk fl ti sh σ μ ld (n - k) k = sLk fl ti sh σ μ ld (n - (k + 1)) (k + 1) := by
  rw [show n - k = (n - (k + 1)) + 1 by omega]
  exact if_pos h
set_option maxHeartbeats 4000000 in
set_option maxRecDepth 100000 in
/-- t_looked -/
theorem t_looked (hTp : cTop q nw kp tr T R) (hNw : cNw q nw T I R σ fl ti sh) (hG : sGd fl ti sh) (hb : sBd σ K) (hcas : gCas s0) {μ : Nat} (hμn : μ < σ 38) {ld : Nat} (hl1 : 1 ≤ ld) (hld : ld ≤ 20) (hKb : K ≤ 25000000) : Met l yX11_looked wsX11_looked ({ frames := 5, cells := 0, slots := 0, locals := 124 }) (va_Pc [.ref q, .int (nI μ), .int (nI ld)] (gW0 s0 D cy B (z, T, I, R))) (va_Qi (fun r u => r = oI (sLk fl ti sh σ μ ld (σ 40) 0) ∧ ∃ I' R', u = (z, T, I', R') ∧ cQ q I I' R R') (fun u t => gW1 D cy B u t) (gA B)) 0 0 (gA B) := by
  refine g_met (maxL := 6) (ret := (some .int)) (by decide) rfl (Nat.le_of_ble_eq_true rfl) (fun p e s m args below meth c ls X hr hlk hnm hK hP hC hS hl => ?_)
  have hl : lv_has ls 6 [(0, .ref q), (1, .int (nI μ)), (2, .int (nI ld))] := hl
  have hP : gP D cy B z T I R s.heap := hP
  have hB : B ≤ s.heap.size := by rw [hP.1]; exact hP.2.1
  have hinRX10 : ∀ w ∈ wsX100, w ∈ wsX11_looked := fun _ h => List.mem_cons_of_mem _ (List.mem_append_left _ (List.mem_append_left _ (List.mem_append_left _ (List.mem_append_left _ (List.mem_append_left _ (List.mem_append_left _ (List.mem_append_left _ (List.mem_append_left _ (List.mem_append_left _ (List.mem_append_right _ h))))))))))
  have hinRX11 : ∀ w ∈ wsX110, w ∈ wsX11_looked := fun _ h => List.mem_cons_of_mem _ (List.mem_append_left _ (List.mem_append_left _ (List.mem_append_left _ (List.mem_append_left _ (List.mem_append_left _ (List.mem_append_left _ (List.mem_append_left _ (List.mem_append_left _ (List.mem_append_left _ (List.mem_append_left _ (List.mem_append_right _ h)))))))))))
  have hinRX8 : ∀ w ∈ wsX80, w ∈ wsX11_looked := fun _ h => List.mem_cons_of_mem _ (List.mem_append_left _ (List.mem_append_left _ (List.mem_append_left _ (List.mem_append_left _ (List.mem_append_left _ (List.mem_append_left _ (List.mem_append_left _ (List.mem_append_left _ (List.mem_append_right _ h)))))))))
  have hin7 : ∀ κ, κ ≤ 6 → ∀ w ∈ mws κ, w ∈ wsX11_looked := fun κ hκ => by
    rcases k7 hκ with rfl | rfl | rfl | rfl | rfl | rfl | rfl
    · exact fun _ h => List.mem_cons_of_mem _ (List.mem_append_left _ (List.mem_append_left _ (List.mem_append_left _ (List.mem_append_left _ (List.mem_append_left _ (List.mem_append_right _ h))))))
    · exact fun _ h => List.mem_cons_of_mem _ (List.mem_append_left _ (List.mem_append_left _ (List.mem_append_left _ (List.mem_append_left _ (List.mem_append_left _ (List.mem_append_left _ (List.mem_append_left _ (List.mem_append_right _ h))))))))
    · exact fun _ h => List.mem_cons_of_mem _ (List.mem_append_left _ (List.mem_append_right _ h))
    · exact fun _ h => List.mem_cons_of_mem _ (List.mem_append_left _ (List.mem_append_left _ (List.mem_append_left _ (List.mem_append_right _ h))))
    · exact fun _ h => List.mem_cons_of_mem _ (List.mem_append_left _ (List.mem_append_left _ (List.mem_append_left _ (List.mem_append_left _ (List.mem_append_left _ (List.mem_append_left _ (List.mem_append_right _ h)))))))
    · exact fun _ h => List.mem_cons_of_mem _ (List.mem_append_left _ (List.mem_append_left _ (List.mem_append_right _ h)))
    · exact fun _ h => List.mem_cons_of_mem _ (List.mem_append_left _ (List.mem_append_left _ (List.mem_append_left _ (List.mem_append_left _ (List.mem_append_right _ h)))))
  have k17 : Cond.fieldLink RX11 17 "BarrowPlank" "now" "LBarrowPlank$Works;" ∈ wsX11_looked := by decide +kernel
  have k26 : Cond.fieldLink RX11 26 "BarrowPlank" "trial" "LBarrowPlank$Works;" ∈ wsX11_looked := by decide +kernel
  have k147 : Cond.fieldLink RX11 147 "BarrowPlank$Trip" "seconds" "I" ∈ wsX11_looked := by decide +kernel
  have k197 : Cond.fieldLink RX11 197 "BarrowPlank$Works" "notes" "I" ∈ wsX11_looked := by decide +kernel
  have k200 : Cond.fieldLink RX11 200 "BarrowPlank$Works" "noted" "[I" ∈ wsX11_looked := by decide +kernel
  have hTp0 := hTp
  have hNw0 := hNw
  obtain ⟨hnw, hkp, htr, hTq, hR0, hR1, hR2, hR3, hR4, hN, hKp, hTr, hTrd, hTl⟩ := hTp
  obtain ⟨hA, hBb, hmen, hme, a, hsR, hst, hsi, hfa⟩ := hNw
  have h38 := hb.2.2.2.2.1
  have h0 := hb.1
  have hμ : μ < 4 := Nat.lt_of_lt_of_le hμn h38
  obtain ⟨b, hbm, hm, hb65⟩ := hmen μ hμn
  obtain ⟨hk6, hv9, hs20⟩ := hb.2.2.2.2.2.2.2.2.1 μ hμ
  have ht9 := hb.2.2.1 μ hμ
  have h40 := hb.2.2.2.2.2.2.1
  have h56 := hb.2.2.2.2.2.2.2.2.2.1
  refine lv_aload_n X.1 X.2.1 dX11_looked_0 rfl (lv_at hl 0 rfl) ?_
  refine g_getr 13 0 X hK hP hTq rfl hinRX11 rfl (by decide) k17 (fun _ h => h) dX11_looked_1 (show va_rf (R q 0) = .ref nw from by rw [hR0]; rfl) ?_
  refine lv_iload_n X.1 X.2.1 dX11_looked_4 rfl (lv_at hl 1 rfl) ?_
  refine g_run_q (f := fun u => u) (g_runV (k := 12) [.int (nI μ)] X hK hP hS hC hB (d_find (σ := σ) hN (hA.2.2.1) h38 hμn hbm) (cwV 1 X.2.2.2.2 gX11_looked_X10_find rfl rfl rfl (by decide +kernel) ⟨Nat.le_of_ble_eq_true rfl, Nat.le_of_ble_eq_true rfl⟩) hN.t0 rfl rfl hl.1 rfl (Nat.le_of_ble_eq_true rfl) dX11_looked_5 (by exact ⟨Nat.zero_le _, Nat.zero_le _⟩)) hS (fun r u H locs hq hP hS => ?_)
  obtain ⟨rfl, rfl⟩ := hq
  have hP : gP D cy B z T I R H := hP
  refine lv_astore_n (lv' := [(3, .ref b), (0, .ref q), (1, .int (nI μ)), (2, .int (nI ld))]) X.1 X.2.1 dX11_looked_8 rfl hl (by decide) rfl (fun ls hl => ?_)
  refine lv_aload_n X.1 X.2.1 dX11_looked_9 rfl (lv_at hl 0 rfl) ?_
  refine lv_ifnonnull (tgt := 15) X.1 X.2.1 dX11_looked_10 (by decide) ?_
  refine lv_iload_n X.1 X.2.1 dX11_looked_15 rfl (lv_at hl 3 rfl) ?_
  refine g_run_i (f := fun u => u) (g_runS [.int (nI ld)] X hK hP hS hC hB (d_badLoad) (va_cwS 1 X.2.2.2.2 gX11_looked_X11_badLoad rfl rfl rfl (by decide +kernel) ⟨Nat.le_of_ble_eq_true rfl, Nat.le_of_ble_eq_true rfl⟩) rfl hl.1 rfl (Nat.le_of_ble_eq_true rfl) dX11_looked_16 (by exact ⟨Nat.zero_le _, Nat.zero_le _⟩)) hS (fun r u H locs hq hP hS => ?_)
  obtain ⟨rfl, rfl⟩ := hq
  have hP : gP D cy B z T I R H := hP
  refine lv_if_eq (tgt := 25) X.1 X.2.1 dX11_looked_19 (by decide) (fun c19 => ?_) (fun c19 => ?_)
  · refine lv_aload_n X.1 X.2.1 dX11_looked_25 rfl (lv_at hl 1 rfl) ?_
    refine g_getr 13 2 X hK hP hTq rfl hinRX11 rfl (by decide) k26 (fun _ h => h) dX11_looked_26 (show va_rf (R q 2) = .ref tr from by rw [hR2]; rfl) ?_
    refine lv_aload_n X.1 X.2.1 dX11_looked_29 rfl (lv_at hl 1 rfl) ?_
    refine g_getr 13 0 X hK hP hTq rfl hinRX11 rfl (by decide) k17 (fun _ h => h) dX11_looked_30 (show va_rf (R q 0) = .ref nw from by rw [hR0]; rfl) ?_
    refine g_run_v (f := fun u => u) (g_runV (k := 12) [.ref nw] X hK hP hS hC hB (d_take hTr hN (by omega) hA hme hsR hst.1 hcas) (cwV 1 X.2.2.2.2 gX11_looked_X10_take rfl rfl rfl (by decide +kernel) ⟨Nat.le_of_ble_eq_true rfl, Nat.le_of_ble_eq_true rfl⟩) hTr.t0 rfl rfl hl.1 rfl (Nat.le_of_ble_eq_true rfl) dX11_looked_33 (by exact ⟨Nat.zero_le _, Nat.zero_le _⟩)) hS (fun u H locs hq hP hS => ?_)
    obtain ⟨IK1, RK1, rfl, hAt, ⟨hm1K1, hm2K1⟩, hknK1, hfIK1, hfRK1⟩ := hq
    have hP : gP D cy B z T IK1 RK1 H := hP
    have hQK1 : cQ q I IK1 R RK1 := ⟨fun c j h => hfIK1 c j (by unfold qF at h; unfold tkW; omega), fun c j h => hfRK1 c j (by unfold qR at h; omega) (by unfold qR at h; omega)⟩
    have hfK1 := hQK1.1
    have hgK1 := hQK1.2
    have hTp := hTp0.fr hQK1.2
    obtain ⟨-, -, -, hTq, hR0, hR1, hR2, hR3, hR4, hN, hKp, hTr, hTrd, hTl⟩ := hTp
    have hA : cA nw IK1 σ := hA.k (fun c j h1 h2 => hfK1 c j (by unfold qF; omega))
    have hBb : cB nw IK1 σ := hBb.k (fun c j h1 h2 => hfK1 c j (by unfold qF; omega))
    have hm : cMn T IK1 σ μ b := hm.k (fun j => hfK1 b j (by unfold qF; omega))
    have hsR : RK1 nw 12 = some a := (hgK1 _ _ (by unfold qR; omega)).trans hsR
    have hst : cSt a T RK1 := hst.fr (fun j => hgK1 _ _ (by unfold qR; omega))
    have hsi : cSi a IK1 fl ti sh := hsi.k (fun c j g1 g2 => hfK1 c j (by unfold qF; omega))
    have hal : cAll tr b a μ T IK1 RK1 σ fl ti sh K := cAll.of (q := q) hTr hAt hm hb65 hfa hst hsi hm2K1 hG hb hμ hμn (by omega) (by omega)
    have hCt : cC tr IK1 fl σ := cC.fg (fun c h1 h2 => hknK1 c h1 h2)
    refine lv_iconst (v := 0) X.1 X.2.1 dX11_looked_36 (by decide) ?_
    refine lv_istore (lv' := [(4, .int 0), (3, .ref b), (0, .ref q), (1, .int (nI μ)), (2, .int (nI ld))]) X.1 X.2.1 dX11_looked_37 hl (by decide) rfl (fun ls hl => ?_)
    refine i_loop (I := IK1) (σ 40) 39 [] (fun k Q9 ls => (cAll tr b a μ T Q9 RK1 (sIt fl ti sh σ μ ld k) fl ti sh (K + 300000 * k) ∧ cC tr Q9 fl (sIt fl ti sh σ μ ld k) ∧ sLk fl ti sh σ μ ld (σ 40) 0 = sLk fl ti sh σ μ ld (σ 40 - k) k ∧ ∀ c j, ¬ kW tr c j → Q9 c j = IK1 c j) ∧ lv_has ls 6 [(0, .ref q), (1, .int (nI μ)), (2, .int (nI ld)), (3, .ref b), (4, .int (nI k))]) 0 (by omega) ⟨⟨hal, hCt, rfl, fun _ _ _ => rfl⟩, lv_sub hl [2, 3, 4, 1, 0] rfl⟩ hP hS (fun k Q9 H locs ls hk hiv hP hS ih => ?_)
    obtain ⟨⟨hal9, hcc9, hx9, hko9⟩, hl⟩ := hiv
    have hAt := hal9.2.1
    have hb9 := hal9.2.2.2.2.2.2.2.2.2.1
    have hse := sSe_le' hG hb9 hμ ld
    have hA : cA nw Q9 σ := hA.k (fun c j h1 h2 => hko9 c j (by unfold kW; omega))
    have hBb : cB nw Q9 σ := hBb.k (fun c j h1 h2 => hko9 c j (by unfold kW; omega))
    have hm : cMn T Q9 σ μ b := hm.k (fun j => hko9 b j (by unfold kW; omega))
    refine lv_iload X.1 X.2.1 dX11_looked_39 (lv_at hl 4 rfl) ?_
    refine lv_aload_n X.1 X.2.1 dX11_looked_41 rfl (lv_at hl 0 rfl) ?_
    refine g_getr 13 0 X hK hP hTq rfl hinRX11 rfl (by decide) k17 (fun _ h => h) dX11_looked_42 (show va_rf (RK1 q 0) = .ref nw from by rw [hR0]; rfl) ?_
    refine g_geti 12 7 X hK hP hN.t0 rfl hinRX10 rfl (by decide) k197 (fun _ h => h) dX11_looked_45 (show Q9 nw 7 = nI (σ 40) from hBb.2.1) ?_
    refine lv_icmp_ge (tgt := 99) X.1 X.2.1 dX11_looked_48 (by decide) (fun c48 => ?_) (fun c48 => ?_)
    · have n48 : (σ 40) ≤ k := gq_le c48 (Eq.refl (nI (σ 40))) (Eq.refl (nI k)) (by omega) (by omega)
      refine lv_bipush (v := (-5)) X.1 X.2.1 dX11_looked_99 (by decide) ?_
      exact g_iret (f := fun u => u) (z, T, Q9, RK1) X hr hlk hK hP hS dX11_looked_101 ⟨(by rw [hx9, show σ 40 - k = 0 by omega]; rfl), Q9, RK1, rfl, hQK1.kw htr hko9⟩
    · have n48 : k < (σ 40) := gq_nle c48 (Eq.refl (nI (σ 40))) (Eq.refl (nI k)) (by omega) (by omega)
      have h56k := h56 k (by omega)
      refine lv_aload_n X.1 X.2.1 dX11_looked_51 rfl (lv_at hl 0 rfl) ?_
      refine g_getr 13 2 X hK hP hTq rfl hinRX11 rfl (by decide) k26 (fun _ h => h) dX11_looked_52 (show va_rf (RK1 q 2) = .ref tr from by rw [hR2]; rfl) ?_
      refine lv_aload_n X.1 X.2.1 dX11_looked_55 rfl (lv_at hl 3 rfl) ?_
      refine lv_iload_n X.1 X.2.1 dX11_looked_56 rfl (lv_at hl 2 rfl) ?_
      refine g_run_q (f := fun u => u) (g_runV (k := 12) [.ref b, .int (nI ld)] X hK hP hS hC hB (d_plan hal9 hcc9 hld) (cwV 2 X.2.2.2.2 gX11_looked_X10_plan rfl rfl rfl (by decide +kernel) ⟨Nat.le_of_ble_eq_true rfl, Nat.le_of_ble_eq_true rfl⟩) hTr.t0 rfl rfl hl.1 rfl (Nat.le_of_ble_eq_true rfl) dX11_looked_57 (by exact ⟨Nat.zero_le _, Nat.zero_le _⟩)) hS (fun r u H locs hq hP hS => ?_)
      obtain ⟨hr9, IP2, rfl, htpP2, hccP2, hfrP2⟩ := hq
      subst hr9
      have hP : gP D cy B z T IP2 RK1 H := hP
      have hallP2 := hal9.k (I' := IP2) (fun c j h => hfrP2 c j (by omega))
      refine lv_astore (lv' := [(5, .ref (tr + 11 + μ)), (0, .ref q), (1, .int (nI μ)), (2, .int (nI ld)), (3, .ref b), (4, .int (nI k))]) X.1 X.2.1 dX11_looked_60 hl (by decide) rfl (fun ls hl => ?_)
      refine lv_aload X.1 X.2.1 dX11_looked_62 (lv_at hl 0 rfl) ?_
      refine g_geti 10 4 X hK hP (hallP2.1.tript hallP2.2.2.2.2.2.2.2.2.2.2.1) rfl hinRX8 rfl (by decide) k147 (fun _ h => h) dX11_looked_64 (show IP2 (tr + 11 + μ) 4 = nI (sSe fl sh (sIt fl ti sh σ μ ld k) μ ld) from htpP2.2.2.1) ?_
      refine lv_aload_n X.1 X.2.1 dX11_looked_67 rfl (lv_at hl 1 rfl) ?_
      refine g_getr 13 0 X hK hP hTq rfl hinRX11 rfl (by decide) k17 (fun _ h => h) dX11_looked_68 (show va_rf (RK1 q 0) = .ref nw from by rw [hR0]; rfl) ?_
      refine g_getr 12 4 X hK hP hN.t0 rfl hinRX10 rfl (by decide) k200 (fun _ h => h) dX11_looked_71 (show va_rf (RK1 nw 4) = .ref (nw + 8) from by rw [(show RK1 nw 4 = some (nw + 8) from hN.r 4 rfl)]; rfl) ?_
      refine lv_iload X.1 X.2.1 dX11_looked_74 (lv_at hl 5 rfl) ?_
      refine g_iald k X hK hP (hN.t 8 rfl) (gIx_of (Eq.refl (nI k)) (by omega) (by omega)) dX11_looked_76 (show IP2 (nw + 8) k = nI (σ (56 + k)) from ((hfrP2 _ _ (by omega)).trans (hBb.2.2.2 k (by omega)))) ?_
      refine lv_icmp_eq (tgt := 83) X.1 X.2.1 dX11_looked_77 (by decide) (fun c77 => ?_) (fun c77 => ?_)
      · have n77 : (sSe fl sh (sIt fl ti sh σ μ ld k) μ ld) = (σ (56 + k)) := gq_eq c77 (Eq.refl (nI (sSe fl sh (sIt fl ti sh σ μ ld k) μ ld))) (Eq.refl (nI (σ (56 + k)))) (by omega) (by omega)
        refine lv_aload_n X.1 X.2.1 dX11_looked_83 rfl (lv_at hl 1 rfl) ?_
        refine g_getr 13 2 X hK hP hTq rfl hinRX11 rfl (by decide) k26 (fun _ h => h) dX11_looked_84 (show va_rf (RK1 q 2) = .ref tr from by rw [hR2]; rfl) ?_
        refine lv_aload_n X.1 X.2.1 dX11_looked_87 rfl (lv_at hl 4 rfl) ?_
        refine lv_aload X.1 X.2.1 dX11_looked_88 (lv_at hl 0 rfl) ?_
        refine g_run_v (f := fun u => u) (g_runV (k := 12) [.ref b, .ref (tr + 11 + μ)] X hK hP hS hC hB (d_finish hallP2 hccP2 htpP2 (by omega)) (cwV 2 X.2.2.2.2 gX11_looked_X10_finish rfl rfl rfl (by decide +kernel) ⟨Nat.le_of_ble_eq_true rfl, Nat.le_of_ble_eq_true rfl⟩) hTr.t0 rfl rfl hl.1 rfl (Nat.le_of_ble_eq_true rfl) dX11_looked_90 (by exact ⟨Nat.zero_le _, Nat.zero_le _⟩)) hS (fun u H locs hq hP hS => ?_)
        obtain ⟨IG3, rfl, ⟨hAG3, hCG3⟩, hfG3⟩ := hq
        have hP : gP D cy B z T IG3 RK1 H := hP
        refine lv_iinc (v := nI (k + 1)) (lv' := [(4, .int (nI (k + 1))), (5, .ref (tr + 11 + μ)), (0, .ref q), (1, .int (nI μ)), (2, .int (nI ld)), (3, .ref b)]) X.1 X.2.1 dX11_looked_93 hl (k := 5) rfl (gn_inc (Eq.refl (nI k)) 1) (by decide) rfl (fun ls hl => ?_)
        refine lv_goto (tgt := 39) X.1 X.2.1 dX11_looked_96 (by decide) ?_
        have hfG3x : ∀ c j, ¬ kW tr c j → IG3 c j = Q9 c j := fun c j h => (by unfold kW at h; exact (hfG3 c j (by omega) (by omega) (by omega) (by omega)).trans (hfrP2 c j (by omega)))
        exact ih _ _ _ _ (by omega) ⟨⟨(hal9.go hAG3 (fun i hi => sGo_18 hμ hi) (sBd_le (K' := K + 300000 * (k + 1)) (sBd_go' hG hb9 hμ ld) (by omega)) hfG3x), hCG3, hx9.trans (sLk_y (by omega) n77), fun c j h => (hfG3x c j h).trans (hko9 c j h)⟩, lv_sub hl [2, 3, 4, 5, 0] rfl⟩ hP hS
      · have n77 : ¬ (sSe fl sh (sIt fl ti sh σ μ ld k) μ ld) = (σ (56 + k)) := gq_ne c77 (Eq.refl (nI (sSe fl sh (sIt fl ti sh σ μ ld k) μ ld))) (Eq.refl (nI (σ (56 + k)))) (by omega) (by omega)
        refine lv_iload X.1 X.2.1 dX11_looked_80 (lv_at hl 5 rfl) ?_
        exact g_iret (f := fun u => u) (z, T, IP2, RK1) X hr hlk hK hP hS dX11_looked_82 ⟨(by rw [hx9, sLk_n (by omega) (fun h => c77 (congrArg nI h))]; rfl), IP2, RK1, rfl, (hQK1.kw htr hko9).k7 htr (fun c j h => hfrP2 c j (by omega))⟩
  · exact absurd (g_le (a := 1) (b := 20) (x := 1) (y := 20) rfl rfl (by omega) (by omega) (by omega)) (gt_1 c19)

end PM