section PC
variable {l : Launch} {s0 : State} {D : va_G} {cy : Nat → ClassId} {B z : Nat} {T : Nat → Nat × Nat} {I : Nat → Nat → Int32} {R : Nat → Nat → Option Nat} {w b μ : Nat} {σ : Nat → Nat} {K : Nat} {fl : List Nat}
set_option maxHeartbeats 4000000 in
set_option maxRecDepth 100000 in
/-- d_comesIn -/
theorem d_comesIn (hW : cWk w T R) (hA : cA w I σ) (hm : cMn T I σ μ b) (hob : oW w b) (h6 : σ (44 + μ) ≤ 6) (hv9 : σ (48 + μ) ≤ 9) (h0 : σ 0 ≤ 999) {ld : Nat} (hld : ld ≤ 20) : Met l yX10_comesIn wsX10_comesIn ({ frames := 1, cells := 0, slots := 0, locals := 21 }) (va_Pc [.ref w, .ref b, .int (nI ld)] (gW0 s0 D cy B (z, T, I, R))) (va_Qi (fun r u => r = nI (sCm σ μ ld) ∧ (z, T, I, R) = u) (fun u t => gW1 D cy B u t) (gA B)) 0 0 (gA B) := by
  refine g_met (maxL := 3) (ret := (some .int)) (by decide) rfl (Nat.le_of_ble_eq_true rfl) (fun p e s m args below meth c ls X hr hlk hnm hK hP hC hS hl => ?_)
  have hl : lv_has ls 3 [(0, .ref w), (1, .ref b), (2, .int (nI ld))] := hl
  have hP : gP D cy B z T I R s.heap := hP
  have hB : B ≤ s.heap.size := by rw [hP.1]; exact hP.2.1
  have hinRX10 : ∀ w ∈ wsX100, w ∈ wsX10_comesIn := fun _ h => List.mem_cons_of_mem _ (List.mem_append_left _ (List.mem_append_left _ (List.mem_append_left _ (List.mem_append_left _ (List.mem_append_left _ (List.mem_append_left _ (List.mem_append_left _ (List.mem_append_right _ h))))))))
  have hin7 : ∀ κ, κ ≤ 6 → ∀ w ∈ mws κ, w ∈ wsX10_comesIn := fun κ hκ => by
    rcases k7 hκ with rfl | rfl | rfl | rfl | rfl | rfl | rfl
    · exact fun _ h => List.mem_cons_of_mem _ (List.mem_append_left _ (List.mem_append_left _ (List.mem_append_left _ (List.mem_append_left _ (List.mem_append_right _ h)))))
    · exact fun _ h => List.mem_cons_of_mem _ (List.mem_append_left _ (List.mem_append_left _ (List.mem_append_left _ (List.mem_append_left _ (List.mem_append_left _ (List.mem_append_left _ (List.mem_append_right _ h)))))))
    · exact fun _ h => List.mem_cons_of_mem _ (List.mem_append_right _ h)
    · exact fun _ h => List.mem_cons_of_mem _ (List.mem_append_left _ (List.mem_append_left _ (List.mem_append_right _ h)))
    · exact fun _ h => List.mem_cons_of_mem _ (List.mem_append_left _ (List.mem_append_left _ (List.mem_append_left _ (List.mem_append_left _ (List.mem_append_left _ (List.mem_append_right _ h))))))
    · exact fun _ h => List.mem_cons_of_mem _ (List.mem_append_left _ (List.mem_append_right _ h))
    · exact fun _ h => List.mem_cons_of_mem _ (List.mem_append_left _ (List.mem_append_left _ (List.mem_append_left _ (List.mem_append_right _ h))))
  have k33 : Cond.fieldLink RX10 33 "BarrowPlank$Works" "earth" "I" ∈ wsX10_comesIn := by decide +kernel
  have hk6 : σ (44 + μ) ≤ 6 := h6
  unfold oW at hob
  have hhp := hpF_le (κ := σ (44 + μ)) hv9
  refine lv_iload_n X.1 X.2.1 dX10_comesIn_0 rfl (lv_at hl 2 rfl) ?_
  refine lv_aload_n X.1 X.2.1 dX10_comesIn_1 rfl (lv_at hl 1 rfl) ?_
  refine g_join 5 [.int (nI (hpF (σ (44 + μ)) (σ (48 + μ)) )), .int (nI ld)] hP hS (fun hgo => ?_) (fun H locs hP hS => ?_)
  · have hk9 : σ (44 + μ) ≤ 6 := hk6
    rcases k7 hk9 with hc9 | hc9 | hc9 | hc9 | hc9 | hc9 | hc9
    · have hty8 : T b = (4 + 8, 0) := by rw [hm.1, hc9]; rfl
      refine g_run_i (f := fun u => u) (g_runV (k := 4) [] X hK hP hS hC hB (v_X2_heaps hk9 hm.1 hm.2.2.2.1  ) (cwV 0 X.2.2.2.2 gX10_comesIn_X2_heaps rfl rfl rfl (by decide +kernel) ⟨Nat.le_of_ble_eq_true rfl, Nat.le_of_ble_eq_true rfl⟩) hty8 rfl rfl hl.1 rfl (Nat.le_of_ble_eq_true rfl) dX10_comesIn_2 (by exact ⟨Nat.zero_le _, Nat.zero_le _⟩)) hS (fun r u H locs hq hP hS => ?_)
      obtain ⟨rfl, rfl⟩ := hq
      have h9 := hgo H locs hP hS
      refine lv_cv (congrArg nI (show 0 = (hpF (σ (44 + μ)) (σ (48 + μ)) ) by rw [hc9]; exact rfl)) ?_
      exact h9
    · have hty8 : T b = (2 + 8, 0) := by rw [hm.1, hc9]; rfl
      refine g_run_i (f := fun u => u) (g_runU (k := 2) [] X hK hP hS hC hB (v_X0_heaps hk9 hm.1 hm.2.2.2.1  ) (va_cwO 0 X.2.2.2.2 gX10_comesIn_X0_heaps_u170X0 rfl rfl rfl (b0 := cX2_heaps) (m0 := 1) (r0 := some .int) (by decide +kernel) ⟨by decide, by decide, by decide +kernel⟩ ⟨Nat.le_of_ble_eq_true rfl, Nat.le_of_ble_eq_true rfl⟩) hty8 rfl rfl hl.1 rfl (Nat.le_of_ble_eq_true rfl) dX10_comesIn_2 (by exact ⟨Nat.zero_le _, Nat.zero_le _⟩)) hS (fun r u H locs hq hP hS => ?_)
      obtain ⟨rfl, rfl⟩ := hq
      have h9 := hgo H locs hP hS
      refine lv_cv (congrArg nI (show (σ (48 + μ)) = (hpF (σ (44 + μ)) (σ (48 + μ)) ) by rw [hc9]; exact rfl)) ?_
      exact h9
    · have hty8 : T b = (11 + 8, 0) := by rw [hm.1, hc9]; rfl
      refine g_run_i (f := fun u => u) (g_runU (k := 11) [] X hK hP hS hC hB (v_X2_heaps hk9 hm.1 hm.2.2.2.1  ) (va_cwU 0 X.2.2.2.2 gX10_comesIn_X2_heaps_u170X9 rfl rfl rfl rfl ⟨by decide, by decide, by decide +kernel⟩ ⟨Nat.le_of_ble_eq_true rfl, Nat.le_of_ble_eq_true rfl⟩) hty8 rfl rfl hl.1 rfl (Nat.le_of_ble_eq_true rfl) dX10_comesIn_2 (by exact ⟨Nat.zero_le _, Nat.zero_le _⟩)) hS (fun r u H locs hq hP hS => ?_)
      obtain ⟨rfl, rfl⟩ := hq
      have h9 := hgo H locs hP hS
      refine lv_cv (congrArg nI (show 0 = (hpF (σ (44 + μ)) (σ (48 + μ)) ) by rw [hc9]; exact rfl)) ?_
      exact h9
    · have hty8 : T b = (8 + 8, 0) := by rw [hm.1, hc9]; rfl
      refine g_run_i (f := fun u => u) (g_runU (k := 8) [] X hK hP hS hC hB (v_X2_heaps hk9 hm.1 hm.2.2.2.1  ) (va_cwU 0 X.2.2.2.2 gX10_comesIn_X2_heaps_u170X6 rfl rfl rfl rfl ⟨by decide, by decide, by decide +kernel⟩ ⟨Nat.le_of_ble_eq_true rfl, Nat.le_of_ble_eq_true rfl⟩) hty8 rfl rfl hl.1 rfl (Nat.le_of_ble_eq_true rfl) dX10_comesIn_2 (by exact ⟨Nat.zero_le _, Nat.zero_le _⟩)) hS (fun r u H locs hq hP hS => ?_)
      obtain ⟨rfl, rfl⟩ := hq
      have h9 := hgo H locs hP hS
      refine lv_cv (congrArg nI (show 0 = (hpF (σ (44 + μ)) (σ (48 + μ)) ) by rw [hc9]; exact rfl)) ?_
      exact h9
    · have hty8 : T b = (3 + 8, 0) := by rw [hm.1, hc9]; rfl
      refine g_run_i (f := fun u => u) (g_runU (k := 3) [] X hK hP hS hC hB (v_X0_heaps hk9 hm.1 hm.2.2.2.1  ) (va_cwO 0 X.2.2.2.2 gX10_comesIn_X0_heaps_u170X1 rfl rfl rfl (b0 := cX2_heaps) (m0 := 1) (r0 := some .int) (by decide +kernel) ⟨by decide, by decide, by decide +kernel⟩ ⟨Nat.le_of_ble_eq_true rfl, Nat.le_of_ble_eq_true rfl⟩) hty8 rfl rfl hl.1 rfl (Nat.le_of_ble_eq_true rfl) dX10_comesIn_2 (by exact ⟨Nat.zero_le _, Nat.zero_le _⟩)) hS (fun r u H locs hq hP hS => ?_)
      obtain ⟨rfl, rfl⟩ := hq
      have h9 := hgo H locs hP hS
      refine lv_cv (congrArg nI (show (σ (48 + μ)) = (hpF (σ (44 + μ)) (σ (48 + μ)) ) by rw [hc9]; exact rfl)) ?_
      exact h9
    · have hty8 : T b = (9 + 8, 0) := by rw [hm.1, hc9]; rfl
      refine g_run_i (f := fun u => u) (g_runU (k := 9) [] X hK hP hS hC hB (v_X2_heaps hk9 hm.1 hm.2.2.2.1  ) (va_cwU 0 X.2.2.2.2 gX10_comesIn_X2_heaps_u170X7 rfl rfl rfl rfl ⟨by decide, by decide, by decide +kernel⟩ ⟨Nat.le_of_ble_eq_true rfl, Nat.le_of_ble_eq_true rfl⟩) hty8 rfl rfl hl.1 rfl (Nat.le_of_ble_eq_true rfl) dX10_comesIn_2 (by exact ⟨Nat.zero_le _, Nat.zero_le _⟩)) hS (fun r u H locs hq hP hS => ?_)
      obtain ⟨rfl, rfl⟩ := hq
      have h9 := hgo H locs hP hS
      refine lv_cv (congrArg nI (show 0 = (hpF (σ (44 + μ)) (σ (48 + μ)) ) by rw [hc9]; exact rfl)) ?_
      exact h9
    · have hty8 : T b = (5 + 8, 0) := by rw [hm.1, hc9]; rfl
      refine g_run_i (f := fun u => u) (g_runU (k := 5) [] X hK hP hS hC hB (v_X2_heaps hk9 hm.1 hm.2.2.2.1  ) (va_cwU 0 X.2.2.2.2 gX10_comesIn_X2_heaps_u170X3 rfl rfl rfl rfl ⟨by decide, by decide, by decide +kernel⟩ ⟨Nat.le_of_ble_eq_true rfl, Nat.le_of_ble_eq_true rfl⟩) hty8 rfl rfl hl.1 rfl (Nat.le_of_ble_eq_true rfl) dX10_comesIn_2 (by exact ⟨Nat.zero_le _, Nat.zero_le _⟩)) hS (fun r u H locs hq hP hS => ?_)
      obtain ⟨rfl, rfl⟩ := hq
      have h9 := hgo H locs hP hS
      refine lv_cv (congrArg nI (show 0 = (hpF (σ (44 + μ)) (σ (48 + μ)) ) by rw [hc9]; exact rfl)) ?_
      exact h9
  refine lv_iadd X.1 X.2.1 dX10_comesIn_5 ?_
  refine lv_bipush (v := 20) X.1 X.2.1 dX10_comesIn_6 (by decide) ?_
  refine va_mmin X.1 X.2.1 (X.2.2.1.trans hl.1.symm) X.2.2.2.1 (X.2.2.2.2 (.methodLink RX10 69 Lib.Math.min.name) (by decide +kernel)) (X.2.2.2.2 (.static Lib.Math.min.name) (by decide +kernel)) (X.2.2.2.2 (.initialized "java/lang/Math") (by decide +kernel)) (X.2.2.2.2 (.code Lib.Math.min.name Lib.Math.min.code 2 (some .int)) (by decide +kernel)) (Nat.le_of_ble_eq_true rfl) (Nat.le_of_ble_eq_true rfl) (Nat.zero_le _) (Nat.zero_le _) dX10_comesIn_8 ?_
  refine lv_cv (gm_min (gn_add (Eq.refl (nI ld)) (Eq.refl (nI (hpF (σ (44 + μ)) (σ (48 + μ)) )))) (show (20 : Int32) = nI 20 from rfl) (by omega) (by omega)) ?_
  refine lv_aload_n X.1 X.2.1 dX10_comesIn_11 rfl (lv_at hl 0 rfl) ?_
  refine g_geti 12 8 X hK hP hW.t0 rfl hinRX10 rfl (by decide) k33 (fun _ h => h) dX10_comesIn_12 (show I w 8 = nI (σ 0) from hA.2.2.2.1) ?_
  refine va_mmin X.1 X.2.1 (X.2.2.1.trans hl.1.symm) X.2.2.2.1 (X.2.2.2.2 (.methodLink RX10 69 Lib.Math.min.name) (by decide +kernel)) (X.2.2.2.2 (.static Lib.Math.min.name) (by decide +kernel)) (X.2.2.2.2 (.initialized "java/lang/Math") (by decide +kernel)) (X.2.2.2.2 (.code Lib.Math.min.name Lib.Math.min.code 2 (some .int)) (by decide +kernel)) (Nat.le_of_ble_eq_true rfl) (Nat.le_of_ble_eq_true rfl) (Nat.zero_le _) (Nat.zero_le _) dX10_comesIn_15 ?_
  refine lv_cv (gm_min (Eq.refl (nI (min (ld + (hpF (σ (44 + μ)) (σ (48 + μ)) )) 20))) (Eq.refl (nI (σ 0))) (by omega) (by omega)) ?_
  exact g_iret (f := fun u => u) (z, T, I, R) X hr hlk hK hP hS dX10_comesIn_18 ⟨rfl, rfl⟩

set_option maxHeartbeats 4000000 in
set_option maxRecDepth 100000 in
/-- d_tire -/
theorem d_tire (hW : cWk w T R) (hA : cA w I σ) (hm : cMn T I σ μ b) (hob : oW w b) (h6 : σ (44 + μ) ≤ 6) (hv9 : σ (48 + μ) ≤ 9) (hμ : μ < 4) (ht9 : σ (4 + μ) ≤ 99) {more : Int32} {d : Int} (hd : more.toInt = d) (h1 : -99 ≤ d) (h2 : d ≤ 99) : Met l yX10_tire wsX10_tire ({ frames := 1, cells := 0, slots := 0, locals := 21 }) (va_Pc [.ref w, .ref b, .int more] (gW0 s0 D cy B (z, T, I, R))) (va_Qv (fun u => u = (z, T, g2 I (w + 6) μ (nI (max 0 (min 99 ((σ (4 + μ) : Int) + d))).toNat), R)) (fun u t => gW1 D cy B u t) (gA B)) 0 0 (gA B) := by
  refine g_met (maxL := 4) (ret := none) (by decide) rfl (Nat.le_of_ble_eq_true rfl) (fun p e s m args below meth c ls X hr hlk hnm hK hP hC hS hl => ?_)
  have hl : lv_has ls 4 [(0, .ref w), (1, .ref b), (2, .int more)] := hl
  have hP : gP D cy B z T I R s.heap := hP
  have hB : B ≤ s.heap.size := by rw [hP.1]; exact hP.2.1
  have hinRX10 : ∀ w ∈ wsX100, w ∈ wsX10_tire := fun _ h => List.mem_cons_of_mem _ (List.mem_append_left _ (List.mem_append_left _ (List.mem_append_left _ (List.mem_append_left _ (List.mem_append_left _ (List.mem_append_left _ (List.mem_append_left _ (List.mem_append_right _ h))))))))
  have hin7 : ∀ κ, κ ≤ 6 → ∀ w ∈ mws κ, w ∈ wsX10_tire := fun κ hκ => by
    rcases k7 hκ with rfl | rfl | rfl | rfl | rfl | rfl | rfl
    · exact fun _ h => List.mem_cons_of_mem _ (List.mem_append_left _ (List.mem_append_left _ (List.mem_append_left _ (List.mem_append_left _ (List.mem_append_right _ h)))))
    · exact fun _ h => List.mem_cons_of_mem _ (List.mem_append_left _ (List.mem_append_left _ (List.mem_append_left _ (List.mem_append_left _ (List.mem_append_left _ (List.mem_append_left _ (List.mem_append_right _ h)))))))
    · exact fun _ h => List.mem_cons_of_mem _ (List.mem_append_right _ h)
    · exact fun _ h => List.mem_cons_of_mem _ (List.mem_append_left _ (List.mem_append_left _ (List.mem_append_right _ h)))
    · exact fun _ h => List.mem_cons_of_mem _ (List.mem_append_left _ (List.mem_append_left _ (List.mem_append_left _ (List.mem_append_left _ (List.mem_append_left _ (List.mem_append_right _ h))))))
    · exact fun _ h => List.mem_cons_of_mem _ (List.mem_append_left _ (List.mem_append_right _ h))
    · exact fun _ h => List.mem_cons_of_mem _ (List.mem_append_left _ (List.mem_append_left _ (List.mem_append_left _ (List.mem_append_right _ h))))
  have k22 : Cond.fieldLink RX10 22 "BarrowPlank$Works" "tired" "[I" ∈ wsX10_tire := by decide +kernel
  have k56 : Cond.fieldLink RX10 56 "BarrowPlank$Man" "number" "I" ∈ wsX10_tire := by decide +kernel
  have hk6 : σ (44 + μ) ≤ 6 := h6
  unfold oW at hob
  refine lv_aload_n X.1 X.2.1 dX10_tire_0 rfl (lv_at hl 0 rfl) ?_
  refine g_getr 12 2 X hK hP hW.t0 rfl hinRX10 rfl (by decide) k22 (fun _ h => h) dX10_tire_1 (show va_rf (R w 2) = .ref (w + 6) from by rw [(show R w 2 = some (w + 6) from hW.r 2 rfl)]; rfl) ?_
  refine lv_aload_n X.1 X.2.1 dX10_tire_4 rfl (lv_at hl 1 rfl) ?_
  refine g_mget 1 (by decide) hk6 X hK hP hm.1 (hin7 _ hk6) k56 (fun _ h => h) dX10_tire_5 (show I b 1 = nI μ from hm.2.2.1) ?_
  refine g_iald μ X hK hP (hW.t 6 rfl) (gIx_of (Eq.refl (nI μ)) (by omega) (by omega)) dX10_tire_8 (show I (w + 6) μ = nI (σ (4 + μ)) from (hA.2.1 μ (by omega))) ?_
  refine lv_iload_n X.1 X.2.1 dX10_tire_9 rfl (lv_at hl 2 rfl) ?_
  refine lv_iadd X.1 X.2.1 dX10_tire_10 ?_
  refine lv_istore_n (lv' := [(3, .int ((nI (σ (4 + μ))) + more)), (0, .ref w), (1, .ref b), (2, .int more)]) X.1 X.2.1 dX10_tire_11 rfl hl (by decide) rfl (fun ls hl => ?_)
  refine lv_aload_n X.1 X.2.1 dX10_tire_12 rfl (lv_at hl 1 rfl) ?_
  refine g_getr 12 2 X hK hP hW.t0 rfl hinRX10 rfl (by decide) k22 (fun _ h => h) dX10_tire_13 (show va_rf (R w 2) = .ref (w + 6) from by rw [(show R w 2 = some (w + 6) from hW.r 2 rfl)]; rfl) ?_
  refine lv_aload_n X.1 X.2.1 dX10_tire_16 rfl (lv_at hl 2 rfl) ?_
  refine g_mget 1 (by decide) hk6 X hK hP hm.1 (hin7 _ hk6) k56 (fun _ h => h) dX10_tire_17 (show I b 1 = nI μ from hm.2.2.1) ?_
  refine lv_iconst (v := 0) X.1 X.2.1 dX10_tire_20 (by decide) ?_
  refine lv_bipush (v := 99) X.1 X.2.1 dX10_tire_21 (by decide) ?_
  refine lv_iload_n X.1 X.2.1 dX10_tire_23 rfl (lv_at hl 0 rfl) ?_
  refine va_mmin X.1 X.2.1 (X.2.2.1.trans hl.1.symm) X.2.2.2.1 (X.2.2.2.2 (.methodLink RX10 69 Lib.Math.min.name) (by decide +kernel)) (X.2.2.2.2 (.static Lib.Math.min.name) (by decide +kernel)) (X.2.2.2.2 (.initialized "java/lang/Math") (by decide +kernel)) (X.2.2.2.2 (.code Lib.Math.min.name Lib.Math.min.code 2 (some .int)) (by decide +kernel)) (Nat.le_of_ble_eq_true rfl) (Nat.le_of_ble_eq_true rfl) (Nat.zero_le _) (Nat.zero_le _) dX10_tire_24 ?_
  refine va_mmax X.1 X.2.1 (X.2.2.1.trans hl.1.symm) X.2.2.2.1 (X.2.2.2.2 (.methodLink RX10 75 Lib.Math.max.name) (by decide +kernel)) (X.2.2.2.2 (.static Lib.Math.max.name) (by decide +kernel)) (X.2.2.2.2 (.initialized "java/lang/Math") (by decide +kernel)) (X.2.2.2.2 (.code Lib.Math.max.name Lib.Math.max.code 2 (some .int)) (by decide +kernel)) (Nat.le_of_ble_eq_true rfl) (Nat.le_of_ble_eq_true rfl) (Nat.zero_le _) (Nat.zero_le _) dX10_tire_27 ?_
  refine lv_cv (tire_v ht9 hd h1 h2 rfl) ?_
  refine g_iast μ X hK hP hS (hW.t 6 rfl) (gIx_of (Eq.refl (nI μ)) (by omega) (by omega)) dX10_tire_30 (fun H locs hP hS => ?_)
  generalize eI1 : g2 I (w + 6) μ (nI ((max 0 (min 99 ((σ (4 + μ) : Int) + d))).toNat)) = I1 at hP
  exact g_vret (f := fun u => u) (z, T, I1, R) X hr hlk hK hP hS dX10_tire_31 (by rw [← eI1])

set_option maxHeartbeats 4000000 in
set_option maxRecDepth 100000 in
/-- d_lay -/
theorem d_lay (hW : cWk w T R) {y wh : Nat} {q : Int32} (hy : y < 10) (hwh : wh < 3) : Met l yX10_lay wsX10_lay ({ frames := 1, cells := 0, slots := 0, locals := 21 }) (va_Pc [.ref w, .int (nI y), .int (nI wh), .int q] (gW0 s0 D cy B (z, T, I, R))) (va_Qi (fun r u => r = I (w + 2 + wh) y ∧ u = (z, T, iFg w (g2 I (w + 2 + wh) y q) 4, R)) (fun u t => gW1 D cy B u t) (gA B)) 0 0 (gA B) := by
  refine g_met (maxL := 5) (ret := (some .int)) (by decide) rfl (Nat.le_of_ble_eq_true rfl) (fun p e s m args below meth c ls X hr hlk hnm hK hP hC hS hl => ?_)
  have hl : lv_has ls 5 [(0, .ref w), (1, .int (nI y)), (2, .int (nI wh)), (3, .int q)] := hl
  have hP : gP D cy B z T I R s.heap := hP
  have hB : B ≤ s.heap.size := by rw [hP.1]; exact hP.2.1
  have hinRX10 : ∀ w ∈ wsX100, w ∈ wsX10_lay := fun _ h => List.mem_cons_of_mem _ (List.mem_append_left _ (List.mem_append_right _ h))
  have k11 : Cond.fieldLink RX10 11 "BarrowPlank$Works" "yards" "[[I" ∈ wsX10_lay := by decide +kernel
  refine lv_aload_n X.1 X.2.1 dX10_lay_0 rfl (lv_at hl 0 rfl) ?_
  refine g_getr 12 0 X hK hP hW.t0 rfl hinRX10 rfl (by decide) k11 (fun _ h => h) dX10_lay_1 (show va_rf (R w 0) = .ref (w + 1) from by rw [(show R w 0 = some (w + 1) from hW.r 0 rfl)]; rfl) ?_
  refine lv_iload_n X.1 X.2.1 dX10_lay_4 rfl (lv_at hl 2 rfl) ?_
  refine g_2aald wh X hK hP (hW.t 1 rfl) (gIx_of (Eq.refl (nI wh)) (by omega) (by omega)) dX10_lay_5 (show va_rf (R (w + 1) wh) = .ref (w + 2 + wh) from by rw [(hW.yd (k := wh) (by omega))]; rfl) ?_
  refine lv_iload_n X.1 X.2.1 dX10_lay_6 rfl (lv_at hl 1 rfl) ?_
  refine g_iald y X hK hP (hW.ydt (by omega)) (gIx_of (Eq.refl (nI y)) (by omega) (by omega)) dX10_lay_7 (show I (w + 2 + wh) y = I (w + 2 + wh) y from rfl) ?_
  refine lv_istore (lv' := [(4, .int (I (w + 2 + wh) y)), (0, .ref w), (1, .int (nI y)), (2, .int (nI wh)), (3, .int q)]) X.1 X.2.1 dX10_lay_8 hl (by decide) rfl (fun ls hl => ?_)
  refine lv_aload_n X.1 X.2.1 dX10_lay_10 rfl (lv_at hl 1 rfl) ?_
  refine g_getr 12 0 X hK hP hW.t0 rfl hinRX10 rfl (by decide) k11 (fun _ h => h) dX10_lay_11 (show va_rf (R w 0) = .ref (w + 1) from by rw [(show R w 0 = some (w + 1) from hW.r 0 rfl)]; rfl) ?_
  refine lv_iload_n X.1 X.2.1 dX10_lay_14 rfl (lv_at hl 3 rfl) ?_
  refine g_2aald wh X hK hP (hW.t 1 rfl) (gIx_of (Eq.refl (nI wh)) (by omega) (by omega)) dX10_lay_15 (show va_rf (R (w + 1) wh) = .ref (w + 2 + wh) from by rw [(hW.yd (k := wh) (by omega))]; rfl) ?_
  refine lv_iload_n X.1 X.2.1 dX10_lay_16 rfl (lv_at hl 2 rfl) ?_
  refine lv_iload_n X.1 X.2.1 dX10_lay_17 rfl (lv_at hl 4 rfl) ?_
  refine g_iast y X hK hP hS (hW.ydt (by omega)) (gIx_of (Eq.refl (nI y)) (by omega) (by omega)) dX10_lay_18 (fun H locs hP hS => ?_)
  generalize eI1 : g2 I (w + 2 + wh) y q = I1 at hP
  refine lv_aload_n X.1 X.2.1 dX10_lay_19 rfl (lv_at hl 1 rfl) ?_
  refine g_run_v (f := fun u => u) (g_runV (k := 12) [] X hK hP hS hC hB (d_forget hW) (cwV 0 X.2.2.2.2 gX10_lay_X10_forget rfl rfl rfl (by decide +kernel) ⟨Nat.le_of_ble_eq_true rfl, Nat.le_of_ble_eq_true rfl⟩) hW.t0 rfl rfl hl.1 rfl (Nat.le_of_ble_eq_true rfl) dX10_lay_20 (by exact ⟨Nat.zero_le _, Nat.zero_le _⟩)) hS (fun u H locs hq hP hS => ?_)
  subst hq
  generalize eF2 : iFg w I1 4 = F2 at hP
  have hP : gP D cy B z T F2 R H := hP
  refine lv_iload X.1 X.2.1 dX10_lay_23 (lv_at hl 0 rfl) ?_
  exact g_iret (f := fun u => u) (z, T, F2, R) X hr hlk hK hP hS dX10_lay_25 ⟨rfl, (by rw [← eF2, ← eI1])⟩

theorem cWk_site {x : Option Nat} {R' : Nat → Nat → Option Nat} (hW : cWk w T R) (e : g2 R w 12 x = R') : cWk w T R' := hW.k (fun y hy => by
  have h8 : ∀ y ∈ wRl, ¬ (y.1 = 0 ∧ y.2.1 = 12) := by decide
  have h9 := h8 y hy
  exact gs_neR e (by omega) rfl)
set_option maxHeartbeats 4000000 in
set_option maxRecDepth 100000 in
/-- d_settle -/
theorem d_settle (hW : cWk w T R) {a : Nat} : Met l yX10_settle wsX10_settle ({ frames := 1, cells := 0, slots := 0, locals := 21 }) (va_Pc [.ref w, .ref a] (gW0 s0 D cy B (z, T, I, R))) (va_Qv (fun u => u = (z, T, iFg w (g2 I w 13 (I w 13 + 1)) 4, g2 R w 12 (some a))) (fun u t => gW1 D cy B u t) (gA B)) 0 0 (gA B) := by
  refine g_met (maxL := 2) (ret := none) (by decide) rfl (Nat.le_of_ble_eq_true rfl) (fun p e s m args below meth c ls X hr hlk hnm hK hP hC hS hl => ?_)
  have hl : lv_has ls 2 [(0, .ref w), (1, .ref a)] := hl
  have hP : gP D cy B z T I R s.heap := hP
  have hB : B ≤ s.heap.size := by rw [hP.1]; exact hP.2.1
  have hinRX10 : ∀ w ∈ wsX100, w ∈ wsX10_settle := fun _ h => List.mem_cons_of_mem _ (List.mem_append_left _ (List.mem_append_right _ h))
  have k48 : Cond.fieldLink RX10 48 "BarrowPlank$Works" "site" "LBarrowPlank$Site;" ∈ wsX10_settle := by decide +kernel
  have k59 : Cond.fieldLink RX10 59 "BarrowPlank$Works" "sites" "I" ∈ wsX10_settle := by decide +kernel
  refine lv_aload_n X.1 X.2.1 dX10_settle_0 rfl (lv_at hl 0 rfl) ?_
  refine lv_aload_n X.1 X.2.1 dX10_settle_1 rfl (lv_at hl 1 rfl) ?_
  refine g_putr 12 12 X hK hP hS hW.t0 rfl hinRX10 tyX10 tyX10_ok nmX10 rfl (by decide) k48 (fun _ h => h) rfl (r := some a) rfl rfl rfl dX10_settle_2 (fun H locs hP hS => ?_)
  generalize eR1 : g2 R w 12 (some a) = R1 at hP
  refine lv_aload_n X.1 X.2.1 dX10_settle_5 rfl (lv_at hl 0 rfl) ?_
  refine lv_dup X.1 X.2.1 dX10_settle_6 rfl ?_
  refine g_geti 12 13 X hK hP hW.t0 rfl hinRX10 rfl (by decide) k59 (fun _ h => h) dX10_settle_7 (show I w 13 = I w 13 from rfl) ?_
  refine lv_iconst (v := 1) X.1 X.2.1 dX10_settle_10 (by decide) ?_
  refine lv_iadd X.1 X.2.1 dX10_settle_11 ?_
  refine g_puti 12 13 X hK hP hS hW.t0 rfl hinRX10 tyX10 tyX10_ok nmX10 rfl (by decide) k59 (fun _ h => h) rfl rfl rfl dX10_settle_12 (fun H locs hP hS => ?_)
  generalize eI2 : g2 I w 13 ((I w 13) + 1) = I2 at hP
  refine lv_aload_n X.1 X.2.1 dX10_settle_15 rfl (lv_at hl 0 rfl) ?_
  refine g_run_v (f := fun u => u) (g_runV (k := 12) [] X hK hP hS hC hB (d_forget (cWk_site hW eR1)) (cwV 0 X.2.2.2.2 gX10_settle_X10_forget rfl rfl rfl (by decide +kernel) ⟨Nat.le_of_ble_eq_true rfl, Nat.le_of_ble_eq_true rfl⟩) hW.t0 rfl rfl hl.1 rfl (Nat.le_of_ble_eq_true rfl) dX10_settle_16 (by exact ⟨Nat.zero_le _, Nat.zero_le _⟩)) hS (fun u H locs hq hP hS => ?_)
  subst hq
  generalize eF3 : iFg w I2 4 = F3 at hP
  have hP : gP D cy B z T F3 R1 H := hP
  exact g_vret (f := fun u => u) (z, T, F3, R1) X hr hlk hK hP hS dX10_settle_19 (by rw [← eF3, ← eI2, ← eR1])

theorem sBit_01 (n k : Nat) : sBit n k = 0 ∨ sBit n k = 1 := by
  have := sBit_le n k
  omega
theorem sIsB_dec (σ : Nat → Nat) (n : Nat) : sIsB σ n ↔ ∀ y, y < 10 → sBit n y = 1 → σ (28 + y) = 0 := Iff.rfl
set_option maxHeartbeats 4000000 in
set_option maxRecDepth 100000 in
/-- d_isBare -/
theorem d_isBare (hW : cWk w T R) (hA : cA w I σ) (hb9 : ∀ y, y < 10 → σ (28 + y) ≤ 9) {st : Nat} (hst : st < 1024) : Met l yX10_isBare wsX10_isBare ({ frames := 0, cells := 0, slots := 0, locals := 0 }) (va_Pc [.ref w, .int (nI st)] (gW0 s0 D cy B (z, T, I, R))) (va_Qi (fun r u => ((r = 1 ∧ sIsB σ st) ∨ (r = 0 ∧ ¬ sIsB σ st)) ∧ (z, T, I, R) = u) (fun u t => gW1 D cy B u t) (gA B)) 0 0 (gA B) := by
  refine g_met (maxL := 3) (ret := (some .boolean)) (by decide) rfl (Nat.le_of_ble_eq_true rfl) (fun p e s m args below meth c ls X hr hlk hnm hK hP hC hS hl => ?_)
  have hl : lv_has ls 3 [(0, .ref w), (1, .int (nI st))] := hl
  have hP : gP D cy B z T I R s.heap := hP
  have hB : B ≤ s.heap.size := by rw [hP.1]; exact hP.2.1
  have hinRX10 : ∀ w ∈ wsX100, w ∈ wsX10_isBare := fun _ h => List.mem_cons_of_mem _ (List.mem_append_right _ h)
  have k11 : Cond.fieldLink RX10 11 "BarrowPlank$Works" "yards" "[[I" ∈ wsX10_isBare := by decide +kernel
  have hbt : ∀ k, st / 2 ^ k % 2 < 2 := fun k => Nat.mod_lt _ (by decide)
  refine lv_iconst (v := 0) X.1 X.2.1 dX10_isBare_0 (by decide) ?_
  refine lv_istore_n (lv' := [(2, .int 0), (0, .ref w), (1, .int (nI st))]) X.1 X.2.1 dX10_isBare_1 rfl hl (by decide) rfl (fun ls hl => ?_)
  refine i_loop (I := I) 10 2 [] (fun k Q9 ls => (Q9 = I ∧ ∀ y, y < k → sBit st y = 1 → σ (28 + y) = 0) ∧ lv_has ls 3 [(0, .ref w), (1, .int (nI st)), (2, .int (nI k))]) 0 (by omega) ⟨⟨rfl, fun y hy => absurd hy (Nat.not_lt_zero y)⟩, lv_sub hl [1, 2, 0] rfl⟩ hP hS (fun k Q9 H locs ls hk hiv hP hS ih => ?_)
  obtain ⟨hq, hl⟩ := hiv
  refine lv_iload_n X.1 X.2.1 dX10_isBare_2 rfl (lv_at hl 2 rfl) ?_
  refine lv_bipush (v := 10) X.1 X.2.1 dX10_isBare_3 (by decide) ?_
  refine lv_icmp_ge (tgt := 36) X.1 X.2.1 dX10_isBare_5 (by decide) (fun c5 => ?_) (fun c5 => ?_)
  · have n5 : 10 ≤ k := gq_le c5 (show (10 : Int32) = nI 10 from rfl) (Eq.refl (nI k)) (by omega) (by omega)
    refine lv_iconst (v := 1) X.1 X.2.1 dX10_isBare_36 (by decide) ?_
    exact g_zret (f := fun u => u) (z, T, Q9, R) X hr hlk hK hP hS dX10_isBare_37 rfl ⟨Or.inl ⟨rfl, fun y hy h1 => hq.2 y (by omega) h1⟩, (by rw [hq.1])⟩
  · have n5 : k < 10 := gq_nle c5 (show (10 : Int32) = nI 10 from rfl) (Eq.refl (nI k)) (by omega) (by omega)
    have hbk := hbt k
    have hbd := hb9 k (by omega)
    refine lv_iload_n X.1 X.2.1 dX10_isBare_8 rfl (lv_at hl 1 rfl) ?_
    refine lv_iload_n X.1 X.2.1 dX10_isBare_9 rfl (lv_at hl 2 rfl) ?_
    refine lv_ishr X.1 X.2.1 dX10_isBare_10 ?_
    refine lv_iconst (v := 1) X.1 X.2.1 dX10_isBare_11 (by decide) ?_
    refine lv_iand X.1 X.2.1 dX10_isBare_12 ?_
    refine lv_cv (gbit (by omega) (by omega)) ?_
    refine lv_iconst (v := 1) X.1 X.2.1 dX10_isBare_13 (by decide) ?_
    refine lv_icmp_ne (tgt := 30) X.1 X.2.1 dX10_isBare_14 (by decide) (fun c14 => ?_) (fun c14 => ?_)
    · have n14 : ¬ (st / 2 ^ k % 2) = 1 := gq_ne c14 (Eq.refl (nI (st / 2 ^ k % 2))) (show (1 : Int32) = nI 1 from rfl) (by omega) (by omega)
      refine lv_iinc (v := nI (k + 1)) (lv' := [(2, .int (nI (k + 1))), (0, .ref w), (1, .int (nI st))]) X.1 X.2.1 dX10_isBare_30 hl (k := 2) rfl (gn_inc (Eq.refl (nI k)) 1) (by decide) rfl (fun ls hl => ?_)
      refine lv_goto (tgt := 2) X.1 X.2.1 dX10_isBare_33 (by decide) ?_
      exact ih _ _ _ _ (by omega) ⟨⟨hq.1, fun y hy h1 => by by_cases e : y = k; (· subst e; exact absurd h1 n14); exact hq.2 y (by omega) h1⟩, lv_sub hl [1, 2, 0] rfl⟩ hP hS
    · have n14 : (st / 2 ^ k % 2) = 1 := gq_eq c14 (Eq.refl (nI (st / 2 ^ k % 2))) (show (1 : Int32) = nI 1 from rfl) (by omega) (by omega)
      refine lv_aload_n X.1 X.2.1 dX10_isBare_17 rfl (lv_at hl 0 rfl) ?_
      refine g_getr 12 0 X hK hP hW.t0 rfl hinRX10 rfl (by decide) k11 (fun _ h => h) dX10_isBare_18 (show va_rf (R w 0) = .ref (w + 1) from by rw [(show R w 0 = some (w + 1) from hW.r 0 rfl)]; rfl) ?_
      refine lv_iconst (v := 2) X.1 X.2.1 dX10_isBare_21 (by decide) ?_
      refine g_2aald 2 X hK hP (hW.t 1 rfl) (gIx_of (show (2 : Int32) = nI 2 from rfl) (by omega) (by omega)) dX10_isBare_22 (show va_rf (R (w + 1) 2) = .ref (w + 4) from by rw [(hW.r 9 rfl)]; rfl) ?_
      refine lv_iload_n X.1 X.2.1 dX10_isBare_23 rfl (lv_at hl 2 rfl) ?_
      refine g_iald k X hK hP (hW.t 4 rfl) (gIx_of (Eq.refl (nI k)) (by omega) (by omega)) dX10_isBare_24 (show Q9 (w + 4) k = nI (σ (28 + k)) from (by rw [hq.1]; exact hA.b (y := k) (by omega))) ?_
      refine lv_if_le (tgt := 30) X.1 X.2.1 dX10_isBare_25 (by decide) (fun c25 => ?_) (fun c25 => ?_)
      · have n25 : (σ (28 + k)) ≤ 0 := gq_le c25 (Eq.refl (nI (σ (28 + k)))) (show (0 : Int32) = nI 0 from rfl) (by omega) (by omega)
        refine lv_iinc (v := nI (k + 1)) (lv' := [(2, .int (nI (k + 1))), (0, .ref w), (1, .int (nI st))]) X.1 X.2.1 dX10_isBare_30 hl (k := 2) rfl (gn_inc (Eq.refl (nI k)) 1) (by decide) rfl (fun ls hl => ?_)
        refine lv_goto (tgt := 2) X.1 X.2.1 dX10_isBare_33 (by decide) ?_
        exact ih _ _ _ _ (by omega) ⟨⟨hq.1, fun y hy h1 => by by_cases e : y = k; (· subst e; omega); exact hq.2 y (by omega) h1⟩, lv_sub hl [1, 2, 0] rfl⟩ hP hS
      · have n25 : 0 < (σ (28 + k)) := gq_nle c25 (Eq.refl (nI (σ (28 + k)))) (show (0 : Int32) = nI 0 from rfl) (by omega) (by omega)
        refine lv_iconst (v := 0) X.1 X.2.1 dX10_isBare_28 (by decide) ?_
        exact g_zret (f := fun u => u) (z, T, Q9, R) X hr hlk hK hP hS dX10_isBare_29 rfl ⟨Or.inr ⟨rfl, fun h => absurd (h k (by omega) n14) (by omega)⟩, (by rw [hq.1])⟩

end PC