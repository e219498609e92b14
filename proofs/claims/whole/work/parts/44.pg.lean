section PG
variable {l : Launch} {s0 : State} {D : va_G} {cy : Nat → ClassId} {B z : Nat} {T : Nat → Nat × Nat} {I : Nat → Nat → Int32} {R : Nat → Nat → Option Nat} {w b a μ : Nat} {σ : Nat → Nat} {K ti sh : Nat} {fl : List Nat}
/-- the Trip t is the ROUND of μ with ld -/
def cTp (I : Nat → Nat → Int32) (t : Nat) (fl : List Nat) (sh : Nat) (σ : Nat → Nat) (μ ld : Nat) : Prop := I t 1 = nI (sCm σ μ ld) ∧ I t 2 = nI (sFi sh σ μ ld) ∧ I t 4 = nI (sSe fl sh σ μ ld) ∧ I t 5 = nI (sBr fl σ μ ld)
theorem sFi_wt (σ : Nat → Nat) (μ ld : Nat) : sFi sh σ μ ld = sh * sCm σ μ ld + wtF (σ (44 + μ)) (σ (48 + μ)) := rfl

set_option maxHeartbeats 4000000 in
set_option maxRecDepth 100000 in
/-- d_plan -/
theorem d_plan (hall : cAll w b a μ T I R σ fl ti sh K) (hCc : cC w I fl σ) {ld : Nat} (hld : ld ≤ 20) : Met l yX10_plan wsX10_plan ({ frames := 4, cells := 0, slots := 0, locals := 99 }) (va_Pc [.ref w, .ref b, .int (nI ld)] (gW0 s0 D cy B (z, T, I, R))) (va_Qq (fun r u => r = some (w + 11 + μ) ∧ ∃ I', u = (z, T, I', R) ∧ cTp I' (w + 11 + μ) fl sh σ μ ld ∧ cC w I' fl σ ∧ ∀ c j, ¬ (w + 10 ≤ c ∧ c < w + 15) → I' c j = I c j) (fun u t => gW1 D cy B u t) (gA B)) 0 0 (gA B) := by
  refine g_met (maxL := 6) (ret := (some (.object "BarrowPlank$Trip"))) (by decide) rfl (Nat.le_of_ble_eq_true rfl) (fun p e s m args below meth c ls X hr hlk hnm hK hP hC hS hl => ?_)
  have hl : lv_has ls 6 [(0, .ref w), (1, .ref b), (2, .int (nI ld))] := hl
  have hP : gP D cy B z T I R s.heap := hP
  have hB : B ≤ s.heap.size := by rw [hP.1]; exact hP.2.1
  have hinRX10 : ∀ w ∈ wsX100, w ∈ wsX10_plan := fun _ h => List.mem_cons_of_mem _ (List.mem_append_left _ (List.mem_append_left _ (List.mem_append_left _ (List.mem_append_left _ (List.mem_append_left _ (List.mem_append_left _ (List.mem_append_left _ (List.mem_append_left _ (List.mem_append_left _ (List.mem_append_right _ h))))))))))
  have hinRX4 : ∀ w ∈ wsX40, w ∈ wsX10_plan := fun _ h => List.mem_cons_of_mem _ (List.mem_append_right _ h)
  have hinRX8 : ∀ w ∈ wsX80, w ∈ wsX10_plan := fun _ h => List.mem_cons_of_mem _ (List.mem_append_left _ (List.mem_append_right _ h))
  have hin7 : ∀ κ, κ ≤ 6 → ∀ w ∈ mws κ, w ∈ wsX10_plan := fun κ hκ => by
    rcases k7 hκ with rfl | rfl | rfl | rfl | rfl | rfl | rfl
    · exact fun _ h => List.mem_cons_of_mem _ (List.mem_append_left _ (List.mem_append_left _ (List.mem_append_left _ (List.mem_append_left _ (List.mem_append_left _ (List.mem_append_left _ (List.mem_append_right _ h)))))))
    · exact fun _ h => List.mem_cons_of_mem _ (List.mem_append_left _ (List.mem_append_left _ (List.mem_append_left _ (List.mem_append_left _ (List.mem_append_left _ (List.mem_append_left _ (List.mem_append_left _ (List.mem_append_left _ (List.mem_append_right _ h)))))))))
    · exact fun _ h => List.mem_cons_of_mem _ (List.mem_append_left _ (List.mem_append_left _ (List.mem_append_right _ h)))
    · exact fun _ h => List.mem_cons_of_mem _ (List.mem_append_left _ (List.mem_append_left _ (List.mem_append_left _ (List.mem_append_left _ (List.mem_append_right _ h)))))
    · exact fun _ h => List.mem_cons_of_mem _ (List.mem_append_left _ (List.mem_append_left _ (List.mem_append_left _ (List.mem_append_left _ (List.mem_append_left _ (List.mem_append_left _ (List.mem_append_left _ (List.mem_append_right _ h))))))))
    · exact fun _ h => List.mem_cons_of_mem _ (List.mem_append_left _ (List.mem_append_left _ (List.mem_append_left _ (List.mem_append_right _ h))))
    · exact fun _ h => List.mem_cons_of_mem _ (List.mem_append_left _ (List.mem_append_left _ (List.mem_append_left _ (List.mem_append_left _ (List.mem_append_left _ (List.mem_append_right _ h))))))
  have k22 : Cond.fieldLink RX10 22 "BarrowPlank$Works" "tired" "[I" ∈ wsX10_plan := by decide +kernel
  have k39 : Cond.fieldLink RX10 39 "BarrowPlank$Works" "trips" "[LBarrowPlank$Trip;" ∈ wsX10_plan := by decide +kernel
  have k48 : Cond.fieldLink RX10 48 "BarrowPlank$Works" "site" "LBarrowPlank$Site;" ∈ wsX10_plan := by decide +kernel
  have k56 : Cond.fieldLink RX10 56 "BarrowPlank$Man" "number" "I" ∈ wsX10_plan := by decide +kernel
  have k82 : Cond.fieldLink RX10 82 "BarrowPlank$Trip" "known" "Z" ∈ wsX10_plan := by decide +kernel
  have k86 : Cond.fieldLink RX10 86 "BarrowPlank$Trip" "came" "I" ∈ wsX10_plan := by decide +kernel
  have k93 : Cond.fieldLink RX10 93 "BarrowPlank$Site" "shovel" "I" ∈ wsX10_plan := by decide +kernel
  have k100 : Cond.fieldLink RX10 100 "BarrowPlank$Trip" "filling" "I" ∈ wsX10_plan := by decide +kernel
  have k103 : Cond.fieldLink RX10 103 "BarrowPlank$Trip" "walking" "I" ∈ wsX10_plan := by decide +kernel
  have k110 : Cond.fieldLink RX10 110 "BarrowPlank$Trip" "seconds" "I" ∈ wsX10_plan := by decide +kernel
  have hall0 := hall
  obtain ⟨hW, hA, hm, hob0, hst, hsi, hsR, hoa0, ⟨hok, hfl, hti, hsh⟩, hb, hμ, hμ38⟩ := hall
  have hb3 := hb.2.1.2.2
  have hob := hob0
  have hoa := hoa0
  unfold oW at hob
  unfold oS at hoa
  obtain ⟨hk6, hv9, hs20⟩ := hb.2.2.2.2.2.2.2.2.1 μ hμ
  have h0 := hb.1
  have ht9 := hb.2.2.1 μ hμ
  have hcm := sCm_le σ μ ld
  refine lv_aload_n X.1 X.2.1 dX10_plan_0 rfl (lv_at hl 0 rfl) ?_
  refine g_getr 12 14 X hK hP hW.t0 rfl hinRX10 rfl (by decide) k39 (fun _ h => h) dX10_plan_1 (show va_rf (R w 14) = .ref (w + 9) from by rw [(show R w 14 = some (w + 9) from hW.r 5 rfl)]; rfl) ?_
  refine lv_aload_n X.1 X.2.1 dX10_plan_4 rfl (lv_at hl 1 rfl) ?_
  refine g_mget 1 (by decide) hk6 X hK hP hm.1 (hin7 _ hk6) k56 (fun _ h => h) dX10_plan_5 (show I b 1 = nI μ from hm.2.2.1) ?_
  refine g_taald μ X hK hP (hW.t 9 rfl) (gIx_of (Eq.refl (nI μ)) (by omega) (by omega)) dX10_plan_8 (show va_rf (R (w + 9) μ) = .ref (w + 11 + μ) from by rw [(hW.trip (μ := μ) (by omega))]; rfl) ?_
  refine lv_astore_n (lv' := [(3, .ref (w + 11 + μ)), (0, .ref w), (1, .ref b), (2, .int (nI ld))]) X.1 X.2.1 dX10_plan_9 rfl hl (by decide) rfl (fun ls hl => ?_)
  refine lv_aload_n X.1 X.2.1 dX10_plan_10 rfl (lv_at hl 1 rfl) ?_
  refine lv_aload_n X.1 X.2.1 dX10_plan_11 rfl (lv_at hl 2 rfl) ?_
  refine lv_iload_n X.1 X.2.1 dX10_plan_12 rfl (lv_at hl 3 rfl) ?_
  refine g_run_i (f := fun u => u) (g_runV (k := 12) [.ref b, .int (nI ld)] X hK hP hS hC hB (d_comesIn hW hA hm hob0 hk6 hv9 h0 hld) (cwV 2 X.2.2.2.2 gX10_plan_X10_comesIn rfl rfl rfl (by decide +kernel) ⟨Nat.le_of_ble_eq_true rfl, Nat.le_of_ble_eq_true rfl⟩) hW.t0 rfl rfl hl.1 rfl (Nat.le_of_ble_eq_true rfl) dX10_plan_13 (by exact ⟨Nat.zero_le _, Nat.zero_le _⟩)) hS (fun r u H locs hq hP hS => ?_)
  obtain ⟨rfl, rfl⟩ := hq
  have hP : gP D cy B z T I R H := hP
  refine lv_istore (lv' := [(4, .int (nI (sCm σ μ ld))), (3, .ref (w + 11 + μ)), (0, .ref w), (1, .ref b), (2, .int (nI ld))]) X.1 X.2.1 dX10_plan_16 hl (by decide) rfl (fun ls hl => ?_)
  refine g_joinI (fun I9 => (I9 (w + 11 + μ) 0 = 1 ∧ I9 (w + 11 + μ) 1 = nI (sCm σ μ ld) ∧ I9 (w + 11 + μ) 3 = nI (sWg fl σ μ (sCm σ μ ld) 10) ∧ I9 (w + 11 + μ) 5 = nI (sBa fl σ μ (sCm σ μ ld) 10)) ∧ ∀ c j, ¬ c = w + 10 → ¬ c = w + 11 + μ → I9 c j = I c j) 42 [] hP hS (fun hgo => ?_) (fun I9 H locs hpd hP hS => ?_)
  · rcases hCc μ hμ with hkn | ⟨hkn, c0, hc20, hc1, hc3, hc5, -⟩
    · refine lv_aload_n X.1 X.2.1 dX10_plan_18 rfl (lv_at hl 1 rfl) ?_
      refine g_geti 10 0 X hK hP (hW.tript (by omega)) rfl hinRX8 rfl (by decide) k82 (fun _ h => h) dX10_plan_19 (show I (w + 11 + μ) 0 = 0 from hkn) ?_
      refine lv_if_eq (tgt := 34) X.1 X.2.1 dX10_plan_22 (by decide) (fun c22 => ?_) (fun c22 => ?_)
      · have n22 : 0 = 0 := gq_eq c22 (show (0 : Int32) = nI 0 from rfl) (show (0 : Int32) = nI 0 from rfl) (by omega) (by omega)
        refine lv_aload_n X.1 X.2.1 dX10_plan_34 rfl (lv_at hl 2 rfl) ?_
        refine lv_aload_n X.1 X.2.1 dX10_plan_35 rfl (lv_at hl 1 rfl) ?_
        refine lv_aload_n X.1 X.2.1 dX10_plan_36 rfl (lv_at hl 3 rfl) ?_
        refine lv_iload X.1 X.2.1 dX10_plan_37 (lv_at hl 0 rfl) ?_
        refine g_run_v (f := fun u => u) (g_runV (k := 12) [.ref (w + 11 + μ), .ref b, .int (nI (sCm σ μ ld))] X hK hP hS hC hB (d_walk hall0 hcm) (cwV 3 X.2.2.2.2 gX10_plan_X10_walk rfl rfl rfl (by decide +kernel) ⟨Nat.le_of_ble_eq_true rfl, Nat.le_of_ble_eq_true rfl⟩) hW.t0 rfl rfl hl.1 rfl (Nat.le_of_ble_eq_true rfl) dX10_plan_39 (by exact ⟨Nat.zero_le _, Nat.zero_le _⟩)) hS (fun u H locs hq hP hS => ?_)
        obtain ⟨N1, rfl, hw0, hw1, hw3, hw5, hwk⟩ := hq
        have hP : gP D cy B z T N1 R H := hP
        exact hgo _ _ _ ⟨⟨hw0, hw1, hw3, hw5⟩, fun c j h1 h2 => hwk c j h1 (by omega)⟩ hP hS
      · exact absurd rfl c22
    · refine lv_aload_n X.1 X.2.1 dX10_plan_18 rfl (lv_at hl 1 rfl) ?_
      refine g_geti 10 0 X hK hP (hW.tript (by omega)) rfl hinRX8 rfl (by decide) k82 (fun _ h => h) dX10_plan_19 (show I (w + 11 + μ) 0 = 1 from hkn) ?_
      refine lv_if_eq (tgt := 34) X.1 X.2.1 dX10_plan_22 (by decide) (fun c22 => ?_) (fun c22 => ?_)
      · exact absurd c22 (by decide)
      · have n22 : ¬ 1 = 0 := gq_ne c22 (show (1 : Int32) = nI 1 from rfl) (show (0 : Int32) = nI 0 from rfl) (by omega) (by omega)
        refine lv_aload_n X.1 X.2.1 dX10_plan_25 rfl (lv_at hl 1 rfl) ?_
        refine g_geti 10 1 X hK hP (hW.tript (by omega)) rfl hinRX8 rfl (by decide) k86 (fun _ h => h) dX10_plan_26 (show I (w + 11 + μ) 1 = nI c0 from hc1) ?_
        refine lv_iload X.1 X.2.1 dX10_plan_29 (lv_at hl 0 rfl) ?_
        refine lv_icmp_eq (tgt := 42) X.1 X.2.1 dX10_plan_31 (by decide) (fun c31 => ?_) (fun c31 => ?_)
        · have n31 : c0 = (sCm σ μ ld) := gq_eq c31 (Eq.refl (nI c0)) (Eq.refl (nI (sCm σ μ ld))) (by omega) (by omega)
          exact hgo _ _ _ ⟨⟨hkn, by rw [hc1, n31], by rw [hc3, n31], by rw [hc5, n31]⟩, fun _ _ _ _ => rfl⟩ hP hS
        · have n31 : ¬ c0 = (sCm σ μ ld) := gq_ne c31 (Eq.refl (nI c0)) (Eq.refl (nI (sCm σ μ ld))) (by omega) (by omega)
          refine lv_aload_n X.1 X.2.1 dX10_plan_34 rfl (lv_at hl 2 rfl) ?_
          refine lv_aload_n X.1 X.2.1 dX10_plan_35 rfl (lv_at hl 1 rfl) ?_
          refine lv_aload_n X.1 X.2.1 dX10_plan_36 rfl (lv_at hl 3 rfl) ?_
          refine lv_iload X.1 X.2.1 dX10_plan_37 (lv_at hl 0 rfl) ?_
          refine g_run_v (f := fun u => u) (g_runV (k := 12) [.ref (w + 11 + μ), .ref b, .int (nI (sCm σ μ ld))] X hK hP hS hC hB (d_walk hall0 hcm) (cwV 3 X.2.2.2.2 gX10_plan_X10_walk rfl rfl rfl (by decide +kernel) ⟨Nat.le_of_ble_eq_true rfl, Nat.le_of_ble_eq_true rfl⟩) hW.t0 rfl rfl hl.1 rfl (Nat.le_of_ble_eq_true rfl) dX10_plan_39 (by exact ⟨Nat.zero_le _, Nat.zero_le _⟩)) hS (fun u H locs hq hP hS => ?_)
          obtain ⟨N2, rfl, hw0, hw1, hw3, hw5, hwk⟩ := hq
          have hP : gP D cy B z T N2 R H := hP
          exact hgo _ _ _ ⟨⟨hw0, hw1, hw3, hw5⟩, fun c j h1 h2 => hwk c j h1 (by omega)⟩ hP hS
  obtain ⟨⟨hp0, hp1, hp3, hp5⟩, hpk⟩ := hpd
  have hA9 : cA w I9 σ := hA.k (fun c j h1 h2 => hpk c j (by omega) (by omega))
  have hm9 : cMn T I9 σ μ b := hm.k (fun j => hpk b j (by omega) (by omega))
  have hsi9 : cSi a I9 fl ti sh := hsi.k (fun c j h1 h2 => hpk c j (by omega) (by omega))
  refine lv_aload_n X.1 X.2.1 dX10_plan_42 rfl (lv_at hl 2 rfl) ?_
  refine g_getr 12 2 X hK hP hW.t0 rfl hinRX10 rfl (by decide) k22 (fun _ h => h) dX10_plan_43 (show va_rf (R w 2) = .ref (w + 6) from by rw [(show R w 2 = some (w + 6) from hW.r 2 rfl)]; rfl) ?_
  refine lv_aload_n X.1 X.2.1 dX10_plan_46 rfl (lv_at hl 3 rfl) ?_
  refine g_mget 1 (by decide) hk6 X hK hP hm9.1 (hin7 _ hk6) k56 (fun _ h => h) dX10_plan_47 (show I9 b 1 = nI μ from hm9.2.2.1) ?_
  refine g_iald μ X hK hP (hW.t 6 rfl) (gIx_of (Eq.refl (nI μ)) (by omega) (by omega)) dX10_plan_50 (show I9 (w + 6) μ = nI (σ (4 + μ)) from (hA9.2.1 μ (by omega))) ?_
  refine lv_istore (lv' := [(5, .int (nI (σ (4 + μ)))), (4, .int (nI (sCm σ μ ld))), (3, .ref (w + 11 + μ)), (0, .ref w), (1, .ref b), (2, .int (nI ld))]) X.1 X.2.1 dX10_plan_51 hl (by decide) rfl (fun ls hl => ?_)
  refine lv_aload_n X.1 X.2.1 dX10_plan_53 rfl (lv_at hl 2 rfl) ?_
  refine lv_aload_n X.1 X.2.1 dX10_plan_54 rfl (lv_at hl 3 rfl) ?_
  refine g_getr 12 12 X hK hP hW.t0 rfl hinRX10 rfl (by decide) k48 (fun _ h => h) dX10_plan_55 (show va_rf (R w 12) = .ref a from by rw [hsR]; rfl) ?_
  refine g_geti 6 1 X hK hP hst.1 rfl hinRX4 rfl (by decide) k93 (fun _ h => h) dX10_plan_58 (show I9 a 1 = nI sh from hsi9.2.1) ?_
  refine lv_iload X.1 X.2.1 dX10_plan_61 (lv_at hl 1 rfl) ?_
  refine lv_imul X.1 X.2.1 dX10_plan_63 ?_
  refine lv_aload_n X.1 X.2.1 dX10_plan_64 rfl (lv_at hl 4 rfl) ?_
  refine g_join 68 [.int (nI (wtF (σ (44 + μ)) (σ (48 + μ)) )), .int ((nI sh) * (nI (sCm σ μ ld))), .ref (w + 11 + μ)] hP hS (fun hgo => ?_) (fun H locs hP hS => ?_)
  · have hk9 : σ (44 + μ) ≤ 6 := hk6
    rcases k7 hk9 with hc9 | hc9 | hc9 | hc9 | hc9 | hc9 | hc9
    · have hty8 : T b = (4 + 8, 0) := by rw [hm9.1, hc9]; rfl
      refine g_run_i (f := fun u => u) (g_runV (k := 4) [] X hK hP hS hC hB (v_X2_waits hk9 hm9.1 hm9.2.2.2.1  ) (cwV 0 X.2.2.2.2 gX10_plan_X2_waits rfl rfl rfl (by decide +kernel) ⟨Nat.le_of_ble_eq_true rfl, Nat.le_of_ble_eq_true rfl⟩) hty8 rfl rfl hl.1 rfl (Nat.le_of_ble_eq_true rfl) dX10_plan_65 (by exact ⟨Nat.zero_le _, Nat.zero_le _⟩)) hS (fun r u H locs hq hP hS => ?_)
      obtain ⟨rfl, rfl⟩ := hq
      have h9 := hgo H locs hP hS
      refine lv_cv (congrArg nI (show 0 = (wtF (σ (44 + μ)) (σ (48 + μ)) ) by rw [hc9]; exact rfl)) ?_
      exact h9
    · have hty8 : T b = (2 + 8, 0) := by rw [hm9.1, hc9]; rfl
      refine g_run_i (f := fun u => u) (g_runU (k := 2) [] X hK hP hS hC hB (v_X2_waits hk9 hm9.1 hm9.2.2.2.1  ) (va_cwU 0 X.2.2.2.2 gX10_plan_X2_waits_u96X0 rfl rfl rfl rfl ⟨by decide, by decide, by decide +kernel⟩ ⟨Nat.le_of_ble_eq_true rfl, Nat.le_of_ble_eq_true rfl⟩) hty8 rfl rfl hl.1 rfl (Nat.le_of_ble_eq_true rfl) dX10_plan_65 (by exact ⟨Nat.zero_le _, Nat.zero_le _⟩)) hS (fun r u H locs hq hP hS => ?_)
      obtain ⟨rfl, rfl⟩ := hq
      have h9 := hgo H locs hP hS
      refine lv_cv (congrArg nI (show 0 = (wtF (σ (44 + μ)) (σ (48 + μ)) ) by rw [hc9]; exact rfl)) ?_
      exact h9
    · have hty8 : T b = (11 + 8, 0) := by rw [hm9.1, hc9]; rfl
      refine g_run_i (f := fun u => u) (g_runU (k := 11) [] X hK hP hS hC hB (v_X9_waits hk9 hm9.1 hm9.2.2.2.1  ) (va_cwO 0 X.2.2.2.2 gX10_plan_X9_waits_u96X9 rfl rfl rfl (b0 := cX2_waits) (m0 := 1) (r0 := some .int) (by decide +kernel) ⟨by decide, by decide, by decide +kernel⟩ ⟨Nat.le_of_ble_eq_true rfl, Nat.le_of_ble_eq_true rfl⟩) hty8 rfl rfl hl.1 rfl (Nat.le_of_ble_eq_true rfl) dX10_plan_65 (by exact ⟨Nat.zero_le _, Nat.zero_le _⟩)) hS (fun r u H locs hq hP hS => ?_)
      obtain ⟨rfl, rfl⟩ := hq
      have h9 := hgo H locs hP hS
      refine lv_cv (congrArg nI (show (σ (48 + μ)) = (wtF (σ (44 + μ)) (σ (48 + μ)) ) by rw [hc9]; exact rfl)) ?_
      exact h9
    · have hty8 : T b = (8 + 8, 0) := by rw [hm9.1, hc9]; rfl
      refine g_run_i (f := fun u => u) (g_runU (k := 8) [] X hK hP hS hC hB (v_X2_waits hk9 hm9.1 hm9.2.2.2.1  ) (va_cwU 0 X.2.2.2.2 gX10_plan_X2_waits_u96X6 rfl rfl rfl rfl ⟨by decide, by decide, by decide +kernel⟩ ⟨Nat.le_of_ble_eq_true rfl, Nat.le_of_ble_eq_true rfl⟩) hty8 rfl rfl hl.1 rfl (Nat.le_of_ble_eq_true rfl) dX10_plan_65 (by exact ⟨Nat.zero_le _, Nat.zero_le _⟩)) hS (fun r u H locs hq hP hS => ?_)
      obtain ⟨rfl, rfl⟩ := hq
      have h9 := hgo H locs hP hS
      refine lv_cv (congrArg nI (show 0 = (wtF (σ (44 + μ)) (σ (48 + μ)) ) by rw [hc9]; exact rfl)) ?_
      exact h9
    · have hty8 : T b = (3 + 8, 0) := by rw [hm9.1, hc9]; rfl
      refine g_run_i (f := fun u => u) (g_runU (k := 3) [] X hK hP hS hC hB (v_X2_waits hk9 hm9.1 hm9.2.2.2.1  ) (va_cwU 0 X.2.2.2.2 gX10_plan_X2_waits_u96X1 rfl rfl rfl rfl ⟨by decide, by decide, by decide +kernel⟩ ⟨Nat.le_of_ble_eq_true rfl, Nat.le_of_ble_eq_true rfl⟩) hty8 rfl rfl hl.1 rfl (Nat.le_of_ble_eq_true rfl) dX10_plan_65 (by exact ⟨Nat.zero_le _, Nat.zero_le _⟩)) hS (fun r u H locs hq hP hS => ?_)
      obtain ⟨rfl, rfl⟩ := hq
      have h9 := hgo H locs hP hS
      refine lv_cv (congrArg nI (show 0 = (wtF (σ (44 + μ)) (σ (48 + μ)) ) by rw [hc9]; exact rfl)) ?_
      exact h9
    · have hty8 : T b = (9 + 8, 0) := by rw [hm9.1, hc9]; rfl
      refine g_run_i (f := fun u => u) (g_runU (k := 9) [] X hK hP hS hC hB (v_X9_waits hk9 hm9.1 hm9.2.2.2.1  ) (va_cwO 0 X.2.2.2.2 gX10_plan_X9_waits_u96X7 rfl rfl rfl (b0 := cX2_waits) (m0 := 1) (r0 := some .int) (by decide +kernel) ⟨by decide, by decide, by decide +kernel⟩ ⟨Nat.le_of_ble_eq_true rfl, Nat.le_of_ble_eq_true rfl⟩) hty8 rfl rfl hl.1 rfl (Nat.le_of_ble_eq_true rfl) dX10_plan_65 (by exact ⟨Nat.zero_le _, Nat.zero_le _⟩)) hS (fun r u H locs hq hP hS => ?_)
      obtain ⟨rfl, rfl⟩ := hq
      have h9 := hgo H locs hP hS
      refine lv_cv (congrArg nI (show (σ (48 + μ)) = (wtF (σ (44 + μ)) (σ (48 + μ)) ) by rw [hc9]; exact rfl)) ?_
      exact h9
    · have hty8 : T b = (5 + 8, 0) := by rw [hm9.1, hc9]; rfl
      refine g_run_i (f := fun u => u) (g_runU (k := 5) [] X hK hP hS hC hB (v_X2_waits hk9 hm9.1 hm9.2.2.2.1  ) (va_cwU 0 X.2.2.2.2 gX10_plan_X2_waits_u96X3 rfl rfl rfl rfl ⟨by decide, by decide, by decide +kernel⟩ ⟨Nat.le_of_ble_eq_true rfl, Nat.le_of_ble_eq_true rfl⟩) hty8 rfl rfl hl.1 rfl (Nat.le_of_ble_eq_true rfl) dX10_plan_65 (by exact ⟨Nat.zero_le _, Nat.zero_le _⟩)) hS (fun r u H locs hq hP hS => ?_)
      obtain ⟨rfl, rfl⟩ := hq
      have h9 := hgo H locs hP hS
      refine lv_cv (congrArg nI (show 0 = (wtF (σ (44 + μ)) (σ (48 + μ)) ) by rw [hc9]; exact rfl)) ?_
      exact h9
  refine lv_iadd X.1 X.2.1 dX10_plan_68 ?_
  refine g_puti 10 2 X hK hP hS (hW.tript (by omega)) rfl hinRX8 tyX8 tyX8_ok nmX8 rfl (by decide) k100 (fun _ h => h) rfl rfl rfl dX10_plan_69 (fun H locs hP hS => ?_)
  generalize eI3 : g2 I9 (w + 11 + μ) 2 (((nI sh) * (nI (sCm σ μ ld))) + (nI (wtF (σ (44 + μ)) (σ (48 + μ)) ))) = I3 at hP
  refine lv_aload_n X.1 X.2.1 dX10_plan_72 rfl (lv_at hl 2 rfl) ?_
  refine lv_aload_n X.1 X.2.1 dX10_plan_73 rfl (lv_at hl 2 rfl) ?_
  refine g_geti 10 2 X hK hP (hW.tript (by omega)) rfl hinRX8 rfl (by decide) k100 (fun _ h => h) dX10_plan_74 (show I3 (w + 11 + μ) 2 = ((nI sh) * (nI (sCm σ μ ld))) + (nI (wtF (σ (44 + μ)) (σ (48 + μ)) )) from (gs_same eI3)) ?_
  refine lv_aload_n X.1 X.2.1 dX10_plan_77 rfl (lv_at hl 2 rfl) ?_
  refine g_geti 10 3 X hK hP (hW.tript (by omega)) rfl hinRX8 rfl (by decide) k103 (fun _ h => h) dX10_plan_78 (show I3 (w + 11 + μ) 3 = nI (sWg fl σ μ (sCm σ μ ld) 10) from (gs_ne eI3 (by omega) hp3)) ?_
  refine lv_iadd X.1 X.2.1 dX10_plan_81 ?_
  refine lv_bipush (v := 20) X.1 X.2.1 dX10_plan_82 (by decide) ?_
  refine lv_iload X.1 X.2.1 dX10_plan_84 (lv_at hl 0 rfl) ?_
  refine lv_bipush (v := 10) X.1 X.2.1 dX10_plan_86 (by decide) ?_
  refine lv_idiv X.1 X.2.1 dX10_plan_88 (by decide) ?_
  refine lv_aload_n X.1 X.2.1 dX10_plan_89 rfl (lv_at hl 4 rfl) ?_
  refine lv_iload X.1 X.2.1 dX10_plan_90 (lv_at hl 0 rfl) ?_
  refine g_join 95 [.int (nI (drF (σ (44 + μ)) (σ (48 + μ)) (σ (4 + μ)))), .int ((nI (σ (4 + μ))) / 10), .int 20, .int ((((nI sh) * (nI (sCm σ μ ld))) + (nI (wtF (σ (44 + μ)) (σ (48 + μ)) ))) + (nI (sWg fl σ μ (sCm σ μ ld) 10))), .ref (w + 11 + μ)] hP hS (fun hgo => ?_) (fun H locs hP hS => ?_)
  · have hk9 : σ (44 + μ) ≤ 6 := hk6
    rcases k7 hk9 with hc9 | hc9 | hc9 | hc9 | hc9 | hc9 | hc9
    · have hty8 : T b = (4 + 8, 0) := by rw [hm9.1, hc9]; rfl
      refine g_run_i (f := fun u => u) (g_runV (k := 4) [.int (nI (σ (4 + μ)))] X hK hP hS hC hB (v_X2_drags hk9 hm9.1 (gs_ne eI3 (by omega) hm9.2.2.2.1) (Eq.refl (nI (σ (4 + μ)))) ) (cwV 1 X.2.2.2.2 gX10_plan_X2_drags rfl rfl rfl (by decide +kernel) ⟨Nat.le_of_ble_eq_true rfl, Nat.le_of_ble_eq_true rfl⟩) hty8 rfl rfl hl.1 rfl (Nat.le_of_ble_eq_true rfl) dX10_plan_92 (by exact ⟨Nat.zero_le _, Nat.zero_le _⟩)) hS (fun r u H locs hq hP hS => ?_)
      obtain ⟨rfl, rfl⟩ := hq
      have h9 := hgo H locs hP hS
      refine lv_cv (congrArg nI (show 0 = (drF (σ (44 + μ)) (σ (48 + μ)) (σ (4 + μ))) by rw [hc9]; exact rfl)) ?_
      exact h9
    · have hty8 : T b = (2 + 8, 0) := by rw [hm9.1, hc9]; rfl
      refine g_run_i (f := fun u => u) (g_runU (k := 2) [.int (nI (σ (4 + μ)))] X hK hP hS hC hB (v_X2_drags hk9 hm9.1 (gs_ne eI3 (by omega) hm9.2.2.2.1) (Eq.refl (nI (σ (4 + μ)))) ) (va_cwU 1 X.2.2.2.2 gX10_plan_X2_drags_u106X0 rfl rfl rfl rfl ⟨by decide, by decide, by decide +kernel⟩ ⟨Nat.le_of_ble_eq_true rfl, Nat.le_of_ble_eq_true rfl⟩) hty8 rfl rfl hl.1 rfl (Nat.le_of_ble_eq_true rfl) dX10_plan_92 (by exact ⟨Nat.zero_le _, Nat.zero_le _⟩)) hS (fun r u H locs hq hP hS => ?_)
      obtain ⟨rfl, rfl⟩ := hq
      have h9 := hgo H locs hP hS
      refine lv_cv (congrArg nI (show 0 = (drF (σ (44 + μ)) (σ (48 + μ)) (σ (4 + μ))) by rw [hc9]; exact rfl)) ?_
      exact h9
    · have hty8 : T b = (11 + 8, 0) := by rw [hm9.1, hc9]; rfl
      refine g_run_i (f := fun u => u) (g_runU (k := 11) [.int (nI (σ (4 + μ)))] X hK hP hS hC hB (v_X2_drags hk9 hm9.1 (gs_ne eI3 (by omega) hm9.2.2.2.1) (Eq.refl (nI (σ (4 + μ)))) ) (va_cwU 1 X.2.2.2.2 gX10_plan_X2_drags_u106X9 rfl rfl rfl rfl ⟨by decide, by decide, by decide +kernel⟩ ⟨Nat.le_of_ble_eq_true rfl, Nat.le_of_ble_eq_true rfl⟩) hty8 rfl rfl hl.1 rfl (Nat.le_of_ble_eq_true rfl) dX10_plan_92 (by exact ⟨Nat.zero_le _, Nat.zero_le _⟩)) hS (fun r u H locs hq hP hS => ?_)
      obtain ⟨rfl, rfl⟩ := hq
      have h9 := hgo H locs hP hS
      refine lv_cv (congrArg nI (show 0 = (drF (σ (44 + μ)) (σ (48 + μ)) (σ (4 + μ))) by rw [hc9]; exact rfl)) ?_
      exact h9
    · have hty8 : T b = (8 + 8, 0) := by rw [hm9.1, hc9]; rfl
      refine g_run_i (f := fun u => u) (g_runU (k := 8) [.int (nI (σ (4 + μ)))] X hK hP hS hC hB (v_X6_drags hk9 hm9.1 (gs_ne eI3 (by omega) hm9.2.2.2.1) (Eq.refl (nI (σ (4 + μ)))) (by omega) (by omega)) (va_cwO 1 X.2.2.2.2 gX10_plan_X6_drags_u106X6 rfl rfl rfl (b0 := cX2_drags) (m0 := 2) (r0 := some .int) (by decide +kernel) ⟨by decide, by decide, by decide +kernel⟩ ⟨Nat.le_of_ble_eq_true rfl, Nat.le_of_ble_eq_true rfl⟩) hty8 rfl rfl hl.1 rfl (Nat.le_of_ble_eq_true rfl) dX10_plan_92 (by exact ⟨Nat.zero_le _, Nat.zero_le _⟩)) hS (fun r u H locs hq hP hS => ?_)
      obtain ⟨rfl, rfl⟩ := hq
      have h9 := hgo H locs hP hS
      refine lv_cv (congrArg nI (show (if (σ (48 + μ)) < (σ (4 + μ)) then 1 else 0) = (drF (σ (44 + μ)) (σ (48 + μ)) (σ (4 + μ))) by rw [hc9]; exact drF_3.symm)) ?_
      exact h9
    · have hty8 : T b = (3 + 8, 0) := by rw [hm9.1, hc9]; rfl
      refine g_run_i (f := fun u => u) (g_runU (k := 3) [.int (nI (σ (4 + μ)))] X hK hP hS hC hB (v_X2_drags hk9 hm9.1 (gs_ne eI3 (by omega) hm9.2.2.2.1) (Eq.refl (nI (σ (4 + μ)))) ) (va_cwU 1 X.2.2.2.2 gX10_plan_X2_drags_u106X1 rfl rfl rfl rfl ⟨by decide, by decide, by decide +kernel⟩ ⟨Nat.le_of_ble_eq_true rfl, Nat.le_of_ble_eq_true rfl⟩) hty8 rfl rfl hl.1 rfl (Nat.le_of_ble_eq_true rfl) dX10_plan_92 (by exact ⟨Nat.zero_le _, Nat.zero_le _⟩)) hS (fun r u H locs hq hP hS => ?_)
      obtain ⟨rfl, rfl⟩ := hq
      have h9 := hgo H locs hP hS
      refine lv_cv (congrArg nI (show 0 = (drF (σ (44 + μ)) (σ (48 + μ)) (σ (4 + μ))) by rw [hc9]; exact rfl)) ?_
      exact h9
    · have hty8 : T b = (9 + 8, 0) := by rw [hm9.1, hc9]; rfl
      refine g_run_i (f := fun u => u) (g_runU (k := 9) [.int (nI (σ (4 + μ)))] X hK hP hS hC hB (v_X2_drags hk9 hm9.1 (gs_ne eI3 (by omega) hm9.2.2.2.1) (Eq.refl (nI (σ (4 + μ)))) ) (va_cwU 1 X.2.2.2.2 gX10_plan_X2_drags_u106X7 rfl rfl rfl rfl ⟨by decide, by decide, by decide +kernel⟩ ⟨Nat.le_of_ble_eq_true rfl, Nat.le_of_ble_eq_true rfl⟩) hty8 rfl rfl hl.1 rfl (Nat.le_of_ble_eq_true rfl) dX10_plan_92 (by exact ⟨Nat.zero_le _, Nat.zero_le _⟩)) hS (fun r u H locs hq hP hS => ?_)
      obtain ⟨rfl, rfl⟩ := hq
      have h9 := hgo H locs hP hS
      refine lv_cv (congrArg nI (show 0 = (drF (σ (44 + μ)) (σ (48 + μ)) (σ (4 + μ))) by rw [hc9]; exact rfl)) ?_
      exact h9
    · have hty8 : T b = (5 + 8, 0) := by rw [hm9.1, hc9]; rfl
      refine g_run_i (f := fun u => u) (g_runU (k := 5) [.int (nI (σ (4 + μ)))] X hK hP hS hC hB (v_X6_drags hk9 hm9.1 (gs_ne eI3 (by omega) hm9.2.2.2.1) (Eq.refl (nI (σ (4 + μ)))) (by omega) (by omega)) (va_cwO 1 X.2.2.2.2 gX10_plan_X6_drags_u106X3 rfl rfl rfl (b0 := cX2_drags) (m0 := 2) (r0 := some .int) (by decide +kernel) ⟨by decide, by decide, by decide +kernel⟩ ⟨Nat.le_of_ble_eq_true rfl, Nat.le_of_ble_eq_true rfl⟩) hty8 rfl rfl hl.1 rfl (Nat.le_of_ble_eq_true rfl) dX10_plan_92 (by exact ⟨Nat.zero_le _, Nat.zero_le _⟩)) hS (fun r u H locs hq hP hS => ?_)
      obtain ⟨rfl, rfl⟩ := hq
      have h9 := hgo H locs hP hS
      refine lv_cv (congrArg nI (show (if (σ (48 + μ)) < (σ (4 + μ)) then 1 else 0) = (drF (σ (44 + μ)) (σ (48 + μ)) (σ (4 + μ))) by rw [hc9]; exact drF_6.symm)) ?_
      exact h9
  refine lv_iadd X.1 X.2.1 dX10_plan_95 ?_
  refine lv_imul X.1 X.2.1 dX10_plan_96 ?_
  refine lv_iadd X.1 X.2.1 dX10_plan_97 ?_
  refine g_puti 10 4 X hK hP hS (hW.tript (by omega)) rfl hinRX8 tyX8 tyX8_ok nmX8 rfl (by decide) k110 (fun _ h => h) rfl rfl rfl dX10_plan_98 (fun H locs hP hS => ?_)
  generalize eI4 : g2 I3 (w + 11 + μ) 4 (((((nI sh) * (nI (sCm σ μ ld))) + (nI (wtF (σ (44 + μ)) (σ (48 + μ)) ))) + (nI (sWg fl σ μ (sCm σ μ ld) 10))) + (20 * (((nI (σ (4 + μ))) / 10) + (nI (drF (σ (44 + μ)) (σ (48 + μ)) (σ (4 + μ))))))) = I4 at hP
  refine lv_aload_n X.1 X.2.1 dX10_plan_101 rfl (lv_at hl 2 rfl) ?_
  have hse : ((((nI sh) * (nI (sCm σ μ ld))) + (nI (wtF (σ (44 + μ)) (σ (48 + μ)) ))) + (nI (sWg fl σ μ (sCm σ μ ld) 10))) + (20 * (((nI (σ (4 + μ))) / 10) + (nI (drF (σ (44 + μ)) (σ (48 + μ)) (σ (4 + μ)))))) = nI (sSe fl sh σ μ ld) := ((gn_add (gn_add (gn_add (gn_mul (Eq.refl (nI sh)) (Eq.refl (nI (sCm σ μ ld)))) (Eq.refl (nI (wtF (σ (44 + μ)) (σ (48 + μ)) )))) (Eq.refl (nI (sWg fl σ μ (sCm σ μ ld) 10)))) (gn_mul (show (20 : Int32) = nI 20 from rfl) (gn_add (gn_div (Eq.refl (nI (σ (4 + μ)))) (show (10 : Int32) = nI 10 from rfl) (by omega) (by omega) (by omega)) (Eq.refl (nI (drF (σ (44 + μ)) (σ (48 + μ)) (σ (4 + μ))))))))).trans (congrArg nI (by rw [sSe_wg, sFi_wt]))
  have htp : cTp I4 (w + 11 + μ) fl sh σ μ ld := ⟨(gs_ne eI4 (by omega) (gs_ne eI3 (by omega) hp1)), ((gs_ne eI4 (by omega) (gs_same eI3))).trans ((gn_add (gn_mul (Eq.refl (nI sh)) (Eq.refl (nI (sCm σ μ ld)))) (Eq.refl (nI (wtF (σ (44 + μ)) (σ (48 + μ)) ))))), ((gs_same eI4)).trans hse, (gs_ne eI4 (by omega) (gs_ne eI3 (by omega) hp5))⟩
  have hfr : ∀ c j, ¬ c = w + 10 → ¬ c = w + 11 + μ → I4 c j = I c j := fun c j h1 h2 => (gs_ne eI4 (by omega) (gs_ne eI3 (by omega) (hpk c j h1 h2)))
  have hcc : cC w I4 fl σ := fun ν hν => by
    by_cases e9 : ν = μ
    · subst e9; exact Or.inr ⟨(gs_ne eI4 (by omega) (gs_ne eI3 (by omega) hp0)), _, hcm, (gs_ne eI4 (by omega) (gs_ne eI3 (by omega) hp1)), (gs_ne eI4 (by omega) (gs_ne eI3 (by omega) hp3)), (gs_ne eI4 (by omega) (gs_ne eI3 (by omega) hp5)), hμ38⟩
    · unfold cT1; rw [hfr _ 0 (by omega) (by omega), hfr _ 1 (by omega) (by omega), hfr _ 3 (by omega) (by omega), hfr _ 5 (by omega) (by omega)]; exact hCc ν hν
  exact g_aret (f := fun u => u) (some (w + 11 + μ)) (z, T, I4, R) X hr (Or.inl ⟨_, rfl⟩) hlk hK hP hS dX10_plan_102 rfl ⟨rfl, I4, rfl, htp, hcc, fun c j h => hfr c j (by omega) (by omega)⟩

def sG1 (fl : List Nat) (ti sh : Nat) (σ : Nat → Nat) (μ ld : Nat) : Nat → Nat := fun i => if i = 0 then σ 0 - sCm σ μ ld else if i = 1 then σ 1 + sBr fl σ μ ld else if i = 2 then σ 2 + sSe fl sh σ μ ld else if i = 3 then σ 3 + 1 else if i = 4 + μ then sTd ti σ μ ld else σ i
theorem sGo_no {ld : Nat} (h : ¬ (σ 3 + 1) % 3 = 0) : sGo fl ti sh σ μ ld = sG1 fl ti sh σ μ ld := by
  funext i
  unfold sGo sG1
  rw [if_neg (show ¬ (8 ≤ i ∧ i < 18 ∧ (σ 3 + 1) % 3 = 0) from fun g => h g.2.2)]
theorem sGo_ye {ld : Nat} (hμ : μ < 4) (h : (σ 3 + 1) % 3 = 0) : sGo fl ti sh σ μ ld = sSf (sG1 fl ti sh σ μ ld) 10 := by
  funext i
  unfold sSf
  by_cases q : 8 ≤ i ∧ i < 8 + 10
  · rw [if_pos q]
    have e1 : sG1 fl ti sh σ μ ld i = σ i := by
      unfold sG1
      rw [if_neg (by omega), if_neg (by omega), if_neg (by omega), if_neg (by omega), if_neg (by omega)]
    have e2 : sG1 fl ti sh σ μ ld (i + 20) = σ (i + 20) := by
      unfold sG1
      rw [if_neg (by omega), if_neg (by omega), if_neg (by omega), if_neg (by omega), if_neg (by omega)]
    unfold sGo
    rw [if_neg (by omega), if_neg (by omega), if_neg (by omega), if_neg (by omega), if_neg (by omega), if_pos ⟨q.1, by omega, h⟩]
    unfold sSo
    rw [e1, e2]
  · rw [if_neg q]
    unfold sGo sG1
    rw [if_neg (show ¬ (8 ≤ i ∧ i < 18 ∧ (σ 3 + 1) % 3 = 0) from fun g => q ⟨g.1, by have := g.2.1; omega⟩)]
theorem sG1_look {ld : Nat} (hμ : μ < 4) : sLook σ (sG1 fl ti sh σ μ ld) := fun i hi => by
  unfold sG1
  rw [if_neg (by omega), if_neg (by omega), if_neg (by omega), if_neg (by omega), if_neg (by omega)]
theorem sTd_i {ld : Nat} (ht : σ (4 + μ) ≤ 99) (hti : ti ≤ 99) : sTd ti σ μ ld = (max 0 (min 99 ((σ (4 + μ) : Int) + (if σ (52 + μ) < sCm σ μ ld then (ti : Int) else -1)))).toNat := by
  unfold sTd
  split <;> omega
theorem g1_cA {J : Nat → Nat → Int32} {ld : Nat} (h : cA w I σ) (hμ : μ < 4) (h0 : J w 8 = nI (σ 0 - sCm σ μ ld)) (h1 : J w 9 = nI (σ 1 + sBr fl σ μ ld)) (h2 : J w 10 = nI (σ 2 + sSe fl sh σ μ ld)) (h3 : J w 11 = nI (σ 3 + 1)) (h4 : J (w + 6) μ = nI (sTd ti σ μ ld)) (ho : ∀ c j, ¬ (c = w ∧ 8 ≤ j ∧ j ≤ 11) → ¬ (c = w + 6 ∧ j = μ) → J c j = I c j) : cA w J (sG1 fl ti sh σ μ ld) := by
  refine ⟨fun k y hk hy => ?_, fun ν hν => ?_, ?_, ?_, ?_, ?_, ?_, ?_⟩
  · rw [ho _ _ (by omega) (by omega), h.1 k y hk hy]
    unfold sG1
    rw [if_neg (by omega), if_neg (by omega), if_neg (by omega), if_neg (by omega), if_neg (by omega)]
  · by_cases e : ν = μ
    · subst e
      rw [h4]
      unfold sG1
      rw [if_neg (by omega), if_neg (by omega), if_neg (by omega), if_neg (by omega), if_pos rfl]
    · rw [ho _ _ (by omega) (by omega), h.2.1 ν hν]
      unfold sG1
      rw [if_neg (by omega), if_neg (by omega), if_neg (by omega), if_neg (by omega), if_neg (by omega)]
  · rw [ho _ _ (by omega) (by omega), h.2.2.1]
    unfold sG1
    rw [if_neg (by omega), if_neg (by omega), if_neg (by omega), if_neg (by omega), if_neg (by omega)]
  · rw [h0]; rfl
  · rw [h1]; rfl
  · rw [h2]; rfl
  · rw [h3]; rfl
  · rw [ho _ _ (by omega) (by omega), h.2.2.2.2.2.2.2]
    unfold sG1
    rw [if_neg (by omega), if_neg (by omega), if_neg (by omega), if_neg (by omega), if_neg (by omega)]

set_option maxHeartbeats 4000000 in
set_option maxRecDepth 100000 in
/-- d_tire6 -/
theorem d_tire6 (hW : cWk w T R) (h46 : I (w + 6) μ = nI (σ (4 + μ))) (hm : cMn T I σ μ b) (hob : oW w b) (h6 : σ (44 + μ) ≤ 6) (hv9 : σ (48 + μ) ≤ 9) (hμ : μ < 4) (ht9 : σ (4 + μ) ≤ 99) {more : Int32} {d : Int} (hd : more.toInt = d) (h1 : -99 ≤ d) (h2 : d ≤ 99) : Met l yX10_tire wsX10_tire ({ frames := 1, cells := 0, slots := 0, locals := 21 }) (va_Pc [.ref w, .ref b, .int more] (gW0 s0 D cy B (z, T, I, R))) (va_Qv (fun u => u = (z, T, g2 I (w + 6) μ (nI (max 0 (min 99 ((σ (4 + μ) : Int) + d))).toNat), R)) (fun u t => gW1 D cy B u t) (gA B)) 0 0 (gA B) := by
  refine g_met (maxL := 4) (ret := none) (by decide) rfl (Nat.le_of_ble_eq_true rfl) (fun p e s m args below meth c ls X hr hlk hnm hK hP hC hS hl => ?_)
  have hl : lv_has ls 4 [(0, .ref w), (1, .ref b), (2, .int more)] := hl
  have hP : gP D cy B z T I R s.heap := hP
  have hB : B ≤ s.heap.size := by rw [hP.1]; exact hP.2.1
  have hinRX10 : ∀ w ∈ wsX100, w ∈ wsX10_tire := fun _ h => List.mem_cons_of_mem _ (List.mem_append_left _ (List.mem_append_left _ (List.mem_append_left _ (List.mem_append_left _ (List.mem_append_left _ (List.mem_append_left _ (List.mem_append_left _ (List.mem_append_right _ h))))))))
  have hin7 : ∀ κ, κ ≤ 6 → ∀ w ∈ mws κ, w ∈ wsX10_tire := fun κ hκ => by
    rcases k7 hκ with rfl | rfl | rfl | rfl | rfl | rfl | rfl
    · exact fun _ h => List.mem_cons_of_mem _ (List.mem_append_left _ (List.mem_append_left _ (List.mem_append_left _ (List.mem_append_left _ (List.mem_append_right _ h)))))
    · exact fun _ h => List.mem_cons_of_mem _ (List.mem_append_left _ (List.mem_append_left _ (List.mem_append_left _ (List.mem_append_left _ (List.mem_append_left _ (List.mem_append_left _ (List.mem_append_right _ h)))))))
    · exact fun _ h => List.mem_cons_of_mem _ (List.mem_append_right _ h)
    · exact fun _ h => List.mem_cons_of_mem _ (List.mem_append_left _ (List.mem_append_left _ (List.mem_append_right _ h)))
    · exact fun _ h => List.mem_cons_of_mem _ (List.mem_append_left _ (List.mem_append_left _ (List.mem_append_left _ (List.mem_append_left _ (List.mem_append_left _ (List.mem_append_right _ h))))))
    · exact fun _ h => List.mem_cons_of_mem _ (List.mem_append_left _ (List.mem_append_right _ h))
    · exact fun _ h => List.mem_cons_of_mem _ (List.mem_append_left _ (List.mem_append_left _ (List.mem_append_left _ (List.mem_append_right _ h))))
  have k22 : Cond.fieldLink RX10 22 "BarrowPlank$Works" "tired" "[I" ∈ wsX10_tire := by decide +kernel
  have k56 : Cond.fieldLink RX10 56 "BarrowPlank$Man" "number" "I" ∈ wsX10_tire := by decide +kernel
  have hk6 : σ (44 + μ) ≤ 6 := h6
  unfold oW at hob
  refine lv_aload_n X.1 X.2.1 dX10_tire_0 rfl (lv_at hl 0 rfl) ?_
  refine g_getr 12 2 X hK hP hW.t0 rfl hinRX10 rfl (by decide) k22 (fun _ h => h) dX10_tire_1 (show va_rf (R w 2) = .ref (w + 6) from by rw [(show R w 2 = some (w + 6) from hW.r 2 rfl)]; rfl) ?_
  refine lv_aload_n X.1 X.2.1 dX10_tire_4 rfl (lv_at hl 1 rfl) ?_
  refine g_mget 1 (by decide) hk6 X hK hP hm.1 (hin7 _ hk6) k56 (fun _ h => h) dX10_tire_5 (show I b 1 = nI μ from hm.2.2.1) ?_
  refine g_iald μ X hK hP (hW.t 6 rfl) (gIx_of (Eq.refl (nI μ)) (by omega) (by omega)) dX10_tire_8 (show I (w + 6) μ = nI (σ (4 + μ)) from h46) ?_
  refine lv_iload_n X.1 X.2.1 dX10_tire_9 rfl (lv_at hl 2 rfl) ?_
  refine lv_iadd X.1 X.2.1 dX10_tire_10 ?_
  refine lv_istore_n (lv' := [(3, .int ((nI (σ (4 + μ))) + more)), (0, .ref w), (1, .ref b), (2, .int more)]) X.1 X.2.1 dX10_tire_11 rfl hl (by decide) rfl (fun ls hl => ?_)
  refine lv_aload_n X.1 X.2.1 dX10_tire_12 rfl (lv_at hl 1 rfl) ?_
  refine g_getr 12 2 X hK hP hW.t0 rfl hinRX10 rfl (by decide) k22 (fun _ h => h) dX10_tire_13 (show va_rf (R w 2) = .ref (w + 6) from by rw [(show R w 2 = some (w + 6) from hW.r 2 rfl)]; rfl) ?_
  refine lv_aload_n X.1 X.2.1 dX10_tire_16 rfl (lv_at hl 2 rfl) ?_
  refine g_mget 1 (by decide) hk6 X hK hP hm.1 (hin7 _ hk6) k56 (fun _ h => h) dX10_tire_17 (show I b 1 = nI μ from hm.2.2.1) ?_
  refine lv_iconst (v := 0) X.1 X.2.1 dX10_tire_20 (by decide) ?_
  refine lv_bipush (v := 99) X.1 X.2.1 dX10_tire_21 (by decide) ?_
  refine lv_iload_n X.1 X.2.1 dX10_tire_23 rfl (lv_at hl 0 rfl) ?_
  refine va_mmin X.1 X.2.1 (X.2.2.1.trans hl.1.symm) X.2.2.2.1 (X.2.2.2.2 (.methodLink RX10 69 Lib.Math.min.name) (by decide +kernel)) (X.2.2.2.2 (.static Lib.Math.min.name) (by decide +kernel)) (X.2.2.2.2 (.initialized "java/lang/Math") (by decide +kernel)) (X.2.2.2.2 (.code Lib.Math.min.name Lib.Math.min.code 2 (some .int)) (by decide +kernel)) (Nat.le_of_ble_eq_true rfl) (Nat.le_of_ble_eq_true rfl) (Nat.zero_le _) (Nat.zero_le _) dX10_tire_24 ?_
  refine va_mmax X.1 X.2.1 (X.2.2.1.trans hl.1.symm) X.2.2.2.1 (X.2.2.2.2 (.methodLink RX10 75 Lib.Math.max.name) (by decide +kernel)) (X.2.2.2.2 (.static Lib.Math.max.name) (by decide +kernel)) (X.2.2.2.2 (.initialized "java/lang/Math") (by decide +kernel)) (X.2.2.2.2 (.code Lib.Math.max.name Lib.Math.max.code 2 (some .int)) (by decide +kernel)) (Nat.le_of_ble_eq_true rfl) (Nat.le_of_ble_eq_true rfl) (Nat.zero_le _) (Nat.zero_le _) dX10_tire_27 ?_
  refine lv_cv (tire_v ht9 hd h1 h2 rfl) ?_
  refine g_iast μ X hK hP hS (hW.t 6 rfl) (gIx_of (Eq.refl (nI μ)) (by omega) (by omega)) dX10_tire_30 (fun H locs hP hS => ?_)
  generalize eI1 : g2 I (w + 6) μ (nI ((max 0 (min 99 ((σ (4 + μ) : Int) + d))).toNat)) = I1 at hP
  exact g_vret (f := fun u => u) (z, T, I1, R) X hr hlk hK hP hS dX10_tire_31 (by rw [← eI1])

set_option maxHeartbeats 4000000 in
set_option maxRecDepth 100000 in
/-- d_finish -/
theorem d_finish (hall : cAll w b a μ T I R σ fl ti sh K) (hCc : cC w I fl σ) {ld : Nat} (htp : cTp I (w + 11 + μ) fl sh σ μ ld) (hKb : K < 2 ^ 28) : Met l yX10_finish wsX10_finish ({ frames := 2, cells := 0, slots := 0, locals := 44 }) (va_Pc [.ref w, .ref b, .ref (w + 11 + μ)] (gW0 s0 D cy B (z, T, I, R))) (va_Qv (fun u => ∃ I', u = (z, T, I', R) ∧ (cA w I' (sGo fl ti sh σ μ ld) ∧ cC w I' fl (sGo fl ti sh σ μ ld)) ∧ ∀ c j, ¬ (c = w ∧ 8 ≤ j ∧ j ≤ 11) → ¬ c = w + 6 → ¬ c = w + 2 → ¬ (j = 0 ∧ w + 11 ≤ c ∧ c < w + 15) → I' c j = I c j) (fun u t => gW1 D cy B u t) (gA B)) 0 0 (gA B) := by
  refine g_met (maxL := 3) (ret := none) (by decide) rfl (Nat.le_of_ble_eq_true rfl) (fun p e s m args below meth c ls X hr hlk hnm hK hP hC hS hl => ?_)
  have hl : lv_has ls 3 [(0, .ref w), (1, .ref b), (2, .ref (w + 11 + μ))] := hl
  have hP : gP D cy B z T I R s.heap := hP
  have hB : B ≤ s.heap.size := by rw [hP.1]; exact hP.2.1
  have hinRX10 : ∀ w ∈ wsX100, w ∈ wsX10_finish := fun _ h => List.mem_cons_of_mem _ (List.mem_append_left _ (List.mem_append_left _ (List.mem_append_left _ (List.mem_append_left _ (List.mem_append_left _ (List.mem_append_left _ (List.mem_append_left _ (List.mem_append_left _ (List.mem_append_left _ (List.mem_append_right _ h))))))))))
  have hinRX4 : ∀ w ∈ wsX40, w ∈ wsX10_finish := fun _ h => List.mem_cons_of_mem _ (List.mem_append_right _ h)
  have hinRX8 : ∀ w ∈ wsX80, w ∈ wsX10_finish := fun _ h => List.mem_cons_of_mem _ (List.mem_append_left _ (List.mem_append_left _ (List.mem_append_left _ (List.mem_append_left _ (List.mem_append_left _ (List.mem_append_left _ (List.mem_append_left _ (List.mem_append_left _ (List.mem_append_right _ h)))))))))
  have hin7 : ∀ κ, κ ≤ 6 → ∀ w ∈ mws κ, w ∈ wsX10_finish := fun κ hκ => by
    rcases k7 hκ with rfl | rfl | rfl | rfl | rfl | rfl | rfl
    · exact fun _ h => List.mem_cons_of_mem _ (List.mem_append_left _ (List.mem_append_left _ (List.mem_append_left _ (List.mem_append_left _ (List.mem_append_left _ (List.mem_append_right _ h))))))
    · exact fun _ h => List.mem_cons_of_mem _ (List.mem_append_left _ (List.mem_append_left _ (List.mem_append_left _ (List.mem_append_left _ (List.mem_append_left _ (List.mem_append_left _ (List.mem_append_left _ (List.mem_append_right _ h))))))))
    · exact fun _ h => List.mem_cons_of_mem _ (List.mem_append_left _ (List.mem_append_right _ h))
    · exact fun _ h => List.mem_cons_of_mem _ (List.mem_append_left _ (List.mem_append_left _ (List.mem_append_left _ (List.mem_append_right _ h))))
    · exact fun _ h => List.mem_cons_of_mem _ (List.mem_append_left _ (List.mem_append_left _ (List.mem_append_left _ (List.mem_append_left _ (List.mem_append_left _ (List.mem_append_left _ (List.mem_append_right _ h)))))))
    · exact fun _ h => List.mem_cons_of_mem _ (List.mem_append_left _ (List.mem_append_left _ (List.mem_append_right _ h)))
    · exact fun _ h => List.mem_cons_of_mem _ (List.mem_append_left _ (List.mem_append_left _ (List.mem_append_left _ (List.mem_append_left _ (List.mem_append_right _ h)))))
  have k33 : Cond.fieldLink RX10 33 "BarrowPlank$Works" "earth" "I" ∈ wsX10_finish := by decide +kernel
  have k48 : Cond.fieldLink RX10 48 "BarrowPlank$Works" "site" "LBarrowPlank$Site;" ∈ wsX10_finish := by decide +kernel
  have k86 : Cond.fieldLink RX10 86 "BarrowPlank$Trip" "came" "I" ∈ wsX10_finish := by decide +kernel
  have k110 : Cond.fieldLink RX10 110 "BarrowPlank$Trip" "seconds" "I" ∈ wsX10_finish := by decide +kernel
  have k113 : Cond.fieldLink RX10 113 "BarrowPlank$Works" "over" "I" ∈ wsX10_finish := by decide +kernel
  have k116 : Cond.fieldLink RX10 116 "BarrowPlank$Trip" "over" "I" ∈ wsX10_finish := by decide +kernel
  have k117 : Cond.fieldLink RX10 117 "BarrowPlank$Works" "second" "I" ∈ wsX10_finish := by decide +kernel
  have k120 : Cond.fieldLink RX10 120 "BarrowPlank$Man" "strong" "I" ∈ wsX10_finish := by decide +kernel
  have k123 : Cond.fieldLink RX10 123 "BarrowPlank$Site" "tire" "I" ∈ wsX10_finish := by decide +kernel
  have k129 : Cond.fieldLink RX10 129 "BarrowPlank$Works" "rounds" "I" ∈ wsX10_finish := by decide +kernel
  have hall0 := hall
  obtain ⟨hW, hA, hm, hob0, hst, hsi, hsR, hoa0, ⟨hok, hfl, hti, hsh⟩, hb, hμ, hμ38⟩ := hall
  have hb3 := hb.2.1.2.2
  have hob := hob0
  have hoa := hoa0
  unfold oW at hob
  unfold oS at hoa
  obtain ⟨hk6, hv9, hs20⟩ := hb.2.2.2.2.2.2.2.2.1 μ hμ
  have h0 := hb.1
  have ht9 := hb.2.2.1 μ hμ
  have hcm := sCm_le σ μ ld
  have hce := sCm_e σ μ ld
  obtain ⟨htp1, htp2, htp4, htp5⟩ := htp
  refine lv_aload_n X.1 X.2.1 dX10_finish_0 rfl (lv_at hl 0 rfl) ?_
  refine lv_dup X.1 X.2.1 dX10_finish_1 rfl ?_
  refine g_geti 12 8 X hK hP hW.t0 rfl hinRX10 rfl (by decide) k33 (fun _ h => h) dX10_finish_2 (show I w 8 = nI (σ 0) from hA.2.2.2.1) ?_
  refine lv_aload_n X.1 X.2.1 dX10_finish_5 rfl (lv_at hl 2 rfl) ?_
  refine g_geti 10 1 X hK hP (hW.tript hμ) rfl hinRX8 rfl (by decide) k86 (fun _ h => h) dX10_finish_6 (show I (w + 11 + μ) 1 = nI (sCm σ μ ld) from htp1) ?_
  refine lv_isub X.1 X.2.1 dX10_finish_9 ?_
  refine g_puti 12 8 X hK hP hS hW.t0 rfl hinRX10 tyX10 tyX10_ok nmX10 rfl (by decide) k33 (fun _ h => h) rfl rfl rfl dX10_finish_10 (fun H locs hP hS => ?_)
  generalize eI1 : g2 I w 8 ((nI (σ 0)) - (nI (sCm σ μ ld))) = I1 at hP
  refine lv_aload_n X.1 X.2.1 dX10_finish_13 rfl (lv_at hl 0 rfl) ?_
  refine lv_dup X.1 X.2.1 dX10_finish_14 rfl ?_
  refine g_geti 12 9 X hK hP hW.t0 rfl hinRX10 rfl (by decide) k113 (fun _ h => h) dX10_finish_15 (show I1 w 9 = nI (σ 1) from (gs_ne eI1 (by omega) hA.2.2.2.2.1)) ?_
  refine lv_aload_n X.1 X.2.1 dX10_finish_18 rfl (lv_at hl 2 rfl) ?_
  refine g_geti 10 5 X hK hP (hW.tript hμ) rfl hinRX8 rfl (by decide) k116 (fun _ h => h) dX10_finish_19 (show I1 (w + 11 + μ) 5 = nI (sBr fl σ μ ld) from (gs_ne eI1 (by omega) htp5)) ?_
  refine lv_iadd X.1 X.2.1 dX10_finish_22 ?_
  refine g_puti 12 9 X hK hP hS hW.t0 rfl hinRX10 tyX10 tyX10_ok nmX10 rfl (by decide) k113 (fun _ h => h) rfl rfl rfl dX10_finish_23 (fun H locs hP hS => ?_)
  generalize eI2 : g2 I1 w 9 ((nI (σ 1)) + (nI (sBr fl σ μ ld))) = I2 at hP
  refine lv_aload_n X.1 X.2.1 dX10_finish_26 rfl (lv_at hl 0 rfl) ?_
  refine lv_dup X.1 X.2.1 dX10_finish_27 rfl ?_
  refine g_geti 12 10 X hK hP hW.t0 rfl hinRX10 rfl (by decide) k117 (fun _ h => h) dX10_finish_28 (show I2 w 10 = nI (σ 2) from (gs_ne eI2 (by omega) (gs_ne eI1 (by omega) hA.2.2.2.2.2.1))) ?_
  refine lv_aload_n X.1 X.2.1 dX10_finish_31 rfl (lv_at hl 2 rfl) ?_
  refine g_geti 10 4 X hK hP (hW.tript hμ) rfl hinRX8 rfl (by decide) k110 (fun _ h => h) dX10_finish_32 (show I2 (w + 11 + μ) 4 = nI (sSe fl sh σ μ ld) from (gs_ne eI2 (by omega) (gs_ne eI1 (by omega) htp4))) ?_
  refine lv_iadd X.1 X.2.1 dX10_finish_35 ?_
  refine g_puti 12 10 X hK hP hS hW.t0 rfl hinRX10 tyX10 tyX10_ok nmX10 rfl (by decide) k117 (fun _ h => h) rfl rfl rfl dX10_finish_36 (fun H locs hP hS => ?_)
  generalize eI3 : g2 I2 w 10 ((nI (σ 2)) + (nI (sSe fl sh σ μ ld))) = I3 at hP
  refine lv_aload_n X.1 X.2.1 dX10_finish_39 rfl (lv_at hl 0 rfl) ?_
  refine lv_aload_n X.1 X.2.1 dX10_finish_40 rfl (lv_at hl 1 rfl) ?_
  refine lv_aload_n X.1 X.2.1 dX10_finish_41 rfl (lv_at hl 2 rfl) ?_
  refine g_geti 10 1 X hK hP (hW.tript hμ) rfl hinRX8 rfl (by decide) k86 (fun _ h => h) dX10_finish_42 (show I3 (w + 11 + μ) 1 = nI (sCm σ μ ld) from (gs_ne eI3 (by omega) (gs_ne eI2 (by omega) (gs_ne eI1 (by omega) htp1)))) ?_
  refine lv_aload_n X.1 X.2.1 dX10_finish_45 rfl (lv_at hl 1 rfl) ?_
  refine g_mget 3 (by decide) hk6 X hK hP hm.1 (hin7 _ hk6) k120 (fun _ h => h) dX10_finish_46 (show I3 b 3 = nI (σ (52 + μ)) from (gs_ne eI3 (by omega) (gs_ne eI2 (by omega) (gs_ne eI1 (by omega) hm.2.2.2.2)))) ?_
  refine lv_icmp_le (tgt := 62) X.1 X.2.1 dX10_finish_49 (by decide) (fun c49 => ?_) (fun c49 => ?_)
  · have n49 : (sCm σ μ ld) ≤ (σ (52 + μ)) := gq_le c49 (Eq.refl (nI (sCm σ μ ld))) (Eq.refl (nI (σ (52 + μ)))) (by omega) (by omega)
    refine lv_iconst (v := (-1)) X.1 X.2.1 dX10_finish_62 (by decide) ?_
    have hdy4 : ∀ c j, ¬ (c = w ∧ 8 ≤ j ∧ j ≤ 10) → I3 c j = I c j := fun c j h => (gs_ne eI3 (by omega) (gs_ne eI2 (by omega) (gs_ne eI1 (by omega) rfl)))
    have ht6y4 : I3 (w + 6) μ = nI (σ (4 + μ)) := (hdy4 _ _ (by omega)).trans (hA.2.1 μ hμ)
    refine g_run_v (f := fun u => u) (g_runV (k := 12) [.ref b, .int (-1)] X hK hP hS hC hB (d_tire6 hW ht6y4 (hm.k (fun j => hdy4 b j (by omega))) hob0 hk6 hv9 hμ ht9 (show (-1 : Int32).toInt = -1 by decide) (by decide) (by decide)) (cwV 2 X.2.2.2.2 gX10_finish_X10_tire rfl rfl rfl (by decide +kernel) ⟨Nat.le_of_ble_eq_true rfl, Nat.le_of_ble_eq_true rfl⟩) hW.t0 rfl rfl hl.1 rfl (Nat.le_of_ble_eq_true rfl) dX10_finish_63 (by exact ⟨Nat.zero_le _, Nat.zero_le _⟩)) hS (fun u H locs hq hP hS => ?_)
    subst hq
    generalize eJ5 : g2 I3 (w + 6) μ (nI (max 0 (min 99 ((σ (4 + μ) : Int) + (-1)))).toNat) = J5 at hP
    have hP : gP D cy B z T J5 R H := hP
    refine lv_aload_n X.1 X.2.1 dX10_finish_66 rfl (lv_at hl 0 rfl) ?_
    refine lv_dup X.1 X.2.1 dX10_finish_67 rfl ?_
    refine g_geti 12 11 X hK hP hW.t0 rfl hinRX10 rfl (by decide) k129 (fun _ h => h) dX10_finish_68 (show J5 w 11 = nI (σ 3) from (gs_ne eJ5 (by omega) (gs_ne eI3 (by omega) (gs_ne eI2 (by omega) (gs_ne eI1 (by omega) hA.2.2.2.2.2.2.1))))) ?_
    refine lv_iconst (v := 1) X.1 X.2.1 dX10_finish_71 (by decide) ?_
    refine lv_iadd X.1 X.2.1 dX10_finish_72 ?_
    refine g_puti 12 11 X hK hP hS hW.t0 rfl hinRX10 tyX10 tyX10_ok nmX10 rfl (by decide) k129 (fun _ h => h) rfl rfl rfl dX10_finish_73 (fun H locs hP hS => ?_)
    generalize eI6 : g2 J5 w 11 ((nI (σ 3)) + 1) = I6 at hP
    refine lv_aload_n X.1 X.2.1 dX10_finish_76 rfl (lv_at hl 0 rfl) ?_
    refine g_geti 12 11 X hK hP hW.t0 rfl hinRX10 rfl (by decide) k129 (fun _ h => h) dX10_finish_77 (show I6 w 11 = (nI (σ 3)) + 1 from (gs_same eI6)) ?_
    refine lv_iconst (v := 3) X.1 X.2.1 dX10_finish_80 (by decide) ?_
    refine lv_irem X.1 X.2.1 dX10_finish_81 (by decide) ?_
    refine lv_if_ne (tgt := 89) X.1 X.2.1 dX10_finish_82 (by decide) (fun c82 => ?_) (fun c82 => ?_)
    · have n82 : ¬ (((σ 3) + 1) % 3) = 0 := gq_ne c82 (gn_rem (gn_add (Eq.refl (nI (σ 3))) (show (1 : Int32) = nI 1 from rfl)) (show (3 : Int32) = nI 3 from rfl) (by omega) (by omega) (by omega)) (show (0 : Int32) = nI 0 from rfl) (by omega) (by omega)
      have hfo : ∀ c j, ¬ (c = w ∧ 8 ≤ j ∧ j ≤ 11) → ¬ (c = w + 6 ∧ j = μ) → I6 c j = I c j := fun c j h1 h2 => (gs_ne eI6 (by omega) (gs_ne eJ5 (by omega) (gs_ne eI3 (by omega) (gs_ne eI2 (by omega) (gs_ne eI1 (by omega) rfl)))))
      have htd : (max 0 (min 99 ((σ (4 + μ) : Int) + (-1)))).toNat = sTd ti σ μ ld := by rw [sTd_i ht9 hti, if_neg (by omega)]
      have hcA : cA w I6 (sG1 fl ti sh σ μ ld) := g1_cA hA hμ (((gs_ne eI6 (by omega) (gs_ne eJ5 (by omega) (gs_ne eI3 (by omega) (gs_ne eI2 (by omega) (gs_same eI1)))))).trans ((gn_sub (Eq.refl (nI (σ 0))) (Eq.refl (nI (sCm σ μ ld))) (by omega)))) (((gs_ne eI6 (by omega) (gs_ne eJ5 (by omega) (gs_ne eI3 (by omega) (gs_same eI2))))).trans ((gn_add (Eq.refl (nI (σ 1))) (Eq.refl (nI (sBr fl σ μ ld)))))) (((gs_ne eI6 (by omega) (gs_ne eJ5 (by omega) (gs_same eI3)))).trans ((gn_add (Eq.refl (nI (σ 2))) (Eq.refl (nI (sSe fl sh σ μ ld)))))) (((gs_same eI6)).trans ((gn_add (Eq.refl (nI (σ 3))) (show (1 : Int32) = nI 1 from rfl)))) (((gs_ne eI6 (by omega) (gs_same eJ5))).trans (congrArg nI htd)) hfo
      have hcC : cC w I6 fl (sG1 fl ti sh σ μ ld) := (hCc.k (fun c j h1 h2 => hfo c j (by omega) (by omega))).lk (sG1_look hμ)
      exact g_vret (f := fun u => u) (z, T, I6, R) X hr hlk hK hP hS dX10_finish_89 ⟨I6, rfl, (by rw [sGo_no n82]; exact ⟨hcA, hcC⟩), fun c j h1 h2 h3 h4 => hfo c j h1 (by omega)⟩
    · have n82 : (((σ 3) + 1) % 3) = 0 := gq_eq c82 (gn_rem (gn_add (Eq.refl (nI (σ 3))) (show (1 : Int32) = nI 1 from rfl)) (show (3 : Int32) = nI 3 from rfl) (by omega) (by omega) (by omega)) (show (0 : Int32) = nI 0 from rfl) (by omega) (by omega)
      refine lv_aload_n X.1 X.2.1 dX10_finish_85 rfl (lv_at hl 0 rfl) ?_
      have hfo : ∀ c j, ¬ (c = w ∧ 8 ≤ j ∧ j ≤ 11) → ¬ (c = w + 6 ∧ j = μ) → I6 c j = I c j := fun c j h1 h2 => (gs_ne eI6 (by omega) (gs_ne eJ5 (by omega) (gs_ne eI3 (by omega) (gs_ne eI2 (by omega) (gs_ne eI1 (by omega) rfl)))))
      have htd : (max 0 (min 99 ((σ (4 + μ) : Int) + (-1)))).toNat = sTd ti σ μ ld := by rw [sTd_i ht9 hti, if_neg (by omega)]
      have hcA : cA w I6 (sG1 fl ti sh σ μ ld) := g1_cA hA hμ (((gs_ne eI6 (by omega) (gs_ne eJ5 (by omega) (gs_ne eI3 (by omega) (gs_ne eI2 (by omega) (gs_same eI1)))))).trans ((gn_sub (Eq.refl (nI (σ 0))) (Eq.refl (nI (sCm σ μ ld))) (by omega)))) (((gs_ne eI6 (by omega) (gs_ne eJ5 (by omega) (gs_ne eI3 (by omega) (gs_same eI2))))).trans ((gn_add (Eq.refl (nI (σ 1))) (Eq.refl (nI (sBr fl σ μ ld)))))) (((gs_ne eI6 (by omega) (gs_ne eJ5 (by omega) (gs_same eI3)))).trans ((gn_add (Eq.refl (nI (σ 2))) (Eq.refl (nI (sSe fl sh σ μ ld)))))) (((gs_same eI6)).trans ((gn_add (Eq.refl (nI (σ 3))) (show (1 : Int32) = nI 1 from rfl)))) (((gs_ne eI6 (by omega) (gs_same eJ5))).trans (congrArg nI htd)) hfo
      have hcC : cC w I6 fl (sG1 fl ti sh σ μ ld) := (hCc.k (fun c j h1 h2 => hfo c j (by omega) (by omega))).lk (sG1_look hμ)
      refine g_run_v (f := fun u => u) (g_runV (k := 12) [] X hK hP hS hC hB (d_soften hW hcA hcC (fun y hy => by rw [sG1_look hμ (28 + y) (by omega)]; have h := hb.2.2.2.1 (20 + y) (by omega); rw [← Nat.add_assoc] at h; exact h) (fun y hy => by rw [sG1_look hμ (8 + y) (by omega)]; exact hb.2.2.2.1 y (by omega))) (cwV 0 X.2.2.2.2 gX10_finish_X10_soften rfl rfl rfl (by decide +kernel) ⟨Nat.le_of_ble_eq_true rfl, Nat.le_of_ble_eq_true rfl⟩) hW.t0 rfl rfl hl.1 rfl (Nat.le_of_ble_eq_true rfl) dX10_finish_86 (by exact ⟨Nat.zero_le _, Nat.zero_le _⟩)) hS (fun u H locs hq hP hS => ?_)
      obtain ⟨N7, rfl, hqa, hqc, hqk⟩ := hq
      have hP : gP D cy B z T N7 R H := hP
      exact g_vret (f := fun u => u) (z, T, N7, R) X hr hlk hK hP hS dX10_finish_89 ⟨N7, rfl, (by rw [sGo_ye hμ n82]; exact ⟨hqa, hqc⟩), fun c j h1 h2 h3 h4 => (hqk c j h3 h4).trans (hfo c j h1 (by omega))⟩
  · have n49 : (σ (52 + μ)) < (sCm σ μ ld) := gq_nle c49 (Eq.refl (nI (sCm σ μ ld))) (Eq.refl (nI (σ (52 + μ)))) (by omega) (by omega)
    refine lv_aload_n X.1 X.2.1 dX10_finish_52 rfl (lv_at hl 0 rfl) ?_
    refine g_getr 12 12 X hK hP hW.t0 rfl hinRX10 rfl (by decide) k48 (fun _ h => h) dX10_finish_53 (show va_rf (R w 12) = .ref a from by rw [hsR]; rfl) ?_
    refine g_geti 6 0 X hK hP hst.1 rfl hinRX4 rfl (by decide) k123 (fun _ h => h) dX10_finish_56 (show I3 a 0 = nI ti from (gs_ne eI3 (by omega) (gs_ne eI2 (by omega) (gs_ne eI1 (by omega) hsi.1)))) ?_
    refine lv_goto (tgt := 63) X.1 X.2.1 dX10_finish_59 (by decide) ?_
    have hdy8 : ∀ c j, ¬ (c = w ∧ 8 ≤ j ∧ j ≤ 10) → I3 c j = I c j := fun c j h => (gs_ne eI3 (by omega) (gs_ne eI2 (by omega) (gs_ne eI1 (by omega) rfl)))
    have ht6y8 : I3 (w + 6) μ = nI (σ (4 + μ)) := (hdy8 _ _ (by omega)).trans (hA.2.1 μ hμ)
    refine g_run_v (f := fun u => u) (g_runV (k := 12) [.ref b, .int (nI ti)] X hK hP hS hC hB (d_tire6 hW ht6y8 (hm.k (fun j => hdy8 b j (by omega))) hob0 hk6 hv9 hμ ht9 (nI_toInt (by omega)) (by omega) (by omega)) (cwV 2 X.2.2.2.2 gX10_finish_X10_tire rfl rfl rfl (by decide +kernel) ⟨Nat.le_of_ble_eq_true rfl, Nat.le_of_ble_eq_true rfl⟩) hW.t0 rfl rfl hl.1 rfl (Nat.le_of_ble_eq_true rfl) dX10_finish_63 (by exact ⟨Nat.zero_le _, Nat.zero_le _⟩)) hS (fun u H locs hq hP hS => ?_)
    subst hq
    generalize eJ9 : g2 I3 (w + 6) μ (nI (max 0 (min 99 ((σ (4 + μ) : Int) + (ti : Int)))).toNat) = J9 at hP
    have hP : gP D cy B z T J9 R H := hP
    refine lv_aload_n X.1 X.2.1 dX10_finish_66 rfl (lv_at hl 0 rfl) ?_
    refine lv_dup X.1 X.2.1 dX10_finish_67 rfl ?_
    refine g_geti 12 11 X hK hP hW.t0 rfl hinRX10 rfl (by decide) k129 (fun _ h => h) dX10_finish_68 (show J9 w 11 = nI (σ 3) from (gs_ne eJ9 (by omega) (gs_ne eI3 (by omega) (gs_ne eI2 (by omega) (gs_ne eI1 (by omega) hA.2.2.2.2.2.2.1))))) ?_
    refine lv_iconst (v := 1) X.1 X.2.1 dX10_finish_71 (by decide) ?_
    refine lv_iadd X.1 X.2.1 dX10_finish_72 ?_
    refine g_puti 12 11 X hK hP hS hW.t0 rfl hinRX10 tyX10 tyX10_ok nmX10 rfl (by decide) k129 (fun _ h => h) rfl rfl rfl dX10_finish_73 (fun H locs hP hS => ?_)
    generalize eI10 : g2 J9 w 11 ((nI (σ 3)) + 1) = I10 at hP
    refine lv_aload_n X.1 X.2.1 dX10_finish_76 rfl (lv_at hl 0 rfl) ?_
    refine g_geti 12 11 X hK hP hW.t0 rfl hinRX10 rfl (by decide) k129 (fun _ h => h) dX10_finish_77 (show I10 w 11 = (nI (σ 3)) + 1 from (gs_same eI10)) ?_
    refine lv_iconst (v := 3) X.1 X.2.1 dX10_finish_80 (by decide) ?_
    refine lv_irem X.1 X.2.1 dX10_finish_81 (by decide) ?_
    refine lv_if_ne (tgt := 89) X.1 X.2.1 dX10_finish_82 (by decide) (fun c82 => ?_) (fun c82 => ?_)
    · have n82 : ¬ (((σ 3) + 1) % 3) = 0 := gq_ne c82 (gn_rem (gn_add (Eq.refl (nI (σ 3))) (show (1 : Int32) = nI 1 from rfl)) (show (3 : Int32) = nI 3 from rfl) (by omega) (by omega) (by omega)) (show (0 : Int32) = nI 0 from rfl) (by omega) (by omega)
      have hfo : ∀ c j, ¬ (c = w ∧ 8 ≤ j ∧ j ≤ 11) → ¬ (c = w + 6 ∧ j = μ) → I10 c j = I c j := fun c j h1 h2 => (gs_ne eI10 (by omega) (gs_ne eJ9 (by omega) (gs_ne eI3 (by omega) (gs_ne eI2 (by omega) (gs_ne eI1 (by omega) rfl)))))
      have htd : (max 0 (min 99 ((σ (4 + μ) : Int) + (ti : Int)))).toNat = sTd ti σ μ ld := by rw [sTd_i ht9 hti, if_pos (by omega)]
      have hcA : cA w I10 (sG1 fl ti sh σ μ ld) := g1_cA hA hμ (((gs_ne eI10 (by omega) (gs_ne eJ9 (by omega) (gs_ne eI3 (by omega) (gs_ne eI2 (by omega) (gs_same eI1)))))).trans ((gn_sub (Eq.refl (nI (σ 0))) (Eq.refl (nI (sCm σ μ ld))) (by omega)))) (((gs_ne eI10 (by omega) (gs_ne eJ9 (by omega) (gs_ne eI3 (by omega) (gs_same eI2))))).trans ((gn_add (Eq.refl (nI (σ 1))) (Eq.refl (nI (sBr fl σ μ ld)))))) (((gs_ne eI10 (by omega) (gs_ne eJ9 (by omega) (gs_same eI3)))).trans ((gn_add (Eq.refl (nI (σ 2))) (Eq.refl (nI (sSe fl sh σ μ ld)))))) (((gs_same eI10)).trans ((gn_add (Eq.refl (nI (σ 3))) (show (1 : Int32) = nI 1 from rfl)))) (((gs_ne eI10 (by omega) (gs_same eJ9))).trans (congrArg nI htd)) hfo
      have hcC : cC w I10 fl (sG1 fl ti sh σ μ ld) := (hCc.k (fun c j h1 h2 => hfo c j (by omega) (by omega))).lk (sG1_look hμ)
      exact g_vret (f := fun u => u) (z, T, I10, R) X hr hlk hK hP hS dX10_finish_89 ⟨I10, rfl, (by rw [sGo_no n82]; exact ⟨hcA, hcC⟩), fun c j h1 h2 h3 h4 => hfo c j h1 (by omega)⟩
    · have n82 : (((σ 3) + 1) % 3) = 0 := gq_eq c82 (gn_rem (gn_add (Eq.refl (nI (σ 3))) (show (1 : Int32) = nI 1 from rfl)) (show (3 : Int32) = nI 3 from rfl) (by omega) (by omega) (by omega)) (show (0 : Int32) = nI 0 from rfl) (by omega) (by omega)
      refine lv_aload_n X.1 X.2.1 dX10_finish_85 rfl (lv_at hl 0 rfl) ?_
      have hfo : ∀ c j, ¬ (c = w ∧ 8 ≤ j ∧ j ≤ 11) → ¬ (c = w + 6 ∧ j = μ) → I10 c j = I c j := fun c j h1 h2 => (gs_ne eI10 (by omega) (gs_ne eJ9 (by omega) (gs_ne eI3 (by omega) (gs_ne eI2 (by omega) (gs_ne eI1 (by omega) rfl)))))
      have htd : (max 0 (min 99 ((σ (4 + μ) : Int) + (ti : Int)))).toNat = sTd ti σ μ ld := by rw [sTd_i ht9 hti, if_pos (by omega)]
      have hcA : cA w I10 (sG1 fl ti sh σ μ ld) := g1_cA hA hμ (((gs_ne eI10 (by omega) (gs_ne eJ9 (by omega) (gs_ne eI3 (by omega) (gs_ne eI2 (by omega) (gs_same eI1)))))).trans ((gn_sub (Eq.refl (nI (σ 0))) (Eq.refl (nI (sCm σ μ ld))) (by omega)))) (((gs_ne eI10 (by omega) (gs_ne eJ9 (by omega) (gs_ne eI3 (by omega) (gs_same eI2))))).trans ((gn_add (Eq.refl (nI (σ 1))) (Eq.refl (nI (sBr fl σ μ ld)))))) (((gs_ne eI10 (by omega) (gs_ne eJ9 (by omega) (gs_same eI3)))).trans ((gn_add (Eq.refl (nI (σ 2))) (Eq.refl (nI (sSe fl sh σ μ ld)))))) (((gs_same eI10)).trans ((gn_add (Eq.refl (nI (σ 3))) (show (1 : Int32) = nI 1 from rfl)))) (((gs_ne eI10 (by omega) (gs_same eJ9))).trans (congrArg nI htd)) hfo
      have hcC : cC w I10 fl (sG1 fl ti sh σ μ ld) := (hCc.k (fun c j h1 h2 => hfo c j (by omega) (by omega))).lk (sG1_look hμ)
      refine g_run_v (f := fun u => u) (g_runV (k := 12) [] X hK hP hS hC hB (d_soften hW hcA hcC (fun y hy => by rw [sG1_look hμ (28 + y) (by omega)]; have h := hb.2.2.2.1 (20 + y) (by omega); rw [← Nat.add_assoc] at h; exact h) (fun y hy => by rw [sG1_look hμ (8 + y) (by omega)]; exact hb.2.2.2.1 y (by omega))) (cwV 0 X.2.2.2.2 gX10_finish_X10_soften rfl rfl rfl (by decide +kernel) ⟨Nat.le_of_ble_eq_true rfl, Nat.le_of_ble_eq_true rfl⟩) hW.t0 rfl rfl hl.1 rfl (Nat.le_of_ble_eq_true rfl) dX10_finish_86 (by exact ⟨Nat.zero_le _, Nat.zero_le _⟩)) hS (fun u H locs hq hP hS => ?_)
      obtain ⟨N11, rfl, hqa, hqc, hqk⟩ := hq
      have hP : gP D cy B z T N11 R H := hP
      exact g_vret (f := fun u => u) (z, T, N11, R) X hr hlk hK hP hS dX10_finish_89 ⟨N11, rfl, (by rw [sGo_ye hμ n82]; exact ⟨hqa, hqc⟩), fun c j h1 h2 h3 h4 => (hqk c j h3 h4).trans (hfo c j h1 (by omega))⟩

end PG