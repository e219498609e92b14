section PF
variable {l : Launch} {s0 : State} {D : va_G} {cy : Nat → ClassId} {B z : Nat} {T : Nat → Nat × Nat} {I : Nat → Nat → Int32} {R : Nat → Nat → Option Nat} {w b a μ : Nat} {σ : Nat → Nat} {K ti sh : Nat} {fl : List Nat}
set_option maxHeartbeats 4000000 in
set_option maxRecDepth 100000 in
/-- d_walk -/
theorem d_walk (hall : cAll w b a μ T I R σ fl ti sh K) {ca : Nat} (hca : ca ≤ 20) : Met l yX10_walk wsX10_walk ({ frames := 3, cells := 0, slots := 0, locals := 72 }) (va_Pc [.ref w, .ref (w + 11 + μ), .ref b, .int (nI ca)] (gW0 s0 D cy B (z, T, I, R))) (va_Qv (fun u => ∃ I', u = (z, T, I', R) ∧ I' (w + 11 + μ) 0 = 1 ∧ I' (w + 11 + μ) 1 = nI ca ∧ I' (w + 11 + μ) 3 = nI (sWg fl σ μ ca 10) ∧ I' (w + 11 + μ) 5 = nI (sBa fl σ μ ca 10) ∧ ∀ c j, ¬ c = w + 10 → ¬ (c = w + 11 + μ ∧ (j = 0 ∨ j = 1 ∨ j = 3 ∨ j = 5)) → I' c j = I c j) (fun u t => gW1 D cy B u t) (gA B)) 0 0 (gA B) := by
  refine g_met (maxL := 8) (ret := none) (by decide) rfl (Nat.le_of_ble_eq_true rfl) (fun p e s m args below meth c ls X hr hlk hnm hK hP hC hS hl => ?_)
  have hl : lv_has ls 8 [(0, .ref w), (1, .ref (w + 11 + μ)), (2, .ref b), (3, .int (nI ca))] := hl
  have hP : gP D cy B z T I R s.heap := hP
  have hB : B ≤ s.heap.size := by rw [hP.1]; exact hP.2.1
  have hinRX10 : ∀ w ∈ wsX100, w ∈ wsX10_walk := fun _ h => List.mem_cons_of_mem _ (List.mem_append_left _ (List.mem_append_left _ (List.mem_append_left _ (List.mem_append_left _ (List.mem_append_left _ (List.mem_append_left _ (List.mem_append_left _ (List.mem_append_left _ (List.mem_append_left _ (List.mem_append_right _ h))))))))))
  have hinRX8 : ∀ w ∈ wsX80, w ∈ wsX10_walk := fun _ h => List.mem_cons_of_mem _ (List.mem_append_left _ (List.mem_append_left _ (List.mem_append_left _ (List.mem_append_left _ (List.mem_append_left _ (List.mem_append_left _ (List.mem_append_left _ (List.mem_append_left _ (List.mem_append_right _ h)))))))))
  have hin7 : ∀ κ, κ ≤ 6 → ∀ w ∈ mws κ, w ∈ wsX10_walk := fun κ hκ => by
    rcases k7 hκ with rfl | rfl | rfl | rfl | rfl | rfl | rfl
    · exact fun _ h => List.mem_cons_of_mem _ (List.mem_append_left _ (List.mem_append_left _ (List.mem_append_left _ (List.mem_append_left _ (List.mem_append_left _ (List.mem_append_right _ h))))))
    · exact fun _ h => List.mem_cons_of_mem _ (List.mem_append_left _ (List.mem_append_left _ (List.mem_append_left _ (List.mem_append_left _ (List.mem_append_left _ (List.mem_append_left _ (List.mem_append_left _ (List.mem_append_right _ h))))))))
    · exact fun _ h => List.mem_cons_of_mem _ (List.mem_append_left _ (List.mem_append_right _ h))
    · exact fun _ h => List.mem_cons_of_mem _ (List.mem_append_left _ (List.mem_append_left _ (List.mem_append_left _ (List.mem_append_right _ h))))
    · exact fun _ h => List.mem_cons_of_mem _ (List.mem_append_left _ (List.mem_append_left _ (List.mem_append_left _ (List.mem_append_left _ (List.mem_append_left _ (List.mem_append_left _ (List.mem_append_right _ h)))))))
    · exact fun _ h => List.mem_cons_of_mem _ (List.mem_append_left _ (List.mem_append_left _ (List.mem_append_right _ h)))
    · exact fun _ h => List.mem_cons_of_mem _ (List.mem_append_left _ (List.mem_append_left _ (List.mem_append_left _ (List.mem_append_left _ (List.mem_append_right _ h)))))
  have k11 : Cond.fieldLink RX10 11 "BarrowPlank$Works" "yards" "[[I" ∈ wsX10_walk := by decide +kernel
  have k45 : Cond.fieldLink RX10 45 "BarrowPlank$Works" "facts" "[I" ∈ wsX10_walk := by decide +kernel
  have k48 : Cond.fieldLink RX10 48 "BarrowPlank$Works" "site" "LBarrowPlank$Site;" ∈ wsX10_walk := by decide +kernel
  have k82 : Cond.fieldLink RX10 82 "BarrowPlank$Trip" "known" "Z" ∈ wsX10_walk := by decide +kernel
  have k86 : Cond.fieldLink RX10 86 "BarrowPlank$Trip" "came" "I" ∈ wsX10_walk := by decide +kernel
  have k103 : Cond.fieldLink RX10 103 "BarrowPlank$Trip" "walking" "I" ∈ wsX10_walk := by decide +kernel
  have k116 : Cond.fieldLink RX10 116 "BarrowPlank$Trip" "over" "I" ∈ wsX10_walk := by decide +kernel
  obtain ⟨hW, hA, hm, hob0, hst, hsi, hsR, hoa0, ⟨hok, hfl, hti, hsh⟩, hb, hμ, hμ38⟩ := hall
  have hb3 := hb.2.1.2.2
  have hob := hob0
  have hoa := hoa0
  unfold oW at hob
  unfold oS at hoa
  obtain ⟨hk6, hv9, hs20⟩ := hb.2.2.2.2.2.2.2.2.1 μ hμ
  have h0 := hb.1
  have ht9 := hb.2.2.1 μ hμ
  refine lv_iload_n X.1 X.2.1 dX10_walk_0 rfl (lv_at hl 3 rfl) ?_
  refine lv_istore (lv' := [(4, .int (nI ca)), (0, .ref w), (1, .ref (w + 11 + μ)), (2, .ref b), (3, .int (nI ca))]) X.1 X.2.1 dX10_walk_1 hl (by decide) rfl (fun ls hl => ?_)
  refine lv_iconst (v := 0) X.1 X.2.1 dX10_walk_3 (by decide) ?_
  refine lv_istore (lv' := [(5, .int 0), (4, .int (nI ca)), (0, .ref w), (1, .ref (w + 11 + μ)), (2, .ref b), (3, .int (nI ca))]) X.1 X.2.1 dX10_walk_4 hl (by decide) rfl (fun ls hl => ?_)
  refine lv_iconst (v := 0) X.1 X.2.1 dX10_walk_6 (by decide) ?_
  refine lv_istore (lv' := [(6, .int 0), (5, .int 0), (4, .int (nI ca)), (0, .ref w), (1, .ref (w + 11 + μ)), (2, .ref b), (3, .int (nI ca))]) X.1 X.2.1 dX10_walk_7 hl (by decide) rfl (fun ls hl => ?_)
  refine i_loop (I := I) 10 9 [] (fun k Q9 ls => (∀ c j, ¬ c = w + 10 → Q9 c j = I c j) ∧ lv_has ls 8 [(0, .ref w), (1, .ref (w + 11 + μ)), (2, .ref b), (3, .int (nI ca)), (4, .int (nI (sBa fl σ μ ca k))), (5, .int (nI (sWg fl σ μ ca k))), (6, .int (nI k))]) 0 (by omega) ⟨fun _ _ _ => rfl, lv_sub hl [3, 4, 5, 6, 2, 1, 0] rfl⟩ hP hS (fun k Q9 H locs ls hk hiv hP hS ih => ?_)
  obtain ⟨hq, hl⟩ := hiv
  have hA9 : cA w Q9 σ := hA.k (fun c j h1 h2 => hq c j (by omega))
  have hm9 : cMn T Q9 σ μ b := hm.k (fun j => hq b j (by omega))
  have hsi9 : cSi a Q9 fl ti sh := hsi.k (fun c j h1 h2 => hq c j (by omega))
  have hba9 := sBa_le fl σ μ ca k
  refine lv_iload X.1 X.2.1 dX10_walk_9 (lv_at hl 6 rfl) ?_
  refine lv_bipush (v := 10) X.1 X.2.1 dX10_walk_11 (by decide) ?_
  refine lv_icmp_ge (tgt := 151) X.1 X.2.1 dX10_walk_13 (by decide) (fun c13 => ?_) (fun c13 => ?_)
  · have n13 : 10 ≤ k := gq_le c13 (show (10 : Int32) = nI 10 from rfl) (Eq.refl (nI k)) (by omega) (by omega)
    refine lv_aload_n X.1 X.2.1 dX10_walk_151 rfl (lv_at hl 1 rfl) ?_
    refine lv_iload_n X.1 X.2.1 dX10_walk_152 rfl (lv_at hl 3 rfl) ?_
    refine g_puti 10 1 X hK hP hS (hW.tript hμ) rfl hinRX8 tyX8 tyX8_ok nmX8 rfl (by decide) k86 (fun _ h => h) rfl rfl rfl dX10_walk_153 (fun H locs hP hS => ?_)
    generalize eI1 : g2 Q9 (w + 11 + μ) 1 (nI ca) = I1 at hP
    refine lv_aload_n X.1 X.2.1 dX10_walk_156 rfl (lv_at hl 1 rfl) ?_
    refine lv_iload X.1 X.2.1 dX10_walk_157 (lv_at hl 5 rfl) ?_
    refine g_puti 10 3 X hK hP hS (hW.tript hμ) rfl hinRX8 tyX8 tyX8_ok nmX8 rfl (by decide) k103 (fun _ h => h) rfl rfl rfl dX10_walk_159 (fun H locs hP hS => ?_)
    generalize eI2 : g2 I1 (w + 11 + μ) 3 (nI (sWg fl σ μ ca k)) = I2 at hP
    refine lv_aload_n X.1 X.2.1 dX10_walk_162 rfl (lv_at hl 1 rfl) ?_
    refine lv_iload X.1 X.2.1 dX10_walk_163 (lv_at hl 4 rfl) ?_
    refine g_puti 10 5 X hK hP hS (hW.tript hμ) rfl hinRX8 tyX8 tyX8_ok nmX8 rfl (by decide) k116 (fun _ h => h) rfl rfl rfl dX10_walk_165 (fun H locs hP hS => ?_)
    generalize eI3 : g2 I2 (w + 11 + μ) 5 (nI (sBa fl σ μ ca k)) = I3 at hP
    refine lv_aload_n X.1 X.2.1 dX10_walk_168 rfl (lv_at hl 1 rfl) ?_
    refine lv_iconst (v := 1) X.1 X.2.1 dX10_walk_169 (by decide) ?_
    refine g_puti 10 0 X hK hP hS (hW.tript hμ) rfl hinRX8 tyX8 tyX8_ok nmX8 rfl (by decide) k82 (fun _ h => h) rfl rfl rfl dX10_walk_170 (fun H locs hP hS => ?_)
    generalize eI4 : g2 I3 (w + 11 + μ) 0 1 = I4 at hP
    obtain rfl : k = 10 := by omega
    exact g_vret (f := fun u => u) (z, T, I4, R) X hr hlk hK hP hS dX10_walk_173 ⟨I4, rfl, (gs_same eI4), (gs_ne eI4 (by omega) (gs_ne eI3 (by omega) (gs_ne eI2 (by omega) (gs_same eI1)))), (gs_ne eI4 (by omega) (gs_ne eI3 (by omega) (gs_same eI2))), (gs_ne eI4 (by omega) (gs_same eI3)), fun c j h1 h2 => (gs_ne eI4 (by omega) (gs_ne eI3 (by omega) (gs_ne eI2 (by omega) (gs_ne eI1 (by omega) (hq c j h1)))))⟩
  · have n13 : k < 10 := gq_nle c13 (show (10 : Int32) = nI 10 from rfl) (Eq.refl (nI k)) (by omega) (by omega)
    have hb28 : σ (28 + k) ≤ 9 := by have h := hb.2.2.2.1 (20 + k) (by omega); rw [← Nat.add_assoc] at h; exact h
    have hsp9 := spF_le (κ := σ (44 + μ)) (y := k) (b := σ (28 + k)) hv9
    refine lv_aload_n X.1 X.2.1 dX10_walk_16 rfl (lv_at hl 0 rfl) ?_
    refine g_getr 12 0 X hK hP hW.t0 rfl hinRX10 rfl (by decide) k11 (fun _ h => h) dX10_walk_17 (show va_rf (R w 0) = .ref (w + 1) from by rw [(show R w 0 = some (w + 1) from hW.r 0 rfl)]; rfl) ?_
    refine lv_iconst (v := 2) X.1 X.2.1 dX10_walk_20 (by decide) ?_
    refine g_2aald 2 X hK hP (hW.t 1 rfl) (gIx_of (show (2 : Int32) = nI 2 from rfl) (by omega) (by omega)) dX10_walk_21 (show va_rf (R (w + 1) 2) = .ref (w + 4) from by rw [(hW.r 9 rfl)]; rfl) ?_
    refine lv_iload X.1 X.2.1 dX10_walk_22 (lv_at hl 6 rfl) ?_
    refine g_iald k X hK hP (hW.t 4 rfl) (gIx_of (Eq.refl (nI k)) (by omega) (by omega)) dX10_walk_24 (show Q9 (w + 4) k = nI (σ (28 + k)) from (hA9.b (y := k) (by omega))) ?_
    refine lv_istore (lv' := [(7, .int (nI (σ (28 + k)))), (0, .ref w), (1, .ref (w + 11 + μ)), (2, .ref b), (3, .int (nI ca)), (4, .int (nI (sBa fl σ μ ca k))), (5, .int (nI (sWg fl σ μ ca k))), (6, .int (nI k))]) X.1 X.2.1 dX10_walk_25 hl (by decide) rfl (fun ls hl => ?_)
    refine lv_aload_n X.1 X.2.1 dX10_walk_27 rfl (lv_at hl 1 rfl) ?_
    refine lv_aload_n X.1 X.2.1 dX10_walk_28 rfl (lv_at hl 3 rfl) ?_
    refine lv_iload X.1 X.2.1 dX10_walk_29 (lv_at hl 7 rfl) ?_
    refine lv_iload X.1 X.2.1 dX10_walk_31 (lv_at hl 5 rfl) ?_
    refine g_run_v (f := fun u => u) (g_runV (k := 12) [.ref b, .int (nI k), .int (nI (sBa fl σ μ ca k))] X hK hP hS hC hB (d_look (y := k) (q := (sBa fl σ μ ca k)) hW hA9 hm9 hob0 hk6 (by omega)) (cwV 3 X.2.2.2.2 gX10_walk_X10_look rfl rfl rfl (by decide +kernel) ⟨Nat.le_of_ble_eq_true rfl, Nat.le_of_ble_eq_true rfl⟩) hW.t0 rfl rfl hl.1 rfl (Nat.le_of_ble_eq_true rfl) dX10_walk_33 (by exact ⟨Nat.zero_le _, Nat.zero_le _⟩)) hS (fun u H locs hq hP hS => ?_)
    obtain ⟨L5, rfl, hfL5, hkL5⟩ := hq
    have hP : gP D cy B z T L5 R H := hP
    have hoL5 : ∀ c j, ¬ c = w + 10 → L5 c j = I c j := fun c j h => (hkL5 c j h).trans (hq c j h)
    have hAL5 : cA w L5 σ := hA.k (fun c j h1 h2 => hoL5 c j (by omega))
    have hmL5 : cMn T L5 σ μ b := hm.k (fun j => hoL5 b j (by omega))
    have hsiL5 : cSi a L5 fl ti sh := hsi.k (fun c j h1 h2 => hoL5 c j (by omega))
    refine lv_iload X.1 X.2.1 dX10_walk_36 (lv_at hl 6 rfl) ?_
    refine lv_iconst (v := 1) X.1 X.2.1 dX10_walk_38 (by decide) ?_
    refine lv_iconst (v := 2) X.1 X.2.1 dX10_walk_39 (by decide) ?_
    refine lv_aload_n X.1 X.2.1 dX10_walk_40 rfl (lv_at hl 1 rfl) ?_
    refine g_getr 12 12 X hK hP hW.t0 rfl hinRX10 rfl (by decide) k48 (fun _ h => h) dX10_walk_41 (show va_rf (R w 12) = .ref a from by rw [hsR]; rfl) ?_
    refine lv_aload_n X.1 X.2.1 dX10_walk_44 rfl (lv_at hl 1 rfl) ?_
    refine g_getr 12 15 X hK hP hW.t0 rfl hinRX10 rfl (by decide) k45 (fun _ h => h) dX10_walk_45 (show va_rf (R w 15) = .ref (w + 10) from by rw [(show R w 15 = some (w + 10) from hW.r 6 rfl)]; rfl) ?_
    have hx6 := sX_le hok hfl (fF σ μ k (sBa fl σ μ ca k))
    refine g_run_i (f := fun u => u) (g_runV (k := 6) [.ref (w + 10)] X hK hP hS hC hB (d_slower hst hsiL5 hok (hW.t 10 rfl) hfL5 (fF_lt hb hμ (by omega) (by omega))) (cwV 1 X.2.2.2.2 gX10_walk_X4_slower rfl rfl rfl (by decide +kernel) ⟨Nat.le_of_ble_eq_true rfl, Nat.le_of_ble_eq_true rfl⟩) hst.1 rfl rfl hl.1 rfl (Nat.le_of_ble_eq_true rfl) dX10_walk_48 (by exact ⟨Nat.zero_le _, Nat.zero_le _⟩)) hS (fun r u H locs hq hP hS => ?_)
    obtain ⟨rfl, rfl⟩ := hq
    have hP : gP D cy B z T L5 R H := hP
    refine lv_iadd X.1 X.2.1 dX10_walk_51 ?_
    refine va_mmax X.1 X.2.1 (X.2.2.1.trans hl.1.symm) X.2.2.2.1 (X.2.2.2.2 (.methodLink RX10 75 Lib.Math.max.name) (by decide +kernel)) (X.2.2.2.2 (.static Lib.Math.max.name) (by decide +kernel)) (X.2.2.2.2 (.initialized "java/lang/Math") (by decide +kernel)) (X.2.2.2.2 (.code Lib.Math.max.name Lib.Math.max.code 2 (some .int)) (by decide +kernel)) (Nat.le_of_ble_eq_true rfl) (Nat.le_of_ble_eq_true rfl) (Nat.zero_le _) (Nat.zero_le _) dX10_walk_52 ?_
    refine lv_cv (mx_v hx6.1 hx6.2.1) ?_
    refine lv_aload_n X.1 X.2.1 dX10_walk_55 rfl (lv_at hl 3 rfl) ?_
    refine lv_iload X.1 X.2.1 dX10_walk_56 (lv_at hl 0 rfl) ?_
    refine g_join 61 [.int (nI (slF (σ (44 + μ)) (σ (48 + μ)) (σ (28 + k)))), .int (nI (max 1 (2 + (sX fl (fF σ μ k (sBa fl σ μ ca k))).1 - (sX fl (fF σ μ k (sBa fl σ μ ca k))).2.1))), .int (nI (sWg fl σ μ ca k))] hP hS (fun hgo => ?_) (fun H locs hP hS => ?_)
    · have hk9 : σ (44 + μ) ≤ 6 := hk6
      rcases k7 hk9 with hc9 | hc9 | hc9 | hc9 | hc9 | hc9 | hc9
      · have hty8 : T b = (4 + 8, 0) := by rw [hm9.1, hc9]; rfl
        refine g_run_i (f := fun u => u) (g_runV (k := 4) [.int (nI (σ (28 + k)))] X hK hP hS hC hB (v_X2_slips hk9 hm9.1 hmL5.2.2.2.1 (Eq.refl (nI (σ (28 + k)))) ) (cwV 1 X.2.2.2.2 gX10_walk_X2_slips rfl rfl rfl (by decide +kernel) ⟨Nat.le_of_ble_eq_true rfl, Nat.le_of_ble_eq_true rfl⟩) hty8 rfl rfl hl.1 rfl (Nat.le_of_ble_eq_true rfl) dX10_walk_58 (by exact ⟨Nat.zero_le _, Nat.zero_le _⟩)) hS (fun r u H locs hq hP hS => ?_)
        obtain ⟨rfl, rfl⟩ := hq
        have h9 := hgo H locs hP hS
        refine lv_cv (congrArg nI (show 0 = (slF (σ (44 + μ)) (σ (48 + μ)) (σ (28 + k))) by rw [hc9]; exact rfl)) ?_
        exact h9
      · have hty8 : T b = (2 + 8, 0) := by rw [hm9.1, hc9]; rfl
        refine g_run_i (f := fun u => u) (g_runU (k := 2) [.int (nI (σ (28 + k)))] X hK hP hS hC hB (v_X2_slips hk9 hm9.1 hmL5.2.2.2.1 (Eq.refl (nI (σ (28 + k)))) ) (va_cwU 1 X.2.2.2.2 gX10_walk_X2_slips_u176X0 rfl rfl rfl rfl ⟨by decide, by decide, by decide +kernel⟩ ⟨Nat.le_of_ble_eq_true rfl, Nat.le_of_ble_eq_true rfl⟩) hty8 rfl rfl hl.1 rfl (Nat.le_of_ble_eq_true rfl) dX10_walk_58 (by exact ⟨Nat.zero_le _, Nat.zero_le _⟩)) hS (fun r u H locs hq hP hS => ?_)
        obtain ⟨rfl, rfl⟩ := hq
        have h9 := hgo H locs hP hS
        refine lv_cv (congrArg nI (show 0 = (slF (σ (44 + μ)) (σ (48 + μ)) (σ (28 + k))) by rw [hc9]; exact rfl)) ?_
        exact h9
      · have hty8 : T b = (11 + 8, 0) := by rw [hm9.1, hc9]; rfl
        refine g_run_i (f := fun u => u) (g_runU (k := 11) [.int (nI (σ (28 + k)))] X hK hP hS hC hB (v_X2_slips hk9 hm9.1 hmL5.2.2.2.1 (Eq.refl (nI (σ (28 + k)))) ) (va_cwU 1 X.2.2.2.2 gX10_walk_X2_slips_u176X9 rfl rfl rfl rfl ⟨by decide, by decide, by decide +kernel⟩ ⟨Nat.le_of_ble_eq_true rfl, Nat.le_of_ble_eq_true rfl⟩) hty8 rfl rfl hl.1 rfl (Nat.le_of_ble_eq_true rfl) dX10_walk_58 (by exact ⟨Nat.zero_le _, Nat.zero_le _⟩)) hS (fun r u H locs hq hP hS => ?_)
        obtain ⟨rfl, rfl⟩ := hq
        have h9 := hgo H locs hP hS
        refine lv_cv (congrArg nI (show 0 = (slF (σ (44 + μ)) (σ (48 + μ)) (σ (28 + k))) by rw [hc9]; exact rfl)) ?_
        exact h9
      · have hty8 : T b = (8 + 8, 0) := by rw [hm9.1, hc9]; rfl
        refine g_run_i (f := fun u => u) (g_runU (k := 8) [.int (nI (σ (28 + k)))] X hK hP hS hC hB (v_X2_slips hk9 hm9.1 hmL5.2.2.2.1 (Eq.refl (nI (σ (28 + k)))) ) (va_cwU 1 X.2.2.2.2 gX10_walk_X2_slips_u176X6 rfl rfl rfl rfl ⟨by decide, by decide, by decide +kernel⟩ ⟨Nat.le_of_ble_eq_true rfl, Nat.le_of_ble_eq_true rfl⟩) hty8 rfl rfl hl.1 rfl (Nat.le_of_ble_eq_true rfl) dX10_walk_58 (by exact ⟨Nat.zero_le _, Nat.zero_le _⟩)) hS (fun r u H locs hq hP hS => ?_)
        obtain ⟨rfl, rfl⟩ := hq
        have h9 := hgo H locs hP hS
        refine lv_cv (congrArg nI (show 0 = (slF (σ (44 + μ)) (σ (48 + μ)) (σ (28 + k))) by rw [hc9]; exact rfl)) ?_
        exact h9
      · have hty8 : T b = (3 + 8, 0) := by rw [hm9.1, hc9]; rfl
        refine g_run_i (f := fun u => u) (g_runU (k := 3) [.int (nI (σ (28 + k)))] X hK hP hS hC hB (v_X2_slips hk9 hm9.1 hmL5.2.2.2.1 (Eq.refl (nI (σ (28 + k)))) ) (va_cwU 1 X.2.2.2.2 gX10_walk_X2_slips_u176X1 rfl rfl rfl rfl ⟨by decide, by decide, by decide +kernel⟩ ⟨Nat.le_of_ble_eq_true rfl, Nat.le_of_ble_eq_true rfl⟩) hty8 rfl rfl hl.1 rfl (Nat.le_of_ble_eq_true rfl) dX10_walk_58 (by exact ⟨Nat.zero_le _, Nat.zero_le _⟩)) hS (fun r u H locs hq hP hS => ?_)
        obtain ⟨rfl, rfl⟩ := hq
        have h9 := hgo H locs hP hS
        refine lv_cv (congrArg nI (show 0 = (slF (σ (44 + μ)) (σ (48 + μ)) (σ (28 + k))) by rw [hc9]; exact rfl)) ?_
        exact h9
      · have hty8 : T b = (9 + 8, 0) := by rw [hm9.1, hc9]; rfl
        refine g_run_i (f := fun u => u) (g_runU (k := 9) [.int (nI (σ (28 + k)))] X hK hP hS hC hB (v_X2_slips hk9 hm9.1 hmL5.2.2.2.1 (Eq.refl (nI (σ (28 + k)))) ) (va_cwU 1 X.2.2.2.2 gX10_walk_X2_slips_u176X7 rfl rfl rfl rfl ⟨by decide, by decide, by decide +kernel⟩ ⟨Nat.le_of_ble_eq_true rfl, Nat.le_of_ble_eq_true rfl⟩) hty8 rfl rfl hl.1 rfl (Nat.le_of_ble_eq_true rfl) dX10_walk_58 (by exact ⟨Nat.zero_le _, Nat.zero_le _⟩)) hS (fun r u H locs hq hP hS => ?_)
        obtain ⟨rfl, rfl⟩ := hq
        have h9 := hgo H locs hP hS
        refine lv_cv (congrArg nI (show 0 = (slF (σ (44 + μ)) (σ (48 + μ)) (σ (28 + k))) by rw [hc9]; exact rfl)) ?_
        exact h9
      · have hty8 : T b = (5 + 8, 0) := by rw [hm9.1, hc9]; rfl
        refine g_run_i (f := fun u => u) (g_runU (k := 5) [.int (nI (σ (28 + k)))] X hK hP hS hC hB (v_X3_slips hk9 hm9.1 hmL5.2.2.2.1 (Eq.refl (nI (σ (28 + k)))) (by omega) (by omega) hc9) (va_cwO 1 X.2.2.2.2 gX10_walk_X3_slips_u176X3 rfl rfl rfl (b0 := cX2_slips) (m0 := 2) (r0 := some .int) (by decide +kernel) ⟨by decide, by decide, by decide +kernel⟩ ⟨Nat.le_of_ble_eq_true rfl, Nat.le_of_ble_eq_true rfl⟩) hty8 rfl rfl hl.1 rfl (Nat.le_of_ble_eq_true rfl) dX10_walk_58 (by exact ⟨Nat.zero_le _, Nat.zero_le _⟩)) hS (fun r u H locs hq hP hS => ?_)
        obtain ⟨rfl, rfl⟩ := hq
        have h9 := hgo H locs hP hS
        refine lv_cv (congrArg nI (show (if 0 < (σ (28 + k)) ∧ (σ (28 + k)) < (σ (48 + μ)) then 20 else 0) = (slF (σ (44 + μ)) (σ (48 + μ)) (σ (28 + k))) by rw [hc9]; exact slF_6.symm)) ?_
        exact h9
    refine lv_iadd X.1 X.2.1 dX10_walk_61 ?_
    refine lv_iadd X.1 X.2.1 dX10_walk_62 ?_
    refine lv_istore (lv' := [(5, .int ((nI (sWg fl σ μ ca k)) + ((nI (max 1 (2 + (sX fl (fF σ μ k (sBa fl σ μ ca k))).1 - (sX fl (fF σ μ k (sBa fl σ μ ca k))).2.1))) + (nI (slF (σ (44 + μ)) (σ (48 + μ)) (σ (28 + k))))))), (7, .int (nI (σ (28 + k)))), (0, .ref w), (1, .ref (w + 11 + μ)), (2, .ref b), (3, .int (nI ca)), (4, .int (nI (sBa fl σ μ ca k))), (6, .int (nI k))]) X.1 X.2.1 dX10_walk_63 hl (by decide) rfl (fun ls hl => ?_)
    refine lv_iload X.1 X.2.1 dX10_walk_65 (lv_at hl 6 rfl) ?_
    refine lv_iload X.1 X.2.1 dX10_walk_67 (lv_at hl 6 rfl) ?_
    refine lv_aload_n X.1 X.2.1 dX10_walk_69 rfl (lv_at hl 2 rfl) ?_
    refine g_getr 12 12 X hK hP hW.t0 rfl hinRX10 rfl (by decide) k48 (fun _ h => h) dX10_walk_70 (show va_rf (R w 12) = .ref a from by rw [hsR]; rfl) ?_
    refine lv_aload_n X.1 X.2.1 dX10_walk_73 rfl (lv_at hl 2 rfl) ?_
    refine g_getr 12 15 X hK hP hW.t0 rfl hinRX10 rfl (by decide) k45 (fun _ h => h) dX10_walk_74 (show va_rf (R w 15) = .ref (w + 10) from by rw [(show R w 15 = some (w + 10) from hW.r 6 rfl)]; rfl) ?_
    refine g_run_i (f := fun u => u) (g_runV (k := 6) [.ref (w + 10)] X hK hP hS hC hB (d_lost hst hsiL5 hok (hW.t 10 rfl) hfL5 (fF_lt hb hμ (by omega) (by omega))) (cwV 1 X.2.2.2.2 gX10_walk_X4_lost rfl rfl rfl (by decide +kernel) ⟨Nat.le_of_ble_eq_true rfl, Nat.le_of_ble_eq_true rfl⟩) hst.1 rfl rfl hl.1 rfl (Nat.le_of_ble_eq_true rfl) dX10_walk_77 (by exact ⟨Nat.zero_le _, Nat.zero_le _⟩)) hS (fun r u H locs hq hP hS => ?_)
    obtain ⟨rfl, rfl⟩ := hq
    have hP : gP D cy B z T L5 R H := hP
    refine lv_aload_n X.1 X.2.1 dX10_walk_80 rfl (lv_at hl 4 rfl) ?_
    refine lv_iload X.1 X.2.1 dX10_walk_81 (lv_at hl 7 rfl) ?_
    refine lv_iload X.1 X.2.1 dX10_walk_83 (lv_at hl 1 rfl) ?_
    refine g_join 88 [.int (nI (spF (σ (44 + μ)) (σ (48 + μ)) k (σ (28 + k)))), .int (nI ((sX fl (fF σ μ k (sBa fl σ μ ca k))).2.2)), .int (nI (sBa fl σ μ ca k)), .int (nI (sBa fl σ μ ca k))] hP hS (fun hgo => ?_) (fun H locs hP hS => ?_)
    · have hk9 : σ (44 + μ) ≤ 6 := hk6
      rcases k7 hk9 with hc9 | hc9 | hc9 | hc9 | hc9 | hc9 | hc9
      · have hty8 : T b = (4 + 8, 0) := by rw [hm9.1, hc9]; rfl
        refine g_run_i (f := fun u => u) (g_runV (k := 4) [.int (nI k), .int (nI (σ (28 + k)))] X hK hP hS hC hB (v_X2_slops hk9 hm9.1 hmL5.2.2.2.1 (Eq.refl (nI k)) (Eq.refl (nI (σ (28 + k)))) ) (cwV 2 X.2.2.2.2 gX10_walk_X2_slops rfl rfl rfl (by decide +kernel) ⟨Nat.le_of_ble_eq_true rfl, Nat.le_of_ble_eq_true rfl⟩) hty8 rfl rfl hl.1 rfl (Nat.le_of_ble_eq_true rfl) dX10_walk_85 (by exact ⟨Nat.zero_le _, Nat.zero_le _⟩)) hS (fun r u H locs hq hP hS => ?_)
        obtain ⟨rfl, rfl⟩ := hq
        have h9 := hgo H locs hP hS
        refine lv_cv (congrArg nI (show 0 = (spF (σ (44 + μ)) (σ (48 + μ)) k (σ (28 + k))) by rw [hc9]; exact rfl)) ?_
        exact h9
      · have hty8 : T b = (2 + 8, 0) := by rw [hm9.1, hc9]; rfl
        refine g_run_i (f := fun u => u) (g_runU (k := 2) [.int (nI k), .int (nI (σ (28 + k)))] X hK hP hS hC hB (v_X2_slops hk9 hm9.1 hmL5.2.2.2.1 (Eq.refl (nI k)) (Eq.refl (nI (σ (28 + k)))) ) (va_cwU 2 X.2.2.2.2 gX10_walk_X2_slops_u151X0 rfl rfl rfl rfl ⟨by decide, by decide, by decide +kernel⟩ ⟨Nat.le_of_ble_eq_true rfl, Nat.le_of_ble_eq_true rfl⟩) hty8 rfl rfl hl.1 rfl (Nat.le_of_ble_eq_true rfl) dX10_walk_85 (by exact ⟨Nat.zero_le _, Nat.zero_le _⟩)) hS (fun r u H locs hq hP hS => ?_)
        obtain ⟨rfl, rfl⟩ := hq
        have h9 := hgo H locs hP hS
        refine lv_cv (congrArg nI (show 0 = (spF (σ (44 + μ)) (σ (48 + μ)) k (σ (28 + k))) by rw [hc9]; exact rfl)) ?_
        exact h9
      · have hty8 : T b = (11 + 8, 0) := by rw [hm9.1, hc9]; rfl
        refine g_run_i (f := fun u => u) (g_runU (k := 11) [.int (nI k), .int (nI (σ (28 + k)))] X hK hP hS hC hB (v_X2_slops hk9 hm9.1 hmL5.2.2.2.1 (Eq.refl (nI k)) (Eq.refl (nI (σ (28 + k)))) ) (va_cwU 2 X.2.2.2.2 gX10_walk_X2_slops_u151X9 rfl rfl rfl rfl ⟨by decide, by decide, by decide +kernel⟩ ⟨Nat.le_of_ble_eq_true rfl, Nat.le_of_ble_eq_true rfl⟩) hty8 rfl rfl hl.1 rfl (Nat.le_of_ble_eq_true rfl) dX10_walk_85 (by exact ⟨Nat.zero_le _, Nat.zero_le _⟩)) hS (fun r u H locs hq hP hS => ?_)
        obtain ⟨rfl, rfl⟩ := hq
        have h9 := hgo H locs hP hS
        refine lv_cv (congrArg nI (show 0 = (spF (σ (44 + μ)) (σ (48 + μ)) k (σ (28 + k))) by rw [hc9]; exact rfl)) ?_
        exact h9
      · have hty8 : T b = (8 + 8, 0) := by rw [hm9.1, hc9]; rfl
        refine g_run_i (f := fun u => u) (g_runU (k := 8) [.int (nI k), .int (nI (σ (28 + k)))] X hK hP hS hC hB (v_X2_slops hk9 hm9.1 hmL5.2.2.2.1 (Eq.refl (nI k)) (Eq.refl (nI (σ (28 + k)))) ) (va_cwU 2 X.2.2.2.2 gX10_walk_X2_slops_u151X6 rfl rfl rfl rfl ⟨by decide, by decide, by decide +kernel⟩ ⟨Nat.le_of_ble_eq_true rfl, Nat.le_of_ble_eq_true rfl⟩) hty8 rfl rfl hl.1 rfl (Nat.le_of_ble_eq_true rfl) dX10_walk_85 (by exact ⟨Nat.zero_le _, Nat.zero_le _⟩)) hS (fun r u H locs hq hP hS => ?_)
        obtain ⟨rfl, rfl⟩ := hq
        have h9 := hgo H locs hP hS
        refine lv_cv (congrArg nI (show 0 = (spF (σ (44 + μ)) (σ (48 + μ)) k (σ (28 + k))) by rw [hc9]; exact rfl)) ?_
        exact h9
      · have hty8 : T b = (3 + 8, 0) := by rw [hm9.1, hc9]; rfl
        refine g_run_i (f := fun u => u) (g_runU (k := 3) [.int (nI k), .int (nI (σ (28 + k)))] X hK hP hS hC hB (v_X1_slops hk9 hm9.1 hmL5.2.2.2.1 (Eq.refl (nI k)) (Eq.refl (nI (σ (28 + k)))) (by omega) (by omega)) (va_cwO 2 X.2.2.2.2 gX10_walk_X1_slops_u151X1 rfl rfl rfl (b0 := cX2_slops) (m0 := 3) (r0 := some .int) (by decide +kernel) ⟨by decide, by decide, by decide +kernel⟩ ⟨Nat.le_of_ble_eq_true rfl, Nat.le_of_ble_eq_true rfl⟩) hty8 rfl rfl hl.1 rfl (Nat.le_of_ble_eq_true rfl) dX10_walk_85 (by exact ⟨Nat.zero_le _, Nat.zero_le _⟩)) hS (fun r u H locs hq hP hS => ?_)
        obtain ⟨rfl, rfl⟩ := hq
        have h9 := hgo H locs hP hS
        refine lv_cv (congrArg nI (show (if 0 < (σ (28 + k)) then (σ (48 + μ)) else 0) = (spF (σ (44 + μ)) (σ (48 + μ)) k (σ (28 + k))) by rw [hc9]; exact spF_4.symm)) ?_
        exact h9
      · have hty8 : T b = (9 + 8, 0) := by rw [hm9.1, hc9]; rfl
        refine g_run_i (f := fun u => u) (g_runU (k := 9) [.int (nI k), .int (nI (σ (28 + k)))] X hK hP hS hC hB (v_X7_slops hk9 hm9.1 hmL5.2.2.2.1 (Eq.refl (nI k)) (Eq.refl (nI (σ (28 + k)))) (by omega) (by omega)) (va_cwO 2 X.2.2.2.2 gX10_walk_X7_slops_u151X7 rfl rfl rfl (b0 := cX2_slops) (m0 := 3) (r0 := some .int) (by decide +kernel) ⟨by decide, by decide, by decide +kernel⟩ ⟨Nat.le_of_ble_eq_true rfl, Nat.le_of_ble_eq_true rfl⟩) hty8 rfl rfl hl.1 rfl (Nat.le_of_ble_eq_true rfl) dX10_walk_85 (by exact ⟨Nat.zero_le _, Nat.zero_le _⟩)) hS (fun r u H locs hq hP hS => ?_)
        obtain ⟨rfl, rfl⟩ := hq
        have h9 := hgo H locs hP hS
        refine lv_cv (congrArg nI (show (if k = (σ (48 + μ)) then 1 else 0) = (spF (σ (44 + μ)) (σ (48 + μ)) k (σ (28 + k))) by rw [hc9]; exact spF_5.symm)) ?_
        exact h9
      · have hty8 : T b = (5 + 8, 0) := by rw [hm9.1, hc9]; rfl
        refine g_run_i (f := fun u => u) (g_runU (k := 5) [.int (nI k), .int (nI (σ (28 + k)))] X hK hP hS hC hB (v_X2_slops hk9 hm9.1 hmL5.2.2.2.1 (Eq.refl (nI k)) (Eq.refl (nI (σ (28 + k)))) ) (va_cwU 2 X.2.2.2.2 gX10_walk_X2_slops_u151X3 rfl rfl rfl rfl ⟨by decide, by decide, by decide +kernel⟩ ⟨Nat.le_of_ble_eq_true rfl, Nat.le_of_ble_eq_true rfl⟩) hty8 rfl rfl hl.1 rfl (Nat.le_of_ble_eq_true rfl) dX10_walk_85 (by exact ⟨Nat.zero_le _, Nat.zero_le _⟩)) hS (fun r u H locs hq hP hS => ?_)
        obtain ⟨rfl, rfl⟩ := hq
        have h9 := hgo H locs hP hS
        refine lv_cv (congrArg nI (show 0 = (spF (σ (44 + μ)) (σ (48 + μ)) k (σ (28 + k))) by rw [hc9]; exact rfl)) ?_
        exact h9
    refine lv_iadd X.1 X.2.1 dX10_walk_88 ?_
    refine va_mmin X.1 X.2.1 (X.2.2.1.trans hl.1.symm) X.2.2.2.1 (X.2.2.2.2 (.methodLink RX10 69 Lib.Math.min.name) (by decide +kernel)) (X.2.2.2.2 (.static Lib.Math.min.name) (by decide +kernel)) (X.2.2.2.2 (.initialized "java/lang/Math") (by decide +kernel)) (X.2.2.2.2 (.code Lib.Math.min.name Lib.Math.min.code 2 (some .int)) (by decide +kernel)) (Nat.le_of_ble_eq_true rfl) (Nat.le_of_ble_eq_true rfl) (Nat.zero_le _) (Nat.zero_le _) dX10_walk_89 ?_
    refine lv_cv (gm_min (Eq.refl (nI (sBa fl σ μ ca k))) (gn_add (Eq.refl (nI ((sX fl (fF σ μ k (sBa fl σ μ ca k))).2.2))) (Eq.refl (nI (spF (σ (44 + μ)) (σ (48 + μ)) k (σ (28 + k)))))) (by omega) (by omega)) ?_
    refine lv_isub X.1 X.2.1 dX10_walk_92 ?_
    refine lv_istore (lv' := [(4, .int ((nI (sBa fl σ μ ca k)) - (nI (min (sBa fl σ μ ca k) ((sX fl (fF σ μ k (sBa fl σ μ ca k))).2.2 + (spF (σ (44 + μ)) (σ (48 + μ)) k (σ (28 + k)))))))), (5, .int ((nI (sWg fl σ μ ca k)) + ((nI (max 1 (2 + (sX fl (fF σ μ k (sBa fl σ μ ca k))).1 - (sX fl (fF σ μ k (sBa fl σ μ ca k))).2.1))) + (nI (slF (σ (44 + μ)) (σ (48 + μ)) (σ (28 + k))))))), (7, .int (nI (σ (28 + k)))), (0, .ref w), (1, .ref (w + 11 + μ)), (2, .ref b), (3, .int (nI ca)), (6, .int (nI k))]) X.1 X.2.1 dX10_walk_93 hl (by decide) rfl (fun ls hl => ?_)
    refine lv_iload X.1 X.2.1 dX10_walk_95 (lv_at hl 0 rfl) ?_
    refine lv_aload_n X.1 X.2.1 dX10_walk_97 rfl (lv_at hl 5 rfl) ?_
    refine lv_iload X.1 X.2.1 dX10_walk_98 (lv_at hl 0 rfl) ?_
    refine lv_iload X.1 X.2.1 dX10_walk_100 (lv_at hl 2 rfl) ?_
    refine g_join 105 [.int (nI (tpF (σ (44 + μ)) (σ (48 + μ)) ((sBa fl σ μ ca k) - (min (sBa fl σ μ ca k) ((sX fl (fF σ μ k (sBa fl σ μ ca k))).2.2 + (spF (σ (44 + μ)) (σ (48 + μ)) k (σ (28 + k)))))) (σ (28 + k)))), .int ((nI (sBa fl σ μ ca k)) - (nI (min (sBa fl σ μ ca k) ((sX fl (fF σ μ k (sBa fl σ μ ca k))).2.2 + (spF (σ (44 + μ)) (σ (48 + μ)) k (σ (28 + k)))))))] hP hS (fun hgo => ?_) (fun H locs hP hS => ?_)
    · have hk9 : σ (44 + μ) ≤ 6 := hk6
      have ha9 : (nI (sBa fl σ μ ca k)) - (nI (min (sBa fl σ μ ca k) ((sX fl (fF σ μ k (sBa fl σ μ ca k))).2.2 + (spF (σ (44 + μ)) (σ (48 + μ)) k (σ (28 + k)))))) = nI ((sBa fl σ μ ca k) - (min (sBa fl σ μ ca k) ((sX fl (fF σ μ k (sBa fl σ μ ca k))).2.2 + (spF (σ (44 + μ)) (σ (48 + μ)) k (σ (28 + k)))))) := (gn_sub (Eq.refl (nI (sBa fl σ μ ca k))) (Eq.refl (nI (min (sBa fl σ μ ca k) ((sX fl (fF σ μ k (sBa fl σ μ ca k))).2.2 + (spF (σ (44 + μ)) (σ (48 + μ)) k (σ (28 + k))))))) (by omega))
      rcases k7 hk9 with hc9 | hc9 | hc9 | hc9 | hc9 | hc9 | hc9
      · have hty8 : T b = (4 + 8, 0) := by rw [hm9.1, hc9]; rfl
        refine g_run_i (f := fun u => u) (g_runV (k := 4) [.int ((nI (sBa fl σ μ ca k)) - (nI (min (sBa fl σ μ ca k) ((sX fl (fF σ μ k (sBa fl σ μ ca k))).2.2 + (spF (σ (44 + μ)) (σ (48 + μ)) k (σ (28 + k))))))), .int (nI (σ (28 + k)))] X hK hP hS hC hB (v_X2_tips hk9 hm9.1 hmL5.2.2.2.1 (gn_sub (Eq.refl (nI (sBa fl σ μ ca k))) (Eq.refl (nI (min (sBa fl σ μ ca k) ((sX fl (fF σ μ k (sBa fl σ μ ca k))).2.2 + (spF (σ (44 + μ)) (σ (48 + μ)) k (σ (28 + k))))))) (by omega)) (Eq.refl (nI (σ (28 + k)))) ) (cwV 2 X.2.2.2.2 gX10_walk_X2_tips rfl rfl rfl (by decide +kernel) ⟨Nat.le_of_ble_eq_true rfl, Nat.le_of_ble_eq_true rfl⟩) hty8 rfl rfl hl.1 rfl (Nat.le_of_ble_eq_true rfl) dX10_walk_102 (by exact ⟨Nat.zero_le _, Nat.zero_le _⟩)) hS (fun r u H locs hq hP hS => ?_)
        obtain ⟨rfl, rfl⟩ := hq
        have h9 := hgo H locs hP hS
        refine lv_cv (congrArg nI (show 0 = (tpF (σ (44 + μ)) (σ (48 + μ)) ((sBa fl σ μ ca k) - (min (sBa fl σ μ ca k) ((sX fl (fF σ μ k (sBa fl σ μ ca k))).2.2 + (spF (σ (44 + μ)) (σ (48 + μ)) k (σ (28 + k)))))) (σ (28 + k))) by rw [hc9]; exact rfl)) ?_
        exact h9
      · have hty8 : T b = (2 + 8, 0) := by rw [hm9.1, hc9]; rfl
        refine g_run_i (f := fun u => u) (g_runU (k := 2) [.int ((nI (sBa fl σ μ ca k)) - (nI (min (sBa fl σ μ ca k) ((sX fl (fF σ μ k (sBa fl σ μ ca k))).2.2 + (spF (σ (44 + μ)) (σ (48 + μ)) k (σ (28 + k))))))), .int (nI (σ (28 + k)))] X hK hP hS hC hB (v_X2_tips hk9 hm9.1 hmL5.2.2.2.1 (gn_sub (Eq.refl (nI (sBa fl σ μ ca k))) (Eq.refl (nI (min (sBa fl σ μ ca k) ((sX fl (fF σ μ k (sBa fl σ μ ca k))).2.2 + (spF (σ (44 + μ)) (σ (48 + μ)) k (σ (28 + k))))))) (by omega)) (Eq.refl (nI (σ (28 + k)))) ) (va_cwU 2 X.2.2.2.2 gX10_walk_X2_tips_u179X0 rfl rfl rfl rfl ⟨by decide, by decide, by decide +kernel⟩ ⟨Nat.le_of_ble_eq_true rfl, Nat.le_of_ble_eq_true rfl⟩) hty8 rfl rfl hl.1 rfl (Nat.le_of_ble_eq_true rfl) dX10_walk_102 (by exact ⟨Nat.zero_le _, Nat.zero_le _⟩)) hS (fun r u H locs hq hP hS => ?_)
        obtain ⟨rfl, rfl⟩ := hq
        have h9 := hgo H locs hP hS
        refine lv_cv (congrArg nI (show 0 = (tpF (σ (44 + μ)) (σ (48 + μ)) ((sBa fl σ μ ca k) - (min (sBa fl σ μ ca k) ((sX fl (fF σ μ k (sBa fl σ μ ca k))).2.2 + (spF (σ (44 + μ)) (σ (48 + μ)) k (σ (28 + k)))))) (σ (28 + k))) by rw [hc9]; exact rfl)) ?_
        exact h9
      · have hty8 : T b = (11 + 8, 0) := by rw [hm9.1, hc9]; rfl
        refine g_run_i (f := fun u => u) (g_runU (k := 11) [.int ((nI (sBa fl σ μ ca k)) - (nI (min (sBa fl σ μ ca k) ((sX fl (fF σ μ k (sBa fl σ μ ca k))).2.2 + (spF (σ (44 + μ)) (σ (48 + μ)) k (σ (28 + k))))))), .int (nI (σ (28 + k)))] X hK hP hS hC hB (v_X2_tips hk9 hm9.1 hmL5.2.2.2.1 (gn_sub (Eq.refl (nI (sBa fl σ μ ca k))) (Eq.refl (nI (min (sBa fl σ μ ca k) ((sX fl (fF σ μ k (sBa fl σ μ ca k))).2.2 + (spF (σ (44 + μ)) (σ (48 + μ)) k (σ (28 + k))))))) (by omega)) (Eq.refl (nI (σ (28 + k)))) ) (va_cwU 2 X.2.2.2.2 gX10_walk_X2_tips_u179X9 rfl rfl rfl rfl ⟨by decide, by decide, by decide +kernel⟩ ⟨Nat.le_of_ble_eq_true rfl, Nat.le_of_ble_eq_true rfl⟩) hty8 rfl rfl hl.1 rfl (Nat.le_of_ble_eq_true rfl) dX10_walk_102 (by exact ⟨Nat.zero_le _, Nat.zero_le _⟩)) hS (fun r u H locs hq hP hS => ?_)
        obtain ⟨rfl, rfl⟩ := hq
        have h9 := hgo H locs hP hS
        refine lv_cv (congrArg nI (show 0 = (tpF (σ (44 + μ)) (σ (48 + μ)) ((sBa fl σ μ ca k) - (min (sBa fl σ μ ca k) ((sX fl (fF σ μ k (sBa fl σ μ ca k))).2.2 + (spF (σ (44 + μ)) (σ (48 + μ)) k (σ (28 + k)))))) (σ (28 + k))) by rw [hc9]; exact rfl)) ?_
        exact h9
      · have hty8 : T b = (8 + 8, 0) := by rw [hm9.1, hc9]; rfl
        refine g_run_i (f := fun u => u) (g_runU (k := 8) [.int ((nI (sBa fl σ μ ca k)) - (nI (min (sBa fl σ μ ca k) ((sX fl (fF σ μ k (sBa fl σ μ ca k))).2.2 + (spF (σ (44 + μ)) (σ (48 + μ)) k (σ (28 + k))))))), .int (nI (σ (28 + k)))] X hK hP hS hC hB (v_X2_tips hk9 hm9.1 hmL5.2.2.2.1 (gn_sub (Eq.refl (nI (sBa fl σ μ ca k))) (Eq.refl (nI (min (sBa fl σ μ ca k) ((sX fl (fF σ μ k (sBa fl σ μ ca k))).2.2 + (spF (σ (44 + μ)) (σ (48 + μ)) k (σ (28 + k))))))) (by omega)) (Eq.refl (nI (σ (28 + k)))) ) (va_cwU 2 X.2.2.2.2 gX10_walk_X2_tips_u179X6 rfl rfl rfl rfl ⟨by decide, by decide, by decide +kernel⟩ ⟨Nat.le_of_ble_eq_true rfl, Nat.le_of_ble_eq_true rfl⟩) hty8 rfl rfl hl.1 rfl (Nat.le_of_ble_eq_true rfl) dX10_walk_102 (by exact ⟨Nat.zero_le _, Nat.zero_le _⟩)) hS (fun r u H locs hq hP hS => ?_)
        obtain ⟨rfl, rfl⟩ := hq
        have h9 := hgo H locs hP hS
        refine lv_cv (congrArg nI (show 0 = (tpF (σ (44 + μ)) (σ (48 + μ)) ((sBa fl σ μ ca k) - (min (sBa fl σ μ ca k) ((sX fl (fF σ μ k (sBa fl σ μ ca k))).2.2 + (spF (σ (44 + μ)) (σ (48 + μ)) k (σ (28 + k)))))) (σ (28 + k))) by rw [hc9]; exact rfl)) ?_
        exact h9
      · have hty8 : T b = (3 + 8, 0) := by rw [hm9.1, hc9]; rfl
        refine g_run_i (f := fun u => u) (g_runU (k := 3) [.int ((nI (sBa fl σ μ ca k)) - (nI (min (sBa fl σ μ ca k) ((sX fl (fF σ μ k (sBa fl σ μ ca k))).2.2 + (spF (σ (44 + μ)) (σ (48 + μ)) k (σ (28 + k))))))), .int (nI (σ (28 + k)))] X hK hP hS hC hB (v_X2_tips hk9 hm9.1 hmL5.2.2.2.1 (gn_sub (Eq.refl (nI (sBa fl σ μ ca k))) (Eq.refl (nI (min (sBa fl σ μ ca k) ((sX fl (fF σ μ k (sBa fl σ μ ca k))).2.2 + (spF (σ (44 + μ)) (σ (48 + μ)) k (σ (28 + k))))))) (by omega)) (Eq.refl (nI (σ (28 + k)))) ) (va_cwU 2 X.2.2.2.2 gX10_walk_X2_tips_u179X1 rfl rfl rfl rfl ⟨by decide, by decide, by decide +kernel⟩ ⟨Nat.le_of_ble_eq_true rfl, Nat.le_of_ble_eq_true rfl⟩) hty8 rfl rfl hl.1 rfl (Nat.le_of_ble_eq_true rfl) dX10_walk_102 (by exact ⟨Nat.zero_le _, Nat.zero_le _⟩)) hS (fun r u H locs hq hP hS => ?_)
        obtain ⟨rfl, rfl⟩ := hq
        have h9 := hgo H locs hP hS
        refine lv_cv (congrArg nI (show 0 = (tpF (σ (44 + μ)) (σ (48 + μ)) ((sBa fl σ μ ca k) - (min (sBa fl σ μ ca k) ((sX fl (fF σ μ k (sBa fl σ μ ca k))).2.2 + (spF (σ (44 + μ)) (σ (48 + μ)) k (σ (28 + k)))))) (σ (28 + k))) by rw [hc9]; exact rfl)) ?_
        exact h9
      · have hty8 : T b = (9 + 8, 0) := by rw [hm9.1, hc9]; rfl
        refine g_run_i (f := fun u => u) (g_runU (k := 9) [.int ((nI (sBa fl σ μ ca k)) - (nI (min (sBa fl σ μ ca k) ((sX fl (fF σ μ k (sBa fl σ μ ca k))).2.2 + (spF (σ (44 + μ)) (σ (48 + μ)) k (σ (28 + k))))))), .int (nI (σ (28 + k)))] X hK hP hS hC hB (v_X2_tips hk9 hm9.1 hmL5.2.2.2.1 (gn_sub (Eq.refl (nI (sBa fl σ μ ca k))) (Eq.refl (nI (min (sBa fl σ μ ca k) ((sX fl (fF σ μ k (sBa fl σ μ ca k))).2.2 + (spF (σ (44 + μ)) (σ (48 + μ)) k (σ (28 + k))))))) (by omega)) (Eq.refl (nI (σ (28 + k)))) ) (va_cwU 2 X.2.2.2.2 gX10_walk_X2_tips_u179X7 rfl rfl rfl rfl ⟨by decide, by decide, by decide +kernel⟩ ⟨Nat.le_of_ble_eq_true rfl, Nat.le_of_ble_eq_true rfl⟩) hty8 rfl rfl hl.1 rfl (Nat.le_of_ble_eq_true rfl) dX10_walk_102 (by exact ⟨Nat.zero_le _, Nat.zero_le _⟩)) hS (fun r u H locs hq hP hS => ?_)
        obtain ⟨rfl, rfl⟩ := hq
        have h9 := hgo H locs hP hS
        refine lv_cv (congrArg nI (show 0 = (tpF (σ (44 + μ)) (σ (48 + μ)) ((sBa fl σ μ ca k) - (min (sBa fl σ μ ca k) ((sX fl (fF σ μ k (sBa fl σ μ ca k))).2.2 + (spF (σ (44 + μ)) (σ (48 + μ)) k (σ (28 + k)))))) (σ (28 + k))) by rw [hc9]; exact rfl)) ?_
        exact h9
      · have hty8 : T b = (5 + 8, 0) := by rw [hm9.1, hc9]; rfl
        refine g_run_i (f := fun u => u) (g_runU (k := 5) [.int ((nI (sBa fl σ μ ca k)) - (nI (min (sBa fl σ μ ca k) ((sX fl (fF σ μ k (sBa fl σ μ ca k))).2.2 + (spF (σ (44 + μ)) (σ (48 + μ)) k (σ (28 + k))))))), .int (nI (σ (28 + k)))] X hK hP hS hC hB (v_X3_tips hk9 hm9.1 hmL5.2.2.2.1 (gn_sub (Eq.refl (nI (sBa fl σ μ ca k))) (Eq.refl (nI (min (sBa fl σ μ ca k) ((sX fl (fF σ μ k (sBa fl σ μ ca k))).2.2 + (spF (σ (44 + μ)) (σ (48 + μ)) k (σ (28 + k))))))) (by omega)) (Eq.refl (nI (σ (28 + k)))) (by omega) (by omega) (by omega) hc9) (va_cwO 2 X.2.2.2.2 gX10_walk_X3_tips_u179X3 rfl rfl rfl (b0 := cX2_tips) (m0 := 3) (r0 := some .int) (by decide +kernel) ⟨by decide, by decide, by decide +kernel⟩ ⟨Nat.le_of_ble_eq_true rfl, Nat.le_of_ble_eq_true rfl⟩) hty8 rfl rfl hl.1 rfl (Nat.le_of_ble_eq_true rfl) dX10_walk_102 (by exact ⟨Nat.zero_le _, Nat.zero_le _⟩)) hS (fun r u H locs hq hP hS => ?_)
        obtain ⟨rfl, rfl⟩ := hq
        have h9 := hgo H locs hP hS
        refine lv_cv (congrArg nI (show (if 0 < (σ (28 + k)) ∧ (σ (28 + k)) < (σ (48 + μ)) then ((sBa fl σ μ ca k) - (min (sBa fl σ μ ca k) ((sX fl (fF σ μ k (sBa fl σ μ ca k))).2.2 + (spF (σ (44 + μ)) (σ (48 + μ)) k (σ (28 + k)))))) / 2 else 0) = (tpF (σ (44 + μ)) (σ (48 + μ)) ((sBa fl σ μ ca k) - (min (sBa fl σ μ ca k) ((sX fl (fF σ μ k (sBa fl σ μ ca k))).2.2 + (spF (σ (44 + μ)) (σ (48 + μ)) k (σ (28 + k)))))) (σ (28 + k))) by rw [hc9]; exact tpF_6.symm)) ?_
        exact h9
    have htp9 := tpF_le (κ := σ (44 + μ)) (v := σ (48 + μ)) (q := ((sBa fl σ μ ca k) - (min (sBa fl σ μ ca k) ((sX fl (fF σ μ k (sBa fl σ μ ca k))).2.2 + (spF (σ (44 + μ)) (σ (48 + μ)) k (σ (28 + k))))))) (b := σ (28 + k))
    refine lv_isub X.1 X.2.1 dX10_walk_105 ?_
    refine lv_istore (lv' := [(4, .int (((nI (sBa fl σ μ ca k)) - (nI (min (sBa fl σ μ ca k) ((sX fl (fF σ μ k (sBa fl σ μ ca k))).2.2 + (spF (σ (44 + μ)) (σ (48 + μ)) k (σ (28 + k))))))) - (nI (tpF (σ (44 + μ)) (σ (48 + μ)) ((sBa fl σ μ ca k) - (min (sBa fl σ μ ca k) ((sX fl (fF σ μ k (sBa fl σ μ ca k))).2.2 + (spF (σ (44 + μ)) (σ (48 + μ)) k (σ (28 + k)))))) (σ (28 + k)))))), (5, .int ((nI (sWg fl σ μ ca k)) + ((nI (max 1 (2 + (sX fl (fF σ μ k (sBa fl σ μ ca k))).1 - (sX fl (fF σ μ k (sBa fl σ μ ca k))).2.1))) + (nI (slF (σ (44 + μ)) (σ (48 + μ)) (σ (28 + k))))))), (7, .int (nI (σ (28 + k)))), (0, .ref w), (1, .ref (w + 11 + μ)), (2, .ref b), (3, .int (nI ca)), (6, .int (nI k))]) X.1 X.2.1 dX10_walk_106 hl (by decide) rfl (fun ls hl => ?_)
    refine lv_aload_n X.1 X.2.1 dX10_walk_108 rfl (lv_at hl 3 rfl) ?_
    refine lv_aload_n X.1 X.2.1 dX10_walk_109 rfl (lv_at hl 5 rfl) ?_
    refine lv_iload X.1 X.2.1 dX10_walk_110 (lv_at hl 7 rfl) ?_
    refine lv_iconst (v := 0) X.1 X.2.1 dX10_walk_112 (by decide) ?_
    refine g_run_v (f := fun u => u) (g_runV (k := 12) [.ref b, .int (nI k), .int 0] X hK hP hS hC hB (d_look (y := k) (q := 0) hW hAL5 hmL5 hob0 hk6 (by omega)) (cwV 3 X.2.2.2.2 gX10_walk_X10_look rfl rfl rfl (by decide +kernel) ⟨Nat.le_of_ble_eq_true rfl, Nat.le_of_ble_eq_true rfl⟩) hW.t0 rfl rfl hl.1 rfl (Nat.le_of_ble_eq_true rfl) dX10_walk_113 (by exact ⟨Nat.zero_le _, Nat.zero_le _⟩)) hS (fun u H locs hq hP hS => ?_)
    obtain ⟨L7, rfl, hfL7, hkL7⟩ := hq
    have hP : gP D cy B z T L7 R H := hP
    have hoL7 : ∀ c j, ¬ c = w + 10 → L7 c j = I c j := fun c j h => (hkL7 c j h).trans (hoL5 c j h)
    have hAL7 : cA w L7 σ := hA.k (fun c j h1 h2 => hoL7 c j (by omega))
    have hmL7 : cMn T L7 σ μ b := hm.k (fun j => hoL7 b j (by omega))
    have hsiL7 : cSi a L7 fl ti sh := hsi.k (fun c j h1 h2 => hoL7 c j (by omega))
    refine lv_iload X.1 X.2.1 dX10_walk_116 (lv_at hl 1 rfl) ?_
    refine lv_iconst (v := 1) X.1 X.2.1 dX10_walk_118 (by decide) ?_
    refine lv_iconst (v := 2) X.1 X.2.1 dX10_walk_119 (by decide) ?_
    refine lv_aload_n X.1 X.2.1 dX10_walk_120 rfl (lv_at hl 3 rfl) ?_
    refine g_getr 12 12 X hK hP hW.t0 rfl hinRX10 rfl (by decide) k48 (fun _ h => h) dX10_walk_121 (show va_rf (R w 12) = .ref a from by rw [hsR]; rfl) ?_
    refine lv_aload_n X.1 X.2.1 dX10_walk_124 rfl (lv_at hl 3 rfl) ?_
    refine g_getr 12 15 X hK hP hW.t0 rfl hinRX10 rfl (by decide) k45 (fun _ h => h) dX10_walk_125 (show va_rf (R w 15) = .ref (w + 10) from by rw [(show R w 15 = some (w + 10) from hW.r 6 rfl)]; rfl) ?_
    have hx8 := sX_le hok hfl (fF σ μ k 0)
    refine g_run_i (f := fun u => u) (g_runV (k := 6) [.ref (w + 10)] X hK hP hS hC hB (d_slower hst hsiL7 hok (hW.t 10 rfl) hfL7 (fF_lt hb hμ (by omega) (by omega))) (cwV 1 X.2.2.2.2 gX10_walk_X4_slower rfl rfl rfl (by decide +kernel) ⟨Nat.le_of_ble_eq_true rfl, Nat.le_of_ble_eq_true rfl⟩) hst.1 rfl rfl hl.1 rfl (Nat.le_of_ble_eq_true rfl) dX10_walk_128 (by exact ⟨Nat.zero_le _, Nat.zero_le _⟩)) hS (fun r u H locs hq hP hS => ?_)
    obtain ⟨rfl, rfl⟩ := hq
    have hP : gP D cy B z T L7 R H := hP
    refine lv_iadd X.1 X.2.1 dX10_walk_131 ?_
    refine va_mmax X.1 X.2.1 (X.2.2.1.trans hl.1.symm) X.2.2.2.1 (X.2.2.2.2 (.methodLink RX10 75 Lib.Math.max.name) (by decide +kernel)) (X.2.2.2.2 (.static Lib.Math.max.name) (by decide +kernel)) (X.2.2.2.2 (.initialized "java/lang/Math") (by decide +kernel)) (X.2.2.2.2 (.code Lib.Math.max.name Lib.Math.max.code 2 (some .int)) (by decide +kernel)) (Nat.le_of_ble_eq_true rfl) (Nat.le_of_ble_eq_true rfl) (Nat.zero_le _) (Nat.zero_le _) dX10_walk_132 ?_
    refine lv_cv (mx_v hx8.1 hx8.2.1) ?_
    refine lv_aload_n X.1 X.2.1 dX10_walk_135 rfl (lv_at hl 5 rfl) ?_
    refine lv_iload X.1 X.2.1 dX10_walk_136 (lv_at hl 2 rfl) ?_
    refine g_join 141 [.int (nI (slF (σ (44 + μ)) (σ (48 + μ)) (σ (28 + k)))), .int (nI (max 1 (2 + (sX fl (fF σ μ k 0)).1 - (sX fl (fF σ μ k 0)).2.1))), .int ((nI (sWg fl σ μ ca k)) + ((nI (max 1 (2 + (sX fl (fF σ μ k (sBa fl σ μ ca k))).1 - (sX fl (fF σ μ k (sBa fl σ μ ca k))).2.1))) + (nI (slF (σ (44 + μ)) (σ (48 + μ)) (σ (28 + k))))))] hP hS (fun hgo => ?_) (fun H locs hP hS => ?_)
    · have hk9 : σ (44 + μ) ≤ 6 := hk6
      rcases k7 hk9 with hc9 | hc9 | hc9 | hc9 | hc9 | hc9 | hc9
      · have hty8 : T b = (4 + 8, 0) := by rw [hm9.1, hc9]; rfl
        refine g_run_i (f := fun u => u) (g_runV (k := 4) [.int (nI (σ (28 + k)))] X hK hP hS hC hB (v_X2_slips hk9 hm9.1 hmL7.2.2.2.1 (Eq.refl (nI (σ (28 + k)))) ) (cwV 1 X.2.2.2.2 gX10_walk_X2_slips rfl rfl rfl (by decide +kernel) ⟨Nat.le_of_ble_eq_true rfl, Nat.le_of_ble_eq_true rfl⟩) hty8 rfl rfl hl.1 rfl (Nat.le_of_ble_eq_true rfl) dX10_walk_138 (by exact ⟨Nat.zero_le _, Nat.zero_le _⟩)) hS (fun r u H locs hq hP hS => ?_)
        obtain ⟨rfl, rfl⟩ := hq
        have h9 := hgo H locs hP hS
        refine lv_cv (congrArg nI (show 0 = (slF (σ (44 + μ)) (σ (48 + μ)) (σ (28 + k))) by rw [hc9]; exact rfl)) ?_
        exact h9
      · have hty8 : T b = (2 + 8, 0) := by rw [hm9.1, hc9]; rfl
        refine g_run_i (f := fun u => u) (g_runU (k := 2) [.int (nI (σ (28 + k)))] X hK hP hS hC hB (v_X2_slips hk9 hm9.1 hmL7.2.2.2.1 (Eq.refl (nI (σ (28 + k)))) ) (va_cwU 1 X.2.2.2.2 gX10_walk_X2_slips_u176X0 rfl rfl rfl rfl ⟨by decide, by decide, by decide +kernel⟩ ⟨Nat.le_of_ble_eq_true rfl, Nat.le_of_ble_eq_true rfl⟩) hty8 rfl rfl hl.1 rfl (Nat.le_of_ble_eq_true rfl) dX10_walk_138 (by exact ⟨Nat.zero_le _, Nat.zero_le _⟩)) hS (fun r u H locs hq hP hS => ?_)
        obtain ⟨rfl, rfl⟩ := hq
        have h9 := hgo H locs hP hS
        refine lv_cv (congrArg nI (show 0 = (slF (σ (44 + μ)) (σ (48 + μ)) (σ (28 + k))) by rw [hc9]; exact rfl)) ?_
        exact h9
      · have hty8 : T b = (11 + 8, 0) := by rw [hm9.1, hc9]; rfl
        refine g_run_i (f := fun u => u) (g_runU (k := 11) [.int (nI (σ (28 + k)))] X hK hP hS hC hB (v_X2_slips hk9 hm9.1 hmL7.2.2.2.1 (Eq.refl (nI (σ (28 + k)))) ) (va_cwU 1 X.2.2.2.2 gX10_walk_X2_slips_u176X9 rfl rfl rfl rfl ⟨by decide, by decide, by decide +kernel⟩ ⟨Nat.le_of_ble_eq_true rfl, Nat.le_of_ble_eq_true rfl⟩) hty8 rfl rfl hl.1 rfl (Nat.le_of_ble_eq_true rfl) dX10_walk_138 (by exact ⟨Nat.zero_le _, Nat.zero_le _⟩)) hS (fun r u H locs hq hP hS => ?_)
        obtain ⟨rfl, rfl⟩ := hq
        have h9 := hgo H locs hP hS
        refine lv_cv (congrArg nI (show 0 = (slF (σ (44 + μ)) (σ (48 + μ)) (σ (28 + k))) by rw [hc9]; exact rfl)) ?_
        exact h9
      · have hty8 : T b = (8 + 8, 0) := by rw [hm9.1, hc9]; rfl
        refine g_run_i (f := fun u => u) (g_runU (k := 8) [.int (nI (σ (28 + k)))] X hK hP hS hC hB (v_X2_slips hk9 hm9.1 hmL7.2.2.2.1 (Eq.refl (nI (σ (28 + k)))) ) (va_cwU 1 X.2.2.2.2 gX10_walk_X2_slips_u176X6 rfl rfl rfl rfl ⟨by decide, by decide, by decide +kernel⟩ ⟨Nat.le_of_ble_eq_true rfl, Nat.le_of_ble_eq_true rfl⟩) hty8 rfl rfl hl.1 rfl (Nat.le_of_ble_eq_true rfl) dX10_walk_138 (by exact ⟨Nat.zero_le _, Nat.zero_le _⟩)) hS (fun r u H locs hq hP hS => ?_)
        obtain ⟨rfl, rfl⟩ := hq
        have h9 := hgo H locs hP hS
        refine lv_cv (congrArg nI (show 0 = (slF (σ (44 + μ)) (σ (48 + μ)) (σ (28 + k))) by rw [hc9]; exact rfl)) ?_
        exact h9
      · have hty8 : T b = (3 + 8, 0) := by rw [hm9.1, hc9]; rfl
        refine g_run_i (f := fun u => u) (g_runU (k := 3) [.int (nI (σ (28 + k)))] X hK hP hS hC hB (v_X2_slips hk9 hm9.1 hmL7.2.2.2.1 (Eq.refl (nI (σ (28 + k)))) ) (va_cwU 1 X.2.2.2.2 gX10_walk_X2_slips_u176X1 rfl rfl rfl rfl ⟨by decide, by decide, by decide +kernel⟩ ⟨Nat.le_of_ble_eq_true rfl, Nat.le_of_ble_eq_true rfl⟩) hty8 rfl rfl hl.1 rfl (Nat.le_of_ble_eq_true rfl) dX10_walk_138 (by exact ⟨Nat.zero_le _, Nat.zero_le _⟩)) hS (fun r u H locs hq hP hS => ?_)
        obtain ⟨rfl, rfl⟩ := hq
        have h9 := hgo H locs hP hS
        refine lv_cv (congrArg nI (show 0 = (slF (σ (44 + μ)) (σ (48 + μ)) (σ (28 + k))) by rw [hc9]; exact rfl)) ?_
        exact h9
      · have hty8 : T b = (9 + 8, 0) := by rw [hm9.1, hc9]; rfl
        refine g_run_i (f := fun u => u) (g_runU (k := 9) [.int (nI (σ (28 + k)))] X hK hP hS hC hB (v_X2_slips hk9 hm9.1 hmL7.2.2.2.1 (Eq.refl (nI (σ (28 + k)))) ) (va_cwU 1 X.2.2.2.2 gX10_walk_X2_slips_u176X7 rfl rfl rfl rfl ⟨by decide, by decide, by decide +kernel⟩ ⟨Nat.le_of_ble_eq_true rfl, Nat.le_of_ble_eq_true rfl⟩) hty8 rfl rfl hl.1 rfl (Nat.le_of_ble_eq_true rfl) dX10_walk_138 (by exact ⟨Nat.zero_le _, Nat.zero_le _⟩)) hS (fun r u H locs hq hP hS => ?_)
        obtain ⟨rfl, rfl⟩ := hq
        have h9 := hgo H locs hP hS
        refine lv_cv (congrArg nI (show 0 = (slF (σ (44 + μ)) (σ (48 + μ)) (σ (28 + k))) by rw [hc9]; exact rfl)) ?_
        exact h9
      · have hty8 : T b = (5 + 8, 0) := by rw [hm9.1, hc9]; rfl
        refine g_run_i (f := fun u => u) (g_runU (k := 5) [.int (nI (σ (28 + k)))] X hK hP hS hC hB (v_X3_slips hk9 hm9.1 hmL7.2.2.2.1 (Eq.refl (nI (σ (28 + k)))) (by omega) (by omega) hc9) (va_cwO 1 X.2.2.2.2 gX10_walk_X3_slips_u176X3 rfl rfl rfl (b0 := cX2_slips) (m0 := 2) (r0 := some .int) (by decide +kernel) ⟨by decide, by decide, by decide +kernel⟩ ⟨Nat.le_of_ble_eq_true rfl, Nat.le_of_ble_eq_true rfl⟩) hty8 rfl rfl hl.1 rfl (Nat.le_of_ble_eq_true rfl) dX10_walk_138 (by exact ⟨Nat.zero_le _, Nat.zero_le _⟩)) hS (fun r u H locs hq hP hS => ?_)
        obtain ⟨rfl, rfl⟩ := hq
        have h9 := hgo H locs hP hS
        refine lv_cv (congrArg nI (show (if 0 < (σ (28 + k)) ∧ (σ (28 + k)) < (σ (48 + μ)) then 20 else 0) = (slF (σ (44 + μ)) (σ (48 + μ)) (σ (28 + k))) by rw [hc9]; exact slF_6.symm)) ?_
        exact h9
    refine lv_iadd X.1 X.2.1 dX10_walk_141 ?_
    refine lv_iadd X.1 X.2.1 dX10_walk_142 ?_
    refine lv_istore (lv' := [(5, .int (((nI (sWg fl σ μ ca k)) + ((nI (max 1 (2 + (sX fl (fF σ μ k (sBa fl σ μ ca k))).1 - (sX fl (fF σ μ k (sBa fl σ μ ca k))).2.1))) + (nI (slF (σ (44 + μ)) (σ (48 + μ)) (σ (28 + k)))))) + ((nI (max 1 (2 + (sX fl (fF σ μ k 0)).1 - (sX fl (fF σ μ k 0)).2.1))) + (nI (slF (σ (44 + μ)) (σ (48 + μ)) (σ (28 + k))))))), (4, .int (((nI (sBa fl σ μ ca k)) - (nI (min (sBa fl σ μ ca k) ((sX fl (fF σ μ k (sBa fl σ μ ca k))).2.2 + (spF (σ (44 + μ)) (σ (48 + μ)) k (σ (28 + k))))))) - (nI (tpF (σ (44 + μ)) (σ (48 + μ)) ((sBa fl σ μ ca k) - (min (sBa fl σ μ ca k) ((sX fl (fF σ μ k (sBa fl σ μ ca k))).2.2 + (spF (σ (44 + μ)) (σ (48 + μ)) k (σ (28 + k)))))) (σ (28 + k)))))), (7, .int (nI (σ (28 + k)))), (0, .ref w), (1, .ref (w + 11 + μ)), (2, .ref b), (3, .int (nI ca)), (6, .int (nI k))]) X.1 X.2.1 dX10_walk_143 hl (by decide) rfl (fun ls hl => ?_)
    refine lv_iinc (v := nI (k + 1)) (lv' := [(6, .int (nI (k + 1))), (5, .int (((nI (sWg fl σ μ ca k)) + ((nI (max 1 (2 + (sX fl (fF σ μ k (sBa fl σ μ ca k))).1 - (sX fl (fF σ μ k (sBa fl σ μ ca k))).2.1))) + (nI (slF (σ (44 + μ)) (σ (48 + μ)) (σ (28 + k)))))) + ((nI (max 1 (2 + (sX fl (fF σ μ k 0)).1 - (sX fl (fF σ μ k 0)).2.1))) + (nI (slF (σ (44 + μ)) (σ (48 + μ)) (σ (28 + k))))))), (4, .int (((nI (sBa fl σ μ ca k)) - (nI (min (sBa fl σ μ ca k) ((sX fl (fF σ μ k (sBa fl σ μ ca k))).2.2 + (spF (σ (44 + μ)) (σ (48 + μ)) k (σ (28 + k))))))) - (nI (tpF (σ (44 + μ)) (σ (48 + μ)) ((sBa fl σ μ ca k) - (min (sBa fl σ μ ca k) ((sX fl (fF σ μ k (sBa fl σ μ ca k))).2.2 + (spF (σ (44 + μ)) (σ (48 + μ)) k (σ (28 + k)))))) (σ (28 + k)))))), (7, .int (nI (σ (28 + k)))), (0, .ref w), (1, .ref (w + 11 + μ)), (2, .ref b), (3, .int (nI ca))]) X.1 X.2.1 dX10_walk_145 hl (k := 7) rfl (gn_inc (Eq.refl (nI k)) 1) (by decide) rfl (fun ls hl => ?_)
    refine lv_goto (tgt := 9) X.1 X.2.1 dX10_walk_148 (by decide) ?_
    have e4 : ((nI (sBa fl σ μ ca k)) - (nI (min (sBa fl σ μ ca k) ((sX fl (fF σ μ k (sBa fl σ μ ca k))).2.2 + (spF (σ (44 + μ)) (σ (48 + μ)) k (σ (28 + k))))))) - (nI (tpF (σ (44 + μ)) (σ (48 + μ)) ((sBa fl σ μ ca k) - (min (sBa fl σ μ ca k) ((sX fl (fF σ μ k (sBa fl σ μ ca k))).2.2 + (spF (σ (44 + μ)) (σ (48 + μ)) k (σ (28 + k)))))) (σ (28 + k)))) = nI (sBa fl σ μ ca (k + 1)) := ((gn_sub (gn_sub (Eq.refl (nI (sBa fl σ μ ca k))) (Eq.refl (nI (min (sBa fl σ μ ca k) ((sX fl (fF σ μ k (sBa fl σ μ ca k))).2.2 + (spF (σ (44 + μ)) (σ (48 + μ)) k (σ (28 + k))))))) (by omega)) (Eq.refl (nI (tpF (σ (44 + μ)) (σ (48 + μ)) ((sBa fl σ μ ca k) - (min (sBa fl σ μ ca k) ((sX fl (fF σ μ k (sBa fl σ μ ca k))).2.2 + (spF (σ (44 + μ)) (σ (48 + μ)) k (σ (28 + k)))))) (σ (28 + k))))) (by omega))).trans (congrArg nI (by show _ = sAf fl σ μ k (sBa fl σ μ ca k); rw [sAf_tp, sLs_sp]))
    have e5 : ((nI (sWg fl σ μ ca k)) + ((nI (max 1 (2 + (sX fl (fF σ μ k (sBa fl σ μ ca k))).1 - (sX fl (fF σ μ k (sBa fl σ μ ca k))).2.1))) + (nI (slF (σ (44 + μ)) (σ (48 + μ)) (σ (28 + k)))))) + ((nI (max 1 (2 + (sX fl (fF σ μ k 0)).1 - (sX fl (fF σ μ k 0)).2.1))) + (nI (slF (σ (44 + μ)) (σ (48 + μ)) (σ (28 + k))))) = nI (sWg fl σ μ ca (k + 1)) := ((gn_add (gn_add (Eq.refl (nI (sWg fl σ μ ca k))) (gn_add (Eq.refl (nI (max 1 (2 + (sX fl (fF σ μ k (sBa fl σ μ ca k))).1 - (sX fl (fF σ μ k (sBa fl σ μ ca k))).2.1)))) (Eq.refl (nI (slF (σ (44 + μ)) (σ (48 + μ)) (σ (28 + k))))))) (gn_add (Eq.refl (nI (max 1 (2 + (sX fl (fF σ μ k 0)).1 - (sX fl (fF σ μ k 0)).2.1)))) (Eq.refl (nI (slF (σ (44 + μ)) (σ (48 + μ)) (σ (28 + k)))))))).trans (congrArg nI (by show _ = sWg fl σ μ ca k + (sWt fl σ μ k (sBa fl σ μ ca k) + sWt fl σ μ k 0); unfold sWt; omega))
    rw [e4, e5] at hl
    exact ih _ _ _ _ (by omega) ⟨hoL7, lv_sub hl [4, 5, 6, 7, 2, 1, 0] rfl⟩ hP hS

end PF