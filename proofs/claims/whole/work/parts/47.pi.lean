section PI
variable {l : Launch} {s0 : State} {D : va_G} {cy : Nat → ClassId} {B z : Nat} {T : Nat → Nat × Nat} {I : Nat → Nat → Int32} {R : Nat → Nat → Option Nat} {w b a μ v : Nat} {σ : Nat → Nat} {K ti sh : Nat} {fl : List Nat}
set_option maxHeartbeats 4000000 in
set_option maxRecDepth 100000 in
/-- d_takeAll -/
theorem d_takeAll (hW : cWk w T R) (hV : cWk v T R) (hap : v + 15 ≤ w ∨ w + 15 ≤ v) (hA : cA v I σ) (hBb : cB v I σ) (hsg : ∀ k, k < 100 → σ (68 + k) ≤ 127) (hMe : cMe v T R) (hsR : R v 12 = some a) (hta : T a = (14, 0)) (hcas : gCas s0) : Met l yX10_takeAll wsX10_takeAll ({ frames := 2, cells := 0, slots := 0, locals := 82 }) (va_Pc [.ref w, .ref v] (gW0 s0 D cy B (z, T, I, R))) (va_Qv (fun u => ∃ I' R', u = (z, T, I', R') ∧ cA w I' σ ∧ cB w I' σ ∧ ((∀ k, k < 4 → R' (w + 5) k = R (v + 5) k) ∧ R' w 12 = some a) ∧ (∀ c, w + 11 ≤ c → c < w + 15 → I' c 0 = 0) ∧ (∀ c j, ¬ (w ≤ c ∧ c < w + 15) → I' c j = I c j) ∧ ∀ c j, ¬ c = w + 5 → ¬ (c = w ∧ j = 12) → R' c j = R c j) (fun u t => gW1 D cy B u t) (gA B)) 0 0 (gA B) := by
  refine g_met (maxL := 2) (ret := none) (by decide) rfl (Nat.le_of_ble_eq_true rfl) (fun p e s m args below meth c ls X hr hlk hnm hK hP hC hS hl => ?_)
  have hl : lv_has ls 2 [(0, .ref w), (1, .ref v)] := hl
  have hP : gP D cy B z T I R s.heap := hP
  have hB : B ≤ s.heap.size := by rw [hP.1]; exact hP.2.1
  have hinRX10 : ∀ w ∈ wsX100, w ∈ wsX10_takeAll := fun _ h => List.mem_cons_of_mem _ (List.mem_append_left _ (List.mem_append_right _ h))
  have k26 : Cond.fieldLink RX10 26 "BarrowPlank$Works" "tape" "[C" ∈ wsX10_takeAll := by decide +kernel
  have k30 : Cond.fieldLink RX10 30 "BarrowPlank$Works" "noted" "[I" ∈ wsX10_takeAll := by decide +kernel
  have k164 : Cond.fieldLink RX10 164 "BarrowPlank$Works" "signs" "I" ∈ wsX10_takeAll := by decide +kernel
  have k167 : Cond.fieldLink RX10 167 "BarrowPlank$Works" "notes" "I" ∈ wsX10_takeAll := by decide +kernel
  refine lv_aload_n X.1 X.2.1 dX10_takeAll_0 rfl (lv_at hl 0 rfl) ?_
  refine lv_aload_n X.1 X.2.1 dX10_takeAll_1 rfl (lv_at hl 1 rfl) ?_
  refine g_run_v (f := fun u => u) (g_runV (k := 12) [.ref v] X hK hP hS hC hB (d_take hW hV hap hA hMe hsR hta hcas) (cwV 1 X.2.2.2.2 gX10_takeAll_X10_take rfl rfl rfl (by decide +kernel) ⟨Nat.le_of_ble_eq_true rfl, Nat.le_of_ble_eq_true rfl⟩) hW.t0 rfl rfl hl.1 rfl (Nat.le_of_ble_eq_true rfl) dX10_takeAll_2 (by exact ⟨Nat.zero_le _, Nat.zero_le _⟩)) hS (fun u H locs hq hP hS => ?_)
  obtain ⟨IK1, RK1, rfl, hcAK1, ⟨hm1K1, hm2K1⟩, hknK1, hfIK1, hfRK1⟩ := hq
  have hP : gP D cy B z T IK1 RK1 H := hP
  have hWK1 : cWk w T RK1 := cWk_fr hW (Or.inl rfl) hfRK1
  have hVK1 : cWk v T RK1 := cWk_fr hV (by omega) hfRK1
  refine lv_aload_n X.1 X.2.1 dX10_takeAll_5 rfl (lv_at hl 1 rfl) ?_
  refine g_getr 12 3 X hK hP hVK1.t0 rfl hinRX10 rfl (by decide) k26 (fun _ h => h) dX10_takeAll_6 (show va_rf (RK1 v 3) = .ref (v + 7) from by rw [(show RK1 v 3 = some (v + 7) from hVK1.r 3 rfl)]; rfl) ?_
  refine lv_iconst (v := 0) X.1 X.2.1 dX10_takeAll_9 (by decide) ?_
  refine lv_aload_n X.1 X.2.1 dX10_takeAll_10 rfl (lv_at hl 0 rfl) ?_
  refine g_getr 12 3 X hK hP hWK1.t0 rfl hinRX10 rfl (by decide) k26 (fun _ h => h) dX10_takeAll_11 (show va_rf (RK1 w 3) = .ref (w + 7) from by rw [(show RK1 w 3 = some (w + 7) from hWK1.r 3 rfl)]; rfl) ?_
  refine lv_iconst (v := 0) X.1 X.2.1 dX10_takeAll_14 (by decide) ?_
  refine lv_bipush (v := 100) X.1 X.2.1 dX10_takeAll_15 (by decide) ?_
  refine g_copy (kA := 1) (t0 := 1) (ty := .char) (n := 100) X hl.1 hK hP hS (index := 154) (by decide +kernel) (by decide +kernel) (by decide +kernel) (by decide +kernel) (hWK1.t 7 rfl) (gE_char (hVK1.t 7 rfl)) (fun _ => gE_char (hWK1.t 7 rfl)) rfl rfl rfl (by decide) (by decide) (by decide) (fun i hi => by rw [hfIK1 _ _ (by unfold tkW; omega), hBb.2.2.1 i hi]; exact (pk_charN (by have := hsg i hi; omega)).2) (Nat.le_of_ble_eq_true rfl) (Nat.le_of_ble_eq_true rfl) dX10_takeAll_17 (fun H locs hP hS => ?_)
  generalize eC2 : gcp IK1 (v + 7) (w + 7) 100 = C2 at hP
  refine lv_aload_n X.1 X.2.1 dX10_takeAll_20 rfl (lv_at hl 1 rfl) ?_
  refine g_getr 12 4 X hK hP hVK1.t0 rfl hinRX10 rfl (by decide) k30 (fun _ h => h) dX10_takeAll_21 (show va_rf (RK1 v 4) = .ref (v + 8) from by rw [(show RK1 v 4 = some (v + 8) from hVK1.r 4 rfl)]; rfl) ?_
  refine lv_iconst (v := 0) X.1 X.2.1 dX10_takeAll_24 (by decide) ?_
  refine lv_aload_n X.1 X.2.1 dX10_takeAll_25 rfl (lv_at hl 0 rfl) ?_
  refine g_getr 12 4 X hK hP hWK1.t0 rfl hinRX10 rfl (by decide) k30 (fun _ h => h) dX10_takeAll_26 (show va_rf (RK1 w 4) = .ref (w + 8) from by rw [(show RK1 w 4 = some (w + 8) from hWK1.r 4 rfl)]; rfl) ?_
  refine lv_iconst (v := 0) X.1 X.2.1 dX10_takeAll_29 (by decide) ?_
  refine lv_bipush (v := 12) X.1 X.2.1 dX10_takeAll_30 (by decide) ?_
  refine g_copy (kA := 0) (t0 := 0) (ty := .int) (n := 12) X hl.1 hK hP hS (index := 154) (by decide +kernel) (by decide +kernel) (by decide +kernel) (by decide +kernel) (hWK1.t 8 rfl) (gE_int (hVK1.t 8 rfl)) (fun _ => gE_int (hWK1.t 8 rfl)) rfl rfl rfl (by decide) (by decide) (by decide) (fun _ _ => rfl) (Nat.le_of_ble_eq_true rfl) (Nat.le_of_ble_eq_true rfl) dX10_takeAll_32 (fun H locs hP hS => ?_)
  generalize eC3 : gcp C2 (v + 8) (w + 8) 12 = C3 at hP
  refine lv_aload_n X.1 X.2.1 dX10_takeAll_35 rfl (lv_at hl 0 rfl) ?_
  refine lv_aload_n X.1 X.2.1 dX10_takeAll_36 rfl (lv_at hl 1 rfl) ?_
  refine g_geti 12 6 X hK hP hVK1.t0 rfl hinRX10 rfl (by decide) k164 (fun _ h => h) dX10_takeAll_37 (show C3 v 6 = nI (σ 41) from (by rw [← eC3]; exact (gcp_ne (by omega)).trans (by rw [← eC2]; exact (gcp_ne (by omega)).trans ((hfIK1 _ _ (by unfold tkW; omega)).trans hBb.1)))) ?_
  refine g_puti 12 6 X hK hP hS hWK1.t0 rfl hinRX10 tyX10 tyX10_ok nmX10 rfl (by decide) k164 (fun _ h => h) rfl rfl rfl dX10_takeAll_40 (fun H locs hP hS => ?_)
  generalize eI4 : g2 C3 w 6 (nI (σ 41)) = I4 at hP
  refine lv_aload_n X.1 X.2.1 dX10_takeAll_43 rfl (lv_at hl 0 rfl) ?_
  refine lv_aload_n X.1 X.2.1 dX10_takeAll_44 rfl (lv_at hl 1 rfl) ?_
  refine g_geti 12 7 X hK hP hVK1.t0 rfl hinRX10 rfl (by decide) k167 (fun _ h => h) dX10_takeAll_45 (show I4 v 7 = nI (σ 40) from (gs_ne eI4 (by omega) (by rw [← eC3]; exact (gcp_ne (by omega)).trans (by rw [← eC2]; exact (gcp_ne (by omega)).trans ((hfIK1 _ _ (by unfold tkW; omega)).trans hBb.2.1))))) ?_
  refine g_puti 12 7 X hK hP hS hWK1.t0 rfl hinRX10 tyX10 tyX10_ok nmX10 rfl (by decide) k167 (fun _ h => h) rfl rfl rfl dX10_takeAll_48 (fun H locs hP hS => ?_)
  generalize eI5 : g2 I4 w 7 (nI (σ 40)) = I5 at hP
  have hfo : ∀ c j, ¬ (c = w ∧ (j = 6 ∨ j = 7)) → ¬ c = w + 7 → ¬ c = w + 8 → I5 c j = IK1 c j := fun c j h1 h2 h3 => gs_ne eI5 (by omega) (gs_ne eI4 (by omega) (by rw [← eC3, gcp_ne (by omega), ← eC2, gcp_ne (by omega)]))
  have h7 : ∀ k, k < 100 → I5 (w + 7) k = nI (σ (68 + k)) := fun k hk => gs_ne eI5 (by omega) (gs_ne eI4 (by omega) (by rw [← eC3, gcp_ne (by omega), ← eC2, gcp_at hk]; exact (hfIK1 _ _ (by unfold tkW; omega)).trans (hBb.2.2.1 k hk)))
  have h8 : ∀ k, k < 12 → I5 (w + 8) k = nI (σ (56 + k)) := fun k hk => gs_ne eI5 (by omega) (gs_ne eI4 (by omega) (by rw [← eC3, gcp_at hk, ← eC2, gcp_ne (by omega)]; exact (hfIK1 _ _ (by unfold tkW; omega)).trans (hBb.2.2.2 k hk)))
  have hcA9 : cA w I5 σ := ⟨fun i y hi hy => (hfo _ _ (by omega) (by omega) (by omega)).trans (hcAK1.1 i y hi hy), fun ν hν => (hfo _ _ (by omega) (by omega) (by omega)).trans (hcAK1.2.1 ν hν), (hfo _ _ (by omega) (by omega) (by omega)).trans hcAK1.2.2.1, (hfo _ _ (by omega) (by omega) (by omega)).trans hcAK1.2.2.2.1, (hfo _ _ (by omega) (by omega) (by omega)).trans hcAK1.2.2.2.2.1, (hfo _ _ (by omega) (by omega) (by omega)).trans hcAK1.2.2.2.2.2.1, (hfo _ _ (by omega) (by omega) (by omega)).trans hcAK1.2.2.2.2.2.2.1, (hfo _ _ (by omega) (by omega) (by omega)).trans hcAK1.2.2.2.2.2.2.2⟩
  exact g_vret (f := fun u => u) (z, T, I5, RK1) X hr hlk hK hP hS dX10_takeAll_51 ⟨I5, RK1, rfl, hcA9, ⟨(gs_ne eI5 (by omega) (gs_same eI4)), (gs_same eI5), h7, h8⟩, ⟨hm1K1, hm2K1⟩, (fun c h1 h2 => (hfo c 0 (by omega) (by omega) (by omega)).trans (hknK1 c h1 h2)), (fun c j h => (hfo c j (by omega) (by omega) (by omega)).trans (hfIK1 c j (by unfold tkW; omega))), hfRK1⟩

set_option maxHeartbeats 4000000 in
set_option maxRecDepth 100000 in
/-- d_hire -/
theorem d_hire (hW : cWk w T R) {κ : Nat} (hκ : κ ≤ 6) (htb : T b = (mcl κ + 8, 0)) (hob : oW w b) (hnu : I b 1 = nI μ) (hμ : μ < 4) (hcas : gCas s0) : Met l yX10_hire wsX10_hire ({ frames := 0, cells := 0, slots := 0, locals := 0 }) (va_Pc [.ref w, .ref b] (gW0 s0 D cy B (z, T, I, R))) (va_Qv (fun u => u = (z, T, g2 (g2 I (w + 6) μ 0) w 5 (nI μ + 1), g2 R (w + 5) μ (some b))) (fun u t => gW1 D cy B u t) (gA B)) 0 0 (gA B) := by
  refine g_met (maxL := 2) (ret := none) (by decide) rfl (Nat.le_of_ble_eq_true rfl) (fun p e s m args below meth c ls X hr hlk hnm hK hP hC hS hl => ?_)
  have hl : lv_has ls 2 [(0, .ref w), (1, .ref b)] := hl
  have hP : gP D cy B z T I R s.heap := hP
  have hB : B ≤ s.heap.size := by rw [hP.1]; exact hP.2.1
  have hinRX10 : ∀ w ∈ wsX100, w ∈ wsX10_hire := fun _ h => List.mem_cons_of_mem _ (List.mem_append_left _ (List.mem_append_left _ (List.mem_append_left _ (List.mem_append_left _ (List.mem_append_left _ (List.mem_append_left _ (List.mem_append_left _ (List.mem_append_right _ h))))))))
  have hin7 : ∀ κ, κ ≤ 6 → ∀ w ∈ mws κ, w ∈ wsX10_hire := fun κ hκ => by
    rcases k7 hκ with rfl | rfl | rfl | rfl | rfl | rfl | rfl
    · exact fun _ h => List.mem_cons_of_mem _ (List.mem_append_left _ (List.mem_append_left _ (List.mem_append_left _ (List.mem_append_left _ (List.mem_append_right _ h)))))
    · exact fun _ h => List.mem_cons_of_mem _ (List.mem_append_left _ (List.mem_append_left _ (List.mem_append_left _ (List.mem_append_left _ (List.mem_append_left _ (List.mem_append_left _ (List.mem_append_right _ h)))))))
    · exact fun _ h => List.mem_cons_of_mem _ (List.mem_append_right _ h)
    · exact fun _ h => List.mem_cons_of_mem _ (List.mem_append_left _ (List.mem_append_left _ (List.mem_append_right _ h)))
    · exact fun _ h => List.mem_cons_of_mem _ (List.mem_append_left _ (List.mem_append_left _ (List.mem_append_left _ (List.mem_append_left _ (List.mem_append_left _ (List.mem_append_right _ h))))))
    · exact fun _ h => List.mem_cons_of_mem _ (List.mem_append_left _ (List.mem_append_right _ h))
    · exact fun _ h => List.mem_cons_of_mem _ (List.mem_append_left _ (List.mem_append_left _ (List.mem_append_left _ (List.mem_append_right _ h))))
  have k18 : Cond.fieldLink RX10 18 "BarrowPlank$Works" "men" "[LBarrowPlank$Man;" ∈ wsX10_hire := by decide +kernel
  have k22 : Cond.fieldLink RX10 22 "BarrowPlank$Works" "tired" "[I" ∈ wsX10_hire := by decide +kernel
  have k53 : Cond.fieldLink RX10 53 "BarrowPlank$Works" "crew" "I" ∈ wsX10_hire := by decide +kernel
  have k56 : Cond.fieldLink RX10 56 "BarrowPlank$Man" "number" "I" ∈ wsX10_hire := by decide +kernel
  replace hcas := hcas.now hC
  unfold oW at hob
  refine lv_aload_n X.1 X.2.1 dX10_hire_0 rfl (lv_at hl 0 rfl) ?_
  refine g_getr 12 1 X hK hP hW.t0 rfl hinRX10 rfl (by decide) k18 (fun _ h => h) dX10_hire_1 (show va_rf (R w 1) = .ref (w + 5) from by rw [(show R w 1 = some (w + 5) from hW.r 1 rfl)]; rfl) ?_
  refine lv_aload_n X.1 X.2.1 dX10_hire_4 rfl (lv_at hl 1 rfl) ?_
  refine g_mget 1 (by decide) hκ X hK hP htb (hin7 κ hκ) k56 (fun _ h => h) dX10_hire_5 (show I b 1 = nI μ from hnu) ?_
  refine lv_aload_n X.1 X.2.1 dX10_hire_8 rfl (lv_at hl 1 rfl) ?_
  refine g_aast (kA := 3) (t0 := 3) (E := "BarrowPlank$Man") μ X hK hP hS (hW.t 5 rfl) (fun _ => gE_man (hW.t 5 rfl)) rfl (g_anyM hκ hK hP htb hcas) (gIx_of (Eq.refl (nI μ)) (by omega) (by omega)) dX10_hire_9 (fun H locs hP hS => ?_)
  generalize eR1 : g2 R (w + 5) μ (some b) = R1 at hP
  refine lv_aload_n X.1 X.2.1 dX10_hire_10 rfl (lv_at hl 0 rfl) ?_
  refine g_getr 12 2 X hK hP hW.t0 rfl hinRX10 rfl (by decide) k22 (fun _ h => h) dX10_hire_11 (show va_rf (R1 w 2) = .ref (w + 6) from by rw [(gs_neR eR1 (by omega) (show R w 2 = some (w + 6) from hW.r 2 rfl))]; rfl) ?_
  refine lv_aload_n X.1 X.2.1 dX10_hire_14 rfl (lv_at hl 1 rfl) ?_
  refine g_mget 1 (by decide) hκ X hK hP htb (hin7 κ hκ) k56 (fun _ h => h) dX10_hire_15 (show I b 1 = nI μ from hnu) ?_
  refine lv_iconst (v := 0) X.1 X.2.1 dX10_hire_18 (by decide) ?_
  refine g_iast μ X hK hP hS (hW.t 6 rfl) (gIx_of (Eq.refl (nI μ)) (by omega) (by omega)) dX10_hire_19 (fun H locs hP hS => ?_)
  generalize eI2 : g2 I (w + 6) μ 0 = I2 at hP
  refine lv_aload_n X.1 X.2.1 dX10_hire_20 rfl (lv_at hl 0 rfl) ?_
  refine lv_aload_n X.1 X.2.1 dX10_hire_21 rfl (lv_at hl 1 rfl) ?_
  refine g_mget 1 (by decide) hκ X hK hP htb (hin7 κ hκ) k56 (fun _ h => h) dX10_hire_22 (show I2 b 1 = nI μ from (gs_ne eI2 (by omega) hnu)) ?_
  refine lv_iconst (v := 1) X.1 X.2.1 dX10_hire_25 (by decide) ?_
  refine lv_iadd X.1 X.2.1 dX10_hire_26 ?_
  refine g_puti 12 5 X hK hP hS hW.t0 rfl hinRX10 tyX10 tyX10_ok nmX10 rfl (by decide) k53 (fun _ h => h) rfl rfl rfl dX10_hire_27 (fun H locs hP hS => ?_)
  generalize eI3 : g2 I2 w 5 ((nI μ) + 1) = I3 at hP
  exact g_vret (f := fun u => u) (z, T, I3, R1) X hr hlk hK hP hS dX10_hire_30 (by rw [← eI3, ← eI2, ← eR1])

theorem sRk_0 : ∀ n, sRk fl σ μ 0 n = 0
  | 0 => rfl
  | n + 1 => by
    show sRk fl σ μ 0 n + (if 0 < sLs fl σ μ n 0 then 1 else 0) = 0
    rw [sRk_0 n, if_neg (by unfold sLs; omega)]
set_option maxHeartbeats 4000000 in
set_option maxRecDepth 100000 in
/-- d_risky -/
theorem d_risky (hall : cAll w b a μ T I R σ fl ti sh K) {ld : Nat} (hld : ld ≤ 20) : Met l yX10_risky wsX10_risky ({ frames := 3, cells := 0, slots := 0, locals := 72 }) (va_Pc [.ref w, .ref b, .int (nI ld)] (gW0 s0 D cy B (z, T, I, R))) (va_Qi (fun r u => r = nI (sRk fl σ μ (sCm σ μ ld) 10) ∧ ∃ I', u = (z, T, I', R) ∧ ∀ c j, ¬ c = w + 10 → I' c j = I c j) (fun u t => gW1 D cy B u t) (gA B)) 0 0 (gA B) := by
  refine g_met (maxL := 6) (ret := (some .int)) (by decide) rfl (Nat.le_of_ble_eq_true rfl) (fun p e s m args below meth c ls X hr hlk hnm hK hP hC hS hl => ?_)
  have hl : lv_has ls 6 [(0, .ref w), (1, .ref b), (2, .int (nI ld))] := hl
  have hP : gP D cy B z T I R s.heap := hP
  have hB : B ≤ s.heap.size := by rw [hP.1]; exact hP.2.1
  have hinRX10 : ∀ w ∈ wsX100, w ∈ wsX10_risky := fun _ h => List.mem_cons_of_mem _ (List.mem_append_left _ (List.mem_append_left _ (List.mem_append_left _ (List.mem_append_left _ (List.mem_append_left _ (List.mem_append_left _ (List.mem_append_left _ (List.mem_append_left _ (List.mem_append_right _ h)))))))))
  have hin7 : ∀ κ, κ ≤ 6 → ∀ w ∈ mws κ, w ∈ wsX10_risky := fun κ hκ => by
    rcases k7 hκ with rfl | rfl | rfl | rfl | rfl | rfl | rfl
    · exact fun _ h => List.mem_cons_of_mem _ (List.mem_append_left _ (List.mem_append_left _ (List.mem_append_left _ (List.mem_append_left _ (List.mem_append_left _ (List.mem_append_right _ h))))))
    · exact fun _ h => List.mem_cons_of_mem _ (List.mem_append_left _ (List.mem_append_left _ (List.mem_append_left _ (List.mem_append_left _ (List.mem_append_left _ (List.mem_append_left _ (List.mem_append_left _ (List.mem_append_right _ h))))))))
    · exact fun _ h => List.mem_cons_of_mem _ (List.mem_append_left _ (List.mem_append_right _ h))
    · exact fun _ h => List.mem_cons_of_mem _ (List.mem_append_left _ (List.mem_append_left _ (List.mem_append_left _ (List.mem_append_right _ h))))
    · exact fun _ h => List.mem_cons_of_mem _ (List.mem_append_left _ (List.mem_append_left _ (List.mem_append_left _ (List.mem_append_left _ (List.mem_append_left _ (List.mem_append_left _ (List.mem_append_right _ h)))))))
    · exact fun _ h => List.mem_cons_of_mem _ (List.mem_append_left _ (List.mem_append_left _ (List.mem_append_right _ h)))
    · exact fun _ h => List.mem_cons_of_mem _ (List.mem_append_left _ (List.mem_append_left _ (List.mem_append_left _ (List.mem_append_left _ (List.mem_append_right _ h)))))
  have k11 : Cond.fieldLink RX10 11 "BarrowPlank$Works" "yards" "[[I" ∈ wsX10_risky := by decide +kernel
  have k45 : Cond.fieldLink RX10 45 "BarrowPlank$Works" "facts" "[I" ∈ wsX10_risky := by decide +kernel
  have k48 : Cond.fieldLink RX10 48 "BarrowPlank$Works" "site" "LBarrowPlank$Site;" ∈ wsX10_risky := by decide +kernel
  obtain ⟨hW, hA, hm, hob0, hst, hsi, hsR, hoa0, ⟨hok, hfl, hti, hsh⟩, hb, hμ, hμ38⟩ := hall
  have hb3 := hb.2.1.2.2
  have hob := hob0
  have hoa := hoa0
  unfold oW at hob
  unfold oS at hoa
  obtain ⟨hk6, hv9, hs20⟩ := hb.2.2.2.2.2.2.2.2.1 μ hμ
  have h0 := hb.1
  have ht9 := hb.2.2.1 μ hμ
  have hcm := sCm_le σ μ ld
  refine lv_aload_n X.1 X.2.1 dX10_risky_0 rfl (lv_at hl 0 rfl) ?_
  refine lv_aload_n X.1 X.2.1 dX10_risky_1 rfl (lv_at hl 1 rfl) ?_
  refine lv_iload_n X.1 X.2.1 dX10_risky_2 rfl (lv_at hl 2 rfl) ?_
  refine g_run_i (f := fun u => u) (g_runV (k := 12) [.ref b, .int (nI ld)] X hK hP hS hC hB (d_comesIn hW hA hm hob0 hk6 hv9 h0 hld) (cwV 2 X.2.2.2.2 gX10_risky_X10_comesIn rfl rfl rfl (by decide +kernel) ⟨Nat.le_of_ble_eq_true rfl, Nat.le_of_ble_eq_true rfl⟩) hW.t0 rfl rfl hl.1 rfl (Nat.le_of_ble_eq_true rfl) dX10_risky_3 (by exact ⟨Nat.zero_le _, Nat.zero_le _⟩)) hS (fun r u H locs hq hP hS => ?_)
  obtain ⟨rfl, rfl⟩ := hq
  have hP : gP D cy B z T I R H := hP
  refine lv_istore_n (lv' := [(3, .int (nI (sCm σ μ ld))), (0, .ref w), (1, .ref b), (2, .int (nI ld))]) X.1 X.2.1 dX10_risky_6 rfl hl (by decide) rfl (fun ls hl => ?_)
  refine lv_iconst (v := 0) X.1 X.2.1 dX10_risky_7 (by decide) ?_
  refine lv_istore (lv' := [(4, .int 0), (3, .int (nI (sCm σ μ ld))), (0, .ref w), (1, .ref b), (2, .int (nI ld))]) X.1 X.2.1 dX10_risky_8 hl (by decide) rfl (fun ls hl => ?_)
  refine lv_iconst (v := 0) X.1 X.2.1 dX10_risky_10 (by decide) ?_
  refine lv_istore (lv' := [(5, .int 0), (4, .int 0), (3, .int (nI (sCm σ μ ld))), (0, .ref w), (1, .ref b), (2, .int (nI ld))]) X.1 X.2.1 dX10_risky_11 hl (by decide) rfl (fun ls hl => ?_)
  refine i_loop (I := I) 10 13 [] (fun k Q9 ls => (∀ c j, ¬ c = w + 10 → Q9 c j = I c j) ∧ lv_has ls 6 [(0, .ref w), (1, .ref b), (2, .int (nI ld)), (3, .int (nI (sCm σ μ ld))), (4, .int (nI (sRk fl σ μ (sCm σ μ ld) k))), (5, .int (nI k))]) 0 (by omega) ⟨fun _ _ _ => rfl, lv_sub hl [3, 4, 5, 2, 1, 0] rfl⟩ hP hS (fun k Q9 H locs ls hk hiv hP hS ih => ?_)
  obtain ⟨hq, hl⟩ := hiv
  have hA9 : cA w Q9 σ := hA.k (fun c j h1 h2 => hq c j (by omega))
  have hm9 : cMn T Q9 σ μ b := hm.k (fun j => hq b j (by omega))
  refine lv_iload X.1 X.2.1 dX10_risky_13 (lv_at hl 5 rfl) ?_
  refine lv_bipush (v := 10) X.1 X.2.1 dX10_risky_15 (by decide) ?_
  refine lv_icmp_ge (tgt := 71) X.1 X.2.1 dX10_risky_17 (by decide) (fun c17 => ?_) (fun c17 => ?_)
  · have n17 : 10 ≤ k := gq_le c17 (show (10 : Int32) = nI 10 from rfl) (Eq.refl (nI k)) (by omega) (by omega)
    refine lv_iload X.1 X.2.1 dX10_risky_71 (lv_at hl 4 rfl) ?_
    exact g_iret (f := fun u => u) (z, T, Q9, R) X hr hlk hK hP hS dX10_risky_73 ⟨(by rw [show k = 10 by omega]), Q9, rfl, hq⟩
  · have n17 : k < 10 := gq_nle c17 (show (10 : Int32) = nI 10 from rfl) (Eq.refl (nI k)) (by omega) (by omega)
    refine lv_iload_n X.1 X.2.1 dX10_risky_20 rfl (lv_at hl 3 rfl) ?_
    refine lv_if_le (tgt := 71) X.1 X.2.1 dX10_risky_21 (by decide) (fun c21 => ?_) (fun c21 => ?_)
    · have n21 : (sCm σ μ ld) ≤ 0 := gq_le c21 (Eq.refl (nI (sCm σ μ ld))) (show (0 : Int32) = nI 0 from rfl) (by omega) (by omega)
      refine lv_iload X.1 X.2.1 dX10_risky_71 (lv_at hl 4 rfl) ?_
      exact g_iret (f := fun u => u) (z, T, Q9, R) X hr hlk hK hP hS dX10_risky_73 ⟨(by rw [show sCm σ μ ld = 0 by omega, sRk_0, sRk_0]), Q9, rfl, hq⟩
    · have n21 : 0 < (sCm σ μ ld) := gq_nle c21 (Eq.refl (nI (sCm σ μ ld))) (show (0 : Int32) = nI 0 from rfl) (by omega) (by omega)
      have hb28 : σ (28 + k) ≤ 9 := by have h := hb.2.2.2.1 (20 + k) (by omega); rw [← Nat.add_assoc] at h; exact h
      have hsp9 := spF_le (κ := σ (44 + μ)) (y := k) (b := σ (28 + k)) hv9
      refine lv_aload_n X.1 X.2.1 dX10_risky_24 rfl (lv_at hl 0 rfl) ?_
      refine lv_aload_n X.1 X.2.1 dX10_risky_25 rfl (lv_at hl 1 rfl) ?_
      refine lv_iload X.1 X.2.1 dX10_risky_26 (lv_at hl 5 rfl) ?_
      refine lv_iload_n X.1 X.2.1 dX10_risky_28 rfl (lv_at hl 3 rfl) ?_
      refine g_run_v (f := fun u => u) (g_runV (k := 12) [.ref b, .int (nI k), .int (nI (sCm σ μ ld))] X hK hP hS hC hB (d_look (y := k) (q := sCm σ μ ld) hW hA9 hm9 hob0 hk6 (by omega)) (cwV 3 X.2.2.2.2 gX10_risky_X10_look rfl rfl rfl (by decide +kernel) ⟨Nat.le_of_ble_eq_true rfl, Nat.le_of_ble_eq_true rfl⟩) hW.t0 rfl rfl hl.1 rfl (Nat.le_of_ble_eq_true rfl) dX10_risky_29 (by exact ⟨Nat.zero_le _, Nat.zero_le _⟩)) hS (fun u H locs hq hP hS => ?_)
      obtain ⟨L1, rfl, hfL1, hkL1⟩ := hq
      have hP : gP D cy B z T L1 R H := hP
      have hoL1 : ∀ c j, ¬ c = w + 10 → L1 c j = I c j := fun c j h => (hkL1 c j h).trans (hq c j h)
      have hAL1 : cA w L1 σ := hA.k (fun c j h1 h2 => hoL1 c j (by omega))
      have hmL1 : cMn T L1 σ μ b := hm.k (fun j => hoL1 b j (by omega))
      have hsiL1 : cSi a L1 fl ti sh := hsi.k (fun c j h1 h2 => hoL1 c j (by omega))
      refine lv_aload_n X.1 X.2.1 dX10_risky_32 rfl (lv_at hl 0 rfl) ?_
      refine g_getr 12 12 X hK hP hW.t0 rfl hinRX10 rfl (by decide) k48 (fun _ h => h) dX10_risky_33 (show va_rf (R w 12) = .ref a from by rw [hsR]; rfl) ?_
      refine lv_aload_n X.1 X.2.1 dX10_risky_36 rfl (lv_at hl 0 rfl) ?_
      refine g_getr 12 15 X hK hP hW.t0 rfl hinRX10 rfl (by decide) k45 (fun _ h => h) dX10_risky_37 (show va_rf (R w 15) = .ref (w + 10) from by rw [(show R w 15 = some (w + 10) from hW.r 6 rfl)]; rfl) ?_
      have hx9 := sX_le hok hfl (fF σ μ k (sCm σ μ ld))
      refine g_run_i (f := fun u => u) (g_runV (k := 6) [.ref (w + 10)] X hK hP hS hC hB (d_lost hst hsiL1 hok (hW.t 10 rfl) hfL1 (fF_lt hb hμ (by omega) (by omega))) (cwV 1 X.2.2.2.2 gX10_risky_X4_lost rfl rfl rfl (by decide +kernel) ⟨Nat.le_of_ble_eq_true rfl, Nat.le_of_ble_eq_true rfl⟩) hst.1 rfl rfl hl.1 rfl (Nat.le_of_ble_eq_true rfl) dX10_risky_40 (by exact ⟨Nat.zero_le _, Nat.zero_le _⟩)) hS (fun r u H locs hq hP hS => ?_)
      obtain ⟨rfl, rfl⟩ := hq
      have hP : gP D cy B z T L1 R H := hP
      refine lv_aload_n X.1 X.2.1 dX10_risky_43 rfl (lv_at hl 1 rfl) ?_
      refine lv_iload X.1 X.2.1 dX10_risky_44 (lv_at hl 5 rfl) ?_
      refine lv_aload_n X.1 X.2.1 dX10_risky_46 rfl (lv_at hl 0 rfl) ?_
      refine g_getr 12 0 X hK hP hW.t0 rfl hinRX10 rfl (by decide) k11 (fun _ h => h) dX10_risky_47 (show va_rf (R w 0) = .ref (w + 1) from by rw [(show R w 0 = some (w + 1) from hW.r 0 rfl)]; rfl) ?_
      refine lv_iconst (v := 2) X.1 X.2.1 dX10_risky_50 (by decide) ?_
      refine g_2aald 2 X hK hP (hW.t 1 rfl) (gIx_of (show (2 : Int32) = nI 2 from rfl) (by omega) (by omega)) dX10_risky_51 (show va_rf (R (w + 1) 2) = .ref (w + 4) from by rw [(hW.r 9 rfl)]; rfl) ?_
      refine lv_iload X.1 X.2.1 dX10_risky_52 (lv_at hl 5 rfl) ?_
      refine g_iald k X hK hP (hW.t 4 rfl) (gIx_of (Eq.refl (nI k)) (by omega) (by omega)) dX10_risky_54 (show L1 (w + 4) k = nI (σ (28 + k)) from (hAL1.b (y := k) (by omega))) ?_
      refine g_join 58 [.int (nI (spF (σ (44 + μ)) (σ (48 + μ)) k (σ (28 + k)))), .int (nI ((sX fl (fF σ μ k (sCm σ μ ld))).2.2))] hP hS (fun hgo => ?_) (fun H locs hP hS => ?_)
      · have hk9 : σ (44 + μ) ≤ 6 := hk6
        rcases k7 hk9 with hc9 | hc9 | hc9 | hc9 | hc9 | hc9 | hc9
        · have hty8 : T b = (4 + 8, 0) := by rw [hm9.1, hc9]; rfl
          refine g_run_i (f := fun u => u) (g_runV (k := 4) [.int (nI k), .int (nI (σ (28 + k)))] X hK hP hS hC hB (v_X2_slops hk9 hm9.1 hmL1.2.2.2.1 (Eq.refl (nI k)) (Eq.refl (nI (σ (28 + k)))) ) (cwV 2 X.2.2.2.2 gX10_risky_X2_slops rfl rfl rfl (by decide +kernel) ⟨Nat.le_of_ble_eq_true rfl, Nat.le_of_ble_eq_true rfl⟩) hty8 rfl rfl hl.1 rfl (Nat.le_of_ble_eq_true rfl) dX10_risky_55 (by exact ⟨Nat.zero_le _, Nat.zero_le _⟩)) hS (fun r u H locs hq hP hS => ?_)
          obtain ⟨rfl, rfl⟩ := hq
          have h9 := hgo H locs hP hS
          refine lv_cv (congrArg nI (show 0 = (spF (σ (44 + μ)) (σ (48 + μ)) k (σ (28 + k))) by rw [hc9]; exact rfl)) ?_
          exact h9
        · have hty8 : T b = (2 + 8, 0) := by rw [hm9.1, hc9]; rfl
          refine g_run_i (f := fun u => u) (g_runU (k := 2) [.int (nI k), .int (nI (σ (28 + k)))] X hK hP hS hC hB (v_X2_slops hk9 hm9.1 hmL1.2.2.2.1 (Eq.refl (nI k)) (Eq.refl (nI (σ (28 + k)))) ) (va_cwU 2 X.2.2.2.2 gX10_risky_X2_slops_u151X0 rfl rfl rfl rfl ⟨by decide, by decide, by decide +kernel⟩ ⟨Nat.le_of_ble_eq_true rfl, Nat.le_of_ble_eq_true rfl⟩) hty8 rfl rfl hl.1 rfl (Nat.le_of_ble_eq_true rfl) dX10_risky_55 (by exact ⟨Nat.zero_le _, Nat.zero_le _⟩)) hS (fun r u H locs hq hP hS => ?_)
          obtain ⟨rfl, rfl⟩ := hq
          have h9 := hgo H locs hP hS
          refine lv_cv (congrArg nI (show 0 = (spF (σ (44 + μ)) (σ (48 + μ)) k (σ (28 + k))) by rw [hc9]; exact rfl)) ?_
          exact h9
        · have hty8 : T b = (11 + 8, 0) := by rw [hm9.1, hc9]; rfl
          refine g_run_i (f := fun u => u) (g_runU (k := 11) [.int (nI k), .int (nI (σ (28 + k)))] X hK hP hS hC hB (v_X2_slops hk9 hm9.1 hmL1.2.2.2.1 (Eq.refl (nI k)) (Eq.refl (nI (σ (28 + k)))) ) (va_cwU 2 X.2.2.2.2 gX10_risky_X2_slops_u151X9 rfl rfl rfl rfl ⟨by decide, by decide, by decide +kernel⟩ ⟨Nat.le_of_ble_eq_true rfl, Nat.le_of_ble_eq_true rfl⟩) hty8 rfl rfl hl.1 rfl (Nat.le_of_ble_eq_true rfl) dX10_risky_55 (by exact ⟨Nat.zero_le _, Nat.zero_le _⟩)) hS (fun r u H locs hq hP hS => ?_)
          obtain ⟨rfl, rfl⟩ := hq
          have h9 := hgo H locs hP hS
          refine lv_cv (congrArg nI (show 0 = (spF (σ (44 + μ)) (σ (48 + μ)) k (σ (28 + k))) by rw [hc9]; exact rfl)) ?_
          exact h9
        · have hty8 : T b = (8 + 8, 0) := by rw [hm9.1, hc9]; rfl
          refine g_run_i (f := fun u => u) (g_runU (k := 8) [.int (nI k), .int (nI (σ (28 + k)))] X hK hP hS hC hB (v_X2_slops hk9 hm9.1 hmL1.2.2.2.1 (Eq.refl (nI k)) (Eq.refl (nI (σ (28 + k)))) ) (va_cwU 2 X.2.2.2.2 gX10_risky_X2_slops_u151X6 rfl rfl rfl rfl ⟨by decide, by decide, by decide +kernel⟩ ⟨Nat.le_of_ble_eq_true rfl, Nat.le_of_ble_eq_true rfl⟩) hty8 rfl rfl hl.1 rfl (Nat.le_of_ble_eq_true rfl) dX10_risky_55 (by exact ⟨Nat.zero_le _, Nat.zero_le _⟩)) hS (fun r u H locs hq hP hS => ?_)
          obtain ⟨rfl, rfl⟩ := hq
          have h9 := hgo H locs hP hS
          refine lv_cv (congrArg nI (show 0 = (spF (σ (44 + μ)) (σ (48 + μ)) k (σ (28 + k))) by rw [hc9]; exact rfl)) ?_
          exact h9
        · have hty8 : T b = (3 + 8, 0) := by rw [hm9.1, hc9]; rfl
          refine g_run_i (f := fun u => u) (g_runU (k := 3) [.int (nI k), .int (nI (σ (28 + k)))] X hK hP hS hC hB (v_X1_slops hk9 hm9.1 hmL1.2.2.2.1 (Eq.refl (nI k)) (Eq.refl (nI (σ (28 + k)))) (by omega) (by omega)) (va_cwO 2 X.2.2.2.2 gX10_risky_X1_slops_u151X1 rfl rfl rfl (b0 := cX2_slops) (m0 := 3) (r0 := some .int) (by decide +kernel) ⟨by decide, by decide, by decide +kernel⟩ ⟨Nat.le_of_ble_eq_true rfl, Nat.le_of_ble_eq_true rfl⟩) hty8 rfl rfl hl.1 rfl (Nat.le_of_ble_eq_true rfl) dX10_risky_55 (by exact ⟨Nat.zero_le _, Nat.zero_le _⟩)) hS (fun r u H locs hq hP hS => ?_)
          obtain ⟨rfl, rfl⟩ := hq
          have h9 := hgo H locs hP hS
          refine lv_cv (congrArg nI (show (if 0 < (σ (28 + k)) then (σ (48 + μ)) else 0) = (spF (σ (44 + μ)) (σ (48 + μ)) k (σ (28 + k))) by rw [hc9]; exact spF_4.symm)) ?_
          exact h9
        · have hty8 : T b = (9 + 8, 0) := by rw [hm9.1, hc9]; rfl
          refine g_run_i (f := fun u => u) (g_runU (k := 9) [.int (nI k), .int (nI (σ (28 + k)))] X hK hP hS hC hB (v_X7_slops hk9 hm9.1 hmL1.2.2.2.1 (Eq.refl (nI k)) (Eq.refl (nI (σ (28 + k)))) (by omega) (by omega)) (va_cwO 2 X.2.2.2.2 gX10_risky_X7_slops_u151X7 rfl rfl rfl (b0 := cX2_slops) (m0 := 3) (r0 := some .int) (by decide +kernel) ⟨by decide, by decide, by decide +kernel⟩ ⟨Nat.le_of_ble_eq_true rfl, Nat.le_of_ble_eq_true rfl⟩) hty8 rfl rfl hl.1 rfl (Nat.le_of_ble_eq_true rfl) dX10_risky_55 (by exact ⟨Nat.zero_le _, Nat.zero_le _⟩)) hS (fun r u H locs hq hP hS => ?_)
          obtain ⟨rfl, rfl⟩ := hq
          have h9 := hgo H locs hP hS
          refine lv_cv (congrArg nI (show (if k = (σ (48 + μ)) then 1 else 0) = (spF (σ (44 + μ)) (σ (48 + μ)) k (σ (28 + k))) by rw [hc9]; exact spF_5.symm)) ?_
          exact h9
        · have hty8 : T b = (5 + 8, 0) := by rw [hm9.1, hc9]; rfl
          refine g_run_i (f := fun u => u) (g_runU (k := 5) [.int (nI k), .int (nI (σ (28 + k)))] X hK hP hS hC hB (v_X2_slops hk9 hm9.1 hmL1.2.2.2.1 (Eq.refl (nI k)) (Eq.refl (nI (σ (28 + k)))) ) (va_cwU 2 X.2.2.2.2 gX10_risky_X2_slops_u151X3 rfl rfl rfl rfl ⟨by decide, by decide, by decide +kernel⟩ ⟨Nat.le_of_ble_eq_true rfl, Nat.le_of_ble_eq_true rfl⟩) hty8 rfl rfl hl.1 rfl (Nat.le_of_ble_eq_true rfl) dX10_risky_55 (by exact ⟨Nat.zero_le _, Nat.zero_le _⟩)) hS (fun r u H locs hq hP hS => ?_)
          obtain ⟨rfl, rfl⟩ := hq
          have h9 := hgo H locs hP hS
          refine lv_cv (congrArg nI (show 0 = (spF (σ (44 + μ)) (σ (48 + μ)) k (σ (28 + k))) by rw [hc9]; exact rfl)) ?_
          exact h9
      refine lv_iadd X.1 X.2.1 dX10_risky_58 ?_
      refine lv_if_le (tgt := 65) X.1 X.2.1 dX10_risky_59 (by decide) (fun c59 => ?_) (fun c59 => ?_)
      · have n59 : ((sX fl (fF σ μ k (sCm σ μ ld))).2.2 + (spF (σ (44 + μ)) (σ (48 + μ)) k (σ (28 + k)))) ≤ 0 := gq_le c59 (gn_add (Eq.refl (nI ((sX fl (fF σ μ k (sCm σ μ ld))).2.2))) (Eq.refl (nI (spF (σ (44 + μ)) (σ (48 + μ)) k (σ (28 + k)))))) (show (0 : Int32) = nI 0 from rfl) (by omega) (by omega)
        refine lv_iinc (v := nI (k + 1)) (lv' := [(5, .int (nI (k + 1))), (0, .ref w), (1, .ref b), (2, .int (nI ld)), (3, .int (nI (sCm σ μ ld))), (4, .int (nI (sRk fl σ μ (sCm σ μ ld) k)))]) X.1 X.2.1 dX10_risky_65 hl (k := 5) rfl (gn_inc (Eq.refl (nI k)) 1) (by decide) rfl (fun ls hl => ?_)
        refine lv_goto (tgt := 13) X.1 X.2.1 dX10_risky_68 (by decide) ?_
        have e4 : nI (sRk fl σ μ (sCm σ μ ld) k) = nI (sRk fl σ μ (sCm σ μ ld) (k + 1)) := congrArg nI (by show _ = sRk fl σ μ (sCm σ μ ld) k + _; rw [if_neg (by rw [sLs_sp]; omega)]; rfl)
        rw [e4] at hl
        exact ih _ _ _ _ (by omega) ⟨hoL1, lv_sub hl [1, 2, 3, 4, 5, 0] rfl⟩ hP hS
      · have n59 : 0 < ((sX fl (fF σ μ k (sCm σ μ ld))).2.2 + (spF (σ (44 + μ)) (σ (48 + μ)) k (σ (28 + k)))) := gq_nle c59 (gn_add (Eq.refl (nI ((sX fl (fF σ μ k (sCm σ μ ld))).2.2))) (Eq.refl (nI (spF (σ (44 + μ)) (σ (48 + μ)) k (σ (28 + k)))))) (show (0 : Int32) = nI 0 from rfl) (by omega) (by omega)
        refine lv_iinc (v := nI ((sRk fl σ μ (sCm σ μ ld) k) + 1)) (lv' := [(4, .int (nI ((sRk fl σ μ (sCm σ μ ld) k) + 1))), (0, .ref w), (1, .ref b), (2, .int (nI ld)), (3, .int (nI (sCm σ μ ld))), (5, .int (nI k))]) X.1 X.2.1 dX10_risky_62 hl (k := 4) rfl (gn_inc (Eq.refl (nI (sRk fl σ μ (sCm σ μ ld) k))) 1) (by decide) rfl (fun ls hl => ?_)
        refine lv_iinc (v := nI (k + 1)) (lv' := [(5, .int (nI (k + 1))), (4, .int (nI ((sRk fl σ μ (sCm σ μ ld) k) + 1))), (0, .ref w), (1, .ref b), (2, .int (nI ld)), (3, .int (nI (sCm σ μ ld)))]) X.1 X.2.1 dX10_risky_65 hl (k := 5) rfl (gn_inc (Eq.refl (nI k)) 1) (by decide) rfl (fun ls hl => ?_)
        refine lv_goto (tgt := 13) X.1 X.2.1 dX10_risky_68 (by decide) ?_
        have e4 : nI ((sRk fl σ μ (sCm σ μ ld) k) + 1) = nI (sRk fl σ μ (sCm σ μ ld) (k + 1)) := ((Eq.refl (nI ((sRk fl σ μ (sCm σ μ ld) k) + 1)))).trans (congrArg nI (by show _ = sRk fl σ μ (sCm σ μ ld) k + _; rw [if_pos (by rw [sLs_sp]; omega)]))
        rw [e4] at hl
        exact ih _ _ _ _ (by omega) ⟨hoL1, lv_sub hl [2, 3, 4, 5, 1, 0] rfl⟩ hP hS

end PI