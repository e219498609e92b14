section QK
variable {l : Launch} {s0 : State} {D : va_G} {cy : Nat → ClassId} {B z : Nat} {T : Nat → Nat × Nat} {I : Nat → Nat → Int32} {R : Nat → Nat → Option Nat} {o : Nat}
set_option maxHeartbeats 4000000 in
set_option maxRecDepth 100000 in
/-- n_model -/
theorem n_model (hto : T o = (14 + 8, 0)) (hzo : z = o + 1) (h0 : ∀ j, I o j = 0) : Met l yX12_init wsX12_init ({ frames := 1, cells := 11, slots := 2526, locals := 21 }) (va_Pc [.ref o] (gW0 s0 D cy B (z, T, I, R))) (va_Qv (fun u => ∃ T' I' R', u = (o + 12, T', I', R') ∧ gMod o T' R' ∧ (∀ b j, b < 12 → ¬ (b = 0 ∧ j = 17) → ¬ (b = 1 ∧ (j = 0 ∨ j = 42)) → I' (o + b) j = 0) ∧ (I' o 17 = 1 ∧ I' (o + 1) 0 = 100 ∧ I' (o + 1) 42 = -1) ∧ (∀ c, c < o → T' c = T c) ∧ (∀ c j, c < o → I' c j = I c j) ∧ ∀ c j, c < o → R' c j = R c j) (fun u t => gW1 D cy B u t) (gA B)) 11 2526 (gA B) := by
  refine g_met (maxL := 1) (ret := none) (by decide) rfl (Nat.le_of_ble_eq_true rfl) (fun p e s m args below meth c ls X hr hlk hnm hK hP hC hS hl => ?_)
  have hl : lv_has ls 1 [(0, .ref o)] := hl
  have hP : gP D cy B z T I R s.heap := hP
  have hB : B ≤ s.heap.size := by rw [hP.1]; exact hP.2.1
  have hinRX12 : ∀ w ∈ wsX120, w ∈ wsX12_init := fun _ h => List.mem_cons_of_mem _ (List.mem_append_right _ h)
  have k9 : Cond.fieldLink RX12 9 "BarrowPlankModel" "s" "[I" ∈ wsX12_init := by decide +kernel
  have k15 : Cond.fieldLink RX12 15 "BarrowPlankModel" "image" "[I" ∈ wsX12_init := by decide +kernel
  have k18 : Cond.fieldLink RX12 18 "BarrowPlankModel" "frames" "[I" ∈ wsX12_init := by decide +kernel
  have k21 : Cond.fieldLink RX12 21 "BarrowPlankModel" "by" "[I" ∈ wsX12_init := by decide +kernel
  have k24 : Cond.fieldLink RX12 24 "BarrowPlankModel" "truths" "[Z" ∈ wsX12_init := by decide +kernel
  have k28 : Cond.fieldLink RX12 28 "BarrowPlankModel" "seenAt" "[I" ∈ wsX12_init := by decide +kernel
  have k31 : Cond.fieldLink RX12 31 "BarrowPlankModel" "seenSlower" "[I" ∈ wsX12_init := by decide +kernel
  have k34 : Cond.fieldLink RX12 34 "BarrowPlankModel" "seenLosing" "[I" ∈ wsX12_init := by decide +kernel
  have k37 : Cond.fieldLink RX12 37 "BarrowPlankModel" "times" "I" ∈ wsX12_init := by decide +kernel
  have k41 : Cond.fieldLink RX12 41 "BarrowPlankModel" "ends" "[I" ∈ wsX12_init := by decide +kernel
  have k44 : Cond.fieldLink RX12 44 "BarrowPlankModel" "fills" "[I" ∈ wsX12_init := by decide +kernel
  have k47 : Cond.fieldLink RX12 47 "BarrowPlankModel" "bodies" "[I" ∈ wsX12_init := by decide +kernel
  obtain rfl : z = o + 1 := hzo
  refine lv_aload_n X.1 X.2.1 dX12_init_0 rfl (lv_at hl 0 rfl) ?_
  refine g_oinit X hl.1 (by decide +kernel) (by decide +kernel) (by decide +kernel) (Nat.le_of_ble_eq_true rfl) (Nat.le_of_ble_eq_true rfl) (Nat.le_of_ble_eq_true rfl) dX12_init_1 ?_
  refine lv_aload_n X.1 X.2.1 dX12_init_4 rfl (lv_at hl 0 rfl) ?_
  refine lv_sipush (v := 883) X.1 X.2.1 dX12_init_5 (by decide) ?_
  refine g_newarr (k := 1) (t0 := 0) X hK hP hS (atype := .int) (by decide +kernel) rfl rfl (N := 883) (fun T I R a h => gE_int h) rfl (by decide) (by decide) (Nat.le_of_ble_eq_true rfl) (Nat.le_of_ble_eq_true rfl) dX12_init_8 (fun H hP hS => ?_)
  generalize eT1 : g1 T (o + 1) (1, 883) = T1 at hP
  generalize eI2 : gr I (o + 1) (fun _ => 0) = I2 at hP
  generalize eR3 : gr R (o + 1) (fun _ => none) = R3 at hP
  have hT1z : T1 (o + 1) = (1, 883) := by rw [← eT1]; exact g1_same
  have hT1n : ∀ c, c ≠ (o + 1) → T1 c = T c := fun c h => by rw [← eT1]; exact g1_ne h
  have hI2n : ∀ c j, c ≠ (o + 1) → I2 c j = I c j := fun c j h => by rw [← eI2, gr_row h]
  have hI2z : ∀ j, I2 (o + 1) j = 0 := fun j => by rw [← eI2, gr_at]
  have hR3n : ∀ c j, c ≠ (o + 1) → R3 c j = R c j := fun c j h => by rw [← eR3, gr_row h]
  have hR3z : ∀ j, R3 (o + 1) j = none := fun j => by rw [← eR3, gr_at]
  have hto := (hT1n o (by omega)).trans hto
  have hP : gP D cy B (o + 2) T1 I2 R3 H := hP
  refine g_putrF 14 1 X hK hP hS hto rfl hinRX12 tyX12 tyX12_ok nmX12 rfl (by decide) k9 (fun _ h => h) rfl hnm rfl (r := some (o + 1)) rfl rfl rfl dX12_init_10 (fun H locs hP hS => ?_)
  generalize eR4 : g2 R3 o 1 (some (o + 1)) = R4 at hP
  refine lv_aload_n X.1 X.2.1 dX12_init_13 rfl (lv_at hl 0 rfl) ?_
  refine lv_sipush (v := 883) X.1 X.2.1 dX12_init_14 (by decide) ?_
  refine g_newarr (k := 1) (t0 := 0) X hK hP hS (atype := .int) (by decide +kernel) rfl rfl (N := 883) (fun T I R a h => gE_int h) rfl (by decide) (by decide) (Nat.le_of_ble_eq_true rfl) (Nat.le_of_ble_eq_true rfl) dX12_init_17 (fun H hP hS => ?_)
  generalize eT5 : g1 T1 (o + 2) (1, 883) = T5 at hP
  generalize eI6 : gr I2 (o + 2) (fun _ => 0) = I6 at hP
  generalize eR7 : gr R4 (o + 2) (fun _ => none) = R7 at hP
  have hT5z : T5 (o + 2) = (1, 883) := by rw [← eT5]; exact g1_same
  have hT5n : ∀ c, c ≠ (o + 2) → T5 c = T1 c := fun c h => by rw [← eT5]; exact g1_ne h
  have hI6n : ∀ c j, c ≠ (o + 2) → I6 c j = I2 c j := fun c j h => by rw [← eI6, gr_row h]
  have hI6z : ∀ j, I6 (o + 2) j = 0 := fun j => by rw [← eI6, gr_at]
  have hR7n : ∀ c j, c ≠ (o + 2) → R7 c j = R4 c j := fun c j h => by rw [← eR7, gr_row h]
  have hR7z : ∀ j, R7 (o + 2) j = none := fun j => by rw [← eR7, gr_at]
  have hto := (hT5n o (by omega)).trans hto
  have hT1z := (hT5n (o + 1) (by omega)).trans hT1z
  have hP : gP D cy B (o + 3) T5 I6 R7 H := hP
  refine g_putrF 14 2 X hK hP hS hto rfl hinRX12 tyX12 tyX12_ok nmX12 rfl (by decide) k15 (fun _ h => h) rfl hnm rfl (r := some (o + 2)) rfl rfl rfl dX12_init_19 (fun H locs hP hS => ?_)
  generalize eR8 : g2 R7 o 2 (some (o + 2)) = R8 at hP
  refine lv_aload_n X.1 X.2.1 dX12_init_22 rfl (lv_at hl 0 rfl) ?_
  refine lv_bipush (v := 36) X.1 X.2.1 dX12_init_23 (by decide) ?_
  refine g_newarr (k := 1) (t0 := 0) X hK hP hS (atype := .int) (by decide +kernel) rfl rfl (N := 36) (fun T I R a h => gE_int h) rfl (by decide) (by decide) (Nat.le_of_ble_eq_true rfl) (Nat.le_of_ble_eq_true rfl) dX12_init_25 (fun H hP hS => ?_)
  generalize eT9 : g1 T5 (o + 3) (1, 36) = T9 at hP
  generalize eI10 : gr I6 (o + 3) (fun _ => 0) = I10 at hP
  generalize eR11 : gr R8 (o + 3) (fun _ => none) = R11 at hP
  have hT9z : T9 (o + 3) = (1, 36) := by rw [← eT9]; exact g1_same
  have hT9n : ∀ c, c ≠ (o + 3) → T9 c = T5 c := fun c h => by rw [← eT9]; exact g1_ne h
  have hI10n : ∀ c j, c ≠ (o + 3) → I10 c j = I6 c j := fun c j h => by rw [← eI10, gr_row h]
  have hI10z : ∀ j, I10 (o + 3) j = 0 := fun j => by rw [← eI10, gr_at]
  have hR11n : ∀ c j, c ≠ (o + 3) → R11 c j = R8 c j := fun c j h => by rw [← eR11, gr_row h]
  have hR11z : ∀ j, R11 (o + 3) j = none := fun j => by rw [← eR11, gr_at]
  have hto := (hT9n o (by omega)).trans hto
  have hT1z := (hT9n (o + 1) (by omega)).trans hT1z
  have hT5z := (hT9n (o + 2) (by omega)).trans hT5z
  have hP : gP D cy B (o + 4) T9 I10 R11 H := hP
  refine g_putrF 14 4 X hK hP hS hto rfl hinRX12 tyX12 tyX12_ok nmX12 rfl (by decide) k18 (fun _ h => h) rfl hnm rfl (r := some (o + 3)) rfl rfl rfl dX12_init_27 (fun H locs hP hS => ?_)
  generalize eR12 : g2 R11 o 4 (some (o + 3)) = R12 at hP
  refine lv_aload_n X.1 X.2.1 dX12_init_30 rfl (lv_at hl 0 rfl) ?_
  refine lv_bipush (v := 6) X.1 X.2.1 dX12_init_31 (by decide) ?_
  refine g_newarr (k := 1) (t0 := 0) X hK hP hS (atype := .int) (by decide +kernel) rfl rfl (N := 6) (fun T I R a h => gE_int h) rfl (by decide) (by decide) (Nat.le_of_ble_eq_true rfl) (Nat.le_of_ble_eq_true rfl) dX12_init_33 (fun H hP hS => ?_)
  generalize eT13 : g1 T9 (o + 4) (1, 6) = T13 at hP
  generalize eI14 : gr I10 (o + 4) (fun _ => 0) = I14 at hP
  generalize eR15 : gr R12 (o + 4) (fun _ => none) = R15 at hP
  have hT13z : T13 (o + 4) = (1, 6) := by rw [← eT13]; exact g1_same
  have hT13n : ∀ c, c ≠ (o + 4) → T13 c = T9 c := fun c h => by rw [← eT13]; exact g1_ne h
  have hI14n : ∀ c j, c ≠ (o + 4) → I14 c j = I10 c j := fun c j h => by rw [← eI14, gr_row h]
  have hI14z : ∀ j, I14 (o + 4) j = 0 := fun j => by rw [← eI14, gr_at]
  have hR15n : ∀ c j, c ≠ (o + 4) → R15 c j = R12 c j := fun c j h => by rw [← eR15, gr_row h]
  have hR15z : ∀ j, R15 (o + 4) j = none := fun j => by rw [← eR15, gr_at]
  have hto := (hT13n o (by omega)).trans hto
  have hT1z := (hT13n (o + 1) (by omega)).trans hT1z
  have hT5z := (hT13n (o + 2) (by omega)).trans hT5z
  have hT9z := (hT13n (o + 3) (by omega)).trans hT9z
  have hP : gP D cy B (o + 5) T13 I14 R15 H := hP
  refine g_putrF 14 10 X hK hP hS hto rfl hinRX12 tyX12 tyX12_ok nmX12 rfl (by decide) k21 (fun _ h => h) rfl hnm rfl (r := some (o + 4)) rfl rfl rfl dX12_init_35 (fun H locs hP hS => ?_)
  generalize eR16 : g2 R15 o 10 (some (o + 4)) = R16 at hP
  refine lv_aload_n X.1 X.2.1 dX12_init_38 rfl (lv_at hl 0 rfl) ?_
  refine lv_bipush (v := 64) X.1 X.2.1 dX12_init_39 (by decide) ?_
  refine g_newarr (k := 3) (t0 := 2) X hK hP hS (atype := .boolean) (by decide +kernel) rfl rfl (N := 64) (fun T I R a h => gE_bool h) rfl (by decide) (by decide) (Nat.le_of_ble_eq_true rfl) (Nat.le_of_ble_eq_true rfl) dX12_init_41 (fun H hP hS => ?_)
  generalize eT17 : g1 T13 (o + 5) (3, 64) = T17 at hP
  generalize eI18 : gr I14 (o + 5) (fun _ => 0) = I18 at hP
  generalize eR19 : gr R16 (o + 5) (fun _ => none) = R19 at hP
  have hT17z : T17 (o + 5) = (3, 64) := by rw [← eT17]; exact g1_same
  have hT17n : ∀ c, c ≠ (o + 5) → T17 c = T13 c := fun c h => by rw [← eT17]; exact g1_ne h
  have hI18n : ∀ c j, c ≠ (o + 5) → I18 c j = I14 c j := fun c j h => by rw [← eI18, gr_row h]
  have hI18z : ∀ j, I18 (o + 5) j = 0 := fun j => by rw [← eI18, gr_at]
  have hR19n : ∀ c j, c ≠ (o + 5) → R19 c j = R16 c j := fun c j h => by rw [← eR19, gr_row h]
  have hR19z : ∀ j, R19 (o + 5) j = none := fun j => by rw [← eR19, gr_at]
  have hto := (hT17n o (by omega)).trans hto
  have hT1z := (hT17n (o + 1) (by omega)).trans hT1z
  have hT5z := (hT17n (o + 2) (by omega)).trans hT5z
  have hT9z := (hT17n (o + 3) (by omega)).trans hT9z
  have hT13z := (hT17n (o + 4) (by omega)).trans hT13z
  have hP : gP D cy B (o + 6) T17 I18 R19 H := hP
  refine g_putrF 14 11 X hK hP hS hto rfl hinRX12 tyX12 tyX12_ok nmX12 rfl (by decide) k24 (fun _ h => h) rfl hnm rfl (r := some (o + 5)) rfl rfl rfl dX12_init_43 (fun H locs hP hS => ?_)
  generalize eR20 : g2 R19 o 11 (some (o + 5)) = R20 at hP
  refine lv_aload_n X.1 X.2.1 dX12_init_46 rfl (lv_at hl 0 rfl) ?_
  refine lv_sipush (v := 210) X.1 X.2.1 dX12_init_47 (by decide) ?_
  refine g_newarr (k := 1) (t0 := 0) X hK hP hS (atype := .int) (by decide +kernel) rfl rfl (N := 210) (fun T I R a h => gE_int h) rfl (by decide) (by decide) (Nat.le_of_ble_eq_true rfl) (Nat.le_of_ble_eq_true rfl) dX12_init_50 (fun H hP hS => ?_)
  generalize eT21 : g1 T17 (o + 6) (1, 210) = T21 at hP
  generalize eI22 : gr I18 (o + 6) (fun _ => 0) = I22 at hP
  generalize eR23 : gr R20 (o + 6) (fun _ => none) = R23 at hP
  have hT21z : T21 (o + 6) = (1, 210) := by rw [← eT21]; exact g1_same
  have hT21n : ∀ c, c ≠ (o + 6) → T21 c = T17 c := fun c h => by rw [← eT21]; exact g1_ne h
  have hI22n : ∀ c j, c ≠ (o + 6) → I22 c j = I18 c j := fun c j h => by rw [← eI22, gr_row h]
  have hI22z : ∀ j, I22 (o + 6) j = 0 := fun j => by rw [← eI22, gr_at]
  have hR23n : ∀ c j, c ≠ (o + 6) → R23 c j = R20 c j := fun c j h => by rw [← eR23, gr_row h]
  have hR23z : ∀ j, R23 (o + 6) j = none := fun j => by rw [← eR23, gr_at]
  have hto := (hT21n o (by omega)).trans hto
  have hT1z := (hT21n (o + 1) (by omega)).trans hT1z
  have hT5z := (hT21n (o + 2) (by omega)).trans hT5z
  have hT9z := (hT21n (o + 3) (by omega)).trans hT9z
  have hT13z := (hT21n (o + 4) (by omega)).trans hT13z
  have hT17z := (hT21n (o + 5) (by omega)).trans hT17z
  have hP : gP D cy B (o + 7) T21 I22 R23 H := hP
  refine g_putrF 14 14 X hK hP hS hto rfl hinRX12 tyX12 tyX12_ok nmX12 rfl (by decide) k28 (fun _ h => h) rfl hnm rfl (r := some (o + 6)) rfl rfl rfl dX12_init_52 (fun H locs hP hS => ?_)
  generalize eR24 : g2 R23 o 14 (some (o + 6)) = R24 at hP
  refine lv_aload_n X.1 X.2.1 dX12_init_55 rfl (lv_at hl 0 rfl) ?_
  refine lv_sipush (v := 210) X.1 X.2.1 dX12_init_56 (by decide) ?_
  refine g_newarr (k := 1) (t0 := 0) X hK hP hS (atype := .int) (by decide +kernel) rfl rfl (N := 210) (fun T I R a h => gE_int h) rfl (by decide) (by decide) (Nat.le_of_ble_eq_true rfl) (Nat.le_of_ble_eq_true rfl) dX12_init_59 (fun H hP hS => ?_)
  generalize eT25 : g1 T21 (o + 7) (1, 210) = T25 at hP
  generalize eI26 : gr I22 (o + 7) (fun _ => 0) = I26 at hP
  generalize eR27 : gr R24 (o + 7) (fun _ => none) = R27 at hP
  have hT25z : T25 (o + 7) = (1, 210) := by rw [← eT25]; exact g1_same
  have hT25n : ∀ c, c ≠ (o + 7) → T25 c = T21 c := fun c h => by rw [← eT25]; exact g1_ne h
  have hI26n : ∀ c j, c ≠ (o + 7) → I26 c j = I22 c j := fun c j h => by rw [← eI26, gr_row h]
  have hI26z : ∀ j, I26 (o + 7) j = 0 := fun j => by rw [← eI26, gr_at]
  have hR27n : ∀ c j, c ≠ (o + 7) → R27 c j = R24 c j := fun c j h => by rw [← eR27, gr_row h]
  have hR27z : ∀ j, R27 (o + 7) j = none := fun j => by rw [← eR27, gr_at]
  have hto := (hT25n o (by omega)).trans hto
  have hT1z := (hT25n (o + 1) (by omega)).trans hT1z
  have hT5z := (hT25n (o + 2) (by omega)).trans hT5z
  have hT9z := (hT25n (o + 3) (by omega)).trans hT9z
  have hT13z := (hT25n (o + 4) (by omega)).trans hT13z
  have hT17z := (hT25n (o + 5) (by omega)).trans hT17z
  have hT21z := (hT25n (o + 6) (by omega)).trans hT21z
  have hP : gP D cy B (o + 8) T25 I26 R27 H := hP
  refine g_putrF 14 15 X hK hP hS hto rfl hinRX12 tyX12 tyX12_ok nmX12 rfl (by decide) k31 (fun _ h => h) rfl hnm rfl (r := some (o + 7)) rfl rfl rfl dX12_init_61 (fun H locs hP hS => ?_)
  generalize eR28 : g2 R27 o 15 (some (o + 7)) = R28 at hP
  refine lv_aload_n X.1 X.2.1 dX12_init_64 rfl (lv_at hl 0 rfl) ?_
  refine lv_sipush (v := 210) X.1 X.2.1 dX12_init_65 (by decide) ?_
  refine g_newarr (k := 1) (t0 := 0) X hK hP hS (atype := .int) (by decide +kernel) rfl rfl (N := 210) (fun T I R a h => gE_int h) rfl (by decide) (by decide) (Nat.le_of_ble_eq_true rfl) (Nat.le_of_ble_eq_true rfl) dX12_init_68 (fun H hP hS => ?_)
  generalize eT29 : g1 T25 (o + 8) (1, 210) = T29 at hP
  generalize eI30 : gr I26 (o + 8) (fun _ => 0) = I30 at hP
  generalize eR31 : gr R28 (o + 8) (fun _ => none) = R31 at hP
  have hT29z : T29 (o + 8) = (1, 210) := by rw [← eT29]; exact g1_same
  have hT29n : ∀ c, c ≠ (o + 8) → T29 c = T25 c := fun c h => by rw [← eT29]; exact g1_ne h
  have hI30n : ∀ c j, c ≠ (o + 8) → I30 c j = I26 c j := fun c j h => by rw [← eI30, gr_row h]
  have hI30z : ∀ j, I30 (o + 8) j = 0 := fun j => by rw [← eI30, gr_at]
  have hR31n : ∀ c j, c ≠ (o + 8) → R31 c j = R28 c j := fun c j h => by rw [← eR31, gr_row h]
  have hR31z : ∀ j, R31 (o + 8) j = none := fun j => by rw [← eR31, gr_at]
  have hto := (hT29n o (by omega)).trans hto
  have hT1z := (hT29n (o + 1) (by omega)).trans hT1z
  have hT5z := (hT29n (o + 2) (by omega)).trans hT5z
  have hT9z := (hT29n (o + 3) (by omega)).trans hT9z
  have hT13z := (hT29n (o + 4) (by omega)).trans hT13z
  have hT17z := (hT29n (o + 5) (by omega)).trans hT17z
  have hT21z := (hT29n (o + 6) (by omega)).trans hT21z
  have hT25z := (hT29n (o + 7) (by omega)).trans hT25z
  have hP : gP D cy B (o + 9) T29 I30 R31 H := hP
  refine g_putrF 14 16 X hK hP hS hto rfl hinRX12 tyX12 tyX12_ok nmX12 rfl (by decide) k34 (fun _ h => h) rfl hnm rfl (r := some (o + 8)) rfl rfl rfl dX12_init_70 (fun H locs hP hS => ?_)
  generalize eR32 : g2 R31 o 16 (some (o + 8)) = R32 at hP
  refine lv_aload_n X.1 X.2.1 dX12_init_73 rfl (lv_at hl 0 rfl) ?_
  refine lv_iconst (v := 1) X.1 X.2.1 dX12_init_74 (by decide) ?_
  refine g_puti 14 17 X hK hP hS hto rfl hinRX12 tyX12 tyX12_ok nmX12 rfl (by decide) k37 (fun _ h => h) rfl rfl rfl dX12_init_75 (fun H locs hP hS => ?_)
  generalize eI33 : g2 I30 o 17 1 = I33 at hP
  refine lv_aload_n X.1 X.2.1 dX12_init_78 rfl (lv_at hl 0 rfl) ?_
  refine lv_iconst (v := 2) X.1 X.2.1 dX12_init_79 (by decide) ?_
  refine g_newarr (k := 1) (t0 := 0) X hK hP hS (atype := .int) (by decide +kernel) rfl rfl (N := 2) (fun T I R a h => gE_int h) rfl (by decide) (by decide) (Nat.le_of_ble_eq_true rfl) (Nat.le_of_ble_eq_true rfl) dX12_init_80 (fun H hP hS => ?_)
  generalize eT34 : g1 T29 (o + 9) (1, 2) = T34 at hP
  generalize eI35 : gr I33 (o + 9) (fun _ => 0) = I35 at hP
  generalize eR36 : gr R32 (o + 9) (fun _ => none) = R36 at hP
  have hT34z : T34 (o + 9) = (1, 2) := by rw [← eT34]; exact g1_same
  have hT34n : ∀ c, c ≠ (o + 9) → T34 c = T29 c := fun c h => by rw [← eT34]; exact g1_ne h
  have hI35n : ∀ c j, c ≠ (o + 9) → I35 c j = I33 c j := fun c j h => by rw [← eI35, gr_row h]
  have hI35z : ∀ j, I35 (o + 9) j = 0 := fun j => by rw [← eI35, gr_at]
  have hR36n : ∀ c j, c ≠ (o + 9) → R36 c j = R32 c j := fun c j h => by rw [← eR36, gr_row h]
  have hR36z : ∀ j, R36 (o + 9) j = none := fun j => by rw [← eR36, gr_at]
  have hto := (hT34n o (by omega)).trans hto
  have hT1z := (hT34n (o + 1) (by omega)).trans hT1z
  have hT5z := (hT34n (o + 2) (by omega)).trans hT5z
  have hT9z := (hT34n (o + 3) (by omega)).trans hT9z
  have hT13z := (hT34n (o + 4) (by omega)).trans hT13z
  have hT17z := (hT34n (o + 5) (by omega)).trans hT17z
  have hT21z := (hT34n (o + 6) (by omega)).trans hT21z
  have hT25z := (hT34n (o + 7) (by omega)).trans hT25z
  have hT29z := (hT34n (o + 8) (by omega)).trans hT29z
  have hP : gP D cy B (o + 10) T34 I35 R36 H := hP
  refine g_putrF 14 23 X hK hP hS hto rfl hinRX12 tyX12 tyX12_ok nmX12 rfl (by decide) k41 (fun _ h => h) rfl hnm rfl (r := some (o + 9)) rfl rfl rfl dX12_init_82 (fun H locs hP hS => ?_)
  generalize eR37 : g2 R36 o 23 (some (o + 9)) = R37 at hP
  refine lv_aload_n X.1 X.2.1 dX12_init_85 rfl (lv_at hl 0 rfl) ?_
  refine lv_iconst (v := 2) X.1 X.2.1 dX12_init_86 (by decide) ?_
  refine g_newarr (k := 1) (t0 := 0) X hK hP hS (atype := .int) (by decide +kernel) rfl rfl (N := 2) (fun T I R a h => gE_int h) rfl (by decide) (by decide) (Nat.le_of_ble_eq_true rfl) (Nat.le_of_ble_eq_true rfl) dX12_init_87 (fun H hP hS => ?_)
  generalize eT38 : g1 T34 (o + 10) (1, 2) = T38 at hP
  generalize eI39 : gr I35 (o + 10) (fun _ => 0) = I39 at hP
  generalize eR40 : gr R37 (o + 10) (fun _ => none) = R40 at hP
  have hT38z : T38 (o + 10) = (1, 2) := by rw [← eT38]; exact g1_same
  have hT38n : ∀ c, c ≠ (o + 10) → T38 c = T34 c := fun c h => by rw [← eT38]; exact g1_ne h
  have hI39n : ∀ c j, c ≠ (o + 10) → I39 c j = I35 c j := fun c j h => by rw [← eI39, gr_row h]
  have hI39z : ∀ j, I39 (o + 10) j = 0 := fun j => by rw [← eI39, gr_at]
  have hR40n : ∀ c j, c ≠ (o + 10) → R40 c j = R37 c j := fun c j h => by rw [← eR40, gr_row h]
  have hR40z : ∀ j, R40 (o + 10) j = none := fun j => by rw [← eR40, gr_at]
  have hto := (hT38n o (by omega)).trans hto
  have hT1z := (hT38n (o + 1) (by omega)).trans hT1z
  have hT5z := (hT38n (o + 2) (by omega)).trans hT5z
  have hT9z := (hT38n (o + 3) (by omega)).trans hT9z
  have hT13z := (hT38n (o + 4) (by omega)).trans hT13z
  have hT17z := (hT38n (o + 5) (by omega)).trans hT17z
  have hT21z := (hT38n (o + 6) (by omega)).trans hT21z
  have hT25z := (hT38n (o + 7) (by omega)).trans hT25z
  have hT29z := (hT38n (o + 8) (by omega)).trans hT29z
  have hT34z := (hT38n (o + 9) (by omega)).trans hT34z
  have hP : gP D cy B (o + 11) T38 I39 R40 H := hP
  refine g_putrF 14 24 X hK hP hS hto rfl hinRX12 tyX12 tyX12_ok nmX12 rfl (by decide) k44 (fun _ h => h) rfl hnm rfl (r := some (o + 10)) rfl rfl rfl dX12_init_89 (fun H locs hP hS => ?_)
  generalize eR41 : g2 R40 o 24 (some (o + 10)) = R41 at hP
  refine lv_aload_n X.1 X.2.1 dX12_init_92 rfl (lv_at hl 0 rfl) ?_
  refine lv_bipush (v := 20) X.1 X.2.1 dX12_init_93 (by decide) ?_
  refine g_newarr (k := 1) (t0 := 0) X hK hP hS (atype := .int) (by decide +kernel) rfl rfl (N := 20) (fun T I R a h => gE_int h) rfl (by decide) (by decide) (Nat.le_of_ble_eq_true rfl) (Nat.le_of_ble_eq_true rfl) dX12_init_95 (fun H hP hS => ?_)
  generalize eT42 : g1 T38 (o + 11) (1, 20) = T42 at hP
  generalize eI43 : gr I39 (o + 11) (fun _ => 0) = I43 at hP
  generalize eR44 : gr R41 (o + 11) (fun _ => none) = R44 at hP
  have hT42z : T42 (o + 11) = (1, 20) := by rw [← eT42]; exact g1_same
  have hT42n : ∀ c, c ≠ (o + 11) → T42 c = T38 c := fun c h => by rw [← eT42]; exact g1_ne h
  have hI43n : ∀ c j, c ≠ (o + 11) → I43 c j = I39 c j := fun c j h => by rw [← eI43, gr_row h]
  have hI43z : ∀ j, I43 (o + 11) j = 0 := fun j => by rw [← eI43, gr_at]
  have hR44n : ∀ c j, c ≠ (o + 11) → R44 c j = R41 c j := fun c j h => by rw [← eR44, gr_row h]
  have hR44z : ∀ j, R44 (o + 11) j = none := fun j => by rw [← eR44, gr_at]
  have hto := (hT42n o (by omega)).trans hto
  have hT1z := (hT42n (o + 1) (by omega)).trans hT1z
  have hT5z := (hT42n (o + 2) (by omega)).trans hT5z
  have hT9z := (hT42n (o + 3) (by omega)).trans hT9z
  have hT13z := (hT42n (o + 4) (by omega)).trans hT13z
  have hT17z := (hT42n (o + 5) (by omega)).trans hT17z
  have hT21z := (hT42n (o + 6) (by omega)).trans hT21z
  have hT25z := (hT42n (o + 7) (by omega)).trans hT25z
  have hT29z := (hT42n (o + 8) (by omega)).trans hT29z
  have hT34z := (hT42n (o + 9) (by omega)).trans hT34z
  have hT38z := (hT42n (o + 10) (by omega)).trans hT38z
  have hP : gP D cy B (o + 12) T42 I43 R44 H := hP
  refine g_putrF 14 25 X hK hP hS hto rfl hinRX12 tyX12 tyX12_ok nmX12 rfl (by decide) k47 (fun _ h => h) rfl hnm rfl (r := some (o + 11)) rfl rfl rfl dX12_init_97 (fun H locs hP hS => ?_)
  generalize eR45 : g2 R44 o 25 (some (o + 11)) = R45 at hP
  refine lv_aload_n X.1 X.2.1 dX12_init_100 rfl (lv_at hl 0 rfl) ?_
  refine g_getr 14 1 X hK hP hto rfl hinRX12 rfl (by decide) k9 (fun _ h => h) dX12_init_101 (show va_rf (R45 o 1) = .ref (o + 1) from by rw [(gs_neR eR45 (by omega) ((hR44n _ _ (by omega)).trans (gs_neR eR41 (by omega) ((hR40n _ _ (by omega)).trans (gs_neR eR37 (by omega) ((hR36n _ _ (by omega)).trans (gs_neR eR32 (by omega) ((hR31n _ _ (by omega)).trans (gs_neR eR28 (by omega) ((hR27n _ _ (by omega)).trans (gs_neR eR24 (by omega) ((hR23n _ _ (by omega)).trans (gs_neR eR20 (by omega) ((hR19n _ _ (by omega)).trans (gs_neR eR16 (by omega) ((hR15n _ _ (by omega)).trans (gs_neR eR12 (by omega) ((hR11n _ _ (by omega)).trans (gs_neR eR8 (by omega) ((hR7n _ _ (by omega)).trans (gs_atR eR4 (by omega) (by omega))))))))))))))))))))))]; rfl) ?_
  refine lv_bipush (v := 42) X.1 X.2.1 dX12_init_104 (by decide) ?_
  refine lv_iconst (v := (-1)) X.1 X.2.1 dX12_init_106 (by decide) ?_
  refine g_iast 42 X hK hP hS hT1z (gIx_of (show (42 : Int32) = nI 42 from rfl) (by omega) (by omega)) dX12_init_107 (fun H locs hP hS => ?_)
  generalize eI46 : g2 I43 (o + 1) 42 (-1) = I46 at hP
  refine lv_aload_n X.1 X.2.1 dX12_init_108 rfl (lv_at hl 0 rfl) ?_
  refine g_getr 14 1 X hK hP hto rfl hinRX12 rfl (by decide) k9 (fun _ h => h) dX12_init_109 (show va_rf (R45 o 1) = .ref (o + 1) from by rw [(gs_neR eR45 (by omega) ((hR44n _ _ (by omega)).trans (gs_neR eR41 (by omega) ((hR40n _ _ (by omega)).trans (gs_neR eR37 (by omega) ((hR36n _ _ (by omega)).trans (gs_neR eR32 (by omega) ((hR31n _ _ (by omega)).trans (gs_neR eR28 (by omega) ((hR27n _ _ (by omega)).trans (gs_neR eR24 (by omega) ((hR23n _ _ (by omega)).trans (gs_neR eR20 (by omega) ((hR19n _ _ (by omega)).trans (gs_neR eR16 (by omega) ((hR15n _ _ (by omega)).trans (gs_neR eR12 (by omega) ((hR11n _ _ (by omega)).trans (gs_neR eR8 (by omega) ((hR7n _ _ (by omega)).trans (gs_atR eR4 (by omega) (by omega))))))))))))))))))))))]; rfl) ?_
  refine lv_iconst (v := 0) X.1 X.2.1 dX12_init_112 (by decide) ?_
  refine lv_bipush (v := 100) X.1 X.2.1 dX12_init_113 (by decide) ?_
  refine g_iast 0 X hK hP hS hT1z (gIx_of (show (0 : Int32) = nI 0 from rfl) (by omega) (by omega)) dX12_init_115 (fun H locs hP hS => ?_)
  generalize eI47 : g2 I46 (o + 1) 0 100 = I47 at hP
  have hM : gMod o T42 R45 := by
    refine ⟨fun k t hk => ?_, fun j k hjk => ?_⟩
    · rcases (show k = 0 ∨ k = 1 ∨ k = 2 ∨ k = 3 ∨ k = 4 ∨ k = 5 ∨ k = 6 ∨ k = 7 ∨ k = 8 ∨ k = 9 ∨ k = 10 ∨ k = 11 from by have h9 := (List.getElem?_eq_some_iff.mp hk).1; have h8 : mTl.length = 12 := rfl; omega) with rfl | rfl | rfl | rfl | rfl | rfl | rfl | rfl | rfl | rfl | rfl | rfl
      · cases hk; exact hto
      · cases hk; exact hT1z
      · cases hk; exact hT5z
      · cases hk; exact hT9z
      · cases hk; exact hT13z
      · cases hk; exact hT17z
      · cases hk; exact hT21z
      · cases hk; exact hT25z
      · cases hk; exact hT29z
      · cases hk; exact hT34z
      · cases hk; exact hT38z
      · cases hk; exact hT42z
    · simp only [mRl, List.mem_cons, Prod.mk.injEq, List.not_mem_nil, or_false] at hjk
      rcases hjk with ⟨rfl, rfl⟩ | ⟨rfl, rfl⟩ | ⟨rfl, rfl⟩ | ⟨rfl, rfl⟩ | ⟨rfl, rfl⟩ | ⟨rfl, rfl⟩ | ⟨rfl, rfl⟩ | ⟨rfl, rfl⟩ | ⟨rfl, rfl⟩ | ⟨rfl, rfl⟩ | ⟨rfl, rfl⟩
      · exact (gs_neR eR45 (by omega) ((hR44n _ _ (by omega)).trans (gs_neR eR41 (by omega) ((hR40n _ _ (by omega)).trans (gs_neR eR37 (by omega) ((hR36n _ _ (by omega)).trans (gs_neR eR32 (by omega) ((hR31n _ _ (by omega)).trans (gs_neR eR28 (by omega) ((hR27n _ _ (by omega)).trans (gs_neR eR24 (by omega) ((hR23n _ _ (by omega)).trans (gs_neR eR20 (by omega) ((hR19n _ _ (by omega)).trans (gs_neR eR16 (by omega) ((hR15n _ _ (by omega)).trans (gs_neR eR12 (by omega) ((hR11n _ _ (by omega)).trans (gs_neR eR8 (by omega) ((hR7n _ _ (by omega)).trans (gs_atR eR4 (by omega) (by omega))))))))))))))))))))))
      · exact (gs_neR eR45 (by omega) ((hR44n _ _ (by omega)).trans (gs_neR eR41 (by omega) ((hR40n _ _ (by omega)).trans (gs_neR eR37 (by omega) ((hR36n _ _ (by omega)).trans (gs_neR eR32 (by omega) ((hR31n _ _ (by omega)).trans (gs_neR eR28 (by omega) ((hR27n _ _ (by omega)).trans (gs_neR eR24 (by omega) ((hR23n _ _ (by omega)).trans (gs_neR eR20 (by omega) ((hR19n _ _ (by omega)).trans (gs_neR eR16 (by omega) ((hR15n _ _ (by omega)).trans (gs_neR eR12 (by omega) ((hR11n _ _ (by omega)).trans (gs_atR eR8 (by omega) (by omega))))))))))))))))))))
      · exact (gs_neR eR45 (by omega) ((hR44n _ _ (by omega)).trans (gs_neR eR41 (by omega) ((hR40n _ _ (by omega)).trans (gs_neR eR37 (by omega) ((hR36n _ _ (by omega)).trans (gs_neR eR32 (by omega) ((hR31n _ _ (by omega)).trans (gs_neR eR28 (by omega) ((hR27n _ _ (by omega)).trans (gs_neR eR24 (by omega) ((hR23n _ _ (by omega)).trans (gs_neR eR20 (by omega) ((hR19n _ _ (by omega)).trans (gs_neR eR16 (by omega) ((hR15n _ _ (by omega)).trans (gs_atR eR12 (by omega) (by omega))))))))))))))))))
      · exact (gs_neR eR45 (by omega) ((hR44n _ _ (by omega)).trans (gs_neR eR41 (by omega) ((hR40n _ _ (by omega)).trans (gs_neR eR37 (by omega) ((hR36n _ _ (by omega)).trans (gs_neR eR32 (by omega) ((hR31n _ _ (by omega)).trans (gs_neR eR28 (by omega) ((hR27n _ _ (by omega)).trans (gs_neR eR24 (by omega) ((hR23n _ _ (by omega)).trans (gs_neR eR20 (by omega) ((hR19n _ _ (by omega)).trans (gs_atR eR16 (by omega) (by omega))))))))))))))))
      · exact (gs_neR eR45 (by omega) ((hR44n _ _ (by omega)).trans (gs_neR eR41 (by omega) ((hR40n _ _ (by omega)).trans (gs_neR eR37 (by omega) ((hR36n _ _ (by omega)).trans (gs_neR eR32 (by omega) ((hR31n _ _ (by omega)).trans (gs_neR eR28 (by omega) ((hR27n _ _ (by omega)).trans (gs_neR eR24 (by omega) ((hR23n _ _ (by omega)).trans (gs_atR eR20 (by omega) (by omega))))))))))))))
      · exact (gs_neR eR45 (by omega) ((hR44n _ _ (by omega)).trans (gs_neR eR41 (by omega) ((hR40n _ _ (by omega)).trans (gs_neR eR37 (by omega) ((hR36n _ _ (by omega)).trans (gs_neR eR32 (by omega) ((hR31n _ _ (by omega)).trans (gs_neR eR28 (by omega) ((hR27n _ _ (by omega)).trans (gs_atR eR24 (by omega) (by omega))))))))))))
      · exact (gs_neR eR45 (by omega) ((hR44n _ _ (by omega)).trans (gs_neR eR41 (by omega) ((hR40n _ _ (by omega)).trans (gs_neR eR37 (by omega) ((hR36n _ _ (by omega)).trans (gs_neR eR32 (by omega) ((hR31n _ _ (by omega)).trans (gs_atR eR28 (by omega) (by omega))))))))))
      · exact (gs_neR eR45 (by omega) ((hR44n _ _ (by omega)).trans (gs_neR eR41 (by omega) ((hR40n _ _ (by omega)).trans (gs_neR eR37 (by omega) ((hR36n _ _ (by omega)).trans (gs_atR eR32 (by omega) (by omega))))))))
      · exact (gs_neR eR45 (by omega) ((hR44n _ _ (by omega)).trans (gs_neR eR41 (by omega) ((hR40n _ _ (by omega)).trans (gs_atR eR37 (by omega) (by omega))))))
      · exact (gs_neR eR45 (by omega) ((hR44n _ _ (by omega)).trans (gs_atR eR41 (by omega) (by omega))))
      · exact (gs_atR eR45 (by omega) (by omega))
  have hI9 : ∀ c j, c < o → I47 c j = I c j := fun c j h => gs_ne eI47 (by omega) (gs_ne eI46 (by omega) ((hI43n _ _ (by omega)).trans ((hI39n _ _ (by omega)).trans ((hI35n _ _ (by omega)).trans (gs_ne eI33 (by omega) ((hI30n _ _ (by omega)).trans ((hI26n _ _ (by omega)).trans ((hI22n _ _ (by omega)).trans ((hI18n _ _ (by omega)).trans ((hI14n _ _ (by omega)).trans ((hI10n _ _ (by omega)).trans ((hI6n _ _ (by omega)).trans ((hI2n _ _ (by omega)).trans (rfl))))))))))))))
  have hR9 : ∀ c j, c < o → R45 c j = R c j := fun c j h => gs_neR eR45 (by omega) ((hR44n _ _ (by omega)).trans (gs_neR eR41 (by omega) ((hR40n _ _ (by omega)).trans (gs_neR eR37 (by omega) ((hR36n _ _ (by omega)).trans (gs_neR eR32 (by omega) ((hR31n _ _ (by omega)).trans (gs_neR eR28 (by omega) ((hR27n _ _ (by omega)).trans (gs_neR eR24 (by omega) ((hR23n _ _ (by omega)).trans (gs_neR eR20 (by omega) ((hR19n _ _ (by omega)).trans (gs_neR eR16 (by omega) ((hR15n _ _ (by omega)).trans (gs_neR eR12 (by omega) ((hR11n _ _ (by omega)).trans (gs_neR eR8 (by omega) ((hR7n _ _ (by omega)).trans (gs_neR eR4 (by omega) ((hR3n _ _ (by omega)).trans (rfl))))))))))))))))))))))
  have hT9 : ∀ c, c < o → T42 c = T c := fun c h => (hT42n _ (by omega)).trans ((hT38n _ (by omega)).trans ((hT34n _ (by omega)).trans ((hT29n _ (by omega)).trans ((hT25n _ (by omega)).trans ((hT21n _ (by omega)).trans ((hT17n _ (by omega)).trans ((hT13n _ (by omega)).trans ((hT9n _ (by omega)).trans ((hT5n _ (by omega)).trans ((hT1n _ (by omega)).trans (rfl)))))))))))
  have hz0 : ∀ j, ¬ j = 17 → I47 o j = 0 := fun j hj => gs_ne eI47 (by omega) (gs_ne eI46 (by omega) ((hI43n _ _ (by omega)).trans ((hI39n _ _ (by omega)).trans ((hI35n _ _ (by omega)).trans (gs_ne eI33 (by omega) ((hI30n _ _ (by omega)).trans ((hI26n _ _ (by omega)).trans ((hI22n _ _ (by omega)).trans ((hI18n _ _ (by omega)).trans ((hI14n _ _ (by omega)).trans ((hI10n _ _ (by omega)).trans ((hI6n _ _ (by omega)).trans ((hI2n _ _ (by omega)).trans (h0 j))))))))))))))
  have hz1 : ∀ j, ¬ j = 0 → ¬ j = 42 → I47 (o + 1) j = 0 := fun j h1 h2 => gs_ne eI47 (by omega) (gs_ne eI46 (by omega) (((hI43n _ _ (by omega)).trans ((hI39n _ _ (by omega)).trans ((hI35n _ _ (by omega)).trans (gs_ne eI33 (by omega) ((hI30n _ _ (by omega)).trans ((hI26n _ _ (by omega)).trans ((hI22n _ _ (by omega)).trans ((hI18n _ _ (by omega)).trans ((hI14n _ _ (by omega)).trans ((hI10n _ _ (by omega)).trans ((hI6n _ _ (by omega)).trans (hI2z j))))))))))))))
  have hzz : ∀ b j, b < 12 → ¬ (b = 0 ∧ j = 17) → ¬ (b = 1 ∧ (j = 0 ∨ j = 42)) → I47 (o + b) j = 0 := fun b j hb g1 g2 => by
    rcases (show b = 0 ∨ b = 1 ∨ b = 2 ∨ b = 3 ∨ b = 4 ∨ b = 5 ∨ b = 6 ∨ b = 7 ∨ b = 8 ∨ b = 9 ∨ b = 10 ∨ b = 11 by omega) with rfl | rfl | rfl | rfl | rfl | rfl | rfl | rfl | rfl | rfl | rfl | rfl
    · exact hz0 j (by omega)
    · exact hz1 j (by omega) (by omega)
    · exact (gs_ne eI47 (by omega) (gs_ne eI46 (by omega) ((hI43n _ _ (by omega)).trans ((hI39n _ _ (by omega)).trans ((hI35n _ _ (by omega)).trans (gs_ne eI33 (by omega) ((hI30n _ _ (by omega)).trans ((hI26n _ _ (by omega)).trans ((hI22n _ _ (by omega)).trans ((hI18n _ _ (by omega)).trans ((hI14n _ _ (by omega)).trans ((hI10n _ _ (by omega)).trans (hI6z j)))))))))))))
    · exact (gs_ne eI47 (by omega) (gs_ne eI46 (by omega) ((hI43n _ _ (by omega)).trans ((hI39n _ _ (by omega)).trans ((hI35n _ _ (by omega)).trans (gs_ne eI33 (by omega) ((hI30n _ _ (by omega)).trans ((hI26n _ _ (by omega)).trans ((hI22n _ _ (by omega)).trans ((hI18n _ _ (by omega)).trans ((hI14n _ _ (by omega)).trans (hI10z j))))))))))))
    · exact (gs_ne eI47 (by omega) (gs_ne eI46 (by omega) ((hI43n _ _ (by omega)).trans ((hI39n _ _ (by omega)).trans ((hI35n _ _ (by omega)).trans (gs_ne eI33 (by omega) ((hI30n _ _ (by omega)).trans ((hI26n _ _ (by omega)).trans ((hI22n _ _ (by omega)).trans ((hI18n _ _ (by omega)).trans (hI14z j)))))))))))
    · exact (gs_ne eI47 (by omega) (gs_ne eI46 (by omega) ((hI43n _ _ (by omega)).trans ((hI39n _ _ (by omega)).trans ((hI35n _ _ (by omega)).trans (gs_ne eI33 (by omega) ((hI30n _ _ (by omega)).trans ((hI26n _ _ (by omega)).trans ((hI22n _ _ (by omega)).trans (hI18z j))))))))))
    · exact (gs_ne eI47 (by omega) (gs_ne eI46 (by omega) ((hI43n _ _ (by omega)).trans ((hI39n _ _ (by omega)).trans ((hI35n _ _ (by omega)).trans (gs_ne eI33 (by omega) ((hI30n _ _ (by omega)).trans ((hI26n _ _ (by omega)).trans (hI22z j)))))))))
    · exact (gs_ne eI47 (by omega) (gs_ne eI46 (by omega) ((hI43n _ _ (by omega)).trans ((hI39n _ _ (by omega)).trans ((hI35n _ _ (by omega)).trans (gs_ne eI33 (by omega) ((hI30n _ _ (by omega)).trans (hI26z j))))))))
    · exact (gs_ne eI47 (by omega) (gs_ne eI46 (by omega) ((hI43n _ _ (by omega)).trans ((hI39n _ _ (by omega)).trans ((hI35n _ _ (by omega)).trans (gs_ne eI33 (by omega) (hI30z j)))))))
    · exact (gs_ne eI47 (by omega) (gs_ne eI46 (by omega) ((hI43n _ _ (by omega)).trans ((hI39n _ _ (by omega)).trans (hI35z j)))))
    · exact (gs_ne eI47 (by omega) (gs_ne eI46 (by omega) ((hI43n _ _ (by omega)).trans (hI39z j))))
    · exact (gs_ne eI47 (by omega) (gs_ne eI46 (by omega) (hI43z j)))
  exact g_vret (f := fun u => u) ((o + 12), T42, I47, R45) X hr hlk hK hP hS dX12_init_116 ⟨T42, I47, R45, rfl, hM, hzz, ⟨(gs_ne eI47 (by omega) (gs_ne eI46 (by omega) ((hI43n _ _ (by omega)).trans ((hI39n _ _ (by omega)).trans ((hI35n _ _ (by omega)).trans (gs_same eI33)))))), (gs_same eI47), (gs_ne eI47 (by omega) (gs_same eI46))⟩, hT9, hI9, hR9⟩

end QK