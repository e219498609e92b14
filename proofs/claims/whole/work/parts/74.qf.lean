section QF
variable {l : Launch} {s0 : State} {D : va_G} {cy : Nat → ClassId} {B z : Nat} {T : Nat → Nat × Nat} {I : Nat → Nat → Int32} {R : Nat → Nat → Option Nat} {rd tc a : Nat} {tp : Nat → Nat} {n pl : Nat} {cs : Cls} {pd : List Nat}
def gNst (s0 : State) : Prop := gWs s0 [.methodLinkNest RX11 11 yX4_init "BarrowPlank", .methodLinkNest RX10 52 yX8_init "BarrowPlank", .methodLinkNest RX11 31 yX5_init "BarrowPlank", .methodLinkNest RX5 30 yX4_init "BarrowPlank"]
set_option maxHeartbeats 4000000 in
set_option maxRecDepth 100000 in
/-- n_site -/
theorem n_site (hta : T a = (6 + 8, 0)) (hza : z = a + 1) (h6 : I a 6 = 0) (h7 : I a 7 = 0) : Met l yX4_init wsX4_init ({ frames := 1, cells := 4, slots := 130, locals := 21 }) (va_Pc [.ref a] (gW0 s0 D cy B (z, T, I, R))) (va_Qv (fun u => ∃ T' I' R', u = (a + 5, T', I', R') ∧ cSt a T' R' ∧ cSr a I' [] [] ∧ (I' a 0 = 1 ∧ I' a 1 = 2) ∧ (∀ c, c < a → T' c = T c) ∧ (∀ c j, c < a → I' c j = I c j) ∧ ∀ c j, c < a → R' c j = R c j) (fun u t => gW1 D cy B u t) (gA B)) 4 130 (gA B) := by
  refine g_met (maxL := 1) (ret := none) (by decide) rfl (Nat.le_of_ble_eq_true rfl) (fun p e s m args below meth c ls X hr hlk hnm hK hP hC hS hl => ?_)
  have hl : lv_has ls 1 [(0, .ref a)] := hl
  have hP : gP D cy B z T I R s.heap := hP
  have hB : B ≤ s.heap.size := by rw [hP.1]; exact hP.2.1
  have hinRX4 : ∀ w ∈ wsX40, w ∈ wsX4_init := fun _ h => List.mem_cons_of_mem _ (List.mem_append_right _ h)
  have k9 : Cond.fieldLink RX4 9 "BarrowPlank$Site" "tire" "I" ∈ wsX4_init := by decide +kernel
  have k15 : Cond.fieldLink RX4 15 "BarrowPlank$Site" "shovel" "I" ∈ wsX4_init := by decide +kernel
  have k18 : Cond.fieldLink RX4 18 "BarrowPlank$Site" "words" "[I" ∈ wsX4_init := by decide +kernel
  have k22 : Cond.fieldLink RX4 22 "BarrowPlank$Site" "numbers" "[I" ∈ wsX4_init := by decide +kernel
  have k25 : Cond.fieldLink RX4 25 "BarrowPlank$Site" "ends" "[I" ∈ wsX4_init := by decide +kernel
  have k28 : Cond.fieldLink RX4 28 "BarrowPlank$Site" "codes" "[I" ∈ wsX4_init := by decide +kernel
  obtain rfl : z = a + 1 := hza
  refine lv_aload_n X.1 X.2.1 dX4_init_0 rfl (lv_at hl 0 rfl) ?_
  refine g_oinit X hl.1 (by decide +kernel) (by decide +kernel) (by decide +kernel) (Nat.le_of_ble_eq_true rfl) (Nat.le_of_ble_eq_true rfl) (Nat.le_of_ble_eq_true rfl) dX4_init_1 ?_
  refine lv_aload_n X.1 X.2.1 dX4_init_4 rfl (lv_at hl 0 rfl) ?_
  refine lv_iconst (v := 1) X.1 X.2.1 dX4_init_5 (by decide) ?_
  refine g_puti 6 0 X hK hP hS hta rfl hinRX4 tyX4 tyX4_ok nmX4 rfl (by decide) k9 (fun _ h => h) rfl rfl rfl dX4_init_6 (fun H locs hP hS => ?_)
  generalize eI1 : g2 I a 0 1 = I1 at hP
  refine lv_aload_n X.1 X.2.1 dX4_init_9 rfl (lv_at hl 0 rfl) ?_
  refine lv_iconst (v := 2) X.1 X.2.1 dX4_init_10 (by decide) ?_
  refine g_puti 6 1 X hK hP hS hta rfl hinRX4 tyX4 tyX4_ok nmX4 rfl (by decide) k15 (fun _ h => h) rfl rfl rfl dX4_init_11 (fun H locs hP hS => ?_)
  generalize eI2 : g2 I1 a 1 2 = I2 at hP
  refine lv_aload_n X.1 X.2.1 dX4_init_14 rfl (lv_at hl 0 rfl) ?_
  refine lv_bipush (v := 10) X.1 X.2.1 dX4_init_15 (by decide) ?_
  refine g_newarr (k := 1) (t0 := 0) X hK hP hS (atype := .int) (by decide +kernel) rfl rfl (N := 10) (fun T I R a h => gE_int h) rfl (by decide) (by decide) (Nat.le_of_ble_eq_true rfl) (Nat.le_of_ble_eq_true rfl) dX4_init_17 (fun H hP hS => ?_)
  generalize eT3 : g1 T (a + 1) (1, 10) = T3 at hP
  generalize eI4 : gr I2 (a + 1) (fun _ => 0) = I4 at hP
  generalize eR5 : gr R (a + 1) (fun _ => none) = R5 at hP
  have hT3z : T3 (a + 1) = (1, 10) := by rw [← eT3]; exact g1_same
  have hT3n : ∀ c, c ≠ (a + 1) → T3 c = T c := fun c h => by rw [← eT3]; exact g1_ne h
  have hI4n : ∀ c j, c ≠ (a + 1) → I4 c j = I2 c j := fun c j h => by rw [← eI4, gr_row h]
  have hI4z : ∀ j, I4 (a + 1) j = 0 := fun j => by rw [← eI4, gr_at]
  have hR5n : ∀ c j, c ≠ (a + 1) → R5 c j = R c j := fun c j h => by rw [← eR5, gr_row h]
  have hR5z : ∀ j, R5 (a + 1) j = none := fun j => by rw [← eR5, gr_at]
  have hta := (hT3n a (by omega)).trans hta
  have hP : gP D cy B (a + 2) T3 I4 R5 H := hP
  refine g_putrF 6 2 X hK hP hS hta rfl hinRX4 tyX4 tyX4_ok nmX4 rfl (by decide) k18 (fun _ h => h) rfl hnm rfl (r := some (a + 1)) rfl rfl rfl dX4_init_19 (fun H locs hP hS => ?_)
  generalize eR6 : g2 R5 a 2 (some (a + 1)) = R6 at hP
  refine lv_aload_n X.1 X.2.1 dX4_init_22 rfl (lv_at hl 0 rfl) ?_
  refine lv_bipush (v := 10) X.1 X.2.1 dX4_init_23 (by decide) ?_
  refine g_newarr (k := 1) (t0 := 0) X hK hP hS (atype := .int) (by decide +kernel) rfl rfl (N := 10) (fun T I R a h => gE_int h) rfl (by decide) (by decide) (Nat.le_of_ble_eq_true rfl) (Nat.le_of_ble_eq_true rfl) dX4_init_25 (fun H hP hS => ?_)
  generalize eT7 : g1 T3 (a + 2) (1, 10) = T7 at hP
  generalize eI8 : gr I4 (a + 2) (fun _ => 0) = I8 at hP
  generalize eR9 : gr R6 (a + 2) (fun _ => none) = R9 at hP
  have hT7z : T7 (a + 2) = (1, 10) := by rw [← eT7]; exact g1_same
  have hT7n : ∀ c, c ≠ (a + 2) → T7 c = T3 c := fun c h => by rw [← eT7]; exact g1_ne h
  have hI8n : ∀ c j, c ≠ (a + 2) → I8 c j = I4 c j := fun c j h => by rw [← eI8, gr_row h]
  have hI8z : ∀ j, I8 (a + 2) j = 0 := fun j => by rw [← eI8, gr_at]
  have hR9n : ∀ c j, c ≠ (a + 2) → R9 c j = R6 c j := fun c j h => by rw [← eR9, gr_row h]
  have hR9z : ∀ j, R9 (a + 2) j = none := fun j => by rw [← eR9, gr_at]
  have hta := (hT7n a (by omega)).trans hta
  have hT3z := (hT7n (a + 1) (by omega)).trans hT3z
  have hP : gP D cy B (a + 3) T7 I8 R9 H := hP
  refine g_putrF 6 3 X hK hP hS hta rfl hinRX4 tyX4 tyX4_ok nmX4 rfl (by decide) k22 (fun _ h => h) rfl hnm rfl (r := some (a + 2)) rfl rfl rfl dX4_init_27 (fun H locs hP hS => ?_)
  generalize eR10 : g2 R9 a 3 (some (a + 2)) = R10 at hP
  refine lv_aload_n X.1 X.2.1 dX4_init_30 rfl (lv_at hl 0 rfl) ?_
  refine lv_bipush (v := 10) X.1 X.2.1 dX4_init_31 (by decide) ?_
  refine g_newarr (k := 1) (t0 := 0) X hK hP hS (atype := .int) (by decide +kernel) rfl rfl (N := 10) (fun T I R a h => gE_int h) rfl (by decide) (by decide) (Nat.le_of_ble_eq_true rfl) (Nat.le_of_ble_eq_true rfl) dX4_init_33 (fun H hP hS => ?_)
  generalize eT11 : g1 T7 (a + 3) (1, 10) = T11 at hP
  generalize eI12 : gr I8 (a + 3) (fun _ => 0) = I12 at hP
  generalize eR13 : gr R10 (a + 3) (fun _ => none) = R13 at hP
  have hT11z : T11 (a + 3) = (1, 10) := by rw [← eT11]; exact g1_same
  have hT11n : ∀ c, c ≠ (a + 3) → T11 c = T7 c := fun c h => by rw [← eT11]; exact g1_ne h
  have hI12n : ∀ c j, c ≠ (a + 3) → I12 c j = I8 c j := fun c j h => by rw [← eI12, gr_row h]
  have hI12z : ∀ j, I12 (a + 3) j = 0 := fun j => by rw [← eI12, gr_at]
  have hR13n : ∀ c j, c ≠ (a + 3) → R13 c j = R10 c j := fun c j h => by rw [← eR13, gr_row h]
  have hR13z : ∀ j, R13 (a + 3) j = none := fun j => by rw [← eR13, gr_at]
  have hta := (hT11n a (by omega)).trans hta
  have hT3z := (hT11n (a + 1) (by omega)).trans hT3z
  have hT7z := (hT11n (a + 2) (by omega)).trans hT7z
  have hP : gP D cy B (a + 4) T11 I12 R13 H := hP
  refine g_putrF 6 4 X hK hP hS hta rfl hinRX4 tyX4 tyX4_ok nmX4 rfl (by decide) k25 (fun _ h => h) rfl hnm rfl (r := some (a + 3)) rfl rfl rfl dX4_init_35 (fun H locs hP hS => ?_)
  generalize eR14 : g2 R13 a 4 (some (a + 3)) = R14 at hP
  refine lv_aload_n X.1 X.2.1 dX4_init_38 rfl (lv_at hl 0 rfl) ?_
  refine lv_bipush (v := 100) X.1 X.2.1 dX4_init_39 (by decide) ?_
  refine g_newarr (k := 1) (t0 := 0) X hK hP hS (atype := .int) (by decide +kernel) rfl rfl (N := 100) (fun T I R a h => gE_int h) rfl (by decide) (by decide) (Nat.le_of_ble_eq_true rfl) (Nat.le_of_ble_eq_true rfl) dX4_init_41 (fun H hP hS => ?_)
  generalize eT15 : g1 T11 (a + 4) (1, 100) = T15 at hP
  generalize eI16 : gr I12 (a + 4) (fun _ => 0) = I16 at hP
  generalize eR17 : gr R14 (a + 4) (fun _ => none) = R17 at hP
  have hT15z : T15 (a + 4) = (1, 100) := by rw [← eT15]; exact g1_same
  have hT15n : ∀ c, c ≠ (a + 4) → T15 c = T11 c := fun c h => by rw [← eT15]; exact g1_ne h
  have hI16n : ∀ c j, c ≠ (a + 4) → I16 c j = I12 c j := fun c j h => by rw [← eI16, gr_row h]
  have hI16z : ∀ j, I16 (a + 4) j = 0 := fun j => by rw [← eI16, gr_at]
  have hR17n : ∀ c j, c ≠ (a + 4) → R17 c j = R14 c j := fun c j h => by rw [← eR17, gr_row h]
  have hR17z : ∀ j, R17 (a + 4) j = none := fun j => by rw [← eR17, gr_at]
  have hta := (hT15n a (by omega)).trans hta
  have hT3z := (hT15n (a + 1) (by omega)).trans hT3z
  have hT7z := (hT15n (a + 2) (by omega)).trans hT7z
  have hT11z := (hT15n (a + 3) (by omega)).trans hT11z
  have hP : gP D cy B (a + 5) T15 I16 R17 H := hP
  refine g_putrF 6 5 X hK hP hS hta rfl hinRX4 tyX4 tyX4_ok nmX4 rfl (by decide) k28 (fun _ h => h) rfl hnm rfl (r := some (a + 4)) rfl rfl rfl dX4_init_43 (fun H locs hP hS => ?_)
  generalize eR18 : g2 R17 a 5 (some (a + 4)) = R18 at hP
  have hI9 : ∀ c j, c < a → I16 c j = I c j := fun c j h => (hI16n _ _ (by omega)).trans ((hI12n _ _ (by omega)).trans ((hI8n _ _ (by omega)).trans ((hI4n _ _ (by omega)).trans (gs_ne eI2 (by omega) (gs_ne eI1 (by omega) (rfl))))))
  have hR9 : ∀ c j, c < a → R18 c j = R c j := fun c j h => gs_neR eR18 (by omega) ((hR17n _ _ (by omega)).trans (gs_neR eR14 (by omega) ((hR13n _ _ (by omega)).trans (gs_neR eR10 (by omega) ((hR9n _ _ (by omega)).trans (gs_neR eR6 (by omega) ((hR5n _ _ (by omega)).trans (rfl))))))))
  have hT9 : ∀ c, c < a → T15 c = T c := fun c h => (hT15n _ (by omega)).trans ((hT11n _ (by omega)).trans ((hT7n _ (by omega)).trans ((hT3n _ (by omega)).trans (rfl))))
  have h06 : I16 a 6 = 0 := (((hI16n _ _ (by omega)).trans ((hI12n _ _ (by omega)).trans ((hI8n _ _ (by omega)).trans ((hI4n _ _ (by omega)).trans (gs_ne eI2 (by omega) (gs_ne eI1 (by omega) h6)))))))
  have h07 : I16 a 7 = 0 := (((hI16n _ _ (by omega)).trans ((hI12n _ _ (by omega)).trans ((hI8n _ _ (by omega)).trans ((hI4n _ _ (by omega)).trans (gs_ne eI2 (by omega) (gs_ne eI1 (by omega) h7)))))))
  have h00 : I16 a 0 = 1 := (((hI16n _ _ (by omega)).trans ((hI12n _ _ (by omega)).trans ((hI8n _ _ (by omega)).trans ((hI4n _ _ (by omega)).trans (gs_ne eI2 (by omega) (gs_same eI1)))))))
  have h01 : I16 a 1 = 2 := (((hI16n _ _ (by omega)).trans ((hI12n _ _ (by omega)).trans ((hI8n _ _ (by omega)).trans ((hI4n _ _ (by omega)).trans (gs_same eI2))))))
  have hst : cSt a T15 R18 := ⟨hta, hT3z, hT7z, hT11z, hT15z, (gs_neR eR18 (by omega) ((hR17n _ _ (by omega)).trans (gs_neR eR14 (by omega) ((hR13n _ _ (by omega)).trans (gs_neR eR10 (by omega) ((hR9n _ _ (by omega)).trans (gs_atR eR6 (by omega) (by omega)))))))), (gs_neR eR18 (by omega) ((hR17n _ _ (by omega)).trans (gs_neR eR14 (by omega) ((hR13n _ _ (by omega)).trans (gs_atR eR10 (by omega) (by omega)))))), (gs_neR eR18 (by omega) ((hR17n _ _ (by omega)).trans (gs_atR eR14 (by omega) (by omega)))), (gs_atR eR18 (by omega) (by omega))⟩
  have hsr : cSr a I16 [] [] := ⟨by simp, by simp [coC], h06, h07, fun k hk => absurd hk (Nat.not_lt_zero _), fun k hk => absurd hk (Nat.not_lt_zero _), fun x hx => absurd hx List.not_mem_nil, fun x hx => absurd hx List.not_mem_nil⟩
  exact g_vret (f := fun u => u) ((a + 5), T15, I16, R18) X hr hlk hK hP hS dX4_init_46 ⟨T15, I16, R18, rfl, hst, hsr, ⟨h00, h01⟩, hT9, hI9, hR9⟩

end QF