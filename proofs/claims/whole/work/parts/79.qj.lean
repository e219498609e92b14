section QJ
variable {l : Launch} {s0 : State} {D : va_G} {cy : Nat → ClassId} {B z : Nat} {T : Nat → Nat × Nat} {I : Nat → Nat → Int32} {R : Nat → Nat → Option Nat} {w a b q o : Nat} {ad : Nat → Nat} {C E lc : Nat}
set_option maxHeartbeats 4000000 in
set_option maxRecDepth 100000 in
/-- n_top -/
theorem n_top (hBx : gBx s0 B ad C E) (hNst : gNst s0) (hAr : gAr s0) (htq : T q = (13 + 8, 0)) (hzq : z = q + 1) (h0 : ∀ j, I q j = 0) : Met l yX11_init wsX11_init ({ frames := 4, cells := 52, slots := 754, locals := 81 }) (va_Pc [.ref q] (gW0 s0 D cy B (z, T, I, R))) (va_Qv (fun u => ∃ T' I' R', u = (q + 53, T', I', R') ∧ cTop q (q + 6) (q + 21) (q + 36) T' R' ∧ (cSt (q + 1) T' R' ∧ cSr (q + 1) I' [] [] ∧ I' (q + 1) 0 = 1 ∧ I' (q + 1) 1 = 2) ∧ ((R' (q + 6) 12 = some (q + 1) ∧ (∀ k, k < 4 → R' (q + 6 + 5) k = none) ∧ (∀ c j, q + 6 ≤ c → c < q + 6 + 15 → ¬ (c = q + 6 ∧ j = 8) → I' c j = 0) ∧ I' (q + 6) 8 = 100) ∧ (R' (q + 21) 12 = some (q + 1) ∧ (∀ k, k < 4 → R' (q + 21 + 5) k = none) ∧ (∀ c j, q + 21 ≤ c → c < q + 21 + 15 → ¬ (c = q + 21 ∧ j = 8) → I' c j = 0) ∧ I' (q + 21) 8 = 100) ∧ (R' (q + 36) 12 = some (q + 1) ∧ (∀ k, k < 4 → R' (q + 36 + 5) k = none) ∧ (∀ c j, q + 36 ≤ c → c < q + 36 + 15 → ¬ (c = q + 36 ∧ j = 8) → I' c j = 0) ∧ I' (q + 36) 8 = 100)) ∧ cLs (q + 52) E ad T' I' R' [] ∧ I' q 5 = 0 ∧ (∀ c, c < q → T' c = T c) ∧ (∀ c j, c < q → I' c j = I c j) ∧ ∀ c j, c < q → R' c j = R c j) (fun u t => gW1 D cy B u t) (gA B)) 52 754 (gA B) := by
  refine g_met (maxL := 2) (ret := none) (by decide) rfl (Nat.le_of_ble_eq_true rfl) (fun p e s m args below meth c ls X hr hlk hnm hK hP hC hS hl => ?_)
  have hl : lv_has ls 2 [(0, .ref q)] := hl
  have hP : gP D cy B z T I R s.heap := hP
  have hB : B ≤ s.heap.size := by rw [hP.1]; exact hP.2.1
  have hinRJx4a65c : ∀ w ∈ wsJx4a65c0, w ∈ wsX11_init := fun _ h => List.mem_cons_of_mem _ (List.mem_append_left _ (List.mem_append_right _ h))
  have hinRX10 : ∀ w ∈ wsX100, w ∈ wsX11_init := fun _ h => List.mem_cons_of_mem _ (List.mem_append_left _ (List.mem_append_left _ (List.mem_append_left _ (List.mem_append_left _ (List.mem_append_right _ h)))))
  have hinRX11 : ∀ w ∈ wsX110, w ∈ wsX11_init := fun _ h => List.mem_cons_of_mem _ (List.mem_append_left _ (List.mem_append_left _ (List.mem_append_left _ (List.mem_append_right _ h))))
  have hinRX4 : ∀ w ∈ wsX40, w ∈ wsX11_init := fun _ h => List.mem_cons_of_mem _ (List.mem_append_left _ (List.mem_append_left _ (List.mem_append_left _ (List.mem_append_left _ (List.mem_append_left _ (List.mem_append_right _ h))))))
  have hinRX5 : ∀ w ∈ wsX50, w ∈ wsX11_init := fun _ h => List.mem_cons_of_mem _ (List.mem_append_left _ (List.mem_append_left _ (List.mem_append_right _ h)))
  have k17 : Cond.fieldLink RX11 17 "BarrowPlank" "now" "LBarrowPlank$Works;" ∈ wsX11_init := by decide +kernel
  have k23 : Cond.fieldLink RX11 23 "BarrowPlank" "kept" "LBarrowPlank$Works;" ∈ wsX11_init := by decide +kernel
  have k26 : Cond.fieldLink RX11 26 "BarrowPlank" "trial" "LBarrowPlank$Works;" ∈ wsX11_init := by decide +kernel
  have k32 : Cond.fieldLink RX11 32 "BarrowPlank" "reader" "LBarrowPlank$SiteReader;" ∈ wsX11_init := by decide +kernel
  have k39 : Cond.fieldLink RX11 39 "BarrowPlank" "bodies" "Ljava/util/ArrayList;" ∈ wsX11_init := by decide +kernel
  have k43 : Cond.fieldLink RX11 43 "BarrowPlank" "imaged" "Z" ∈ wsX11_init := by decide +kernel
  obtain rfl : z = q + 1 := hzq
  refine lv_aload_n X.1 X.2.1 dX11_init_0 rfl (lv_at hl 0 rfl) ?_
  refine g_oinit X hl.1 (by decide +kernel) (by decide +kernel) (by decide +kernel) (Nat.le_of_ble_eq_true rfl) (Nat.le_of_ble_eq_true rfl) (Nat.le_of_ble_eq_true rfl) dX11_init_1 ?_
  refine g_new 6 X hK hP hS rfl hinRX4 tyX4 tyX4_ok (index := 9) (by decide +kernel) (by decide +kernel) (by decide +kernel) ndX4 (Nat.le_of_ble_eq_true rfl) (Nat.le_of_ble_eq_true rfl) dX11_init_4 (fun H hP hS => ?_)
  generalize eT1 : g1 T (q + 1) (6 + 8, 0) = T1 at hP
  generalize eI2 : gr I (q + 1) (fun _ => 0) = I2 at hP
  generalize eR3 : gr R (q + 1) (fun _ => none) = R3 at hP
  have hT1z : T1 (q + 1) = (6 + 8, 0) := by rw [← eT1]; exact g1_same
  have hT1n : ∀ c, c ≠ (q + 1) → T1 c = T c := fun c h => by rw [← eT1]; exact g1_ne h
  have hI2n : ∀ c j, c ≠ (q + 1) → I2 c j = I c j := fun c j h => by rw [← eI2, gr_row h]
  have hI2z : ∀ j, I2 (q + 1) j = 0 := fun j => by rw [← eI2, gr_at]
  have hR3n : ∀ c j, c ≠ (q + 1) → R3 c j = R c j := fun c j h => by rw [← eR3, gr_row h]
  have hR3z : ∀ j, R3 (q + 1) j = none := fun j => by rw [← eR3, gr_at]
  have htq := (hT1n q (by omega)).trans htq
  have hP : gP D cy B (q + 2) T1 I2 R3 H := hP
  refine lv_dup X.1 X.2.1 dX11_init_7 rfl ?_
  refine g_run_v (f := fun u => u) (va_runIN (As := []) (rest := [.ref (q + 1)]) X (n_site (a := q + 1) hT1z rfl ((hI2z 6)) ((hI2z 7))) ⟨va_cnB (host := "BarrowPlank") 0 X.2.2.2.2 gX11_init_X4_init_n11 rfl rfl rfl (hNst.at (args := #[]) hC (w := .methodLinkNest RX11 11 yX4_init "BarrowPlank") (by simp)) (X.2.2.2.2 (.initialized yX4_init.cls) (by decide +kernel)) ⟨by decide, by decide, by decide +kernel⟩ ⟨Nat.le_of_ble_eq_true rfl, Nat.le_of_ble_eq_true rfl⟩, rfl, X.2.2.2.2 (.instanceMethod yX4_init) (by decide +kernel)⟩ ⟨gW0_blind, g_pre hK hP hS hC hB⟩ (g := F0 m 8 ls [.ref (q + 1), .ref (q + 1)]) rfl rfl hl.1 rfl (lv_room (Nat.le_of_ble_eq_true rfl)) dX11_init_8 ⟨Nat.le_of_ble_eq_true rfl, Nat.le_of_ble_eq_true rfl⟩) hS (fun u H locs hq hP hS => ?_)
  obtain ⟨TS, IS, RS, rfl, hstS, hsrS, ⟨hyS, hyT⟩, hTS, hIS, hRS⟩ := hq
  have hP : gP D cy B (q + 1 + 5) TS IS RS H := hP
  have hP : gP D cy B (q + 6) TS IS RS H := hP
  have htq := (hTS q (by omega)).trans htq
  refine lv_astore_n (lv' := [(1, .ref (q + 1)), (0, .ref q)]) X.1 X.2.1 dX11_init_11 rfl hl (by decide) rfl (fun ls hl => ?_)
  refine lv_aload_n X.1 X.2.1 dX11_init_12 rfl (lv_at hl 1 rfl) ?_
  refine g_new 12 X hK hP hS rfl hinRX10 tyX10 tyX10_ok (index := 12) (by decide +kernel) (by decide +kernel) (by decide +kernel) ndX10 (Nat.le_of_ble_eq_true rfl) (Nat.le_of_ble_eq_true rfl) dX11_init_13 (fun H hP hS => ?_)
  generalize eT4 : g1 TS (q + 6) (12 + 8, 0) = T4 at hP
  generalize eI5 : gr IS (q + 6) (fun _ => 0) = I5 at hP
  generalize eR6 : gr RS (q + 6) (fun _ => none) = R6 at hP
  have hT4z : T4 (q + 6) = (12 + 8, 0) := by rw [← eT4]; exact g1_same
  have hT4n : ∀ c, c ≠ (q + 6) → T4 c = TS c := fun c h => by rw [← eT4]; exact g1_ne h
  have hI5n : ∀ c j, c ≠ (q + 6) → I5 c j = IS c j := fun c j h => by rw [← eI5, gr_row h]
  have hI5z : ∀ j, I5 (q + 6) j = 0 := fun j => by rw [← eI5, gr_at]
  have hR6n : ∀ c j, c ≠ (q + 6) → R6 c j = RS c j := fun c j h => by rw [← eR6, gr_row h]
  have hR6z : ∀ j, R6 (q + 6) j = none := fun j => by rw [← eR6, gr_at]
  have htq := (hT4n q (by omega)).trans htq
  have hP : gP D cy B (q + 7) T4 I5 R6 H := hP
  refine lv_dup X.1 X.2.1 dX11_init_16 rfl ?_
  refine lv_aload_n X.1 X.2.1 dX11_init_17 rfl (lv_at hl 0 rfl) ?_
  refine g_run_v (f := fun u => u) (g_runI [.ref (q + 1)] X hK hP hS hC hB (n_works (w := q + 6) (a := q + 1) hNst hAr hT4z rfl (fun j => (hI5z j)) trivial) (cwI 1 X.2.2.2.2 gX11_init_X10_init rfl rfl rfl (X.2.2.2.2 (.initialized yX10_init.cls) (by decide +kernel)) (X.2.2.2.2 (.methodLink RX11 14 yX10_init) (by decide +kernel)) (X.2.2.2.2 (.instanceMethod yX10_init) (by decide +kernel)) rfl (by decide +kernel) ⟨Nat.le_of_ble_eq_true rfl, Nat.le_of_ble_eq_true rfl⟩) rfl hl.1 rfl (Nat.le_of_ble_eq_true rfl) dX11_init_18 ⟨Nat.le_of_ble_eq_true rfl, Nat.le_of_ble_eq_true rfl⟩) hS (fun u H locs hq hP hS => ?_)
  obtain ⟨TA, IA, RA, rfl, hWA, ⟨hsA, hmA⟩, ⟨hzA, heA⟩, hTA, hIA, hRA⟩ := hq
  have hP : gP D cy B (q + 21) TA IA RA H := hP
  have htq := (hTA q (by omega)).trans htq
  refine g_putrF 13 0 X hK hP hS htq rfl hinRX11 tyX11 tyX11_ok nmX11 rfl (by decide) k17 (fun _ h => h) rfl hnm rfl (r := some (q + 6)) rfl rfl rfl dX11_init_21 (fun H locs hP hS => ?_)
  generalize eR7 : g2 RA q 0 (some (q + 6)) = R7 at hP
  refine lv_aload_n X.1 X.2.1 dX11_init_24 rfl (lv_at hl 1 rfl) ?_
  refine g_new 12 X hK hP hS rfl hinRX10 tyX10 tyX10_ok (index := 12) (by decide +kernel) (by decide +kernel) (by decide +kernel) ndX10 (Nat.le_of_ble_eq_true rfl) (Nat.le_of_ble_eq_true rfl) dX11_init_25 (fun H hP hS => ?_)
  generalize eT8 : g1 TA (q + 21) (12 + 8, 0) = T8 at hP
  generalize eI9 : gr IA (q + 21) (fun _ => 0) = I9 at hP
  generalize eR10 : gr R7 (q + 21) (fun _ => none) = R10 at hP
  have hT8z : T8 (q + 21) = (12 + 8, 0) := by rw [← eT8]; exact g1_same
  have hT8n : ∀ c, c ≠ (q + 21) → T8 c = TA c := fun c h => by rw [← eT8]; exact g1_ne h
  have hI9n : ∀ c j, c ≠ (q + 21) → I9 c j = IA c j := fun c j h => by rw [← eI9, gr_row h]
  have hI9z : ∀ j, I9 (q + 21) j = 0 := fun j => by rw [← eI9, gr_at]
  have hR10n : ∀ c j, c ≠ (q + 21) → R10 c j = R7 c j := fun c j h => by rw [← eR10, gr_row h]
  have hR10z : ∀ j, R10 (q + 21) j = none := fun j => by rw [← eR10, gr_at]
  have htq := (hT8n q (by omega)).trans htq
  have hP : gP D cy B (q + 22) T8 I9 R10 H := hP
  refine lv_dup X.1 X.2.1 dX11_init_28 rfl ?_
  refine lv_aload_n X.1 X.2.1 dX11_init_29 rfl (lv_at hl 0 rfl) ?_
  refine g_run_v (f := fun u => u) (g_runI [.ref (q + 1)] X hK hP hS hC hB (n_works (w := q + 21) (a := q + 1) hNst hAr hT8z rfl (fun j => (hI9z j)) trivial) (cwI 1 X.2.2.2.2 gX11_init_X10_init rfl rfl rfl (X.2.2.2.2 (.initialized yX10_init.cls) (by decide +kernel)) (X.2.2.2.2 (.methodLink RX11 14 yX10_init) (by decide +kernel)) (X.2.2.2.2 (.instanceMethod yX10_init) (by decide +kernel)) rfl (by decide +kernel) ⟨Nat.le_of_ble_eq_true rfl, Nat.le_of_ble_eq_true rfl⟩) rfl hl.1 rfl (Nat.le_of_ble_eq_true rfl) dX11_init_30 ⟨Nat.le_of_ble_eq_true rfl, Nat.le_of_ble_eq_true rfl⟩) hS (fun u H locs hq hP hS => ?_)
  obtain ⟨TB, IB, RB, rfl, hWB, ⟨hsB, hmB⟩, ⟨hzB, heB⟩, hTB, hIB, hRB⟩ := hq
  have hP : gP D cy B (q + 36) TB IB RB H := hP
  have htq := (hTB q (by omega)).trans htq
  refine g_putrF 13 1 X hK hP hS htq rfl hinRX11 tyX11 tyX11_ok nmX11 rfl (by decide) k23 (fun _ h => h) rfl hnm rfl (r := some (q + 21)) rfl rfl rfl dX11_init_33 (fun H locs hP hS => ?_)
  generalize eR11 : g2 RB q 1 (some (q + 21)) = R11 at hP
  refine lv_aload_n X.1 X.2.1 dX11_init_36 rfl (lv_at hl 1 rfl) ?_
  refine g_new 12 X hK hP hS rfl hinRX10 tyX10 tyX10_ok (index := 12) (by decide +kernel) (by decide +kernel) (by decide +kernel) ndX10 (Nat.le_of_ble_eq_true rfl) (Nat.le_of_ble_eq_true rfl) dX11_init_37 (fun H hP hS => ?_)
  generalize eT12 : g1 TB (q + 36) (12 + 8, 0) = T12 at hP
  generalize eI13 : gr IB (q + 36) (fun _ => 0) = I13 at hP
  generalize eR14 : gr R11 (q + 36) (fun _ => none) = R14 at hP
  have hT12z : T12 (q + 36) = (12 + 8, 0) := by rw [← eT12]; exact g1_same
  have hT12n : ∀ c, c ≠ (q + 36) → T12 c = TB c := fun c h => by rw [← eT12]; exact g1_ne h
  have hI13n : ∀ c j, c ≠ (q + 36) → I13 c j = IB c j := fun c j h => by rw [← eI13, gr_row h]
  have hI13z : ∀ j, I13 (q + 36) j = 0 := fun j => by rw [← eI13, gr_at]
  have hR14n : ∀ c j, c ≠ (q + 36) → R14 c j = R11 c j := fun c j h => by rw [← eR14, gr_row h]
  have hR14z : ∀ j, R14 (q + 36) j = none := fun j => by rw [← eR14, gr_at]
  have htq := (hT12n q (by omega)).trans htq
  have hP : gP D cy B (q + 37) T12 I13 R14 H := hP
  refine lv_dup X.1 X.2.1 dX11_init_40 rfl ?_
  refine lv_aload_n X.1 X.2.1 dX11_init_41 rfl (lv_at hl 0 rfl) ?_
  refine g_run_v (f := fun u => u) (g_runI [.ref (q + 1)] X hK hP hS hC hB (n_works (w := q + 36) (a := q + 1) hNst hAr hT12z rfl (fun j => (hI13z j)) trivial) (cwI 1 X.2.2.2.2 gX11_init_X10_init rfl rfl rfl (X.2.2.2.2 (.initialized yX10_init.cls) (by decide +kernel)) (X.2.2.2.2 (.methodLink RX11 14 yX10_init) (by decide +kernel)) (X.2.2.2.2 (.instanceMethod yX10_init) (by decide +kernel)) rfl (by decide +kernel) ⟨Nat.le_of_ble_eq_true rfl, Nat.le_of_ble_eq_true rfl⟩) rfl hl.1 rfl (Nat.le_of_ble_eq_true rfl) dX11_init_42 ⟨Nat.le_of_ble_eq_true rfl, Nat.le_of_ble_eq_true rfl⟩) hS (fun u H locs hq hP hS => ?_)
  obtain ⟨TD, ID, RD, rfl, hWD, ⟨hsD, hmD⟩, ⟨hzD, heD⟩, hTD, hID, hRD⟩ := hq
  have hP : gP D cy B (q + 51) TD ID RD H := hP
  have htq := (hTD q (by omega)).trans htq
  refine g_putrF 13 2 X hK hP hS htq rfl hinRX11 tyX11 tyX11_ok nmX11 rfl (by decide) k26 (fun _ h => h) rfl hnm rfl (r := some (q + 36)) rfl rfl rfl dX11_init_45 (fun H locs hP hS => ?_)
  generalize eR15 : g2 RD q 2 (some (q + 36)) = R15 at hP
  refine lv_aload_n X.1 X.2.1 dX11_init_48 rfl (lv_at hl 1 rfl) ?_
  refine g_new 7 X hK hP hS rfl hinRX5 tyX5 tyX5_ok (index := 29) (by decide +kernel) (by decide +kernel) (by decide +kernel) ndX5 (Nat.le_of_ble_eq_true rfl) (Nat.le_of_ble_eq_true rfl) dX11_init_49 (fun H hP hS => ?_)
  generalize eT16 : g1 TD (q + 51) (7 + 8, 0) = T16 at hP
  generalize eI17 : gr ID (q + 51) (fun _ => 0) = I17 at hP
  generalize eR18 : gr R15 (q + 51) (fun _ => none) = R18 at hP
  have hT16z : T16 (q + 51) = (7 + 8, 0) := by rw [← eT16]; exact g1_same
  have hT16n : ∀ c, c ≠ (q + 51) → T16 c = TD c := fun c h => by rw [← eT16]; exact g1_ne h
  have hI17n : ∀ c j, c ≠ (q + 51) → I17 c j = ID c j := fun c j h => by rw [← eI17, gr_row h]
  have hI17z : ∀ j, I17 (q + 51) j = 0 := fun j => by rw [← eI17, gr_at]
  have hR18n : ∀ c j, c ≠ (q + 51) → R18 c j = R15 c j := fun c j h => by rw [← eR18, gr_row h]
  have hR18z : ∀ j, R18 (q + 51) j = none := fun j => by rw [← eR18, gr_at]
  have htq := (hT16n q (by omega)).trans htq
  have hP : gP D cy B (q + 52) T16 I17 R18 H := hP
  refine lv_dup X.1 X.2.1 dX11_init_52 rfl ?_
  refine g_run_v (f := fun u => u) (va_runIN (As := []) (rest := [.ref (q + 51), .ref q]) X (n_reader (b := q + 51)) ⟨va_cnB (host := "BarrowPlank") 0 X.2.2.2.2 gX11_init_X5_init_n31 rfl rfl rfl (hNst.at (args := #[]) hC (w := .methodLinkNest RX11 31 yX5_init "BarrowPlank") (by simp)) (X.2.2.2.2 (.initialized yX5_init.cls) (by decide +kernel)) ⟨by decide, by decide, by decide +kernel⟩ ⟨Nat.le_of_ble_eq_true rfl, Nat.le_of_ble_eq_true rfl⟩, rfl, X.2.2.2.2 (.instanceMethod yX5_init) (by decide +kernel)⟩ ⟨gW0_blind, g_pre hK hP hS hC hB⟩ (g := F0 m 53 ls [.ref (q + 51), .ref (q + 51), .ref q]) rfl rfl hl.1 rfl (lv_room (Nat.le_of_ble_eq_true rfl)) dX11_init_53 ⟨Nat.le_of_ble_eq_true rfl, Nat.le_of_ble_eq_true rfl⟩) hS (fun u H locs hq hP hS => ?_)
  subst hq
  have hP : gP D cy B (q + 52) T16 I17 R18 H := hP
  refine g_putrF 13 3 X hK hP hS htq rfl hinRX11 tyX11 tyX11_ok nmX11 rfl (by decide) k32 (fun _ h => h) rfl hnm rfl (r := some (q + 51)) rfl rfl rfl dX11_init_56 (fun H locs hP hS => ?_)
  generalize eR19 : g2 R18 q 3 (some (q + 51)) = R19 at hP
  refine lv_aload_n X.1 X.2.1 dX11_init_59 rfl (lv_at hl 1 rfl) ?_
  refine g_new 1 X hK hP hS rfl hinRJx4a65c tyJx4a65c tyJx4a65c_ok (index := 36) (by decide +kernel) (by decide +kernel) (by decide +kernel) ndJx4a65c (Nat.le_of_ble_eq_true rfl) (Nat.le_of_ble_eq_true rfl) dX11_init_60 (fun H hP hS => ?_)
  generalize eT20 : g1 T16 (q + 52) (1 + 8, 0) = T20 at hP
  generalize eI21 : gr I17 (q + 52) (fun _ => 0) = I21 at hP
  generalize eR22 : gr R19 (q + 52) (fun _ => none) = R22 at hP
  have hT20z : T20 (q + 52) = (1 + 8, 0) := by rw [← eT20]; exact g1_same
  have hT20n : ∀ c, c ≠ (q + 52) → T20 c = T16 c := fun c h => by rw [← eT20]; exact g1_ne h
  have hI21n : ∀ c j, c ≠ (q + 52) → I21 c j = I17 c j := fun c j h => by rw [← eI21, gr_row h]
  have hI21z : ∀ j, I21 (q + 52) j = 0 := fun j => by rw [← eI21, gr_at]
  have hR22n : ∀ c j, c ≠ (q + 52) → R22 c j = R19 c j := fun c j h => by rw [← eR22, gr_row h]
  have hR22z : ∀ j, R22 (q + 52) j = none := fun j => by rw [← eR22, gr_at]
  have htq := (hT20n q (by omega)).trans htq
  have hT16z := (hT20n (q + 51) (by omega)).trans hT16z
  have hP : gP D cy B (q + 53) T20 I21 R22 H := hP
  refine lv_dup X.1 X.2.1 dX11_init_63 rfl ?_
  refine g_run_v (f := fun u => u) (g_runI [] X hK hP hS hC hB (n_list hBx hT20z) (cwI 0 X.2.2.2.2 gX11_init_Jx4a65c_init_da8c8 rfl rfl rfl (X.2.2.2.2 (.initialized yJx4a65c_init_da8c8.cls) (by decide +kernel)) (X.2.2.2.2 (.methodLink RX11 38 yJx4a65c_init_da8c8) (by decide +kernel)) (X.2.2.2.2 (.instanceMethod yJx4a65c_init_da8c8) (by decide +kernel)) rfl (by decide +kernel) ⟨Nat.le_of_ble_eq_true rfl, Nat.le_of_ble_eq_true rfl⟩) rfl hl.1 rfl (Nat.le_of_ble_eq_true rfl) dX11_init_64 ⟨Nat.le_of_ble_eq_true rfl, Nat.le_of_ble_eq_true rfl⟩) hS (fun u H locs hq hP hS => ?_)
  subst hq
  generalize eIL : g2 I21 (q + 52) 0 0 = IL at hP
  generalize eRL : g2 R22 (q + 52) 1 (some E) = RL at hP
  have hP : gP D cy B (q + 53) T20 IL RL H := hP
  refine g_putrF 13 4 X hK hP hS htq rfl hinRX11 tyX11 tyX11_ok nmX11 rfl (by decide) k39 (fun _ h => h) rfl hnm rfl (r := some (q + 52)) rfl rfl rfl dX11_init_67 (fun H locs hP hS => ?_)
  generalize eR23 : g2 RL q 4 (some (q + 52)) = R23 at hP
  refine lv_aload_n X.1 X.2.1 dX11_init_70 rfl (lv_at hl 1 rfl) ?_
  refine lv_iconst (v := 0) X.1 X.2.1 dX11_init_71 (by decide) ?_
  refine g_puti 13 5 X hK hP hS htq rfl hinRX11 tyX11 tyX11_ok nmX11 rfl (by decide) k43 (fun _ h => h) rfl rfl rfl dX11_init_72 (fun H locs hP hS => ?_)
  generalize eI24 : g2 IL q 5 0 = I24 at hP
  have hfTS : ∀ c, q < c → c < q + 6 → T20 c = TS c := fun c h1 h2 => (hT20n _ (by omega)).trans ((hT16n _ (by omega)).trans ((hTD _ (by omega)).trans ((hT12n _ (by omega)).trans ((hTB _ (by omega)).trans ((hT8n _ (by omega)).trans ((hTA _ (by omega)).trans ((hT4n _ (by omega)).trans (rfl))))))))
  have hfIS : ∀ c j, q < c → c < q + 6 → I24 c j = IS c j := fun c j h1 h2 => gs_ne eI24 (by omega) (gs_ne eIL (by omega) ((hI21n _ _ (by omega)).trans ((hI17n _ _ (by omega)).trans ((hID _ _ (by omega)).trans ((hI13n _ _ (by omega)).trans ((hIB _ _ (by omega)).trans ((hI9n _ _ (by omega)).trans ((hIA _ _ (by omega)).trans ((hI5n _ _ (by omega)).trans (rfl))))))))))
  have hfRS : ∀ c j, q < c → c < q + 6 → R23 c j = RS c j := fun c j h1 h2 => gs_neR eR23 (by omega) (gs_neR eRL (by omega) ((hR22n _ _ (by omega)).trans (gs_neR eR19 (by omega) ((hR18n _ _ (by omega)).trans (gs_neR eR15 (by omega) ((hRD _ _ (by omega)).trans ((hR14n _ _ (by omega)).trans (gs_neR eR11 (by omega) ((hRB _ _ (by omega)).trans ((hR10n _ _ (by omega)).trans (gs_neR eR7 (by omega) ((hRA _ _ (by omega)).trans ((hR6n _ _ (by omega)).trans (rfl))))))))))))))
  have hfTA : ∀ c, q < c → c < q + 21 → T20 c = TA c := fun c h1 h2 => (hT20n _ (by omega)).trans ((hT16n _ (by omega)).trans ((hTD _ (by omega)).trans ((hT12n _ (by omega)).trans ((hTB _ (by omega)).trans ((hT8n _ (by omega)).trans (rfl))))))
  have hfIA : ∀ c j, q < c → c < q + 21 → I24 c j = IA c j := fun c j h1 h2 => gs_ne eI24 (by omega) (gs_ne eIL (by omega) ((hI21n _ _ (by omega)).trans ((hI17n _ _ (by omega)).trans ((hID _ _ (by omega)).trans ((hI13n _ _ (by omega)).trans ((hIB _ _ (by omega)).trans ((hI9n _ _ (by omega)).trans (rfl))))))))
  have hfRA : ∀ c j, q < c → c < q + 21 → R23 c j = RA c j := fun c j h1 h2 => gs_neR eR23 (by omega) (gs_neR eRL (by omega) ((hR22n _ _ (by omega)).trans (gs_neR eR19 (by omega) ((hR18n _ _ (by omega)).trans (gs_neR eR15 (by omega) ((hRD _ _ (by omega)).trans ((hR14n _ _ (by omega)).trans (gs_neR eR11 (by omega) ((hRB _ _ (by omega)).trans ((hR10n _ _ (by omega)).trans (gs_neR eR7 (by omega) (rfl))))))))))))
  have hfTB : ∀ c, q < c → c < q + 36 → T20 c = TB c := fun c h1 h2 => (hT20n _ (by omega)).trans ((hT16n _ (by omega)).trans ((hTD _ (by omega)).trans ((hT12n _ (by omega)).trans (rfl))))
  have hfIB : ∀ c j, q < c → c < q + 36 → I24 c j = IB c j := fun c j h1 h2 => gs_ne eI24 (by omega) (gs_ne eIL (by omega) ((hI21n _ _ (by omega)).trans ((hI17n _ _ (by omega)).trans ((hID _ _ (by omega)).trans ((hI13n _ _ (by omega)).trans (rfl))))))
  have hfRB : ∀ c j, q < c → c < q + 36 → R23 c j = RB c j := fun c j h1 h2 => gs_neR eR23 (by omega) (gs_neR eRL (by omega) ((hR22n _ _ (by omega)).trans (gs_neR eR19 (by omega) ((hR18n _ _ (by omega)).trans (gs_neR eR15 (by omega) ((hRD _ _ (by omega)).trans ((hR14n _ _ (by omega)).trans (gs_neR eR11 (by omega) (rfl)))))))))
  have hfTD : ∀ c, q < c → c < q + 51 → T20 c = TD c := fun c h1 h2 => (hT20n _ (by omega)).trans ((hT16n _ (by omega)).trans (rfl))
  have hfID : ∀ c j, q < c → c < q + 51 → I24 c j = ID c j := fun c j h1 h2 => gs_ne eI24 (by omega) (gs_ne eIL (by omega) ((hI21n _ _ (by omega)).trans ((hI17n _ _ (by omega)).trans (rfl))))
  have hfRD : ∀ c j, q < c → c < q + 51 → R23 c j = RD c j := fun c j h1 h2 => gs_neR eR23 (by omega) (gs_neR eRL (by omega) ((hR22n _ _ (by omega)).trans (gs_neR eR19 (by omega) ((hR18n _ _ (by omega)).trans (gs_neR eR15 (by omega) (rfl))))))
  have hVA : cWk (q + 6) T20 R23 := ⟨fun k t hk => (hfTA _ (by omega) (by have h9 := (List.getElem?_eq_some_iff.mp hk).1; have h8 : wTl.length = 15 := rfl; omega)).trans (hWA.1 k t hk), fun k x hk => (hfRA _ _ (by omega) (by have h8 := wR_lt hk; omega)).trans (hWA.2 k x hk)⟩
  have hVB : cWk (q + 21) T20 R23 := ⟨fun k t hk => (hfTB _ (by omega) (by have h9 := (List.getElem?_eq_some_iff.mp hk).1; have h8 : wTl.length = 15 := rfl; omega)).trans (hWB.1 k t hk), fun k x hk => (hfRB _ _ (by omega) (by have h8 := wR_lt hk; omega)).trans (hWB.2 k x hk)⟩
  have hVD : cWk (q + 36) T20 R23 := ⟨fun k t hk => (hfTD _ (by omega) (by have h9 := (List.getElem?_eq_some_iff.mp hk).1; have h8 : wTl.length = 15 := rfl; omega)).trans (hWD.1 k t hk), fun k x hk => (hfRD _ _ (by omega) (by have h8 := wR_lt hk; omega)).trans (hWD.2 k x hk)⟩
  have hI9 : ∀ c j, c < q → I24 c j = I c j := fun c j h => gs_ne eI24 (by omega) (gs_ne eIL (by omega) ((hI21n _ _ (by omega)).trans ((hI17n _ _ (by omega)).trans ((hID _ _ (by omega)).trans ((hI13n _ _ (by omega)).trans ((hIB _ _ (by omega)).trans ((hI9n _ _ (by omega)).trans ((hIA _ _ (by omega)).trans ((hI5n _ _ (by omega)).trans ((hIS _ _ (by omega)).trans ((hI2n _ _ (by omega)).trans (rfl))))))))))))
  have hR9 : ∀ c j, c < q → R23 c j = R c j := fun c j h => gs_neR eR23 (by omega) (gs_neR eRL (by omega) ((hR22n _ _ (by omega)).trans (gs_neR eR19 (by omega) ((hR18n _ _ (by omega)).trans (gs_neR eR15 (by omega) ((hRD _ _ (by omega)).trans ((hR14n _ _ (by omega)).trans (gs_neR eR11 (by omega) ((hRB _ _ (by omega)).trans ((hR10n _ _ (by omega)).trans (gs_neR eR7 (by omega) ((hRA _ _ (by omega)).trans ((hR6n _ _ (by omega)).trans ((hRS _ _ (by omega)).trans ((hR3n _ _ (by omega)).trans (rfl))))))))))))))))
  have hT9 : ∀ c, c < q → T20 c = T c := fun c h => (hT20n _ (by omega)).trans ((hT16n _ (by omega)).trans ((hTD _ (by omega)).trans ((hT12n _ (by omega)).trans ((hTB _ (by omega)).trans ((hT8n _ (by omega)).trans ((hTA _ (by omega)).trans ((hT4n _ (by omega)).trans ((hTS _ (by omega)).trans ((hT1n _ (by omega)).trans (rfl))))))))))
  have hTop : cTop q (q + 6) (q + 21) (q + 36) T20 R23 := ⟨rfl, rfl, rfl, htq, (gs_neR eR23 (by omega) (gs_neR eRL (by omega) ((hR22n _ _ (by omega)).trans (gs_neR eR19 (by omega) ((hR18n _ _ (by omega)).trans (gs_neR eR15 (by omega) ((hRD _ _ (by omega)).trans ((hR14n _ _ (by omega)).trans (gs_neR eR11 (by omega) ((hRB _ _ (by omega)).trans ((hR10n _ _ (by omega)).trans (gs_atR eR7 (by omega) (by omega))))))))))))), (gs_neR eR23 (by omega) (gs_neR eRL (by omega) ((hR22n _ _ (by omega)).trans (gs_neR eR19 (by omega) ((hR18n _ _ (by omega)).trans (gs_neR eR15 (by omega) ((hRD _ _ (by omega)).trans ((hR14n _ _ (by omega)).trans (gs_atR eR11 (by omega) (by omega)))))))))), (gs_neR eR23 (by omega) (gs_neR eRL (by omega) ((hR22n _ _ (by omega)).trans (gs_neR eR19 (by omega) ((hR18n _ _ (by omega)).trans (gs_atR eR15 (by omega) (by omega))))))), (gs_neR eR23 (by omega) (gs_neR eRL (by omega) ((hR22n _ _ (by omega)).trans (gs_atR eR19 (by omega) (by omega))))), (gs_atR eR23 (by omega) (by omega)), hVA, hVB, hVD, hT16z, hT20z⟩
  have hLsZ : cLs (q + 52) E ad T20 I24 R23 [] := ⟨hT20z, (gs_ne eI24 (by omega) (gs_ne eIL (by omega) (hI21z 2))), Or.inl ⟨rfl, (gs_neR eR23 (by omega) (gs_atR eRL rfl rfl))⟩⟩
  have hSt : cSt (q + 1) T20 R23 := by obtain ⟨g1, g2, g3, g4, g5, g6, g7, g8, g9⟩ := hstS; exact ⟨(hfTS _ (by omega) (by omega)).trans g1, (hfTS _ (by omega) (by omega)).trans g2, (hfTS _ (by omega) (by omega)).trans g3, (hfTS _ (by omega) (by omega)).trans g4, (hfTS _ (by omega) (by omega)).trans g5, (hfRS _ _ (by omega) (by omega)).trans g6, (hfRS _ _ (by omega) (by omega)).trans g7, (hfRS _ _ (by omega) (by omega)).trans g8, (hfRS _ _ (by omega) (by omega)).trans g9⟩
  have hSr9 : cSr (q + 1) I24 [] [] := hsrS.k (fun c j g1 g2 => hfIS c j (by omega) (by omega))
  exact g_vret (f := fun u => u) ((q + 53), T20, I24, R23) X hr hlk hK hP hS dX11_init_75 ⟨T20, I24, R23, rfl, hTop, ⟨hSt, hSr9, (hfIS _ _ (by omega) (by omega)).trans hyS, (hfIS _ _ (by omega) (by omega)).trans hyT⟩, ⟨⟨(hfRA _ _ (by omega) (by omega)).trans hsA, (fun k hk => (hfRA _ _ (by omega) (by omega)).trans (hmA k hk)), (fun c j h1 h2 h3 => (hfIA c j (by omega) (by omega)).trans (hzA c j h1 h2 h3)), (hfIA _ _ (by omega) (by omega)).trans heA⟩, ⟨(hfRB _ _ (by omega) (by omega)).trans hsB, (fun k hk => (hfRB _ _ (by omega) (by omega)).trans (hmB k hk)), (fun c j h1 h2 h3 => (hfIB c j (by omega) (by omega)).trans (hzB c j h1 h2 h3)), (hfIB _ _ (by omega) (by omega)).trans heB⟩, ⟨(hfRD _ _ (by omega) (by omega)).trans hsD, (fun k hk => (hfRD _ _ (by omega) (by omega)).trans (hmD k hk)), (fun c j h1 h2 h3 => (hfID c j (by omega) (by omega)).trans (hzD c j h1 h2 h3)), (hfID _ _ (by omega) (by omega)).trans heD⟩⟩, hLsZ, (gs_same eI24), hT9, hI9, hR9⟩

end QJ