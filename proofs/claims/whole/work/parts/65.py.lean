section PY
variable {l : Launch} {s0 : State} {D : va_G} {cy : Nat → ClassId} {B z : Nat} {T : Nat → Nat × Nat} {I : Nat → Nat → Int32} {R : Nat → Nat → Option Nat} {q nw kp tr : Nat} {σ : Nat → Nat} {K ti sh : Nat} {fl : List Nat} {ad : Nat → Nat} {C E lc b κ nu vv : Nat} {tl : List Nat}
set_option maxHeartbeats 4000000 in
set_option maxRecDepth 100000 in
/-- j_clear -/
theorem j_clear (hLs : cLs lc E ad T I R tl) : Met l yJx4a65c_clear_da8c8 wsJx4a65c_clear_da8c8 ({ frames := 0, cells := 0, slots := 0, locals := 0 }) (va_Pc [.ref lc] (gW0 s0 D cy B (z, T, I, R))) (va_Qv (fun u => ∃ I' R', u = (z, T, I', R') ∧ cLs lc E ad T I' R' [] ∧ gLf lc z z T T I I' R R') (fun u t => gW1 D cy B u t) (gA B)) 0 0 (gA B) := by
  refine g_met (maxL := 4) (ret := none) (by decide) rfl (Nat.le_of_ble_eq_true rfl) (fun p e s m args below meth c ls X hr hlk hnm hK hP hC hS hl => ?_)
  have hl : lv_has ls 4 [(0, .ref lc)] := hl
  have hP : gP D cy B z T I R s.heap := hP
  have hB : B ≤ s.heap.size := by rw [hP.1]; exact hP.2.1
  have hinRJx4a65c : ∀ w ∈ wsJx4a65c0, w ∈ wsJx4a65c_clear_da8c8 := fun _ h => List.mem_cons_of_mem _ (List.mem_append_right _ h)
  have k9 : Cond.fieldLink RJx4a65c 9 "java/util/ArrayList" "elementData" "[Ljava/lang/Object;" ∈ wsJx4a65c_clear_da8c8 := by decide +kernel
  have k48 : Cond.fieldLink RJx4a65c 48 "java/util/ArrayList" "size" "I" ∈ wsJx4a65c_clear_da8c8 := by decide +kernel
  have k63 : Cond.fieldLink RJx4a65c 63 "java/util/ArrayList" "modCount" "I" ∈ wsJx4a65c_clear_da8c8 := by decide +kernel
  obtain ⟨htl, hsz, hcs⟩ := hLs
  have hlz : lc < z := hP.lt (by rw [htl]; decide)
  rcases hcs with ⟨rfl, hel⟩ | ⟨el, hel, hq1, hte, hn9, hre⟩
  · refine lv_aload_n X.1 X.2.1 dJx4a65c_clear_da8c8_0 rfl (lv_at hl 0 rfl) ?_
    refine lv_dup X.1 X.2.1 dJx4a65c_clear_da8c8_1 rfl ?_
    refine g_geti 1 0 X hK hP htl rfl hinRJx4a65c rfl (by decide) k63 (u_same (X.2.2.2.2 (.sameField "java/util/ArrayList" "java/util/AbstractList" "modCount" "I") (by decide +kernel))) dJx4a65c_clear_da8c8_2 (show I lc 0 = I lc 0 from rfl) ?_
    refine lv_iconst (v := 1) X.1 X.2.1 dJx4a65c_clear_da8c8_5 (by decide) ?_
    refine lv_iadd X.1 X.2.1 dJx4a65c_clear_da8c8_6 ?_
    refine g_puti 1 0 X hK hP hS htl rfl hinRJx4a65c tyJx4a65c tyJx4a65c_ok nmJx4a65c rfl (by decide) k63 (u_same (X.2.2.2.2 (.sameField "java/util/ArrayList" "java/util/AbstractList" "modCount" "I") (by decide +kernel))) rfl rfl rfl dJx4a65c_clear_da8c8_7 (fun H locs hP hS => ?_)
    generalize eI1 : g2 I lc 0 ((I lc 0) + 1) = I1 at hP
    refine lv_aload_n X.1 X.2.1 dJx4a65c_clear_da8c8_10 rfl (lv_at hl 0 rfl) ?_
    refine g_getr 1 1 X hK hP htl rfl hinRJx4a65c rfl (by decide) k9 (fun _ h => h) dJx4a65c_clear_da8c8_11 (show va_rf (R lc 1) = .ref E from by rw [hel]; rfl) ?_
    refine lv_astore_n (lv' := [(1, .ref E), (0, .ref lc)]) X.1 X.2.1 dJx4a65c_clear_da8c8_14 rfl hl (by decide) rfl (fun ls hl => ?_)
    refine lv_aload_n X.1 X.2.1 dJx4a65c_clear_da8c8_15 rfl (lv_at hl 1 rfl) ?_
    refine g_geti 1 2 X hK hP htl rfl hinRJx4a65c rfl (by decide) k48 (fun _ h => h) dJx4a65c_clear_da8c8_16 (show I1 lc 2 = 0 from (gs_ne eI1 (by omega) hsz)) ?_
    refine lv_istore_n (lv' := [(2, .int 0), (1, .ref E), (0, .ref lc)]) X.1 X.2.1 dJx4a65c_clear_da8c8_19 rfl hl (by decide) rfl (fun ls hl => ?_)
    refine lv_aload_n X.1 X.2.1 dJx4a65c_clear_da8c8_20 rfl (lv_at hl 2 rfl) ?_
    refine lv_iconst (v := 0) X.1 X.2.1 dJx4a65c_clear_da8c8_21 (by decide) ?_
    refine lv_dup_x1 X.1 X.2.1 dJx4a65c_clear_da8c8_22 rfl rfl ?_
    refine g_puti 1 2 X hK hP hS htl rfl hinRJx4a65c tyJx4a65c tyJx4a65c_ok nmJx4a65c rfl (by decide) k48 (fun _ h => h) rfl rfl rfl dJx4a65c_clear_da8c8_23 (fun H locs hP hS => ?_)
    generalize eI2 : g2 I1 lc 2 0 = I2 at hP
    refine lv_istore_n (lv' := [(3, .int 0), (2, .int 0), (1, .ref E), (0, .ref lc)]) X.1 X.2.1 dJx4a65c_clear_da8c8_26 rfl hl (by decide) rfl (fun ls hl => ?_)
    refine lv_iload_n X.1 X.2.1 dJx4a65c_clear_da8c8_27 rfl (lv_at hl 0 rfl) ?_
    refine lv_iload_n X.1 X.2.1 dJx4a65c_clear_da8c8_28 rfl (lv_at hl 1 rfl) ?_
    refine lv_icmp_ge (tgt := 42) X.1 X.2.1 dJx4a65c_clear_da8c8_29 (by decide) (fun c29 => ?_) (fun c29 => ?_)
    · have n29 : 0 ≤ 0 := gq_le c29 (show (0 : Int32) = nI 0 from rfl) (show (0 : Int32) = nI 0 from rfl) (by omega) (by omega)
      exact g_vret (f := fun u => u) (z, T, I2, R) X hr hlk hK hP hS dJx4a65c_clear_da8c8_42 ⟨I2, R, rfl, ⟨htl, gs_at eI2 rfl rfl, Or.inl ⟨rfl, hel⟩⟩, Nat.le_refl _, fun _ _ => rfl, fun c j h1 h2 => gs_ne eI2 (by omega) (gs_ne eI1 (by omega) rfl), fun _ _ _ _ _ => rfl, fun _ _ h => h⟩
    · exact absurd (Int32.le_refl (0 : Int32)) c29
  · refine lv_aload_n X.1 X.2.1 dJx4a65c_clear_da8c8_0 rfl (lv_at hl 0 rfl) ?_
    refine lv_dup X.1 X.2.1 dJx4a65c_clear_da8c8_1 rfl ?_
    refine g_geti 1 0 X hK hP htl rfl hinRJx4a65c rfl (by decide) k63 (u_same (X.2.2.2.2 (.sameField "java/util/ArrayList" "java/util/AbstractList" "modCount" "I") (by decide +kernel))) dJx4a65c_clear_da8c8_2 (show I lc 0 = I lc 0 from rfl) ?_
    refine lv_iconst (v := 1) X.1 X.2.1 dJx4a65c_clear_da8c8_5 (by decide) ?_
    refine lv_iadd X.1 X.2.1 dJx4a65c_clear_da8c8_6 ?_
    refine g_puti 1 0 X hK hP hS htl rfl hinRJx4a65c tyJx4a65c tyJx4a65c_ok nmJx4a65c rfl (by decide) k63 (u_same (X.2.2.2.2 (.sameField "java/util/ArrayList" "java/util/AbstractList" "modCount" "I") (by decide +kernel))) rfl rfl rfl dJx4a65c_clear_da8c8_7 (fun H locs hP hS => ?_)
    generalize eI3 : g2 I lc 0 ((I lc 0) + 1) = I3 at hP
    refine lv_aload_n X.1 X.2.1 dJx4a65c_clear_da8c8_10 rfl (lv_at hl 0 rfl) ?_
    refine g_getr 1 1 X hK hP htl rfl hinRJx4a65c rfl (by decide) k9 (fun _ h => h) dJx4a65c_clear_da8c8_11 (show va_rf (R lc 1) = .ref el from by rw [hel]; rfl) ?_
    refine lv_astore_n (lv' := [(1, .ref el), (0, .ref lc)]) X.1 X.2.1 dJx4a65c_clear_da8c8_14 rfl hl (by decide) rfl (fun ls hl => ?_)
    refine lv_aload_n X.1 X.2.1 dJx4a65c_clear_da8c8_15 rfl (lv_at hl 1 rfl) ?_
    refine g_geti 1 2 X hK hP htl rfl hinRJx4a65c rfl (by decide) k48 (fun _ h => h) dJx4a65c_clear_da8c8_16 (show I3 lc 2 = nI tl.length from (gs_ne eI3 (by omega) hsz)) ?_
    refine lv_istore_n (lv' := [(2, .int (nI tl.length)), (1, .ref el), (0, .ref lc)]) X.1 X.2.1 dJx4a65c_clear_da8c8_19 rfl hl (by decide) rfl (fun ls hl => ?_)
    refine lv_aload_n X.1 X.2.1 dJx4a65c_clear_da8c8_20 rfl (lv_at hl 2 rfl) ?_
    refine lv_iconst (v := 0) X.1 X.2.1 dJx4a65c_clear_da8c8_21 (by decide) ?_
    refine lv_dup_x1 X.1 X.2.1 dJx4a65c_clear_da8c8_22 rfl rfl ?_
    refine g_puti 1 2 X hK hP hS htl rfl hinRJx4a65c tyJx4a65c tyJx4a65c_ok nmJx4a65c rfl (by decide) k48 (fun _ h => h) rfl rfl rfl dJx4a65c_clear_da8c8_23 (fun H locs hP hS => ?_)
    generalize eI4 : g2 I3 lc 2 0 = I4 at hP
    refine lv_istore_n (lv' := [(3, .int 0), (2, .int (nI tl.length)), (1, .ref el), (0, .ref lc)]) X.1 X.2.1 dJx4a65c_clear_da8c8_26 rfl hl (by decide) rfl (fun ls hl => ?_)
    refine ir_loop (I := I4) (R := R) tl.length 27 [] (fun k Jz Rz ls => (I4 = Jz ∧ ∀ c j, c ≠ el → Rz c j = R c j) ∧ lv_has ls 4 [(1, .ref el), (2, .int (nI tl.length)), (3, .int (nI k))]) 0 (by omega) ⟨⟨rfl, fun _ _ _ => rfl⟩, lv_sub hl [2, 1, 0] rfl⟩ hP hS (fun k Jz Rz H locs ls hk hiv hP hS ih => ?_)
    obtain ⟨⟨rfl, hrz⟩, hl⟩ := hiv
    refine lv_iload_n X.1 X.2.1 dJx4a65c_clear_da8c8_27 rfl (lv_at hl 2 rfl) ?_
    refine lv_iload_n X.1 X.2.1 dJx4a65c_clear_da8c8_28 rfl (lv_at hl 1 rfl) ?_
    refine lv_icmp_ge (tgt := 42) X.1 X.2.1 dJx4a65c_clear_da8c8_29 (by decide) (fun c29 => ?_) (fun c29 => ?_)
    · have n29 : tl.length ≤ k := gq_le c29 (Eq.refl (nI tl.length)) (Eq.refl (nI k)) (by omega) (by omega)
      exact g_vret (f := fun u => u) (z, T, I4, Rz) X hr hlk hK hP hS dJx4a65c_clear_da8c8_42 ⟨I4, Rz, rfl, ⟨htl, gs_at eI4 rfl rfl, Or.inr ⟨el, (hrz lc 1 (by omega)).trans hel, hq1, hte, by simp, fun i hi => absurd hi (Nat.not_lt_zero _)⟩⟩, Nat.le_refl _, fun _ _ => rfl, fun c j h1 h2 => gs_ne eI4 (by omega) (gs_ne eI3 (by omega) rfl), fun c j h1 h2 h3 => hrz c j (fun g => h3 (by rw [g]; exact hel)), fun c h1 h2 => (by rw [hrz lc 1 (by omega)] at h2; exact h2)⟩
    · have n29 : k < tl.length := gq_nle c29 (Eq.refl (nI tl.length)) (Eq.refl (nI k)) (by omega) (by omega)
      refine lv_aload_n X.1 X.2.1 dJx4a65c_clear_da8c8_32 rfl (lv_at hl 0 rfl) ?_
      refine lv_iload_n X.1 X.2.1 dJx4a65c_clear_da8c8_33 rfl (lv_at hl 2 rfl) ?_
      refine lv_null X.1 X.2.1 dJx4a65c_clear_da8c8_34 ?_
      refine g_aastN (kA := 5) (t0 := 5) (E := "java/lang/Object") k X hK hP hS hte (fun R => gE_objs hte) rfl (gIx_of (Eq.refl (nI k)) (by omega) (by omega)) dJx4a65c_clear_da8c8_35 (fun H locs hP hS => ?_)
      generalize eR5 : g2 Rz el k (none) = R5 at hP
      refine lv_iinc (v := nI (k + 1)) (lv' := [(3, .int (nI (k + 1))), (1, .ref el), (2, .int (nI tl.length))]) X.1 X.2.1 dJx4a65c_clear_da8c8_36 hl (k := 2) rfl (gn_inc (Eq.refl (nI k)) 1) (by decide) rfl (fun ls hl => ?_)
      refine lv_goto (tgt := 27) X.1 X.2.1 dJx4a65c_clear_da8c8_39 (by decide) ?_
      exact ih _ _ _ _ _ (by omega) ⟨⟨rfl, fun c j h => gs_neR eR5 (by omega) (hrz c j h)⟩, lv_sub hl [1, 2, 0] rfl⟩ hP hS

theorem bx_v (v : Nat) : vb_c (v + 128) = nI v := by
  show nI (v + 128) - nI 128 = nI v
  rw [pk_sub (by omega), Nat.add_sub_cancel]
set_option maxHeartbeats 4000000 in
set_option maxRecDepth 100000 in
/-- j_intValue -/
theorem j_intValue (hBx : gBx s0 B ad C E) {v : Nat} (hv : v ≤ 100) : Met l yJ6_intValue_8abf5 wsJ6_intValue_8abf5 ({ frames := 0, cells := 0, slots := 0, locals := 0 }) (va_Pc [.ref (ad (v + 128))] (gW0 s0 D cy B (z, T, I, R))) (va_Qi (fun r u => r = nI v ∧ (z, T, I, R) = u) (fun u t => gW1 D cy B u t) (gA B)) 0 0 (gA B) := by
  refine g_met (maxL := 1) (ret := (some .int)) (by decide) rfl (Nat.le_of_ble_eq_true rfl) (fun p e s m args below meth c ls X hr hlk hnm hK hP hC hS hl => ?_)
  have hl : lv_has ls 1 [(0, .ref (ad (v + 128)))] := hl
  have hP : gP D cy B z T I R s.heap := hP
  have hB : B ≤ s.heap.size := by rw [hP.1]; exact hP.2.1
  have k205 : Cond.fieldLink RJ6 205 "java/lang/Integer" "value" "I" ∈ wsJ6_intValue_8abf5 := by decide +kernel
  replace hBx := hBx.now hC
  refine lv_aload_n X.1 X.2.1 dJ6_intValue_8abf5_0 rfl (lv_at hl 0 rfl) ?_
  refine vk_getf X.1 X.2.1 (hBx.2.2.2.1.2 (v + 128) (by omega)) hS X.2.2.2.1 (X.2.2.2.2 (.fieldLink RJ6 205 "java/lang/Integer" "value" "I") (by decide +kernel)) (fun _ h => h) dJ6_intValue_8abf5_1 ?_
  exact g_iret (f := fun u => u) (z, T, I, R) X hr hlk hK hP hS dJ6_intValue_8abf5_4 ⟨bx_v v, rfl⟩

set_option maxHeartbeats 4000000 in
set_option maxRecDepth 100000 in
/-- j_ci3 -/
theorem j_ci3 {i9 n9 : Nat} (hi : i9 < n9) (hn : n9 < 2 ^ 30) : Met l yJ3_checkIndex_8e157 wsJ3_checkIndex_8e157 ({ frames := 0, cells := 0, slots := 0, locals := 0 }) (va_Pc [.int (nI i9), .int (nI n9), .null] (gW0 s0 D cy B (z, T, I, R))) (va_Qi (fun r u => r = nI i9 ∧ (z, T, I, R) = u) (fun u t => gW1 D cy B u t) (gA B)) 0 0 (gA B) := by
  refine g_met (maxL := 3) (ret := (some .int)) (by decide) rfl (Nat.le_of_ble_eq_true rfl) (fun p e s m args below meth c ls X hr hlk hnm hK hP hC hS hl => ?_)
  have hl : lv_has ls 3 [(0, .int (nI i9)), (1, .int (nI n9)), (2, .null)] := hl
  have hP : gP D cy B z T I R s.heap := hP
  have hB : B ≤ s.heap.size := by rw [hP.1]; exact hP.2.1
  refine lv_iload_n X.1 X.2.1 dJ3_checkIndex_8e157_0 rfl (lv_at hl 0 rfl) ?_
  refine lv_if_lt (tgt := 9) X.1 X.2.1 dJ3_checkIndex_8e157_1 (by decide) (fun c1 => ?_) (fun c1 => ?_)
  · exact absurd c1 (nI_pos (by omega))
  · have n1 : 0 ≤ i9 := gq_nlt c1 (Eq.refl (nI i9)) (show (0 : Int32) = nI 0 from rfl) (by omega) (by omega)
    refine lv_iload_n X.1 X.2.1 dJ3_checkIndex_8e157_4 rfl (lv_at hl 0 rfl) ?_
    refine lv_iload_n X.1 X.2.1 dJ3_checkIndex_8e157_5 rfl (lv_at hl 1 rfl) ?_
    refine lv_icmp_lt (tgt := 16) X.1 X.2.1 dJ3_checkIndex_8e157_6 (by decide) (fun c6 => ?_) (fun c6 => ?_)
    · have n6 : i9 < n9 := gq_lt c6 (Eq.refl (nI i9)) (Eq.refl (nI n9)) (by omega) (by omega)
      refine lv_iload_n X.1 X.2.1 dJ3_checkIndex_8e157_16 rfl (lv_at hl 0 rfl) ?_
      exact g_iret (f := fun u => u) (z, T, I, R) X hr hlk hK hP hS dJ3_checkIndex_8e157_17 ⟨rfl, rfl⟩
    · exact absurd (nI_lt hi (by omega)) c6

set_option maxHeartbeats 4000000 in
set_option maxRecDepth 100000 in
/-- j_ci15 -/
theorem j_ci15 {i9 n9 : Nat} (hi : i9 < n9) (hn : n9 < 2 ^ 30) : Met l yJ15_checkIndex_7cf53 wsJ15_checkIndex_7cf53 ({ frames := 1, cells := 0, slots := 0, locals := 22 }) (va_Pc [.int (nI i9), .int (nI n9)] (gW0 s0 D cy B (z, T, I, R))) (va_Qi (fun r u => r = nI i9 ∧ (z, T, I, R) = u) (fun u t => gW1 D cy B u t) (gA B)) 0 0 (gA B) := by
  refine g_met (maxL := 2) (ret := (some .int)) (by decide) rfl (Nat.le_of_ble_eq_true rfl) (fun p e s m args below meth c ls X hr hlk hnm hK hP hC hS hl => ?_)
  have hl : lv_has ls 2 [(0, .int (nI i9)), (1, .int (nI n9))] := hl
  have hP : gP D cy B z T I R s.heap := hP
  have hB : B ≤ s.heap.size := by rw [hP.1]; exact hP.2.1
  refine lv_iload_n X.1 X.2.1 dJ15_checkIndex_7cf53_0 rfl (lv_at hl 0 rfl) ?_
  refine lv_iload_n X.1 X.2.1 dJ15_checkIndex_7cf53_1 rfl (lv_at hl 1 rfl) ?_
  refine lv_null X.1 X.2.1 dJ15_checkIndex_7cf53_2 ?_
  refine g_run_i (f := fun u => u) (g_runS [.int (nI i9), .int (nI n9), .null] X hK hP hS hC hB (j_ci3 hi hn) (va_cwS 3 X.2.2.2.2 gJ15_checkIndex_7cf53_J3_checkIndex_8e157 rfl rfl rfl (by decide +kernel) ⟨Nat.le_of_ble_eq_true rfl, Nat.le_of_ble_eq_true rfl⟩) rfl hl.1 rfl (Nat.le_of_ble_eq_true rfl) dJ15_checkIndex_7cf53_3 (by exact ⟨Nat.zero_le _, Nat.zero_le _⟩)) hS (fun r u H locs hq hP hS => ?_)
  obtain ⟨rfl, rfl⟩ := hq
  have hP : gP D cy B z T I R H := hP
  exact g_iret (f := fun u => u) (z, T, I, R) X hr hlk hK hP hS dJ15_checkIndex_7cf53_6 ⟨rfl, rfl⟩

set_option maxHeartbeats 4000000 in
set_option maxRecDepth 100000 in
/-- j_ed -/
theorem j_ed {el i9 v : Nat} (htl : T lc = (9, 0)) (hel : R lc 1 = some el) (hte : T el = (6, 10)) (hre : R el i9 = some (ad (v + 128))) (hi : i9 < 10) : Met l yJx4a65c_elementData_915e3 wsJx4a65c_elementData_915e3 ({ frames := 0, cells := 0, slots := 0, locals := 0 }) (va_Pc [.ref lc, .int (nI i9)] (gW0 s0 D cy B (z, T, I, R))) (va_Qq (fun r u => r = some (ad (v + 128)) ∧ (z, T, I, R) = u) (fun u t => gW1 D cy B u t) (gA B)) 0 0 (gA B) := by
  refine g_met (maxL := 2) (ret := (some (.object "java/lang/Object"))) (by decide) rfl (Nat.le_of_ble_eq_true rfl) (fun p e s m args below meth c ls X hr hlk hnm hK hP hC hS hl => ?_)
  have hl : lv_has ls 2 [(0, .ref lc), (1, .int (nI i9))] := hl
  have hP : gP D cy B z T I R s.heap := hP
  have hB : B ≤ s.heap.size := by rw [hP.1]; exact hP.2.1
  have hinRJx4a65c : ∀ w ∈ wsJx4a65c0, w ∈ wsJx4a65c_elementData_915e3 := fun _ h => List.mem_cons_of_mem _ (List.mem_append_right _ h)
  have k9 : Cond.fieldLink RJx4a65c 9 "java/util/ArrayList" "elementData" "[Ljava/lang/Object;" ∈ wsJx4a65c_elementData_915e3 := by decide +kernel
  refine lv_aload_n X.1 X.2.1 dJx4a65c_elementData_915e3_0 rfl (lv_at hl 0 rfl) ?_
  refine g_getr 1 1 X hK hP htl rfl hinRJx4a65c rfl (by decide) k9 (fun _ h => h) dJx4a65c_elementData_915e3_1 (show va_rf (R lc 1) = .ref el from by rw [hel]; rfl) ?_
  refine lv_iload_n X.1 X.2.1 dJx4a65c_elementData_915e3_4 rfl (lv_at hl 1 rfl) ?_
  refine g_oaald i9 X hK hP hte (gIx_of (Eq.refl (nI i9)) (by omega) (by omega)) dJx4a65c_elementData_915e3_5 (show va_rf (R el i9) = .ref (ad (v + 128)) from by rw [hre]; rfl) ?_
  exact g_aret (f := fun u => u) (some (ad (v + 128))) (z, T, I, R) X hr (Or.inl ⟨_, rfl⟩) hlk hK hP hS dJx4a65c_elementData_915e3_6 rfl ⟨rfl, rfl⟩

set_option maxHeartbeats 4000000 in
set_option maxRecDepth 100000 in
/-- j_get -/
theorem j_get {el i9 v : Nat} (htl : T lc = (9, 0)) (hel : R lc 1 = some el) (hte : T el = (6, 10)) (hre : R el i9 = some (ad (v + 128))) {n9 : Nat} (hsz : I lc 2 = nI n9) (hi : i9 < n9) (hn : n9 ≤ 10) : Met l yJx4a65c_get_915e3 wsJx4a65c_get_915e3 ({ frames := 2, cells := 0, slots := 0, locals := 43 }) (va_Pc [.ref lc, .int (nI i9)] (gW0 s0 D cy B (z, T, I, R))) (va_Qq (fun r u => r = some (ad (v + 128)) ∧ (z, T, I, R) = u) (fun u t => gW1 D cy B u t) (gA B)) 0 0 (gA B) := by
  refine g_met (maxL := 2) (ret := (some (.object "java/lang/Object"))) (by decide) rfl (Nat.le_of_ble_eq_true rfl) (fun p e s m args below meth c ls X hr hlk hnm hK hP hC hS hl => ?_)
  have hl : lv_has ls 2 [(0, .ref lc), (1, .int (nI i9))] := hl
  have hP : gP D cy B z T I R s.heap := hP
  have hB : B ≤ s.heap.size := by rw [hP.1]; exact hP.2.1
  have hinRJx4a65c : ∀ w ∈ wsJx4a65c0, w ∈ wsJx4a65c_get_915e3 := fun _ h => List.mem_cons_of_mem _ (List.mem_append_right _ h)
  have k48 : Cond.fieldLink RJx4a65c 48 "java/util/ArrayList" "size" "I" ∈ wsJx4a65c_get_915e3 := by decide +kernel
  refine lv_iload_n X.1 X.2.1 dJx4a65c_get_915e3_0 rfl (lv_at hl 1 rfl) ?_
  refine lv_aload_n X.1 X.2.1 dJx4a65c_get_915e3_1 rfl (lv_at hl 0 rfl) ?_
  refine g_geti 1 2 X hK hP htl rfl hinRJx4a65c rfl (by decide) k48 (fun _ h => h) dJx4a65c_get_915e3_2 (show I lc 2 = nI n9 from hsz) ?_
  refine g_run_i (f := fun u => u) (g_runS [.int (nI i9), .int (nI n9)] X hK hP hS hC hB (j_ci15 hi (by omega)) (va_cwS 2 X.2.2.2.2 gJx4a65c_get_915e3_J15_checkIndex_7cf53 rfl rfl rfl (by decide +kernel) ⟨Nat.le_of_ble_eq_true rfl, Nat.le_of_ble_eq_true rfl⟩) rfl hl.1 rfl (Nat.le_of_ble_eq_true rfl) dJx4a65c_get_915e3_5 (by exact ⟨Nat.zero_le _, Nat.zero_le _⟩)) hS (fun r u H locs hq hP hS => ?_)
  obtain ⟨rfl, rfl⟩ := hq
  have hP : gP D cy B z T I R H := hP
  refine lv_pop X.1 X.2.1 dJx4a65c_get_915e3_8 rfl ?_
  refine lv_aload_n X.1 X.2.1 dJx4a65c_get_915e3_9 rfl (lv_at hl 0 rfl) ?_
  refine lv_iload_n X.1 X.2.1 dJx4a65c_get_915e3_10 rfl (lv_at hl 1 rfl) ?_
  refine g_run_q (f := fun u => u) (g_runV (k := 1) [.int (nI i9)] X hK hP hS hC hB (j_ed htl hel hte hre (by omega)) (cwV 1 X.2.2.2.2 gJx4a65c_get_915e3_Jx4a65c_elementData_915e3 rfl rfl rfl (by decide +kernel) ⟨Nat.le_of_ble_eq_true rfl, Nat.le_of_ble_eq_true rfl⟩) htl rfl rfl hl.1 rfl (Nat.le_of_ble_eq_true rfl) dJx4a65c_get_915e3_11 (by exact ⟨Nat.zero_le _, Nat.zero_le _⟩)) hS (fun r u H locs hq hP hS => ?_)
  obtain ⟨rfl, rfl⟩ := hq
  have hP : gP D cy B z T I R H := hP
  exact g_aret (f := fun u => u) (some (ad (v + 128))) (z, T, I, R) X hr (Or.inl ⟨_, rfl⟩) hlk hK hP hS dJx4a65c_get_915e3_14 rfl ⟨rfl, rfl⟩

set_option maxHeartbeats 4000000 in
set_option maxRecDepth 100000 in
/-- t_count_4 -/
theorem t_count_4 (hTp : cTop q nw kp tr T R) (hNw : cNw q nw T I R σ fl ti sh) (hG : sGd fl ti sh) (hb : sBd σ K) (hLs : cLs (q + 52) E ad T I R tl) : Met l yX11_count wsX11_count ({ frames := 1, cells := 0, slots := 0, locals := 20 }) (va_Pc [.ref q, .int 4] (gW0 s0 D cy B (z, T, I, R))) (va_Qi (fun r u => r = nI tl.length ∧ (z, T, I, R) = u) (fun u t => gW1 D cy B u t) (gA B)) 0 0 (gA B) := by
  refine g_met (maxL := 2) (ret := (some .int)) (by decide) rfl (Nat.le_of_ble_eq_true rfl) (fun p e s m args below meth c ls X hr hlk hnm hK hP hC hS hl => ?_)
  have hl : lv_has ls 2 [(0, .ref q), (1, .int 4)] := hl
  have hP : gP D cy B z T I R s.heap := hP
  have hB : B ≤ s.heap.size := by rw [hP.1]; exact hP.2.1
  have hinRX11 : ∀ w ∈ wsX110, w ∈ wsX11_count := fun _ h => List.mem_cons_of_mem _ (List.mem_append_left _ (List.mem_append_left _ (List.mem_append_right _ h)))
  have k17 : Cond.fieldLink RX11 17 "BarrowPlank" "now" "LBarrowPlank$Works;" ∈ wsX11_count := by decide +kernel
  have k39 : Cond.fieldLink RX11 39 "BarrowPlank" "bodies" "Ljava/util/ArrayList;" ∈ wsX11_count := by decide +kernel
  have k51 : Cond.fieldLink RX11 51 "BarrowPlank$Works" "signs" "I" ∈ wsX11_count := by decide +kernel
  have k59 : Cond.fieldLink RX11 59 "BarrowPlank$Works" "sites" "I" ∈ wsX11_count := by decide +kernel
  have k102 : Cond.fieldLink RX11 102 "BarrowPlank$Works" "crew" "I" ∈ wsX11_count := by decide +kernel
  have k197 : Cond.fieldLink RX11 197 "BarrowPlank$Works" "notes" "I" ∈ wsX11_count := by decide +kernel
  have hTp0 := hTp
  have hNw0 := hNw
  obtain ⟨hnw, hkp, htr, hTq, hR0, hR1, hR2, hR3, hR4, hN, hKp, hTr, hTrd, hTl⟩ := hTp
  obtain ⟨hA, hBb, hmen, hme, a, hsR, hst, hsi, hfa⟩ := hNw
  have h38 := hb.2.2.2.2.1
  have h0 := hb.1
  refine lv_iload_n X.1 X.2.1 dX11_count_0 rfl (lv_at hl 1 rfl) ?_
  refine lv_tableIn (off := 67) (tgt := 68) X.1 X.2.1 dX11_count_1 (by decide) (by decide) (by decide) (by decide) ?_
  refine lv_aload_n X.1 X.2.1 dX11_count_68 rfl (lv_at hl 0 rfl) ?_
  refine g_getr 13 4 X hK hP hTq rfl hinRX11 rfl (by decide) k39 (fun _ h => h) dX11_count_69 (show va_rf (R q 4) = .ref (q + 52) from by rw [hR4]; rfl) ?_
  refine g_run_i (f := fun u => u) (g_runV (k := 1) [] X hK hP hS hC hB (j_size hTl hLs.2.1) (cwV 0 X.2.2.2.2 gX11_count_Jx4a65c_size_8abf5 rfl rfl rfl (by decide +kernel) ⟨Nat.le_of_ble_eq_true rfl, Nat.le_of_ble_eq_true rfl⟩) hTl rfl rfl hl.1 rfl (Nat.le_of_ble_eq_true rfl) dX11_count_72 (by exact ⟨Nat.zero_le _, Nat.zero_le _⟩)) hS (fun r u H locs hq hP hS => ?_)
  obtain ⟨rfl, rfl⟩ := hq
  have hP : gP D cy B z T I R H := hP
  exact g_iret (f := fun u => u) (z, T, I, R) X hr hlk hK hP hS dX11_count_75 ⟨rfl, rfl⟩

theorem fnd_le2 {x : Int32} {n : Nat} (hn : n ≤ 100) (h : x < nI n) : x ≤ nI n - 1 := by
  rw [Int32.lt_iff_toInt_lt, nI_toInt (by omega)] at h
  rw [Int32.le_iff_toInt_le, Int32.toInt_sub, nI_toInt (by omega), Int.bmod_def]
  have h1 : (1 : Int32).toInt = 1 := by decide
  have h2 : -2147483648 ≤ x.toInt := Int32.le_toInt x
  rw [h1]
  omega
set_option maxHeartbeats 4000000 in
set_option maxRecDepth 100000 in
/-- t_trace_n -/
theorem t_trace_n (hTp : cTop q nw kp tr T R) (hNw : cNw q nw T I R σ fl ti sh) (hG : sGd fl ti sh) (hb : sBd σ K) (hLs : cLs (q + 52) E ad T I R tl) {x : Int32} (hbad : ¬ (0 ≤ x ∧ x ≤ nI tl.length - 1)) (hn : tl.length ≤ 10) : Met l yX11_trace wsX11_trace ({ frames := 1, cells := 0, slots := 0, locals := 20 }) (va_Pc [.ref q, .int x] (gW0 s0 D cy B (z, T, I, R))) (va_Qi (fun r u => r = -1 ∧ (z, T, I, R) = u) (fun u t => gW1 D cy B u t) (gA B)) 0 0 (gA B) := by
  refine g_met (maxL := 2) (ret := (some .int)) (by decide) rfl (Nat.le_of_ble_eq_true rfl) (fun p e s m args below meth c ls X hr hlk hnm hK hP hC hS hl => ?_)
  have hl : lv_has ls 2 [(0, .ref q), (1, .int x)] := hl
  have hP : gP D cy B z T I R s.heap := hP
  have hB : B ≤ s.heap.size := by rw [hP.1]; exact hP.2.1
  have hinRX11 : ∀ w ∈ wsX110, w ∈ wsX11_trace := fun _ h => List.mem_cons_of_mem _ (List.mem_append_left _ (List.mem_append_left _ (List.mem_append_right _ h)))
  have k39 : Cond.fieldLink RX11 39 "BarrowPlank" "bodies" "Ljava/util/ArrayList;" ∈ wsX11_trace := by decide +kernel
  have hTp0 := hTp
  have hNw0 := hNw
  obtain ⟨hnw, hkp, htr, hTq, hR0, hR1, hR2, hR3, hR4, hN, hKp, hTr, hTrd, hTl⟩ := hTp
  obtain ⟨hA, hBb, hmen, hme, a, hsR, hst, hsi, hfa⟩ := hNw
  have h38 := hb.2.2.2.2.1
  have h0 := hb.1
  refine lv_iload_n X.1 X.2.1 dX11_trace_0 rfl (lv_at hl 1 rfl) ?_
  refine lv_if_lt (tgt := 15) X.1 X.2.1 dX11_trace_1 (by decide) (fun c1 => ?_) (fun c1 => ?_)
  · refine lv_iconst (v := (-1)) X.1 X.2.1 dX11_trace_15 (by decide) ?_
    exact g_iret (f := fun u => u) (z, T, I, R) X hr hlk hK hP hS dX11_trace_16 ⟨rfl, rfl⟩
  · refine lv_iload_n X.1 X.2.1 dX11_trace_4 rfl (lv_at hl 1 rfl) ?_
    refine lv_aload_n X.1 X.2.1 dX11_trace_5 rfl (lv_at hl 0 rfl) ?_
    refine g_getr 13 4 X hK hP hTq rfl hinRX11 rfl (by decide) k39 (fun _ h => h) dX11_trace_6 (show va_rf (R q 4) = .ref (q + 52) from by rw [hR4]; rfl) ?_
    refine g_run_i (f := fun u => u) (g_runV (k := 1) [] X hK hP hS hC hB (j_size hTl hLs.2.1) (cwV 0 X.2.2.2.2 gX11_trace_Jx4a65c_size_8abf5 rfl rfl rfl (by decide +kernel) ⟨Nat.le_of_ble_eq_true rfl, Nat.le_of_ble_eq_true rfl⟩) hTl rfl rfl hl.1 rfl (Nat.le_of_ble_eq_true rfl) dX11_trace_9 (by exact ⟨Nat.zero_le _, Nat.zero_le _⟩)) hS (fun r u H locs hq hP hS => ?_)
    obtain ⟨rfl, rfl⟩ := hq
    have hP : gP D cy B z T I R H := hP
    refine lv_icmp_lt (tgt := 17) X.1 X.2.1 dX11_trace_12 (by decide) (fun c12 => ?_) (fun c12 => ?_)
    · exact absurd ⟨Int32.not_lt.mp c1, fnd_le2 (by omega) c12⟩ hbad
    · refine lv_iconst (v := (-1)) X.1 X.2.1 dX11_trace_15 (by decide) ?_
      exact g_iret (f := fun u => u) (z, T, I, R) X hr hlk hK hP hS dX11_trace_16 ⟨rfl, rfl⟩

set_option maxHeartbeats 4000000 in
set_option maxRecDepth 100000 in
/-- t_trace -/
theorem t_trace (hTp : cTop q nw kp tr T R) (hNw : cNw q nw T I R σ fl ti sh) (hG : sGd fl ti sh) (hb : sBd σ K) (hBx : gBx s0 B ad C E) (hLs : cLs (q + 52) E ad T I R tl) {i9 v9 : Nat} (hi9 : i9 < tl.length) (hn10 : tl.length ≤ 10) (hv : tl.getD i9 0 = v9) (hv9 : v9 ≤ 100) : Met l yX11_trace wsX11_trace ({ frames := 3, cells := 0, slots := 0, locals := 64 }) (va_Pc [.ref q, .int (nI i9)] (gW0 s0 D cy B (z, T, I, R))) (va_Qi (fun r u => r = nI v9 ∧ (z, T, I, R) = u) (fun u t => gW1 D cy B u t) (gA B)) 0 0 (gA B) := by
  refine g_met (maxL := 2) (ret := (some .int)) (by decide) rfl (Nat.le_of_ble_eq_true rfl) (fun p e s m args below meth c ls X hr hlk hnm hK hP hC hS hl => ?_)
  have hl : lv_has ls 2 [(0, .ref q), (1, .int (nI i9))] := hl
  have hP : gP D cy B z T I R s.heap := hP
  have hB : B ≤ s.heap.size := by rw [hP.1]; exact hP.2.1
  have hinRX11 : ∀ w ∈ wsX110, w ∈ wsX11_trace := fun _ h => List.mem_cons_of_mem _ (List.mem_append_left _ (List.mem_append_left _ (List.mem_append_right _ h)))
  have k39 : Cond.fieldLink RX11 39 "BarrowPlank" "bodies" "Ljava/util/ArrayList;" ∈ wsX11_trace := by decide +kernel
  have hTp0 := hTp
  have hNw0 := hNw
  obtain ⟨hnw, hkp, htr, hTq, hR0, hR1, hR2, hR3, hR4, hN, hKp, hTr, hTrd, hTl⟩ := hTp
  obtain ⟨hA, hBb, hmen, hme, a, hsR, hst, hsi, hfa⟩ := hNw
  have h38 := hb.2.2.2.2.1
  have h0 := hb.1
  have hBx0 := hBx
  replace hBx := hBx.now hC
  obtain ⟨el, hel, hq1, hte, -, hre⟩ : ∃ el, R (q + 52) 1 = some el ∧ q + 52 + 13 ≤ el ∧ T el = (6, 10) ∧ tl.length ≤ 10 ∧ ∀ i, i < tl.length → R el i = some (ad (tl.getD i 0 + 128)) := by rcases hLs.2.2 with ⟨rfl, -⟩ | h; (· exact absurd hi9 (Nat.not_lt_zero _)); exact h
  have hre := hre i9 hi9
  rw [hv] at hre
  refine lv_iload_n X.1 X.2.1 dX11_trace_0 rfl (lv_at hl 1 rfl) ?_
  refine lv_if_lt (tgt := 15) X.1 X.2.1 dX11_trace_1 (by decide) (fun c1 => ?_) (fun c1 => ?_)
  · exact absurd c1 (nI_pos (by omega))
  · have n1 : 0 ≤ i9 := gq_nlt c1 (Eq.refl (nI i9)) (show (0 : Int32) = nI 0 from rfl) (by omega) (by omega)
    refine lv_iload_n X.1 X.2.1 dX11_trace_4 rfl (lv_at hl 1 rfl) ?_
    refine lv_aload_n X.1 X.2.1 dX11_trace_5 rfl (lv_at hl 0 rfl) ?_
    refine g_getr 13 4 X hK hP hTq rfl hinRX11 rfl (by decide) k39 (fun _ h => h) dX11_trace_6 (show va_rf (R q 4) = .ref (q + 52) from by rw [hR4]; rfl) ?_
    refine g_run_i (f := fun u => u) (g_runV (k := 1) [] X hK hP hS hC hB (j_size hTl hLs.2.1) (cwV 0 X.2.2.2.2 gX11_trace_Jx4a65c_size_8abf5 rfl rfl rfl (by decide +kernel) ⟨Nat.le_of_ble_eq_true rfl, Nat.le_of_ble_eq_true rfl⟩) hTl rfl rfl hl.1 rfl (Nat.le_of_ble_eq_true rfl) dX11_trace_9 (by exact ⟨Nat.zero_le _, Nat.zero_le _⟩)) hS (fun r u H locs hq hP hS => ?_)
    obtain ⟨rfl, rfl⟩ := hq
    have hP : gP D cy B z T I R H := hP
    refine lv_icmp_lt (tgt := 17) X.1 X.2.1 dX11_trace_12 (by decide) (fun c12 => ?_) (fun c12 => ?_)
    · have n12 : i9 < tl.length := gq_lt c12 (Eq.refl (nI i9)) (Eq.refl (nI tl.length)) (by omega) (by omega)
      refine lv_aload_n X.1 X.2.1 dX11_trace_17 rfl (lv_at hl 0 rfl) ?_
      refine g_getr 13 4 X hK hP hTq rfl hinRX11 rfl (by decide) k39 (fun _ h => h) dX11_trace_18 (show va_rf (R q 4) = .ref (q + 52) from by rw [hR4]; rfl) ?_
      refine lv_iload_n X.1 X.2.1 dX11_trace_21 rfl (lv_at hl 1 rfl) ?_
      refine g_run_q (f := fun u => u) (g_runV (k := 1) [.int (nI i9)] X hK hP hS hC hB (j_get (lc := q + 52) hTl hel hte hre hLs.2.1 hi9 hn10) (cwV 1 X.2.2.2.2 gX11_trace_Jx4a65c_get_915e3 rfl rfl rfl (by decide +kernel) ⟨Nat.le_of_ble_eq_true rfl, Nat.le_of_ble_eq_true rfl⟩) hTl rfl rfl hl.1 rfl (Nat.le_of_ble_eq_true rfl) dX11_trace_22 (by exact ⟨Nat.zero_le _, Nat.zero_le _⟩)) hS (fun r u H locs hq hP hS => ?_)
      obtain ⟨rfl, rfl⟩ := hq
      have hP : gP D cy B z T I R H := hP
      refine va_castE (nm := "java/lang/Integer") X.1 X.2.1 X.2.2.2.1 (X.2.2.2.2 (.classLink RX11 164 "java/lang/Integer") (by decide +kernel)) (by obtain ⟨cl9, w1, w2, w3, -⟩ := (hBx.2.2.2.1.1 (v9 + 128) (by omega)).kept hS.2.1; exact ⟨cl9, w1, w2, w3⟩) dX11_trace_25 ?_
      refine g_run_i (f := fun u => u) (g_runVO [] X hK hP hS hC hB (j_intValue hBx0 hv9) (cwV 0 X.2.2.2.2 gX11_trace_J6_intValue_8abf5 rfl rfl rfl (by decide +kernel) ⟨Nat.le_of_ble_eq_true rfl, Nat.le_of_ble_eq_true rfl⟩) (hBx.2.2.2.1.1 (v9 + 128) (by omega)) rfl hl.1 rfl (Nat.le_of_ble_eq_true rfl) dX11_trace_28 (by exact ⟨Nat.zero_le _, Nat.zero_le _⟩)) hS (fun r u H locs hq hP hS => ?_)
      obtain ⟨rfl, rfl⟩ := hq
      have hP : gP D cy B z T I R H := hP
      exact g_iret (f := fun u => u) (z, T, I, R) X hr hlk hK hP hS dX11_trace_31 ⟨rfl, rfl⟩
    · exact absurd (nI_lt hi9 (by omega)) c12

end PY