section PV
variable {l : Launch} {s0 : State} {D : va_G} {cy : Nat → ClassId} {B z : Nat} {T : Nat → Nat × Nat} {I : Nat → Nat → Int32} {R : Nat → Nat → Option Nat} {ad : Nat → Nat} {C E lc : Nat} {tr : List Nat}
set_option maxHeartbeats 4000000 in
set_option maxRecDepth 100000 in
/-- j_valueOf -/
theorem j_valueOf (hBx : gBx s0 B ad C E) {v : Nat} (hv : v ≤ 100) : Met l yJ6_valueOf_2dffe wsJ6_valueOf_2dffe ({ frames := 0, cells := 0, slots := 0, locals := 0 }) (va_Pc [.int (nI v)] (gW0 s0 D cy B (z, T, I, R))) (va_Qq (fun r u => r = some (ad (v + 128)) ∧ (z, T, I, R) = u) (fun u t => gW1 D cy B u t) (gA B)) 0 0 (gA B) := by
  refine g_met (maxL := 1) (ret := (some (.object "java/lang/Integer"))) (by decide) rfl (Nat.le_of_ble_eq_true rfl) (fun p e s m args below meth c ls X hr hlk hnm hK hP hC hS hl => ?_)
  have hl : lv_has ls 1 [(0, .int (nI v))] := hl
  have hP : gP D cy B z T I R s.heap := hP
  have hB : B ≤ s.heap.size := by rw [hP.1]; exact hP.2.1
  replace hBx := hBx.now hC
  refine lv_iload_n X.1 X.2.1 dJ6_valueOf_2dffe_0 rfl (lv_at hl 0 rfl) ?_
  refine lv_bipush (v := (-128)) X.1 X.2.1 dJ6_valueOf_2dffe_1 (by decide) ?_
  refine lv_icmp_lt (tgt := 23) X.1 X.2.1 dJ6_valueOf_2dffe_3 (by decide) (fun c3 => ?_) (fun c3 => ?_)
  · exact absurd c3 (bx_lo hv)
  · refine lv_iload_n X.1 X.2.1 dJ6_valueOf_2dffe_6 rfl (lv_at hl 0 rfl) ?_
    refine va_gets X.1 X.2.1 hBx.1 hS X.2.2.2.1 (X.2.2.2.2 (.fieldLink RJ6 191 "java/lang/Integer$IntegerCache" "high" "I") (by decide +kernel)) (fun _ h => h) dJ6_valueOf_2dffe_7 ?_
    refine lv_icmp_gt (tgt := 23) X.1 X.2.1 dJ6_valueOf_2dffe_10 (by decide) (fun c10 => ?_) (fun c10 => ?_)
    · exact absurd (gq_lt c10 (show (127 : Int32) = nI 127 from rfl) (Eq.refl (nI v)) (by omega) (by omega)) (by omega)
    · have n10 : v ≤ 127 := gq_nlt c10 (show (127 : Int32) = nI 127 from rfl) (Eq.refl (nI v)) (by omega) (by omega)
      refine va_gets X.1 X.2.1 hBx.2.1 hS X.2.2.2.1 (X.2.2.2.2 (.fieldLink RJ6 195 "java/lang/Integer$IntegerCache" "cache" "[Ljava/lang/Integer;") (by decide +kernel)) (fun _ h => h) dJ6_valueOf_2dffe_13 ?_
      refine lv_iload_n X.1 X.2.1 dJ6_valueOf_2dffe_16 rfl (lv_at hl 0 rfl) ?_
      refine lv_sipush (v := 128) X.1 X.2.1 dJ6_valueOf_2dffe_17 (by decide) ?_
      refine lv_iadd X.1 X.2.1 dJ6_valueOf_2dffe_20 ?_
      refine vb_tq X.1 X.2.1 hBx.2.2.1 hS (v := .ref (ad (v + 128))) (gIx_of (n := 256) (show (nI v) + 128 = nI (v + 128) from (gn_add (Eq.refl (nI v)) (show (128 : Int32) = nI 128 from rfl))) (by omega) (by omega)).vp (by rw [(gIx_of (n := 256) (show (nI v) + 128 = nI (v + 128) from (gn_add (Eq.refl (nI v)) (show (128 : Int32) = nI 128 from rfl))) (by omega) (by omega)).nat]) dJ6_valueOf_2dffe_21 ?_
      exact g_aret (f := fun u => u) (some (ad (v + 128))) (z, T, I, R) X hr (Or.inl ⟨_, rfl⟩) hlk hK hP hS dJ6_valueOf_2dffe_22 rfl ⟨rfl, rfl⟩

set_option maxHeartbeats 4000000 in
set_option maxRecDepth 100000 in
/-- j_size -/
theorem j_size {n : Nat} (htl : T lc = (9, 0)) (hsz : I lc 2 = nI n) : Met l yJx4a65c_size_8abf5 wsJx4a65c_size_8abf5 ({ frames := 0, cells := 0, slots := 0, locals := 0 }) (va_Pc [.ref lc] (gW0 s0 D cy B (z, T, I, R))) (va_Qi (fun r u => r = nI n ∧ (z, T, I, R) = u) (fun u t => gW1 D cy B u t) (gA B)) 0 0 (gA B) := by
  refine g_met (maxL := 1) (ret := (some .int)) (by decide) rfl (Nat.le_of_ble_eq_true rfl) (fun p e s m args below meth c ls X hr hlk hnm hK hP hC hS hl => ?_)
  have hl : lv_has ls 1 [(0, .ref lc)] := hl
  have hP : gP D cy B z T I R s.heap := hP
  have hB : B ≤ s.heap.size := by rw [hP.1]; exact hP.2.1
  have hinRJx4a65c : ∀ w ∈ wsJx4a65c0, w ∈ wsJx4a65c_size_8abf5 := fun _ h => List.mem_cons_of_mem _ (List.mem_append_right _ h)
  have k48 : Cond.fieldLink RJx4a65c 48 "java/util/ArrayList" "size" "I" ∈ wsJx4a65c_size_8abf5 := by decide +kernel
  refine lv_aload_n X.1 X.2.1 dJx4a65c_size_8abf5_0 rfl (lv_at hl 0 rfl) ?_
  refine g_geti 1 2 X hK hP htl rfl hinRJx4a65c rfl (by decide) k48 (fun _ h => h) dJx4a65c_size_8abf5_1 (show I lc 2 = nI n from hsz) ?_
  exact g_iret (f := fun u => u) (z, T, I, R) X hr hlk hK hP hS dJx4a65c_size_8abf5_4 ⟨rfl, rfl⟩

set_option maxHeartbeats 4000000 in
set_option maxRecDepth 100000 in
/-- j_grow1 -/
theorem j_grow1 (hBx : gBx s0 B ad C E) (hAo : gWs s0 [.arrayOver (.object "java/lang/Object")]) (htl : T lc = (9, 0)) (hel : R lc 1 = some E) : Met l yJx4a65c_grow_92f84 wsJx4a65c_grow_92f84 ({ frames := 1, cells := 1, slots := 10, locals := 21 }) (va_Pc [.ref lc, .int (nI 1)] (gW0 s0 D cy B (z, T, I, R))) (va_Qq (fun r u => r = some z ∧ ∃ T' I' R', u = (z + 1, T', I', R') ∧ T' z = (6, 10) ∧ R' lc 1 = some z ∧ (∀ c, c ≠ z → T' c = T c) ∧ (∀ c j, c ≠ z → I' c j = I c j) ∧ ∀ c j, c ≠ z → ¬ (c = lc ∧ j = 1) → R' c j = R c j) (fun u t => gW1 D cy B u t) (gA B)) 1 10 (gA B) := by
  refine g_met (maxL := 4) (ret := (some (.array (.object "java/lang/Object")))) (by decide) rfl (Nat.le_of_ble_eq_true rfl) (fun p e s m args below meth c ls X hr hlk hnm hK hP hC hS hl => ?_)
  have hl : lv_has ls 4 [(0, .ref lc), (1, .int (nI 1))] := hl
  have hP : gP D cy B z T I R s.heap := hP
  have hB : B ≤ s.heap.size := by rw [hP.1]; exact hP.2.1
  have hinRJx4a65c : ∀ w ∈ wsJx4a65c0, w ∈ wsJx4a65c_grow_92f84 := fun _ h => List.mem_cons_of_mem _ (List.mem_append_right _ h)
  have k9 : Cond.fieldLink RJx4a65c 9 "java/util/ArrayList" "elementData" "[Ljava/lang/Object;" ∈ wsJx4a65c_grow_92f84 := by decide +kernel
  replace hBx := hBx.now hC
  have hlz : lc < z := hP.lt (by rw [htl]; decide)
  refine lv_aload_n X.1 X.2.1 dJx4a65c_grow_92f84_0 rfl (lv_at hl 0 rfl) ?_
  refine g_getr 1 1 X hK hP htl rfl hinRJx4a65c rfl (by decide) k9 (fun _ h => h) dJx4a65c_grow_92f84_1 (show va_rf (R lc 1) = .ref E from by rw [hel]; rfl) ?_
  refine va_tlen X.1 X.2.1 hBx.2.2.2.2.2.1 hS (v := 0) rfl dJx4a65c_grow_92f84_4 ?_
  refine lv_istore_n (lv' := [(2, .int 0), (0, .ref lc), (1, .int (nI 1))]) X.1 X.2.1 dJx4a65c_grow_92f84_5 rfl hl (by decide) rfl (fun ls hl => ?_)
  refine lv_iload_n X.1 X.2.1 dJx4a65c_grow_92f84_6 rfl (lv_at hl 0 rfl) ?_
  refine lv_if_gt (tgt := 20) X.1 X.2.1 dJx4a65c_grow_92f84_7 (by decide) (fun c7 => ?_) (fun c7 => ?_)
  · exact absurd c7 (by decide)
  · have n7 : 0 ≤ 0 := gq_nlt c7 (show (0 : Int32) = nI 0 from rfl) (show (0 : Int32) = nI 0 from rfl) (by omega) (by omega)
    refine lv_aload_n X.1 X.2.1 dJx4a65c_grow_92f84_10 rfl (lv_at hl 1 rfl) ?_
    refine g_getr 1 1 X hK hP htl rfl hinRJx4a65c rfl (by decide) k9 (fun _ h => h) dJx4a65c_grow_92f84_11 (show va_rf (R lc 1) = .ref E from by rw [hel]; rfl) ?_
    refine va_gets X.1 X.2.1 hBx.2.2.2.2.1 hS X.2.2.2.1 (X.2.2.2.2 (.fieldLink RJx4a65c 39 "java/util/ArrayList" "DEFAULTCAPACITY_EMPTY_ELEMENTDATA" "[Ljava/lang/Object;") (by decide +kernel)) (fun _ h => h) dJx4a65c_grow_92f84_14 ?_
    refine lv_acmp_eq (rx := some E) (ry := some E) (tgt := 45) X.1 X.2.1 dJx4a65c_grow_92f84_17 (by decide) (fun _ => ?_) (fun h9 => absurd rfl h9)
    refine lv_aload_n X.1 X.2.1 dJx4a65c_grow_92f84_45 rfl (lv_at hl 1 rfl) ?_
    refine lv_bipush (v := 10) X.1 X.2.1 dJx4a65c_grow_92f84_46 (by decide) ?_
    refine lv_iload_n X.1 X.2.1 dJx4a65c_grow_92f84_48 rfl (lv_at hl 2 rfl) ?_
    refine va_mmax X.1 X.2.1 (X.2.2.1.trans hl.1.symm) X.2.2.2.1 (X.2.2.2.2 (.methodLink RJx4a65c 79 Lib.Math.max.name) (by decide +kernel)) (X.2.2.2.2 (.static Lib.Math.max.name) (by decide +kernel)) (X.2.2.2.2 (.initialized "java/lang/Math") (by decide +kernel)) (X.2.2.2.2 (.code Lib.Math.max.name Lib.Math.max.code 2 (some .int)) (by decide +kernel)) (Nat.le_of_ble_eq_true rfl) (Nat.le_of_ble_eq_true rfl) (Nat.zero_le _) (Nat.zero_le _) dJx4a65c_grow_92f84_49 ?_
    refine lv_cv (gm_max (show (10 : Int32) = nI 10 from rfl) (Eq.refl (nI 1)) (by omega) (by omega)) ?_
    refine g_anewO (k := 6) (t0 := 5) (C := "java/lang/Object") X hK hP hS (index := 7) (by decide +kernel) (va_AO.of (hAo.at (args := args) hC (by simp))) rfl (N := 10) (fun T I R a h => gE_objs h) (by decide) (by decide) (Nat.le_of_ble_eq_true rfl) (Nat.le_of_ble_eq_true rfl) dJx4a65c_grow_92f84_52 (fun H hP hS => ?_)
    generalize eT1 : g1 T z (6, 10) = T1 at hP
    generalize eI2 : gr I z (fun _ => 0) = I2 at hP
    generalize eR3 : gr R z (fun _ => none) = R3 at hP
    have hT1z : T1 z = (6, 10) := by rw [← eT1]; exact g1_same
    have hT1n : ∀ c, c ≠ z → T1 c = T c := fun c h => by rw [← eT1]; exact g1_ne h
    have hI2n : ∀ c j, c ≠ z → I2 c j = I c j := fun c j h => by rw [← eI2, gr_row h]
    have hI2z : ∀ j, I2 z j = 0 := fun j => by rw [← eI2, gr_at]
    have hR3n : ∀ c j, c ≠ z → R3 c j = R c j := fun c j h => by rw [← eR3, gr_row h]
    have hR3z : ∀ j, R3 z j = none := fun j => by rw [← eR3, gr_at]
    have htl := (hT1n lc (by omega)).trans htl
    refine lv_dup_x1 X.1 X.2.1 dJx4a65c_grow_92f84_55 rfl rfl ?_
    refine g_putr 1 1 X hK hP hS htl rfl hinRJx4a65c tyJx4a65c tyJx4a65c_ok nmJx4a65c rfl (by decide) k9 (fun _ h => h) rfl (r := some z) rfl rfl rfl dJx4a65c_grow_92f84_56 (fun H locs hP hS => ?_)
    generalize eR4 : g2 R3 lc 1 (some z) = R4 at hP
    exact g_aret (f := fun u => u) (some z) ((z + 1), T1, I2, R4) X hr (Or.inr ⟨_, rfl⟩) hlk hK hP hS dJx4a65c_grow_92f84_59 rfl ⟨rfl, T1, I2, R4, rfl, hT1z, gs_atR eR4 rfl rfl, hT1n, hI2n, fun c j h1 h2 => gs_neR eR4 (by omega) (hR3n c j h1)⟩

set_option maxHeartbeats 4000000 in
set_option maxRecDepth 100000 in
/-- j_grow -/
theorem j_grow (hBx : gBx s0 B ad C E) (hAo : gWs s0 [.arrayOver (.object "java/lang/Object")]) (htl : T lc = (9, 0)) (hel : R lc 1 = some E) (hsz : I lc 2 = 0) : Met l yJx4a65c_grow_d5877 wsJx4a65c_grow_d5877 ({ frames := 2, cells := 1, slots := 10, locals := 44 }) (va_Pc [.ref lc] (gW0 s0 D cy B (z, T, I, R))) (va_Qq (fun r u => r = some z ∧ ∃ T' I' R', u = (z + 1, T', I', R') ∧ T' z = (6, 10) ∧ R' lc 1 = some z ∧ (∀ c, c ≠ z → T' c = T c) ∧ (∀ c j, c ≠ z → I' c j = I c j) ∧ ∀ c j, c ≠ z → ¬ (c = lc ∧ j = 1) → R' c j = R c j) (fun u t => gW1 D cy B u t) (gA B)) 1 10 (gA B) := by
  refine g_met (maxL := 1) (ret := (some (.array (.object "java/lang/Object")))) (by decide) rfl (Nat.le_of_ble_eq_true rfl) (fun p e s m args below meth c ls X hr hlk hnm hK hP hC hS hl => ?_)
  have hl : lv_has ls 1 [(0, .ref lc)] := hl
  have hP : gP D cy B z T I R s.heap := hP
  have hB : B ≤ s.heap.size := by rw [hP.1]; exact hP.2.1
  have hinRJx4a65c : ∀ w ∈ wsJx4a65c0, w ∈ wsJx4a65c_grow_d5877 := fun _ h => List.mem_cons_of_mem _ (List.mem_append_right _ h)
  have k48 : Cond.fieldLink RJx4a65c 48 "java/util/ArrayList" "size" "I" ∈ wsJx4a65c_grow_d5877 := by decide +kernel
  refine lv_aload_n X.1 X.2.1 dJx4a65c_grow_d5877_0 rfl (lv_at hl 0 rfl) ?_
  refine lv_aload_n X.1 X.2.1 dJx4a65c_grow_d5877_1 rfl (lv_at hl 0 rfl) ?_
  refine g_geti 1 2 X hK hP htl rfl hinRJx4a65c rfl (by decide) k48 (fun _ h => h) dJx4a65c_grow_d5877_2 (show I lc 2 = 0 from hsz) ?_
  refine lv_iconst (v := 1) X.1 X.2.1 dJx4a65c_grow_d5877_5 (by decide) ?_
  refine lv_iadd X.1 X.2.1 dJx4a65c_grow_d5877_6 ?_
  refine lv_cv (gn_add (show (0 : Int32) = nI 0 from rfl) (show (1 : Int32) = nI 1 from rfl)) ?_
  refine g_run_q (f := fun u => u) (g_runV (k := 1) [.int (nI (0 + 1))] X hK hP hS hC hB (j_grow1 hBx hAo htl hel) (cwV 1 X.2.2.2.2 gJx4a65c_grow_d5877_Jx4a65c_grow_92f84 rfl rfl rfl (by decide +kernel) ⟨Nat.le_of_ble_eq_true rfl, Nat.le_of_ble_eq_true rfl⟩) htl rfl rfl hl.1 rfl (Nat.le_of_ble_eq_true rfl) dJx4a65c_grow_d5877_7 ⟨Nat.le_of_ble_eq_true rfl, Nat.le_of_ble_eq_true rfl⟩) hS (fun r u H locs hq hP hS => ?_)
  obtain ⟨rfl, T9, I9, R9, rfl, hx1, hx2, hx3, hx4, hx5⟩ := hq
  have hP : gP D cy B (z + 1) T9 I9 R9 H := hP
  exact g_aret (f := fun u => u) (some z) (z + 1, T9, I9, R9) X hr (Or.inr ⟨_, rfl⟩) hlk hK hP hS dJx4a65c_grow_d5877_10 rfl ⟨rfl, T9, I9, R9, rfl, hx1, hx2, hx3, hx4, hx5⟩

end PV