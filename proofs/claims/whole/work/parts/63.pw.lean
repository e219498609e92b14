section PW
variable {l : Launch} {s0 : State} {D : va_G} {cy : Nat → ClassId} {B z : Nat} {T : Nat → Nat × Nat} {I : Nat → Nat → Int32} {R : Nat → Nat → Option Nat} {ad : Nat → Nat} {C E lc : Nat} {tr : List Nat}
set_option maxHeartbeats 4000000 in
set_option maxRecDepth 100000 in
/-- j_addA -/
theorem j_addA (hBx : gBx s0 B ad C E) (hAo : gWs s0 [.arrayOver (.object "java/lang/Object")]) {el n v : Nat} (hv : v ≤ 100) (htl : T lc = (9, 0)) (hte : T el = (6, 10)) (hn : n < 10) : Met l yJx4a65c_add_72be8 wsJx4a65c_add_72be8 ({ frames := 0, cells := 1, slots := 10, locals := 0 }) (va_Pc [.ref lc, .ref (ad (v + 128)), .ref el, .int (nI n)] (gW0 s0 D cy B (z, T, I, R))) (va_Qv (fun u => u = (z, T, g2 I lc 2 (nI n + 1), g2 R el n (some (ad (v + 128))))) (fun u t => gW1 D cy B u t) (gA B)) 1 10 (gA B) := by
  refine g_met (maxL := 4) (ret := none) (by decide) rfl (Nat.le_of_ble_eq_true rfl) (fun p e s m args below meth c ls X hr hlk hnm hK hP hC hS hl => ?_)
  have hl : lv_has ls 4 [(0, .ref lc), (1, .ref (ad (v + 128))), (2, .ref el), (3, .int (nI n))] := hl
  have hP : gP D cy B z T I R s.heap := hP
  have hB : B ≤ s.heap.size := by rw [hP.1]; exact hP.2.1
  have hinRJx4a65c : ∀ w ∈ wsJx4a65c0, w ∈ wsJx4a65c_add_72be8 := fun _ h => List.mem_cons_of_mem _ (List.mem_append_right _ h)
  have k48 : Cond.fieldLink RJx4a65c 48 "java/util/ArrayList" "size" "I" ∈ wsJx4a65c_add_72be8 := by decide +kernel
  replace hBx := hBx.now hC
  refine lv_iload_n X.1 X.2.1 dJx4a65c_add_72be8_0 rfl (lv_at hl 3 rfl) ?_
  refine lv_aload_n X.1 X.2.1 dJx4a65c_add_72be8_1 rfl (lv_at hl 2 rfl) ?_
  refine g_alen X hK hP hte (by decide) (by decide) (v := 10) rfl dJx4a65c_add_72be8_2 ?_
  refine lv_icmp_ne (tgt := 11) X.1 X.2.1 dJx4a65c_add_72be8_3 (by decide) (fun c3 => ?_) (fun c3 => ?_)
  · have n3 : ¬ n = 10 := gq_ne c3 (Eq.refl (nI n)) (show (10 : Int32) = nI 10 from rfl) (by omega) (by omega)
    refine lv_aload_n X.1 X.2.1 dJx4a65c_add_72be8_11 rfl (lv_at hl 2 rfl) ?_
    refine lv_iload_n X.1 X.2.1 dJx4a65c_add_72be8_12 rfl (lv_at hl 3 rfl) ?_
    refine lv_aload_n X.1 X.2.1 dJx4a65c_add_72be8_13 rfl (lv_at hl 1 rfl) ?_
    refine g_aast (kA := 5) (t0 := 5) (E := "java/lang/Object") n X hK hP hS hte (fun R => gE_objs hte) rfl (g_anyI hS hBx (k := v + 128) (by omega)) (gIx_of (Eq.refl (nI n)) (by omega) (by omega)) dJx4a65c_add_72be8_14 (fun H locs hP hS => ?_)
    generalize eR1 : g2 R el n (some (ad (v + 128))) = R1 at hP
    refine lv_aload_n X.1 X.2.1 dJx4a65c_add_72be8_15 rfl (lv_at hl 0 rfl) ?_
    refine lv_iload_n X.1 X.2.1 dJx4a65c_add_72be8_16 rfl (lv_at hl 3 rfl) ?_
    refine lv_iconst (v := 1) X.1 X.2.1 dJx4a65c_add_72be8_17 (by decide) ?_
    refine lv_iadd X.1 X.2.1 dJx4a65c_add_72be8_18 ?_
    refine g_puti 1 2 X hK hP hS htl rfl hinRJx4a65c tyJx4a65c tyJx4a65c_ok nmJx4a65c rfl (by decide) k48 (fun _ h => h) rfl rfl rfl dJx4a65c_add_72be8_19 (fun H locs hP hS => ?_)
    generalize eI2 : g2 I lc 2 ((nI n) + 1) = I2 at hP
    refine g_pad (cells' := 1) (slots' := 10) (Nat.le_of_ble_eq_true rfl) (Nat.le_of_ble_eq_true rfl) ?_
    exact g_vret (f := fun u => u) (z, T, I2, R1) X hr hlk hK hP hS dJx4a65c_add_72be8_22 (by rw [← eI2, ← eR1])
  · exact absurd (gq_eq c3 (Eq.refl (nI n)) (show (10 : Int32) = nI 10 from rfl) (by omega) (by omega)) (by omega)

set_option maxHeartbeats 4000000 in
set_option maxRecDepth 100000 in
/-- j_addB -/
theorem j_addB (hBx : gBx s0 B ad C E) (hAo : gWs s0 [.arrayOver (.object "java/lang/Object")]) {v : Nat} (hv : v ≤ 100) (htl : T lc = (9, 0)) (hel : R lc 1 = some E) (hsz : I lc 2 = 0) : Met l yJx4a65c_add_72be8 wsJx4a65c_add_72be8 ({ frames := 3, cells := 1, slots := 10, locals := 64 }) (va_Pc [.ref lc, .ref (ad (v + 128)), .ref E, .int 0] (gW0 s0 D cy B (z, T, I, R))) (va_Qv (fun u => ∃ T' I' R', u = (z + 1, T', I', R') ∧ T' z = (6, 10) ∧ R' lc 1 = some z ∧ R' z 0 = some (ad (v + 128)) ∧ I' lc 2 = 0 + 1 ∧ (∀ c, c ≠ z → T' c = T c) ∧ (∀ c j, c ≠ z → ¬ (c = lc ∧ j = 2) → I' c j = I c j) ∧ ∀ c j, c ≠ z → ¬ (c = lc ∧ j = 1) → R' c j = R c j) (fun u t => gW1 D cy B u t) (gA B)) 1 10 (gA B) := by
  refine g_met (maxL := 4) (ret := none) (by decide) rfl (Nat.le_of_ble_eq_true rfl) (fun p e s m args below meth c ls X hr hlk hnm hK hP hC hS hl => ?_)
  have hl : lv_has ls 4 [(0, .ref lc), (1, .ref (ad (v + 128))), (2, .ref E), (3, .int 0)] := hl
  have hP : gP D cy B z T I R s.heap := hP
  have hB : B ≤ s.heap.size := by rw [hP.1]; exact hP.2.1
  have hinRJx4a65c : ∀ w ∈ wsJx4a65c0, w ∈ wsJx4a65c_add_72be8 := fun _ h => List.mem_cons_of_mem _ (List.mem_append_right _ h)
  have k48 : Cond.fieldLink RJx4a65c 48 "java/util/ArrayList" "size" "I" ∈ wsJx4a65c_add_72be8 := by decide +kernel
  have hBx0 := hBx
  replace hBx := hBx.now hC
  have hlz : lc < z := hP.lt (by rw [htl]; decide)
  refine lv_iload_n X.1 X.2.1 dJx4a65c_add_72be8_0 rfl (lv_at hl 3 rfl) ?_
  refine lv_aload_n X.1 X.2.1 dJx4a65c_add_72be8_1 rfl (lv_at hl 2 rfl) ?_
  refine va_tlen X.1 X.2.1 hBx.2.2.2.2.2.1 hS (v := 0) rfl dJx4a65c_add_72be8_2 ?_
  refine lv_icmp_ne (tgt := 11) X.1 X.2.1 dJx4a65c_add_72be8_3 (by decide) (fun c3 => ?_) (fun c3 => ?_)
  · exact absurd rfl c3
  · have n3 : 0 = 0 := gq_eq c3 (show (0 : Int32) = nI 0 from rfl) (show (0 : Int32) = nI 0 from rfl) (by omega) (by omega)
    refine lv_aload_n X.1 X.2.1 dJx4a65c_add_72be8_6 rfl (lv_at hl 0 rfl) ?_
    refine g_run_q (f := fun u => u) (g_runV (k := 1) [] X hK hP hS hC hB (j_grow hBx0 hAo htl hel hsz) (cwV 0 X.2.2.2.2 gJx4a65c_add_72be8_Jx4a65c_grow_d5877 rfl rfl rfl (by decide +kernel) ⟨Nat.le_of_ble_eq_true rfl, Nat.le_of_ble_eq_true rfl⟩) htl rfl rfl hl.1 rfl (Nat.le_of_ble_eq_true rfl) dJx4a65c_add_72be8_7 ⟨Nat.le_of_ble_eq_true rfl, Nat.le_of_ble_eq_true rfl⟩) hS (fun r u H locs hq hP hS => ?_)
    obtain ⟨rfl, T9, I9, R9, rfl, hx1, hx2, hx3, hx4, hx5⟩ := hq
    have hP : gP D cy B (z + 1) T9 I9 R9 H := hP
    have htl := (hx3 lc (by omega)).trans htl
    refine lv_astore_n (lv' := [(2, .ref z), (0, .ref lc), (1, .ref (ad (v + 128))), (3, .int 0)]) X.1 X.2.1 dJx4a65c_add_72be8_10 rfl hl (by decide) rfl (fun ls hl => ?_)
    refine lv_aload_n X.1 X.2.1 dJx4a65c_add_72be8_11 rfl (lv_at hl 0 rfl) ?_
    refine lv_iload_n X.1 X.2.1 dJx4a65c_add_72be8_12 rfl (lv_at hl 3 rfl) ?_
    refine lv_aload_n X.1 X.2.1 dJx4a65c_add_72be8_13 rfl (lv_at hl 2 rfl) ?_
    refine g_aast (kA := 5) (t0 := 5) (E := "java/lang/Object") 0 X hK hP hS hx1 (fun R => gE_objs hx1) rfl (g_anyI hS hBx (k := v + 128) (by omega)) (gIx_of (show (0 : Int32) = nI 0 from rfl) (by omega) (by omega)) dJx4a65c_add_72be8_14 (fun H locs hP hS => ?_)
    generalize eR1 : g2 R9 z 0 (some (ad (v + 128))) = R1 at hP
    refine lv_aload_n X.1 X.2.1 dJx4a65c_add_72be8_15 rfl (lv_at hl 1 rfl) ?_
    refine lv_iload_n X.1 X.2.1 dJx4a65c_add_72be8_16 rfl (lv_at hl 3 rfl) ?_
    refine lv_iconst (v := 1) X.1 X.2.1 dJx4a65c_add_72be8_17 (by decide) ?_
    refine lv_iadd X.1 X.2.1 dJx4a65c_add_72be8_18 ?_
    refine g_puti 1 2 X hK hP hS htl rfl hinRJx4a65c tyJx4a65c tyJx4a65c_ok nmJx4a65c rfl (by decide) k48 (fun _ h => h) rfl rfl rfl dJx4a65c_add_72be8_19 (fun H locs hP hS => ?_)
    generalize eI2 : g2 I9 lc 2 (0 + 1) = I2 at hP
    exact g_vret (f := fun u => u) (z + 1, T9, I2, R1) X hr hlk hK hP hS dJx4a65c_add_72be8_22 ⟨T9, I2, R1, rfl, hx1, gs_neR eR1 (by omega) hx2, gs_atR eR1 rfl rfl, gs_at eI2 rfl rfl, hx3, (fun c j h1 h2 => gs_ne eI2 (by omega) (hx4 c j h1)), fun c j h1 h2 => gs_neR eR1 (by omega) (hx5 c j h1 h2)⟩

theorem cLs_a {z el v : Nat} {I1 I2 : Nat → Nat → Int32} {R1 : Nat → Nat → Option Nat} {x : Int32} (hlc : lc < z) (htl : T lc = (9, 0)) (hel : R lc 1 = some el) (hq : lc + 13 ≤ el) (hte : T el = (6, 10)) (hn : tr.length < 10) (hr : ∀ i, i < tr.length → R el i = some (ad (tr.getD i 0 + 128))) (e1 : g2 I lc 0 x = I1) (e2 : g2 I1 lc 2 (nI tr.length + 1) = I2) (e3 : g2 R el tr.length (some (ad (v + 128))) = R1) : cLs lc E ad T I2 R1 (tr ++ [v]) ∧ gLf lc z z T T I I2 R R1 := by
  refine ⟨⟨htl, ?_, Or.inr ⟨el, gs_neR e3 (by omega) hel, hq, hte, by simp; omega, fun i hi => ?_⟩⟩, Nat.le_refl _, fun _ _ => rfl, fun c j h1 h2 => gs_ne e2 (by omega) (gs_ne e1 (by omega) rfl), fun c j h1 h2 h3 => gs_neR e3 (fun g => h3 (by rw [g.1]; exact hel)) rfl, fun c h1 h2 => ?_⟩
  · rw [gs_same e2, List.length_append]
    exact nI_add tr.length 1
  · rw [List.length_append] at hi
    by_cases g : i = tr.length
    · subst g
      rw [tr_new]
      exact gs_atR e3 rfl rfl
    · have hi2 : i < tr.length := by simp at hi; omega
      rw [tr_get hi2]
      exact gs_neR e3 (by omega) (hr i hi2)
  · rw [gs_neR e3 (by omega) hel] at h2
    rw [hel]
    exact h2
theorem cLs_b {z v : Nat} {T' : Nat → Nat × Nat} {I1 I2 : Nat → Nat → Int32} {R1 : Nat → Nat → Option Nat} {x : Int32} (hz : lc + 13 ≤ z) (htl : T lc = (9, 0)) (h1 : T' z = (6, 10)) (h2 : R1 lc 1 = some z) (h3 : R1 z 0 = some (ad (v + 128))) (h4 : I2 lc 2 = 0 + 1) (h5 : ∀ c, c ≠ z → T' c = T c) (h6 : ∀ c j, c ≠ z → ¬ (c = lc ∧ j = 2) → I2 c j = I1 c j) (h7 : ∀ c j, c ≠ z → ¬ (c = lc ∧ j = 1) → R1 c j = R c j) (e1 : g2 I lc 0 x = I1) : cLs lc E ad T' I2 R1 [v] ∧ gLf lc z (z + 1) T T' I I2 R R1 := by
  refine ⟨⟨(h5 lc (by omega)).trans htl, h4, Or.inr ⟨z, h2, hz, h1, by simp, fun i hi => ?_⟩⟩, by omega, fun c hc => h5 c (by omega), fun c j hc hn => (h6 c j (by omega) (by omega)).trans (gs_ne e1 (by omega) rfl), fun c j hc hn _ => h7 c j (by omega) (by omega), fun c hc g => ?_⟩
  · have hi2 : i = 0 := by simp at hi; omega
    subst hi2
    exact h3
  · rw [h2] at g
    exact absurd (Option.some.inj g) (by omega)
set_option maxHeartbeats 4000000 in
set_option maxRecDepth 100000 in
/-- j_add -/
theorem j_add (hBx : gBx s0 B ad C E) (hAo : gWs s0 [.arrayOver (.object "java/lang/Object")]) {v : Nat} (hv : v ≤ 100) (hz13 : lc + 13 ≤ z) (hLs : cLs lc E ad T I R tr) (hn10 : tr.length < 10) : Met l yJx4a65c_add_9ea2d wsJx4a65c_add_9ea2d ({ frames := 4, cells := 1, slots := 10, locals := 87 }) (va_Pc [.ref lc, .ref (ad (v + 128))] (gW0 s0 D cy B (z, T, I, R))) (va_Qi (fun r u => r = 1 ∧ ∃ z' T' I' R', u = (z', T', I', R') ∧ cLs lc E ad T' I' R' (tr ++ [v]) ∧ gLf lc z z' T T' I I' R R') (fun u t => gW1 D cy B u t) (gA B)) 1 10 (gA B) := by
  refine g_met (maxL := 2) (ret := (some .boolean)) (by decide) rfl (Nat.le_of_ble_eq_true rfl) (fun p e s m args below meth c ls X hr hlk hnm hK hP hC hS hl => ?_)
  have hl : lv_has ls 2 [(0, .ref lc), (1, .ref (ad (v + 128)))] := hl
  have hP : gP D cy B z T I R s.heap := hP
  have hB : B ≤ s.heap.size := by rw [hP.1]; exact hP.2.1
  have hinRJx4a65c : ∀ w ∈ wsJx4a65c0, w ∈ wsJx4a65c_add_9ea2d := fun _ h => List.mem_cons_of_mem _ (List.mem_append_right _ h)
  have k9 : Cond.fieldLink RJx4a65c 9 "java/util/ArrayList" "elementData" "[Ljava/lang/Object;" ∈ wsJx4a65c_add_9ea2d := by decide +kernel
  have k48 : Cond.fieldLink RJx4a65c 48 "java/util/ArrayList" "size" "I" ∈ wsJx4a65c_add_9ea2d := by decide +kernel
  have k63 : Cond.fieldLink RJx4a65c 63 "java/util/ArrayList" "modCount" "I" ∈ wsJx4a65c_add_9ea2d := by decide +kernel
  have hBx0 := hBx
  replace hBx := hBx.now hC
  obtain ⟨htl, hsz, hcs⟩ := hLs
  have hlz : lc < z := hP.lt (by rw [htl]; decide)
  rcases hcs with ⟨rfl, hel⟩ | ⟨el, hel, hq1, hte, hn9, hre⟩
  · refine lv_aload_n X.1 X.2.1 dJx4a65c_add_9ea2d_0 rfl (lv_at hl 0 rfl) ?_
    refine lv_dup X.1 X.2.1 dJx4a65c_add_9ea2d_1 rfl ?_
    refine g_geti 1 0 X hK hP htl rfl hinRJx4a65c rfl (by decide) k63 (u_same (X.2.2.2.2 (.sameField "java/util/ArrayList" "java/util/AbstractList" "modCount" "I") (by decide +kernel))) dJx4a65c_add_9ea2d_2 (show I lc 0 = I lc 0 from rfl) ?_
    refine lv_iconst (v := 1) X.1 X.2.1 dJx4a65c_add_9ea2d_5 (by decide) ?_
    refine lv_iadd X.1 X.2.1 dJx4a65c_add_9ea2d_6 ?_
    refine g_puti 1 0 X hK hP hS htl rfl hinRJx4a65c tyJx4a65c tyJx4a65c_ok nmJx4a65c rfl (by decide) k63 (u_same (X.2.2.2.2 (.sameField "java/util/ArrayList" "java/util/AbstractList" "modCount" "I") (by decide +kernel))) rfl rfl rfl dJx4a65c_add_9ea2d_7 (fun H locs hP hS => ?_)
    generalize eI1 : g2 I lc 0 ((I lc 0) + 1) = I1 at hP
    refine lv_aload_n X.1 X.2.1 dJx4a65c_add_9ea2d_10 rfl (lv_at hl 0 rfl) ?_
    refine lv_aload_n X.1 X.2.1 dJx4a65c_add_9ea2d_11 rfl (lv_at hl 1 rfl) ?_
    refine lv_aload_n X.1 X.2.1 dJx4a65c_add_9ea2d_12 rfl (lv_at hl 0 rfl) ?_
    refine g_getr 1 1 X hK hP htl rfl hinRJx4a65c rfl (by decide) k9 (fun _ h => h) dJx4a65c_add_9ea2d_13 (show va_rf (R lc 1) = .ref E from by rw [hel]; rfl) ?_
    refine lv_aload_n X.1 X.2.1 dJx4a65c_add_9ea2d_16 rfl (lv_at hl 0 rfl) ?_
    refine g_geti 1 2 X hK hP htl rfl hinRJx4a65c rfl (by decide) k48 (fun _ h => h) dJx4a65c_add_9ea2d_17 (show I1 lc 2 = 0 from (gs_ne eI1 (by omega) hsz)) ?_
    refine g_run_v (f := fun u => u) (g_runV (k := 1) [.ref (ad (v + 128)), .ref E, .int 0] X hK hP hS hC hB (j_addB hBx0 hAo hv htl hel ((gs_ne eI1 (by omega) hsz))) (cwV 3 X.2.2.2.2 gJx4a65c_add_9ea2d_Jx4a65c_add_72be8 rfl rfl rfl (by decide +kernel) ⟨Nat.le_of_ble_eq_true rfl, Nat.le_of_ble_eq_true rfl⟩) htl rfl rfl hl.1 rfl (Nat.le_of_ble_eq_true rfl) dJx4a65c_add_9ea2d_20 ⟨Nat.le_of_ble_eq_true rfl, Nat.le_of_ble_eq_true rfl⟩) hS (fun u H locs hq hP hS => ?_)
    obtain ⟨T9, I9, R9, rfl, hx1, hx2, hx3, hx4, hx5, hx6, hx7⟩ := hq
    have hP : gP D cy B (z + 1) T9 I9 R9 H := hP
    refine lv_iconst (v := 1) X.1 X.2.1 dJx4a65c_add_9ea2d_23 (by decide) ?_
    exact g_zret (f := fun u => u) (z + 1, T9, I9, R9) X hr hlk hK hP hS dJx4a65c_add_9ea2d_24 rfl ⟨rfl, z + 1, T9, I9, R9, rfl, cLs_b hz13 htl hx1 hx2 hx3 hx4 hx5 hx6 hx7 eI1⟩
  · refine lv_aload_n X.1 X.2.1 dJx4a65c_add_9ea2d_0 rfl (lv_at hl 0 rfl) ?_
    refine lv_dup X.1 X.2.1 dJx4a65c_add_9ea2d_1 rfl ?_
    refine g_geti 1 0 X hK hP htl rfl hinRJx4a65c rfl (by decide) k63 (u_same (X.2.2.2.2 (.sameField "java/util/ArrayList" "java/util/AbstractList" "modCount" "I") (by decide +kernel))) dJx4a65c_add_9ea2d_2 (show I lc 0 = I lc 0 from rfl) ?_
    refine lv_iconst (v := 1) X.1 X.2.1 dJx4a65c_add_9ea2d_5 (by decide) ?_
    refine lv_iadd X.1 X.2.1 dJx4a65c_add_9ea2d_6 ?_
    refine g_puti 1 0 X hK hP hS htl rfl hinRJx4a65c tyJx4a65c tyJx4a65c_ok nmJx4a65c rfl (by decide) k63 (u_same (X.2.2.2.2 (.sameField "java/util/ArrayList" "java/util/AbstractList" "modCount" "I") (by decide +kernel))) rfl rfl rfl dJx4a65c_add_9ea2d_7 (fun H locs hP hS => ?_)
    generalize eI2 : g2 I lc 0 ((I lc 0) + 1) = I2 at hP
    refine lv_aload_n X.1 X.2.1 dJx4a65c_add_9ea2d_10 rfl (lv_at hl 0 rfl) ?_
    refine lv_aload_n X.1 X.2.1 dJx4a65c_add_9ea2d_11 rfl (lv_at hl 1 rfl) ?_
    refine lv_aload_n X.1 X.2.1 dJx4a65c_add_9ea2d_12 rfl (lv_at hl 0 rfl) ?_
    refine g_getr 1 1 X hK hP htl rfl hinRJx4a65c rfl (by decide) k9 (fun _ h => h) dJx4a65c_add_9ea2d_13 (show va_rf (R lc 1) = .ref el from by rw [hel]; rfl) ?_
    refine lv_aload_n X.1 X.2.1 dJx4a65c_add_9ea2d_16 rfl (lv_at hl 0 rfl) ?_
    refine g_geti 1 2 X hK hP htl rfl hinRJx4a65c rfl (by decide) k48 (fun _ h => h) dJx4a65c_add_9ea2d_17 (show I2 lc 2 = nI tr.length from (gs_ne eI2 (by omega) hsz)) ?_
    refine g_run_v (f := fun u => u) (g_runV (k := 1) [.ref (ad (v + 128)), .ref el, .int (nI tr.length)] X hK hP hS hC hB (j_addA (n := tr.length) hBx0 hAo hv htl hte hn10) (cwV 3 X.2.2.2.2 gJx4a65c_add_9ea2d_Jx4a65c_add_72be8 rfl rfl rfl (by decide +kernel) ⟨Nat.le_of_ble_eq_true rfl, Nat.le_of_ble_eq_true rfl⟩) htl rfl rfl hl.1 rfl (Nat.le_of_ble_eq_true rfl) dJx4a65c_add_9ea2d_20 ⟨Nat.le_of_ble_eq_true rfl, Nat.le_of_ble_eq_true rfl⟩) hS (fun u H locs hq hP hS => ?_)
    subst hq
    generalize eI9 : g2 I2 lc 2 (nI tr.length + 1) = I9 at hP
    generalize eR9 : g2 R el tr.length (some (ad (v + 128))) = R9 at hP
    have hP : gP D cy B z T I9 R9 H := hP
    refine lv_iconst (v := 1) X.1 X.2.1 dJx4a65c_add_9ea2d_23 (by decide) ?_
    exact g_zret (f := fun u => u) (z, T, I9, R9) X hr hlk hK hP hS dJx4a65c_add_9ea2d_24 rfl ⟨rfl, z, T, I9, R9, rfl, cLs_a hlz htl hel hq1 hte hn10 hre eI2 eI9 eR9⟩

set_option maxHeartbeats 4000000 in
set_option maxRecDepth 100000 in
/-- a_begin -/
theorem a_begin (hBx : gBx s0 B ad C E) (hAo : gWs s0 [.arrayOver (.object "java/lang/Object")]) {v : Nat} (hv : v ≤ 100) (hz13 : lc + 13 ≤ z) (hLs : cLs lc E ad T I R tr) (hn10 : tr.length < 10) : Met l yX2_begin wsX2_begin ({ frames := 5, cells := 1, slots := 10, locals := 108 }) (va_Pc [.ref lc, .int (nI v)] (gW0 s0 D cy B (z, T, I, R))) (va_Qv (fun u => ∃ z' T' I' R', u = (z', T', I', R') ∧ cLs lc E ad T' I' R' (tr ++ [v]) ∧ gLf lc z z' T T' I I' R R') (fun u t => gW1 D cy B u t) (gA B)) 1 10 (gA B) := by
  refine g_met (maxL := 2) (ret := none) (by decide) rfl (Nat.le_of_ble_eq_true rfl) (fun p e s m args below meth c ls X hr hlk hnm hK hP hC hS hl => ?_)
  have hl : lv_has ls 2 [(0, .ref lc), (1, .int (nI v))] := hl
  have hP : gP D cy B z T I R s.heap := hP
  have hB : B ≤ s.heap.size := by rw [hP.1]; exact hP.2.1
  have hBx0 := hBx
  replace hBx := hBx.now hC
  have hLs0 := hLs
  obtain ⟨htl, hsz, hcs⟩ := hLs
  refine lv_aload_n X.1 X.2.1 dX2_begin_0 rfl (lv_at hl 0 rfl) ?_
  refine g_run5_i (f := fun u => u) (g_runF (k := 1) [] X hK hP hS hC hB (j_size htl hsz) (va_cwF 0 X.2.2.2.2 gX2_begin_Jx4a65c_size_8abf5_f45Jx4a65c rfl rfl rfl hBx.2.2.2.2.2.2.2.1 (by decide +kernel) ⟨Nat.le_of_ble_eq_true rfl, Nat.le_of_ble_eq_true rfl⟩) htl rfl rfl hl.1 rfl (Nat.le_of_ble_eq_true rfl) dX2_begin_1 ⟨Nat.le_of_ble_eq_true rfl, Nat.le_of_ble_eq_true rfl⟩) hS (fun r u H locs hq hP hS => ?_)
  obtain ⟨rfl, rfl⟩ := hq
  have hP : gP D cy B z T I R H := hP
  refine lv_bipush (v := 20) X.1 X.2.1 dX2_begin_6 (by decide) ?_
  refine lv_icmp_ge (tgt := 22) X.1 X.2.1 dX2_begin_8 (by decide) (fun c8 => ?_) (fun c8 => ?_)
  · exact absurd (gq_le c8 (show (20 : Int32) = nI 20 from rfl) (Eq.refl (nI tr.length)) (by omega) (by omega)) (by omega)
  · have n8 : tr.length < 20 := gq_nle c8 (show (20 : Int32) = nI 20 from rfl) (Eq.refl (nI tr.length)) (by omega) (by omega)
    refine lv_aload_n X.1 X.2.1 dX2_begin_11 rfl (lv_at hl 0 rfl) ?_
    refine lv_iload_n X.1 X.2.1 dX2_begin_12 rfl (lv_at hl 1 rfl) ?_
    refine g_run_q (f := fun u => u) (g_runS [.int (nI v)] X hK hP hS hC hB (j_valueOf hBx0 hv) (va_cwS 1 X.2.2.2.2 gX2_begin_J6_valueOf_2dffe rfl rfl rfl (by decide +kernel) ⟨Nat.le_of_ble_eq_true rfl, Nat.le_of_ble_eq_true rfl⟩) rfl hl.1 rfl (Nat.le_of_ble_eq_true rfl) dX2_begin_13 ⟨Nat.le_of_ble_eq_true rfl, Nat.le_of_ble_eq_true rfl⟩) hS (fun r u H locs hq hP hS => ?_)
    obtain ⟨rfl, rfl⟩ := hq
    have hP : gP D cy B z T I R H := hP
    refine g_run5_i (f := fun u => u) (g_runF (k := 1) [.ref (ad (v + 128))] X hK hP hS hC hB (j_add hBx0 hAo hv hz13 hLs0 hn10) (va_cwF 1 X.2.2.2.2 gX2_begin_Jx4a65c_add_9ea2d_f57Jx4a65c rfl rfl rfl hBx.2.2.2.2.2.2.2.2 (by decide +kernel) ⟨Nat.le_of_ble_eq_true rfl, Nat.le_of_ble_eq_true rfl⟩) htl rfl rfl hl.1 rfl (Nat.le_of_ble_eq_true rfl) dX2_begin_16 ⟨Nat.le_of_ble_eq_true rfl, Nat.le_of_ble_eq_true rfl⟩) hS (fun r u H locs hq hP hS => ?_)
    obtain ⟨rfl, z9, T9, I9, R9, rfl, hL9, hF9⟩ := hq
    have hP : gP D cy B z9 T9 I9 R9 H := hP
    refine lv_pop X.1 X.2.1 dX2_begin_21 rfl ?_
    exact g_vret (f := fun u => u) (z9, T9, I9, R9) X hr hlk hK hP hS dX2_begin_22 ⟨z9, T9, I9, R9, rfl, hL9, hF9⟩

end PW