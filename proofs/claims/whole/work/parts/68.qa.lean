section QA
variable {l : Launch} {s0 : State} {D : va_G} {cy : Nat → ClassId} {B z : Nat} {T : Nat → Nat × Nat} {I : Nat → Nat → Int32} {R : Nat → Nat → Option Nat} {rd tc a : Nat} {tp : Nat → Nat} {n pl : Nat} {cs : Cls} {pd : List Nat}
set_option maxHeartbeats 4000000 in
set_option maxRecDepth 100000 in
/-- o_put -/
theorem o_put (hst : cSt a T R) {m9 : Nat} {v : Int32} (hsz : I a 7 = nI m9) (hm9 : m9 < 100) : Met l yX4_put wsX4_put ({ frames := 0, cells := 0, slots := 0, locals := 0 }) (va_Pc [.ref a, .int v] (gW0 s0 D cy B (z, T, I, R))) (va_Qv (fun u => u = (z, T, g2 (g2 I (a + 4) m9 v) a 7 (nI m9 + 1), R)) (fun u t => gW1 D cy B u t) (gA B)) 0 0 (gA B) := by
  refine g_met (maxL := 2) (ret := none) (by decide) rfl (Nat.le_of_ble_eq_true rfl) (fun p e s m args below meth c ls X hr hlk hnm hK hP hC hS hl => ?_)
  have hl : lv_has ls 2 [(0, .ref a), (1, .int v)] := hl
  have hP : gP D cy B z T I R s.heap := hP
  have hB : B ≤ s.heap.size := by rw [hP.1]; exact hP.2.1
  have hinRX4 : ∀ w ∈ wsX40, w ∈ wsX4_put := fun _ h => List.mem_cons_of_mem _ (List.mem_append_right _ h)
  have k28 : Cond.fieldLink RX4 28 "BarrowPlank$Site" "codes" "[I" ∈ wsX4_put := by decide +kernel
  have k39 : Cond.fieldLink RX4 39 "BarrowPlank$Site" "size" "I" ∈ wsX4_put := by decide +kernel
  refine lv_aload_n X.1 X.2.1 dX4_put_0 rfl (lv_at hl 0 rfl) ?_
  refine g_geti 6 7 X hK hP hst.1 rfl hinRX4 rfl (by decide) k39 (fun _ h => h) dX4_put_1 (show I a 7 = nI m9 from hsz) ?_
  refine lv_bipush (v := 100) X.1 X.2.1 dX4_put_4 (by decide) ?_
  refine lv_icmp_ge (tgt := 29) X.1 X.2.1 dX4_put_6 (by decide) (fun c6 => ?_) (fun c6 => ?_)
  · exact absurd (gq_le c6 (show (100 : Int32) = nI 100 from rfl) (Eq.refl (nI m9)) (by omega) (by omega)) (by omega)
  · have n6 : m9 < 100 := gq_nle c6 (show (100 : Int32) = nI 100 from rfl) (Eq.refl (nI m9)) (by omega) (by omega)
    refine lv_aload_n X.1 X.2.1 dX4_put_9 rfl (lv_at hl 0 rfl) ?_
    refine g_getr 6 5 X hK hP hst.1 rfl hinRX4 rfl (by decide) k28 (fun _ h => h) dX4_put_10 (show va_rf (R a 5) = .ref (a + 4) from by rw [hst.2.2.2.2.2.2.2.2]; rfl) ?_
    refine lv_aload_n X.1 X.2.1 dX4_put_13 rfl (lv_at hl 0 rfl) ?_
    refine g_geti 6 7 X hK hP hst.1 rfl hinRX4 rfl (by decide) k39 (fun _ h => h) dX4_put_14 (show I a 7 = nI m9 from hsz) ?_
    refine lv_iload_n X.1 X.2.1 dX4_put_17 rfl (lv_at hl 1 rfl) ?_
    refine g_iast m9 X hK hP hS hst.2.2.2.2.1 (gIx_of (Eq.refl (nI m9)) (by omega) (by omega)) dX4_put_18 (fun H locs hP hS => ?_)
    generalize eI1 : g2 I (a + 4) m9 v = I1 at hP
    refine lv_aload_n X.1 X.2.1 dX4_put_19 rfl (lv_at hl 0 rfl) ?_
    refine lv_dup X.1 X.2.1 dX4_put_20 rfl ?_
    refine g_geti 6 7 X hK hP hst.1 rfl hinRX4 rfl (by decide) k39 (fun _ h => h) dX4_put_21 (show I1 a 7 = nI m9 from (gs_ne eI1 (by omega) hsz)) ?_
    refine lv_iconst (v := 1) X.1 X.2.1 dX4_put_24 (by decide) ?_
    refine lv_iadd X.1 X.2.1 dX4_put_25 ?_
    refine g_puti 6 7 X hK hP hS hst.1 rfl hinRX4 tyX4 tyX4_ok nmX4 rfl (by decide) k39 (fun _ h => h) rfl rfl rfl dX4_put_26 (fun H locs hP hS => ?_)
    generalize eI2 : g2 I1 a 7 ((nI m9) + 1) = I2 at hP
    exact g_vret (f := fun u => u) (z, T, I2, R) X hr hlk hK hP hS dX4_put_29 (by rw [← eI2, ← eI1])

set_option maxHeartbeats 4000000 in
set_option maxRecDepth 100000 in
/-- o_putTest -/
theorem o_putTest (hst : cSt a T R) {m9 s9 c9 v9 : Nat} (hsz : I a 7 = nI m9) (hm9 : m9 < 100) : Met l yX4_putTest wsX4_putTest ({ frames := 1, cells := 0, slots := 0, locals := 21 }) (va_Pc [.ref a, .int (nI s9), .int (nI c9), .int (nI v9)] (gW0 s0 D cy B (z, T, I, R))) (va_Qv (fun u => u = (z, T, g2 (g2 I (a + 4) m9 (nI ((s9 * 3 + c9) * 100 + v9))) a 7 (nI m9 + 1), R)) (fun u t => gW1 D cy B u t) (gA B)) 0 0 (gA B) := by
  refine g_met (maxL := 4) (ret := none) (by decide) rfl (Nat.le_of_ble_eq_true rfl) (fun p e s m args below meth c ls X hr hlk hnm hK hP hC hS hl => ?_)
  have hl : lv_has ls 4 [(0, .ref a), (1, .int (nI s9)), (2, .int (nI c9)), (3, .int (nI v9))] := hl
  have hP : gP D cy B z T I R s.heap := hP
  have hB : B ≤ s.heap.size := by rw [hP.1]; exact hP.2.1
  refine lv_aload_n X.1 X.2.1 dX4_putTest_0 rfl (lv_at hl 0 rfl) ?_
  refine lv_iload_n X.1 X.2.1 dX4_putTest_1 rfl (lv_at hl 1 rfl) ?_
  refine lv_iconst (v := 3) X.1 X.2.1 dX4_putTest_2 (by decide) ?_
  refine lv_imul X.1 X.2.1 dX4_putTest_3 ?_
  refine lv_iload_n X.1 X.2.1 dX4_putTest_4 rfl (lv_at hl 2 rfl) ?_
  refine lv_iadd X.1 X.2.1 dX4_putTest_5 ?_
  refine lv_bipush (v := 100) X.1 X.2.1 dX4_putTest_6 (by decide) ?_
  refine lv_imul X.1 X.2.1 dX4_putTest_8 ?_
  refine lv_iload_n X.1 X.2.1 dX4_putTest_9 rfl (lv_at hl 3 rfl) ?_
  refine lv_iadd X.1 X.2.1 dX4_putTest_10 ?_
  refine lv_cv (gn_add (gn_mul (gn_add (gn_mul (Eq.refl (nI s9)) (show (3 : Int32) = nI 3 from rfl)) (Eq.refl (nI c9))) (show (100 : Int32) = nI 100 from rfl)) (Eq.refl (nI v9))) ?_
  refine g_run_v (f := fun u => u) (g_runV (k := 6) [.int (nI ((((s9 * 3) + c9) * 100) + v9))] X hK hP hS hC hB (o_put hst hsz hm9) (cwV 1 X.2.2.2.2 gX4_putTest_X4_put rfl rfl rfl (by decide +kernel) ⟨Nat.le_of_ble_eq_true rfl, Nat.le_of_ble_eq_true rfl⟩) hst.1 rfl rfl hl.1 rfl (Nat.le_of_ble_eq_true rfl) dX4_putTest_11 (by exact ⟨Nat.zero_le _, Nat.zero_le _⟩)) hS (fun u H locs hq hP hS => ?_)
  subst hq
  generalize eJ1 : g2 I (a + 4) m9 (nI ((s9 * 3 + c9) * 100 + v9)) = J1 at hP
  generalize eJ2 : g2 J1 a 7 (nI m9 + 1) = J2 at hP
  have hP : gP D cy B z T J2 R H := hP
  exact g_vret (f := fun u => u) (z, T, J2, R) X hr hlk hK hP hS dX4_putTest_14 (by rw [← eJ2, ← eJ1])

set_option maxHeartbeats 4000000 in
set_option maxRecDepth 100000 in
/-- o_add -/
theorem o_add (hst : cSt a T R) {m9 ck9 w9 v9 : Nat} (hck : I a 6 = nI ck9) (hsz : I a 7 = nI m9) (hkk9 : ck9 < 10) (hw9 : w9 ≤ 2) : Met l yX4_add wsX4_add ({ frames := 0, cells := 0, slots := 0, locals := 0 }) (va_Pc [.ref a, .int (nI w9), .int (nI v9)] (gW0 s0 D cy B (z, T, I, R))) (va_Qv (fun u => u = (z, T, g2 (g2 (g2 (g2 I (a + 1) ck9 (nI w9)) (a + 2) ck9 (nI v9)) (a + 3) ck9 (nI m9)) a 6 (nI ck9 + 1), R)) (fun u t => gW1 D cy B u t) (gA B)) 0 0 (gA B) := by
  refine g_met (maxL := 3) (ret := none) (by decide) rfl (Nat.le_of_ble_eq_true rfl) (fun p e s m args below meth c ls X hr hlk hnm hK hP hC hS hl => ?_)
  have hl : lv_has ls 3 [(0, .ref a), (1, .int (nI w9)), (2, .int (nI v9))] := hl
  have hP : gP D cy B z T I R s.heap := hP
  have hB : B ≤ s.heap.size := by rw [hP.1]; exact hP.2.1
  have hinRX4 : ∀ w ∈ wsX40, w ∈ wsX4_add := fun _ h => List.mem_cons_of_mem _ (List.mem_append_right _ h)
  have k9 : Cond.fieldLink RX4 9 "BarrowPlank$Site" "tire" "I" ∈ wsX4_add := by decide +kernel
  have k15 : Cond.fieldLink RX4 15 "BarrowPlank$Site" "shovel" "I" ∈ wsX4_add := by decide +kernel
  have k18 : Cond.fieldLink RX4 18 "BarrowPlank$Site" "words" "[I" ∈ wsX4_add := by decide +kernel
  have k22 : Cond.fieldLink RX4 22 "BarrowPlank$Site" "numbers" "[I" ∈ wsX4_add := by decide +kernel
  have k25 : Cond.fieldLink RX4 25 "BarrowPlank$Site" "ends" "[I" ∈ wsX4_add := by decide +kernel
  have k39 : Cond.fieldLink RX4 39 "BarrowPlank$Site" "size" "I" ∈ wsX4_add := by decide +kernel
  have k46 : Cond.fieldLink RX4 46 "BarrowPlank$Site" "clauses" "I" ∈ wsX4_add := by decide +kernel
  refine lv_iload_n X.1 X.2.1 dX4_add_0 rfl (lv_at hl 1 rfl) ?_
  refine lv_iconst (v := 3) X.1 X.2.1 dX4_add_1 (by decide) ?_
  refine lv_icmp_ne (tgt := 13) X.1 X.2.1 dX4_add_2 (by decide) (fun c2 => ?_) (fun c2 => ?_)
  · have n2 : ¬ w9 = 3 := gq_ne c2 (Eq.refl (nI w9)) (show (3 : Int32) = nI 3 from rfl) (by omega) (by omega)
    refine lv_iload_n X.1 X.2.1 dX4_add_13 rfl (lv_at hl 1 rfl) ?_
    refine lv_iconst (v := 4) X.1 X.2.1 dX4_add_14 (by decide) ?_
    refine lv_icmp_ne (tgt := 26) X.1 X.2.1 dX4_add_15 (by decide) (fun c15 => ?_) (fun c15 => ?_)
    · have n15 : ¬ w9 = 4 := gq_ne c15 (Eq.refl (nI w9)) (show (4 : Int32) = nI 4 from rfl) (by omega) (by omega)
      refine lv_aload_n X.1 X.2.1 dX4_add_26 rfl (lv_at hl 0 rfl) ?_
      refine g_geti 6 6 X hK hP hst.1 rfl hinRX4 rfl (by decide) k46 (fun _ h => h) dX4_add_27 (show I a 6 = nI ck9 from hck) ?_
      refine lv_bipush (v := 10) X.1 X.2.1 dX4_add_30 (by decide) ?_
      refine lv_icmp_ge (tgt := 78) X.1 X.2.1 dX4_add_32 (by decide) (fun c32 => ?_) (fun c32 => ?_)
      · exact absurd (gq_le c32 (show (10 : Int32) = nI 10 from rfl) (Eq.refl (nI ck9)) (by omega) (by omega)) (by omega)
      · have n32 : ck9 < 10 := gq_nle c32 (show (10 : Int32) = nI 10 from rfl) (Eq.refl (nI ck9)) (by omega) (by omega)
        refine lv_aload_n X.1 X.2.1 dX4_add_35 rfl (lv_at hl 0 rfl) ?_
        refine g_getr 6 2 X hK hP hst.1 rfl hinRX4 rfl (by decide) k18 (fun _ h => h) dX4_add_36 (show va_rf (R a 2) = .ref (a + 1) from by rw [hst.2.2.2.2.2.1]; rfl) ?_
        refine lv_aload_n X.1 X.2.1 dX4_add_39 rfl (lv_at hl 0 rfl) ?_
        refine g_geti 6 6 X hK hP hst.1 rfl hinRX4 rfl (by decide) k46 (fun _ h => h) dX4_add_40 (show I a 6 = nI ck9 from hck) ?_
        refine lv_iload_n X.1 X.2.1 dX4_add_43 rfl (lv_at hl 1 rfl) ?_
        refine g_iast ck9 X hK hP hS hst.2.1 (gIx_of (Eq.refl (nI ck9)) (by omega) (by omega)) dX4_add_44 (fun H locs hP hS => ?_)
        generalize eI1 : g2 I (a + 1) ck9 (nI w9) = I1 at hP
        refine lv_aload_n X.1 X.2.1 dX4_add_45 rfl (lv_at hl 0 rfl) ?_
        refine g_getr 6 3 X hK hP hst.1 rfl hinRX4 rfl (by decide) k22 (fun _ h => h) dX4_add_46 (show va_rf (R a 3) = .ref (a + 2) from by rw [hst.2.2.2.2.2.2.1]; rfl) ?_
        refine lv_aload_n X.1 X.2.1 dX4_add_49 rfl (lv_at hl 0 rfl) ?_
        refine g_geti 6 6 X hK hP hst.1 rfl hinRX4 rfl (by decide) k46 (fun _ h => h) dX4_add_50 (show I1 a 6 = nI ck9 from (gs_ne eI1 (by omega) hck)) ?_
        refine lv_iload_n X.1 X.2.1 dX4_add_53 rfl (lv_at hl 2 rfl) ?_
        refine g_iast ck9 X hK hP hS hst.2.2.1 (gIx_of (Eq.refl (nI ck9)) (by omega) (by omega)) dX4_add_54 (fun H locs hP hS => ?_)
        generalize eI2 : g2 I1 (a + 2) ck9 (nI v9) = I2 at hP
        refine lv_aload_n X.1 X.2.1 dX4_add_55 rfl (lv_at hl 0 rfl) ?_
        refine g_getr 6 4 X hK hP hst.1 rfl hinRX4 rfl (by decide) k25 (fun _ h => h) dX4_add_56 (show va_rf (R a 4) = .ref (a + 3) from by rw [hst.2.2.2.2.2.2.2.1]; rfl) ?_
        refine lv_aload_n X.1 X.2.1 dX4_add_59 rfl (lv_at hl 0 rfl) ?_
        refine g_geti 6 6 X hK hP hst.1 rfl hinRX4 rfl (by decide) k46 (fun _ h => h) dX4_add_60 (show I2 a 6 = nI ck9 from (gs_ne eI2 (by omega) (gs_ne eI1 (by omega) hck))) ?_
        refine lv_aload_n X.1 X.2.1 dX4_add_63 rfl (lv_at hl 0 rfl) ?_
        refine g_geti 6 7 X hK hP hst.1 rfl hinRX4 rfl (by decide) k39 (fun _ h => h) dX4_add_64 (show I2 a 7 = nI m9 from (gs_ne eI2 (by omega) (gs_ne eI1 (by omega) hsz))) ?_
        refine g_iast ck9 X hK hP hS hst.2.2.2.1 (gIx_of (Eq.refl (nI ck9)) (by omega) (by omega)) dX4_add_67 (fun H locs hP hS => ?_)
        generalize eI3 : g2 I2 (a + 3) ck9 (nI m9) = I3 at hP
        refine lv_aload_n X.1 X.2.1 dX4_add_68 rfl (lv_at hl 0 rfl) ?_
        refine lv_dup X.1 X.2.1 dX4_add_69 rfl ?_
        refine g_geti 6 6 X hK hP hst.1 rfl hinRX4 rfl (by decide) k46 (fun _ h => h) dX4_add_70 (show I3 a 6 = nI ck9 from (gs_ne eI3 (by omega) (gs_ne eI2 (by omega) (gs_ne eI1 (by omega) hck)))) ?_
        refine lv_iconst (v := 1) X.1 X.2.1 dX4_add_73 (by decide) ?_
        refine lv_iadd X.1 X.2.1 dX4_add_74 ?_
        refine g_puti 6 6 X hK hP hS hst.1 rfl hinRX4 tyX4 tyX4_ok nmX4 rfl (by decide) k46 (fun _ h => h) rfl rfl rfl dX4_add_75 (fun H locs hP hS => ?_)
        generalize eI4 : g2 I3 a 6 ((nI ck9) + 1) = I4 at hP
        exact g_vret (f := fun u => u) (z, T, I4, R) X hr hlk hK hP hS dX4_add_78 (by rw [← eI4, ← eI3, ← eI2, ← eI1])
    · exact absurd (gq_eq c15 (Eq.refl (nI w9)) (show (4 : Int32) = nI 4 from rfl) (by omega) (by omega)) (by omega)
  · exact absurd (gq_eq c2 (Eq.refl (nI w9)) (show (3 : Int32) = nI 3 from rfl) (by omega) (by omega)) (by omega)

set_option maxHeartbeats 4000000 in
set_option maxRecDepth 100000 in
/-- o_add_3 -/
theorem o_add_3 (hst : cSt a T R) {v9 : Nat} : Met l yX4_add wsX4_add ({ frames := 0, cells := 0, slots := 0, locals := 0 }) (va_Pc [.ref a, .int 3, .int (nI v9)] (gW0 s0 D cy B (z, T, I, R))) (va_Qv (fun u => u = (z, T, g2 I a 0 (nI v9), R)) (fun u t => gW1 D cy B u t) (gA B)) 0 0 (gA B) := by
  refine g_met (maxL := 3) (ret := none) (by decide) rfl (Nat.le_of_ble_eq_true rfl) (fun p e s m args below meth c ls X hr hlk hnm hK hP hC hS hl => ?_)
  have hl : lv_has ls 3 [(0, .ref a), (1, .int 3), (2, .int (nI v9))] := hl
  have hP : gP D cy B z T I R s.heap := hP
  have hB : B ≤ s.heap.size := by rw [hP.1]; exact hP.2.1
  have hinRX4 : ∀ w ∈ wsX40, w ∈ wsX4_add := fun _ h => List.mem_cons_of_mem _ (List.mem_append_right _ h)
  have k9 : Cond.fieldLink RX4 9 "BarrowPlank$Site" "tire" "I" ∈ wsX4_add := by decide +kernel
  have k15 : Cond.fieldLink RX4 15 "BarrowPlank$Site" "shovel" "I" ∈ wsX4_add := by decide +kernel
  have k18 : Cond.fieldLink RX4 18 "BarrowPlank$Site" "words" "[I" ∈ wsX4_add := by decide +kernel
  have k22 : Cond.fieldLink RX4 22 "BarrowPlank$Site" "numbers" "[I" ∈ wsX4_add := by decide +kernel
  have k25 : Cond.fieldLink RX4 25 "BarrowPlank$Site" "ends" "[I" ∈ wsX4_add := by decide +kernel
  have k39 : Cond.fieldLink RX4 39 "BarrowPlank$Site" "size" "I" ∈ wsX4_add := by decide +kernel
  have k46 : Cond.fieldLink RX4 46 "BarrowPlank$Site" "clauses" "I" ∈ wsX4_add := by decide +kernel
  refine lv_iload_n X.1 X.2.1 dX4_add_0 rfl (lv_at hl 1 rfl) ?_
  refine lv_iconst (v := 3) X.1 X.2.1 dX4_add_1 (by decide) ?_
  refine lv_icmp_ne (tgt := 13) X.1 X.2.1 dX4_add_2 (by decide) (fun c2 => ?_) (fun c2 => ?_)
  · exact absurd rfl c2
  · have n2 : 3 = 3 := gq_eq c2 (show (3 : Int32) = nI 3 from rfl) (show (3 : Int32) = nI 3 from rfl) (by omega) (by omega)
    refine lv_aload_n X.1 X.2.1 dX4_add_5 rfl (lv_at hl 0 rfl) ?_
    refine lv_iload_n X.1 X.2.1 dX4_add_6 rfl (lv_at hl 2 rfl) ?_
    refine g_puti 6 0 X hK hP hS hst.1 rfl hinRX4 tyX4 tyX4_ok nmX4 rfl (by decide) k9 (fun _ h => h) rfl rfl rfl dX4_add_7 (fun H locs hP hS => ?_)
    generalize eI1 : g2 I a 0 (nI v9) = I1 at hP
    refine lv_goto (tgt := 78) X.1 X.2.1 dX4_add_10 (by decide) ?_
    exact g_vret (f := fun u => u) (z, T, I1, R) X hr hlk hK hP hS dX4_add_78 (by rw [← eI1])

set_option maxHeartbeats 4000000 in
set_option maxRecDepth 100000 in
/-- o_add_4 -/
theorem o_add_4 (hst : cSt a T R) {v9 : Nat} : Met l yX4_add wsX4_add ({ frames := 0, cells := 0, slots := 0, locals := 0 }) (va_Pc [.ref a, .int 4, .int (nI v9)] (gW0 s0 D cy B (z, T, I, R))) (va_Qv (fun u => u = (z, T, g2 I a 1 (nI v9), R)) (fun u t => gW1 D cy B u t) (gA B)) 0 0 (gA B) := by
  refine g_met (maxL := 3) (ret := none) (by decide) rfl (Nat.le_of_ble_eq_true rfl) (fun p e s m args below meth c ls X hr hlk hnm hK hP hC hS hl => ?_)
  have hl : lv_has ls 3 [(0, .ref a), (1, .int 4), (2, .int (nI v9))] := hl
  have hP : gP D cy B z T I R s.heap := hP
  have hB : B ≤ s.heap.size := by rw [hP.1]; exact hP.2.1
  have hinRX4 : ∀ w ∈ wsX40, w ∈ wsX4_add := fun _ h => List.mem_cons_of_mem _ (List.mem_append_right _ h)
  have k9 : Cond.fieldLink RX4 9 "BarrowPlank$Site" "tire" "I" ∈ wsX4_add := by decide +kernel
  have k15 : Cond.fieldLink RX4 15 "BarrowPlank$Site" "shovel" "I" ∈ wsX4_add := by decide +kernel
  have k18 : Cond.fieldLink RX4 18 "BarrowPlank$Site" "words" "[I" ∈ wsX4_add := by decide +kernel
  have k22 : Cond.fieldLink RX4 22 "BarrowPlank$Site" "numbers" "[I" ∈ wsX4_add := by decide +kernel
  have k25 : Cond.fieldLink RX4 25 "BarrowPlank$Site" "ends" "[I" ∈ wsX4_add := by decide +kernel
  have k39 : Cond.fieldLink RX4 39 "BarrowPlank$Site" "size" "I" ∈ wsX4_add := by decide +kernel
  have k46 : Cond.fieldLink RX4 46 "BarrowPlank$Site" "clauses" "I" ∈ wsX4_add := by decide +kernel
  refine lv_iload_n X.1 X.2.1 dX4_add_0 rfl (lv_at hl 1 rfl) ?_
  refine lv_iconst (v := 3) X.1 X.2.1 dX4_add_1 (by decide) ?_
  refine lv_icmp_ne (tgt := 13) X.1 X.2.1 dX4_add_2 (by decide) (fun c2 => ?_) (fun c2 => ?_)
  · have n2 : ¬ 4 = 3 := gq_ne c2 (show (4 : Int32) = nI 4 from rfl) (show (3 : Int32) = nI 3 from rfl) (by omega) (by omega)
    refine lv_iload_n X.1 X.2.1 dX4_add_13 rfl (lv_at hl 1 rfl) ?_
    refine lv_iconst (v := 4) X.1 X.2.1 dX4_add_14 (by decide) ?_
    refine lv_icmp_ne (tgt := 26) X.1 X.2.1 dX4_add_15 (by decide) (fun c15 => ?_) (fun c15 => ?_)
    · exact absurd rfl c15
    · have n15 : 4 = 4 := gq_eq c15 (show (4 : Int32) = nI 4 from rfl) (show (4 : Int32) = nI 4 from rfl) (by omega) (by omega)
      refine lv_aload_n X.1 X.2.1 dX4_add_18 rfl (lv_at hl 0 rfl) ?_
      refine lv_iload_n X.1 X.2.1 dX4_add_19 rfl (lv_at hl 2 rfl) ?_
      refine g_puti 6 1 X hK hP hS hst.1 rfl hinRX4 tyX4 tyX4_ok nmX4 rfl (by decide) k15 (fun _ h => h) rfl rfl rfl dX4_add_20 (fun H locs hP hS => ?_)
      generalize eI1 : g2 I a 1 (nI v9) = I1 at hP
      refine lv_goto (tgt := 78) X.1 X.2.1 dX4_add_23 (by decide) ?_
      exact g_vret (f := fun u => u) (z, T, I1, R) X hr hlk hK hP hS dX4_add_78 (by rw [← eI1])
  · exact absurd c2 (by decide)

set_option maxHeartbeats 4000000 in
set_option maxRecDepth 100000 in
/-- o_oneOf_y -/
theorem o_oneOf_y (hRd : cRd rd tc a T I R tp n pl) {tx : List Nat} {sa sq : Nat} (hs : gSo s0 B tx sa sq) (h2 : gSt2 s0 B) (htx : gTx tx) (ham : pAm tx (sH tp n pl) < tx.length) : Met l yX5_oneOf wsX5_oneOf ({ frames := 4, cells := 0, slots := 0, locals := 91 }) (va_Pc [.ref rd, .ref sa] (gW0 s0 D cy B (z, T, I, R))) (va_Qi (fun r u => r = nI (pAm tx (sH tp n pl)) ∧ u = (z, T, g2 I rd 0 (nI pl + 1), R)) (fun u t => gW1 D cy B u t) (gA B)) 0 0 (gA B) := by
  refine g_met (maxL := 3) (ret := (some .int)) (by decide) rfl (Nat.le_of_ble_eq_true rfl) (fun p e s m args below meth c ls X hr hlk hnm hK hP hC hS hl => ?_)
  have hl : lv_has ls 3 [(0, .ref rd), (1, .ref sa)] := hl
  have hP : gP D cy B z T I R s.heap := hP
  have hB : B ≤ s.heap.size := by rw [hP.1]; exact hP.2.1
  have hinRX5 : ∀ w ∈ wsX50, w ∈ wsX5_oneOf := fun _ h => List.mem_cons_of_mem _ (List.mem_append_right _ h)
  have k9 : Cond.fieldLink RX5 9 "BarrowPlank$SiteReader" "tape" "[C" ∈ wsX5_oneOf := by decide +kernel
  have k21 : Cond.fieldLink RX5 21 "BarrowPlank$SiteReader" "size" "I" ∈ wsX5_oneOf := by decide +kernel
  have k25 : Cond.fieldLink RX5 25 "BarrowPlank$SiteReader" "place" "I" ∈ wsX5_oneOf := by decide +kernel
  have hn100 := hRd.2.2.1.1
  have hpn := hRd.2.2.1.2.1
  have htp := hRd.2.2.1.2.2
  have hrda := hRd.2.1.1
  have htca := hRd.2.1.2.1
  have hrdt := hRd.2.1.2.2
  have hpl : pl < n := Classical.byContradiction fun h => (by rw [sH_ge h] at ham; exact pAm_128 (gTx_m htx) ham)
  rw [sH_lt hpl] at ham ⊢
  refine lv_aload_n X.1 X.2.1 dX5_oneOf_0 rfl (lv_at hl 0 rfl) ?_
  refine g_geti 7 0 X hK hP hRd.1.1 rfl hinRX5 rfl (by decide) k25 (fun _ h => h) dX5_oneOf_1 (show I rd 0 = nI pl from hRd.2.2.2.1) ?_
  refine lv_aload_n X.1 X.2.1 dX5_oneOf_4 rfl (lv_at hl 0 rfl) ?_
  refine g_geti 7 2 X hK hP hRd.1.1 rfl hinRX5 rfl (by decide) k21 (fun _ h => h) dX5_oneOf_5 (show I rd 2 = nI n from hRd.2.2.2.2.1) ?_
  refine lv_icmp_ge (tgt := 27) X.1 X.2.1 dX5_oneOf_8 (by decide) (fun c8 => ?_) (fun c8 => ?_)
  · exact absurd (gq_le c8 (Eq.refl (nI n)) (Eq.refl (nI pl)) (by omega) (by omega)) (by omega)
  · have n8 : pl < n := gq_nle c8 (Eq.refl (nI n)) (Eq.refl (nI pl)) (by omega) (by omega)
    refine lv_aload_n X.1 X.2.1 dX5_oneOf_11 rfl (lv_at hl 1 rfl) ?_
    refine lv_aload_n X.1 X.2.1 dX5_oneOf_12 rfl (lv_at hl 0 rfl) ?_
    refine g_getr 7 1 X hK hP hRd.1.1 rfl hinRX5 rfl (by decide) k9 (fun _ h => h) dX5_oneOf_13 (show va_rf (R rd 1) = .ref tc from by rw [hRd.1.2.1]; rfl) ?_
    refine lv_aload_n X.1 X.2.1 dX5_oneOf_16 rfl (lv_at hl 0 rfl) ?_
    refine g_geti 7 0 X hK hP hRd.1.1 rfl hinRX5 rfl (by decide) k25 (fun _ h => h) dX5_oneOf_17 (show I rd 0 = nI pl from hRd.2.2.2.1) ?_
    refine g_cald pl X hK hP hRd.1.2.2.2.1 (gIx_of (Eq.refl (nI pl)) (by omega) (by omega)) dX5_oneOf_20 (show I tc pl = nI (tp pl) from (hRd.2.2.2.2.2 pl (by omega))) ?_
    refine g_run_i (f := fun u => u) (g_runVO [.int (nI (tp pl))] X hK hP hS hC hB (j_ix hs h2 htx (show tp pl < 128 by have := htp pl; omega)) (cwV 1 X.2.2.2.2 gX5_oneOf_J0_indexOf_0f7a4 rfl rfl rfl (by decide +kernel) ⟨Nat.le_of_ble_eq_true rfl, Nat.le_of_ble_eq_true rfl⟩) (hs.now hC).1 rfl hl.1 rfl (Nat.le_of_ble_eq_true rfl) dX5_oneOf_21 (by exact ⟨Nat.zero_le _, Nat.zero_le _⟩)) hS (fun r u H locs hq hP hS => ?_)
    obtain ⟨rfl, rfl⟩ := hq
    have hP : gP D cy B z T I R H := hP
    refine lv_goto (tgt := 28) X.1 X.2.1 dX5_oneOf_24 (by decide) ?_
    refine lv_cv (show sIx (tp pl) tx 0 = nI (pAm tx (tp pl)) by rw [sIx_am, if_pos ham, Nat.zero_add]) ?_
    have htl9 := htx.1.2
    refine lv_istore_n (lv' := [(2, .int (nI (pAm tx (tp pl)))), (0, .ref rd), (1, .ref sa)]) X.1 X.2.1 dX5_oneOf_28 rfl hl (by decide) rfl (fun ls hl => ?_)
    refine lv_iload_n X.1 X.2.1 dX5_oneOf_29 rfl (lv_at hl 0 rfl) ?_
    refine lv_if_lt (tgt := 43) X.1 X.2.1 dX5_oneOf_30 (by decide) (fun c30 => ?_) (fun c30 => ?_)
    · exact absurd c30 (nI_pos (by omega))
    · have n30 : 0 ≤ (pAm tx (tp pl)) := gq_nlt c30 (Eq.refl (nI (pAm tx (tp pl)))) (show (0 : Int32) = nI 0 from rfl) (by omega) (by omega)
      refine lv_aload_n X.1 X.2.1 dX5_oneOf_33 rfl (lv_at hl 1 rfl) ?_
      refine lv_dup X.1 X.2.1 dX5_oneOf_34 rfl ?_
      refine g_geti 7 0 X hK hP hRd.1.1 rfl hinRX5 rfl (by decide) k25 (fun _ h => h) dX5_oneOf_35 (show I rd 0 = nI pl from hRd.2.2.2.1) ?_
      refine lv_iconst (v := 1) X.1 X.2.1 dX5_oneOf_38 (by decide) ?_
      refine lv_iadd X.1 X.2.1 dX5_oneOf_39 ?_
      refine g_puti 7 0 X hK hP hS hRd.1.1 rfl hinRX5 tyX5 tyX5_ok nmX5 rfl (by decide) k25 (fun _ h => h) rfl rfl rfl dX5_oneOf_40 (fun H locs hP hS => ?_)
      generalize eI1 : g2 I rd 0 ((nI pl) + 1) = I1 at hP
      refine lv_iload_n X.1 X.2.1 dX5_oneOf_43 rfl (lv_at hl 0 rfl) ?_
      exact g_iret (f := fun u => u) (z, T, I1, R) X hr hlk hK hP hS dX5_oneOf_44 ⟨rfl, (by rw [← eI1])⟩

set_option maxHeartbeats 4000000 in
set_option maxRecDepth 100000 in
/-- o_oneOf_n -/
theorem o_oneOf_n (hRd : cRd rd tc a T I R tp n pl) {tx : List Nat} {sa sq : Nat} (hs : gSo s0 B tx sa sq) (h2 : gSt2 s0 B) (htx : gTx tx) (ham : ¬ pAm tx (sH tp n pl) < tx.length) : Met l yX5_oneOf wsX5_oneOf ({ frames := 4, cells := 0, slots := 0, locals := 91 }) (va_Pc [.ref rd, .ref sa] (gW0 s0 D cy B (z, T, I, R))) (va_Qi (fun r u => r = -1 ∧ (z, T, I, R) = u) (fun u t => gW1 D cy B u t) (gA B)) 0 0 (gA B) := by
  refine g_met (maxL := 3) (ret := (some .int)) (by decide) rfl (Nat.le_of_ble_eq_true rfl) (fun p e s m args below meth c ls X hr hlk hnm hK hP hC hS hl => ?_)
  have hl : lv_has ls 3 [(0, .ref rd), (1, .ref sa)] := hl
  have hP : gP D cy B z T I R s.heap := hP
  have hB : B ≤ s.heap.size := by rw [hP.1]; exact hP.2.1
  have hinRX5 : ∀ w ∈ wsX50, w ∈ wsX5_oneOf := fun _ h => List.mem_cons_of_mem _ (List.mem_append_right _ h)
  have k9 : Cond.fieldLink RX5 9 "BarrowPlank$SiteReader" "tape" "[C" ∈ wsX5_oneOf := by decide +kernel
  have k21 : Cond.fieldLink RX5 21 "BarrowPlank$SiteReader" "size" "I" ∈ wsX5_oneOf := by decide +kernel
  have k25 : Cond.fieldLink RX5 25 "BarrowPlank$SiteReader" "place" "I" ∈ wsX5_oneOf := by decide +kernel
  have hn100 := hRd.2.2.1.1
  have hpn := hRd.2.2.1.2.1
  have htp := hRd.2.2.1.2.2
  have hrda := hRd.2.1.1
  have htca := hRd.2.1.2.1
  have hrdt := hRd.2.1.2.2
  refine lv_aload_n X.1 X.2.1 dX5_oneOf_0 rfl (lv_at hl 0 rfl) ?_
  refine g_geti 7 0 X hK hP hRd.1.1 rfl hinRX5 rfl (by decide) k25 (fun _ h => h) dX5_oneOf_1 (show I rd 0 = nI pl from hRd.2.2.2.1) ?_
  refine lv_aload_n X.1 X.2.1 dX5_oneOf_4 rfl (lv_at hl 0 rfl) ?_
  refine g_geti 7 2 X hK hP hRd.1.1 rfl hinRX5 rfl (by decide) k21 (fun _ h => h) dX5_oneOf_5 (show I rd 2 = nI n from hRd.2.2.2.2.1) ?_
  refine lv_icmp_ge (tgt := 27) X.1 X.2.1 dX5_oneOf_8 (by decide) (fun c8 => ?_) (fun c8 => ?_)
  · have n8 : n ≤ pl := gq_le c8 (Eq.refl (nI n)) (Eq.refl (nI pl)) (by omega) (by omega)
    refine lv_iconst (v := (-1)) X.1 X.2.1 dX5_oneOf_27 (by decide) ?_
    refine lv_istore_n (lv' := [(2, .int (-1)), (0, .ref rd), (1, .ref sa)]) X.1 X.2.1 dX5_oneOf_28 rfl hl (by decide) rfl (fun ls hl => ?_)
    refine lv_iload_n X.1 X.2.1 dX5_oneOf_29 rfl (lv_at hl 0 rfl) ?_
    refine lv_if_lt (tgt := 43) X.1 X.2.1 dX5_oneOf_30 (by decide) (fun c30 => ?_) (fun c30 => ?_)
    · refine lv_iload_n X.1 X.2.1 dX5_oneOf_43 rfl (lv_at hl 0 rfl) ?_
      exact g_iret (f := fun u => u) (z, T, I, R) X hr hlk hK hP hS dX5_oneOf_44 ⟨rfl, rfl⟩
    · exact absurd (show (-1 : Int32) < 0 by decide) c30
  · have n8 : pl < n := gq_nle c8 (Eq.refl (nI n)) (Eq.refl (nI pl)) (by omega) (by omega)
    refine lv_aload_n X.1 X.2.1 dX5_oneOf_11 rfl (lv_at hl 1 rfl) ?_
    refine lv_aload_n X.1 X.2.1 dX5_oneOf_12 rfl (lv_at hl 0 rfl) ?_
    refine g_getr 7 1 X hK hP hRd.1.1 rfl hinRX5 rfl (by decide) k9 (fun _ h => h) dX5_oneOf_13 (show va_rf (R rd 1) = .ref tc from by rw [hRd.1.2.1]; rfl) ?_
    refine lv_aload_n X.1 X.2.1 dX5_oneOf_16 rfl (lv_at hl 0 rfl) ?_
    refine g_geti 7 0 X hK hP hRd.1.1 rfl hinRX5 rfl (by decide) k25 (fun _ h => h) dX5_oneOf_17 (show I rd 0 = nI pl from hRd.2.2.2.1) ?_
    refine g_cald pl X hK hP hRd.1.2.2.2.1 (gIx_of (Eq.refl (nI pl)) (by omega) (by omega)) dX5_oneOf_20 (show I tc pl = nI (tp pl) from (hRd.2.2.2.2.2 pl (by omega))) ?_
    refine g_run_i (f := fun u => u) (g_runVO [.int (nI (tp pl))] X hK hP hS hC hB (j_ix hs h2 htx (show tp pl < 128 by have := htp pl; omega)) (cwV 1 X.2.2.2.2 gX5_oneOf_J0_indexOf_0f7a4 rfl rfl rfl (by decide +kernel) ⟨Nat.le_of_ble_eq_true rfl, Nat.le_of_ble_eq_true rfl⟩) (hs.now hC).1 rfl hl.1 rfl (Nat.le_of_ble_eq_true rfl) dX5_oneOf_21 (by exact ⟨Nat.zero_le _, Nat.zero_le _⟩)) hS (fun r u H locs hq hP hS => ?_)
    obtain ⟨rfl, rfl⟩ := hq
    have hP : gP D cy B z T I R H := hP
    refine lv_goto (tgt := 28) X.1 X.2.1 dX5_oneOf_24 (by decide) ?_
    rw [sH_lt n8] at ham
    refine lv_cv (show sIx (tp pl) tx 0 = -1 by rw [sIx_am, if_neg ham]) ?_
    refine lv_istore_n (lv' := [(2, .int (-1)), (0, .ref rd), (1, .ref sa)]) X.1 X.2.1 dX5_oneOf_28 rfl hl (by decide) rfl (fun ls hl => ?_)
    refine lv_iload_n X.1 X.2.1 dX5_oneOf_29 rfl (lv_at hl 0 rfl) ?_
    refine lv_if_lt (tgt := 43) X.1 X.2.1 dX5_oneOf_30 (by decide) (fun c30 => ?_) (fun c30 => ?_)
    · refine lv_iload_n X.1 X.2.1 dX5_oneOf_43 rfl (lv_at hl 0 rfl) ?_
      exact g_iret (f := fun u => u) (z, T, I, R) X hr hlk hK hP hS dX5_oneOf_44 ⟨rfl, rfl⟩
    · exact absurd (show (-1 : Int32) < 0 by decide) c30

end QA