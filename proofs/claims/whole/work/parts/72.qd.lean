section QD
variable {l : Launch} {s0 : State} {D : va_G} {cy : Nat → ClassId} {B z : Nat} {T : Nat → Nat × Nat} {I : Nat → Nat → Int32} {R : Nat → Nat → Option Nat} {rd tc a : Nat} {tp : Nat → Nat} {n pl : Nat} {cs : Cls} {pd : List Nat}
set_option maxHeartbeats 4000000 in
set_option maxRecDepth 100000 in
/-- o_fits -/
theorem o_fits (hRd : cRd rd tc a T I R tp n pl) {tx : List Nat} {sa sq : Nat} (hs : gSo s0 B tx sa sq) (h2 : gSt2 s0 B) (htx : gTx tx) : Met l yX5_fits wsX5_fits ({ frames := 4, cells := 0, slots := 0, locals := 85 }) (va_Pc [.ref rd, .ref sa] (gW0 s0 D cy B (z, T, I, R))) (va_Qi (fun r u => r = nI (fN tp n tx pl) ∧ (z, T, I, R) = u) (fun u t => gW1 D cy B u t) (gA B)) 0 0 (gA B) := by
  refine g_met (maxL := 3) (ret := (some .int)) (by decide) rfl (Nat.le_of_ble_eq_true rfl) (fun p e s m args below meth c ls X hr hlk hnm hK hP hC hS hl => ?_)
  have hl : lv_has ls 3 [(0, .ref rd), (1, .ref sa)] := hl
  have hP : gP D cy B z T I R s.heap := hP
  have hB : B ≤ s.heap.size := by rw [hP.1]; exact hP.2.1
  have hinRX5 : ∀ w ∈ wsX50, w ∈ wsX5_fits := fun _ h => List.mem_cons_of_mem _ (List.mem_append_right _ h)
  have k9 : Cond.fieldLink RX5 9 "BarrowPlank$SiteReader" "tape" "[C" ∈ wsX5_fits := by decide +kernel
  have k21 : Cond.fieldLink RX5 21 "BarrowPlank$SiteReader" "size" "I" ∈ wsX5_fits := by decide +kernel
  have k25 : Cond.fieldLink RX5 25 "BarrowPlank$SiteReader" "place" "I" ∈ wsX5_fits := by decide +kernel
  have hn100 := hRd.2.2.1.1
  have hpn := hRd.2.2.1.2.1
  have htp := hRd.2.2.1.2.2
  have hrda := hRd.2.1.1
  have htca := hRd.2.1.2.1
  have hrdt := hRd.2.1.2.2
  have htl9 := htx.1.2
  refine lv_iconst (v := 0) X.1 X.2.1 dX5_fits_0 (by decide) ?_
  refine lv_istore_n (lv' := [(2, .int 0), (0, .ref rd), (1, .ref sa)]) X.1 X.2.1 dX5_fits_1 rfl hl (by decide) rfl (fun ls hl => ?_)
  refine i_loop (I := I) tx.length 2 [] (fun k Q9 ls => (I = Q9 ∧ fN tp n tx pl = k + fN tp n (tx.drop k) (pl + k)) ∧ lv_has ls 3 [(0, .ref rd), (1, .ref sa), (2, .int (nI k))]) 0 (by omega) ⟨⟨rfl, (by rw [List.drop_zero, Nat.zero_add, Nat.add_zero])⟩, lv_sub hl [1, 2, 0] rfl⟩ hP hS (fun k Q9 H locs ls hk hiv hP hS ih => ?_)
  obtain ⟨⟨rfl, hfk⟩, hl⟩ := hiv
  refine lv_iload_n X.1 X.2.1 dX5_fits_2 rfl (lv_at hl 2 rfl) ?_
  refine lv_aload_n X.1 X.2.1 dX5_fits_3 rfl (lv_at hl 1 rfl) ?_
  refine g_run_i (f := fun u => u) (g_runVO [] X hK hP hS hC hB (j_len hs h2 htx) (cwV 0 X.2.2.2.2 gX5_fits_J0_length_8abf5 rfl rfl rfl (by decide +kernel) ⟨Nat.le_of_ble_eq_true rfl, Nat.le_of_ble_eq_true rfl⟩) (hs.now hC).1 rfl hl.1 rfl (Nat.le_of_ble_eq_true rfl) dX5_fits_4 (by exact ⟨Nat.zero_le _, Nat.zero_le _⟩)) hS (fun r u H locs hq hP hS => ?_)
  obtain ⟨rfl, rfl⟩ := hq
  have hP : gP D cy B z T I R H := hP
  refine lv_icmp_ge (tgt := 48) X.1 X.2.1 dX5_fits_7 (by decide) (fun c7 => ?_) (fun c7 => ?_)
  · have n7 : tx.length ≤ k := gq_le c7 (Eq.refl (nI tx.length)) (Eq.refl (nI k)) (by omega) (by omega)
    refine lv_iload_n X.1 X.2.1 dX5_fits_48 rfl (lv_at hl 2 rfl) ?_
    exact g_iret (f := fun u => u) (z, T, I, R) X hr hlk hK hP hS dX5_fits_49 ⟨(by rw [hfk, List.drop_of_length_le (by omega)]; rfl), rfl⟩
  · have n7 : k < tx.length := gq_nle c7 (Eq.refl (nI tx.length)) (Eq.refl (nI k)) (by omega) (by omega)
    refine lv_aload_n X.1 X.2.1 dX5_fits_10 rfl (lv_at hl 0 rfl) ?_
    refine g_geti 7 0 X hK hP hRd.1.1 rfl hinRX5 rfl (by decide) k25 (fun _ h => h) dX5_fits_11 (show I rd 0 = nI pl from hRd.2.2.2.1) ?_
    refine lv_iload_n X.1 X.2.1 dX5_fits_14 rfl (lv_at hl 2 rfl) ?_
    refine lv_iadd X.1 X.2.1 dX5_fits_15 ?_
    refine lv_aload_n X.1 X.2.1 dX5_fits_16 rfl (lv_at hl 0 rfl) ?_
    refine g_geti 7 2 X hK hP hRd.1.1 rfl hinRX5 rfl (by decide) k21 (fun _ h => h) dX5_fits_17 (show I rd 2 = nI n from hRd.2.2.2.2.1) ?_
    refine lv_icmp_ge (tgt := 48) X.1 X.2.1 dX5_fits_20 (by decide) (fun c20 => ?_) (fun c20 => ?_)
    · have n20 : n ≤ (pl + k) := gq_le c20 (Eq.refl (nI n)) (gn_add (Eq.refl (nI pl)) (Eq.refl (nI k))) (by omega) (by omega)
      refine lv_iload_n X.1 X.2.1 dX5_fits_48 rfl (lv_at hl 2 rfl) ?_
      exact g_iret (f := fun u => u) (z, T, I, R) X hr hlk hK hP hS dX5_fits_49 ⟨(by rw [hfk, fN_drop n7, sH_ge (by omega), if_neg (by have := htx.2 k; omega)]; rfl), rfl⟩
    · have n20 : (pl + k) < n := gq_nle c20 (Eq.refl (nI n)) (gn_add (Eq.refl (nI pl)) (Eq.refl (nI k))) (by omega) (by omega)
      refine lv_aload_n X.1 X.2.1 dX5_fits_23 rfl (lv_at hl 0 rfl) ?_
      refine g_getr 7 1 X hK hP hRd.1.1 rfl hinRX5 rfl (by decide) k9 (fun _ h => h) dX5_fits_24 (show va_rf (R rd 1) = .ref tc from by rw [hRd.1.2.1]; rfl) ?_
      refine lv_aload_n X.1 X.2.1 dX5_fits_27 rfl (lv_at hl 0 rfl) ?_
      refine g_geti 7 0 X hK hP hRd.1.1 rfl hinRX5 rfl (by decide) k25 (fun _ h => h) dX5_fits_28 (show I rd 0 = nI pl from hRd.2.2.2.1) ?_
      refine lv_iload_n X.1 X.2.1 dX5_fits_31 rfl (lv_at hl 2 rfl) ?_
      refine lv_iadd X.1 X.2.1 dX5_fits_32 ?_
      refine g_cald (k + pl) X hK hP hRd.1.2.2.2.1 (gIx_of (gn_eq (gn_add (Eq.refl (nI pl)) (Eq.refl (nI k))) (by omega)) (by omega) (by omega)) dX5_fits_33 (show I tc (k + pl) = nI (tp (k + pl)) from (hRd.2.2.2.2.2 (k + pl) (by omega))) ?_
      refine lv_aload_n X.1 X.2.1 dX5_fits_34 rfl (lv_at hl 1 rfl) ?_
      refine lv_iload_n X.1 X.2.1 dX5_fits_35 rfl (lv_at hl 2 rfl) ?_
      refine g_run_i (f := fun u => u) (g_runVO [.int (nI k)] X hK hP hS hC hB (j_ca hs h2 htx n7) (cwV 1 X.2.2.2.2 gX5_fits_J0_charAt_5068e rfl rfl rfl (by decide +kernel) ⟨Nat.le_of_ble_eq_true rfl, Nat.le_of_ble_eq_true rfl⟩) (hs.now hC).1 rfl hl.1 rfl (Nat.le_of_ble_eq_true rfl) dX5_fits_36 (by exact ⟨Nat.zero_le _, Nat.zero_le _⟩)) hS (fun r u H locs hq hP hS => ?_)
      obtain ⟨rfl, rfl⟩ := hq
      have hP : gP D cy B z T I R H := hP
      have htq := htp (k + pl)
      have htr9 := htx.2 k
      refine lv_icmp_ne (tgt := 48) X.1 X.2.1 dX5_fits_39 (by decide) (fun c39 => ?_) (fun c39 => ?_)
      · have n39 : ¬ (tp (k + pl)) = (tx.getD k 0) := gq_ne c39 (Eq.refl (nI (tp (k + pl)))) (Eq.refl (nI (tx.getD k 0))) (by omega) (by omega)
        refine lv_iload_n X.1 X.2.1 dX5_fits_48 rfl (lv_at hl 2 rfl) ?_
        exact g_iret (f := fun u => u) (z, T, I, R) X hr hlk hK hP hS dX5_fits_49 ⟨(by rw [hfk, fN_drop n7, sH_lt n20, Nat.add_comm pl k, if_neg n39]; rfl), rfl⟩
      · have n39 : (tp (k + pl)) = (tx.getD k 0) := gq_eq c39 (Eq.refl (nI (tp (k + pl)))) (Eq.refl (nI (tx.getD k 0))) (by omega) (by omega)
        refine lv_iinc (v := nI (k + 1)) (lv' := [(2, .int (nI (k + 1))), (0, .ref rd), (1, .ref sa)]) X.1 X.2.1 dX5_fits_42 hl (k := 2) rfl (gn_inc (Eq.refl (nI k)) 1) (by decide) rfl (fun ls hl => ?_)
        refine lv_goto (tgt := 2) X.1 X.2.1 dX5_fits_45 (by decide) ?_
        exact ih _ _ _ _ (by omega) ⟨⟨rfl, hfk.trans (by rw [fN_drop n7, if_pos (by rw [sH_lt n20, Nat.add_comm pl k]; exact n39), ← Nat.add_assoc pl k 1]; omega)⟩, lv_sub hl [1, 2, 0] rfl⟩ hP hS

set_option maxHeartbeats 4000000 in
set_option maxRecDepth 100000 in
/-- o_word_0 -/
theorem o_word_0 {s31 : Nat} (hR31 : vk_R RX4 31 "pace" s31 s0) : Met l yX4_word wsX4_word ({ frames := 0, cells := 0, slots := 0, locals := 0 }) (va_Pc [.int 0] (gW0 s0 D cy B (z, T, I, R))) (va_Qq (fun r u => r = some s31 ∧ (z, T, I, R) = u) (fun u t => gW1 D cy B u t) (gA B)) 0 0 (gA B) := by
  refine g_met (maxL := 1) (ret := (some (.object "java/lang/String"))) (by decide) rfl (Nat.le_of_ble_eq_true rfl) (fun p e s m args below meth c ls X hr hlk hnm hK hP hC hS hl => ?_)
  have hl : lv_has ls 1 [(0, .int 0)] := hl
  have hP : gP D cy B z T I R s.heap := hP
  have hB : B ≤ s.heap.size := by rw [hP.1]; exact hP.2.1
  refine lv_iload_n X.1 X.2.1 dX4_word_0 rfl (lv_at hl 0 rfl) ?_
  refine lv_tableIn (off := 31) (tgt := 32) X.1 X.2.1 dX4_word_1 (by decide) (by decide) (by decide) (by decide) ?_
  refine va_ldcS X.1 X.2.1 X.2.2.2.1 (vk_R.warm hC.1 hR31) dX4_word_32 ?_
  exact g_aret (f := fun u => u) (some s31) (z, T, I, R) X hr (Or.inl ⟨_, rfl⟩) hlk hK hP hS dX4_word_34 rfl ⟨rfl, rfl⟩

set_option maxHeartbeats 4000000 in
set_option maxRecDepth 100000 in
/-- o_has_0 -/
theorem o_has_0  : Met l yX4_hasCondition wsX4_hasCondition ({ frames := 0, cells := 0, slots := 0, locals := 0 }) (va_Pc [.int 0] (gW0 s0 D cy B (z, T, I, R))) (va_Qi (fun r u => r = 1 ∧ (z, T, I, R) = u) (fun u t => gW1 D cy B u t) (gA B)) 0 0 (gA B) := by
  refine g_met (maxL := 1) (ret := (some .boolean)) (by decide) rfl (Nat.le_of_ble_eq_true rfl) (fun p e s m args below meth c ls X hr hlk hnm hK hP hC hS hl => ?_)
  have hl : lv_has ls 1 [(0, .int 0)] := hl
  have hP : gP D cy B z T I R s.heap := hP
  have hB : B ≤ s.heap.size := by rw [hP.1]; exact hP.2.1
  refine lv_iload_n X.1 X.2.1 dX4_hasCondition_0 rfl (lv_at hl 0 rfl) ?_
  refine lv_if_eq (tgt := 14) X.1 X.2.1 dX4_hasCondition_1 (by decide) (fun c1 => ?_) (fun c1 => ?_)
  · refine lv_iconst (v := 1) X.1 X.2.1 dX4_hasCondition_14 (by decide) ?_
    refine lv_goto (tgt := 19) X.1 X.2.1 dX4_hasCondition_15 (by decide) ?_
    exact g_zret (f := fun u => u) (z, T, I, R) X hr hlk hK hP hS dX4_hasCondition_19 rfl ⟨rfl, rfl⟩
  · exact absurd rfl c1

set_option maxHeartbeats 4000000 in
set_option maxRecDepth 100000 in
/-- o_word_1 -/
theorem o_word_1 {s33 : Nat} (hR33 : vk_R RX4 33 "ease" s33 s0) : Met l yX4_word wsX4_word ({ frames := 0, cells := 0, slots := 0, locals := 0 }) (va_Pc [.int 1] (gW0 s0 D cy B (z, T, I, R))) (va_Qq (fun r u => r = some s33 ∧ (z, T, I, R) = u) (fun u t => gW1 D cy B u t) (gA B)) 0 0 (gA B) := by
  refine g_met (maxL := 1) (ret := (some (.object "java/lang/String"))) (by decide) rfl (Nat.le_of_ble_eq_true rfl) (fun p e s m args below meth c ls X hr hlk hnm hK hP hC hS hl => ?_)
  have hl : lv_has ls 1 [(0, .int 1)] := hl
  have hP : gP D cy B z T I R s.heap := hP
  have hB : B ≤ s.heap.size := by rw [hP.1]; exact hP.2.1
  refine lv_iload_n X.1 X.2.1 dX4_word_0 rfl (lv_at hl 0 rfl) ?_
  refine lv_tableIn (off := 34) (tgt := 35) X.1 X.2.1 dX4_word_1 (by decide) (by decide) (by decide) (by decide) ?_
  refine va_ldcS X.1 X.2.1 X.2.2.2.1 (vk_R.warm hC.1 hR33) dX4_word_35 ?_
  exact g_aret (f := fun u => u) (some s33) (z, T, I, R) X hr (Or.inl ⟨_, rfl⟩) hlk hK hP hS dX4_word_37 rfl ⟨rfl, rfl⟩

set_option maxHeartbeats 4000000 in
set_option maxRecDepth 100000 in
/-- o_has_1 -/
theorem o_has_1  : Met l yX4_hasCondition wsX4_hasCondition ({ frames := 0, cells := 0, slots := 0, locals := 0 }) (va_Pc [.int 1] (gW0 s0 D cy B (z, T, I, R))) (va_Qi (fun r u => r = 1 ∧ (z, T, I, R) = u) (fun u t => gW1 D cy B u t) (gA B)) 0 0 (gA B) := by
  refine g_met (maxL := 1) (ret := (some .boolean)) (by decide) rfl (Nat.le_of_ble_eq_true rfl) (fun p e s m args below meth c ls X hr hlk hnm hK hP hC hS hl => ?_)
  have hl : lv_has ls 1 [(0, .int 1)] := hl
  have hP : gP D cy B z T I R s.heap := hP
  have hB : B ≤ s.heap.size := by rw [hP.1]; exact hP.2.1
  refine lv_iload_n X.1 X.2.1 dX4_hasCondition_0 rfl (lv_at hl 0 rfl) ?_
  refine lv_if_eq (tgt := 14) X.1 X.2.1 dX4_hasCondition_1 (by decide) (fun c1 => ?_) (fun c1 => ?_)
  · exact absurd c1 (by decide)
  · refine lv_iload_n X.1 X.2.1 dX4_hasCondition_4 rfl (lv_at hl 0 rfl) ?_
    refine lv_iconst (v := 1) X.1 X.2.1 dX4_hasCondition_5 (by decide) ?_
    refine lv_icmp_eq (tgt := 14) X.1 X.2.1 dX4_hasCondition_6 (by decide) (fun c6 => ?_) (fun c6 => ?_)
    · refine lv_iconst (v := 1) X.1 X.2.1 dX4_hasCondition_14 (by decide) ?_
      refine lv_goto (tgt := 19) X.1 X.2.1 dX4_hasCondition_15 (by decide) ?_
      exact g_zret (f := fun u => u) (z, T, I, R) X hr hlk hK hP hS dX4_hasCondition_19 rfl ⟨rfl, rfl⟩
    · exact absurd rfl c6

set_option maxHeartbeats 4000000 in
set_option maxRecDepth 100000 in
/-- o_word_2 -/
theorem o_word_2 {s35 : Nat} (hR35 : vk_R RX4 35 "spill" s35 s0) : Met l yX4_word wsX4_word ({ frames := 0, cells := 0, slots := 0, locals := 0 }) (va_Pc [.int 2] (gW0 s0 D cy B (z, T, I, R))) (va_Qq (fun r u => r = some s35 ∧ (z, T, I, R) = u) (fun u t => gW1 D cy B u t) (gA B)) 0 0 (gA B) := by
  refine g_met (maxL := 1) (ret := (some (.object "java/lang/String"))) (by decide) rfl (Nat.le_of_ble_eq_true rfl) (fun p e s m args below meth c ls X hr hlk hnm hK hP hC hS hl => ?_)
  have hl : lv_has ls 1 [(0, .int 2)] := hl
  have hP : gP D cy B z T I R s.heap := hP
  have hB : B ≤ s.heap.size := by rw [hP.1]; exact hP.2.1
  refine lv_iload_n X.1 X.2.1 dX4_word_0 rfl (lv_at hl 0 rfl) ?_
  refine lv_tableIn (off := 37) (tgt := 38) X.1 X.2.1 dX4_word_1 (by decide) (by decide) (by decide) (by decide) ?_
  refine va_ldcS X.1 X.2.1 X.2.2.2.1 (vk_R.warm hC.1 hR35) dX4_word_38 ?_
  exact g_aret (f := fun u => u) (some s35) (z, T, I, R) X hr (Or.inl ⟨_, rfl⟩) hlk hK hP hS dX4_word_40 rfl ⟨rfl, rfl⟩

set_option maxHeartbeats 4000000 in
set_option maxRecDepth 100000 in
/-- o_has_2 -/
theorem o_has_2  : Met l yX4_hasCondition wsX4_hasCondition ({ frames := 0, cells := 0, slots := 0, locals := 0 }) (va_Pc [.int 2] (gW0 s0 D cy B (z, T, I, R))) (va_Qi (fun r u => r = 1 ∧ (z, T, I, R) = u) (fun u t => gW1 D cy B u t) (gA B)) 0 0 (gA B) := by
  refine g_met (maxL := 1) (ret := (some .boolean)) (by decide) rfl (Nat.le_of_ble_eq_true rfl) (fun p e s m args below meth c ls X hr hlk hnm hK hP hC hS hl => ?_)
  have hl : lv_has ls 1 [(0, .int 2)] := hl
  have hP : gP D cy B z T I R s.heap := hP
  have hB : B ≤ s.heap.size := by rw [hP.1]; exact hP.2.1
  refine lv_iload_n X.1 X.2.1 dX4_hasCondition_0 rfl (lv_at hl 0 rfl) ?_
  refine lv_if_eq (tgt := 14) X.1 X.2.1 dX4_hasCondition_1 (by decide) (fun c1 => ?_) (fun c1 => ?_)
  · exact absurd c1 (by decide)
  · refine lv_iload_n X.1 X.2.1 dX4_hasCondition_4 rfl (lv_at hl 0 rfl) ?_
    refine lv_iconst (v := 1) X.1 X.2.1 dX4_hasCondition_5 (by decide) ?_
    refine lv_icmp_eq (tgt := 14) X.1 X.2.1 dX4_hasCondition_6 (by decide) (fun c6 => ?_) (fun c6 => ?_)
    · exact absurd c6 (by decide)
    · refine lv_iload_n X.1 X.2.1 dX4_hasCondition_9 rfl (lv_at hl 0 rfl) ?_
      refine lv_iconst (v := 2) X.1 X.2.1 dX4_hasCondition_10 (by decide) ?_
      refine lv_icmp_ne (tgt := 18) X.1 X.2.1 dX4_hasCondition_11 (by decide) (fun c11 => ?_) (fun c11 => ?_)
      · exact absurd rfl c11
      · refine lv_iconst (v := 1) X.1 X.2.1 dX4_hasCondition_14 (by decide) ?_
        refine lv_goto (tgt := 19) X.1 X.2.1 dX4_hasCondition_15 (by decide) ?_
        exact g_zret (f := fun u => u) (z, T, I, R) X hr hlk hK hP hS dX4_hasCondition_19 rfl ⟨rfl, rfl⟩

set_option maxHeartbeats 4000000 in
set_option maxRecDepth 100000 in
/-- o_word_3 -/
theorem o_word_3 {s37 : Nat} (hR37 : vk_R RX4 37 "tire" s37 s0) : Met l yX4_word wsX4_word ({ frames := 0, cells := 0, slots := 0, locals := 0 }) (va_Pc [.int 3] (gW0 s0 D cy B (z, T, I, R))) (va_Qq (fun r u => r = some s37 ∧ (z, T, I, R) = u) (fun u t => gW1 D cy B u t) (gA B)) 0 0 (gA B) := by
  refine g_met (maxL := 1) (ret := (some (.object "java/lang/String"))) (by decide) rfl (Nat.le_of_ble_eq_true rfl) (fun p e s m args below meth c ls X hr hlk hnm hK hP hC hS hl => ?_)
  have hl : lv_has ls 1 [(0, .int 3)] := hl
  have hP : gP D cy B z T I R s.heap := hP
  have hB : B ≤ s.heap.size := by rw [hP.1]; exact hP.2.1
  refine lv_iload_n X.1 X.2.1 dX4_word_0 rfl (lv_at hl 0 rfl) ?_
  refine lv_tableIn (off := 40) (tgt := 41) X.1 X.2.1 dX4_word_1 (by decide) (by decide) (by decide) (by decide) ?_
  refine va_ldcS X.1 X.2.1 X.2.2.2.1 (vk_R.warm hC.1 hR37) dX4_word_41 ?_
  exact g_aret (f := fun u => u) (some s37) (z, T, I, R) X hr (Or.inl ⟨_, rfl⟩) hlk hK hP hS dX4_word_43 rfl ⟨rfl, rfl⟩

set_option maxHeartbeats 4000000 in
set_option maxRecDepth 100000 in
/-- o_has_3 -/
theorem o_has_3  : Met l yX4_hasCondition wsX4_hasCondition ({ frames := 0, cells := 0, slots := 0, locals := 0 }) (va_Pc [.int 3] (gW0 s0 D cy B (z, T, I, R))) (va_Qi (fun r u => r = 0 ∧ (z, T, I, R) = u) (fun u t => gW1 D cy B u t) (gA B)) 0 0 (gA B) := by
  refine g_met (maxL := 1) (ret := (some .boolean)) (by decide) rfl (Nat.le_of_ble_eq_true rfl) (fun p e s m args below meth c ls X hr hlk hnm hK hP hC hS hl => ?_)
  have hl : lv_has ls 1 [(0, .int 3)] := hl
  have hP : gP D cy B z T I R s.heap := hP
  have hB : B ≤ s.heap.size := by rw [hP.1]; exact hP.2.1
  refine lv_iload_n X.1 X.2.1 dX4_hasCondition_0 rfl (lv_at hl 0 rfl) ?_
  refine lv_if_eq (tgt := 14) X.1 X.2.1 dX4_hasCondition_1 (by decide) (fun c1 => ?_) (fun c1 => ?_)
  · exact absurd c1 (by decide)
  · refine lv_iload_n X.1 X.2.1 dX4_hasCondition_4 rfl (lv_at hl 0 rfl) ?_
    refine lv_iconst (v := 1) X.1 X.2.1 dX4_hasCondition_5 (by decide) ?_
    refine lv_icmp_eq (tgt := 14) X.1 X.2.1 dX4_hasCondition_6 (by decide) (fun c6 => ?_) (fun c6 => ?_)
    · exact absurd c6 (by decide)
    · refine lv_iload_n X.1 X.2.1 dX4_hasCondition_9 rfl (lv_at hl 0 rfl) ?_
      refine lv_iconst (v := 2) X.1 X.2.1 dX4_hasCondition_10 (by decide) ?_
      refine lv_icmp_ne (tgt := 18) X.1 X.2.1 dX4_hasCondition_11 (by decide) (fun c11 => ?_) (fun c11 => ?_)
      · refine lv_iconst (v := 0) X.1 X.2.1 dX4_hasCondition_18 (by decide) ?_
        exact g_zret (f := fun u => u) (z, T, I, R) X hr hlk hK hP hS dX4_hasCondition_19 rfl ⟨rfl, rfl⟩
      · exact absurd c11 (by decide)

set_option maxHeartbeats 4000000 in
set_option maxRecDepth 100000 in
/-- o_word_4 -/
theorem o_word_4 {s38 : Nat} (hR38 : vk_R RX4 38 "shovel" s38 s0) : Met l yX4_word wsX4_word ({ frames := 0, cells := 0, slots := 0, locals := 0 }) (va_Pc [.int 4] (gW0 s0 D cy B (z, T, I, R))) (va_Qq (fun r u => r = some s38 ∧ (z, T, I, R) = u) (fun u t => gW1 D cy B u t) (gA B)) 0 0 (gA B) := by
  refine g_met (maxL := 1) (ret := (some (.object "java/lang/String"))) (by decide) rfl (Nat.le_of_ble_eq_true rfl) (fun p e s m args below meth c ls X hr hlk hnm hK hP hC hS hl => ?_)
  have hl : lv_has ls 1 [(0, .int 4)] := hl
  have hP : gP D cy B z T I R s.heap := hP
  have hB : B ≤ s.heap.size := by rw [hP.1]; exact hP.2.1
  refine lv_iload_n X.1 X.2.1 dX4_word_0 rfl (lv_at hl 0 rfl) ?_
  refine lv_tableOut (tgt := 44) X.1 X.2.1 dX4_word_1 (by decide) (by decide) ?_
  refine va_ldcS X.1 X.2.1 X.2.2.2.1 (vk_R.warm hC.1 hR38) dX4_word_44 ?_
  exact g_aret (f := fun u => u) (some s38) (z, T, I, R) X hr (Or.inl ⟨_, rfl⟩) hlk hK hP hS dX4_word_46 rfl ⟨rfl, rfl⟩

set_option maxHeartbeats 4000000 in
set_option maxRecDepth 100000 in
/-- o_has_4 -/
theorem o_has_4  : Met l yX4_hasCondition wsX4_hasCondition ({ frames := 0, cells := 0, slots := 0, locals := 0 }) (va_Pc [.int 4] (gW0 s0 D cy B (z, T, I, R))) (va_Qi (fun r u => r = 0 ∧ (z, T, I, R) = u) (fun u t => gW1 D cy B u t) (gA B)) 0 0 (gA B) := by
  refine g_met (maxL := 1) (ret := (some .boolean)) (by decide) rfl (Nat.le_of_ble_eq_true rfl) (fun p e s m args below meth c ls X hr hlk hnm hK hP hC hS hl => ?_)
  have hl : lv_has ls 1 [(0, .int 4)] := hl
  have hP : gP D cy B z T I R s.heap := hP
  have hB : B ≤ s.heap.size := by rw [hP.1]; exact hP.2.1
  refine lv_iload_n X.1 X.2.1 dX4_hasCondition_0 rfl (lv_at hl 0 rfl) ?_
  refine lv_if_eq (tgt := 14) X.1 X.2.1 dX4_hasCondition_1 (by decide) (fun c1 => ?_) (fun c1 => ?_)
  · exact absurd c1 (by decide)
  · refine lv_iload_n X.1 X.2.1 dX4_hasCondition_4 rfl (lv_at hl 0 rfl) ?_
    refine lv_iconst (v := 1) X.1 X.2.1 dX4_hasCondition_5 (by decide) ?_
    refine lv_icmp_eq (tgt := 14) X.1 X.2.1 dX4_hasCondition_6 (by decide) (fun c6 => ?_) (fun c6 => ?_)
    · exact absurd c6 (by decide)
    · refine lv_iload_n X.1 X.2.1 dX4_hasCondition_9 rfl (lv_at hl 0 rfl) ?_
      refine lv_iconst (v := 2) X.1 X.2.1 dX4_hasCondition_10 (by decide) ?_
      refine lv_icmp_ne (tgt := 18) X.1 X.2.1 dX4_hasCondition_11 (by decide) (fun c11 => ?_) (fun c11 => ?_)
      · refine lv_iconst (v := 0) X.1 X.2.1 dX4_hasCondition_18 (by decide) ?_
        exact g_zret (f := fun u => u) (z, T, I, R) X hr hlk hK hP hS dX4_hasCondition_19 rfl ⟨rfl, rfl⟩
      · exact absurd c11 (by decide)

set_option maxHeartbeats 4000000 in
set_option maxRecDepth 100000 in
/-- o_rword -/
theorem o_rword (hRd : cRd rd tc a T I R tp n pl) (hstr : gStr s0 B) : Met l yX5_readWord wsX5_readWord ({ frames := 5, cells := 0, slots := 0, locals := 107 }) (va_Pc [.ref rd] (gW0 s0 D cy B (z, T, I, R))) (va_Qi (fun r u => ∃ I' p', u = (z, T, I', R) ∧ I' rd 0 = nI p' ∧ (∀ c j, ¬ (c = rd ∧ j = 0) → I' c j = I c j) ∧ (pl ≤ p' ∧ p' ≤ n) ∧ ((r = 0 ∧ fN tp n wP pl = 4 ∧ p' = pl + 4) ∨ (r = 1 ∧ fN tp n wE pl = 4 ∧ p' = pl + 4) ∨ (r = 2 ∧ fN tp n wS9 pl = 5 ∧ p' = pl + 5) ∨ (r = 3 ∧ fN tp n wT pl = 4 ∧ p' = pl + 4) ∨ (r = 4 ∧ fN tp n wV pl = 6 ∧ p' = pl + 6) ∨ (r = -1 ∧ (fN tp n wP pl < 4 ∧ fN tp n wE pl < 4 ∧ fN tp n wS9 pl < 5 ∧ fN tp n wT pl < 4 ∧ fN tp n wV pl < 6) ∧ p' = pl + (max (max (max (max (max 0 (fN tp n wP pl)) (fN tp n wE pl)) (fN tp n wS9 pl)) (fN tp n wT pl)) (fN tp n wV pl))))) (fun u t => gW1 D cy B u t) (gA B)) 0 0 (gA B) := by
  refine g_met (maxL := 5) (ret := (some .int)) (by decide) rfl (Nat.le_of_ble_eq_true rfl) (fun p e s m args below meth c ls X hr hlk hnm hK hP hC hS hl => ?_)
  have hl : lv_has ls 5 [(0, .ref rd)] := hl
  have hP : gP D cy B z T I R s.heap := hP
  have hB : B ≤ s.heap.size := by rw [hP.1]; exact hP.2.1
  have hinRX5 : ∀ w ∈ wsX50, w ∈ wsX5_readWord := fun _ h => List.mem_cons_of_mem _ (List.mem_append_right _ h)
  have k25 : Cond.fieldLink RX5 25 "BarrowPlank$SiteReader" "place" "I" ∈ wsX5_readWord := by decide +kernel
  have hn100 := hRd.2.2.1.1
  have hpn := hRd.2.2.1.2.1
  have htp := hRd.2.2.1.2.2
  have hrda := hRd.2.1.1
  have htca := hRd.2.1.2.1
  have hrdt := hRd.2.1.2.2
  have h2 : gSt2 s0 B := hstr.1
  obtain ⟨s31, q31, hR31, hs31, ht31⟩ := hstr.at 7 rfl
  have hs31 : gSo s0 B wP s31 q31 := hs31
  have ht31 : gTx wP := ht31
  obtain ⟨s33, q33, hR33, hs33, ht33⟩ := hstr.at 8 rfl
  have hs33 : gSo s0 B wE s33 q33 := hs33
  have ht33 : gTx wE := ht33
  obtain ⟨s35, q35, hR35, hs35, ht35⟩ := hstr.at 9 rfl
  have hs35 : gSo s0 B wS9 s35 q35 := hs35
  have ht35 : gTx wS9 := ht35
  obtain ⟨s37, q37, hR37, hs37, ht37⟩ := hstr.at 10 rfl
  have hs37 : gSo s0 B wT s37 q37 := hs37
  have ht37 : gTx wT := ht37
  obtain ⟨s38, q38, hR38, hs38, ht38⟩ := hstr.at 11 rfl
  have hs38 : gSo s0 B wV s38 q38 := hs38
  have ht38 : gTx wV := ht38
  have hFt : rFr rd a I I := rFr.rf
  have hf0 : ∀ c j, ¬ (c = rd ∧ j = 0) → I c j = I c j := fun _ _ _ => rfl
  have hfl0 : fN tp n wP pl ≤ 4 := fN_le wP pl
  have hfi0 : pl + fN tp n wP pl ≤ n := fN_in wP pl (gTx_m ht31) hpn
  have hfl1 : fN tp n wE pl ≤ 4 := fN_le wE pl
  have hfi1 : pl + fN tp n wE pl ≤ n := fN_in wE pl (gTx_m ht33) hpn
  have hfl2 : fN tp n wS9 pl ≤ 5 := fN_le wS9 pl
  have hfi2 : pl + fN tp n wS9 pl ≤ n := fN_in wS9 pl (gTx_m ht35) hpn
  have hfl3 : fN tp n wT pl ≤ 4 := fN_le wT pl
  have hfi3 : pl + fN tp n wT pl ≤ n := fN_in wT pl (gTx_m ht37) hpn
  have hfl4 : fN tp n wV pl ≤ 6 := fN_le wV pl
  have hfi4 : pl + fN tp n wV pl ≤ n := fN_in wV pl (gTx_m ht38) hpn
  refine lv_iconst (v := 0) X.1 X.2.1 dX5_readWord_0 (by decide) ?_
  refine lv_istore_n (lv' := [(1, .int 0), (0, .ref rd)]) X.1 X.2.1 dX5_readWord_1 rfl hl (by decide) rfl (fun ls hl => ?_)
  refine lv_iconst (v := 0) X.1 X.2.1 dX5_readWord_2 (by decide) ?_
  refine lv_istore_n (lv' := [(2, .int 0), (1, .int 0), (0, .ref rd)]) X.1 X.2.1 dX5_readWord_3 rfl hl (by decide) rfl (fun ls hl => ?_)
  have hl : lv_has ls 5 [(0, .ref rd), (1, .int (nI 0)), (2, .int 0)] := lv_sub hl [2, 1, 0] rfl
  refine lv_iload_n X.1 X.2.1 dX5_readWord_4 rfl (lv_at hl 2 rfl) ?_
  refine lv_iconst (v := 5) X.1 X.2.1 dX5_readWord_5 (by decide) ?_
  refine lv_icmp_ge (tgt := 56) X.1 X.2.1 dX5_readWord_6 (by decide) (fun c6 => ?_) (fun c6 => ?_)
  · exact absurd c6 (by decide)
  · have n6 : 0 < 5 := gq_nle c6 (show (5 : Int32) = nI 5 from rfl) (show (0 : Int32) = nI 0 from rfl) (by omega) (by omega)
    refine lv_iload_n X.1 X.2.1 dX5_readWord_9 rfl (lv_at hl 2 rfl) ?_
    refine g_run_q (f := fun u => u) (g_runS [.int 0] X hK hP hS hC hB (o_word_0 hR31) (va_cwS 1 X.2.2.2.2 gX5_readWord_X4_word rfl rfl rfl (by decide +kernel) ⟨Nat.le_of_ble_eq_true rfl, Nat.le_of_ble_eq_true rfl⟩) rfl hl.1 rfl (Nat.le_of_ble_eq_true rfl) dX5_readWord_10 (by exact ⟨Nat.zero_le _, Nat.zero_le _⟩)) hS (fun r u H locs hq hP hS => ?_)
    obtain ⟨rfl, rfl⟩ := hq
    have hP : gP D cy B z T I R H := hP
    refine lv_astore_n (lv' := [(3, .ref s31), (0, .ref rd), (1, .int (nI 0)), (2, .int 0)]) X.1 X.2.1 dX5_readWord_13 rfl hl (by decide) rfl (fun ls hl => ?_)
    refine lv_aload_n X.1 X.2.1 dX5_readWord_14 rfl (lv_at hl 1 rfl) ?_
    refine lv_aload_n X.1 X.2.1 dX5_readWord_15 rfl (lv_at hl 0 rfl) ?_
    refine g_run_i (f := fun u => u) (g_runV (k := 7) [.ref s31] X hK hP hS hC hB (o_fits hRd hs31 h2 ht31) (cwV 1 X.2.2.2.2 gX5_readWord_X5_fits rfl rfl rfl (by decide +kernel) ⟨Nat.le_of_ble_eq_true rfl, Nat.le_of_ble_eq_true rfl⟩) hRd.1.1 rfl rfl hl.1 rfl (Nat.le_of_ble_eq_true rfl) dX5_readWord_16 (by exact ⟨Nat.zero_le _, Nat.zero_le _⟩)) hS (fun r u H locs hq hP hS => ?_)
    obtain ⟨rfl, rfl⟩ := hq
    have hP : gP D cy B z T I R H := hP
    refine lv_istore (lv' := [(4, .int (nI (fN tp n wP pl))), (3, .ref s31), (0, .ref rd), (1, .int (nI 0)), (2, .int 0)]) X.1 X.2.1 dX5_readWord_19 hl (by decide) rfl (fun ls hl => ?_)
    refine lv_iload X.1 X.2.1 dX5_readWord_21 (lv_at hl 0 rfl) ?_
    refine lv_aload_n X.1 X.2.1 dX5_readWord_23 rfl (lv_at hl 1 rfl) ?_
    refine g_run_i (f := fun u => u) (g_runVO [] X hK hP hS hC hB (j_len hs31 h2 ht31) (cwV 0 X.2.2.2.2 gX5_readWord_J0_length_8abf5 rfl rfl rfl (by decide +kernel) ⟨Nat.le_of_ble_eq_true rfl, Nat.le_of_ble_eq_true rfl⟩) (hs31.now hC).1 rfl hl.1 rfl (Nat.le_of_ble_eq_true rfl) dX5_readWord_24 (by exact ⟨Nat.zero_le _, Nat.zero_le _⟩)) hS (fun r u H locs hq hP hS => ?_)
    obtain ⟨rfl, rfl⟩ := hq
    have hP : gP D cy B z T I R H := hP
    refine lv_cv (show nI (List.length wP) = 4 from rfl) ?_
    refine lv_icmp_ne (tgt := 43) X.1 X.2.1 dX5_readWord_27 (by decide) (fun c27 => ?_) (fun c27 => ?_)
    · have n27 : ¬ (fN tp n wP pl) = 4 := gq_ne c27 (Eq.refl (nI (fN tp n wP pl))) (show (4 : Int32) = nI 4 from rfl) (by omega) (by omega)
      refine lv_iload_n X.1 X.2.1 dX5_readWord_43 rfl (lv_at hl 3 rfl) ?_
      refine lv_iload X.1 X.2.1 dX5_readWord_44 (lv_at hl 0 rfl) ?_
      refine va_mmax X.1 X.2.1 (X.2.2.1.trans hl.1.symm) X.2.2.2.1 (X.2.2.2.2 (.methodLink RX5 78 Lib.Math.max.name) (by decide +kernel)) (X.2.2.2.2 (.static Lib.Math.max.name) (by decide +kernel)) (X.2.2.2.2 (.initialized "java/lang/Math") (by decide +kernel)) (X.2.2.2.2 (.code Lib.Math.max.name Lib.Math.max.code 2 (some .int)) (by decide +kernel)) (Nat.le_of_ble_eq_true rfl) (Nat.le_of_ble_eq_true rfl) (Nat.zero_le _) (Nat.zero_le _) dX5_readWord_46 ?_
      refine lv_cv (gm_max (Eq.refl (nI 0)) (Eq.refl (nI (fN tp n wP pl))) (by omega) (by omega)) ?_
      refine lv_istore_n (lv' := [(1, .int (nI (max 0 (fN tp n wP pl)))), (4, .int (nI (fN tp n wP pl))), (3, .ref s31), (0, .ref rd), (2, .int 0)]) X.1 X.2.1 dX5_readWord_49 rfl hl (by decide) rfl (fun ls hl => ?_)
      refine lv_iinc (v := nI (0 + 1)) (lv' := [(2, .int (nI (0 + 1))), (1, .int (nI (max 0 (fN tp n wP pl)))), (4, .int (nI (fN tp n wP pl))), (3, .ref s31), (0, .ref rd)]) X.1 X.2.1 dX5_readWord_50 hl (k := 4) rfl (gn_inc (show (0 : Int32) = nI 0 from rfl) 1) (by decide) rfl (fun ls hl => ?_)
      refine lv_goto (tgt := 4) X.1 X.2.1 dX5_readWord_53 (by decide) ?_
      have hl : lv_has ls 5 [(0, .ref rd), (1, .int (nI (max 0 (fN tp n wP pl)))), (2, .int 1)] := lv_sub hl [4, 1, 0] rfl
      refine lv_iload_n X.1 X.2.1 dX5_readWord_4 rfl (lv_at hl 2 rfl) ?_
      refine lv_iconst (v := 5) X.1 X.2.1 dX5_readWord_5 (by decide) ?_
      refine lv_icmp_ge (tgt := 56) X.1 X.2.1 dX5_readWord_6 (by decide) (fun c6_1 => ?_) (fun c6_1 => ?_)
      · exact absurd c6_1 (by decide)
      · have n6_1 : 1 < 5 := gq_nle c6_1 (show (5 : Int32) = nI 5 from rfl) (show (1 : Int32) = nI 1 from rfl) (by omega) (by omega)
        refine lv_iload_n X.1 X.2.1 dX5_readWord_9 rfl (lv_at hl 2 rfl) ?_
        refine g_run_q (f := fun u => u) (g_runS [.int 1] X hK hP hS hC hB (o_word_1 hR33) (va_cwS 1 X.2.2.2.2 gX5_readWord_X4_word rfl rfl rfl (by decide +kernel) ⟨Nat.le_of_ble_eq_true rfl, Nat.le_of_ble_eq_true rfl⟩) rfl hl.1 rfl (Nat.le_of_ble_eq_true rfl) dX5_readWord_10 (by exact ⟨Nat.zero_le _, Nat.zero_le _⟩)) hS (fun r u H locs hq hP hS => ?_)
        obtain ⟨rfl, rfl⟩ := hq
        have hP : gP D cy B z T I R H := hP
        refine lv_astore_n (lv' := [(3, .ref s33), (0, .ref rd), (1, .int (nI (max 0 (fN tp n wP pl)))), (2, .int 1)]) X.1 X.2.1 dX5_readWord_13 rfl hl (by decide) rfl (fun ls hl => ?_)
        refine lv_aload_n X.1 X.2.1 dX5_readWord_14 rfl (lv_at hl 1 rfl) ?_
        refine lv_aload_n X.1 X.2.1 dX5_readWord_15 rfl (lv_at hl 0 rfl) ?_
        refine g_run_i (f := fun u => u) (g_runV (k := 7) [.ref s33] X hK hP hS hC hB (o_fits hRd hs33 h2 ht33) (cwV 1 X.2.2.2.2 gX5_readWord_X5_fits rfl rfl rfl (by decide +kernel) ⟨Nat.le_of_ble_eq_true rfl, Nat.le_of_ble_eq_true rfl⟩) hRd.1.1 rfl rfl hl.1 rfl (Nat.le_of_ble_eq_true rfl) dX5_readWord_16 (by exact ⟨Nat.zero_le _, Nat.zero_le _⟩)) hS (fun r u H locs hq hP hS => ?_)
        obtain ⟨rfl, rfl⟩ := hq
        have hP : gP D cy B z T I R H := hP
        refine lv_istore (lv' := [(4, .int (nI (fN tp n wE pl))), (3, .ref s33), (0, .ref rd), (1, .int (nI (max 0 (fN tp n wP pl)))), (2, .int 1)]) X.1 X.2.1 dX5_readWord_19 hl (by decide) rfl (fun ls hl => ?_)
        refine lv_iload X.1 X.2.1 dX5_readWord_21 (lv_at hl 0 rfl) ?_
        refine lv_aload_n X.1 X.2.1 dX5_readWord_23 rfl (lv_at hl 1 rfl) ?_
        refine g_run_i (f := fun u => u) (g_runVO [] X hK hP hS hC hB (j_len hs33 h2 ht33) (cwV 0 X.2.2.2.2 gX5_readWord_J0_length_8abf5 rfl rfl rfl (by decide +kernel) ⟨Nat.le_of_ble_eq_true rfl, Nat.le_of_ble_eq_true rfl⟩) (hs33.now hC).1 rfl hl.1 rfl (Nat.le_of_ble_eq_true rfl) dX5_readWord_24 (by exact ⟨Nat.zero_le _, Nat.zero_le _⟩)) hS (fun r u H locs hq hP hS => ?_)
        obtain ⟨rfl, rfl⟩ := hq
        have hP : gP D cy B z T I R H := hP
        refine lv_cv (show nI (List.length wE) = 4 from rfl) ?_
        refine lv_icmp_ne (tgt := 43) X.1 X.2.1 dX5_readWord_27 (by decide) (fun c27_2 => ?_) (fun c27_2 => ?_)
        · have n27_2 : ¬ (fN tp n wE pl) = 4 := gq_ne c27_2 (Eq.refl (nI (fN tp n wE pl))) (show (4 : Int32) = nI 4 from rfl) (by omega) (by omega)
          refine lv_iload_n X.1 X.2.1 dX5_readWord_43 rfl (lv_at hl 3 rfl) ?_
          refine lv_iload X.1 X.2.1 dX5_readWord_44 (lv_at hl 0 rfl) ?_
          refine va_mmax X.1 X.2.1 (X.2.2.1.trans hl.1.symm) X.2.2.2.1 (X.2.2.2.2 (.methodLink RX5 78 Lib.Math.max.name) (by decide +kernel)) (X.2.2.2.2 (.static Lib.Math.max.name) (by decide +kernel)) (X.2.2.2.2 (.initialized "java/lang/Math") (by decide +kernel)) (X.2.2.2.2 (.code Lib.Math.max.name Lib.Math.max.code 2 (some .int)) (by decide +kernel)) (Nat.le_of_ble_eq_true rfl) (Nat.le_of_ble_eq_true rfl) (Nat.zero_le _) (Nat.zero_le _) dX5_readWord_46 ?_
          refine lv_cv (gm_max (Eq.refl (nI (max 0 (fN tp n wP pl)))) (Eq.refl (nI (fN tp n wE pl))) (by omega) (by omega)) ?_
          refine lv_istore_n (lv' := [(1, .int (nI (max (max 0 (fN tp n wP pl)) (fN tp n wE pl)))), (4, .int (nI (fN tp n wE pl))), (3, .ref s33), (0, .ref rd), (2, .int 1)]) X.1 X.2.1 dX5_readWord_49 rfl hl (by decide) rfl (fun ls hl => ?_)
          refine lv_iinc (v := nI (1 + 1)) (lv' := [(2, .int (nI (1 + 1))), (1, .int (nI (max (max 0 (fN tp n wP pl)) (fN tp n wE pl)))), (4, .int (nI (fN tp n wE pl))), (3, .ref s33), (0, .ref rd)]) X.1 X.2.1 dX5_readWord_50 hl (k := 4) rfl (gn_inc (show (1 : Int32) = nI 1 from rfl) 1) (by decide) rfl (fun ls hl => ?_)
          refine lv_goto (tgt := 4) X.1 X.2.1 dX5_readWord_53 (by decide) ?_
          have hl : lv_has ls 5 [(0, .ref rd), (1, .int (nI (max (max 0 (fN tp n wP pl)) (fN tp n wE pl)))), (2, .int 2)] := lv_sub hl [4, 1, 0] rfl
          refine lv_iload_n X.1 X.2.1 dX5_readWord_4 rfl (lv_at hl 2 rfl) ?_
          refine lv_iconst (v := 5) X.1 X.2.1 dX5_readWord_5 (by decide) ?_
          refine lv_icmp_ge (tgt := 56) X.1 X.2.1 dX5_readWord_6 (by decide) (fun c6_3 => ?_) (fun c6_3 => ?_)
          · exact absurd c6_3 (by decide)
          · have n6_3 : 2 < 5 := gq_nle c6_3 (show (5 : Int32) = nI 5 from rfl) (show (2 : Int32) = nI 2 from rfl) (by omega) (by omega)
            refine lv_iload_n X.1 X.2.1 dX5_readWord_9 rfl (lv_at hl 2 rfl) ?_
            refine g_run_q (f := fun u => u) (g_runS [.int 2] X hK hP hS hC hB (o_word_2 hR35) (va_cwS 1 X.2.2.2.2 gX5_readWord_X4_word rfl rfl rfl (by decide +kernel) ⟨Nat.le_of_ble_eq_true rfl, Nat.le_of_ble_eq_true rfl⟩) rfl hl.1 rfl (Nat.le_of_ble_eq_true rfl) dX5_readWord_10 (by exact ⟨Nat.zero_le _, Nat.zero_le _⟩)) hS (fun r u H locs hq hP hS => ?_)
            obtain ⟨rfl, rfl⟩ := hq
            have hP : gP D cy B z T I R H := hP
            refine lv_astore_n (lv' := [(3, .ref s35), (0, .ref rd), (1, .int (nI (max (max 0 (fN tp n wP pl)) (fN tp n wE pl)))), (2, .int 2)]) X.1 X.2.1 dX5_readWord_13 rfl hl (by decide) rfl (fun ls hl => ?_)
            refine lv_aload_n X.1 X.2.1 dX5_readWord_14 rfl (lv_at hl 1 rfl) ?_
            refine lv_aload_n X.1 X.2.1 dX5_readWord_15 rfl (lv_at hl 0 rfl) ?_
            refine g_run_i (f := fun u => u) (g_runV (k := 7) [.ref s35] X hK hP hS hC hB (o_fits hRd hs35 h2 ht35) (cwV 1 X.2.2.2.2 gX5_readWord_X5_fits rfl rfl rfl (by decide +kernel) ⟨Nat.le_of_ble_eq_true rfl, Nat.le_of_ble_eq_true rfl⟩) hRd.1.1 rfl rfl hl.1 rfl (Nat.le_of_ble_eq_true rfl) dX5_readWord_16 (by exact ⟨Nat.zero_le _, Nat.zero_le _⟩)) hS (fun r u H locs hq hP hS => ?_)
            obtain ⟨rfl, rfl⟩ := hq
            have hP : gP D cy B z T I R H := hP
            refine lv_istore (lv' := [(4, .int (nI (fN tp n wS9 pl))), (3, .ref s35), (0, .ref rd), (1, .int (nI (max (max 0 (fN tp n wP pl)) (fN tp n wE pl)))), (2, .int 2)]) X.1 X.2.1 dX5_readWord_19 hl (by decide) rfl (fun ls hl => ?_)
            refine lv_iload X.1 X.2.1 dX5_readWord_21 (lv_at hl 0 rfl) ?_
            refine lv_aload_n X.1 X.2.1 dX5_readWord_23 rfl (lv_at hl 1 rfl) ?_
            refine g_run_i (f := fun u => u) (g_runVO [] X hK hP hS hC hB (j_len hs35 h2 ht35) (cwV 0 X.2.2.2.2 gX5_readWord_J0_length_8abf5 rfl rfl rfl (by decide +kernel) ⟨Nat.le_of_ble_eq_true rfl, Nat.le_of_ble_eq_true rfl⟩) (hs35.now hC).1 rfl hl.1 rfl (Nat.le_of_ble_eq_true rfl) dX5_readWord_24 (by exact ⟨Nat.zero_le _, Nat.zero_le _⟩)) hS (fun r u H locs hq hP hS => ?_)
            obtain ⟨rfl, rfl⟩ := hq
            have hP : gP D cy B z T I R H := hP
            refine lv_cv (show nI (List.length wS9) = 5 from rfl) ?_
            refine lv_icmp_ne (tgt := 43) X.1 X.2.1 dX5_readWord_27 (by decide) (fun c27_4 => ?_) (fun c27_4 => ?_)
            · have n27_4 : ¬ (fN tp n wS9 pl) = 5 := gq_ne c27_4 (Eq.refl (nI (fN tp n wS9 pl))) (show (5 : Int32) = nI 5 from rfl) (by omega) (by omega)
              refine lv_iload_n X.1 X.2.1 dX5_readWord_43 rfl (lv_at hl 3 rfl) ?_
              refine lv_iload X.1 X.2.1 dX5_readWord_44 (lv_at hl 0 rfl) ?_
              refine va_mmax X.1 X.2.1 (X.2.2.1.trans hl.1.symm) X.2.2.2.1 (X.2.2.2.2 (.methodLink RX5 78 Lib.Math.max.name) (by decide +kernel)) (X.2.2.2.2 (.static Lib.Math.max.name) (by decide +kernel)) (X.2.2.2.2 (.initialized "java/lang/Math") (by decide +kernel)) (X.2.2.2.2 (.code Lib.Math.max.name Lib.Math.max.code 2 (some .int)) (by decide +kernel)) (Nat.le_of_ble_eq_true rfl) (Nat.le_of_ble_eq_true rfl) (Nat.zero_le _) (Nat.zero_le _) dX5_readWord_46 ?_
              refine lv_cv (gm_max (Eq.refl (nI (max (max 0 (fN tp n wP pl)) (fN tp n wE pl)))) (Eq.refl (nI (fN tp n wS9 pl))) (by omega) (by omega)) ?_
              refine lv_istore_n (lv' := [(1, .int (nI (max (max (max 0 (fN tp n wP pl)) (fN tp n wE pl)) (fN tp n wS9 pl)))), (4, .int (nI (fN tp n wS9 pl))), (3, .ref s35), (0, .ref rd), (2, .int 2)]) X.1 X.2.1 dX5_readWord_49 rfl hl (by decide) rfl (fun ls hl => ?_)
              refine lv_iinc (v := nI (2 + 1)) (lv' := [(2, .int (nI (2 + 1))), (1, .int (nI (max (max (max 0 (fN tp n wP pl)) (fN tp n wE pl)) (fN tp n wS9 pl)))), (4, .int (nI (fN tp n wS9 pl))), (3, .ref s35), (0, .ref rd)]) X.1 X.2.1 dX5_readWord_50 hl (k := 4) rfl (gn_inc (show (2 : Int32) = nI 2 from rfl) 1) (by decide) rfl (fun ls hl => ?_)
              refine lv_goto (tgt := 4) X.1 X.2.1 dX5_readWord_53 (by decide) ?_
              have hl : lv_has ls 5 [(0, .ref rd), (1, .int (nI (max (max (max 0 (fN tp n wP pl)) (fN tp n wE pl)) (fN tp n wS9 pl)))), (2, .int 3)] := lv_sub hl [4, 1, 0] rfl
              refine lv_iload_n X.1 X.2.1 dX5_readWord_4 rfl (lv_at hl 2 rfl) ?_
              refine lv_iconst (v := 5) X.1 X.2.1 dX5_readWord_5 (by decide) ?_
              refine lv_icmp_ge (tgt := 56) X.1 X.2.1 dX5_readWord_6 (by decide) (fun c6_5 => ?_) (fun c6_5 => ?_)
              · exact absurd c6_5 (by decide)
              · have n6_5 : 3 < 5 := gq_nle c6_5 (show (5 : Int32) = nI 5 from rfl) (show (3 : Int32) = nI 3 from rfl) (by omega) (by omega)
                refine lv_iload_n X.1 X.2.1 dX5_readWord_9 rfl (lv_at hl 2 rfl) ?_
                refine g_run_q (f := fun u => u) (g_runS [.int 3] X hK hP hS hC hB (o_word_3 hR37) (va_cwS 1 X.2.2.2.2 gX5_readWord_X4_word rfl rfl rfl (by decide +kernel) ⟨Nat.le_of_ble_eq_true rfl, Nat.le_of_ble_eq_true rfl⟩) rfl hl.1 rfl (Nat.le_of_ble_eq_true rfl) dX5_readWord_10 (by exact ⟨Nat.zero_le _, Nat.zero_le _⟩)) hS (fun r u H locs hq hP hS => ?_)
                obtain ⟨rfl, rfl⟩ := hq
                have hP : gP D cy B z T I R H := hP
                refine lv_astore_n (lv' := [(3, .ref s37), (0, .ref rd), (1, .int (nI (max (max (max 0 (fN tp n wP pl)) (fN tp n wE pl)) (fN tp n wS9 pl)))), (2, .int 3)]) X.1 X.2.1 dX5_readWord_13 rfl hl (by decide) rfl (fun ls hl => ?_)
                refine lv_aload_n X.1 X.2.1 dX5_readWord_14 rfl (lv_at hl 1 rfl) ?_
                refine lv_aload_n X.1 X.2.1 dX5_readWord_15 rfl (lv_at hl 0 rfl) ?_
                refine g_run_i (f := fun u => u) (g_runV (k := 7) [.ref s37] X hK hP hS hC hB (o_fits hRd hs37 h2 ht37) (cwV 1 X.2.2.2.2 gX5_readWord_X5_fits rfl rfl rfl (by decide +kernel) ⟨Nat.le_of_ble_eq_true rfl, Nat.le_of_ble_eq_true rfl⟩) hRd.1.1 rfl rfl hl.1 rfl (Nat.le_of_ble_eq_true rfl) dX5_readWord_16 (by exact ⟨Nat.zero_le _, Nat.zero_le _⟩)) hS (fun r u H locs hq hP hS => ?_)
                obtain ⟨rfl, rfl⟩ := hq
                have hP : gP D cy B z T I R H := hP
                refine lv_istore (lv' := [(4, .int (nI (fN tp n wT pl))), (3, .ref s37), (0, .ref rd), (1, .int (nI (max (max (max 0 (fN tp n wP pl)) (fN tp n wE pl)) (fN tp n wS9 pl)))), (2, .int 3)]) X.1 X.2.1 dX5_readWord_19 hl (by decide) rfl (fun ls hl => ?_)
                refine lv_iload X.1 X.2.1 dX5_readWord_21 (lv_at hl 0 rfl) ?_
                refine lv_aload_n X.1 X.2.1 dX5_readWord_23 rfl (lv_at hl 1 rfl) ?_
                refine g_run_i (f := fun u => u) (g_runVO [] X hK hP hS hC hB (j_len hs37 h2 ht37) (cwV 0 X.2.2.2.2 gX5_readWord_J0_length_8abf5 rfl rfl rfl (by decide +kernel) ⟨Nat.le_of_ble_eq_true rfl, Nat.le_of_ble_eq_true rfl⟩) (hs37.now hC).1 rfl hl.1 rfl (Nat.le_of_ble_eq_true rfl) dX5_readWord_24 (by exact ⟨Nat.zero_le _, Nat.zero_le _⟩)) hS (fun r u H locs hq hP hS => ?_)
                obtain ⟨rfl, rfl⟩ := hq
                have hP : gP D cy B z T I R H := hP
                refine lv_cv (show nI (List.length wT) = 4 from rfl) ?_
                refine lv_icmp_ne (tgt := 43) X.1 X.2.1 dX5_readWord_27 (by decide) (fun c27_6 => ?_) (fun c27_6 => ?_)
                · have n27_6 : ¬ (fN tp n wT pl) = 4 := gq_ne c27_6 (Eq.refl (nI (fN tp n wT pl))) (show (4 : Int32) = nI 4 from rfl) (by omega) (by omega)
                  refine lv_iload_n X.1 X.2.1 dX5_readWord_43 rfl (lv_at hl 3 rfl) ?_
                  refine lv_iload X.1 X.2.1 dX5_readWord_44 (lv_at hl 0 rfl) ?_
                  refine va_mmax X.1 X.2.1 (X.2.2.1.trans hl.1.symm) X.2.2.2.1 (X.2.2.2.2 (.methodLink RX5 78 Lib.Math.max.name) (by decide +kernel)) (X.2.2.2.2 (.static Lib.Math.max.name) (by decide +kernel)) (X.2.2.2.2 (.initialized "java/lang/Math") (by decide +kernel)) (X.2.2.2.2 (.code Lib.Math.max.name Lib.Math.max.code 2 (some .int)) (by decide +kernel)) (Nat.le_of_ble_eq_true rfl) (Nat.le_of_ble_eq_true rfl) (Nat.zero_le _) (Nat.zero_le _) dX5_readWord_46 ?_
                  refine lv_cv (gm_max (Eq.refl (nI (max (max (max 0 (fN tp n wP pl)) (fN tp n wE pl)) (fN tp n wS9 pl)))) (Eq.refl (nI (fN tp n wT pl))) (by omega) (by omega)) ?_
                  refine lv_istore_n (lv' := [(1, .int (nI (max (max (max (max 0 (fN tp n wP pl)) (fN tp n wE pl)) (fN tp n wS9 pl)) (fN tp n wT pl)))), (4, .int (nI (fN tp n wT pl))), (3, .ref s37), (0, .ref rd), (2, .int 3)]) X.1 X.2.1 dX5_readWord_49 rfl hl (by decide) rfl (fun ls hl => ?_)
                  refine lv_iinc (v := nI (3 + 1)) (lv' := [(2, .int (nI (3 + 1))), (1, .int (nI (max (max (max (max 0 (fN tp n wP pl)) (fN tp n wE pl)) (fN tp n wS9 pl)) (fN tp n wT pl)))), (4, .int (nI (fN tp n wT pl))), (3, .ref s37), (0, .ref rd)]) X.1 X.2.1 dX5_readWord_50 hl (k := 4) rfl (gn_inc (show (3 : Int32) = nI 3 from rfl) 1) (by decide) rfl (fun ls hl => ?_)
                  refine lv_goto (tgt := 4) X.1 X.2.1 dX5_readWord_53 (by decide) ?_
                  have hl : lv_has ls 5 [(0, .ref rd), (1, .int (nI (max (max (max (max 0 (fN tp n wP pl)) (fN tp n wE pl)) (fN tp n wS9 pl)) (fN tp n wT pl)))), (2, .int 4)] := lv_sub hl [4, 1, 0] rfl
                  refine lv_iload_n X.1 X.2.1 dX5_readWord_4 rfl (lv_at hl 2 rfl) ?_
                  refine lv_iconst (v := 5) X.1 X.2.1 dX5_readWord_5 (by decide) ?_
                  refine lv_icmp_ge (tgt := 56) X.1 X.2.1 dX5_readWord_6 (by decide) (fun c6_7 => ?_) (fun c6_7 => ?_)
                  · exact absurd c6_7 (by decide)
                  · have n6_7 : 4 < 5 := gq_nle c6_7 (show (5 : Int32) = nI 5 from rfl) (show (4 : Int32) = nI 4 from rfl) (by omega) (by omega)
                    refine lv_iload_n X.1 X.2.1 dX5_readWord_9 rfl (lv_at hl 2 rfl) ?_
                    refine g_run_q (f := fun u => u) (g_runS [.int 4] X hK hP hS hC hB (o_word_4 hR38) (va_cwS 1 X.2.2.2.2 gX5_readWord_X4_word rfl rfl rfl (by decide +kernel) ⟨Nat.le_of_ble_eq_true rfl, Nat.le_of_ble_eq_true rfl⟩) rfl hl.1 rfl (Nat.le_of_ble_eq_true rfl) dX5_readWord_10 (by exact ⟨Nat.zero_le _, Nat.zero_le _⟩)) hS (fun r u H locs hq hP hS => ?_)
                    obtain ⟨rfl, rfl⟩ := hq
                    have hP : gP D cy B z T I R H := hP
                    refine lv_astore_n (lv' := [(3, .ref s38), (0, .ref rd), (1, .int (nI (max (max (max (max 0 (fN tp n wP pl)) (fN tp n wE pl)) (fN tp n wS9 pl)) (fN tp n wT pl)))), (2, .int 4)]) X.1 X.2.1 dX5_readWord_13 rfl hl (by decide) rfl (fun ls hl => ?_)
                    refine lv_aload_n X.1 X.2.1 dX5_readWord_14 rfl (lv_at hl 1 rfl) ?_
                    refine lv_aload_n X.1 X.2.1 dX5_readWord_15 rfl (lv_at hl 0 rfl) ?_
                    refine g_run_i (f := fun u => u) (g_runV (k := 7) [.ref s38] X hK hP hS hC hB (o_fits hRd hs38 h2 ht38) (cwV 1 X.2.2.2.2 gX5_readWord_X5_fits rfl rfl rfl (by decide +kernel) ⟨Nat.le_of_ble_eq_true rfl, Nat.le_of_ble_eq_true rfl⟩) hRd.1.1 rfl rfl hl.1 rfl (Nat.le_of_ble_eq_true rfl) dX5_readWord_16 (by exact ⟨Nat.zero_le _, Nat.zero_le _⟩)) hS (fun r u H locs hq hP hS => ?_)
                    obtain ⟨rfl, rfl⟩ := hq
                    have hP : gP D cy B z T I R H := hP
                    refine lv_istore (lv' := [(4, .int (nI (fN tp n wV pl))), (3, .ref s38), (0, .ref rd), (1, .int (nI (max (max (max (max 0 (fN tp n wP pl)) (fN tp n wE pl)) (fN tp n wS9 pl)) (fN tp n wT pl)))), (2, .int 4)]) X.1 X.2.1 dX5_readWord_19 hl (by decide) rfl (fun ls hl => ?_)
                    refine lv_iload X.1 X.2.1 dX5_readWord_21 (lv_at hl 0 rfl) ?_
                    refine lv_aload_n X.1 X.2.1 dX5_readWord_23 rfl (lv_at hl 1 rfl) ?_
                    refine g_run_i (f := fun u => u) (g_runVO [] X hK hP hS hC hB (j_len hs38 h2 ht38) (cwV 0 X.2.2.2.2 gX5_readWord_J0_length_8abf5 rfl rfl rfl (by decide +kernel) ⟨Nat.le_of_ble_eq_true rfl, Nat.le_of_ble_eq_true rfl⟩) (hs38.now hC).1 rfl hl.1 rfl (Nat.le_of_ble_eq_true rfl) dX5_readWord_24 (by exact ⟨Nat.zero_le _, Nat.zero_le _⟩)) hS (fun r u H locs hq hP hS => ?_)
                    obtain ⟨rfl, rfl⟩ := hq
                    have hP : gP D cy B z T I R H := hP
                    refine lv_cv (show nI (List.length wV) = 6 from rfl) ?_
                    refine lv_icmp_ne (tgt := 43) X.1 X.2.1 dX5_readWord_27 (by decide) (fun c27_8 => ?_) (fun c27_8 => ?_)
                    · have n27_8 : ¬ (fN tp n wV pl) = 6 := gq_ne c27_8 (Eq.refl (nI (fN tp n wV pl))) (show (6 : Int32) = nI 6 from rfl) (by omega) (by omega)
                      refine lv_iload_n X.1 X.2.1 dX5_readWord_43 rfl (lv_at hl 3 rfl) ?_
                      refine lv_iload X.1 X.2.1 dX5_readWord_44 (lv_at hl 0 rfl) ?_
                      refine va_mmax X.1 X.2.1 (X.2.2.1.trans hl.1.symm) X.2.2.2.1 (X.2.2.2.2 (.methodLink RX5 78 Lib.Math.max.name) (by decide +kernel)) (X.2.2.2.2 (.static Lib.Math.max.name) (by decide +kernel)) (X.2.2.2.2 (.initialized "java/lang/Math") (by decide +kernel)) (X.2.2.2.2 (.code Lib.Math.max.name Lib.Math.max.code 2 (some .int)) (by decide +kernel)) (Nat.le_of_ble_eq_true rfl) (Nat.le_of_ble_eq_true rfl) (Nat.zero_le _) (Nat.zero_le _) dX5_readWord_46 ?_
                      refine lv_cv (gm_max (Eq.refl (nI (max (max (max (max 0 (fN tp n wP pl)) (fN tp n wE pl)) (fN tp n wS9 pl)) (fN tp n wT pl)))) (Eq.refl (nI (fN tp n wV pl))) (by omega) (by omega)) ?_
                      refine lv_istore_n (lv' := [(1, .int (nI (max (max (max (max (max 0 (fN tp n wP pl)) (fN tp n wE pl)) (fN tp n wS9 pl)) (fN tp n wT pl)) (fN tp n wV pl)))), (4, .int (nI (fN tp n wV pl))), (3, .ref s38), (0, .ref rd), (2, .int 4)]) X.1 X.2.1 dX5_readWord_49 rfl hl (by decide) rfl (fun ls hl => ?_)
                      refine lv_iinc (v := nI (4 + 1)) (lv' := [(2, .int (nI (4 + 1))), (1, .int (nI (max (max (max (max (max 0 (fN tp n wP pl)) (fN tp n wE pl)) (fN tp n wS9 pl)) (fN tp n wT pl)) (fN tp n wV pl)))), (4, .int (nI (fN tp n wV pl))), (3, .ref s38), (0, .ref rd)]) X.1 X.2.1 dX5_readWord_50 hl (k := 4) rfl (gn_inc (show (4 : Int32) = nI 4 from rfl) 1) (by decide) rfl (fun ls hl => ?_)
                      refine lv_goto (tgt := 4) X.1 X.2.1 dX5_readWord_53 (by decide) ?_
                      have hl : lv_has ls 5 [(0, .ref rd), (1, .int (nI (max (max (max (max (max 0 (fN tp n wP pl)) (fN tp n wE pl)) (fN tp n wS9 pl)) (fN tp n wT pl)) (fN tp n wV pl)))), (2, .int 5)] := lv_sub hl [4, 1, 0] rfl
                      refine lv_iload_n X.1 X.2.1 dX5_readWord_4 rfl (lv_at hl 2 rfl) ?_
                      refine lv_iconst (v := 5) X.1 X.2.1 dX5_readWord_5 (by decide) ?_
                      refine lv_icmp_ge (tgt := 56) X.1 X.2.1 dX5_readWord_6 (by decide) (fun c6_9 => ?_) (fun c6_9 => ?_)
                      · have n6_9 : 5 ≤ 5 := gq_le c6_9 (show (5 : Int32) = nI 5 from rfl) (show (5 : Int32) = nI 5 from rfl) (by omega) (by omega)
                        refine lv_aload_n X.1 X.2.1 dX5_readWord_56 rfl (lv_at hl 0 rfl) ?_
                        refine lv_dup X.1 X.2.1 dX5_readWord_57 rfl ?_
                        refine g_geti 7 0 X hK hP hRd.1.1 rfl hinRX5 rfl (by decide) k25 (fun _ h => h) dX5_readWord_58 (show I rd 0 = nI pl from hRd.2.2.2.1) ?_
                        refine lv_iload_n X.1 X.2.1 dX5_readWord_61 rfl (lv_at hl 1 rfl) ?_
                        refine lv_iadd X.1 X.2.1 dX5_readWord_62 ?_
                        refine g_puti 7 0 X hK hP hS hRd.1.1 rfl hinRX5 tyX5 tyX5_ok nmX5 rfl (by decide) k25 (fun _ h => h) rfl rfl rfl dX5_readWord_63 (fun H locs hP hS => ?_)
                        generalize eI10 : g2 I rd 0 ((nI pl) + (nI (max (max (max (max (max 0 (fN tp n wP pl)) (fN tp n wE pl)) (fN tp n wS9 pl)) (fN tp n wT pl)) (fN tp n wV pl)))) = I10 at hP
                        refine lv_iconst (v := (-1)) X.1 X.2.1 dX5_readWord_66 (by decide) ?_
                        have hpv : I10 rd 0 = nI (pl + (max (max (max (max (max 0 (fN tp n wP pl)) (fN tp n wE pl)) (fN tp n wS9 pl)) (fN tp n wT pl)) (fN tp n wV pl))) := (gs_same eI10).trans ((gn_add (Eq.refl (nI pl)) (Eq.refl (nI (max (max (max (max (max 0 (fN tp n wP pl)) (fN tp n wE pl)) (fN tp n wS9 pl)) (fN tp n wT pl)) (fN tp n wV pl))))))
                        exact g_iret (f := fun u => u) (z, T, I10, R) X hr hlk hK hP hS dX5_readWord_67 ⟨I10, pl + (max (max (max (max (max 0 (fN tp n wP pl)) (fN tp n wE pl)) (fN tp n wS9 pl)) (fN tp n wT pl)) (fN tp n wV pl)), rfl, hpv, (fun c j h => gs_ne eI10 h rfl), ⟨by omega, by omega⟩, Or.inr (Or.inr (Or.inr (Or.inr (Or.inr (⟨rfl, ⟨by omega, by omega, by omega, by omega, by omega⟩, rfl⟩)))))⟩
                      · exact absurd (show (5 : Int32) ≤ 5 by decide) c6_9
                    · have n27_8 : (fN tp n wV pl) = 6 := gq_eq c27_8 (Eq.refl (nI (fN tp n wV pl))) (show (6 : Int32) = nI 6 from rfl) (by omega) (by omega)
                      refine lv_aload_n X.1 X.2.1 dX5_readWord_30 rfl (lv_at hl 2 rfl) ?_
                      refine lv_dup X.1 X.2.1 dX5_readWord_31 rfl ?_
                      refine g_geti 7 0 X hK hP hRd.1.1 rfl hinRX5 rfl (by decide) k25 (fun _ h => h) dX5_readWord_32 (show I rd 0 = nI pl from hRd.2.2.2.1) ?_
                      refine lv_iload X.1 X.2.1 dX5_readWord_35 (lv_at hl 0 rfl) ?_
                      refine lv_iadd X.1 X.2.1 dX5_readWord_37 ?_
                      refine g_puti 7 0 X hK hP hS hRd.1.1 rfl hinRX5 tyX5 tyX5_ok nmX5 rfl (by decide) k25 (fun _ h => h) rfl rfl rfl dX5_readWord_38 (fun H locs hP hS => ?_)
                      generalize eI11 : g2 I rd 0 ((nI pl) + (nI (fN tp n wV pl))) = I11 at hP
                      refine lv_iload_n X.1 X.2.1 dX5_readWord_41 rfl (lv_at hl 4 rfl) ?_
                      have hpv : I11 rd 0 = nI (pl + 6) := (gs_same eI11).trans (((gn_add (Eq.refl (nI pl)) (Eq.refl (nI (fN tp n wV pl))))).trans (congrArg nI (by omega)))
                      exact g_iret (f := fun u => u) (z, T, I11, R) X hr hlk hK hP hS dX5_readWord_42 ⟨I11, pl + 6, rfl, hpv, (fun c j h => gs_ne eI11 h rfl), ⟨by omega, by omega⟩, Or.inr (Or.inr (Or.inr (Or.inr (Or.inl ⟨rfl, by omega, rfl⟩))))⟩
                · have n27_6 : (fN tp n wT pl) = 4 := gq_eq c27_6 (Eq.refl (nI (fN tp n wT pl))) (show (4 : Int32) = nI 4 from rfl) (by omega) (by omega)
                  refine lv_aload_n X.1 X.2.1 dX5_readWord_30 rfl (lv_at hl 2 rfl) ?_
                  refine lv_dup X.1 X.2.1 dX5_readWord_31 rfl ?_
                  refine g_geti 7 0 X hK hP hRd.1.1 rfl hinRX5 rfl (by decide) k25 (fun _ h => h) dX5_readWord_32 (show I rd 0 = nI pl from hRd.2.2.2.1) ?_
                  refine lv_iload X.1 X.2.1 dX5_readWord_35 (lv_at hl 0 rfl) ?_
                  refine lv_iadd X.1 X.2.1 dX5_readWord_37 ?_
                  refine g_puti 7 0 X hK hP hS hRd.1.1 rfl hinRX5 tyX5 tyX5_ok nmX5 rfl (by decide) k25 (fun _ h => h) rfl rfl rfl dX5_readWord_38 (fun H locs hP hS => ?_)
                  generalize eI12 : g2 I rd 0 ((nI pl) + (nI (fN tp n wT pl))) = I12 at hP
                  refine lv_iload_n X.1 X.2.1 dX5_readWord_41 rfl (lv_at hl 4 rfl) ?_
                  have hpv : I12 rd 0 = nI (pl + 4) := (gs_same eI12).trans (((gn_add (Eq.refl (nI pl)) (Eq.refl (nI (fN tp n wT pl))))).trans (congrArg nI (by omega)))
                  exact g_iret (f := fun u => u) (z, T, I12, R) X hr hlk hK hP hS dX5_readWord_42 ⟨I12, pl + 4, rfl, hpv, (fun c j h => gs_ne eI12 h rfl), ⟨by omega, by omega⟩, Or.inr (Or.inr (Or.inr (Or.inl ⟨rfl, by omega, rfl⟩)))⟩
            · have n27_4 : (fN tp n wS9 pl) = 5 := gq_eq c27_4 (Eq.refl (nI (fN tp n wS9 pl))) (show (5 : Int32) = nI 5 from rfl) (by omega) (by omega)
              refine lv_aload_n X.1 X.2.1 dX5_readWord_30 rfl (lv_at hl 2 rfl) ?_
              refine lv_dup X.1 X.2.1 dX5_readWord_31 rfl ?_
              refine g_geti 7 0 X hK hP hRd.1.1 rfl hinRX5 rfl (by decide) k25 (fun _ h => h) dX5_readWord_32 (show I rd 0 = nI pl from hRd.2.2.2.1) ?_
              refine lv_iload X.1 X.2.1 dX5_readWord_35 (lv_at hl 0 rfl) ?_
              refine lv_iadd X.1 X.2.1 dX5_readWord_37 ?_
              refine g_puti 7 0 X hK hP hS hRd.1.1 rfl hinRX5 tyX5 tyX5_ok nmX5 rfl (by decide) k25 (fun _ h => h) rfl rfl rfl dX5_readWord_38 (fun H locs hP hS => ?_)
              generalize eI13 : g2 I rd 0 ((nI pl) + (nI (fN tp n wS9 pl))) = I13 at hP
              refine lv_iload_n X.1 X.2.1 dX5_readWord_41 rfl (lv_at hl 4 rfl) ?_
              have hpv : I13 rd 0 = nI (pl + 5) := (gs_same eI13).trans (((gn_add (Eq.refl (nI pl)) (Eq.refl (nI (fN tp n wS9 pl))))).trans (congrArg nI (by omega)))
              exact g_iret (f := fun u => u) (z, T, I13, R) X hr hlk hK hP hS dX5_readWord_42 ⟨I13, pl + 5, rfl, hpv, (fun c j h => gs_ne eI13 h rfl), ⟨by omega, by omega⟩, Or.inr (Or.inr (Or.inl ⟨rfl, by omega, rfl⟩))⟩
        · have n27_2 : (fN tp n wE pl) = 4 := gq_eq c27_2 (Eq.refl (nI (fN tp n wE pl))) (show (4 : Int32) = nI 4 from rfl) (by omega) (by omega)
          refine lv_aload_n X.1 X.2.1 dX5_readWord_30 rfl (lv_at hl 2 rfl) ?_
          refine lv_dup X.1 X.2.1 dX5_readWord_31 rfl ?_
          refine g_geti 7 0 X hK hP hRd.1.1 rfl hinRX5 rfl (by decide) k25 (fun _ h => h) dX5_readWord_32 (show I rd 0 = nI pl from hRd.2.2.2.1) ?_
          refine lv_iload X.1 X.2.1 dX5_readWord_35 (lv_at hl 0 rfl) ?_
          refine lv_iadd X.1 X.2.1 dX5_readWord_37 ?_
          refine g_puti 7 0 X hK hP hS hRd.1.1 rfl hinRX5 tyX5 tyX5_ok nmX5 rfl (by decide) k25 (fun _ h => h) rfl rfl rfl dX5_readWord_38 (fun H locs hP hS => ?_)
          generalize eI14 : g2 I rd 0 ((nI pl) + (nI (fN tp n wE pl))) = I14 at hP
          refine lv_iload_n X.1 X.2.1 dX5_readWord_41 rfl (lv_at hl 4 rfl) ?_
          have hpv : I14 rd 0 = nI (pl + 4) := (gs_same eI14).trans (((gn_add (Eq.refl (nI pl)) (Eq.refl (nI (fN tp n wE pl))))).trans (congrArg nI (by omega)))
          exact g_iret (f := fun u => u) (z, T, I14, R) X hr hlk hK hP hS dX5_readWord_42 ⟨I14, pl + 4, rfl, hpv, (fun c j h => gs_ne eI14 h rfl), ⟨by omega, by omega⟩, Or.inr (Or.inl ⟨rfl, by omega, rfl⟩)⟩
    · have n27 : (fN tp n wP pl) = 4 := gq_eq c27 (Eq.refl (nI (fN tp n wP pl))) (show (4 : Int32) = nI 4 from rfl) (by omega) (by omega)
      refine lv_aload_n X.1 X.2.1 dX5_readWord_30 rfl (lv_at hl 2 rfl) ?_
      refine lv_dup X.1 X.2.1 dX5_readWord_31 rfl ?_
      refine g_geti 7 0 X hK hP hRd.1.1 rfl hinRX5 rfl (by decide) k25 (fun _ h => h) dX5_readWord_32 (show I rd 0 = nI pl from hRd.2.2.2.1) ?_
      refine lv_iload X.1 X.2.1 dX5_readWord_35 (lv_at hl 0 rfl) ?_
      refine lv_iadd X.1 X.2.1 dX5_readWord_37 ?_
      refine g_puti 7 0 X hK hP hS hRd.1.1 rfl hinRX5 tyX5 tyX5_ok nmX5 rfl (by decide) k25 (fun _ h => h) rfl rfl rfl dX5_readWord_38 (fun H locs hP hS => ?_)
      generalize eI15 : g2 I rd 0 ((nI pl) + (nI (fN tp n wP pl))) = I15 at hP
      refine lv_iload_n X.1 X.2.1 dX5_readWord_41 rfl (lv_at hl 4 rfl) ?_
      have hpv : I15 rd 0 = nI (pl + 4) := (gs_same eI15).trans (((gn_add (Eq.refl (nI pl)) (Eq.refl (nI (fN tp n wP pl))))).trans (congrArg nI (by omega)))
      exact g_iret (f := fun u => u) (z, T, I15, R) X hr hlk hK hP hS dX5_readWord_42 ⟨I15, pl + 4, rfl, hpv, (fun c j h => gs_ne eI15 h rfl), ⟨by omega, by omega⟩, Or.inl ⟨rfl, by omega, rfl⟩⟩

end QD