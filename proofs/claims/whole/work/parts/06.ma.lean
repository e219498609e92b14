section MA
variable {l : Launch} {s0 : State} {D : va_G} {cy : Nat → ClassId} {B o z : Nat} {T : Nat → Nat × Nat} {R : Nat → Nat → Option Nat} {I0 : Nat → Nat → Int32}

set_option maxHeartbeats 4000000 in
set_option maxRecDepth 100000 in
/-- in(v, lo, hi) -/
theorem c_in (x : gSt) (v lo hi : Int32) : Met l yX12_in wsX12_in ({ frames := 0, cells := 0, slots := 0, locals := 0 }) (va_Pc [.int v, .int lo, .int hi] (gW0 s0 D cy B x)) (va_Qi (fun r u => r = gt (lo ≤ v ∧ v ≤ hi) ∧ u = x) (fun u t => gW1 D cy B u t) (gA B)) 0 0 (gA B) := by
  refine g_met (maxL := 3) (ret := (some .boolean)) (by decide) rfl (Nat.le_of_ble_eq_true rfl) (fun p e s m args below meth c ls X hr hlk hnm hK hP hC hS hl => ?_)
  have hl : lv_has ls 3 [(0, .int v), (1, .int lo), (2, .int hi)] := hl
  have hP : gP D cy B x.1 x.2.1 x.2.2.1 x.2.2.2 s.heap := hP
  have hB : B ≤ s.heap.size := by rw [hP.1]; exact hP.2.1
  refine lv_iload_n X.1 X.2.1 dX12_in_0 rfl (lv_at hl 0 rfl) ?_
  refine lv_iload_n X.1 X.2.1 dX12_in_1 rfl (lv_at hl 1 rfl) ?_
  refine lv_icmp_lt (tgt := 14) X.1 X.2.1 dX12_in_2 (by decide) (fun c2 => ?_) (fun c2 => ?_)
  · refine lv_iconst (v := 0) X.1 X.2.1 dX12_in_14 (by decide) ?_
    exact g_zret x X hr hlk hK hP hS dX12_in_15 rfl ⟨(gt_no (fun h => Int32.not_le.mpr c2 h.1)).symm, rfl⟩
  · refine lv_iload_n X.1 X.2.1 dX12_in_5 rfl (lv_at hl 0 rfl) ?_
    refine lv_iload_n X.1 X.2.1 dX12_in_6 rfl (lv_at hl 2 rfl) ?_
    refine lv_icmp_gt (tgt := 14) X.1 X.2.1 dX12_in_7 (by decide) (fun c7 => ?_) (fun c7 => ?_)
    · refine lv_iconst (v := 0) X.1 X.2.1 dX12_in_14 (by decide) ?_
      exact g_zret x X hr hlk hK hP hS dX12_in_15 rfl ⟨(gt_no (fun h => Int32.not_le.mpr c7 h.2)).symm, rfl⟩
    · refine lv_iconst (v := 1) X.1 X.2.1 dX12_in_10 (by decide) ?_
      refine lv_goto (tgt := 15) X.1 X.2.1 dX12_in_11 (by decide) ?_
      exact g_zret x X hr hlk hK hP hS dX12_in_15 rfl ⟨(gt_yes ⟨Int32.not_lt.mp c2, Int32.not_lt.mp c7⟩).symm, rfl⟩

set_option maxHeartbeats 4000000 in
set_option maxRecDepth 100000 in
/-- isYard -/
theorem c_isYard (x : gSt) (v : Int32) : Met l yX12_isYard wsX12_isYard ({ frames := 1, cells := 0, slots := 0, locals := 22 }) (va_Pc [.int v] (gW0 s0 D cy B x)) (va_Qi (fun r u => r = gt (0 ≤ v ∧ v ≤ 9) ∧ u = x) (fun u t => gW1 D cy B u t) (gA B)) 0 0 (gA B) := by
  refine g_met (maxL := 1) (ret := (some .boolean)) (by decide) rfl (Nat.le_of_ble_eq_true rfl) (fun p e s m args below meth c ls X hr hlk hnm hK hP hC hS hl => ?_)
  have hl : lv_has ls 1 [(0, .int v)] := hl
  have hP : gP D cy B x.1 x.2.1 x.2.2.1 x.2.2.2 s.heap := hP
  have hB : B ≤ s.heap.size := by rw [hP.1]; exact hP.2.1
  refine lv_iload_n X.1 X.2.1 dX12_isYard_0 rfl (lv_at hl 0 rfl) ?_
  refine lv_iconst (v := 0) X.1 X.2.1 dX12_isYard_1 (by decide) ?_
  refine lv_bipush (v := 9) X.1 X.2.1 dX12_isYard_2 (by decide) ?_
  refine g_run_i (g_runS [.int v, .int 0, .int 9] X hK hP hS hC hB (c_in _ v 0 9) (va_cwS 3 X.2.2.2.2 gX12_isYard_X12_in rfl rfl rfl (by decide +kernel) ⟨Nat.le_of_ble_eq_true rfl, Nat.le_of_ble_eq_true rfl⟩) rfl hl.1 rfl (Nat.le_of_ble_eq_true rfl) dX12_isYard_4 (by exact ⟨Nat.zero_le _, Nat.zero_le _⟩)) hS (fun r u H locs hq hP hS => ?_)
  obtain ⟨rfl, rfl⟩ := hq
  exact g_zret _ X hr hlk hK hP hS dX12_isYard_7 (gb_n (gt_b _)) ⟨rfl, rfl⟩

set_option maxHeartbeats 4000000 in
set_option maxRecDepth 100000 in
/-- isLoad -/
theorem c_isLoad (x : gSt) (v : Int32) : Met l yX12_isLoad wsX12_isLoad ({ frames := 1, cells := 0, slots := 0, locals := 22 }) (va_Pc [.int v] (gW0 s0 D cy B x)) (va_Qi (fun r u => r = gt (1 ≤ v ∧ v ≤ 20) ∧ u = x) (fun u t => gW1 D cy B u t) (gA B)) 0 0 (gA B) := by
  refine g_met (maxL := 1) (ret := (some .boolean)) (by decide) rfl (Nat.le_of_ble_eq_true rfl) (fun p e s m args below meth c ls X hr hlk hnm hK hP hC hS hl => ?_)
  have hl : lv_has ls 1 [(0, .int v)] := hl
  have hP : gP D cy B x.1 x.2.1 x.2.2.1 x.2.2.2 s.heap := hP
  have hB : B ≤ s.heap.size := by rw [hP.1]; exact hP.2.1
  refine lv_iload_n X.1 X.2.1 dX12_isLoad_0 rfl (lv_at hl 0 rfl) ?_
  refine lv_iconst (v := 1) X.1 X.2.1 dX12_isLoad_1 (by decide) ?_
  refine lv_bipush (v := 20) X.1 X.2.1 dX12_isLoad_2 (by decide) ?_
  refine g_run_i (g_runS [.int v, .int 1, .int 20] X hK hP hS hC hB (c_in _ v 1 20) (va_cwS 3 X.2.2.2.2 gX12_isLoad_X12_in rfl rfl rfl (by decide +kernel) ⟨Nat.le_of_ble_eq_true rfl, Nat.le_of_ble_eq_true rfl⟩) rfl hl.1 rfl (Nat.le_of_ble_eq_true rfl) dX12_isLoad_4 (by exact ⟨Nat.zero_le _, Nat.zero_le _⟩)) hS (fun r u H locs hq hP hS => ?_)
  obtain ⟨rfl, rfl⟩ := hq
  exact g_zret _ X hr hlk hK hP hS dX12_isLoad_7 (gb_n (gt_b _)) ⟨rfl, rfl⟩

set_option maxHeartbeats 4000000 in
set_option maxRecDepth 100000 in
/-- isMan -/
theorem c_isMan (hM : gMod o T R) (M : Nat → Nat → Int32) (v : Int32) : Met l yX12_isMan wsX12_isMan ({ frames := 1, cells := 0, slots := 0, locals := 22 }) (mPre s0 D cy B o z T R I0 M [.int v]) (mQi D cy B o z T R I0 (fun r u => r = gt (0 ≤ v ∧ v ≤ M 1 38 - 1) ∧ M = u)) 0 0 (gA B) := by
  refine g_met (maxL := 2) (ret := (some .boolean)) (by decide) rfl (Nat.le_of_ble_eq_true rfl) (fun p e s m args below meth c ls X hr hlk hnm hK hP hC hS hl => ?_)
  have hl : lv_has ls 2 [(0, .ref o), (1, .int v)] := hl
  have hP : gP D cy B z T (gI o 12 M I0) R s.heap := hP
  have hB : B ≤ s.heap.size := by rw [hP.1]; exact hP.2.1
  have hin : ∀ w ∈ wsX120, w ∈ wsX12_isMan := fun _ h => List.mem_cons_of_mem _ (List.mem_append_right _ h)
  have k9 : Cond.fieldLink RX12 9 "BarrowPlankModel" "s" "[I" ∈ wsX12_isMan := by decide +kernel
  refine lv_iload_n X.1 X.2.1 dX12_isMan_0 rfl (lv_at hl 1 rfl) ?_
  refine lv_iconst (v := 0) X.1 X.2.1 dX12_isMan_1 (by decide) ?_
  refine lv_aload_n X.1 X.2.1 dX12_isMan_2 rfl (lv_at hl 0 rfl) ?_
  refine m_getr 1 1 X hK hP hM hin rfl (by decide) k9 rfl dX12_isMan_3 (by decide) ?_
  refine lv_bipush (v := 38) X.1 X.2.1 dX12_isMan_6 (by decide) ?_
  refine m_ald 1 38 883 X hK hP hM rfl (gIx_of (show (38 : Int32) = nI 38 from rfl) (by omega) (by omega)) dX12_isMan_8 (show M 1 38 = M 1 38 from rfl) ?_
  refine lv_iconst (v := 1) X.1 X.2.1 dX12_isMan_9 (by decide) ?_
  refine lv_isub X.1 X.2.1 dX12_isMan_10 ?_
  refine g_run_i (g_runS [.int v, .int 0, .int ((M 1 38) - 1)] X hK hP hS hC hB (c_in _ v 0 ((M 1 38) - 1)) (va_cwS 3 X.2.2.2.2 gX12_isMan_X12_in rfl rfl rfl (by decide +kernel) ⟨Nat.le_of_ble_eq_true rfl, Nat.le_of_ble_eq_true rfl⟩) rfl hl.1 rfl (Nat.le_of_ble_eq_true rfl) dX12_isMan_11 (by exact ⟨Nat.zero_le _, Nat.zero_le _⟩)) hS (fun r u H locs hq hP hS => ?_)
  obtain ⟨rfl, rfl⟩ := hq
  have hP : gP D cy B z T (gI o 12 M I0) R H := hP
  exact g_zret M X hr hlk hK hP hS dX12_isMan_14 (gb_n (gt_b _)) ⟨rfl, rfl⟩

set_option maxHeartbeats 4000000 in
set_option maxRecDepth 100000 in
/-- earth -/
theorem c_earth (hM : gMod o T R) (M : Nat → Nat → Int32) (n : Int32) : Met l yX12_earth wsX12_earth ({ frames := 1, cells := 0, slots := 0, locals := 22 }) (mPre s0 D cy B o z T R I0 M [.int n]) (mQi D cy B o z T R I0 (fun r u => r = (if 0 ≤ n ∧ n ≤ 999 then M 1 0 else -2) ∧ u = (if 0 ≤ n ∧ n ≤ 999 then g2 M 1 0 n else M))) 0 0 (gA B) := by
  refine g_met (maxL := 3) (ret := (some .int)) (by decide) rfl (Nat.le_of_ble_eq_true rfl) (fun p e s m args below meth c ls X hr hlk hnm hK hP hC hS hl => ?_)
  have hl : lv_has ls 3 [(0, .ref o), (1, .int n)] := hl
  have hP : gP D cy B z T (gI o 12 M I0) R s.heap := hP
  have hB : B ≤ s.heap.size := by rw [hP.1]; exact hP.2.1
  have hin : ∀ w ∈ wsX120, w ∈ wsX12_earth := fun _ h => List.mem_cons_of_mem _ (List.mem_append_right _ h)
  have k9 : Cond.fieldLink RX12 9 "BarrowPlankModel" "s" "[I" ∈ wsX12_earth := by decide +kernel
  refine lv_iload_n X.1 X.2.1 dX12_earth_0 rfl (lv_at hl 1 rfl) ?_
  refine lv_iconst (v := 0) X.1 X.2.1 dX12_earth_1 (by decide) ?_
  refine lv_sipush (v := 999) X.1 X.2.1 dX12_earth_2 (by decide) ?_
  refine g_run_i (g_runS [.int n, .int 0, .int 999] X hK hP hS hC hB (c_in _ n 0 999) (va_cwS 3 X.2.2.2.2 gX12_earth_X12_in rfl rfl rfl (by decide +kernel) ⟨Nat.le_of_ble_eq_true rfl, Nat.le_of_ble_eq_true rfl⟩) rfl hl.1 rfl (Nat.le_of_ble_eq_true rfl) dX12_earth_5 (by exact ⟨Nat.zero_le _, Nat.zero_le _⟩)) hS (fun r u H locs hq hP hS => ?_)
  obtain ⟨rfl, rfl⟩ := hq
  have hP : gP D cy B z T (gI o 12 M I0) R H := hP
  refine lv_if_ne (tgt := 14) X.1 X.2.1 dX12_earth_8 (by decide) (fun c8 => ?_) (fun c8 => ?_)
  · refine lv_aload_n X.1 X.2.1 dX12_earth_14 rfl (lv_at hl 0 rfl) ?_
    refine m_getr 1 1 X hK hP hM hin rfl (by decide) k9 rfl dX12_earth_15 (by decide) ?_
    refine lv_iconst (v := 0) X.1 X.2.1 dX12_earth_18 (by decide) ?_
    refine m_ald 1 0 883 X hK hP hM rfl (gIx_of (show (0 : Int32) = nI 0 from rfl) (by omega) (by omega)) dX12_earth_19 (show M 1 0 = M 1 0 from rfl) ?_
    refine lv_istore_n (lv' := [(2, .int (M 1 0)), (0, .ref o), (1, .int n)]) X.1 X.2.1 dX12_earth_20 rfl hl (by decide) rfl (fun ls hl => ?_)
    refine lv_aload_n X.1 X.2.1 dX12_earth_21 rfl (lv_at hl 1 rfl) ?_
    refine m_getr 1 1 X hK hP hM hin rfl (by decide) k9 rfl dX12_earth_22 (by decide) ?_
    refine lv_iconst (v := 0) X.1 X.2.1 dX12_earth_25 (by decide) ?_
    refine lv_iload_n X.1 X.2.1 dX12_earth_26 rfl (lv_at hl 2 rfl) ?_
    refine m_ast 1 0 883 X hK hP hS hM rfl (gIx_of (show (0 : Int32) = nI 0 from rfl) (by omega) (by omega)) dX12_earth_27 (fun H locs hP hS => ?_)
    generalize eM1 : g2 M 1 0 n = M1 at hP
    refine lv_iload_n X.1 X.2.1 dX12_earth_28 rfl (lv_at hl 0 rfl) ?_
    exact g_iret M1 X hr hlk hK hP hS dX12_earth_29 ⟨by rw [if_pos (gt_1 c8)], by rw [if_pos (gt_1 c8), ← eM1]⟩
  · refine lv_bipush (v := (-2)) X.1 X.2.1 dX12_earth_11 (by decide) ?_
    exact g_iret M X hr hlk hK hP hS dX12_earth_13 ⟨by rw [if_neg (gt_0 c8)], by rw [if_neg (gt_0 c8)]⟩

set_option maxHeartbeats 4000000 in
set_option maxRecDepth 100000 in
/-- feed -/
theorem c_feed (hM : gMod o T R) (M : Nat → Nat → Int32) {t : Nat} (ht : M 1 41 = nI t) (ht2 : t ≤ 100) (sg : Int32) : Met l yX12_feed wsX12_feed ({ frames := 1, cells := 0, slots := 0, locals := 22 }) (mPre s0 D cy B o z T R I0 M [.int sg]) (mQi D cy B o z T R I0 (fun r u => r = (if 0 ≤ sg ∧ sg ≤ 127 then (if t = 100 then -4 else nI t + 1) else -2) ∧ u = (if 0 ≤ sg ∧ sg ≤ 127 then (if t = 100 then M else g2 (g2 M 1 (68 + t) sg) 1 41 (nI t + 1)) else M))) 0 0 (gA B) := by
  refine g_met (maxL := 2) (ret := (some .int)) (by decide) rfl (Nat.le_of_ble_eq_true rfl) (fun p e s m args below meth c ls X hr hlk hnm hK hP hC hS hl => ?_)
  have hl : lv_has ls 2 [(0, .ref o), (1, .int sg)] := hl
  have hP : gP D cy B z T (gI o 12 M I0) R s.heap := hP
  have hB : B ≤ s.heap.size := by rw [hP.1]; exact hP.2.1
  have hin : ∀ w ∈ wsX120, w ∈ wsX12_feed := fun _ h => List.mem_cons_of_mem _ (List.mem_append_right _ h)
  have k9 : Cond.fieldLink RX12 9 "BarrowPlankModel" "s" "[I" ∈ wsX12_feed := by decide +kernel
  refine lv_iload_n X.1 X.2.1 dX12_feed_0 rfl (lv_at hl 1 rfl) ?_
  refine lv_iconst (v := 0) X.1 X.2.1 dX12_feed_1 (by decide) ?_
  refine lv_bipush (v := 127) X.1 X.2.1 dX12_feed_2 (by decide) ?_
  refine g_run_i (g_runS [.int sg, .int 0, .int 127] X hK hP hS hC hB (c_in _ sg 0 127) (va_cwS 3 X.2.2.2.2 gX12_feed_X12_in rfl rfl rfl (by decide +kernel) ⟨Nat.le_of_ble_eq_true rfl, Nat.le_of_ble_eq_true rfl⟩) rfl hl.1 rfl (Nat.le_of_ble_eq_true rfl) dX12_feed_4 (by exact ⟨Nat.zero_le _, Nat.zero_le _⟩)) hS (fun r u H locs hq hP hS => ?_)
  obtain ⟨rfl, rfl⟩ := hq
  have hP : gP D cy B z T (gI o 12 M I0) R H := hP
  refine lv_if_ne (tgt := 13) X.1 X.2.1 dX12_feed_7 (by decide) (fun c7 => ?_) (fun c7 => ?_)
  · refine lv_aload_n X.1 X.2.1 dX12_feed_13 rfl (lv_at hl 0 rfl) ?_
    refine m_getr 1 1 X hK hP hM hin rfl (by decide) k9 rfl dX12_feed_14 (by decide) ?_
    refine lv_bipush (v := 41) X.1 X.2.1 dX12_feed_17 (by decide) ?_
    refine m_ald 1 41 883 X hK hP hM rfl (gIx_of (show (41 : Int32) = nI 41 from rfl) (by omega) (by omega)) dX12_feed_19 (show M 1 41 = nI t from ht) ?_
    refine lv_bipush (v := 100) X.1 X.2.1 dX12_feed_20 (by decide) ?_
    refine lv_icmp_ne (tgt := 28) X.1 X.2.1 dX12_feed_22 (by decide) (fun c22 => ?_) (fun c22 => ?_)
    · refine lv_aload_n X.1 X.2.1 dX12_feed_28 rfl (lv_at hl 0 rfl) ?_
      refine m_getr 1 1 X hK hP hM hin rfl (by decide) k9 rfl dX12_feed_29 (by decide) ?_
      refine lv_bipush (v := 68) X.1 X.2.1 dX12_feed_32 (by decide) ?_
      refine lv_aload_n X.1 X.2.1 dX12_feed_34 rfl (lv_at hl 0 rfl) ?_
      refine m_getr 1 1 X hK hP hM hin rfl (by decide) k9 rfl dX12_feed_35 (by decide) ?_
      refine lv_bipush (v := 41) X.1 X.2.1 dX12_feed_38 (by decide) ?_
      refine m_ald 1 41 883 X hK hP hM rfl (gIx_of (show (41 : Int32) = nI 41 from rfl) (by omega) (by omega)) dX12_feed_40 (show M 1 41 = nI t from ht) ?_
      refine lv_iadd X.1 X.2.1 dX12_feed_41 ?_
      refine lv_iload_n X.1 X.2.1 dX12_feed_42 rfl (lv_at hl 1 rfl) ?_
      refine m_ast 1 (68 + t) 883 X hK hP hS hM rfl (gIx_of (gn_add (show (68 : Int32) = nI 68 from rfl) (Eq.refl (nI t))) (by omega) (by omega)) dX12_feed_43 (fun H locs hP hS => ?_)
      generalize eM1 : g2 M 1 (68 + t) sg = M1 at hP
      refine lv_aload_n X.1 X.2.1 dX12_feed_44 rfl (lv_at hl 0 rfl) ?_
      refine m_getr 1 1 X hK hP hM hin rfl (by decide) k9 rfl dX12_feed_45 (by decide) ?_
      refine lv_bipush (v := 41) X.1 X.2.1 dX12_feed_48 (by decide) ?_
      refine lv_dup2_11 X.1 X.2.1 dX12_feed_50 rfl rfl ?_
      refine m_ald 1 41 883 X hK hP hM rfl (gIx_of (show (41 : Int32) = nI 41 from rfl) (by omega) (by omega)) dX12_feed_51 (show M1 1 41 = nI t from (gs_ne eM1 (by omega) ht)) ?_
      refine lv_iconst (v := 1) X.1 X.2.1 dX12_feed_52 (by decide) ?_
      refine lv_iadd X.1 X.2.1 dX12_feed_53 ?_
      refine m_ast 1 41 883 X hK hP hS hM rfl (gIx_of (show (41 : Int32) = nI 41 from rfl) (by omega) (by omega)) dX12_feed_54 (fun H locs hP hS => ?_)
      generalize eM2 : g2 M1 1 41 ((nI t) + 1) = M2 at hP
      refine lv_aload_n X.1 X.2.1 dX12_feed_55 rfl (lv_at hl 0 rfl) ?_
      refine m_getr 1 1 X hK hP hM hin rfl (by decide) k9 rfl dX12_feed_56 (by decide) ?_
      refine lv_bipush (v := 41) X.1 X.2.1 dX12_feed_59 (by decide) ?_
      refine m_ald 1 41 883 X hK hP hM rfl (gIx_of (show (41 : Int32) = nI 41 from rfl) (by omega) (by omega)) dX12_feed_61 (show M2 1 41 = (nI t) + 1 from (gs_same eM2)) ?_
      exact g_iret M2 X hr hlk hK hP hS dX12_feed_62 ⟨by rw [if_pos (gt_1 c7), if_neg (fun q => c22 (by rw [q]; rfl))], by rw [if_pos (gt_1 c7), if_neg (fun q => c22 (by rw [q]; rfl)), ← eM2, ← eM1]⟩
    · refine lv_bipush (v := (-4)) X.1 X.2.1 dX12_feed_25 (by decide) ?_
      exact g_iret M X hr hlk hK hP hS dX12_feed_27 ⟨by rw [if_pos (gt_1 c7), if_pos (by exact (nI_eq (b := 100) (by omega) (by omega)).mp c22)], by rw [if_pos (gt_1 c7), if_pos (by exact (nI_eq (b := 100) (by omega) (by omega)).mp c22)]⟩
  · refine lv_bipush (v := (-2)) X.1 X.2.1 dX12_feed_10 (by decide) ?_
    exact g_iret M X hr hlk hK hP hS dX12_feed_12 ⟨by rw [if_neg (gt_0 c7)], by rw [if_neg (gt_0 c7)]⟩

set_option maxHeartbeats 4000000 in
set_option maxRecDepth 100000 in
/-- keeps -/
theorem c_keeps (hM : gMod o T R) (M : Nat → Nat → Int32) {f : Nat} (hf : f < 2) : Met l yX12_keeps wsX12_keeps ({ frames := 0, cells := 0, slots := 0, locals := 0 }) (mPre s0 D cy B o z T R I0 M [.int (nI f)]) (mQv D cy B o z T R I0 (fun u => u = mKeep M f 18)) 0 0 (gA B) := by
  refine g_met (maxL := 3) (ret := none) (by decide) rfl (Nat.le_of_ble_eq_true rfl) (fun p e s m args below meth c ls X hr hlk hnm hK hP hC hS hl => ?_)
  have hl : lv_has ls 3 [(0, .ref o), (1, .int (nI f))] := hl
  have hP : gP D cy B z T (gI o 12 M I0) R s.heap := hP
  have hB : B ≤ s.heap.size := by rw [hP.1]; exact hP.2.1
  have hin : ∀ w ∈ wsX120, w ∈ wsX12_keeps := fun _ h => List.mem_cons_of_mem _ (List.mem_append_right _ h)
  have k9 : Cond.fieldLink RX12 9 "BarrowPlankModel" "s" "[I" ∈ wsX12_keeps := by decide +kernel
  have k18 : Cond.fieldLink RX12 18 "BarrowPlankModel" "frames" "[I" ∈ wsX12_keeps := by decide +kernel
  refine lv_iconst (v := 0) X.1 X.2.1 dX12_keeps_0 (by decide) ?_
  refine lv_istore_n (lv' := [(2, .int 0), (0, .ref o), (1, .int (nI f))]) X.1 X.2.1 dX12_keeps_1 rfl hl (by decide) rfl (fun ls hl => ?_)
  have hl : lv_has ls 3 [(0, .ref o), (1, .int (nI f)), (2, .int (nI 0))] := lv_sub hl [1, 2, 0] rfl
  have hM0 : M = mKeep M f 0 := (mKeep_0 M f).symm
  refine m_loop (M := M) 18 2 [] (fun k N ls => N = mKeep M f k ∧ lv_has ls 3 [(0, .ref o), (1, .int (nI f)), (2, .int (nI k))]) 0 (by omega) ⟨hM0, hl⟩ hP hS (fun k N H locs ls hk hi hP hS ih => ?_)
  obtain ⟨rfl, hl⟩ := hi
  generalize eN : mKeep M f k = N at hP
  refine lv_iload_n X.1 X.2.1 dX12_keeps_2 rfl (lv_at hl 2 rfl) ?_
  refine lv_bipush (v := 18) X.1 X.2.1 dX12_keeps_3 (by decide) ?_
  refine lv_icmp_ge (tgt := 31) X.1 X.2.1 dX12_keeps_5 (by decide) (fun c5 => ?_) (fun c5 => ?_)
  · exact g_vret N X hr hlk hK hP hS dX12_keeps_31 (by rw [← eN, show k = 18 from gk18 hk c5])
  · have hk9 : k < 18 := gk_lt hk c5
    refine lv_aload_n X.1 X.2.1 dX12_keeps_8 rfl (lv_at hl 0 rfl) ?_
    refine m_getr 4 3 X hK hP hM hin rfl (by decide) k18 rfl dX12_keeps_9 (by decide) ?_
    refine lv_bipush (v := 18) X.1 X.2.1 dX12_keeps_12 (by decide) ?_
    refine lv_iload_n X.1 X.2.1 dX12_keeps_14 rfl (lv_at hl 1 rfl) ?_
    refine lv_imul X.1 X.2.1 dX12_keeps_15 ?_
    refine lv_iload_n X.1 X.2.1 dX12_keeps_16 rfl (lv_at hl 2 rfl) ?_
    refine lv_iadd X.1 X.2.1 dX12_keeps_17 ?_
    refine lv_aload_n X.1 X.2.1 dX12_keeps_18 rfl (lv_at hl 0 rfl) ?_
    refine m_getr 1 1 X hK hP hM hin rfl (by decide) k9 rfl dX12_keeps_19 (by decide) ?_
    refine lv_iload_n X.1 X.2.1 dX12_keeps_22 rfl (lv_at hl 2 rfl) ?_
    refine m_ald 1 k 883 X hK hP hM rfl (gIx_of (Eq.refl (nI k)) (by omega) (by omega)) dX12_keeps_23 (show N 1 k = M 1 k from (by rw [← eN]; exact mKeep_r M f k 1 k (by decide))) ?_
    refine m_ast 3 (18 * f + k) 36 X hK hP hS hM rfl (gIx_of (gn_eq (gn_add (gn_mul (show (18 : Int32) = nI 18 from rfl) (Eq.refl (nI f))) (Eq.refl (nI k))) (by omega)) (by omega) (by omega)) dX12_keeps_24 (fun H locs hP hS => ?_)
    generalize eM1 : g2 N 3 (18 * f + k) (M 1 k) = M1 at hP
    refine lv_iinc (v := nI (k + 1)) (lv' := [(2, .int (nI (k + 1))), (0, .ref o), (1, .int (nI f))]) X.1 X.2.1 dX12_keeps_25 hl (k := 2) rfl (gn_inc (Eq.refl (nI k)) 1) (by decide) rfl (fun ls hl => ?_)
    refine lv_goto (tgt := 2) X.1 X.2.1 dX12_keeps_28 (by decide) ?_
    have h9 := ih _ _ _ _ (by omega) ⟨(by rw [← eM1, ← eN]; exact mKeep_s M f k), lv_sub hl [1, 2, 0] rfl⟩ hP hS
    exact h9

set_option maxHeartbeats 4000000 in
set_option maxRecDepth 100000 in
/-- goesBackTo -/
theorem c_back (hM : gMod o T R) (M : Nat → Nat → Int32) {f : Nat} (hf : f < 2) : Met l yX12_goesBackTo wsX12_goesBackTo ({ frames := 0, cells := 0, slots := 0, locals := 0 }) (mPre s0 D cy B o z T R I0 M [.int (nI f)]) (mQv D cy B o z T R I0 (fun u => u = mBack (g2 M 0 17 (M 0 17 + 1)) f 18)) 0 0 (gA B) := by
  refine g_met (maxL := 3) (ret := none) (by decide) rfl (Nat.le_of_ble_eq_true rfl) (fun p e s m args below meth c ls X hr hlk hnm hK hP hC hS hl => ?_)
  have hl : lv_has ls 3 [(0, .ref o), (1, .int (nI f))] := hl
  have hP : gP D cy B z T (gI o 12 M I0) R s.heap := hP
  have hB : B ≤ s.heap.size := by rw [hP.1]; exact hP.2.1
  have hin : ∀ w ∈ wsX120, w ∈ wsX12_goesBackTo := fun _ h => List.mem_cons_of_mem _ (List.mem_append_right _ h)
  have k9 : Cond.fieldLink RX12 9 "BarrowPlankModel" "s" "[I" ∈ wsX12_goesBackTo := by decide +kernel
  have k18 : Cond.fieldLink RX12 18 "BarrowPlankModel" "frames" "[I" ∈ wsX12_goesBackTo := by decide +kernel
  have k37 : Cond.fieldLink RX12 37 "BarrowPlankModel" "times" "I" ∈ wsX12_goesBackTo := by decide +kernel
  refine lv_aload_n X.1 X.2.1 dX12_goesBackTo_0 rfl (lv_at hl 0 rfl) ?_
  refine lv_dup X.1 X.2.1 dX12_goesBackTo_1 rfl ?_
  refine m_geti 17 X hK hP hM hin rfl (by decide) k37 rfl dX12_goesBackTo_2 (show M 0 17 = M 0 17 from rfl) ?_
  refine lv_iconst (v := 1) X.1 X.2.1 dX12_goesBackTo_5 (by decide) ?_
  refine lv_iadd X.1 X.2.1 dX12_goesBackTo_6 ?_
  refine m_puti 17 X hK hP hS hM hin rfl (by decide) k37 rfl rfl rfl rfl dX12_goesBackTo_7 (fun H locs hP hS => ?_)
  generalize eM1 : g2 M 0 17 ((M 0 17) + 1) = M1 at hP
  refine lv_iconst (v := 0) X.1 X.2.1 dX12_goesBackTo_10 (by decide) ?_
  refine lv_istore_n (lv' := [(2, .int 0), (0, .ref o), (1, .int (nI f))]) X.1 X.2.1 dX12_goesBackTo_11 rfl hl (by decide) rfl (fun ls hl => ?_)
  have hl : lv_has ls 3 [(0, .ref o), (1, .int (nI f)), (2, .int (nI 0))] := lv_sub hl [1, 2, 0] rfl
  have hM0 : M1 = mBack M1 f 0 := (mBack_0 M1 f).symm
  refine m_loop (M := M1) 18 12 [] (fun k N ls => N = mBack M1 f k ∧ lv_has ls 3 [(0, .ref o), (1, .int (nI f)), (2, .int (nI k))]) 0 (by omega) ⟨hM0, hl⟩ hP hS (fun k N H locs ls hk hi hP hS ih => ?_)
  obtain ⟨rfl, hl⟩ := hi
  generalize eN : mBack M1 f k = N at hP
  refine lv_iload_n X.1 X.2.1 dX12_goesBackTo_12 rfl (lv_at hl 2 rfl) ?_
  refine lv_bipush (v := 18) X.1 X.2.1 dX12_goesBackTo_13 (by decide) ?_
  refine lv_icmp_ge (tgt := 41) X.1 X.2.1 dX12_goesBackTo_15 (by decide) (fun c15 => ?_) (fun c15 => ?_)
  · exact g_vret N X hr hlk hK hP hS dX12_goesBackTo_41 (by rw [← eN, ← eM1, show k = 18 from gk18 hk c15])
  · have hk9 : k < 18 := gk_lt hk c15
    refine lv_aload_n X.1 X.2.1 dX12_goesBackTo_18 rfl (lv_at hl 0 rfl) ?_
    refine m_getr 1 1 X hK hP hM hin rfl (by decide) k9 rfl dX12_goesBackTo_19 (by decide) ?_
    refine lv_iload_n X.1 X.2.1 dX12_goesBackTo_22 rfl (lv_at hl 2 rfl) ?_
    refine lv_aload_n X.1 X.2.1 dX12_goesBackTo_23 rfl (lv_at hl 0 rfl) ?_
    refine m_getr 4 3 X hK hP hM hin rfl (by decide) k18 rfl dX12_goesBackTo_24 (by decide) ?_
    refine lv_bipush (v := 18) X.1 X.2.1 dX12_goesBackTo_27 (by decide) ?_
    refine lv_iload_n X.1 X.2.1 dX12_goesBackTo_29 rfl (lv_at hl 1 rfl) ?_
    refine lv_imul X.1 X.2.1 dX12_goesBackTo_30 ?_
    refine lv_iload_n X.1 X.2.1 dX12_goesBackTo_31 rfl (lv_at hl 2 rfl) ?_
    refine lv_iadd X.1 X.2.1 dX12_goesBackTo_32 ?_
    refine m_ald 3 (18 * f + k) 36 X hK hP hM rfl (gIx_of (gn_eq (gn_add (gn_mul (show (18 : Int32) = nI 18 from rfl) (Eq.refl (nI f))) (Eq.refl (nI k))) (by omega)) (by omega) (by omega)) dX12_goesBackTo_33 (show N 3 (18 * f + k) = M1 3 (18 * f + k) from (by rw [← eN]; exact mBack_r M1 f k 3 (18 * f + k) (by omega))) ?_
    refine m_ast 1 k 883 X hK hP hS hM rfl (gIx_of (Eq.refl (nI k)) (by omega) (by omega)) dX12_goesBackTo_34 (fun H locs hP hS => ?_)
    generalize eM2 : g2 N 1 k (M1 3 (18 * f + k)) = M2 at hP
    refine lv_iinc (v := nI (k + 1)) (lv' := [(2, .int (nI (k + 1))), (0, .ref o), (1, .int (nI f))]) X.1 X.2.1 dX12_goesBackTo_35 hl (k := 2) rfl (gn_inc (Eq.refl (nI k)) 1) (by decide) rfl (fun ls hl => ?_)
    refine lv_goto (tgt := 12) X.1 X.2.1 dX12_goesBackTo_38 (by decide) ?_
    exact ih _ _ _ _ (by omega) ⟨(by rw [← eM2, ← eN]; exact mBack_s M1 f k), lv_sub hl [1, 2, 0] rfl⟩ hP hS

def mTell (M : Nat → Nat → Int32) (w : Nat) (d : Int32) : Int32 := if M 1 42 = -1 then d else M 1 (w + (M 1 42).toNatClampNeg)

end MA
