section MR9
variable {l : Launch} {s0 : State} {D : va_G} {cy : Nat → ClassId} {B o z : Nat} {T : Nat → Nat × Nat} {R : Nat → Nat → Option Nat} {I0 : Nat → Nat → Int32} {M : Nat → Nat → Int32} {σ : Nat → Nat} {fl : List Nat} {ti sh K τ ms : Nat}
/-- n places of the row d are the row a's -/
def mCp (M : Nat → Nat → Int32) (a d n : Nat) : Nat → Nat → Int32 := fun b i => if b = d ∧ i < n then M a i else M b i
theorem mCp_0 (M : Nat → Nat → Int32) (a d : Nat) : mCp M a d 0 = M := by
  funext b i
  unfold mCp
  rw [if_neg (by omega)]
theorem mCp_s (M : Nat → Nat → Int32) (a d n : Nat) : g2 (mCp M a d n) d n (M a n) = mCp M a d (n + 1) := by
  funext b i
  unfold mCp g2
  dsimp only
  by_cases h : b = d ∧ i = n
  · obtain ⟨rfl, rfl⟩ := h
    rw [if_pos ⟨rfl, rfl⟩, if_pos ⟨rfl, by omega⟩]
  · rw [if_neg h]
    by_cases h2 : b = d ∧ i < n
    · rw [if_pos h2, if_pos ⟨h2.1, by omega⟩]
    · rw [if_neg h2, if_neg (fun q => h ⟨q.1, by have := q.2; have h3 : ¬ i < n := fun h4 => h2 ⟨q.1, h4⟩; omega⟩)]
theorem mCp_r (M : Nat → Nat → Int32) (a d n b i : Nat) (h : ¬ (b = d ∧ i < n)) : mCp M a d n b i = M b i := by
  unfold mCp
  rw [if_neg h]

set_option maxHeartbeats 4000000 in
set_option maxRecDepth 100000 in
/-- isUnder -/
theorem c_isUnder (x : gSt) {kd k : Nat} (hkd : kd ≤ 6) (hk : k ≤ 6) : Met l yX12_isUnder wsX12_isUnder ({ frames := 0, cells := 0, slots := 0, locals := 0 }) (va_Pc [.int (nI kd), .int (nI k)] (gW0 s0 D cy B x)) (va_Qi (fun r u => r = gt (k = 0 ∨ k = kd ∨ (0 < k ∧ k < 4 ∧ kd = k + 3)) ∧ u = x) (fun u t => gW1 D cy B u t) (gA B)) 0 0 (gA B) := by
  refine g_met (maxL := 2) (ret := (some .boolean)) (by decide) rfl (Nat.le_of_ble_eq_true rfl) (fun p e s m args below meth c ls X hr hlk hnm hK hP hC hS hl => ?_)
  have hl : lv_has ls 2 [(0, .int (nI kd)), (1, .int (nI k))] := hl
  have hP : gP D cy B x.1 x.2.1 x.2.2.1 x.2.2.2 s.heap := hP
  have hB : B ≤ s.heap.size := by rw [hP.1]; exact hP.2.1
  refine lv_iload_n X.1 X.2.1 dX12_isUnder_0 rfl (lv_at hl 1 rfl) ?_
  refine lv_if_eq (tgt := 25) X.1 X.2.1 dX12_isUnder_1 (by decide) (fun c1 => ?_) (fun c1 => ?_)
  · have n1 : k = 0 := gq_eq c1 (Eq.refl (nI k)) (show (0 : Int32) = nI 0 from rfl) (by omega) (by omega)
    refine lv_iconst (v := 1) X.1 X.2.1 dX12_isUnder_25 (by decide) ?_
    refine lv_goto (tgt := 30) X.1 X.2.1 dX12_isUnder_26 (by decide) ?_
    exact g_zret x X hr hlk hK hP hS dX12_isUnder_30 rfl ⟨(gt_yes (Or.inl n1)).symm, rfl⟩
  · have n1 : ¬ k = 0 := gq_ne c1 (Eq.refl (nI k)) (show (0 : Int32) = nI 0 from rfl) (by omega) (by omega)
    refine lv_iload_n X.1 X.2.1 dX12_isUnder_4 rfl (lv_at hl 1 rfl) ?_
    refine lv_iload_n X.1 X.2.1 dX12_isUnder_5 rfl (lv_at hl 0 rfl) ?_
    refine lv_icmp_eq (tgt := 25) X.1 X.2.1 dX12_isUnder_6 (by decide) (fun c6 => ?_) (fun c6 => ?_)
    · have n6 : k = kd := gq_eq c6 (Eq.refl (nI k)) (Eq.refl (nI kd)) (by omega) (by omega)
      refine lv_iconst (v := 1) X.1 X.2.1 dX12_isUnder_25 (by decide) ?_
      refine lv_goto (tgt := 30) X.1 X.2.1 dX12_isUnder_26 (by decide) ?_
      exact g_zret x X hr hlk hK hP hS dX12_isUnder_30 rfl ⟨(gt_yes (Or.inr (Or.inl n6))).symm, rfl⟩
    · have n6 : ¬ k = kd := gq_ne c6 (Eq.refl (nI k)) (Eq.refl (nI kd)) (by omega) (by omega)
      refine lv_iload_n X.1 X.2.1 dX12_isUnder_9 rfl (lv_at hl 1 rfl) ?_
      refine lv_if_le (tgt := 29) X.1 X.2.1 dX12_isUnder_10 (by decide) (fun c10 => ?_) (fun c10 => ?_)
      · have n10 : k ≤ 0 := gq_le c10 (Eq.refl (nI k)) (show (0 : Int32) = nI 0 from rfl) (by omega) (by omega)
        refine lv_iconst (v := 0) X.1 X.2.1 dX12_isUnder_29 (by decide) ?_
        exact g_zret x X hr hlk hK hP hS dX12_isUnder_30 rfl ⟨(gt_no (fun q => by omega)).symm, rfl⟩
      · have n10 : 0 < k := gq_nle c10 (Eq.refl (nI k)) (show (0 : Int32) = nI 0 from rfl) (by omega) (by omega)
        refine lv_iload_n X.1 X.2.1 dX12_isUnder_13 rfl (lv_at hl 1 rfl) ?_
        refine lv_iconst (v := 4) X.1 X.2.1 dX12_isUnder_14 (by decide) ?_
        refine lv_icmp_ge (tgt := 29) X.1 X.2.1 dX12_isUnder_15 (by decide) (fun c15 => ?_) (fun c15 => ?_)
        · have n15 : 4 ≤ k := gq_le c15 (show (4 : Int32) = nI 4 from rfl) (Eq.refl (nI k)) (by omega) (by omega)
          refine lv_iconst (v := 0) X.1 X.2.1 dX12_isUnder_29 (by decide) ?_
          exact g_zret x X hr hlk hK hP hS dX12_isUnder_30 rfl ⟨(gt_no (fun q => by omega)).symm, rfl⟩
        · have n15 : k < 4 := gq_nle c15 (show (4 : Int32) = nI 4 from rfl) (Eq.refl (nI k)) (by omega) (by omega)
          refine lv_iload_n X.1 X.2.1 dX12_isUnder_18 rfl (lv_at hl 0 rfl) ?_
          refine lv_iload_n X.1 X.2.1 dX12_isUnder_19 rfl (lv_at hl 1 rfl) ?_
          refine lv_iconst (v := 3) X.1 X.2.1 dX12_isUnder_20 (by decide) ?_
          refine lv_iadd X.1 X.2.1 dX12_isUnder_21 ?_
          refine lv_icmp_ne (tgt := 29) X.1 X.2.1 dX12_isUnder_22 (by decide) (fun c22 => ?_) (fun c22 => ?_)
          · have n22 : ¬ kd = (k + 3) := gq_ne c22 (Eq.refl (nI kd)) (gn_add (Eq.refl (nI k)) (show (3 : Int32) = nI 3 from rfl)) (by omega) (by omega)
            refine lv_iconst (v := 0) X.1 X.2.1 dX12_isUnder_29 (by decide) ?_
            exact g_zret x X hr hlk hK hP hS dX12_isUnder_30 rfl ⟨(gt_no (fun q => by omega)).symm, rfl⟩
          · have n22 : kd = (k + 3) := gq_eq c22 (Eq.refl (nI kd)) (gn_add (Eq.refl (nI k)) (show (3 : Int32) = nI 3 from rfl)) (by omega) (by omega)
            refine lv_iconst (v := 1) X.1 X.2.1 dX12_isUnder_25 (by decide) ?_
            refine lv_goto (tgt := 30) X.1 X.2.1 dX12_isUnder_26 (by decide) ?_
            exact g_zret x X hr hlk hK hP hS dX12_isUnder_30 rfl ⟨(gt_yes (Or.inr (Or.inr ⟨by omega, by omega, n22⟩))).symm, rfl⟩

set_option maxHeartbeats 4000000 in
set_option maxRecDepth 100000 in
/-- c_as_n -/
theorem c_as_n (hM : gMod o T R) (hi : mInv M σ fl ti sh K τ ms) {v k : Int32} (hno : ¬ ((0 ≤ v ∧ v ≤ nI (σ 38) - 1) ∧ (0 ≤ k ∧ k ≤ 6))) : Met l yX12_as wsX12_as ({ frames := 2, cells := 0, slots := 0, locals := 43 }) (mPre s0 D cy B o z T R I0 M [.int v, .int k]) (mQi D cy B o z T R I0 (fun r u => r = -1 ∧ M = u)) 0 0 (gA B) := by
  refine g_met (maxL := 3) (ret := (some .int)) (by decide) rfl (Nat.le_of_ble_eq_true rfl) (fun p e s m args below meth c ls X hr hlk hnm hK hP hC hS hl => ?_)
  have hl : lv_has ls 3 [(0, .ref o), (1, .int v), (2, .int k)] := hl
  have hP : gP D cy B z T (gI o 12 M I0) R s.heap := hP
  have hB : B ≤ s.heap.size := by rw [hP.1]; exact hP.2.1
  have hin : ∀ w ∈ wsX120, w ∈ wsX12_as := fun _ h => List.mem_cons_of_mem _ (List.mem_append_right _ h)
  have k9 : Cond.fieldLink RX12 9 "BarrowPlankModel" "s" "[I" ∈ wsX12_as := by decide +kernel
  have hσ := hi.1
  have hs := hi.2.1
  have hb := hi.2.2.1
  have hca := hi.2.2.2
  refine lv_aload_n X.1 X.2.1 dX12_as_0 rfl (lv_at hl 0 rfl) ?_
  refine lv_iload_n X.1 X.2.1 dX12_as_1 rfl (lv_at hl 1 rfl) ?_
  refine g_run_i (g_runV (k := 14) [.int v] X hK hP hS hC hB (c_isMan hM _ v) (cwV 1 X.2.2.2.2 gX12_as_X12_isMan rfl rfl rfl (by decide +kernel) ⟨Nat.le_of_ble_eq_true rfl, Nat.le_of_ble_eq_true rfl⟩) (hM.1 0 _ rfl) rfl rfl hl.1 rfl (Nat.le_of_ble_eq_true rfl) dX12_as_2 (by exact ⟨Nat.zero_le _, Nat.zero_le _⟩)) hS (fun r u H locs hq hP hS => ?_)
  obtain ⟨rfl, rfl⟩ := hq
  have hP : gP D cy B z T (gI o 12 M I0) R H := hP
  refine lv_if_eq (tgt := 18) X.1 X.2.1 dX12_as_5 (by decide) (fun c5 => ?_) (fun c5 => ?_)
  · refine lv_iconst (v := (-1)) X.1 X.2.1 dX12_as_18 (by decide) ?_
    exact g_iret M X hr hlk hK hP hS dX12_as_19 ⟨rfl, rfl⟩
  · refine lv_iload_n X.1 X.2.1 dX12_as_8 rfl (lv_at hl 2 rfl) ?_
    refine lv_iconst (v := 0) X.1 X.2.1 dX12_as_9 (by decide) ?_
    refine lv_bipush (v := 6) X.1 X.2.1 dX12_as_10 (by decide) ?_
    refine g_run_i (g_runS [.int k, .int 0, .int 6] X hK hP hS hC hB (c_in _ k 0 6) (va_cwS 3 X.2.2.2.2 gX12_as_X12_in rfl rfl rfl (by decide +kernel) ⟨Nat.le_of_ble_eq_true rfl, Nat.le_of_ble_eq_true rfl⟩) rfl hl.1 rfl (Nat.le_of_ble_eq_true rfl) dX12_as_12 (by exact ⟨Nat.zero_le _, Nat.zero_le _⟩)) hS (fun r u H locs hq hP hS => ?_)
    obtain ⟨rfl, rfl⟩ := hq
    have hP : gP D cy B z T (gI o 12 M I0) R H := hP
    refine lv_if_ne (tgt := 20) X.1 X.2.1 dX12_as_15 (by decide) (fun c15 => ?_) (fun c15 => ?_)
    · exact absurd ⟨(by rw [← hσ 38 (by decide) (by decide)]; exact gt_1 c5), gt_1 c15⟩ hno
    · refine lv_iconst (v := (-1)) X.1 X.2.1 dX12_as_18 (by decide) ?_
      exact g_iret M X hr hlk hK hP hS dX12_as_19 ⟨rfl, rfl⟩

set_option maxHeartbeats 4000000 in
set_option maxRecDepth 100000 in
/-- c_as -/
theorem c_as (hM : gMod o T R) (hi : mInv M σ fl ti sh K τ ms) {μ : Nat} (hμn : μ < σ 38) {k : Nat} (hk : k ≤ 6) : Met l yX12_as wsX12_as ({ frames := 2, cells := 0, slots := 0, locals := 43 }) (mPre s0 D cy B o z T R I0 M [.int (nI μ), .int (nI k)]) (mQi D cy B o z T R I0 (fun r u => r = (if k = 0 ∨ k = σ (44 + μ) ∨ (0 < k ∧ k < 4 ∧ σ (44 + μ) = k + 3) then nI (σ (48 + μ)) else -6) ∧ M = u)) 0 0 (gA B) := by
  refine g_met (maxL := 3) (ret := (some .int)) (by decide) rfl (Nat.le_of_ble_eq_true rfl) (fun p e s m args below meth c ls X hr hlk hnm hK hP hC hS hl => ?_)
  have hl : lv_has ls 3 [(0, .ref o), (1, .int (nI μ)), (2, .int (nI k))] := hl
  have hP : gP D cy B z T (gI o 12 M I0) R s.heap := hP
  have hB : B ≤ s.heap.size := by rw [hP.1]; exact hP.2.1
  have hin : ∀ w ∈ wsX120, w ∈ wsX12_as := fun _ h => List.mem_cons_of_mem _ (List.mem_append_right _ h)
  have k9 : Cond.fieldLink RX12 9 "BarrowPlankModel" "s" "[I" ∈ wsX12_as := by decide +kernel
  have hσ := hi.1
  have hs := hi.2.1
  have hb := hi.2.2.1
  have hca := hi.2.2.2
  have hμ : μ < 4 := Nat.lt_of_lt_of_le hμn hi.2.2.1.2.2.2.2.1
  have h38 := hμn
  have b44 : σ (44 + μ) ≤ 6 := (hb.2.2.2.2.2.2.2.2.1 μ hμ).1
  refine lv_aload_n X.1 X.2.1 dX12_as_0 rfl (lv_at hl 0 rfl) ?_
  refine lv_iload_n X.1 X.2.1 dX12_as_1 rfl (lv_at hl 1 rfl) ?_
  refine g_run_i (g_runV (k := 14) [.int (nI μ)] X hK hP hS hC hB (c_isMan hM _ (nI μ)) (cwV 1 X.2.2.2.2 gX12_as_X12_isMan rfl rfl rfl (by decide +kernel) ⟨Nat.le_of_ble_eq_true rfl, Nat.le_of_ble_eq_true rfl⟩) (hM.1 0 _ rfl) rfl rfl hl.1 rfl (Nat.le_of_ble_eq_true rfl) dX12_as_2 (by exact ⟨Nat.zero_le _, Nat.zero_le _⟩)) hS (fun r u H locs hq hP hS => ?_)
  obtain ⟨rfl, rfl⟩ := hq
  have hP : gP D cy B z T (gI o 12 M I0) R H := hP
  refine lv_if_eq (tgt := 18) X.1 X.2.1 dX12_as_5 (by decide) (fun c5 => ?_) (fun c5 => ?_)
  · exact absurd (g_man hi hμn) (gt_0 c5)
  · refine lv_iload_n X.1 X.2.1 dX12_as_8 rfl (lv_at hl 2 rfl) ?_
    refine lv_iconst (v := 0) X.1 X.2.1 dX12_as_9 (by decide) ?_
    refine lv_bipush (v := 6) X.1 X.2.1 dX12_as_10 (by decide) ?_
    refine g_run_i (g_runS [.int (nI k), .int 0, .int 6] X hK hP hS hC hB (c_in _ (nI k) 0 6) (va_cwS 3 X.2.2.2.2 gX12_as_X12_in rfl rfl rfl (by decide +kernel) ⟨Nat.le_of_ble_eq_true rfl, Nat.le_of_ble_eq_true rfl⟩) rfl hl.1 rfl (Nat.le_of_ble_eq_true rfl) dX12_as_12 (by exact ⟨Nat.zero_le _, Nat.zero_le _⟩)) hS (fun r u H locs hq hP hS => ?_)
    obtain ⟨rfl, rfl⟩ := hq
    have hP : gP D cy B z T (gI o 12 M I0) R H := hP
    refine lv_if_ne (tgt := 20) X.1 X.2.1 dX12_as_15 (by decide) (fun c15 => ?_) (fun c15 => ?_)
    · refine lv_aload_n X.1 X.2.1 dX12_as_20 rfl (lv_at hl 0 rfl) ?_
      refine m_getr 1 1 X hK hP hM hin rfl (by decide) k9 rfl dX12_as_21 (by decide) ?_
      refine lv_bipush (v := 44) X.1 X.2.1 dX12_as_24 (by decide) ?_
      refine lv_iload_n X.1 X.2.1 dX12_as_26 rfl (lv_at hl 1 rfl) ?_
      refine lv_iadd X.1 X.2.1 dX12_as_27 ?_
      refine m_ald 1 (44 + μ) 883 X hK hP hM rfl (gIx_of (gn_add (show (44 : Int32) = nI 44 from rfl) (Eq.refl (nI μ))) (by omega) (by omega)) dX12_as_28 (show M 1 (44 + μ) = nI (σ (44 + μ)) from (hσ (44 + μ) (by omega) (by omega))) ?_
      refine lv_iload_n X.1 X.2.1 dX12_as_29 rfl (lv_at hl 2 rfl) ?_
      refine g_run_i (g_runS [.int (nI (σ (44 + μ))), .int (nI k)] X hK hP hS hC hB (c_isUnder _ (kd := σ (44 + μ)) (k := k) (by omega) (by omega)) (va_cwS 2 X.2.2.2.2 gX12_as_X12_isUnder rfl rfl rfl (by decide +kernel) ⟨Nat.le_of_ble_eq_true rfl, Nat.le_of_ble_eq_true rfl⟩) rfl hl.1 rfl (Nat.le_of_ble_eq_true rfl) dX12_as_30 (by exact ⟨Nat.zero_le _, Nat.zero_le _⟩)) hS (fun r u H locs hq hP hS => ?_)
      obtain ⟨rfl, rfl⟩ := hq
      have hP : gP D cy B z T (gI o 12 M I0) R H := hP
      refine lv_if_eq (tgt := 48) X.1 X.2.1 dX12_as_33 (by decide) (fun c33 => ?_) (fun c33 => ?_)
      · refine lv_bipush (v := (-6)) X.1 X.2.1 dX12_as_48 (by decide) ?_
        exact g_iret M X hr hlk hK hP hS dX12_as_50 ⟨(by rw [if_neg (gt_0 c33)]), rfl⟩
      · refine lv_aload_n X.1 X.2.1 dX12_as_36 rfl (lv_at hl 0 rfl) ?_
        refine m_getr 1 1 X hK hP hM hin rfl (by decide) k9 rfl dX12_as_37 (by decide) ?_
        refine lv_bipush (v := 48) X.1 X.2.1 dX12_as_40 (by decide) ?_
        refine lv_iload_n X.1 X.2.1 dX12_as_42 rfl (lv_at hl 1 rfl) ?_
        refine lv_iadd X.1 X.2.1 dX12_as_43 ?_
        refine m_ald 1 (48 + μ) 883 X hK hP hM rfl (gIx_of (gn_add (show (48 : Int32) = nI 48 from rfl) (Eq.refl (nI μ))) (by omega) (by omega)) dX12_as_44 (show M 1 (48 + μ) = nI (σ (48 + μ)) from (hσ (48 + μ) (by omega) (by omega))) ?_
        refine lv_goto (tgt := 50) X.1 X.2.1 dX12_as_45 (by decide) ?_
        exact g_iret M X hr hlk hK hP hS dX12_as_50 ⟨(by rw [if_pos (gt_1 c33)]), rfl⟩
    · exact absurd (g_le (a := 0) (b := 6) (x := 0) (y := 6) rfl rfl (by omega) (by omega) (by omega)) (gt_0 c15)

set_option maxHeartbeats 4000000 in
set_option maxRecDepth 100000 in
/-- image -/
theorem c_image (hM : gMod o T R) : Met l yX12_image wsX12_image ({ frames := 0, cells := 0, slots := 0, locals := 0 }) (mPre s0 D cy B o z T R I0 M []) (mQi D cy B o z T R I0 (fun r u => r = M 1 38 ∧ u = g2 (mCp M 1 2 883) 0 3 1)) 0 0 (gA B) := by
  refine g_met (maxL := 2) (ret := (some .int)) (by decide) rfl (Nat.le_of_ble_eq_true rfl) (fun p e s m args below meth c ls X hr hlk hnm hK hP hC hS hl => ?_)
  have hl : lv_has ls 2 [(0, .ref o)] := hl
  have hP : gP D cy B z T (gI o 12 M I0) R s.heap := hP
  have hB : B ≤ s.heap.size := by rw [hP.1]; exact hP.2.1
  have hin : ∀ w ∈ wsX120, w ∈ wsX12_image := fun _ h => List.mem_cons_of_mem _ (List.mem_append_right _ h)
  have k9 : Cond.fieldLink RX12 9 "BarrowPlankModel" "s" "[I" ∈ wsX12_image := by decide +kernel
  have k15 : Cond.fieldLink RX12 15 "BarrowPlankModel" "image" "[I" ∈ wsX12_image := by decide +kernel
  have k285 : Cond.fieldLink RX12 285 "BarrowPlankModel" "hasImage" "Z" ∈ wsX12_image := by decide +kernel
  refine lv_iconst (v := 0) X.1 X.2.1 dX12_image_0 (by decide) ?_
  refine lv_istore_n (lv' := [(1, .int 0), (0, .ref o)]) X.1 X.2.1 dX12_image_1 rfl hl (by decide) rfl (fun ls hl => ?_)
  refine m_loop (M := M) 883 2 [] (fun k N ls => N = mCp M 1 2 k ∧ lv_has ls 2 [(0, .ref o), (1, .int (nI k))]) 0 (by omega) ⟨(mCp_0 M 1 2).symm, lv_sub hl [1, 0] rfl⟩ hP hS (fun k N H locs ls hk hiv hP hS ih => ?_)
  obtain ⟨rfl, hl⟩ := hiv
  generalize eN : mCp M 1 2 k = N at hP
  refine lv_iload_n X.1 X.2.1 dX12_image_2 rfl (lv_at hl 1 rfl) ?_
  refine lv_sipush (v := 883) X.1 X.2.1 dX12_image_3 (by decide) ?_
  refine lv_icmp_ge (tgt := 27) X.1 X.2.1 dX12_image_6 (by decide) (fun c6 => ?_) (fun c6 => ?_)
  · obtain rfl : k = 883 := gk18 hk c6
    refine lv_aload_n X.1 X.2.1 dX12_image_27 rfl (lv_at hl 0 rfl) ?_
    refine lv_iconst (v := 1) X.1 X.2.1 dX12_image_28 (by decide) ?_
    refine m_puti 3 X hK hP hS hM hin rfl (by decide) k285 rfl rfl rfl rfl dX12_image_29 (fun H locs hP hS => ?_)
    generalize eM1 : g2 N 0 3 1 = M1 at hP
    refine lv_aload_n X.1 X.2.1 dX12_image_32 rfl (lv_at hl 0 rfl) ?_
    refine m_getr 1 1 X hK hP hM hin rfl (by decide) k9 rfl dX12_image_33 (by decide) ?_
    refine lv_bipush (v := 38) X.1 X.2.1 dX12_image_36 (by decide) ?_
    refine m_ald 1 38 883 X hK hP hM rfl (gIx_of (show (38 : Int32) = nI 38 from rfl) (by omega) (by omega)) dX12_image_38 (show M1 1 38 = M 1 38 from (gs_ne eM1 (by omega) (by rw [← eN]; exact mCp_r _ _ _ _ _ _ (by omega)))) ?_
    exact g_iret M1 X hr hlk hK hP hS dX12_image_39 ⟨rfl, (by rw [← eM1, ← eN])⟩
  · have hk9 : k < 883 := gk_lt hk c6
    refine lv_aload_n X.1 X.2.1 dX12_image_9 rfl (lv_at hl 0 rfl) ?_
    refine m_getr 2 2 X hK hP hM hin rfl (by decide) k15 rfl dX12_image_10 (by decide) ?_
    refine lv_iload_n X.1 X.2.1 dX12_image_13 rfl (lv_at hl 1 rfl) ?_
    refine lv_aload_n X.1 X.2.1 dX12_image_14 rfl (lv_at hl 0 rfl) ?_
    refine m_getr 1 1 X hK hP hM hin rfl (by decide) k9 rfl dX12_image_15 (by decide) ?_
    refine lv_iload_n X.1 X.2.1 dX12_image_18 rfl (lv_at hl 1 rfl) ?_
    refine m_ald 1 k 883 X hK hP hM rfl (gIx_of (Eq.refl (nI k)) (by omega) (by omega)) dX12_image_19 (show N 1 k = M 1 k from (by rw [← eN]; exact mCp_r _ _ _ _ _ _ (by omega))) ?_
    refine m_ast 2 k 883 X hK hP hS hM rfl (gIx_of (Eq.refl (nI k)) (by omega) (by omega)) dX12_image_20 (fun H locs hP hS => ?_)
    generalize eM2 : g2 N 2 k (M 1 k) = M2 at hP
    refine lv_iinc (v := nI (k + 1)) (lv' := [(1, .int (nI (k + 1))), (0, .ref o)]) X.1 X.2.1 dX12_image_21 hl (k := 1) rfl (gn_inc (Eq.refl (nI k)) 1) (by decide) rfl (fun ls hl => ?_)
    refine lv_goto (tgt := 2) X.1 X.2.1 dX12_image_24 (by decide) ?_
    exact ih _ _ _ _ (by omega) ⟨(by rw [← eM2, ← eN]; exact mCp_s M 1 2 k), lv_sub hl [1, 0] rfl⟩ hP hS

set_option maxHeartbeats 4000000 in
set_option maxRecDepth 100000 in
/-- undo without an image -/
theorem c_undo_n (hM : gMod o T R) (h : M 0 3 = 0) : Met l yX12_undo wsX12_undo ({ frames := 0, cells := 0, slots := 0, locals := 0 }) (mPre s0 D cy B o z T R I0 M []) (mQi D cy B o z T R I0 (fun r u => r = -3 ∧ M = u)) 0 0 (gA B) := by
  refine g_met (maxL := 2) (ret := (some .int)) (by decide) rfl (Nat.le_of_ble_eq_true rfl) (fun p e s m args below meth c ls X hr hlk hnm hK hP hC hS hl => ?_)
  have hl : lv_has ls 2 [(0, .ref o)] := hl
  have hP : gP D cy B z T (gI o 12 M I0) R s.heap := hP
  have hB : B ≤ s.heap.size := by rw [hP.1]; exact hP.2.1
  have hin : ∀ w ∈ wsX120, w ∈ wsX12_undo := fun _ h => List.mem_cons_of_mem _ (List.mem_append_right _ h)
  have k9 : Cond.fieldLink RX12 9 "BarrowPlankModel" "s" "[I" ∈ wsX12_undo := by decide +kernel
  have k15 : Cond.fieldLink RX12 15 "BarrowPlankModel" "image" "[I" ∈ wsX12_undo := by decide +kernel
  have k37 : Cond.fieldLink RX12 37 "BarrowPlankModel" "times" "I" ∈ wsX12_undo := by decide +kernel
  have k285 : Cond.fieldLink RX12 285 "BarrowPlankModel" "hasImage" "Z" ∈ wsX12_undo := by decide +kernel
  refine lv_aload_n X.1 X.2.1 dX12_undo_0 rfl (lv_at hl 0 rfl) ?_
  refine m_geti 3 X hK hP hM hin rfl (by decide) k285 rfl dX12_undo_1 (show M 0 3 = 0 from h) ?_
  refine lv_if_ne (tgt := 10) X.1 X.2.1 dX12_undo_4 (by decide) (fun c4 => ?_) (fun c4 => ?_)
  · exact absurd rfl c4
  · refine lv_bipush (v := (-3)) X.1 X.2.1 dX12_undo_7 (by decide) ?_
    exact g_iret M X hr hlk hK hP hS dX12_undo_9 ⟨rfl, rfl⟩

theorem mCp_at (M : Nat → Nat → Int32) {a d n i : Nat} (h : i < n) : mCp M a d n d i = M a i := by
  unfold mCp
  rw [if_pos ⟨rfl, h⟩]
set_option maxHeartbeats 4000000 in
set_option maxRecDepth 100000 in
/-- undo -/
theorem c_undo (hM : gMod o T R) (h : M 0 3 = 1) : Met l yX12_undo wsX12_undo ({ frames := 0, cells := 0, slots := 0, locals := 0 }) (mPre s0 D cy B o z T R I0 M []) (mQi D cy B o z T R I0 (fun r u => r = M 2 38 ∧ u = g2 (mCp M 2 1 883) 0 17 (M 0 17 + 1))) 0 0 (gA B) := by
  refine g_met (maxL := 2) (ret := (some .int)) (by decide) rfl (Nat.le_of_ble_eq_true rfl) (fun p e s m args below meth c ls X hr hlk hnm hK hP hC hS hl => ?_)
  have hl : lv_has ls 2 [(0, .ref o)] := hl
  have hP : gP D cy B z T (gI o 12 M I0) R s.heap := hP
  have hB : B ≤ s.heap.size := by rw [hP.1]; exact hP.2.1
  have hin : ∀ w ∈ wsX120, w ∈ wsX12_undo := fun _ h => List.mem_cons_of_mem _ (List.mem_append_right _ h)
  have k9 : Cond.fieldLink RX12 9 "BarrowPlankModel" "s" "[I" ∈ wsX12_undo := by decide +kernel
  have k15 : Cond.fieldLink RX12 15 "BarrowPlankModel" "image" "[I" ∈ wsX12_undo := by decide +kernel
  have k37 : Cond.fieldLink RX12 37 "BarrowPlankModel" "times" "I" ∈ wsX12_undo := by decide +kernel
  have k285 : Cond.fieldLink RX12 285 "BarrowPlankModel" "hasImage" "Z" ∈ wsX12_undo := by decide +kernel
  refine lv_aload_n X.1 X.2.1 dX12_undo_0 rfl (lv_at hl 0 rfl) ?_
  refine m_geti 3 X hK hP hM hin rfl (by decide) k285 rfl dX12_undo_1 (show M 0 3 = 1 from h) ?_
  refine lv_if_ne (tgt := 10) X.1 X.2.1 dX12_undo_4 (by decide) (fun c4 => ?_) (fun c4 => ?_)
  · refine lv_iconst (v := 0) X.1 X.2.1 dX12_undo_10 (by decide) ?_
    refine lv_istore_n (lv' := [(1, .int 0), (0, .ref o)]) X.1 X.2.1 dX12_undo_11 rfl hl (by decide) rfl (fun ls hl => ?_)
    refine m_loop (M := M) 883 12 [] (fun k N ls => N = mCp M 2 1 k ∧ lv_has ls 2 [(0, .ref o), (1, .int (nI k))]) 0 (by omega) ⟨(mCp_0 M 2 1).symm, lv_sub hl [1, 0] rfl⟩ hP hS (fun k N H locs ls hk hiv hP hS ih => ?_)
    obtain ⟨rfl, hl⟩ := hiv
    generalize eN : mCp M 2 1 k = N at hP
    refine lv_iload_n X.1 X.2.1 dX12_undo_12 rfl (lv_at hl 1 rfl) ?_
    refine lv_sipush (v := 883) X.1 X.2.1 dX12_undo_13 (by decide) ?_
    refine lv_icmp_ge (tgt := 37) X.1 X.2.1 dX12_undo_16 (by decide) (fun c16 => ?_) (fun c16 => ?_)
    · obtain rfl : k = 883 := gk18 hk c16
      refine lv_aload_n X.1 X.2.1 dX12_undo_37 rfl (lv_at hl 0 rfl) ?_
      refine lv_dup X.1 X.2.1 dX12_undo_38 rfl ?_
      refine m_geti 17 X hK hP hM hin rfl (by decide) k37 rfl dX12_undo_39 (show N 0 17 = M 0 17 from (by rw [← eN]; exact mCp_r _ _ _ _ _ _ (by omega))) ?_
      refine lv_iconst (v := 1) X.1 X.2.1 dX12_undo_42 (by decide) ?_
      refine lv_iadd X.1 X.2.1 dX12_undo_43 ?_
      refine m_puti 17 X hK hP hS hM hin rfl (by decide) k37 rfl rfl rfl rfl dX12_undo_44 (fun H locs hP hS => ?_)
      generalize eM1 : g2 N 0 17 ((M 0 17) + 1) = M1 at hP
      refine lv_aload_n X.1 X.2.1 dX12_undo_47 rfl (lv_at hl 0 rfl) ?_
      refine m_getr 1 1 X hK hP hM hin rfl (by decide) k9 rfl dX12_undo_48 (by decide) ?_
      refine lv_bipush (v := 38) X.1 X.2.1 dX12_undo_51 (by decide) ?_
      refine m_ald 1 38 883 X hK hP hM rfl (gIx_of (show (38 : Int32) = nI 38 from rfl) (by omega) (by omega)) dX12_undo_53 (show M1 1 38 = M 2 38 from (gs_ne eM1 (by omega) (by rw [← eN]; exact mCp_at M (by omega)))) ?_
      exact g_iret M1 X hr hlk hK hP hS dX12_undo_54 ⟨rfl, (by rw [← eM1, ← eN])⟩
    · have hk9 : k < 883 := gk_lt hk c16
      refine lv_aload_n X.1 X.2.1 dX12_undo_19 rfl (lv_at hl 0 rfl) ?_
      refine m_getr 1 1 X hK hP hM hin rfl (by decide) k9 rfl dX12_undo_20 (by decide) ?_
      refine lv_iload_n X.1 X.2.1 dX12_undo_23 rfl (lv_at hl 1 rfl) ?_
      refine lv_aload_n X.1 X.2.1 dX12_undo_24 rfl (lv_at hl 0 rfl) ?_
      refine m_getr 2 2 X hK hP hM hin rfl (by decide) k15 rfl dX12_undo_25 (by decide) ?_
      refine lv_iload_n X.1 X.2.1 dX12_undo_28 rfl (lv_at hl 1 rfl) ?_
      refine m_ald 2 k 883 X hK hP hM rfl (gIx_of (Eq.refl (nI k)) (by omega) (by omega)) dX12_undo_29 (show N 2 k = M 2 k from (by rw [← eN]; exact mCp_r _ _ _ _ _ _ (by omega))) ?_
      refine m_ast 1 k 883 X hK hP hS hM rfl (gIx_of (Eq.refl (nI k)) (by omega) (by omega)) dX12_undo_30 (fun H locs hP hS => ?_)
      generalize eM2 : g2 N 1 k (M 2 k) = M2 at hP
      refine lv_iinc (v := nI (k + 1)) (lv' := [(1, .int (nI (k + 1))), (0, .ref o)]) X.1 X.2.1 dX12_undo_31 hl (k := 1) rfl (gn_inc (Eq.refl (nI k)) 1) (by decide) rfl (fun ls hl => ?_)
      refine lv_goto (tgt := 12) X.1 X.2.1 dX12_undo_34 (by decide) ?_
      exact ih _ _ _ _ (by omega) ⟨(by rw [← eM2, ← eN]; exact mCp_s M 2 1 k), lv_sub hl [1, 0] rfl⟩ hP hS
  · exact absurd c4 (by decide)

end MR9
