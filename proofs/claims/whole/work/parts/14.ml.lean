section ML
variable {l : Launch} {s0 : State} {D : va_G} {cy : Nat → ClassId} {B o z : Nat} {T : Nat → Nat × Nat} {R : Nat → Nat → Option Nat} {I0 : Nat → Nat → Int32} {M : Nat → Nat → Int32} {σ : Nat → Nat} {fl : List Nat} {ti sh K τ ms : Nat}
theorem g_man (hi : mInv M σ fl ti sh K τ ms) {μ : Nat} (h : μ < σ 38) : 0 ≤ nI μ ∧ nI μ ≤ M 1 38 - 1 := by
  rw [hi.1 38 (by decide) (by decide)]
  exact gm_in (by have := hi.2.2.1.2.2.2.2.1; omega) h
theorem g_noman (hi : mInv M σ fl ti sh K τ ms) {v : Int32} (h : ¬ (0 ≤ v ∧ v ≤ nI (σ 38) - 1)) : ¬ (0 ≤ v ∧ v ≤ M 1 38 - 1) := by
  rw [hi.1 38 (by decide) (by decide)]
  exact h
theorem g_le {a b n : Nat} {x y : Int32} (hx : x = nI a) (hy : y = nI b) (h1 : a ≤ n) (h2 : n ≤ b) (hb : b < 2 ^ 31) : x ≤ nI n ∧ nI n ≤ y := by
  rw [hx, hy]
  exact ⟨nI_le h1 (by omega), nI_le h2 hb⟩

set_option maxHeartbeats 4000000 in
set_option maxRecDepth 100000 in
/-- c_round_n -/
theorem c_round_n (hM : gMod o T R) (hi : mInv M σ fl ti sh K τ ms) {v : Int32} (hno : ¬ (0 ≤ v ∧ v ≤ nI (σ 38) - 1)) (ld : Int32) : Met l yX12_round wsX12_round ({ frames := 2, cells := 0, slots := 0, locals := 43 }) (mPre s0 D cy B o z T R I0 M [.int v, .int ld]) (mQi D cy B o z T R I0 (fun r u => r = -1 ∧ M = u)) 0 0 (gA B) := by
  refine g_met (maxL := 3) (ret := (some .int)) (by decide) rfl (Nat.le_of_ble_eq_true rfl) (fun p e s m args below meth c ls X hr hlk hnm hK hP hC hS hl => ?_)
  have hl : lv_has ls 3 [(0, .ref o), (1, .int v), (2, .int ld)] := hl
  have hP : gP D cy B z T (gI o 12 M I0) R s.heap := hP
  have hB : B ≤ s.heap.size := by rw [hP.1]; exact hP.2.1
  have hin : ∀ w ∈ wsX120, w ∈ wsX12_round := fun _ h => List.mem_cons_of_mem _ (List.mem_append_right _ h)
  have k9 : Cond.fieldLink RX12 9 "BarrowPlankModel" "s" "[I" ∈ wsX12_round := by decide +kernel
  have k187 : Cond.fieldLink RX12 187 "BarrowPlankModel" "seconds" "I" ∈ wsX12_round := by decide +kernel
  have hσ := hi.1
  have hs := hi.2.1
  have hb := hi.2.2.1
  have hca := hi.2.2.2
  refine lv_aload_n X.1 X.2.1 dX12_round_0 rfl (lv_at hl 0 rfl) ?_
  refine lv_iload_n X.1 X.2.1 dX12_round_1 rfl (lv_at hl 1 rfl) ?_
  refine g_run_i (g_runV (k := 14) [.int v] X hK hP hS hC hB (c_isMan hM _ v) (cwV 1 X.2.2.2.2 gX12_round_X12_isMan rfl rfl rfl (by decide +kernel) ⟨Nat.le_of_ble_eq_true rfl, Nat.le_of_ble_eq_true rfl⟩) (hM.1 0 _ rfl) rfl rfl hl.1 rfl (Nat.le_of_ble_eq_true rfl) dX12_round_2 (by exact ⟨Nat.zero_le _, Nat.zero_le _⟩)) hS (fun r u H locs hq hP hS => ?_)
  obtain ⟨rfl, rfl⟩ := hq
  have hP : gP D cy B z T (gI o 12 M I0) R H := hP
  refine lv_if_ne (tgt := 10) X.1 X.2.1 dX12_round_5 (by decide) (fun c5 => ?_) (fun c5 => ?_)
  · exact absurd (gt_1 c5) (g_noman hi hno)
  · refine lv_iconst (v := (-1)) X.1 X.2.1 dX12_round_8 (by decide) ?_
    exact g_iret M X hr hlk hK hP hS dX12_round_9 ⟨rfl, rfl⟩

set_option maxHeartbeats 4000000 in
set_option maxRecDepth 100000 in
/-- c_round_b -/
theorem c_round_b (hM : gMod o T R) (hi : mInv M σ fl ti sh K τ ms) {μ : Nat} (hμn : μ < σ 38) {ld : Int32} (hbad : ¬ (1 ≤ ld ∧ ld ≤ 20)) : Met l yX12_round wsX12_round ({ frames := 2, cells := 0, slots := 0, locals := 43 }) (mPre s0 D cy B o z T R I0 M [.int (nI μ), .int ld]) (mQi D cy B o z T R I0 (fun r u => r = -2 ∧ M = u)) 0 0 (gA B) := by
  refine g_met (maxL := 3) (ret := (some .int)) (by decide) rfl (Nat.le_of_ble_eq_true rfl) (fun p e s m args below meth c ls X hr hlk hnm hK hP hC hS hl => ?_)
  have hl : lv_has ls 3 [(0, .ref o), (1, .int (nI μ)), (2, .int ld)] := hl
  have hP : gP D cy B z T (gI o 12 M I0) R s.heap := hP
  have hB : B ≤ s.heap.size := by rw [hP.1]; exact hP.2.1
  have hin : ∀ w ∈ wsX120, w ∈ wsX12_round := fun _ h => List.mem_cons_of_mem _ (List.mem_append_right _ h)
  have k9 : Cond.fieldLink RX12 9 "BarrowPlankModel" "s" "[I" ∈ wsX12_round := by decide +kernel
  have k187 : Cond.fieldLink RX12 187 "BarrowPlankModel" "seconds" "I" ∈ wsX12_round := by decide +kernel
  have hσ := hi.1
  have hs := hi.2.1
  have hb := hi.2.2.1
  have hca := hi.2.2.2
  refine lv_aload_n X.1 X.2.1 dX12_round_0 rfl (lv_at hl 0 rfl) ?_
  refine lv_iload_n X.1 X.2.1 dX12_round_1 rfl (lv_at hl 1 rfl) ?_
  refine g_run_i (g_runV (k := 14) [.int (nI μ)] X hK hP hS hC hB (c_isMan hM _ (nI μ)) (cwV 1 X.2.2.2.2 gX12_round_X12_isMan rfl rfl rfl (by decide +kernel) ⟨Nat.le_of_ble_eq_true rfl, Nat.le_of_ble_eq_true rfl⟩) (hM.1 0 _ rfl) rfl rfl hl.1 rfl (Nat.le_of_ble_eq_true rfl) dX12_round_2 (by exact ⟨Nat.zero_le _, Nat.zero_le _⟩)) hS (fun r u H locs hq hP hS => ?_)
  obtain ⟨rfl, rfl⟩ := hq
  have hP : gP D cy B z T (gI o 12 M I0) R H := hP
  refine lv_if_ne (tgt := 10) X.1 X.2.1 dX12_round_5 (by decide) (fun c5 => ?_) (fun c5 => ?_)
  · refine lv_iload_n X.1 X.2.1 dX12_round_10 rfl (lv_at hl 2 rfl) ?_
    refine g_run_i (g_runS [.int ld] X hK hP hS hC hB (c_isLoad _ ld) (va_cwS 1 X.2.2.2.2 gX12_round_X12_isLoad rfl rfl rfl (by decide +kernel) ⟨Nat.le_of_ble_eq_true rfl, Nat.le_of_ble_eq_true rfl⟩) rfl hl.1 rfl (Nat.le_of_ble_eq_true rfl) dX12_round_11 (by exact ⟨Nat.zero_le _, Nat.zero_le _⟩)) hS (fun r u H locs hq hP hS => ?_)
    obtain ⟨rfl, rfl⟩ := hq
    have hP : gP D cy B z T (gI o 12 M I0) R H := hP
    refine lv_if_ne (tgt := 20) X.1 X.2.1 dX12_round_14 (by decide) (fun c14 => ?_) (fun c14 => ?_)
    · exact absurd (gt_1 c14) hbad
    · refine lv_bipush (v := (-2)) X.1 X.2.1 dX12_round_17 (by decide) ?_
      exact g_iret M X hr hlk hK hP hS dX12_round_19 ⟨rfl, rfl⟩
  · exact absurd (g_man hi hμn) (gt_0 c5)

set_option maxHeartbeats 4000000 in
set_option maxRecDepth 100000 in
/-- c_round_s -/
theorem c_round_s (hM : gMod o T R) (hi : mInv M σ fl ti sh K τ ms) {μ : Nat} (hμn : μ < σ 38) {ld : Nat} (hl1 : 1 ≤ ld) (hld : ld ≤ 20) (h999 : σ 3 = 999) : Met l yX12_round wsX12_round ({ frames := 2, cells := 0, slots := 0, locals := 43 }) (mPre s0 D cy B o z T R I0 M [.int (nI μ), .int (nI ld)]) (mQi D cy B o z T R I0 (fun r u => r = -3 ∧ M = u)) 0 0 (gA B) := by
  refine g_met (maxL := 3) (ret := (some .int)) (by decide) rfl (Nat.le_of_ble_eq_true rfl) (fun p e s m args below meth c ls X hr hlk hnm hK hP hC hS hl => ?_)
  have hl : lv_has ls 3 [(0, .ref o), (1, .int (nI μ)), (2, .int (nI ld))] := hl
  have hP : gP D cy B z T (gI o 12 M I0) R s.heap := hP
  have hB : B ≤ s.heap.size := by rw [hP.1]; exact hP.2.1
  have hin : ∀ w ∈ wsX120, w ∈ wsX12_round := fun _ h => List.mem_cons_of_mem _ (List.mem_append_right _ h)
  have k9 : Cond.fieldLink RX12 9 "BarrowPlankModel" "s" "[I" ∈ wsX12_round := by decide +kernel
  have k187 : Cond.fieldLink RX12 187 "BarrowPlankModel" "seconds" "I" ∈ wsX12_round := by decide +kernel
  have hσ := hi.1
  have hs := hi.2.1
  have hb := hi.2.2.1
  have hca := hi.2.2.2
  refine lv_aload_n X.1 X.2.1 dX12_round_0 rfl (lv_at hl 0 rfl) ?_
  refine lv_iload_n X.1 X.2.1 dX12_round_1 rfl (lv_at hl 1 rfl) ?_
  refine g_run_i (g_runV (k := 14) [.int (nI μ)] X hK hP hS hC hB (c_isMan hM _ (nI μ)) (cwV 1 X.2.2.2.2 gX12_round_X12_isMan rfl rfl rfl (by decide +kernel) ⟨Nat.le_of_ble_eq_true rfl, Nat.le_of_ble_eq_true rfl⟩) (hM.1 0 _ rfl) rfl rfl hl.1 rfl (Nat.le_of_ble_eq_true rfl) dX12_round_2 (by exact ⟨Nat.zero_le _, Nat.zero_le _⟩)) hS (fun r u H locs hq hP hS => ?_)
  obtain ⟨rfl, rfl⟩ := hq
  have hP : gP D cy B z T (gI o 12 M I0) R H := hP
  refine lv_if_ne (tgt := 10) X.1 X.2.1 dX12_round_5 (by decide) (fun c5 => ?_) (fun c5 => ?_)
  · refine lv_iload_n X.1 X.2.1 dX12_round_10 rfl (lv_at hl 2 rfl) ?_
    refine g_run_i (g_runS [.int (nI ld)] X hK hP hS hC hB (c_isLoad _ (nI ld)) (va_cwS 1 X.2.2.2.2 gX12_round_X12_isLoad rfl rfl rfl (by decide +kernel) ⟨Nat.le_of_ble_eq_true rfl, Nat.le_of_ble_eq_true rfl⟩) rfl hl.1 rfl (Nat.le_of_ble_eq_true rfl) dX12_round_11 (by exact ⟨Nat.zero_le _, Nat.zero_le _⟩)) hS (fun r u H locs hq hP hS => ?_)
    obtain ⟨rfl, rfl⟩ := hq
    have hP : gP D cy B z T (gI o 12 M I0) R H := hP
    refine lv_if_ne (tgt := 20) X.1 X.2.1 dX12_round_14 (by decide) (fun c14 => ?_) (fun c14 => ?_)
    · refine lv_aload_n X.1 X.2.1 dX12_round_20 rfl (lv_at hl 0 rfl) ?_
      refine m_getr 1 1 X hK hP hM hin rfl (by decide) k9 rfl dX12_round_21 (by decide) ?_
      refine lv_iconst (v := 3) X.1 X.2.1 dX12_round_24 (by decide) ?_
      refine m_ald 1 3 883 X hK hP hM rfl (gIx_of (show (3 : Int32) = nI 3 from rfl) (by omega) (by omega)) dX12_round_25 (show M 1 3 = nI (σ 3) from (hσ 3 (by omega) (by omega))) ?_
      refine lv_sipush (v := 999) X.1 X.2.1 dX12_round_26 (by decide) ?_
      refine lv_icmp_ne (tgt := 35) X.1 X.2.1 dX12_round_29 (by decide) (fun c29 => ?_) (fun c29 => ?_)
      · exact absurd (by rw [h999]; rfl) c29
      · have n29 : σ 3 = 999 := gq_eq c29 (Eq.refl (nI (σ 3))) (show (999 : Int32) = nI 999 from rfl) (by omega) (by omega)
        refine lv_bipush (v := (-3)) X.1 X.2.1 dX12_round_32 (by decide) ?_
        exact g_iret M X hr hlk hK hP hS dX12_round_34 ⟨rfl, rfl⟩
    · exact absurd (g_le (a := 1) (b := 20) (x := 1) (y := 20) rfl rfl (by omega) (by omega) (by omega)) (gt_0 c14)
  · exact absurd (g_man hi hμn) (gt_0 c5)

set_option maxHeartbeats 4000000 in
set_option maxRecDepth 100000 in
/-- c_round -/
theorem c_round (hM : gMod o T R) (hi : mInv M σ fl ti sh K τ ms) {μ : Nat} (hμn : μ < σ 38) {ld : Nat} (hl1 : 1 ≤ ld) (hld : ld ≤ 20) (h999 : ¬ σ 3 = 999) (h3 : σ 3 < 2 ^ 31) (hτ : τ + 40 < 2 ^ 30) (hK : K < 2 ^ 28) : Met l yX12_round wsX12_round ({ frames := 5, cells := 0, slots := 0, locals := 125 }) (mPre s0 D cy B o z T R I0 M [.int (nI μ), .int (nI ld)]) (mQi D cy B o z T R I0 (fun r u => r = nI (sSe fl sh σ μ ld) ∧ (∃ τ' ms', τ ≤ τ' ∧ τ' ≤ τ + 31 ∧ mInv u (sGo fl ti sh σ μ ld) fl ti sh (K + 300000) τ' ms') ∧ mSame gS M u)) 0 0 (gA B) := by
  refine g_met (maxL := 3) (ret := (some .int)) (by decide) rfl (Nat.le_of_ble_eq_true rfl) (fun p e s m args below meth c ls X hr hlk hnm hK hP hC hS hl => ?_)
  have hl : lv_has ls 3 [(0, .ref o), (1, .int (nI μ)), (2, .int (nI ld))] := hl
  have hP : gP D cy B z T (gI o 12 M I0) R s.heap := hP
  have hB : B ≤ s.heap.size := by rw [hP.1]; exact hP.2.1
  have hin : ∀ w ∈ wsX120, w ∈ wsX12_round := fun _ h => List.mem_cons_of_mem _ (List.mem_append_right _ h)
  have k9 : Cond.fieldLink RX12 9 "BarrowPlankModel" "s" "[I" ∈ wsX12_round := by decide +kernel
  have k187 : Cond.fieldLink RX12 187 "BarrowPlankModel" "seconds" "I" ∈ wsX12_round := by decide +kernel
  have hσ := hi.1
  have hs := hi.2.1
  have hb := hi.2.2.1
  have hca := hi.2.2.2
  have hμ : μ < 4 := Nat.lt_of_lt_of_le hμn hi.2.2.1.2.2.2.2.1
  have h38 := hμn
  refine lv_aload_n X.1 X.2.1 dX12_round_0 rfl (lv_at hl 0 rfl) ?_
  refine lv_iload_n X.1 X.2.1 dX12_round_1 rfl (lv_at hl 1 rfl) ?_
  refine g_run_i (g_runV (k := 14) [.int (nI μ)] X hK hP hS hC hB (c_isMan hM _ (nI μ)) (cwV 1 X.2.2.2.2 gX12_round_X12_isMan rfl rfl rfl (by decide +kernel) ⟨Nat.le_of_ble_eq_true rfl, Nat.le_of_ble_eq_true rfl⟩) (hM.1 0 _ rfl) rfl rfl hl.1 rfl (Nat.le_of_ble_eq_true rfl) dX12_round_2 (by exact ⟨Nat.zero_le _, Nat.zero_le _⟩)) hS (fun r u H locs hq hP hS => ?_)
  obtain ⟨rfl, rfl⟩ := hq
  have hP : gP D cy B z T (gI o 12 M I0) R H := hP
  refine lv_if_ne (tgt := 10) X.1 X.2.1 dX12_round_5 (by decide) (fun c5 => ?_) (fun c5 => ?_)
  · refine lv_iload_n X.1 X.2.1 dX12_round_10 rfl (lv_at hl 2 rfl) ?_
    refine g_run_i (g_runS [.int (nI ld)] X hK hP hS hC hB (c_isLoad _ (nI ld)) (va_cwS 1 X.2.2.2.2 gX12_round_X12_isLoad rfl rfl rfl (by decide +kernel) ⟨Nat.le_of_ble_eq_true rfl, Nat.le_of_ble_eq_true rfl⟩) rfl hl.1 rfl (Nat.le_of_ble_eq_true rfl) dX12_round_11 (by exact ⟨Nat.zero_le _, Nat.zero_le _⟩)) hS (fun r u H locs hq hP hS => ?_)
    obtain ⟨rfl, rfl⟩ := hq
    have hP : gP D cy B z T (gI o 12 M I0) R H := hP
    refine lv_if_ne (tgt := 20) X.1 X.2.1 dX12_round_14 (by decide) (fun c14 => ?_) (fun c14 => ?_)
    · refine lv_aload_n X.1 X.2.1 dX12_round_20 rfl (lv_at hl 0 rfl) ?_
      refine m_getr 1 1 X hK hP hM hin rfl (by decide) k9 rfl dX12_round_21 (by decide) ?_
      refine lv_iconst (v := 3) X.1 X.2.1 dX12_round_24 (by decide) ?_
      refine m_ald 1 3 883 X hK hP hM rfl (gIx_of (show (3 : Int32) = nI 3 from rfl) (by omega) (by omega)) dX12_round_25 (show M 1 3 = nI (σ 3) from (hσ 3 (by omega) (by omega))) ?_
      refine lv_sipush (v := 999) X.1 X.2.1 dX12_round_26 (by decide) ?_
      refine lv_icmp_ne (tgt := 35) X.1 X.2.1 dX12_round_29 (by decide) (fun c29 => ?_) (fun c29 => ?_)
      · have n29 : ¬ σ 3 = 999 := gq_ne c29 (Eq.refl (nI (σ 3))) (show (999 : Int32) = nI 999 from rfl) (by omega) (by omega)
        refine lv_aload_n X.1 X.2.1 dX12_round_35 rfl (lv_at hl 0 rfl) ?_
        refine lv_iload_n X.1 X.2.1 dX12_round_36 rfl (lv_at hl 1 rfl) ?_
        refine lv_iload_n X.1 X.2.1 dX12_round_37 rfl (lv_at hl 2 rfl) ?_
        refine g_run_v (g_runV (k := 14) [.int (nI μ), .int (nI ld)] X hK hP hS hC hB (c_goes hM hi.1 hi.2.1 hi.2.2.1 hμ (by first | exact h38 | omega | (rw [sIt_18 hμ _ _ (by omega)]; exact h38) | (rw [h18 38 (by omega)]; exact h38)) (by omega) hi.2.2.2 (by omega) (by omega)) (cwV 2 X.2.2.2.2 gX12_round_X12_goes rfl rfl rfl (by decide +kernel) ⟨Nat.le_of_ble_eq_true rfl, Nat.le_of_ble_eq_true rfl⟩) (hM.1 0 _ rfl) rfl rfl hl.1 rfl (Nat.le_of_ble_eq_true rfl) dX12_round_38 (by exact ⟨Nat.zero_le _, Nat.zero_le _⟩)) hS (fun u H locs hq hP hS => ?_)
        obtain ⟨h19N1, h20N1, h21N1, h22N1, hσN1, ⟨τN1, msN1, hτaN1, hτbN1, hcaN1⟩, hkN1⟩ := hq
        generalize u = N1 at hP h19N1 h20N1 h21N1 h22N1 hσN1 hcaN1 hkN1
        have hP : gP D cy B z T (gI o 12 N1 I0) R H := hP
        have hvN1 := inv_goes hi hμ hσN1 hcaN1 hkN1
        refine lv_aload_n X.1 X.2.1 dX12_round_41 rfl (lv_at hl 0 rfl) ?_
        refine m_geti 21 X hK hP hM hin rfl (by decide) k187 rfl dX12_round_42 (show N1 0 21 = nI (sSe fl sh σ μ ld) from h21N1) ?_
        exact g_iret N1 X hr hlk hK hP hS dX12_round_45 ⟨rfl, ⟨τN1, msN1, by omega, by omega, hvN1⟩, hkN1⟩
      · exact absurd (gq_eq c29 (Eq.refl (nI (σ 3))) (show (999 : Int32) = nI 999 from rfl) (by omega) (by omega)) h999
    · exact absurd (g_le (a := 1) (b := 20) (x := 1) (y := 20) rfl rfl (by omega) (by omega) (by omega)) (gt_0 c14)
  · exact absurd (g_man hi hμn) (gt_0 c5)

set_option maxHeartbeats 4000000 in
set_option maxRecDepth 100000 in
/-- c_rest_n -/
theorem c_rest_n (hM : gMod o T R) (hi : mInv M σ fl ti sh K τ ms) {v : Int32} (hno : ¬ (0 ≤ v ∧ v ≤ nI (σ 38) - 1)) (n : Int32) : Met l yX12_rest wsX12_rest ({ frames := 2, cells := 0, slots := 0, locals := 43 }) (mPre s0 D cy B o z T R I0 M [.int v, .int n]) (mQi D cy B o z T R I0 (fun r u => r = -1 ∧ M = u)) 0 0 (gA B) := by
  refine g_met (maxL := 3) (ret := (some .int)) (by decide) rfl (Nat.le_of_ble_eq_true rfl) (fun p e s m args below meth c ls X hr hlk hnm hK hP hC hS hl => ?_)
  have hl : lv_has ls 3 [(0, .ref o), (1, .int v), (2, .int n)] := hl
  have hP : gP D cy B z T (gI o 12 M I0) R s.heap := hP
  have hB : B ≤ s.heap.size := by rw [hP.1]; exact hP.2.1
  have hin : ∀ w ∈ wsX120, w ∈ wsX12_rest := fun _ h => List.mem_cons_of_mem _ (List.mem_append_right _ h)
  have k9 : Cond.fieldLink RX12 9 "BarrowPlankModel" "s" "[I" ∈ wsX12_rest := by decide +kernel
  have hσ := hi.1
  have hs := hi.2.1
  have hb := hi.2.2.1
  have hca := hi.2.2.2
  refine lv_aload_n X.1 X.2.1 dX12_rest_0 rfl (lv_at hl 0 rfl) ?_
  refine lv_iload_n X.1 X.2.1 dX12_rest_1 rfl (lv_at hl 1 rfl) ?_
  refine g_run_i (g_runV (k := 14) [.int v] X hK hP hS hC hB (c_isMan hM _ v) (cwV 1 X.2.2.2.2 gX12_rest_X12_isMan rfl rfl rfl (by decide +kernel) ⟨Nat.le_of_ble_eq_true rfl, Nat.le_of_ble_eq_true rfl⟩) (hM.1 0 _ rfl) rfl rfl hl.1 rfl (Nat.le_of_ble_eq_true rfl) dX12_rest_2 (by exact ⟨Nat.zero_le _, Nat.zero_le _⟩)) hS (fun r u H locs hq hP hS => ?_)
  obtain ⟨rfl, rfl⟩ := hq
  have hP : gP D cy B z T (gI o 12 M I0) R H := hP
  refine lv_if_ne (tgt := 10) X.1 X.2.1 dX12_rest_5 (by decide) (fun c5 => ?_) (fun c5 => ?_)
  · exact absurd (gt_1 c5) (g_noman hi hno)
  · refine lv_iconst (v := (-1)) X.1 X.2.1 dX12_rest_8 (by decide) ?_
    exact g_iret M X hr hlk hK hP hS dX12_rest_9 ⟨rfl, rfl⟩

set_option maxHeartbeats 4000000 in
set_option maxRecDepth 100000 in
/-- c_rest_b -/
theorem c_rest_b (hM : gMod o T R) (hi : mInv M σ fl ti sh K τ ms) {μ : Nat} (hμn : μ < σ 38) {n : Int32} (hbad : ¬ (0 ≤ n ∧ n ≤ 99)) : Met l yX12_rest wsX12_rest ({ frames := 2, cells := 0, slots := 0, locals := 43 }) (mPre s0 D cy B o z T R I0 M [.int (nI μ), .int n]) (mQi D cy B o z T R I0 (fun r u => r = -2 ∧ M = u)) 0 0 (gA B) := by
  refine g_met (maxL := 3) (ret := (some .int)) (by decide) rfl (Nat.le_of_ble_eq_true rfl) (fun p e s m args below meth c ls X hr hlk hnm hK hP hC hS hl => ?_)
  have hl : lv_has ls 3 [(0, .ref o), (1, .int (nI μ)), (2, .int n)] := hl
  have hP : gP D cy B z T (gI o 12 M I0) R s.heap := hP
  have hB : B ≤ s.heap.size := by rw [hP.1]; exact hP.2.1
  have hin : ∀ w ∈ wsX120, w ∈ wsX12_rest := fun _ h => List.mem_cons_of_mem _ (List.mem_append_right _ h)
  have k9 : Cond.fieldLink RX12 9 "BarrowPlankModel" "s" "[I" ∈ wsX12_rest := by decide +kernel
  have hσ := hi.1
  have hs := hi.2.1
  have hb := hi.2.2.1
  have hca := hi.2.2.2
  refine lv_aload_n X.1 X.2.1 dX12_rest_0 rfl (lv_at hl 0 rfl) ?_
  refine lv_iload_n X.1 X.2.1 dX12_rest_1 rfl (lv_at hl 1 rfl) ?_
  refine g_run_i (g_runV (k := 14) [.int (nI μ)] X hK hP hS hC hB (c_isMan hM _ (nI μ)) (cwV 1 X.2.2.2.2 gX12_rest_X12_isMan rfl rfl rfl (by decide +kernel) ⟨Nat.le_of_ble_eq_true rfl, Nat.le_of_ble_eq_true rfl⟩) (hM.1 0 _ rfl) rfl rfl hl.1 rfl (Nat.le_of_ble_eq_true rfl) dX12_rest_2 (by exact ⟨Nat.zero_le _, Nat.zero_le _⟩)) hS (fun r u H locs hq hP hS => ?_)
  obtain ⟨rfl, rfl⟩ := hq
  have hP : gP D cy B z T (gI o 12 M I0) R H := hP
  refine lv_if_ne (tgt := 10) X.1 X.2.1 dX12_rest_5 (by decide) (fun c5 => ?_) (fun c5 => ?_)
  · refine lv_iload_n X.1 X.2.1 dX12_rest_10 rfl (lv_at hl 2 rfl) ?_
    refine lv_iconst (v := 0) X.1 X.2.1 dX12_rest_11 (by decide) ?_
    refine lv_bipush (v := 99) X.1 X.2.1 dX12_rest_12 (by decide) ?_
    refine g_run_i (g_runS [.int n, .int 0, .int 99] X hK hP hS hC hB (c_in _ n 0 99) (va_cwS 3 X.2.2.2.2 gX12_rest_X12_in rfl rfl rfl (by decide +kernel) ⟨Nat.le_of_ble_eq_true rfl, Nat.le_of_ble_eq_true rfl⟩) rfl hl.1 rfl (Nat.le_of_ble_eq_true rfl) dX12_rest_14 (by exact ⟨Nat.zero_le _, Nat.zero_le _⟩)) hS (fun r u H locs hq hP hS => ?_)
    obtain ⟨rfl, rfl⟩ := hq
    have hP : gP D cy B z T (gI o 12 M I0) R H := hP
    refine lv_if_ne (tgt := 23) X.1 X.2.1 dX12_rest_17 (by decide) (fun c17 => ?_) (fun c17 => ?_)
    · exact absurd (gt_1 c17) hbad
    · refine lv_bipush (v := (-2)) X.1 X.2.1 dX12_rest_20 (by decide) ?_
      exact g_iret M X hr hlk hK hP hS dX12_rest_22 ⟨rfl, rfl⟩
  · exact absurd (g_man hi hμn) (gt_0 c5)

set_option maxHeartbeats 4000000 in
set_option maxRecDepth 100000 in
/-- c_rest -/
theorem c_rest (hM : gMod o T R) (hi : mInv M σ fl ti sh K τ ms) {μ : Nat} (hμn : μ < σ 38) {n : Nat} (hn : n ≤ 99) : Met l yX12_rest wsX12_rest ({ frames := 2, cells := 0, slots := 0, locals := 43 }) (mPre s0 D cy B o z T R I0 M [.int (nI μ), .int (nI n)]) (mQi D cy B o z T R I0 (fun r u => r = nI (σ (4 + μ) - n) ∧ u = g2 M 1 (4 + μ) (nI (σ (4 + μ) - n)))) 0 0 (gA B) := by
  refine g_met (maxL := 3) (ret := (some .int)) (by decide) rfl (Nat.le_of_ble_eq_true rfl) (fun p e s m args below meth c ls X hr hlk hnm hK hP hC hS hl => ?_)
  have hl : lv_has ls 3 [(0, .ref o), (1, .int (nI μ)), (2, .int (nI n))] := hl
  have hP : gP D cy B z T (gI o 12 M I0) R s.heap := hP
  have hB : B ≤ s.heap.size := by rw [hP.1]; exact hP.2.1
  have hin : ∀ w ∈ wsX120, w ∈ wsX12_rest := fun _ h => List.mem_cons_of_mem _ (List.mem_append_right _ h)
  have k9 : Cond.fieldLink RX12 9 "BarrowPlankModel" "s" "[I" ∈ wsX12_rest := by decide +kernel
  have hσ := hi.1
  have hs := hi.2.1
  have hb := hi.2.2.1
  have hca := hi.2.2.2
  have hμ : μ < 4 := Nat.lt_of_lt_of_le hμn hi.2.2.1.2.2.2.2.1
  have h38 := hμn
  have b4 : σ (4 + μ) ≤ 99 := hb.2.2.1 μ hμ
  refine lv_aload_n X.1 X.2.1 dX12_rest_0 rfl (lv_at hl 0 rfl) ?_
  refine lv_iload_n X.1 X.2.1 dX12_rest_1 rfl (lv_at hl 1 rfl) ?_
  refine g_run_i (g_runV (k := 14) [.int (nI μ)] X hK hP hS hC hB (c_isMan hM _ (nI μ)) (cwV 1 X.2.2.2.2 gX12_rest_X12_isMan rfl rfl rfl (by decide +kernel) ⟨Nat.le_of_ble_eq_true rfl, Nat.le_of_ble_eq_true rfl⟩) (hM.1 0 _ rfl) rfl rfl hl.1 rfl (Nat.le_of_ble_eq_true rfl) dX12_rest_2 (by exact ⟨Nat.zero_le _, Nat.zero_le _⟩)) hS (fun r u H locs hq hP hS => ?_)
  obtain ⟨rfl, rfl⟩ := hq
  have hP : gP D cy B z T (gI o 12 M I0) R H := hP
  refine lv_if_ne (tgt := 10) X.1 X.2.1 dX12_rest_5 (by decide) (fun c5 => ?_) (fun c5 => ?_)
  · refine lv_iload_n X.1 X.2.1 dX12_rest_10 rfl (lv_at hl 2 rfl) ?_
    refine lv_iconst (v := 0) X.1 X.2.1 dX12_rest_11 (by decide) ?_
    refine lv_bipush (v := 99) X.1 X.2.1 dX12_rest_12 (by decide) ?_
    refine g_run_i (g_runS [.int (nI n), .int 0, .int 99] X hK hP hS hC hB (c_in _ (nI n) 0 99) (va_cwS 3 X.2.2.2.2 gX12_rest_X12_in rfl rfl rfl (by decide +kernel) ⟨Nat.le_of_ble_eq_true rfl, Nat.le_of_ble_eq_true rfl⟩) rfl hl.1 rfl (Nat.le_of_ble_eq_true rfl) dX12_rest_14 (by exact ⟨Nat.zero_le _, Nat.zero_le _⟩)) hS (fun r u H locs hq hP hS => ?_)
    obtain ⟨rfl, rfl⟩ := hq
    have hP : gP D cy B z T (gI o 12 M I0) R H := hP
    refine lv_if_ne (tgt := 23) X.1 X.2.1 dX12_rest_17 (by decide) (fun c17 => ?_) (fun c17 => ?_)
    · refine lv_aload_n X.1 X.2.1 dX12_rest_23 rfl (lv_at hl 0 rfl) ?_
      refine m_getr 1 1 X hK hP hM hin rfl (by decide) k9 rfl dX12_rest_24 (by decide) ?_
      refine lv_iconst (v := 4) X.1 X.2.1 dX12_rest_27 (by decide) ?_
      refine lv_iload_n X.1 X.2.1 dX12_rest_28 rfl (lv_at hl 1 rfl) ?_
      refine lv_iadd X.1 X.2.1 dX12_rest_29 ?_
      refine lv_aload_n X.1 X.2.1 dX12_rest_30 rfl (lv_at hl 0 rfl) ?_
      refine m_getr 1 1 X hK hP hM hin rfl (by decide) k9 rfl dX12_rest_31 (by decide) ?_
      refine lv_iconst (v := 4) X.1 X.2.1 dX12_rest_34 (by decide) ?_
      refine lv_iload_n X.1 X.2.1 dX12_rest_35 rfl (lv_at hl 1 rfl) ?_
      refine lv_iadd X.1 X.2.1 dX12_rest_36 ?_
      refine m_ald 1 (4 + μ) 883 X hK hP hM rfl (gIx_of (gn_add (show (4 : Int32) = nI 4 from rfl) (Eq.refl (nI μ))) (by omega) (by omega)) dX12_rest_37 (show M 1 (4 + μ) = nI (σ (4 + μ)) from (hσ (4 + μ) (by omega) (by omega))) ?_
      refine lv_iload_n X.1 X.2.1 dX12_rest_38 rfl (lv_at hl 2 rfl) ?_
      refine lv_icmp_ge (tgt := 46) X.1 X.2.1 dX12_rest_39 (by decide) (fun c39 => ?_) (fun c39 => ?_)
      · have n39 : n ≤ σ (4 + μ) := gq_le c39 (Eq.refl (nI n)) (Eq.refl (nI (σ (4 + μ)))) (by omega) (by omega)
        refine lv_aload_n X.1 X.2.1 dX12_rest_46 rfl (lv_at hl 0 rfl) ?_
        refine m_getr 1 1 X hK hP hM hin rfl (by decide) k9 rfl dX12_rest_47 (by decide) ?_
        refine lv_iconst (v := 4) X.1 X.2.1 dX12_rest_50 (by decide) ?_
        refine lv_iload_n X.1 X.2.1 dX12_rest_51 rfl (lv_at hl 1 rfl) ?_
        refine lv_iadd X.1 X.2.1 dX12_rest_52 ?_
        refine m_ald 1 (4 + μ) 883 X hK hP hM rfl (gIx_of (gn_add (show (4 : Int32) = nI 4 from rfl) (Eq.refl (nI μ))) (by omega) (by omega)) dX12_rest_53 (show M 1 (4 + μ) = nI (σ (4 + μ)) from (hσ (4 + μ) (by omega) (by omega))) ?_
        refine lv_iload_n X.1 X.2.1 dX12_rest_54 rfl (lv_at hl 2 rfl) ?_
        refine lv_isub X.1 X.2.1 dX12_rest_55 ?_
        refine m_ast 1 (4 + μ) 883 X hK hP hS hM rfl (gIx_of (gn_add (show (4 : Int32) = nI 4 from rfl) (Eq.refl (nI μ))) (by omega) (by omega)) dX12_rest_56 (fun H locs hP hS => ?_)
        generalize eM1 : g2 M 1 (4 + μ) ((nI (σ (4 + μ))) - (nI n)) = M1 at hP
        refine lv_aload_n X.1 X.2.1 dX12_rest_57 rfl (lv_at hl 0 rfl) ?_
        refine m_getr 1 1 X hK hP hM hin rfl (by decide) k9 rfl dX12_rest_58 (by decide) ?_
        refine lv_iconst (v := 4) X.1 X.2.1 dX12_rest_61 (by decide) ?_
        refine lv_iload_n X.1 X.2.1 dX12_rest_62 rfl (lv_at hl 1 rfl) ?_
        refine lv_iadd X.1 X.2.1 dX12_rest_63 ?_
        refine m_ald 1 (4 + μ) 883 X hK hP hM rfl (gIx_of (gn_add (show (4 : Int32) = nI 4 from rfl) (Eq.refl (nI μ))) (by omega) (by omega)) dX12_rest_64 (show M1 1 (4 + μ) = (nI (σ (4 + μ))) - (nI n) from (gs_same eM1)) ?_
        have hval : (nI (σ (4 + μ))) - (nI n) = nI (σ (4 + μ) - n) := ((gn_sub (Eq.refl (nI (σ (4 + μ)))) (Eq.refl (nI n)) (by omega))).trans (congrArg nI (by omega))
        exact g_iret M1 X hr hlk hK hP hS dX12_rest_65 ⟨hval, (by rw [← eM1, hval])⟩
      · have n39 : σ (4 + μ) < n := gq_nle c39 (Eq.refl (nI n)) (Eq.refl (nI (σ (4 + μ)))) (by omega) (by omega)
        refine lv_iconst (v := 0) X.1 X.2.1 dX12_rest_42 (by decide) ?_
        refine lv_goto (tgt := 56) X.1 X.2.1 dX12_rest_43 (by decide) ?_
        refine m_ast 1 (4 + μ) 883 X hK hP hS hM rfl (gIx_of (gn_add (show (4 : Int32) = nI 4 from rfl) (Eq.refl (nI μ))) (by omega) (by omega)) dX12_rest_56 (fun H locs hP hS => ?_)
        generalize eM2 : g2 M 1 (4 + μ) 0 = M2 at hP
        refine lv_aload_n X.1 X.2.1 dX12_rest_57 rfl (lv_at hl 0 rfl) ?_
        refine m_getr 1 1 X hK hP hM hin rfl (by decide) k9 rfl dX12_rest_58 (by decide) ?_
        refine lv_iconst (v := 4) X.1 X.2.1 dX12_rest_61 (by decide) ?_
        refine lv_iload_n X.1 X.2.1 dX12_rest_62 rfl (lv_at hl 1 rfl) ?_
        refine lv_iadd X.1 X.2.1 dX12_rest_63 ?_
        refine m_ald 1 (4 + μ) 883 X hK hP hM rfl (gIx_of (gn_add (show (4 : Int32) = nI 4 from rfl) (Eq.refl (nI μ))) (by omega) (by omega)) dX12_rest_64 (show M2 1 (4 + μ) = 0 from (gs_same eM2)) ?_
        have hval : 0 = nI (σ (4 + μ) - n) := ((show (0 : Int32) = nI 0 from rfl)).trans (congrArg nI (by omega))
        exact g_iret M2 X hr hlk hK hP hS dX12_rest_65 ⟨hval, (by rw [← eM2, hval])⟩
    · exact absurd (g_le (a := 0) (b := 99) (x := 0) (y := 99) rfl rfl (by omega) (by omega) (by omega)) (gt_0 c17)
  · exact absurd (g_man hi hμn) (gt_0 c5)

set_option maxHeartbeats 4000000 in
set_option maxRecDepth 100000 in
/-- c_yard_n -/
theorem c_yard_n (hM : gMod o T R) (hi : mInv M σ fl ti sh K τ ms) {a b n : Int32} (hno : ¬ ((0 ≤ a ∧ a ≤ 9) ∧ (0 ≤ b ∧ b ≤ 2))) : Met l yX12_yard wsX12_yard ({ frames := 2, cells := 0, slots := 0, locals := 42 }) (mPre s0 D cy B o z T R I0 M [.int a, .int b, .int n]) (mQi D cy B o z T R I0 (fun r u => r = -1 ∧ M = u)) 0 0 (gA B) := by
  refine g_met (maxL := 6) (ret := (some .int)) (by decide) rfl (Nat.le_of_ble_eq_true rfl) (fun p e s m args below meth c ls X hr hlk hnm hK hP hC hS hl => ?_)
  have hl : lv_has ls 6 [(0, .ref o), (1, .int a), (2, .int b), (3, .int n)] := hl
  have hP : gP D cy B z T (gI o 12 M I0) R s.heap := hP
  have hB : B ≤ s.heap.size := by rw [hP.1]; exact hP.2.1
  have hin : ∀ w ∈ wsX120, w ∈ wsX12_yard := fun _ h => List.mem_cons_of_mem _ (List.mem_append_right _ h)
  have k9 : Cond.fieldLink RX12 9 "BarrowPlankModel" "s" "[I" ∈ wsX12_yard := by decide +kernel
  have k37 : Cond.fieldLink RX12 37 "BarrowPlankModel" "times" "I" ∈ wsX12_yard := by decide +kernel
  have hσ := hi.1
  have hs := hi.2.1
  have hb := hi.2.2.1
  have hca := hi.2.2.2
  refine lv_iload_n X.1 X.2.1 dX12_yard_0 rfl (lv_at hl 1 rfl) ?_
  refine g_run_i (g_runS [.int a] X hK hP hS hC hB (c_isYard _ a) (va_cwS 1 X.2.2.2.2 gX12_yard_X12_isYard rfl rfl rfl (by decide +kernel) ⟨Nat.le_of_ble_eq_true rfl, Nat.le_of_ble_eq_true rfl⟩) rfl hl.1 rfl (Nat.le_of_ble_eq_true rfl) dX12_yard_1 (by exact ⟨Nat.zero_le _, Nat.zero_le _⟩)) hS (fun r u H locs hq hP hS => ?_)
  obtain ⟨rfl, rfl⟩ := hq
  have hP : gP D cy B z T (gI o 12 M I0) R H := hP
  refine lv_if_eq (tgt := 16) X.1 X.2.1 dX12_yard_4 (by decide) (fun c4 => ?_) (fun c4 => ?_)
  · refine lv_iconst (v := (-1)) X.1 X.2.1 dX12_yard_16 (by decide) ?_
    exact g_iret M X hr hlk hK hP hS dX12_yard_17 ⟨rfl, rfl⟩
  · refine lv_iload_n X.1 X.2.1 dX12_yard_7 rfl (lv_at hl 2 rfl) ?_
    refine lv_iconst (v := 0) X.1 X.2.1 dX12_yard_8 (by decide) ?_
    refine lv_iconst (v := 2) X.1 X.2.1 dX12_yard_9 (by decide) ?_
    refine g_run_i (g_runS [.int b, .int 0, .int 2] X hK hP hS hC hB (c_in _ b 0 2) (va_cwS 3 X.2.2.2.2 gX12_yard_X12_in rfl rfl rfl (by decide +kernel) ⟨Nat.le_of_ble_eq_true rfl, Nat.le_of_ble_eq_true rfl⟩) rfl hl.1 rfl (Nat.le_of_ble_eq_true rfl) dX12_yard_10 (by exact ⟨Nat.zero_le _, Nat.zero_le _⟩)) hS (fun r u H locs hq hP hS => ?_)
    obtain ⟨rfl, rfl⟩ := hq
    have hP : gP D cy B z T (gI o 12 M I0) R H := hP
    refine lv_if_ne (tgt := 18) X.1 X.2.1 dX12_yard_13 (by decide) (fun c13 => ?_) (fun c13 => ?_)
    · exact absurd ⟨gt_1 c4, gt_1 c13⟩ hno
    · refine lv_iconst (v := (-1)) X.1 X.2.1 dX12_yard_16 (by decide) ?_
      exact g_iret M X hr hlk hK hP hS dX12_yard_17 ⟨rfl, rfl⟩

set_option maxHeartbeats 4000000 in
set_option maxRecDepth 100000 in
/-- c_yard_b -/
theorem c_yard_b (hM : gMod o T R) (hi : mInv M σ fl ti sh K τ ms) {a b : Nat} (ha : a < 10) (hb3 : b < 3) {n : Int32} (hbad : ¬ (0 ≤ n ∧ n ≤ 9)) : Met l yX12_yard wsX12_yard ({ frames := 2, cells := 0, slots := 0, locals := 42 }) (mPre s0 D cy B o z T R I0 M [.int (nI a), .int (nI b), .int n]) (mQi D cy B o z T R I0 (fun r u => r = -2 ∧ M = u)) 0 0 (gA B) := by
  refine g_met (maxL := 6) (ret := (some .int)) (by decide) rfl (Nat.le_of_ble_eq_true rfl) (fun p e s m args below meth c ls X hr hlk hnm hK hP hC hS hl => ?_)
  have hl : lv_has ls 6 [(0, .ref o), (1, .int (nI a)), (2, .int (nI b)), (3, .int n)] := hl
  have hP : gP D cy B z T (gI o 12 M I0) R s.heap := hP
  have hB : B ≤ s.heap.size := by rw [hP.1]; exact hP.2.1
  have hin : ∀ w ∈ wsX120, w ∈ wsX12_yard := fun _ h => List.mem_cons_of_mem _ (List.mem_append_right _ h)
  have k9 : Cond.fieldLink RX12 9 "BarrowPlankModel" "s" "[I" ∈ wsX12_yard := by decide +kernel
  have k37 : Cond.fieldLink RX12 37 "BarrowPlankModel" "times" "I" ∈ wsX12_yard := by decide +kernel
  have hσ := hi.1
  have hs := hi.2.1
  have hb := hi.2.2.1
  have hca := hi.2.2.2
  refine lv_iload_n X.1 X.2.1 dX12_yard_0 rfl (lv_at hl 1 rfl) ?_
  refine g_run_i (g_runS [.int (nI a)] X hK hP hS hC hB (c_isYard _ (nI a)) (va_cwS 1 X.2.2.2.2 gX12_yard_X12_isYard rfl rfl rfl (by decide +kernel) ⟨Nat.le_of_ble_eq_true rfl, Nat.le_of_ble_eq_true rfl⟩) rfl hl.1 rfl (Nat.le_of_ble_eq_true rfl) dX12_yard_1 (by exact ⟨Nat.zero_le _, Nat.zero_le _⟩)) hS (fun r u H locs hq hP hS => ?_)
  obtain ⟨rfl, rfl⟩ := hq
  have hP : gP D cy B z T (gI o 12 M I0) R H := hP
  refine lv_if_eq (tgt := 16) X.1 X.2.1 dX12_yard_4 (by decide) (fun c4 => ?_) (fun c4 => ?_)
  · exact absurd (g_le (a := 0) (b := 9) (x := 0) (y := 9) rfl rfl (by omega) (by omega) (by omega)) (gt_0 c4)
  · refine lv_iload_n X.1 X.2.1 dX12_yard_7 rfl (lv_at hl 2 rfl) ?_
    refine lv_iconst (v := 0) X.1 X.2.1 dX12_yard_8 (by decide) ?_
    refine lv_iconst (v := 2) X.1 X.2.1 dX12_yard_9 (by decide) ?_
    refine g_run_i (g_runS [.int (nI b), .int 0, .int 2] X hK hP hS hC hB (c_in _ (nI b) 0 2) (va_cwS 3 X.2.2.2.2 gX12_yard_X12_in rfl rfl rfl (by decide +kernel) ⟨Nat.le_of_ble_eq_true rfl, Nat.le_of_ble_eq_true rfl⟩) rfl hl.1 rfl (Nat.le_of_ble_eq_true rfl) dX12_yard_10 (by exact ⟨Nat.zero_le _, Nat.zero_le _⟩)) hS (fun r u H locs hq hP hS => ?_)
    obtain ⟨rfl, rfl⟩ := hq
    have hP : gP D cy B z T (gI o 12 M I0) R H := hP
    refine lv_if_ne (tgt := 18) X.1 X.2.1 dX12_yard_13 (by decide) (fun c13 => ?_) (fun c13 => ?_)
    · refine lv_iload_n X.1 X.2.1 dX12_yard_18 rfl (lv_at hl 3 rfl) ?_
      refine lv_iconst (v := 0) X.1 X.2.1 dX12_yard_19 (by decide) ?_
      refine lv_bipush (v := 9) X.1 X.2.1 dX12_yard_20 (by decide) ?_
      refine g_run_i (g_runS [.int n, .int 0, .int 9] X hK hP hS hC hB (c_in _ n 0 9) (va_cwS 3 X.2.2.2.2 gX12_yard_X12_in rfl rfl rfl (by decide +kernel) ⟨Nat.le_of_ble_eq_true rfl, Nat.le_of_ble_eq_true rfl⟩) rfl hl.1 rfl (Nat.le_of_ble_eq_true rfl) dX12_yard_22 (by exact ⟨Nat.zero_le _, Nat.zero_le _⟩)) hS (fun r u H locs hq hP hS => ?_)
      obtain ⟨rfl, rfl⟩ := hq
      have hP : gP D cy B z T (gI o 12 M I0) R H := hP
      refine lv_if_ne (tgt := 31) X.1 X.2.1 dX12_yard_25 (by decide) (fun c25 => ?_) (fun c25 => ?_)
      · exact absurd (gt_1 c25) hbad
      · refine lv_bipush (v := (-2)) X.1 X.2.1 dX12_yard_28 (by decide) ?_
        exact g_iret M X hr hlk hK hP hS dX12_yard_30 ⟨rfl, rfl⟩
    · exact absurd (g_le (a := 0) (b := 2) (x := 0) (y := 2) rfl rfl (by omega) (by omega) (by omega)) (gt_0 c13)

set_option maxHeartbeats 4000000 in
set_option maxRecDepth 100000 in
/-- c_yard -/
theorem c_yard (hM : gMod o T R) (hi : mInv M σ fl ti sh K τ ms) {a b n : Nat} (ha : a < 10) (hb3 : b < 3) (hn : n ≤ 9) : Met l yX12_yard wsX12_yard ({ frames := 2, cells := 0, slots := 0, locals := 42 }) (mPre s0 D cy B o z T R I0 M [.int (nI a), .int (nI b), .int (nI n)]) (mQi D cy B o z T R I0 (fun r u => r = nI (σ (8 + a + 10 * b)) ∧ u = g2 (g2 M 0 17 (M 0 17 + 1)) 1 (8 + a + 10 * b) (nI n))) 0 0 (gA B) := by
  refine g_met (maxL := 6) (ret := (some .int)) (by decide) rfl (Nat.le_of_ble_eq_true rfl) (fun p e s m args below meth c ls X hr hlk hnm hK hP hC hS hl => ?_)
  have hl : lv_has ls 6 [(0, .ref o), (1, .int (nI a)), (2, .int (nI b)), (3, .int (nI n))] := hl
  have hP : gP D cy B z T (gI o 12 M I0) R s.heap := hP
  have hB : B ≤ s.heap.size := by rw [hP.1]; exact hP.2.1
  have hin : ∀ w ∈ wsX120, w ∈ wsX12_yard := fun _ h => List.mem_cons_of_mem _ (List.mem_append_right _ h)
  have k9 : Cond.fieldLink RX12 9 "BarrowPlankModel" "s" "[I" ∈ wsX12_yard := by decide +kernel
  have k37 : Cond.fieldLink RX12 37 "BarrowPlankModel" "times" "I" ∈ wsX12_yard := by decide +kernel
  have hσ := hi.1
  have hs := hi.2.1
  have hb := hi.2.2.1
  have hca := hi.2.2.2
  refine lv_iload_n X.1 X.2.1 dX12_yard_0 rfl (lv_at hl 1 rfl) ?_
  refine g_run_i (g_runS [.int (nI a)] X hK hP hS hC hB (c_isYard _ (nI a)) (va_cwS 1 X.2.2.2.2 gX12_yard_X12_isYard rfl rfl rfl (by decide +kernel) ⟨Nat.le_of_ble_eq_true rfl, Nat.le_of_ble_eq_true rfl⟩) rfl hl.1 rfl (Nat.le_of_ble_eq_true rfl) dX12_yard_1 (by exact ⟨Nat.zero_le _, Nat.zero_le _⟩)) hS (fun r u H locs hq hP hS => ?_)
  obtain ⟨rfl, rfl⟩ := hq
  have hP : gP D cy B z T (gI o 12 M I0) R H := hP
  refine lv_if_eq (tgt := 16) X.1 X.2.1 dX12_yard_4 (by decide) (fun c4 => ?_) (fun c4 => ?_)
  · exact absurd (g_le (a := 0) (b := 9) (x := 0) (y := 9) rfl rfl (by omega) (by omega) (by omega)) (gt_0 c4)
  · refine lv_iload_n X.1 X.2.1 dX12_yard_7 rfl (lv_at hl 2 rfl) ?_
    refine lv_iconst (v := 0) X.1 X.2.1 dX12_yard_8 (by decide) ?_
    refine lv_iconst (v := 2) X.1 X.2.1 dX12_yard_9 (by decide) ?_
    refine g_run_i (g_runS [.int (nI b), .int 0, .int 2] X hK hP hS hC hB (c_in _ (nI b) 0 2) (va_cwS 3 X.2.2.2.2 gX12_yard_X12_in rfl rfl rfl (by decide +kernel) ⟨Nat.le_of_ble_eq_true rfl, Nat.le_of_ble_eq_true rfl⟩) rfl hl.1 rfl (Nat.le_of_ble_eq_true rfl) dX12_yard_10 (by exact ⟨Nat.zero_le _, Nat.zero_le _⟩)) hS (fun r u H locs hq hP hS => ?_)
    obtain ⟨rfl, rfl⟩ := hq
    have hP : gP D cy B z T (gI o 12 M I0) R H := hP
    refine lv_if_ne (tgt := 18) X.1 X.2.1 dX12_yard_13 (by decide) (fun c13 => ?_) (fun c13 => ?_)
    · refine lv_iload_n X.1 X.2.1 dX12_yard_18 rfl (lv_at hl 3 rfl) ?_
      refine lv_iconst (v := 0) X.1 X.2.1 dX12_yard_19 (by decide) ?_
      refine lv_bipush (v := 9) X.1 X.2.1 dX12_yard_20 (by decide) ?_
      refine g_run_i (g_runS [.int (nI n), .int 0, .int 9] X hK hP hS hC hB (c_in _ (nI n) 0 9) (va_cwS 3 X.2.2.2.2 gX12_yard_X12_in rfl rfl rfl (by decide +kernel) ⟨Nat.le_of_ble_eq_true rfl, Nat.le_of_ble_eq_true rfl⟩) rfl hl.1 rfl (Nat.le_of_ble_eq_true rfl) dX12_yard_22 (by exact ⟨Nat.zero_le _, Nat.zero_le _⟩)) hS (fun r u H locs hq hP hS => ?_)
      obtain ⟨rfl, rfl⟩ := hq
      have hP : gP D cy B z T (gI o 12 M I0) R H := hP
      refine lv_if_ne (tgt := 31) X.1 X.2.1 dX12_yard_25 (by decide) (fun c25 => ?_) (fun c25 => ?_)
      · refine lv_aload_n X.1 X.2.1 dX12_yard_31 rfl (lv_at hl 0 rfl) ?_
        refine lv_dup X.1 X.2.1 dX12_yard_32 rfl ?_
        refine m_geti 17 X hK hP hM hin rfl (by decide) k37 rfl dX12_yard_33 (show M 0 17 = M 0 17 from rfl) ?_
        refine lv_iconst (v := 1) X.1 X.2.1 dX12_yard_36 (by decide) ?_
        refine lv_iadd X.1 X.2.1 dX12_yard_37 ?_
        refine m_puti 17 X hK hP hS hM hin rfl (by decide) k37 rfl rfl rfl rfl dX12_yard_38 (fun H locs hP hS => ?_)
        generalize eM1 : g2 M 0 17 ((M 0 17) + 1) = M1 at hP
        refine lv_bipush (v := 8) X.1 X.2.1 dX12_yard_41 (by decide) ?_
        refine lv_bipush (v := 10) X.1 X.2.1 dX12_yard_43 (by decide) ?_
        refine lv_iload_n X.1 X.2.1 dX12_yard_45 rfl (lv_at hl 2 rfl) ?_
        refine lv_imul X.1 X.2.1 dX12_yard_46 ?_
        refine lv_iadd X.1 X.2.1 dX12_yard_47 ?_
        refine lv_iload_n X.1 X.2.1 dX12_yard_48 rfl (lv_at hl 1 rfl) ?_
        refine lv_iadd X.1 X.2.1 dX12_yard_49 ?_
        refine lv_istore (lv' := [(4, .int ((8 + (10 * (nI b))) + (nI a))), (0, .ref o), (1, .int (nI a)), (2, .int (nI b)), (3, .int (nI n))]) X.1 X.2.1 dX12_yard_50 hl (by decide) rfl (fun ls hl => ?_)
        refine lv_aload_n X.1 X.2.1 dX12_yard_52 rfl (lv_at hl 1 rfl) ?_
        refine m_getr 1 1 X hK hP hM hin rfl (by decide) k9 rfl dX12_yard_53 (by decide) ?_
        refine lv_iload X.1 X.2.1 dX12_yard_56 (lv_at hl 0 rfl) ?_
        refine m_ald 1 (8 + a + 10 * b) 883 X hK hP hM rfl (gIx_of (gn_eq (gn_add (gn_add (show (8 : Int32) = nI 8 from rfl) (gn_mul (show (10 : Int32) = nI 10 from rfl) (Eq.refl (nI b)))) (Eq.refl (nI a))) (by omega)) (by omega) (by omega)) dX12_yard_58 (show M1 1 (8 + a + 10 * b) = nI (σ (8 + a + 10 * b)) from (gs_ne eM1 (by omega) (hσ (8 + a + 10 * b) (by omega) (by omega)))) ?_
        refine lv_istore (lv' := [(5, .int (nI (σ (8 + a + 10 * b)))), (4, .int ((8 + (10 * (nI b))) + (nI a))), (0, .ref o), (1, .int (nI a)), (2, .int (nI b)), (3, .int (nI n))]) X.1 X.2.1 dX12_yard_59 hl (by decide) rfl (fun ls hl => ?_)
        refine lv_aload_n X.1 X.2.1 dX12_yard_61 rfl (lv_at hl 2 rfl) ?_
        refine m_getr 1 1 X hK hP hM hin rfl (by decide) k9 rfl dX12_yard_62 (by decide) ?_
        refine lv_iload X.1 X.2.1 dX12_yard_65 (lv_at hl 1 rfl) ?_
        refine lv_iload_n X.1 X.2.1 dX12_yard_67 rfl (lv_at hl 5 rfl) ?_
        refine m_ast 1 (8 + a + 10 * b) 883 X hK hP hS hM rfl (gIx_of (gn_eq (gn_add (gn_add (show (8 : Int32) = nI 8 from rfl) (gn_mul (show (10 : Int32) = nI 10 from rfl) (Eq.refl (nI b)))) (Eq.refl (nI a))) (by omega)) (by omega) (by omega)) dX12_yard_68 (fun H locs hP hS => ?_)
        generalize eM2 : g2 M1 1 (8 + a + 10 * b) (nI n) = M2 at hP
        refine lv_iload X.1 X.2.1 dX12_yard_69 (lv_at hl 0 rfl) ?_
        exact g_iret M2 X hr hlk hK hP hS dX12_yard_71 ⟨rfl, (by rw [← eM2, ← eM1])⟩
      · exact absurd (g_le (a := 0) (b := 9) (x := 0) (y := 9) rfl rfl (by omega) (by omega) (by omega)) (gt_0 c25)
    · exact absurd (g_le (a := 0) (b := 2) (x := 0) (y := 2) rfl rfl (by omega) (by omega) (by omega)) (gt_0 c13)

set_option maxHeartbeats 4000000 in
set_option maxRecDepth 100000 in
/-- c_at_n -/
theorem c_at_n (hM : gMod o T R) (hi : mInv M σ fl ti sh K τ ms) {a b : Int32} (hno : ¬ ((0 ≤ a ∧ a ≤ 9) ∧ (0 ≤ b ∧ b ≤ 2))) : Met l yX12_at wsX12_at ({ frames := 2, cells := 0, slots := 0, locals := 42 }) (mPre s0 D cy B o z T R I0 M [.int a, .int b]) (mQi D cy B o z T R I0 (fun r u => r = -1 ∧ M = u)) 0 0 (gA B) := by
  refine g_met (maxL := 3) (ret := (some .int)) (by decide) rfl (Nat.le_of_ble_eq_true rfl) (fun p e s m args below meth c ls X hr hlk hnm hK hP hC hS hl => ?_)
  have hl : lv_has ls 3 [(0, .ref o), (1, .int a), (2, .int b)] := hl
  have hP : gP D cy B z T (gI o 12 M I0) R s.heap := hP
  have hB : B ≤ s.heap.size := by rw [hP.1]; exact hP.2.1
  have hin : ∀ w ∈ wsX120, w ∈ wsX12_at := fun _ h => List.mem_cons_of_mem _ (List.mem_append_right _ h)
  have k9 : Cond.fieldLink RX12 9 "BarrowPlankModel" "s" "[I" ∈ wsX12_at := by decide +kernel
  have hσ := hi.1
  have hs := hi.2.1
  have hb := hi.2.2.1
  have hca := hi.2.2.2
  refine lv_iload_n X.1 X.2.1 dX12_at_0 rfl (lv_at hl 1 rfl) ?_
  refine g_run_i (g_runS [.int a] X hK hP hS hC hB (c_isYard _ a) (va_cwS 1 X.2.2.2.2 gX12_at_X12_isYard rfl rfl rfl (by decide +kernel) ⟨Nat.le_of_ble_eq_true rfl, Nat.le_of_ble_eq_true rfl⟩) rfl hl.1 rfl (Nat.le_of_ble_eq_true rfl) dX12_at_1 (by exact ⟨Nat.zero_le _, Nat.zero_le _⟩)) hS (fun r u H locs hq hP hS => ?_)
  obtain ⟨rfl, rfl⟩ := hq
  have hP : gP D cy B z T (gI o 12 M I0) R H := hP
  refine lv_if_eq (tgt := 33) X.1 X.2.1 dX12_at_4 (by decide) (fun c4 => ?_) (fun c4 => ?_)
  · refine lv_iconst (v := (-1)) X.1 X.2.1 dX12_at_33 (by decide) ?_
    exact g_iret M X hr hlk hK hP hS dX12_at_34 ⟨rfl, rfl⟩
  · refine lv_iload_n X.1 X.2.1 dX12_at_7 rfl (lv_at hl 2 rfl) ?_
    refine lv_iconst (v := 0) X.1 X.2.1 dX12_at_8 (by decide) ?_
    refine lv_iconst (v := 2) X.1 X.2.1 dX12_at_9 (by decide) ?_
    refine g_run_i (g_runS [.int b, .int 0, .int 2] X hK hP hS hC hB (c_in _ b 0 2) (va_cwS 3 X.2.2.2.2 gX12_at_X12_in rfl rfl rfl (by decide +kernel) ⟨Nat.le_of_ble_eq_true rfl, Nat.le_of_ble_eq_true rfl⟩) rfl hl.1 rfl (Nat.le_of_ble_eq_true rfl) dX12_at_10 (by exact ⟨Nat.zero_le _, Nat.zero_le _⟩)) hS (fun r u H locs hq hP hS => ?_)
    obtain ⟨rfl, rfl⟩ := hq
    have hP : gP D cy B z T (gI o 12 M I0) R H := hP
    refine lv_if_eq (tgt := 33) X.1 X.2.1 dX12_at_13 (by decide) (fun c13 => ?_) (fun c13 => ?_)
    · refine lv_iconst (v := (-1)) X.1 X.2.1 dX12_at_33 (by decide) ?_
      exact g_iret M X hr hlk hK hP hS dX12_at_34 ⟨rfl, rfl⟩
    · exact absurd ⟨gt_1 c4, gt_1 c13⟩ hno

set_option maxHeartbeats 4000000 in
set_option maxRecDepth 100000 in
/-- c_at -/
theorem c_at (hM : gMod o T R) (hi : mInv M σ fl ti sh K τ ms) {a b : Nat} (ha : a < 10) (hb3 : b < 3) : Met l yX12_at wsX12_at ({ frames := 2, cells := 0, slots := 0, locals := 42 }) (mPre s0 D cy B o z T R I0 M [.int (nI a), .int (nI b)]) (mQi D cy B o z T R I0 (fun r u => r = nI (σ (8 + a + 10 * b)) ∧ M = u)) 0 0 (gA B) := by
  refine g_met (maxL := 3) (ret := (some .int)) (by decide) rfl (Nat.le_of_ble_eq_true rfl) (fun p e s m args below meth c ls X hr hlk hnm hK hP hC hS hl => ?_)
  have hl : lv_has ls 3 [(0, .ref o), (1, .int (nI a)), (2, .int (nI b))] := hl
  have hP : gP D cy B z T (gI o 12 M I0) R s.heap := hP
  have hB : B ≤ s.heap.size := by rw [hP.1]; exact hP.2.1
  have hin : ∀ w ∈ wsX120, w ∈ wsX12_at := fun _ h => List.mem_cons_of_mem _ (List.mem_append_right _ h)
  have k9 : Cond.fieldLink RX12 9 "BarrowPlankModel" "s" "[I" ∈ wsX12_at := by decide +kernel
  have hσ := hi.1
  have hs := hi.2.1
  have hb := hi.2.2.1
  have hca := hi.2.2.2
  refine lv_iload_n X.1 X.2.1 dX12_at_0 rfl (lv_at hl 1 rfl) ?_
  refine g_run_i (g_runS [.int (nI a)] X hK hP hS hC hB (c_isYard _ (nI a)) (va_cwS 1 X.2.2.2.2 gX12_at_X12_isYard rfl rfl rfl (by decide +kernel) ⟨Nat.le_of_ble_eq_true rfl, Nat.le_of_ble_eq_true rfl⟩) rfl hl.1 rfl (Nat.le_of_ble_eq_true rfl) dX12_at_1 (by exact ⟨Nat.zero_le _, Nat.zero_le _⟩)) hS (fun r u H locs hq hP hS => ?_)
  obtain ⟨rfl, rfl⟩ := hq
  have hP : gP D cy B z T (gI o 12 M I0) R H := hP
  refine lv_if_eq (tgt := 33) X.1 X.2.1 dX12_at_4 (by decide) (fun c4 => ?_) (fun c4 => ?_)
  · exact absurd (g_le (a := 0) (b := 9) (x := 0) (y := 9) rfl rfl (by omega) (by omega) (by omega)) (gt_0 c4)
  · refine lv_iload_n X.1 X.2.1 dX12_at_7 rfl (lv_at hl 2 rfl) ?_
    refine lv_iconst (v := 0) X.1 X.2.1 dX12_at_8 (by decide) ?_
    refine lv_iconst (v := 2) X.1 X.2.1 dX12_at_9 (by decide) ?_
    refine g_run_i (g_runS [.int (nI b), .int 0, .int 2] X hK hP hS hC hB (c_in _ (nI b) 0 2) (va_cwS 3 X.2.2.2.2 gX12_at_X12_in rfl rfl rfl (by decide +kernel) ⟨Nat.le_of_ble_eq_true rfl, Nat.le_of_ble_eq_true rfl⟩) rfl hl.1 rfl (Nat.le_of_ble_eq_true rfl) dX12_at_10 (by exact ⟨Nat.zero_le _, Nat.zero_le _⟩)) hS (fun r u H locs hq hP hS => ?_)
    obtain ⟨rfl, rfl⟩ := hq
    have hP : gP D cy B z T (gI o 12 M I0) R H := hP
    refine lv_if_eq (tgt := 33) X.1 X.2.1 dX12_at_13 (by decide) (fun c13 => ?_) (fun c13 => ?_)
    · exact absurd (g_le (a := 0) (b := 2) (x := 0) (y := 2) rfl rfl (by omega) (by omega) (by omega)) (gt_0 c13)
    · refine lv_aload_n X.1 X.2.1 dX12_at_16 rfl (lv_at hl 0 rfl) ?_
      refine m_getr 1 1 X hK hP hM hin rfl (by decide) k9 rfl dX12_at_17 (by decide) ?_
      refine lv_bipush (v := 8) X.1 X.2.1 dX12_at_20 (by decide) ?_
      refine lv_bipush (v := 10) X.1 X.2.1 dX12_at_22 (by decide) ?_
      refine lv_iload_n X.1 X.2.1 dX12_at_24 rfl (lv_at hl 2 rfl) ?_
      refine lv_imul X.1 X.2.1 dX12_at_25 ?_
      refine lv_iadd X.1 X.2.1 dX12_at_26 ?_
      refine lv_iload_n X.1 X.2.1 dX12_at_27 rfl (lv_at hl 1 rfl) ?_
      refine lv_iadd X.1 X.2.1 dX12_at_28 ?_
      refine m_ald 1 (8 + a + 10 * b) 883 X hK hP hM rfl (gIx_of (gn_eq (gn_add (gn_add (show (8 : Int32) = nI 8 from rfl) (gn_mul (show (10 : Int32) = nI 10 from rfl) (Eq.refl (nI b)))) (Eq.refl (nI a))) (by omega)) (by omega) (by omega)) dX12_at_29 (show M 1 (8 + a + 10 * b) = nI (σ (8 + a + 10 * b)) from (hσ (8 + a + 10 * b) (by omega) (by omega))) ?_
      refine lv_goto (tgt := 34) X.1 X.2.1 dX12_at_30 (by decide) ?_
      exact g_iret M X hr hlk hK hP hS dX12_at_34 ⟨rfl, rfl⟩

set_option maxHeartbeats 4000000 in
set_option maxRecDepth 100000 in
/-- c_man_n -/
theorem c_man_n (hM : gMod o T R) (hi : mInv M σ fl ti sh K τ ms) {k v q : Int32} (hno : ¬ (0 ≤ k ∧ k ≤ 6)) : Met l yX12_man wsX12_man ({ frames := 1, cells := 0, slots := 0, locals := 22 }) (mPre s0 D cy B o z T R I0 M [.int k, .int v, .int q]) (mQi D cy B o z T R I0 (fun r u => r = -1 ∧ M = u)) 0 0 (gA B) := by
  refine g_met (maxL := 5) (ret := (some .int)) (by decide) rfl (Nat.le_of_ble_eq_true rfl) (fun p e s m args below meth c ls X hr hlk hnm hK hP hC hS hl => ?_)
  have hl : lv_has ls 5 [(0, .ref o), (1, .int k), (2, .int v), (3, .int q)] := hl
  have hP : gP D cy B z T (gI o 12 M I0) R s.heap := hP
  have hB : B ≤ s.heap.size := by rw [hP.1]; exact hP.2.1
  have hin : ∀ w ∈ wsX120, w ∈ wsX12_man := fun _ h => List.mem_cons_of_mem _ (List.mem_append_right _ h)
  have k9 : Cond.fieldLink RX12 9 "BarrowPlankModel" "s" "[I" ∈ wsX12_man := by decide +kernel
  have hσ := hi.1
  have hs := hi.2.1
  have hb := hi.2.2.1
  have hca := hi.2.2.2
  refine lv_iload_n X.1 X.2.1 dX12_man_0 rfl (lv_at hl 1 rfl) ?_
  refine lv_iconst (v := 0) X.1 X.2.1 dX12_man_1 (by decide) ?_
  refine lv_bipush (v := 6) X.1 X.2.1 dX12_man_2 (by decide) ?_
  refine g_run_i (g_runS [.int k, .int 0, .int 6] X hK hP hS hC hB (c_in _ k 0 6) (va_cwS 3 X.2.2.2.2 gX12_man_X12_in rfl rfl rfl (by decide +kernel) ⟨Nat.le_of_ble_eq_true rfl, Nat.le_of_ble_eq_true rfl⟩) rfl hl.1 rfl (Nat.le_of_ble_eq_true rfl) dX12_man_4 (by exact ⟨Nat.zero_le _, Nat.zero_le _⟩)) hS (fun r u H locs hq hP hS => ?_)
  obtain ⟨rfl, rfl⟩ := hq
  have hP : gP D cy B z T (gI o 12 M I0) R H := hP
  refine lv_if_ne (tgt := 12) X.1 X.2.1 dX12_man_7 (by decide) (fun c7 => ?_) (fun c7 => ?_)
  · exact absurd (gt_1 c7) hno
  · refine lv_iconst (v := (-1)) X.1 X.2.1 dX12_man_10 (by decide) ?_
    exact g_iret M X hr hlk hK hP hS dX12_man_11 ⟨rfl, rfl⟩

set_option maxHeartbeats 4000000 in
set_option maxRecDepth 100000 in
/-- c_man_b -/
theorem c_man_b (hM : gMod o T R) (hi : mInv M σ fl ti sh K τ ms) {k : Nat} (hk6 : k ≤ 6) {v q : Int32} (hbad : ¬ ((0 ≤ v ∧ v ≤ 9) ∧ (1 ≤ q ∧ q ≤ 20))) : Met l yX12_man wsX12_man ({ frames := 1, cells := 0, slots := 0, locals := 22 }) (mPre s0 D cy B o z T R I0 M [.int (nI k), .int v, .int q]) (mQi D cy B o z T R I0 (fun r u => r = -2 ∧ M = u)) 0 0 (gA B) := by
  refine g_met (maxL := 5) (ret := (some .int)) (by decide) rfl (Nat.le_of_ble_eq_true rfl) (fun p e s m args below meth c ls X hr hlk hnm hK hP hC hS hl => ?_)
  have hl : lv_has ls 5 [(0, .ref o), (1, .int (nI k)), (2, .int v), (3, .int q)] := hl
  have hP : gP D cy B z T (gI o 12 M I0) R s.heap := hP
  have hB : B ≤ s.heap.size := by rw [hP.1]; exact hP.2.1
  have hin : ∀ w ∈ wsX120, w ∈ wsX12_man := fun _ h => List.mem_cons_of_mem _ (List.mem_append_right _ h)
  have k9 : Cond.fieldLink RX12 9 "BarrowPlankModel" "s" "[I" ∈ wsX12_man := by decide +kernel
  have hσ := hi.1
  have hs := hi.2.1
  have hb := hi.2.2.1
  have hca := hi.2.2.2
  refine lv_iload_n X.1 X.2.1 dX12_man_0 rfl (lv_at hl 1 rfl) ?_
  refine lv_iconst (v := 0) X.1 X.2.1 dX12_man_1 (by decide) ?_
  refine lv_bipush (v := 6) X.1 X.2.1 dX12_man_2 (by decide) ?_
  refine g_run_i (g_runS [.int (nI k), .int 0, .int 6] X hK hP hS hC hB (c_in _ (nI k) 0 6) (va_cwS 3 X.2.2.2.2 gX12_man_X12_in rfl rfl rfl (by decide +kernel) ⟨Nat.le_of_ble_eq_true rfl, Nat.le_of_ble_eq_true rfl⟩) rfl hl.1 rfl (Nat.le_of_ble_eq_true rfl) dX12_man_4 (by exact ⟨Nat.zero_le _, Nat.zero_le _⟩)) hS (fun r u H locs hq hP hS => ?_)
  obtain ⟨rfl, rfl⟩ := hq
  have hP : gP D cy B z T (gI o 12 M I0) R H := hP
  refine lv_if_ne (tgt := 12) X.1 X.2.1 dX12_man_7 (by decide) (fun c7 => ?_) (fun c7 => ?_)
  · refine lv_iload_n X.1 X.2.1 dX12_man_12 rfl (lv_at hl 2 rfl) ?_
    refine lv_iconst (v := 0) X.1 X.2.1 dX12_man_13 (by decide) ?_
    refine lv_bipush (v := 9) X.1 X.2.1 dX12_man_14 (by decide) ?_
    refine g_run_i (g_runS [.int v, .int 0, .int 9] X hK hP hS hC hB (c_in _ v 0 9) (va_cwS 3 X.2.2.2.2 gX12_man_X12_in rfl rfl rfl (by decide +kernel) ⟨Nat.le_of_ble_eq_true rfl, Nat.le_of_ble_eq_true rfl⟩) rfl hl.1 rfl (Nat.le_of_ble_eq_true rfl) dX12_man_16 (by exact ⟨Nat.zero_le _, Nat.zero_le _⟩)) hS (fun r u H locs hq hP hS => ?_)
    obtain ⟨rfl, rfl⟩ := hq
    have hP : gP D cy B z T (gI o 12 M I0) R H := hP
    refine lv_if_eq (tgt := 32) X.1 X.2.1 dX12_man_19 (by decide) (fun c19 => ?_) (fun c19 => ?_)
    · refine lv_bipush (v := (-2)) X.1 X.2.1 dX12_man_32 (by decide) ?_
      exact g_iret M X hr hlk hK hP hS dX12_man_34 ⟨rfl, rfl⟩
    · refine lv_iload_n X.1 X.2.1 dX12_man_22 rfl (lv_at hl 3 rfl) ?_
      refine lv_iconst (v := 1) X.1 X.2.1 dX12_man_23 (by decide) ?_
      refine lv_bipush (v := 20) X.1 X.2.1 dX12_man_24 (by decide) ?_
      refine g_run_i (g_runS [.int q, .int 1, .int 20] X hK hP hS hC hB (c_in _ q 1 20) (va_cwS 3 X.2.2.2.2 gX12_man_X12_in rfl rfl rfl (by decide +kernel) ⟨Nat.le_of_ble_eq_true rfl, Nat.le_of_ble_eq_true rfl⟩) rfl hl.1 rfl (Nat.le_of_ble_eq_true rfl) dX12_man_26 (by exact ⟨Nat.zero_le _, Nat.zero_le _⟩)) hS (fun r u H locs hq hP hS => ?_)
      obtain ⟨rfl, rfl⟩ := hq
      have hP : gP D cy B z T (gI o 12 M I0) R H := hP
      refine lv_if_ne (tgt := 35) X.1 X.2.1 dX12_man_29 (by decide) (fun c29 => ?_) (fun c29 => ?_)
      · exact absurd ⟨gt_1 c19, gt_1 c29⟩ hbad
      · refine lv_bipush (v := (-2)) X.1 X.2.1 dX12_man_32 (by decide) ?_
        exact g_iret M X hr hlk hK hP hS dX12_man_34 ⟨rfl, rfl⟩
  · exact absurd (g_le (a := 0) (b := 6) (x := 0) (y := 6) rfl rfl (by omega) (by omega) (by omega)) (gt_0 c7)

set_option maxHeartbeats 4000000 in
set_option maxRecDepth 100000 in
/-- c_man_f -/
theorem c_man_f (hM : gMod o T R) (hi : mInv M σ fl ti sh K τ ms) {k v q : Nat} (hk6 : k ≤ 6) (hv9 : v ≤ 9) (hq1 : 1 ≤ q) (hq20 : q ≤ 20) (h4 : σ 38 = 4) : Met l yX12_man wsX12_man ({ frames := 1, cells := 0, slots := 0, locals := 22 }) (mPre s0 D cy B o z T R I0 M [.int (nI k), .int (nI v), .int (nI q)]) (mQi D cy B o z T R I0 (fun r u => r = -4 ∧ M = u)) 0 0 (gA B) := by
  refine g_met (maxL := 5) (ret := (some .int)) (by decide) rfl (Nat.le_of_ble_eq_true rfl) (fun p e s m args below meth c ls X hr hlk hnm hK hP hC hS hl => ?_)
  have hl : lv_has ls 5 [(0, .ref o), (1, .int (nI k)), (2, .int (nI v)), (3, .int (nI q))] := hl
  have hP : gP D cy B z T (gI o 12 M I0) R s.heap := hP
  have hB : B ≤ s.heap.size := by rw [hP.1]; exact hP.2.1
  have hin : ∀ w ∈ wsX120, w ∈ wsX12_man := fun _ h => List.mem_cons_of_mem _ (List.mem_append_right _ h)
  have k9 : Cond.fieldLink RX12 9 "BarrowPlankModel" "s" "[I" ∈ wsX12_man := by decide +kernel
  have hσ := hi.1
  have hs := hi.2.1
  have hb := hi.2.2.1
  have hca := hi.2.2.2
  refine lv_iload_n X.1 X.2.1 dX12_man_0 rfl (lv_at hl 1 rfl) ?_
  refine lv_iconst (v := 0) X.1 X.2.1 dX12_man_1 (by decide) ?_
  refine lv_bipush (v := 6) X.1 X.2.1 dX12_man_2 (by decide) ?_
  refine g_run_i (g_runS [.int (nI k), .int 0, .int 6] X hK hP hS hC hB (c_in _ (nI k) 0 6) (va_cwS 3 X.2.2.2.2 gX12_man_X12_in rfl rfl rfl (by decide +kernel) ⟨Nat.le_of_ble_eq_true rfl, Nat.le_of_ble_eq_true rfl⟩) rfl hl.1 rfl (Nat.le_of_ble_eq_true rfl) dX12_man_4 (by exact ⟨Nat.zero_le _, Nat.zero_le _⟩)) hS (fun r u H locs hq hP hS => ?_)
  obtain ⟨rfl, rfl⟩ := hq
  have hP : gP D cy B z T (gI o 12 M I0) R H := hP
  refine lv_if_ne (tgt := 12) X.1 X.2.1 dX12_man_7 (by decide) (fun c7 => ?_) (fun c7 => ?_)
  · refine lv_iload_n X.1 X.2.1 dX12_man_12 rfl (lv_at hl 2 rfl) ?_
    refine lv_iconst (v := 0) X.1 X.2.1 dX12_man_13 (by decide) ?_
    refine lv_bipush (v := 9) X.1 X.2.1 dX12_man_14 (by decide) ?_
    refine g_run_i (g_runS [.int (nI v), .int 0, .int 9] X hK hP hS hC hB (c_in _ (nI v) 0 9) (va_cwS 3 X.2.2.2.2 gX12_man_X12_in rfl rfl rfl (by decide +kernel) ⟨Nat.le_of_ble_eq_true rfl, Nat.le_of_ble_eq_true rfl⟩) rfl hl.1 rfl (Nat.le_of_ble_eq_true rfl) dX12_man_16 (by exact ⟨Nat.zero_le _, Nat.zero_le _⟩)) hS (fun r u H locs hq hP hS => ?_)
    obtain ⟨rfl, rfl⟩ := hq
    have hP : gP D cy B z T (gI o 12 M I0) R H := hP
    refine lv_if_eq (tgt := 32) X.1 X.2.1 dX12_man_19 (by decide) (fun c19 => ?_) (fun c19 => ?_)
    · exact absurd (g_le (a := 0) (b := 9) (x := 0) (y := 9) rfl rfl (by omega) (by omega) (by omega)) (gt_0 c19)
    · refine lv_iload_n X.1 X.2.1 dX12_man_22 rfl (lv_at hl 3 rfl) ?_
      refine lv_iconst (v := 1) X.1 X.2.1 dX12_man_23 (by decide) ?_
      refine lv_bipush (v := 20) X.1 X.2.1 dX12_man_24 (by decide) ?_
      refine g_run_i (g_runS [.int (nI q), .int 1, .int 20] X hK hP hS hC hB (c_in _ (nI q) 1 20) (va_cwS 3 X.2.2.2.2 gX12_man_X12_in rfl rfl rfl (by decide +kernel) ⟨Nat.le_of_ble_eq_true rfl, Nat.le_of_ble_eq_true rfl⟩) rfl hl.1 rfl (Nat.le_of_ble_eq_true rfl) dX12_man_26 (by exact ⟨Nat.zero_le _, Nat.zero_le _⟩)) hS (fun r u H locs hq hP hS => ?_)
      obtain ⟨rfl, rfl⟩ := hq
      have hP : gP D cy B z T (gI o 12 M I0) R H := hP
      refine lv_if_ne (tgt := 35) X.1 X.2.1 dX12_man_29 (by decide) (fun c29 => ?_) (fun c29 => ?_)
      · refine lv_aload_n X.1 X.2.1 dX12_man_35 rfl (lv_at hl 0 rfl) ?_
        refine m_getr 1 1 X hK hP hM hin rfl (by decide) k9 rfl dX12_man_36 (by decide) ?_
        refine lv_bipush (v := 38) X.1 X.2.1 dX12_man_39 (by decide) ?_
        refine m_ald 1 38 883 X hK hP hM rfl (gIx_of (show (38 : Int32) = nI 38 from rfl) (by omega) (by omega)) dX12_man_41 (show M 1 38 = nI (σ 38) from (hσ 38 (by omega) (by omega))) ?_
        refine lv_iconst (v := 4) X.1 X.2.1 dX12_man_42 (by decide) ?_
        refine lv_icmp_ne (tgt := 49) X.1 X.2.1 dX12_man_43 (by decide) (fun c43 => ?_) (fun c43 => ?_)
        · exact absurd (by rw [h4]; rfl) c43
        · have n43 : σ 38 = 4 := gq_eq c43 (Eq.refl (nI (σ 38))) (show (4 : Int32) = nI 4 from rfl) (by omega) (by omega)
          refine lv_bipush (v := (-4)) X.1 X.2.1 dX12_man_46 (by decide) ?_
          exact g_iret M X hr hlk hK hP hS dX12_man_48 ⟨rfl, rfl⟩
      · exact absurd (g_le (a := 1) (b := 20) (x := 1) (y := 20) rfl rfl (by omega) (by omega) (by omega)) (gt_0 c29)
  · exact absurd (g_le (a := 0) (b := 6) (x := 0) (y := 6) rfl rfl (by omega) (by omega) (by omega)) (gt_0 c7)

theorem man38 (hi : mInv M σ fl ti sh K τ ms) {n : Nat} (h : σ 38 = n) : M 1 38 = nI n := by rw [hi.1 38 (by decide) (by decide), h]
set_option maxHeartbeats 4000000 in
set_option maxRecDepth 100000 in
/-- c_man -/
theorem c_man (hM : gMod o T R) (hi : mInv M σ fl ti sh K τ ms) {k v q : Nat} (hk6 : k ≤ 6) (hv9 : v ≤ 9) (hq1 : 1 ≤ q) (hq20 : q ≤ 20) {n : Nat} (hn : σ 38 = n) (hn4 : n < 4) : Met l yX12_man wsX12_man ({ frames := 1, cells := 0, slots := 0, locals := 22 }) (mPre s0 D cy B o z T R I0 M [.int (nI k), .int (nI v), .int (nI q)]) (mQi D cy B o z T R I0 (fun r u => r = nI n ∧ u = g2 (g2 (g2 (g2 (g2 M 1 (44 + n) (nI k)) 1 (48 + n) (nI v)) 1 (52 + n) (nI q)) 1 (4 + n) 0) 1 38 (nI n + 1))) 0 0 (gA B) := by
  refine g_met (maxL := 5) (ret := (some .int)) (by decide) rfl (Nat.le_of_ble_eq_true rfl) (fun p e s m args below meth c ls X hr hlk hnm hK hP hC hS hl => ?_)
  have hl : lv_has ls 5 [(0, .ref o), (1, .int (nI k)), (2, .int (nI v)), (3, .int (nI q))] := hl
  have hP : gP D cy B z T (gI o 12 M I0) R s.heap := hP
  have hB : B ≤ s.heap.size := by rw [hP.1]; exact hP.2.1
  have hin : ∀ w ∈ wsX120, w ∈ wsX12_man := fun _ h => List.mem_cons_of_mem _ (List.mem_append_right _ h)
  have k9 : Cond.fieldLink RX12 9 "BarrowPlankModel" "s" "[I" ∈ wsX12_man := by decide +kernel
  have hσ := hi.1
  have hs := hi.2.1
  have hb := hi.2.2.1
  have hca := hi.2.2.2
  refine lv_iload_n X.1 X.2.1 dX12_man_0 rfl (lv_at hl 1 rfl) ?_
  refine lv_iconst (v := 0) X.1 X.2.1 dX12_man_1 (by decide) ?_
  refine lv_bipush (v := 6) X.1 X.2.1 dX12_man_2 (by decide) ?_
  refine g_run_i (g_runS [.int (nI k), .int 0, .int 6] X hK hP hS hC hB (c_in _ (nI k) 0 6) (va_cwS 3 X.2.2.2.2 gX12_man_X12_in rfl rfl rfl (by decide +kernel) ⟨Nat.le_of_ble_eq_true rfl, Nat.le_of_ble_eq_true rfl⟩) rfl hl.1 rfl (Nat.le_of_ble_eq_true rfl) dX12_man_4 (by exact ⟨Nat.zero_le _, Nat.zero_le _⟩)) hS (fun r u H locs hq hP hS => ?_)
  obtain ⟨rfl, rfl⟩ := hq
  have hP : gP D cy B z T (gI o 12 M I0) R H := hP
  refine lv_if_ne (tgt := 12) X.1 X.2.1 dX12_man_7 (by decide) (fun c7 => ?_) (fun c7 => ?_)
  · refine lv_iload_n X.1 X.2.1 dX12_man_12 rfl (lv_at hl 2 rfl) ?_
    refine lv_iconst (v := 0) X.1 X.2.1 dX12_man_13 (by decide) ?_
    refine lv_bipush (v := 9) X.1 X.2.1 dX12_man_14 (by decide) ?_
    refine g_run_i (g_runS [.int (nI v), .int 0, .int 9] X hK hP hS hC hB (c_in _ (nI v) 0 9) (va_cwS 3 X.2.2.2.2 gX12_man_X12_in rfl rfl rfl (by decide +kernel) ⟨Nat.le_of_ble_eq_true rfl, Nat.le_of_ble_eq_true rfl⟩) rfl hl.1 rfl (Nat.le_of_ble_eq_true rfl) dX12_man_16 (by exact ⟨Nat.zero_le _, Nat.zero_le _⟩)) hS (fun r u H locs hq hP hS => ?_)
    obtain ⟨rfl, rfl⟩ := hq
    have hP : gP D cy B z T (gI o 12 M I0) R H := hP
    refine lv_if_eq (tgt := 32) X.1 X.2.1 dX12_man_19 (by decide) (fun c19 => ?_) (fun c19 => ?_)
    · exact absurd (g_le (a := 0) (b := 9) (x := 0) (y := 9) rfl rfl (by omega) (by omega) (by omega)) (gt_0 c19)
    · refine lv_iload_n X.1 X.2.1 dX12_man_22 rfl (lv_at hl 3 rfl) ?_
      refine lv_iconst (v := 1) X.1 X.2.1 dX12_man_23 (by decide) ?_
      refine lv_bipush (v := 20) X.1 X.2.1 dX12_man_24 (by decide) ?_
      refine g_run_i (g_runS [.int (nI q), .int 1, .int 20] X hK hP hS hC hB (c_in _ (nI q) 1 20) (va_cwS 3 X.2.2.2.2 gX12_man_X12_in rfl rfl rfl (by decide +kernel) ⟨Nat.le_of_ble_eq_true rfl, Nat.le_of_ble_eq_true rfl⟩) rfl hl.1 rfl (Nat.le_of_ble_eq_true rfl) dX12_man_26 (by exact ⟨Nat.zero_le _, Nat.zero_le _⟩)) hS (fun r u H locs hq hP hS => ?_)
      obtain ⟨rfl, rfl⟩ := hq
      have hP : gP D cy B z T (gI o 12 M I0) R H := hP
      refine lv_if_ne (tgt := 35) X.1 X.2.1 dX12_man_29 (by decide) (fun c29 => ?_) (fun c29 => ?_)
      · refine lv_aload_n X.1 X.2.1 dX12_man_35 rfl (lv_at hl 0 rfl) ?_
        refine m_getr 1 1 X hK hP hM hin rfl (by decide) k9 rfl dX12_man_36 (by decide) ?_
        refine lv_bipush (v := 38) X.1 X.2.1 dX12_man_39 (by decide) ?_
        refine m_ald 1 38 883 X hK hP hM rfl (gIx_of (show (38 : Int32) = nI 38 from rfl) (by omega) (by omega)) dX12_man_41 (show M 1 38 = nI n from (man38 hi hn)) ?_
        refine lv_iconst (v := 4) X.1 X.2.1 dX12_man_42 (by decide) ?_
        refine lv_icmp_ne (tgt := 49) X.1 X.2.1 dX12_man_43 (by decide) (fun c43 => ?_) (fun c43 => ?_)
        · have n43 : ¬ n = 4 := gq_ne c43 (Eq.refl (nI n)) (show (4 : Int32) = nI 4 from rfl) (by omega) (by omega)
          refine lv_aload_n X.1 X.2.1 dX12_man_49 rfl (lv_at hl 0 rfl) ?_
          refine m_getr 1 1 X hK hP hM hin rfl (by decide) k9 rfl dX12_man_50 (by decide) ?_
          refine lv_bipush (v := 38) X.1 X.2.1 dX12_man_53 (by decide) ?_
          refine m_ald 1 38 883 X hK hP hM rfl (gIx_of (show (38 : Int32) = nI 38 from rfl) (by omega) (by omega)) dX12_man_55 (show M 1 38 = nI n from (man38 hi hn)) ?_
          refine lv_istore (lv' := [(4, .int (nI n)), (0, .ref o), (1, .int (nI k)), (2, .int (nI v)), (3, .int (nI q))]) X.1 X.2.1 dX12_man_56 hl (by decide) rfl (fun ls hl => ?_)
          refine lv_aload_n X.1 X.2.1 dX12_man_58 rfl (lv_at hl 1 rfl) ?_
          refine m_getr 1 1 X hK hP hM hin rfl (by decide) k9 rfl dX12_man_59 (by decide) ?_
          refine lv_bipush (v := 44) X.1 X.2.1 dX12_man_62 (by decide) ?_
          refine lv_iload X.1 X.2.1 dX12_man_64 (lv_at hl 0 rfl) ?_
          refine lv_iadd X.1 X.2.1 dX12_man_66 ?_
          refine lv_iload_n X.1 X.2.1 dX12_man_67 rfl (lv_at hl 2 rfl) ?_
          refine m_ast 1 (44 + n) 883 X hK hP hS hM rfl (gIx_of (gn_add (show (44 : Int32) = nI 44 from rfl) (Eq.refl (nI n))) (by omega) (by omega)) dX12_man_68 (fun H locs hP hS => ?_)
          generalize eM1 : g2 M 1 (44 + n) (nI k) = M1 at hP
          refine lv_aload_n X.1 X.2.1 dX12_man_69 rfl (lv_at hl 1 rfl) ?_
          refine m_getr 1 1 X hK hP hM hin rfl (by decide) k9 rfl dX12_man_70 (by decide) ?_
          refine lv_bipush (v := 48) X.1 X.2.1 dX12_man_73 (by decide) ?_
          refine lv_iload X.1 X.2.1 dX12_man_75 (lv_at hl 0 rfl) ?_
          refine lv_iadd X.1 X.2.1 dX12_man_77 ?_
          refine lv_iload_n X.1 X.2.1 dX12_man_78 rfl (lv_at hl 3 rfl) ?_
          refine m_ast 1 (48 + n) 883 X hK hP hS hM rfl (gIx_of (gn_add (show (48 : Int32) = nI 48 from rfl) (Eq.refl (nI n))) (by omega) (by omega)) dX12_man_79 (fun H locs hP hS => ?_)
          generalize eM2 : g2 M1 1 (48 + n) (nI v) = M2 at hP
          refine lv_aload_n X.1 X.2.1 dX12_man_80 rfl (lv_at hl 1 rfl) ?_
          refine m_getr 1 1 X hK hP hM hin rfl (by decide) k9 rfl dX12_man_81 (by decide) ?_
          refine lv_bipush (v := 52) X.1 X.2.1 dX12_man_84 (by decide) ?_
          refine lv_iload X.1 X.2.1 dX12_man_86 (lv_at hl 0 rfl) ?_
          refine lv_iadd X.1 X.2.1 dX12_man_88 ?_
          refine lv_iload_n X.1 X.2.1 dX12_man_89 rfl (lv_at hl 4 rfl) ?_
          refine m_ast 1 (52 + n) 883 X hK hP hS hM rfl (gIx_of (gn_add (show (52 : Int32) = nI 52 from rfl) (Eq.refl (nI n))) (by omega) (by omega)) dX12_man_90 (fun H locs hP hS => ?_)
          generalize eM3 : g2 M2 1 (52 + n) (nI q) = M3 at hP
          refine lv_aload_n X.1 X.2.1 dX12_man_91 rfl (lv_at hl 1 rfl) ?_
          refine m_getr 1 1 X hK hP hM hin rfl (by decide) k9 rfl dX12_man_92 (by decide) ?_
          refine lv_iconst (v := 4) X.1 X.2.1 dX12_man_95 (by decide) ?_
          refine lv_iload X.1 X.2.1 dX12_man_96 (lv_at hl 0 rfl) ?_
          refine lv_iadd X.1 X.2.1 dX12_man_98 ?_
          refine lv_iconst (v := 0) X.1 X.2.1 dX12_man_99 (by decide) ?_
          refine m_ast 1 (4 + n) 883 X hK hP hS hM rfl (gIx_of (gn_add (show (4 : Int32) = nI 4 from rfl) (Eq.refl (nI n))) (by omega) (by omega)) dX12_man_100 (fun H locs hP hS => ?_)
          generalize eM4 : g2 M3 1 (4 + n) 0 = M4 at hP
          refine lv_aload_n X.1 X.2.1 dX12_man_101 rfl (lv_at hl 1 rfl) ?_
          refine m_getr 1 1 X hK hP hM hin rfl (by decide) k9 rfl dX12_man_102 (by decide) ?_
          refine lv_bipush (v := 38) X.1 X.2.1 dX12_man_105 (by decide) ?_
          refine lv_dup2_11 X.1 X.2.1 dX12_man_107 rfl rfl ?_
          refine m_ald 1 38 883 X hK hP hM rfl (gIx_of (show (38 : Int32) = nI 38 from rfl) (by omega) (by omega)) dX12_man_108 (show M4 1 38 = nI n from (gs_ne eM4 (by omega) (gs_ne eM3 (by omega) (gs_ne eM2 (by omega) (gs_ne eM1 (by omega) (man38 hi hn)))))) ?_
          refine lv_iconst (v := 1) X.1 X.2.1 dX12_man_109 (by decide) ?_
          refine lv_iadd X.1 X.2.1 dX12_man_110 ?_
          refine m_ast 1 38 883 X hK hP hS hM rfl (gIx_of (show (38 : Int32) = nI 38 from rfl) (by omega) (by omega)) dX12_man_111 (fun H locs hP hS => ?_)
          generalize eM5 : g2 M4 1 38 ((nI n) + 1) = M5 at hP
          refine lv_iload X.1 X.2.1 dX12_man_112 (lv_at hl 0 rfl) ?_
          exact g_iret M5 X hr hlk hK hP hS dX12_man_114 ⟨rfl, (by rw [← eM5, ← eM4, ← eM3, ← eM2, ← eM1])⟩
        · exact absurd (gq_eq c43 (Eq.refl (nI n)) (show (4 : Int32) = nI 4 from rfl) (by omega) (by omega)) (by omega)
      · exact absurd (g_le (a := 1) (b := 20) (x := 1) (y := 20) rfl rfl (by omega) (by omega) (by omega)) (gt_0 c29)
  · exact absurd (g_le (a := 0) (b := 6) (x := 0) (y := 6) rfl rfl (by omega) (by omega) (by omega)) (gt_0 c7)

set_option maxHeartbeats 4000000 in
set_option maxRecDepth 100000 in
/-- c_of_n -/
theorem c_of_n (hM : gMod o T R) (hi : mInv M σ fl ti sh K τ ms) {v w9 : Int32} (hno : ¬ ((0 ≤ v ∧ v ≤ nI (σ 38) - 1) ∧ (0 ≤ w9 ∧ w9 ≤ 3))) : Met l yX12_of wsX12_of ({ frames := 2, cells := 0, slots := 0, locals := 43 }) (mPre s0 D cy B o z T R I0 M [.int v, .int w9]) (mQi D cy B o z T R I0 (fun r u => r = -1 ∧ M = u)) 0 0 (gA B) := by
  refine g_met (maxL := 3) (ret := (some .int)) (by decide) rfl (Nat.le_of_ble_eq_true rfl) (fun p e s m args below meth c ls X hr hlk hnm hK hP hC hS hl => ?_)
  have hl : lv_has ls 3 [(0, .ref o), (1, .int v), (2, .int w9)] := hl
  have hP : gP D cy B z T (gI o 12 M I0) R s.heap := hP
  have hB : B ≤ s.heap.size := by rw [hP.1]; exact hP.2.1
  have hin : ∀ w ∈ wsX120, w ∈ wsX12_of := fun _ h => List.mem_cons_of_mem _ (List.mem_append_right _ h)
  have k9 : Cond.fieldLink RX12 9 "BarrowPlankModel" "s" "[I" ∈ wsX12_of := by decide +kernel
  have hσ := hi.1
  have hs := hi.2.1
  have hb := hi.2.2.1
  have hca := hi.2.2.2
  refine lv_aload_n X.1 X.2.1 dX12_of_0 rfl (lv_at hl 0 rfl) ?_
  refine lv_iload_n X.1 X.2.1 dX12_of_1 rfl (lv_at hl 1 rfl) ?_
  refine g_run_i (g_runV (k := 14) [.int v] X hK hP hS hC hB (c_isMan hM _ v) (cwV 1 X.2.2.2.2 gX12_of_X12_isMan rfl rfl rfl (by decide +kernel) ⟨Nat.le_of_ble_eq_true rfl, Nat.le_of_ble_eq_true rfl⟩) (hM.1 0 _ rfl) rfl rfl hl.1 rfl (Nat.le_of_ble_eq_true rfl) dX12_of_2 (by exact ⟨Nat.zero_le _, Nat.zero_le _⟩)) hS (fun r u H locs hq hP hS => ?_)
  obtain ⟨rfl, rfl⟩ := hq
  have hP : gP D cy B z T (gI o 12 M I0) R H := hP
  refine lv_if_eq (tgt := 17) X.1 X.2.1 dX12_of_5 (by decide) (fun c5 => ?_) (fun c5 => ?_)
  · refine lv_iconst (v := (-1)) X.1 X.2.1 dX12_of_17 (by decide) ?_
    exact g_iret M X hr hlk hK hP hS dX12_of_18 ⟨rfl, rfl⟩
  · refine lv_iload_n X.1 X.2.1 dX12_of_8 rfl (lv_at hl 2 rfl) ?_
    refine lv_iconst (v := 0) X.1 X.2.1 dX12_of_9 (by decide) ?_
    refine lv_iconst (v := 3) X.1 X.2.1 dX12_of_10 (by decide) ?_
    refine g_run_i (g_runS [.int w9, .int 0, .int 3] X hK hP hS hC hB (c_in _ w9 0 3) (va_cwS 3 X.2.2.2.2 gX12_of_X12_in rfl rfl rfl (by decide +kernel) ⟨Nat.le_of_ble_eq_true rfl, Nat.le_of_ble_eq_true rfl⟩) rfl hl.1 rfl (Nat.le_of_ble_eq_true rfl) dX12_of_11 (by exact ⟨Nat.zero_le _, Nat.zero_le _⟩)) hS (fun r u H locs hq hP hS => ?_)
    obtain ⟨rfl, rfl⟩ := hq
    have hP : gP D cy B z T (gI o 12 M I0) R H := hP
    refine lv_if_ne (tgt := 19) X.1 X.2.1 dX12_of_14 (by decide) (fun c14 => ?_) (fun c14 => ?_)
    · exact absurd ⟨(by rw [← hσ 38 (by decide) (by decide)]; exact gt_1 c5), gt_1 c14⟩ hno
    · refine lv_iconst (v := (-1)) X.1 X.2.1 dX12_of_17 (by decide) ?_
      exact g_iret M X hr hlk hK hP hS dX12_of_18 ⟨rfl, rfl⟩

set_option maxHeartbeats 4000000 in
set_option maxRecDepth 100000 in
/-- c_of -/
theorem c_of (hM : gMod o T R) (hi : mInv M σ fl ti sh K τ ms) {μ : Nat} (hμn : μ < σ 38) {w9 : Nat} (hw : w9 ≤ 3) : Met l yX12_of wsX12_of ({ frames := 2, cells := 0, slots := 0, locals := 43 }) (mPre s0 D cy B o z T R I0 M [.int (nI μ), .int (nI w9)]) (mQi D cy B o z T R I0 (fun r u => r = nI (if w9 = 3 then σ (4 + μ) else σ (44 + 4 * w9 + μ)) ∧ M = u)) 0 0 (gA B) := by
  refine g_met (maxL := 3) (ret := (some .int)) (by decide) rfl (Nat.le_of_ble_eq_true rfl) (fun p e s m args below meth c ls X hr hlk hnm hK hP hC hS hl => ?_)
  have hl : lv_has ls 3 [(0, .ref o), (1, .int (nI μ)), (2, .int (nI w9))] := hl
  have hP : gP D cy B z T (gI o 12 M I0) R s.heap := hP
  have hB : B ≤ s.heap.size := by rw [hP.1]; exact hP.2.1
  have hin : ∀ w ∈ wsX120, w ∈ wsX12_of := fun _ h => List.mem_cons_of_mem _ (List.mem_append_right _ h)
  have k9 : Cond.fieldLink RX12 9 "BarrowPlankModel" "s" "[I" ∈ wsX12_of := by decide +kernel
  have hσ := hi.1
  have hs := hi.2.1
  have hb := hi.2.2.1
  have hca := hi.2.2.2
  have hμ : μ < 4 := Nat.lt_of_lt_of_le hμn hi.2.2.1.2.2.2.2.1
  have h38 := hμn
  refine lv_aload_n X.1 X.2.1 dX12_of_0 rfl (lv_at hl 0 rfl) ?_
  refine lv_iload_n X.1 X.2.1 dX12_of_1 rfl (lv_at hl 1 rfl) ?_
  refine g_run_i (g_runV (k := 14) [.int (nI μ)] X hK hP hS hC hB (c_isMan hM _ (nI μ)) (cwV 1 X.2.2.2.2 gX12_of_X12_isMan rfl rfl rfl (by decide +kernel) ⟨Nat.le_of_ble_eq_true rfl, Nat.le_of_ble_eq_true rfl⟩) (hM.1 0 _ rfl) rfl rfl hl.1 rfl (Nat.le_of_ble_eq_true rfl) dX12_of_2 (by exact ⟨Nat.zero_le _, Nat.zero_le _⟩)) hS (fun r u H locs hq hP hS => ?_)
  obtain ⟨rfl, rfl⟩ := hq
  have hP : gP D cy B z T (gI o 12 M I0) R H := hP
  refine lv_if_eq (tgt := 17) X.1 X.2.1 dX12_of_5 (by decide) (fun c5 => ?_) (fun c5 => ?_)
  · exact absurd (g_man hi hμn) (gt_0 c5)
  · refine lv_iload_n X.1 X.2.1 dX12_of_8 rfl (lv_at hl 2 rfl) ?_
    refine lv_iconst (v := 0) X.1 X.2.1 dX12_of_9 (by decide) ?_
    refine lv_iconst (v := 3) X.1 X.2.1 dX12_of_10 (by decide) ?_
    refine g_run_i (g_runS [.int (nI w9), .int 0, .int 3] X hK hP hS hC hB (c_in _ (nI w9) 0 3) (va_cwS 3 X.2.2.2.2 gX12_of_X12_in rfl rfl rfl (by decide +kernel) ⟨Nat.le_of_ble_eq_true rfl, Nat.le_of_ble_eq_true rfl⟩) rfl hl.1 rfl (Nat.le_of_ble_eq_true rfl) dX12_of_11 (by exact ⟨Nat.zero_le _, Nat.zero_le _⟩)) hS (fun r u H locs hq hP hS => ?_)
    obtain ⟨rfl, rfl⟩ := hq
    have hP : gP D cy B z T (gI o 12 M I0) R H := hP
    refine lv_if_ne (tgt := 19) X.1 X.2.1 dX12_of_14 (by decide) (fun c14 => ?_) (fun c14 => ?_)
    · refine lv_iload_n X.1 X.2.1 dX12_of_19 rfl (lv_at hl 2 rfl) ?_
      refine lv_iconst (v := 3) X.1 X.2.1 dX12_of_20 (by decide) ?_
      refine lv_icmp_ne (tgt := 35) X.1 X.2.1 dX12_of_21 (by decide) (fun c21 => ?_) (fun c21 => ?_)
      · have n21 : ¬ w9 = 3 := gq_ne c21 (Eq.refl (nI w9)) (show (3 : Int32) = nI 3 from rfl) (by omega) (by omega)
        refine lv_aload_n X.1 X.2.1 dX12_of_35 rfl (lv_at hl 0 rfl) ?_
        refine m_getr 1 1 X hK hP hM hin rfl (by decide) k9 rfl dX12_of_36 (by decide) ?_
        refine lv_bipush (v := 44) X.1 X.2.1 dX12_of_39 (by decide) ?_
        refine lv_iconst (v := 4) X.1 X.2.1 dX12_of_41 (by decide) ?_
        refine lv_iload_n X.1 X.2.1 dX12_of_42 rfl (lv_at hl 2 rfl) ?_
        refine lv_imul X.1 X.2.1 dX12_of_43 ?_
        refine lv_iadd X.1 X.2.1 dX12_of_44 ?_
        refine lv_iload_n X.1 X.2.1 dX12_of_45 rfl (lv_at hl 1 rfl) ?_
        refine lv_iadd X.1 X.2.1 dX12_of_46 ?_
        refine m_ald 1 (44 + 4 * w9 + μ) 883 X hK hP hM rfl (gIx_of (gn_eq (gn_add (gn_add (show (44 : Int32) = nI 44 from rfl) (gn_mul (show (4 : Int32) = nI 4 from rfl) (Eq.refl (nI w9)))) (Eq.refl (nI μ))) (by omega)) (by omega) (by omega)) dX12_of_47 (show M 1 (44 + 4 * w9 + μ) = nI (σ (44 + 4 * w9 + μ)) from (hσ (44 + 4 * w9 + μ) (by omega) (by omega))) ?_
        exact g_iret M X hr hlk hK hP hS dX12_of_48 ⟨congrArg nI (by rw [if_neg n21]), rfl⟩
      · have n21 : w9 = 3 := gq_eq c21 (Eq.refl (nI w9)) (show (3 : Int32) = nI 3 from rfl) (by omega) (by omega)
        refine lv_aload_n X.1 X.2.1 dX12_of_24 rfl (lv_at hl 0 rfl) ?_
        refine m_getr 1 1 X hK hP hM hin rfl (by decide) k9 rfl dX12_of_25 (by decide) ?_
        refine lv_iconst (v := 4) X.1 X.2.1 dX12_of_28 (by decide) ?_
        refine lv_iload_n X.1 X.2.1 dX12_of_29 rfl (lv_at hl 1 rfl) ?_
        refine lv_iadd X.1 X.2.1 dX12_of_30 ?_
        refine m_ald 1 (4 + μ) 883 X hK hP hM rfl (gIx_of (gn_add (show (4 : Int32) = nI 4 from rfl) (Eq.refl (nI μ))) (by omega) (by omega)) dX12_of_31 (show M 1 (4 + μ) = nI (σ (4 + μ)) from (hσ (4 + μ) (by omega) (by omega))) ?_
        refine lv_goto (tgt := 48) X.1 X.2.1 dX12_of_32 (by decide) ?_
        exact g_iret M X hr hlk hK hP hS dX12_of_48 ⟨congrArg nI (by rw [if_pos n21]), rfl⟩
    · exact absurd (g_le (a := 0) (b := 3) (x := 0) (y := 3) rfl rfl (by omega) (by omega) (by omega)) (gt_0 c14)

end ML
