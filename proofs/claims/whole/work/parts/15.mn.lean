section MN
variable {l : Launch} {s0 : State} {D : va_G} {cy : Nat → ClassId} {B o z : Nat} {T : Nat → Nat × Nat} {R : Nat → Nat → Option Nat} {I0 : Nat → Nat → Int32} {M : Nat → Nat → Int32} {σ : Nat → Nat} {fl : List Nat} {ti sh K τ ms : Nat}
/-- the LOAD among 1 .. n + 1 by which g is most, the least of several; and that most -/
def sFb (g : Nat → Nat) : Nat → Nat × Nat
  | 0 => (1, g 1)
  | n + 1 => if (sFb g n).2 < g (n + 2) then (n + 2, g (n + 2)) else sFb g n
def sOv (fl : List Nat) (ti sh : Nat) (σ : Nat → Nat) (μ t ld : Nat) : Nat := sBy fl ti sh μ ld t 200 σ 0 1 - σ 1
theorem sBy_e {μ ld t : Nat} : ∀ (n : Nat) (σ : Nat → Nat) (tk : Nat), sBy fl ti sh μ ld t n σ tk 1 - σ 1 ≤ σ 0
  | 0, σ, _ => by show σ 1 - σ 1 ≤ σ 0; omega
  | n + 1, σ, tk => by
    unfold sBy
    split
    · omega
    · have h1 := sBy_e (μ := μ) (ld := ld) (t := t) n (sGo fl ti sh σ μ ld) (tk + sSe fl sh σ μ ld)
      have h2 := sBr_le fl σ μ ld
      have h3 := sCm_e σ μ ld
      rw [sGo_0, sGo_1] at h1
      omega
theorem sOv_le (hb : sBd σ K) (μ t ld : Nat) : sOv fl ti sh σ μ t ld ≤ 999 := Nat.le_trans (sBy_e 200 σ 0) hb.1
theorem sFb_le {g : Nat → Nat} {N : Nat} (h : ∀ ld, g ld ≤ N) : ∀ n, (sFb g n).2 ≤ N
  | 0 => h 1
  | n + 1 => by
    unfold sFb
    split
    · exact h _
    · exact sFb_le h n

set_option maxHeartbeats 4000000 in
set_option maxRecDepth 100000 in
/-- c_by_n -/
theorem c_by_n (hM : gMod o T R) (hi : mInv M σ fl ti sh K τ ms) {v : Int32} (hno : ¬ (0 ≤ v ∧ v ≤ nI (σ 38) - 1)) (a t : Int32) : Met l yX12_by wsX12_by ({ frames := 2, cells := 0, slots := 0, locals := 43 }) (mPre s0 D cy B o z T R I0 M [.int v, .int a, .int t]) (mQi D cy B o z T R I0 (fun r u => r = -1 ∧ M = u)) 0 0 (gA B) := by
  refine g_met (maxL := 4) (ret := (some .int)) (by decide) rfl (Nat.le_of_ble_eq_true rfl) (fun p e s m args below meth c ls X hr hlk hnm hK hP hC hS hl => ?_)
  have hl : lv_has ls 4 [(0, .ref o), (1, .int v), (2, .int a), (3, .int t)] := hl
  have hP : gP D cy B z T (gI o 12 M I0) R s.heap := hP
  have hB : B ≤ s.heap.size := by rw [hP.1]; exact hP.2.1
  have hσ := hi.1
  have hs := hi.2.1
  have hb := hi.2.2.1
  have hca := hi.2.2.2
  refine lv_aload_n X.1 X.2.1 dX12_by_0 rfl (lv_at hl 0 rfl) ?_
  refine lv_iload_n X.1 X.2.1 dX12_by_1 rfl (lv_at hl 1 rfl) ?_
  refine g_run_i (g_runV (k := 14) [.int v] X hK hP hS hC hB (c_isMan hM _ v) (cwV 1 X.2.2.2.2 gX12_by_X12_isMan rfl rfl rfl (by decide +kernel) ⟨Nat.le_of_ble_eq_true rfl, Nat.le_of_ble_eq_true rfl⟩) (hM.1 0 _ rfl) rfl rfl hl.1 rfl (Nat.le_of_ble_eq_true rfl) dX12_by_2 (by exact ⟨Nat.zero_le _, Nat.zero_le _⟩)) hS (fun r u H locs hq hP hS => ?_)
  obtain ⟨rfl, rfl⟩ := hq
  have hP : gP D cy B z T (gI o 12 M I0) R H := hP
  refine lv_if_ne (tgt := 10) X.1 X.2.1 dX12_by_5 (by decide) (fun c5 => ?_) (fun c5 => ?_)
  · exact absurd (gt_1 c5) (g_noman hi hno)
  · refine lv_iconst (v := (-1)) X.1 X.2.1 dX12_by_8 (by decide) ?_
    exact g_iret M X hr hlk hK hP hS dX12_by_9 ⟨rfl, rfl⟩

set_option maxHeartbeats 4000000 in
set_option maxRecDepth 100000 in
/-- c_by_b -/
theorem c_by_b (hM : gMod o T R) (hi : mInv M σ fl ti sh K τ ms) {μ : Nat} (hμn : μ < σ 38) {a t : Int32} (hbad : ¬ ((1 ≤ a ∧ a ≤ 20) ∧ (0 ≤ t ∧ t ≤ 9999))) : Met l yX12_by wsX12_by ({ frames := 2, cells := 0, slots := 0, locals := 43 }) (mPre s0 D cy B o z T R I0 M [.int (nI μ), .int a, .int t]) (mQi D cy B o z T R I0 (fun r u => r = -2 ∧ M = u)) 0 0 (gA B) := by
  refine g_met (maxL := 4) (ret := (some .int)) (by decide) rfl (Nat.le_of_ble_eq_true rfl) (fun p e s m args below meth c ls X hr hlk hnm hK hP hC hS hl => ?_)
  have hl : lv_has ls 4 [(0, .ref o), (1, .int (nI μ)), (2, .int a), (3, .int t)] := hl
  have hP : gP D cy B z T (gI o 12 M I0) R s.heap := hP
  have hB : B ≤ s.heap.size := by rw [hP.1]; exact hP.2.1
  have hσ := hi.1
  have hs := hi.2.1
  have hb := hi.2.2.1
  have hca := hi.2.2.2
  refine lv_aload_n X.1 X.2.1 dX12_by_0 rfl (lv_at hl 0 rfl) ?_
  refine lv_iload_n X.1 X.2.1 dX12_by_1 rfl (lv_at hl 1 rfl) ?_
  refine g_run_i (g_runV (k := 14) [.int (nI μ)] X hK hP hS hC hB (c_isMan hM _ (nI μ)) (cwV 1 X.2.2.2.2 gX12_by_X12_isMan rfl rfl rfl (by decide +kernel) ⟨Nat.le_of_ble_eq_true rfl, Nat.le_of_ble_eq_true rfl⟩) (hM.1 0 _ rfl) rfl rfl hl.1 rfl (Nat.le_of_ble_eq_true rfl) dX12_by_2 (by exact ⟨Nat.zero_le _, Nat.zero_le _⟩)) hS (fun r u H locs hq hP hS => ?_)
  obtain ⟨rfl, rfl⟩ := hq
  have hP : gP D cy B z T (gI o 12 M I0) R H := hP
  refine lv_if_ne (tgt := 10) X.1 X.2.1 dX12_by_5 (by decide) (fun c5 => ?_) (fun c5 => ?_)
  · refine lv_iload_n X.1 X.2.1 dX12_by_10 rfl (lv_at hl 2 rfl) ?_
    refine g_run_i (g_runS [.int a] X hK hP hS hC hB (c_isLoad _ a) (va_cwS 1 X.2.2.2.2 gX12_by_X12_isLoad rfl rfl rfl (by decide +kernel) ⟨Nat.le_of_ble_eq_true rfl, Nat.le_of_ble_eq_true rfl⟩) rfl hl.1 rfl (Nat.le_of_ble_eq_true rfl) dX12_by_11 (by exact ⟨Nat.zero_le _, Nat.zero_le _⟩)) hS (fun r u H locs hq hP hS => ?_)
    obtain ⟨rfl, rfl⟩ := hq
    have hP : gP D cy B z T (gI o 12 M I0) R H := hP
    refine lv_if_eq (tgt := 38) X.1 X.2.1 dX12_by_14 (by decide) (fun c14 => ?_) (fun c14 => ?_)
    · refine lv_bipush (v := (-2)) X.1 X.2.1 dX12_by_38 (by decide) ?_
      exact g_iret M X hr hlk hK hP hS dX12_by_40 ⟨rfl, rfl⟩
    · refine lv_iload_n X.1 X.2.1 dX12_by_17 rfl (lv_at hl 3 rfl) ?_
      refine lv_iconst (v := 0) X.1 X.2.1 dX12_by_18 (by decide) ?_
      refine lv_sipush (v := 9999) X.1 X.2.1 dX12_by_19 (by decide) ?_
      refine g_run_i (g_runS [.int t, .int 0, .int 9999] X hK hP hS hC hB (c_in _ t 0 9999) (va_cwS 3 X.2.2.2.2 gX12_by_X12_in rfl rfl rfl (by decide +kernel) ⟨Nat.le_of_ble_eq_true rfl, Nat.le_of_ble_eq_true rfl⟩) rfl hl.1 rfl (Nat.le_of_ble_eq_true rfl) dX12_by_22 (by exact ⟨Nat.zero_le _, Nat.zero_le _⟩)) hS (fun r u H locs hq hP hS => ?_)
      obtain ⟨rfl, rfl⟩ := hq
      have hP : gP D cy B z T (gI o 12 M I0) R H := hP
      refine lv_if_eq (tgt := 38) X.1 X.2.1 dX12_by_25 (by decide) (fun c25 => ?_) (fun c25 => ?_)
      · refine lv_bipush (v := (-2)) X.1 X.2.1 dX12_by_38 (by decide) ?_
        exact g_iret M X hr hlk hK hP hS dX12_by_40 ⟨rfl, rfl⟩
      · exact absurd ⟨gt_1 c14, gt_1 c25⟩ hbad
  · exact absurd (g_man hi hμn) (gt_0 c5)

set_option maxHeartbeats 4000000 in
set_option maxRecDepth 100000 in
/-- c_by -/
theorem c_by (hM : gMod o T R) (hi : mInv M σ fl ti sh K τ ms) {μ : Nat} (hμn : μ < σ 38) {ld : Nat} (hl1 : 1 ≤ ld) (hld : ld ≤ 20) {t : Nat} (ht : t ≤ 9999) (hτ : τ + 7000 < 2 ^ 30) (hK : K < 2 ^ 28) : Met l yX12_by wsX12_by ({ frames := 7, cells := 0, slots := 0, locals := 175 }) (mPre s0 D cy B o z T R I0 M [.int (nI μ), .int (nI ld), .int (nI t)]) (mQi D cy B o z T R I0 (fun r u => r = nI (sOv fl ti sh σ μ t ld) ∧ mSame qS M u ∧ ∃ τ' ms', τ ≤ τ' ∧ τ' ≤ τ + 6501 ∧ mCache u fl σ τ' ms')) 0 0 (gA B) := by
  refine g_met (maxL := 4) (ret := (some .int)) (by decide) rfl (Nat.le_of_ble_eq_true rfl) (fun p e s m args below meth c ls X hr hlk hnm hK hP hC hS hl => ?_)
  have hl : lv_has ls 4 [(0, .ref o), (1, .int (nI μ)), (2, .int (nI ld)), (3, .int (nI t))] := hl
  have hP : gP D cy B z T (gI o 12 M I0) R s.heap := hP
  have hB : B ≤ s.heap.size := by rw [hP.1]; exact hP.2.1
  have hσ := hi.1
  have hs := hi.2.1
  have hb := hi.2.2.1
  have hca := hi.2.2.2
  have hμ : μ < 4 := Nat.lt_of_lt_of_le hμn hi.2.2.1.2.2.2.2.1
  have h38 := hμn
  refine lv_aload_n X.1 X.2.1 dX12_by_0 rfl (lv_at hl 0 rfl) ?_
  refine lv_iload_n X.1 X.2.1 dX12_by_1 rfl (lv_at hl 1 rfl) ?_
  refine g_run_i (g_runV (k := 14) [.int (nI μ)] X hK hP hS hC hB (c_isMan hM _ (nI μ)) (cwV 1 X.2.2.2.2 gX12_by_X12_isMan rfl rfl rfl (by decide +kernel) ⟨Nat.le_of_ble_eq_true rfl, Nat.le_of_ble_eq_true rfl⟩) (hM.1 0 _ rfl) rfl rfl hl.1 rfl (Nat.le_of_ble_eq_true rfl) dX12_by_2 (by exact ⟨Nat.zero_le _, Nat.zero_le _⟩)) hS (fun r u H locs hq hP hS => ?_)
  obtain ⟨rfl, rfl⟩ := hq
  have hP : gP D cy B z T (gI o 12 M I0) R H := hP
  refine lv_if_ne (tgt := 10) X.1 X.2.1 dX12_by_5 (by decide) (fun c5 => ?_) (fun c5 => ?_)
  · refine lv_iload_n X.1 X.2.1 dX12_by_10 rfl (lv_at hl 2 rfl) ?_
    refine g_run_i (g_runS [.int (nI ld)] X hK hP hS hC hB (c_isLoad _ (nI ld)) (va_cwS 1 X.2.2.2.2 gX12_by_X12_isLoad rfl rfl rfl (by decide +kernel) ⟨Nat.le_of_ble_eq_true rfl, Nat.le_of_ble_eq_true rfl⟩) rfl hl.1 rfl (Nat.le_of_ble_eq_true rfl) dX12_by_11 (by exact ⟨Nat.zero_le _, Nat.zero_le _⟩)) hS (fun r u H locs hq hP hS => ?_)
    obtain ⟨rfl, rfl⟩ := hq
    have hP : gP D cy B z T (gI o 12 M I0) R H := hP
    refine lv_if_eq (tgt := 38) X.1 X.2.1 dX12_by_14 (by decide) (fun c14 => ?_) (fun c14 => ?_)
    · exact absurd (g_le (a := 1) (b := 20) (x := 1) (y := 20) rfl rfl (by omega) (by omega) (by omega)) (gt_0 c14)
    · refine lv_iload_n X.1 X.2.1 dX12_by_17 rfl (lv_at hl 3 rfl) ?_
      refine lv_iconst (v := 0) X.1 X.2.1 dX12_by_18 (by decide) ?_
      refine lv_sipush (v := 9999) X.1 X.2.1 dX12_by_19 (by decide) ?_
      refine g_run_i (g_runS [.int (nI t), .int 0, .int 9999] X hK hP hS hC hB (c_in _ (nI t) 0 9999) (va_cwS 3 X.2.2.2.2 gX12_by_X12_in rfl rfl rfl (by decide +kernel) ⟨Nat.le_of_ble_eq_true rfl, Nat.le_of_ble_eq_true rfl⟩) rfl hl.1 rfl (Nat.le_of_ble_eq_true rfl) dX12_by_22 (by exact ⟨Nat.zero_le _, Nat.zero_le _⟩)) hS (fun r u H locs hq hP hS => ?_)
      obtain ⟨rfl, rfl⟩ := hq
      have hP : gP D cy B z T (gI o 12 M I0) R H := hP
      refine lv_if_eq (tgt := 38) X.1 X.2.1 dX12_by_25 (by decide) (fun c25 => ?_) (fun c25 => ?_)
      · exact absurd (g_le (a := 0) (b := 9999) (x := 0) (y := 9999) rfl rfl (by omega) (by omega) (by omega)) (gt_0 c25)
      · refine lv_aload_n X.1 X.2.1 dX12_by_28 rfl (lv_at hl 0 rfl) ?_
        refine lv_iload_n X.1 X.2.1 dX12_by_29 rfl (lv_at hl 1 rfl) ?_
        refine lv_iload_n X.1 X.2.1 dX12_by_30 rfl (lv_at hl 2 rfl) ?_
        refine lv_iload_n X.1 X.2.1 dX12_by_31 rfl (lv_at hl 3 rfl) ?_
        refine g_run_i (g_runV (k := 14) [.int (nI μ), .int (nI ld), .int (nI t)] X hK hP hS hC hB (c_byOf hM hi (μ := μ) (ld := ld) (t := t) hμ (by first | exact h38 | omega | (rw [sIt_18 hμ _ _ (by omega)]; exact h38) | (rw [h18 38 (by omega)]; exact h38)) (by omega) (by omega) (by omega) (by omega)) (cwV 3 X.2.2.2.2 gX12_by_X12_byOf rfl rfl rfl (by decide +kernel) ⟨Nat.le_of_ble_eq_true rfl, Nat.le_of_ble_eq_true rfl⟩) (hM.1 0 _ rfl) rfl rfl hl.1 rfl (Nat.le_of_ble_eq_true rfl) dX12_by_32 (by exact ⟨Nat.zero_le _, Nat.zero_le _⟩)) hS (fun r u H locs hq hP hS => ?_)
        obtain ⟨rfl, hkN1, τN1, msN1, hτaN1, hτbN1, hcaN1⟩ := hq
        generalize u = N1 at hP hkN1 hcaN1
        have hP : gP D cy B z T (gI o 12 N1 I0) R H := hP
        have hvN1 := inv_q hi hkN1 hcaN1
        refine lv_goto (tgt := 40) X.1 X.2.1 dX12_by_35 (by decide) ?_
        exact g_iret N1 X hr hlk hK hP hS dX12_by_40 ⟨rfl, hkN1, τN1, msN1, by omega, by omega, hvN1.2.2.2⟩
  · exact absurd (g_man hi hμn) (gt_0 c5)

set_option maxHeartbeats 4000000 in
set_option maxRecDepth 100000 in
/-- c_full_n -/
theorem c_full_n (hM : gMod o T R) (hi : mInv M σ fl ti sh K τ ms) {v : Int32} (hno : ¬ (0 ≤ v ∧ v ≤ nI (σ 38) - 1)) (t : Int32) : Met l yX12_full wsX12_full ({ frames := 2, cells := 0, slots := 0, locals := 43 }) (mPre s0 D cy B o z T R I0 M [.int v, .int t]) (mQi D cy B o z T R I0 (fun r u => r = -1 ∧ M = u)) 0 0 (gA B) := by
  refine g_met (maxL := 7) (ret := (some .int)) (by decide) rfl (Nat.le_of_ble_eq_true rfl) (fun p e s m args below meth c ls X hr hlk hnm hK hP hC hS hl => ?_)
  have hl : lv_has ls 7 [(0, .ref o), (1, .int v), (2, .int t)] := hl
  have hP : gP D cy B z T (gI o 12 M I0) R s.heap := hP
  have hB : B ≤ s.heap.size := by rw [hP.1]; exact hP.2.1
  have hσ := hi.1
  have hs := hi.2.1
  have hb := hi.2.2.1
  have hca := hi.2.2.2
  refine lv_aload_n X.1 X.2.1 dX12_full_0 rfl (lv_at hl 0 rfl) ?_
  refine lv_iload_n X.1 X.2.1 dX12_full_1 rfl (lv_at hl 1 rfl) ?_
  refine g_run_i (g_runV (k := 14) [.int v] X hK hP hS hC hB (c_isMan hM _ v) (cwV 1 X.2.2.2.2 gX12_full_X12_isMan rfl rfl rfl (by decide +kernel) ⟨Nat.le_of_ble_eq_true rfl, Nat.le_of_ble_eq_true rfl⟩) (hM.1 0 _ rfl) rfl rfl hl.1 rfl (Nat.le_of_ble_eq_true rfl) dX12_full_2 (by exact ⟨Nat.zero_le _, Nat.zero_le _⟩)) hS (fun r u H locs hq hP hS => ?_)
  obtain ⟨rfl, rfl⟩ := hq
  have hP : gP D cy B z T (gI o 12 M I0) R H := hP
  refine lv_if_ne (tgt := 10) X.1 X.2.1 dX12_full_5 (by decide) (fun c5 => ?_) (fun c5 => ?_)
  · exact absurd (gt_1 c5) (g_noman hi hno)
  · refine lv_iconst (v := (-1)) X.1 X.2.1 dX12_full_8 (by decide) ?_
    exact g_iret M X hr hlk hK hP hS dX12_full_9 ⟨rfl, rfl⟩

set_option maxHeartbeats 4000000 in
set_option maxRecDepth 100000 in
/-- c_full_b -/
theorem c_full_b (hM : gMod o T R) (hi : mInv M σ fl ti sh K τ ms) {μ : Nat} (hμn : μ < σ 38) {t : Int32} (hbad : ¬ (0 ≤ t ∧ t ≤ 9999)) : Met l yX12_full wsX12_full ({ frames := 2, cells := 0, slots := 0, locals := 43 }) (mPre s0 D cy B o z T R I0 M [.int (nI μ), .int t]) (mQi D cy B o z T R I0 (fun r u => r = -2 ∧ M = u)) 0 0 (gA B) := by
  refine g_met (maxL := 7) (ret := (some .int)) (by decide) rfl (Nat.le_of_ble_eq_true rfl) (fun p e s m args below meth c ls X hr hlk hnm hK hP hC hS hl => ?_)
  have hl : lv_has ls 7 [(0, .ref o), (1, .int (nI μ)), (2, .int t)] := hl
  have hP : gP D cy B z T (gI o 12 M I0) R s.heap := hP
  have hB : B ≤ s.heap.size := by rw [hP.1]; exact hP.2.1
  have hσ := hi.1
  have hs := hi.2.1
  have hb := hi.2.2.1
  have hca := hi.2.2.2
  refine lv_aload_n X.1 X.2.1 dX12_full_0 rfl (lv_at hl 0 rfl) ?_
  refine lv_iload_n X.1 X.2.1 dX12_full_1 rfl (lv_at hl 1 rfl) ?_
  refine g_run_i (g_runV (k := 14) [.int (nI μ)] X hK hP hS hC hB (c_isMan hM _ (nI μ)) (cwV 1 X.2.2.2.2 gX12_full_X12_isMan rfl rfl rfl (by decide +kernel) ⟨Nat.le_of_ble_eq_true rfl, Nat.le_of_ble_eq_true rfl⟩) (hM.1 0 _ rfl) rfl rfl hl.1 rfl (Nat.le_of_ble_eq_true rfl) dX12_full_2 (by exact ⟨Nat.zero_le _, Nat.zero_le _⟩)) hS (fun r u H locs hq hP hS => ?_)
  obtain ⟨rfl, rfl⟩ := hq
  have hP : gP D cy B z T (gI o 12 M I0) R H := hP
  refine lv_if_ne (tgt := 10) X.1 X.2.1 dX12_full_5 (by decide) (fun c5 => ?_) (fun c5 => ?_)
  · refine lv_iload_n X.1 X.2.1 dX12_full_10 rfl (lv_at hl 2 rfl) ?_
    refine lv_iconst (v := 0) X.1 X.2.1 dX12_full_11 (by decide) ?_
    refine lv_sipush (v := 9999) X.1 X.2.1 dX12_full_12 (by decide) ?_
    refine g_run_i (g_runS [.int t, .int 0, .int 9999] X hK hP hS hC hB (c_in _ t 0 9999) (va_cwS 3 X.2.2.2.2 gX12_full_X12_in rfl rfl rfl (by decide +kernel) ⟨Nat.le_of_ble_eq_true rfl, Nat.le_of_ble_eq_true rfl⟩) rfl hl.1 rfl (Nat.le_of_ble_eq_true rfl) dX12_full_15 (by exact ⟨Nat.zero_le _, Nat.zero_le _⟩)) hS (fun r u H locs hq hP hS => ?_)
    obtain ⟨rfl, rfl⟩ := hq
    have hP : gP D cy B z T (gI o 12 M I0) R H := hP
    refine lv_if_ne (tgt := 24) X.1 X.2.1 dX12_full_18 (by decide) (fun c18 => ?_) (fun c18 => ?_)
    · exact absurd (gt_1 c18) hbad
    · refine lv_bipush (v := (-2)) X.1 X.2.1 dX12_full_21 (by decide) ?_
      exact g_iret M X hr hlk hK hP hS dX12_full_23 ⟨rfl, rfl⟩
  · exact absurd (g_man hi hμn) (gt_0 c5)

theorem gn_nle1 {n : Nat} (h : n < 2 ^ 31) : ¬ nI n ≤ -1 := fun e => by
  have h1 := Int32.le_iff_toInt_le.mp e
  rw [nI_toInt h, show (-1 : Int32).toInt = -1 by decide] at h1
  omega
set_option maxHeartbeats 4000000 in
set_option maxRecDepth 100000 in
/-- c_full -/
theorem c_full (hM : gMod o T R) (hi : mInv M σ fl ti sh K τ ms) {μ : Nat} (hμn : μ < σ 38) {t : Nat} (ht : t ≤ 9999) (hτ : τ + 140000 < 2 ^ 30) (hK : K < 2 ^ 28) : Met l yX12_full wsX12_full ({ frames := 7, cells := 0, slots := 0, locals := 175 }) (mPre s0 D cy B o z T R I0 M [.int (nI μ), .int (nI t)]) (mQi D cy B o z T R I0 (fun r u => r = nI (sFb (sOv fl ti sh σ μ t) 19).1 ∧ mSame qS M u ∧ ∃ τ' ms', τ ≤ τ' ∧ τ' ≤ τ + 130020 ∧ mCache u fl σ τ' ms')) 0 0 (gA B) := by
  refine g_met (maxL := 7) (ret := (some .int)) (by decide) rfl (Nat.le_of_ble_eq_true rfl) (fun p e s m args below meth c ls X hr hlk hnm hK hP hC hS hl => ?_)
  have hl : lv_has ls 7 [(0, .ref o), (1, .int (nI μ)), (2, .int (nI t))] := hl
  have hP : gP D cy B z T (gI o 12 M I0) R s.heap := hP
  have hB : B ≤ s.heap.size := by rw [hP.1]; exact hP.2.1
  have hσ := hi.1
  have hs := hi.2.1
  have hb := hi.2.2.1
  have hca := hi.2.2.2
  have hμ : μ < 4 := Nat.lt_of_lt_of_le hμn hi.2.2.1.2.2.2.2.1
  have h38 := hμn
  refine lv_aload_n X.1 X.2.1 dX12_full_0 rfl (lv_at hl 0 rfl) ?_
  refine lv_iload_n X.1 X.2.1 dX12_full_1 rfl (lv_at hl 1 rfl) ?_
  refine g_run_i (g_runV (k := 14) [.int (nI μ)] X hK hP hS hC hB (c_isMan hM _ (nI μ)) (cwV 1 X.2.2.2.2 gX12_full_X12_isMan rfl rfl rfl (by decide +kernel) ⟨Nat.le_of_ble_eq_true rfl, Nat.le_of_ble_eq_true rfl⟩) (hM.1 0 _ rfl) rfl rfl hl.1 rfl (Nat.le_of_ble_eq_true rfl) dX12_full_2 (by exact ⟨Nat.zero_le _, Nat.zero_le _⟩)) hS (fun r u H locs hq hP hS => ?_)
  obtain ⟨rfl, rfl⟩ := hq
  have hP : gP D cy B z T (gI o 12 M I0) R H := hP
  refine lv_if_ne (tgt := 10) X.1 X.2.1 dX12_full_5 (by decide) (fun c5 => ?_) (fun c5 => ?_)
  · refine lv_iload_n X.1 X.2.1 dX12_full_10 rfl (lv_at hl 2 rfl) ?_
    refine lv_iconst (v := 0) X.1 X.2.1 dX12_full_11 (by decide) ?_
    refine lv_sipush (v := 9999) X.1 X.2.1 dX12_full_12 (by decide) ?_
    refine g_run_i (g_runS [.int (nI t), .int 0, .int 9999] X hK hP hS hC hB (c_in _ (nI t) 0 9999) (va_cwS 3 X.2.2.2.2 gX12_full_X12_in rfl rfl rfl (by decide +kernel) ⟨Nat.le_of_ble_eq_true rfl, Nat.le_of_ble_eq_true rfl⟩) rfl hl.1 rfl (Nat.le_of_ble_eq_true rfl) dX12_full_15 (by exact ⟨Nat.zero_le _, Nat.zero_le _⟩)) hS (fun r u H locs hq hP hS => ?_)
    obtain ⟨rfl, rfl⟩ := hq
    have hP : gP D cy B z T (gI o 12 M I0) R H := hP
    refine lv_if_ne (tgt := 24) X.1 X.2.1 dX12_full_18 (by decide) (fun c18 => ?_) (fun c18 => ?_)
    · refine lv_iconst (v := 0) X.1 X.2.1 dX12_full_24 (by decide) ?_
      refine lv_istore_n (lv' := [(3, .int 0), (0, .ref o), (1, .int (nI μ)), (2, .int (nI t))]) X.1 X.2.1 dX12_full_25 rfl hl (by decide) rfl (fun ls hl => ?_)
      refine lv_iconst (v := (-1)) X.1 X.2.1 dX12_full_26 (by decide) ?_
      refine lv_istore (lv' := [(4, .int (-1)), (3, .int 0), (0, .ref o), (1, .int (nI μ)), (2, .int (nI t))]) X.1 X.2.1 dX12_full_27 hl (by decide) rfl (fun ls hl => ?_)
      refine lv_iconst (v := 1) X.1 X.2.1 dX12_full_29 (by decide) ?_
      refine lv_istore (lv' := [(5, .int 1), (4, .int (-1)), (3, .int 0), (0, .ref o), (1, .int (nI μ)), (2, .int (nI t))]) X.1 X.2.1 dX12_full_30 hl (by decide) rfl (fun ls hl => ?_)
      refine m_loop (M := M) 20 32 [] (fun k N ls => ∃ (best most : Int32) (τk msk : Nat), ((k = 0 ∧ best = 0 ∧ most = -1) ∨ ∃ j, k = j + 1 ∧ best = nI (sFb (sOv fl ti sh σ μ t) j).1 ∧ most = nI (sFb (sOv fl ti sh σ μ t) j).2) ∧ τ ≤ τk ∧ τk ≤ τ + 6501 * k ∧ mSame qS M N ∧ mCache N fl σ τk msk ∧ lv_has ls 7 [(0, .ref o), (1, .int (nI μ)), (2, .int (nI t)), (3, .int best), (4, .int most), (5, .int (nI (k + 1)))]) 0 (by omega) ⟨0, -1, τ, ms, Or.inl ⟨rfl, rfl, rfl⟩, by omega, by omega, fun _ _ _ => rfl, hca, lv_sub hl [3, 4, 5, 2, 1, 0] rfl⟩ hP hS (fun k N H locs ls hk hiv hP hS ih => ?_)
      obtain ⟨best, most, τk, msk, hbm, hτ1, hτ2, hqs, hcaN, hl⟩ := hiv
      have hvN := inv_q hi hqs hcaN
      have hgl := fun ld => sOv_le (fl := fl) (ti := ti) (sh := sh) hb μ t ld
      refine lv_iload X.1 X.2.1 dX12_full_32 (lv_at hl 5 rfl) ?_
      refine lv_bipush (v := 20) X.1 X.2.1 dX12_full_34 (by decide) ?_
      refine lv_icmp_gt (tgt := 85) X.1 X.2.1 dX12_full_36 (by decide) (fun c36 => ?_) (fun c36 => ?_)
      · have n36 : 20 < (k + 1) := gq_lt c36 (show (20 : Int32) = nI 20 from rfl) (Eq.refl (nI (k + 1))) (by omega) (by omega)
        refine lv_iload_n X.1 X.2.1 dX12_full_85 rfl (lv_at hl 3 rfl) ?_
        obtain rfl : k = 20 := by omega
        rcases hbm with ⟨k0, -, -⟩ | ⟨j, hj, rfl, rfl⟩
        · exact absurd k0 (by decide)
        obtain rfl : j = 19 := by omega
        exact g_iret N X hr hlk hK hP hS dX12_full_86 ⟨rfl, hqs, τk, msk, by omega, by omega, hcaN⟩
      · have n36 : (k + 1) ≤ 20 := gq_nlt c36 (show (20 : Int32) = nI 20 from rfl) (Eq.refl (nI (k + 1))) (by omega) (by omega)
        have hk9 : k < 20 := by omega
        refine lv_aload_n X.1 X.2.1 dX12_full_39 rfl (lv_at hl 0 rfl) ?_
        refine lv_iload_n X.1 X.2.1 dX12_full_40 rfl (lv_at hl 1 rfl) ?_
        refine lv_iload X.1 X.2.1 dX12_full_41 (lv_at hl 5 rfl) ?_
        refine lv_iload_n X.1 X.2.1 dX12_full_43 rfl (lv_at hl 2 rfl) ?_
        refine g_run_i (g_runV (k := 14) [.int (nI μ), .int (nI (k + 1)), .int (nI t)] X hK hP hS hC hB (c_byOf hM hvN (μ := μ) (ld := (k + 1)) (t := t) hμ (by first | exact h38 | omega | (rw [sIt_18 hμ _ _ (by omega)]; exact h38) | (rw [h18 38 (by omega)]; exact h38)) (by omega) (by omega) (by omega) (by omega)) (cwV 3 X.2.2.2.2 gX12_full_X12_byOf rfl rfl rfl (by decide +kernel) ⟨Nat.le_of_ble_eq_true rfl, Nat.le_of_ble_eq_true rfl⟩) (hM.1 0 _ rfl) rfl rfl hl.1 rfl (Nat.le_of_ble_eq_true rfl) dX12_full_44 (by exact ⟨Nat.zero_le _, Nat.zero_le _⟩)) hS (fun r u H locs hq hP hS => ?_)
        obtain ⟨rfl, hkN1, τN1, msN1, hτaN1, hτbN1, hcaN1⟩ := hq
        generalize u = N1 at hP hkN1 hcaN1
        have hP : gP D cy B z T (gI o 12 N1 I0) R H := hP
        have hvN1 := inv_q hvN hkN1 hcaN1
        refine lv_istore (lv' := [(6, .int (nI (sOv fl ti sh σ μ t (k + 1)))), (0, .ref o), (1, .int (nI μ)), (2, .int (nI t)), (3, .int best), (4, .int most), (5, .int (nI (k + 1)))]) X.1 X.2.1 dX12_full_47 hl (by decide) rfl (fun ls hl => ?_)
        rcases hbm with ⟨k0, rfl, rfl⟩ | ⟨j, rfl, rfl, rfl⟩
        · refine lv_iload X.1 X.2.1 dX12_full_49 (lv_at hl 0 rfl) ?_
          refine lv_iload X.1 X.2.1 dX12_full_51 (lv_at hl 5 rfl) ?_
          refine lv_icmp_le (tgt := 61) X.1 X.2.1 dX12_full_53 (by decide) (fun c53 => ?_) (fun c53 => ?_)
          · exact absurd c53 (by rw [show nI (sOv fl ti sh σ μ t (k + 1)) = nI (sOv fl ti sh σ μ t (k + 1)) from rfl]; exact gn_nle1 (Nat.lt_of_le_of_lt (hgl _) (by decide)))
          · refine lv_iload X.1 X.2.1 dX12_full_56 (lv_at hl 6 rfl) ?_
            refine lv_goto (tgt := 62) X.1 X.2.1 dX12_full_58 (by decide) ?_
            refine lv_istore_n (lv' := [(3, .int (nI (k + 1))), (6, .int (nI (sOv fl ti sh σ μ t (k + 1)))), (0, .ref o), (1, .int (nI μ)), (2, .int (nI t)), (4, .int (-1)), (5, .int (nI (k + 1)))]) X.1 X.2.1 dX12_full_62 rfl hl (by decide) rfl (fun ls hl => ?_)
            refine lv_iload X.1 X.2.1 dX12_full_63 (lv_at hl 1 rfl) ?_
            refine lv_iload X.1 X.2.1 dX12_full_65 (lv_at hl 5 rfl) ?_
            refine lv_icmp_le (tgt := 75) X.1 X.2.1 dX12_full_67 (by decide) (fun c67 => ?_) (fun c67 => ?_)
            · exact absurd c67 (gn_nle1 (Nat.lt_of_le_of_lt (hgl _) (by decide)))
            · refine lv_iload X.1 X.2.1 dX12_full_70 (lv_at hl 1 rfl) ?_
              refine lv_goto (tgt := 77) X.1 X.2.1 dX12_full_72 (by decide) ?_
              refine lv_istore (lv' := [(4, .int (nI (sOv fl ti sh σ μ t (k + 1)))), (3, .int (nI (k + 1))), (6, .int (nI (sOv fl ti sh σ μ t (k + 1)))), (0, .ref o), (1, .int (nI μ)), (2, .int (nI t)), (5, .int (nI (k + 1)))]) X.1 X.2.1 dX12_full_77 hl (by decide) rfl (fun ls hl => ?_)
              refine lv_iinc (v := nI ((k + 1) + 1)) (lv' := [(5, .int (nI ((k + 1) + 1))), (4, .int (nI (sOv fl ti sh σ μ t (k + 1)))), (3, .int (nI (k + 1))), (6, .int (nI (sOv fl ti sh σ μ t (k + 1)))), (0, .ref o), (1, .int (nI μ)), (2, .int (nI t))]) X.1 X.2.1 dX12_full_79 hl (k := 6) rfl (gn_inc (Eq.refl (nI (k + 1))) 1) (by decide) rfl (fun ls hl => ?_)
              refine lv_goto (tgt := 32) X.1 X.2.1 dX12_full_82 (by decide) ?_
              exact ih _ _ _ _ (by omega) ⟨_, _, τN1, msN1, Or.inr ⟨0, by omega, by rw [k0]; rfl, by rw [k0]; rfl⟩, by omega, by omega, fun b i h => (hkN1 b i h).trans (hqs b i h), hvN1.2.2.2, lv_sub hl [4, 5, 6, 2, 1, 0] rfl⟩ hP hS
        · have hfl := sFb_le hgl j
          have hg2 := hgl (j + 1 + 1)
          refine lv_iload X.1 X.2.1 dX12_full_49 (lv_at hl 0 rfl) ?_
          refine lv_iload X.1 X.2.1 dX12_full_51 (lv_at hl 5 rfl) ?_
          refine lv_icmp_le (tgt := 61) X.1 X.2.1 dX12_full_53 (by decide) (fun c53 => ?_) (fun c53 => ?_)
          · have n53 : (sOv fl ti sh σ μ t (j + 1 + 1)) ≤ (sFb (sOv fl ti sh σ μ t) j).2 := gq_le c53 (Eq.refl (nI (sOv fl ti sh σ μ t (j + 1 + 1)))) (Eq.refl (nI ((sFb (sOv fl ti sh σ μ t) j).2))) (by omega) (by omega)
            refine lv_iload_n X.1 X.2.1 dX12_full_61 rfl (lv_at hl 4 rfl) ?_
            refine lv_istore_n (lv' := [(3, .int (nI ((sFb (sOv fl ti sh σ μ t) j).1))), (6, .int (nI (sOv fl ti sh σ μ t (j + 1 + 1)))), (0, .ref o), (1, .int (nI μ)), (2, .int (nI t)), (4, .int (nI ((sFb (sOv fl ti sh σ μ t) j).2))), (5, .int (nI (j + 1 + 1)))]) X.1 X.2.1 dX12_full_62 rfl hl (by decide) rfl (fun ls hl => ?_)
            refine lv_iload X.1 X.2.1 dX12_full_63 (lv_at hl 1 rfl) ?_
            refine lv_iload X.1 X.2.1 dX12_full_65 (lv_at hl 5 rfl) ?_
            refine lv_icmp_le (tgt := 75) X.1 X.2.1 dX12_full_67 (by decide) (fun c67 => ?_) (fun c67 => ?_)
            · have n67 : (sOv fl ti sh σ μ t (j + 1 + 1)) ≤ (sFb (sOv fl ti sh σ μ t) j).2 := gq_le c67 (Eq.refl (nI (sOv fl ti sh σ μ t (j + 1 + 1)))) (Eq.refl (nI ((sFb (sOv fl ti sh σ μ t) j).2))) (by omega) (by omega)
              refine lv_iload X.1 X.2.1 dX12_full_75 (lv_at hl 5 rfl) ?_
              refine lv_istore (lv' := [(4, .int (nI ((sFb (sOv fl ti sh σ μ t) j).2))), (3, .int (nI ((sFb (sOv fl ti sh σ μ t) j).1))), (6, .int (nI (sOv fl ti sh σ μ t (j + 1 + 1)))), (0, .ref o), (1, .int (nI μ)), (2, .int (nI t)), (5, .int (nI (j + 1 + 1)))]) X.1 X.2.1 dX12_full_77 hl (by decide) rfl (fun ls hl => ?_)
              refine lv_iinc (v := nI ((j + 1 + 1) + 1)) (lv' := [(5, .int (nI ((j + 1 + 1) + 1))), (4, .int (nI ((sFb (sOv fl ti sh σ μ t) j).2))), (3, .int (nI ((sFb (sOv fl ti sh σ μ t) j).1))), (6, .int (nI (sOv fl ti sh σ μ t (j + 1 + 1)))), (0, .ref o), (1, .int (nI μ)), (2, .int (nI t))]) X.1 X.2.1 dX12_full_79 hl (k := 6) rfl (gn_inc (Eq.refl (nI (j + 1 + 1))) 1) (by decide) rfl (fun ls hl => ?_)
              refine lv_goto (tgt := 32) X.1 X.2.1 dX12_full_82 (by decide) ?_
              exact ih _ _ _ _ (by omega) ⟨_, _, τN1, msN1, Or.inr ⟨j + 1, by omega, congrArg (fun q : Nat × Nat => nI q.1) (show _ = (if (sFb (sOv fl ti sh σ μ t) j).2 < (sOv fl ti sh σ μ t) (j + 1 + 1) then (j + 1 + 1, (sOv fl ti sh σ μ t) (j + 1 + 1)) else sFb (sOv fl ti sh σ μ t) j) by rw [if_neg (by omega)]), congrArg (fun q : Nat × Nat => nI q.2) (show _ = (if (sFb (sOv fl ti sh σ μ t) j).2 < (sOv fl ti sh σ μ t) (j + 1 + 1) then (j + 1 + 1, (sOv fl ti sh σ μ t) (j + 1 + 1)) else sFb (sOv fl ti sh σ μ t) j) by rw [if_neg (by omega)])⟩, by omega, by omega, fun b i h => (hkN1 b i h).trans (hqs b i h), hvN1.2.2.2, lv_sub hl [4, 5, 6, 2, 1, 0] rfl⟩ hP hS
            · exact absurd c53 c67
          · have n53 : (sFb (sOv fl ti sh σ μ t) j).2 < (sOv fl ti sh σ μ t (j + 1 + 1)) := gq_nle c53 (Eq.refl (nI (sOv fl ti sh σ μ t (j + 1 + 1)))) (Eq.refl (nI ((sFb (sOv fl ti sh σ μ t) j).2))) (by omega) (by omega)
            refine lv_iload X.1 X.2.1 dX12_full_56 (lv_at hl 6 rfl) ?_
            refine lv_goto (tgt := 62) X.1 X.2.1 dX12_full_58 (by decide) ?_
            refine lv_istore_n (lv' := [(3, .int (nI (j + 1 + 1))), (6, .int (nI (sOv fl ti sh σ μ t (j + 1 + 1)))), (0, .ref o), (1, .int (nI μ)), (2, .int (nI t)), (4, .int (nI ((sFb (sOv fl ti sh σ μ t) j).2))), (5, .int (nI (j + 1 + 1)))]) X.1 X.2.1 dX12_full_62 rfl hl (by decide) rfl (fun ls hl => ?_)
            refine lv_iload X.1 X.2.1 dX12_full_63 (lv_at hl 1 rfl) ?_
            refine lv_iload X.1 X.2.1 dX12_full_65 (lv_at hl 5 rfl) ?_
            refine lv_icmp_le (tgt := 75) X.1 X.2.1 dX12_full_67 (by decide) (fun c67 => ?_) (fun c67 => ?_)
            · exact absurd c67 c53
            · have n67 : (sFb (sOv fl ti sh σ μ t) j).2 < (sOv fl ti sh σ μ t (j + 1 + 1)) := gq_nle c67 (Eq.refl (nI (sOv fl ti sh σ μ t (j + 1 + 1)))) (Eq.refl (nI ((sFb (sOv fl ti sh σ μ t) j).2))) (by omega) (by omega)
              refine lv_iload X.1 X.2.1 dX12_full_70 (lv_at hl 1 rfl) ?_
              refine lv_goto (tgt := 77) X.1 X.2.1 dX12_full_72 (by decide) ?_
              refine lv_istore (lv' := [(4, .int (nI (sOv fl ti sh σ μ t (j + 1 + 1)))), (3, .int (nI (j + 1 + 1))), (6, .int (nI (sOv fl ti sh σ μ t (j + 1 + 1)))), (0, .ref o), (1, .int (nI μ)), (2, .int (nI t)), (5, .int (nI (j + 1 + 1)))]) X.1 X.2.1 dX12_full_77 hl (by decide) rfl (fun ls hl => ?_)
              refine lv_iinc (v := nI ((j + 1 + 1) + 1)) (lv' := [(5, .int (nI ((j + 1 + 1) + 1))), (4, .int (nI (sOv fl ti sh σ μ t (j + 1 + 1)))), (3, .int (nI (j + 1 + 1))), (6, .int (nI (sOv fl ti sh σ μ t (j + 1 + 1)))), (0, .ref o), (1, .int (nI μ)), (2, .int (nI t))]) X.1 X.2.1 dX12_full_79 hl (k := 6) rfl (gn_inc (Eq.refl (nI (j + 1 + 1))) 1) (by decide) rfl (fun ls hl => ?_)
              refine lv_goto (tgt := 32) X.1 X.2.1 dX12_full_82 (by decide) ?_
              exact ih _ _ _ _ (by omega) ⟨_, _, τN1, msN1, Or.inr ⟨j + 1, by omega, congrArg (fun q : Nat × Nat => nI q.1) (show _ = (if (sFb (sOv fl ti sh σ μ t) j).2 < (sOv fl ti sh σ μ t) (j + 1 + 1) then (j + 1 + 1, (sOv fl ti sh σ μ t) (j + 1 + 1)) else sFb (sOv fl ti sh σ μ t) j) by rw [if_pos (by omega)]), congrArg (fun q : Nat × Nat => nI q.2) (show _ = (if (sFb (sOv fl ti sh σ μ t) j).2 < (sOv fl ti sh σ μ t) (j + 1 + 1) then (j + 1 + 1, (sOv fl ti sh σ μ t) (j + 1 + 1)) else sFb (sOv fl ti sh σ μ t) j) by rw [if_pos (by omega)])⟩, by omega, by omega, fun b i h => (hkN1 b i h).trans (hqs b i h), hvN1.2.2.2, lv_sub hl [4, 5, 6, 2, 1, 0] rfl⟩ hP hS
    · exact absurd (g_le (a := 0) (b := 9999) (x := 0) (y := 9999) rfl rfl (by omega) (by omega) (by omega)) (gt_0 c18)
  · exact absurd (g_man hi hμn) (gt_0 c5)

end MN
