section MP
variable {l : Launch} {s0 : State} {D : va_G} {cy : Nat → ClassId} {B o z : Nat} {T : Nat → Nat × Nat} {R : Nat → Nat → Option Nat} {I0 : Nat → Nat → Int32} {M : Nat → Nat → Int32} {σ : Nat → Nat} {fl : List Nat} {ti sh K τ ms : Nat}
/-- what RUN tells of σ to κ -/
def sRs (w : Nat) (σ κ : Nat → Nat) : Nat := if w = 0 then κ 1 - σ 1 else if w = 1 then κ 2 - σ 2 else if w = 3 then (σ 0 - κ 0) - (κ 1 - σ 1) else 0
theorem sRs_0 (w : Nat) (σ : Nat → Nat) : sRs w σ σ = 0 := by
  unfold sRs
  simp

set_option maxHeartbeats 4000000 in
set_option maxRecDepth 100000 in
/-- c_run_n -/
theorem c_run_n (hM : gMod o T R) (hi : mInv M σ fl ti sh K τ ms) {v w9 : Int32} (hno : ¬ ((0 ≤ v ∧ v ≤ nI (σ 38) - 1) ∧ (0 ≤ w9 ∧ w9 ≤ 3))) (n a : Int32) : Met l yX12_run wsX12_run ({ frames := 2, cells := 0, slots := 0, locals := 43 }) (mPre s0 D cy B o z T R I0 M [.int v, .int n, .int a, .int w9]) (mQi D cy B o z T R I0 (fun r u => r = -1001 ∧ M = u)) 0 0 (gA B) := by
  refine g_met (maxL := 7) (ret := (some .int)) (by decide) rfl (Nat.le_of_ble_eq_true rfl) (fun p e s m args below meth c ls X hr hlk hnm hK hP hC hS hl => ?_)
  have hl : lv_has ls 7 [(0, .ref o), (1, .int v), (2, .int n), (3, .int a), (4, .int w9)] := hl
  have hP : gP D cy B z T (gI o 12 M I0) R s.heap := hP
  have hB : B ≤ s.heap.size := by rw [hP.1]; exact hP.2.1
  have hin : ∀ w ∈ wsX120, w ∈ wsX12_run := fun _ h => List.mem_cons_of_mem _ (List.mem_append_right _ h)
  have k9 : Cond.fieldLink RX12 9 "BarrowPlankModel" "s" "[I" ∈ wsX12_run := by decide +kernel
  have k174 : Cond.fieldLink RX12 174 "BarrowPlankModel" "came" "I" ∈ wsX12_run := by decide +kernel
  have k187 : Cond.fieldLink RX12 187 "BarrowPlankModel" "seconds" "I" ∈ wsX12_run := by decide +kernel
  have k197 : Cond.fieldLink RX12 197 "BarrowPlankModel" "brought" "I" ∈ wsX12_run := by decide +kernel
  have hσ := hi.1
  have hs := hi.2.1
  have hb := hi.2.2.1
  have hca := hi.2.2.2
  refine lv_aload_n X.1 X.2.1 dX12_run_0 rfl (lv_at hl 0 rfl) ?_
  refine lv_iload_n X.1 X.2.1 dX12_run_1 rfl (lv_at hl 1 rfl) ?_
  refine g_run_i (g_runV (k := 14) [.int v] X hK hP hS hC hB (c_isMan hM _ v) (cwV 1 X.2.2.2.2 gX12_run_X12_isMan rfl rfl rfl (by decide +kernel) ⟨Nat.le_of_ble_eq_true rfl, Nat.le_of_ble_eq_true rfl⟩) (hM.1 0 _ rfl) rfl rfl hl.1 rfl (Nat.le_of_ble_eq_true rfl) dX12_run_2 (by exact ⟨Nat.zero_le _, Nat.zero_le _⟩)) hS (fun r u H locs hq hP hS => ?_)
  obtain ⟨rfl, rfl⟩ := hq
  have hP : gP D cy B z T (gI o 12 M I0) R H := hP
  refine lv_if_eq (tgt := 18) X.1 X.2.1 dX12_run_5 (by decide) (fun c5 => ?_) (fun c5 => ?_)
  · refine lv_sipush (v := (-1001)) X.1 X.2.1 dX12_run_18 (by decide) ?_
    exact g_iret M X hr hlk hK hP hS dX12_run_21 ⟨rfl, rfl⟩
  · refine lv_iload X.1 X.2.1 dX12_run_8 (lv_at hl 4 rfl) ?_
    refine lv_iconst (v := 0) X.1 X.2.1 dX12_run_10 (by decide) ?_
    refine lv_iconst (v := 3) X.1 X.2.1 dX12_run_11 (by decide) ?_
    refine g_run_i (g_runS [.int w9, .int 0, .int 3] X hK hP hS hC hB (c_in _ w9 0 3) (va_cwS 3 X.2.2.2.2 gX12_run_X12_in rfl rfl rfl (by decide +kernel) ⟨Nat.le_of_ble_eq_true rfl, Nat.le_of_ble_eq_true rfl⟩) rfl hl.1 rfl (Nat.le_of_ble_eq_true rfl) dX12_run_12 (by exact ⟨Nat.zero_le _, Nat.zero_le _⟩)) hS (fun r u H locs hq hP hS => ?_)
    obtain ⟨rfl, rfl⟩ := hq
    have hP : gP D cy B z T (gI o 12 M I0) R H := hP
    refine lv_if_ne (tgt := 22) X.1 X.2.1 dX12_run_15 (by decide) (fun c15 => ?_) (fun c15 => ?_)
    · exact absurd ⟨(by rw [← hσ 38 (by decide) (by decide)]; exact gt_1 c5), gt_1 c15⟩ hno
    · refine lv_sipush (v := (-1001)) X.1 X.2.1 dX12_run_18 (by decide) ?_
      exact g_iret M X hr hlk hK hP hS dX12_run_21 ⟨rfl, rfl⟩

set_option maxHeartbeats 4000000 in
set_option maxRecDepth 100000 in
/-- c_run_b -/
theorem c_run_b (hM : gMod o T R) (hi : mInv M σ fl ti sh K τ ms) {μ : Nat} (hμn : μ < σ 38) {w9 : Nat} (hw : w9 ≤ 3) {n a : Int32} (hbad : ¬ ((0 ≤ n ∧ n ≤ 30) ∧ (1 ≤ a ∧ a ≤ 20))) : Met l yX12_run wsX12_run ({ frames := 2, cells := 0, slots := 0, locals := 43 }) (mPre s0 D cy B o z T R I0 M [.int (nI μ), .int n, .int a, .int (nI w9)]) (mQi D cy B o z T R I0 (fun r u => r = -1002 ∧ M = u)) 0 0 (gA B) := by
  refine g_met (maxL := 7) (ret := (some .int)) (by decide) rfl (Nat.le_of_ble_eq_true rfl) (fun p e s m args below meth c ls X hr hlk hnm hK hP hC hS hl => ?_)
  have hl : lv_has ls 7 [(0, .ref o), (1, .int (nI μ)), (2, .int n), (3, .int a), (4, .int (nI w9))] := hl
  have hP : gP D cy B z T (gI o 12 M I0) R s.heap := hP
  have hB : B ≤ s.heap.size := by rw [hP.1]; exact hP.2.1
  have hin : ∀ w ∈ wsX120, w ∈ wsX12_run := fun _ h => List.mem_cons_of_mem _ (List.mem_append_right _ h)
  have k9 : Cond.fieldLink RX12 9 "BarrowPlankModel" "s" "[I" ∈ wsX12_run := by decide +kernel
  have k174 : Cond.fieldLink RX12 174 "BarrowPlankModel" "came" "I" ∈ wsX12_run := by decide +kernel
  have k187 : Cond.fieldLink RX12 187 "BarrowPlankModel" "seconds" "I" ∈ wsX12_run := by decide +kernel
  have k197 : Cond.fieldLink RX12 197 "BarrowPlankModel" "brought" "I" ∈ wsX12_run := by decide +kernel
  have hσ := hi.1
  have hs := hi.2.1
  have hb := hi.2.2.1
  have hca := hi.2.2.2
  refine lv_aload_n X.1 X.2.1 dX12_run_0 rfl (lv_at hl 0 rfl) ?_
  refine lv_iload_n X.1 X.2.1 dX12_run_1 rfl (lv_at hl 1 rfl) ?_
  refine g_run_i (g_runV (k := 14) [.int (nI μ)] X hK hP hS hC hB (c_isMan hM _ (nI μ)) (cwV 1 X.2.2.2.2 gX12_run_X12_isMan rfl rfl rfl (by decide +kernel) ⟨Nat.le_of_ble_eq_true rfl, Nat.le_of_ble_eq_true rfl⟩) (hM.1 0 _ rfl) rfl rfl hl.1 rfl (Nat.le_of_ble_eq_true rfl) dX12_run_2 (by exact ⟨Nat.zero_le _, Nat.zero_le _⟩)) hS (fun r u H locs hq hP hS => ?_)
  obtain ⟨rfl, rfl⟩ := hq
  have hP : gP D cy B z T (gI o 12 M I0) R H := hP
  refine lv_if_eq (tgt := 18) X.1 X.2.1 dX12_run_5 (by decide) (fun c5 => ?_) (fun c5 => ?_)
  · exact absurd (g_man hi hμn) (gt_0 c5)
  · refine lv_iload X.1 X.2.1 dX12_run_8 (lv_at hl 4 rfl) ?_
    refine lv_iconst (v := 0) X.1 X.2.1 dX12_run_10 (by decide) ?_
    refine lv_iconst (v := 3) X.1 X.2.1 dX12_run_11 (by decide) ?_
    refine g_run_i (g_runS [.int (nI w9), .int 0, .int 3] X hK hP hS hC hB (c_in _ (nI w9) 0 3) (va_cwS 3 X.2.2.2.2 gX12_run_X12_in rfl rfl rfl (by decide +kernel) ⟨Nat.le_of_ble_eq_true rfl, Nat.le_of_ble_eq_true rfl⟩) rfl hl.1 rfl (Nat.le_of_ble_eq_true rfl) dX12_run_12 (by exact ⟨Nat.zero_le _, Nat.zero_le _⟩)) hS (fun r u H locs hq hP hS => ?_)
    obtain ⟨rfl, rfl⟩ := hq
    have hP : gP D cy B z T (gI o 12 M I0) R H := hP
    refine lv_if_ne (tgt := 22) X.1 X.2.1 dX12_run_15 (by decide) (fun c15 => ?_) (fun c15 => ?_)
    · refine lv_iload_n X.1 X.2.1 dX12_run_22 rfl (lv_at hl 2 rfl) ?_
      refine lv_iconst (v := 0) X.1 X.2.1 dX12_run_23 (by decide) ?_
      refine lv_bipush (v := 30) X.1 X.2.1 dX12_run_24 (by decide) ?_
      refine g_run_i (g_runS [.int n, .int 0, .int 30] X hK hP hS hC hB (c_in _ n 0 30) (va_cwS 3 X.2.2.2.2 gX12_run_X12_in rfl rfl rfl (by decide +kernel) ⟨Nat.le_of_ble_eq_true rfl, Nat.le_of_ble_eq_true rfl⟩) rfl hl.1 rfl (Nat.le_of_ble_eq_true rfl) dX12_run_26 (by exact ⟨Nat.zero_le _, Nat.zero_le _⟩)) hS (fun r u H locs hq hP hS => ?_)
      obtain ⟨rfl, rfl⟩ := hq
      have hP : gP D cy B z T (gI o 12 M I0) R H := hP
      refine lv_if_eq (tgt := 39) X.1 X.2.1 dX12_run_29 (by decide) (fun c29 => ?_) (fun c29 => ?_)
      · refine lv_sipush (v := (-1002)) X.1 X.2.1 dX12_run_39 (by decide) ?_
        exact g_iret M X hr hlk hK hP hS dX12_run_42 ⟨rfl, rfl⟩
      · refine lv_iload_n X.1 X.2.1 dX12_run_32 rfl (lv_at hl 3 rfl) ?_
        refine g_run_i (g_runS [.int a] X hK hP hS hC hB (c_isLoad _ a) (va_cwS 1 X.2.2.2.2 gX12_run_X12_isLoad rfl rfl rfl (by decide +kernel) ⟨Nat.le_of_ble_eq_true rfl, Nat.le_of_ble_eq_true rfl⟩) rfl hl.1 rfl (Nat.le_of_ble_eq_true rfl) dX12_run_33 (by exact ⟨Nat.zero_le _, Nat.zero_le _⟩)) hS (fun r u H locs hq hP hS => ?_)
        obtain ⟨rfl, rfl⟩ := hq
        have hP : gP D cy B z T (gI o 12 M I0) R H := hP
        refine lv_if_ne (tgt := 43) X.1 X.2.1 dX12_run_36 (by decide) (fun c36 => ?_) (fun c36 => ?_)
        · exact absurd ⟨gt_1 c29, gt_1 c36⟩ hbad
        · refine lv_sipush (v := (-1002)) X.1 X.2.1 dX12_run_39 (by decide) ?_
          exact g_iret M X hr hlk hK hP hS dX12_run_42 ⟨rfl, rfl⟩
    · exact absurd (g_le (a := 0) (b := 3) (x := 0) (y := 3) rfl rfl (by omega) (by omega) (by omega)) (gt_0 c15)

set_option maxHeartbeats 4000000 in
set_option maxRecDepth 100000 in
/-- c_run -/
theorem c_run (hM : gMod o T R) (hi : mInv M σ fl ti sh K τ ms) {μ : Nat} (hμn : μ < σ 38) {w9 : Nat} (hw : w9 ≤ 3) {n : Nat} (hn : n ≤ 30) {ld : Nat} (hl1 : 1 ≤ ld) (hld : ld ≤ 20) (hτ : τ + 1000 < 2 ^ 30) (hK : K < 2 ^ 28) : Met l yX12_run wsX12_run ({ frames := 5, cells := 0, slots := 0, locals := 125 }) (mPre s0 D cy B o z T R I0 M [.int (nI μ), .int (nI n), .int (nI ld), .int (nI w9)]) (mQi D cy B o z T R I0 (fun r u => r = nI (if w9 = 2 then (sIt fl ti sh σ μ ld n) (4 + μ) else sRs w9 σ (sIt fl ti sh σ μ ld n)) ∧ mSame qS M u ∧ ∃ τ' ms', τ ≤ τ' ∧ τ' ≤ τ + 970 ∧ mCache u fl σ τ' ms')) 0 0 (gA B) := by
  refine g_met (maxL := 7) (ret := (some .int)) (by decide) rfl (Nat.le_of_ble_eq_true rfl) (fun p e s m args below meth c ls X hr hlk hnm hK hP hC hS hl => ?_)
  have hl : lv_has ls 7 [(0, .ref o), (1, .int (nI μ)), (2, .int (nI n)), (3, .int (nI ld)), (4, .int (nI w9))] := hl
  have hP : gP D cy B z T (gI o 12 M I0) R s.heap := hP
  have hB : B ≤ s.heap.size := by rw [hP.1]; exact hP.2.1
  have hin : ∀ w ∈ wsX120, w ∈ wsX12_run := fun _ h => List.mem_cons_of_mem _ (List.mem_append_right _ h)
  have k9 : Cond.fieldLink RX12 9 "BarrowPlankModel" "s" "[I" ∈ wsX12_run := by decide +kernel
  have k174 : Cond.fieldLink RX12 174 "BarrowPlankModel" "came" "I" ∈ wsX12_run := by decide +kernel
  have k187 : Cond.fieldLink RX12 187 "BarrowPlankModel" "seconds" "I" ∈ wsX12_run := by decide +kernel
  have k197 : Cond.fieldLink RX12 197 "BarrowPlankModel" "brought" "I" ∈ wsX12_run := by decide +kernel
  have hσ := hi.1
  have hs := hi.2.1
  have hb := hi.2.2.1
  have hca := hi.2.2.2
  have hμ : μ < 4 := Nat.lt_of_lt_of_le hμn hi.2.2.1.2.2.2.2.1
  have h38 := hμn
  refine lv_aload_n X.1 X.2.1 dX12_run_0 rfl (lv_at hl 0 rfl) ?_
  refine lv_iload_n X.1 X.2.1 dX12_run_1 rfl (lv_at hl 1 rfl) ?_
  refine g_run_i (g_runV (k := 14) [.int (nI μ)] X hK hP hS hC hB (c_isMan hM _ (nI μ)) (cwV 1 X.2.2.2.2 gX12_run_X12_isMan rfl rfl rfl (by decide +kernel) ⟨Nat.le_of_ble_eq_true rfl, Nat.le_of_ble_eq_true rfl⟩) (hM.1 0 _ rfl) rfl rfl hl.1 rfl (Nat.le_of_ble_eq_true rfl) dX12_run_2 (by exact ⟨Nat.zero_le _, Nat.zero_le _⟩)) hS (fun r u H locs hq hP hS => ?_)
  obtain ⟨rfl, rfl⟩ := hq
  have hP : gP D cy B z T (gI o 12 M I0) R H := hP
  refine lv_if_eq (tgt := 18) X.1 X.2.1 dX12_run_5 (by decide) (fun c5 => ?_) (fun c5 => ?_)
  · exact absurd (g_man hi hμn) (gt_0 c5)
  · refine lv_iload X.1 X.2.1 dX12_run_8 (lv_at hl 4 rfl) ?_
    refine lv_iconst (v := 0) X.1 X.2.1 dX12_run_10 (by decide) ?_
    refine lv_iconst (v := 3) X.1 X.2.1 dX12_run_11 (by decide) ?_
    refine g_run_i (g_runS [.int (nI w9), .int 0, .int 3] X hK hP hS hC hB (c_in _ (nI w9) 0 3) (va_cwS 3 X.2.2.2.2 gX12_run_X12_in rfl rfl rfl (by decide +kernel) ⟨Nat.le_of_ble_eq_true rfl, Nat.le_of_ble_eq_true rfl⟩) rfl hl.1 rfl (Nat.le_of_ble_eq_true rfl) dX12_run_12 (by exact ⟨Nat.zero_le _, Nat.zero_le _⟩)) hS (fun r u H locs hq hP hS => ?_)
    obtain ⟨rfl, rfl⟩ := hq
    have hP : gP D cy B z T (gI o 12 M I0) R H := hP
    refine lv_if_ne (tgt := 22) X.1 X.2.1 dX12_run_15 (by decide) (fun c15 => ?_) (fun c15 => ?_)
    · refine lv_iload_n X.1 X.2.1 dX12_run_22 rfl (lv_at hl 2 rfl) ?_
      refine lv_iconst (v := 0) X.1 X.2.1 dX12_run_23 (by decide) ?_
      refine lv_bipush (v := 30) X.1 X.2.1 dX12_run_24 (by decide) ?_
      refine g_run_i (g_runS [.int (nI n), .int 0, .int 30] X hK hP hS hC hB (c_in _ (nI n) 0 30) (va_cwS 3 X.2.2.2.2 gX12_run_X12_in rfl rfl rfl (by decide +kernel) ⟨Nat.le_of_ble_eq_true rfl, Nat.le_of_ble_eq_true rfl⟩) rfl hl.1 rfl (Nat.le_of_ble_eq_true rfl) dX12_run_26 (by exact ⟨Nat.zero_le _, Nat.zero_le _⟩)) hS (fun r u H locs hq hP hS => ?_)
      obtain ⟨rfl, rfl⟩ := hq
      have hP : gP D cy B z T (gI o 12 M I0) R H := hP
      refine lv_if_eq (tgt := 39) X.1 X.2.1 dX12_run_29 (by decide) (fun c29 => ?_) (fun c29 => ?_)
      · exact absurd (g_le (a := 0) (b := 30) (x := 0) (y := 30) rfl rfl (by omega) (by omega) (by omega)) (gt_0 c29)
      · refine lv_iload_n X.1 X.2.1 dX12_run_32 rfl (lv_at hl 3 rfl) ?_
        refine g_run_i (g_runS [.int (nI ld)] X hK hP hS hC hB (c_isLoad _ (nI ld)) (va_cwS 1 X.2.2.2.2 gX12_run_X12_isLoad rfl rfl rfl (by decide +kernel) ⟨Nat.le_of_ble_eq_true rfl, Nat.le_of_ble_eq_true rfl⟩) rfl hl.1 rfl (Nat.le_of_ble_eq_true rfl) dX12_run_33 (by exact ⟨Nat.zero_le _, Nat.zero_le _⟩)) hS (fun r u H locs hq hP hS => ?_)
        obtain ⟨rfl, rfl⟩ := hq
        have hP : gP D cy B z T (gI o 12 M I0) R H := hP
        refine lv_if_ne (tgt := 43) X.1 X.2.1 dX12_run_36 (by decide) (fun c36 => ?_) (fun c36 => ?_)
        · refine lv_aload_n X.1 X.2.1 dX12_run_43 rfl (lv_at hl 0 rfl) ?_
          refine lv_iconst (v := 0) X.1 X.2.1 dX12_run_44 (by decide) ?_
          refine g_run_v (g_runV (k := 14) [.int 0] X hK hP hS hC hB (c_keeps hM M (f := 0) (by decide)) (cwV 1 X.2.2.2.2 gX12_run_X12_keeps rfl rfl rfl (by decide +kernel) ⟨Nat.le_of_ble_eq_true rfl, Nat.le_of_ble_eq_true rfl⟩) (hM.1 0 _ rfl) rfl rfl hl.1 rfl (Nat.le_of_ble_eq_true rfl) dX12_run_45 (by exact ⟨Nat.zero_le _, Nat.zero_le _⟩)) hS (fun u H locs hq hP hS => ?_)
          have hq : mKeep M 0 18 = u := hq.symm
          have hvN1 := inv_keep hi 0
          have hfN1 := fr_keep hi.1 0
          have hrN1 : ∀ b i, b ≠ 3 → mKeep M 0 18 b i = M b i := fun b i h => mKeep_r _ _ _ _ _ h
          generalize mKeep M 0 18 = N1 at hq hP hvN1 hfN1 hrN1
          subst hq
          have hP : gP D cy B z T (gI o 12 N1 I0) R H := hP
          refine lv_iconst (v := 0) X.1 X.2.1 dX12_run_48 (by decide) ?_
          refine lv_istore (lv' := [(5, .int 0), (0, .ref o), (1, .int (nI μ)), (2, .int (nI n)), (3, .int (nI ld)), (4, .int (nI w9))]) X.1 X.2.1 dX12_run_49 hl (by decide) rfl (fun ls hl => ?_)
          refine lv_iconst (v := 0) X.1 X.2.1 dX12_run_51 (by decide) ?_
          refine lv_istore (lv' := [(6, .int 0), (5, .int 0), (0, .ref o), (1, .int (nI μ)), (2, .int (nI n)), (3, .int (nI ld)), (4, .int (nI w9))]) X.1 X.2.1 dX12_run_52 hl (by decide) rfl (fun ls hl => ?_)
          have h00 : sRs w9 σ σ = 0 := sRs_0 w9 σ
          refine m_loop (M := N1) n 54 [] (fun k N ls => ∃ (τk msk : Nat), mInv N (sIt fl ti sh σ μ ld k) fl ti sh (K + 300000 * k) τk msk ∧ τ ≤ τk ∧ τk ≤ τ + 32 * k ∧ mFr N 0 σ ∧ (∀ b i, ¬ (qS b i ∨ (b = 1 ∧ i < 18)) → N b i = M b i) ∧ lv_has ls 7 [(0, .ref o), (1, .int (nI μ)), (2, .int (nI n)), (3, .int (nI ld)), (4, .int (nI w9)), (5, .int (nI (sRs w9 σ (sIt fl ti sh σ μ ld k)))), (6, .int (nI k))]) 0 (by omega) ⟨τ, ms, hvN1, by omega, by omega, hfN1, (fun b i h => by unfold qS at h; exact ((hrN1 b i (by omega)).trans rfl)), by rw [show sIt fl ti sh σ μ ld 0 = σ from rfl, h00]; exact lv_sub hl [2, 3, 4, 5, 6, 1, 0] rfl⟩ hP hS (fun k N H locs ls hk hiv hP hS ih => ?_)
          obtain ⟨τk, msk, hvN, hτ1, hτ2, hfN, hkN, hl⟩ := hiv
          have hm := sIt_m (fl := fl) (ti := ti) (sh := sh) (σ := σ) (μ := μ) (ld := ld) k
          have hm2 := sIt_m (fl := fl) (ti := ti) (sh := sh) (σ := σ) (μ := μ) (ld := ld) (k + 1)
          refine lv_iload X.1 X.2.1 dX12_run_54 (lv_at hl 6 rfl) ?_
          refine lv_iload_n X.1 X.2.1 dX12_run_56 rfl (lv_at hl 2 rfl) ?_
          refine lv_icmp_ge (tgt := 121) X.1 X.2.1 dX12_run_57 (by decide) (fun c57 => ?_) (fun c57 => ?_)
          · have n57 : n ≤ k := gq_le c57 (Eq.refl (nI n)) (Eq.refl (nI k)) (by omega) (by omega)
            have hkn : k = n := by omega
            refine lv_iload X.1 X.2.1 dX12_run_121 (lv_at hl 4 rfl) ?_
            refine lv_iconst (v := 2) X.1 X.2.1 dX12_run_123 (by decide) ?_
            refine lv_icmp_ne (tgt := 138) X.1 X.2.1 dX12_run_124 (by decide) (fun c124 => ?_) (fun c124 => ?_)
            · have n124 : ¬ w9 = 2 := gq_ne c124 (Eq.refl (nI w9)) (show (2 : Int32) = nI 2 from rfl) (by omega) (by omega)
              refine lv_iload X.1 X.2.1 dX12_run_138 (lv_at hl 5 rfl) ?_
              refine lv_istore (lv' := [(6, .int (nI (sRs w9 σ (sIt fl ti sh σ μ ld k)))), (0, .ref o), (1, .int (nI μ)), (2, .int (nI n)), (3, .int (nI ld)), (4, .int (nI w9)), (5, .int (nI (sRs w9 σ (sIt fl ti sh σ μ ld k))))]) X.1 X.2.1 dX12_run_140 hl (by decide) rfl (fun ls hl => ?_)
              refine lv_aload_n X.1 X.2.1 dX12_run_142 rfl (lv_at hl 1 rfl) ?_
              refine lv_iconst (v := 0) X.1 X.2.1 dX12_run_143 (by decide) ?_
              refine g_run_v (g_runV (k := 14) [.int 0] X hK hP hS hC hB (c_back hM N (f := 0) (by decide)) (cwV 1 X.2.2.2.2 gX12_run_X12_goesBackTo rfl rfl rfl (by decide +kernel) ⟨Nat.le_of_ble_eq_true rfl, Nat.le_of_ble_eq_true rfl⟩) (hM.1 0 _ rfl) rfl rfl hl.1 rfl (Nat.le_of_ble_eq_true rfl) dX12_run_144 (by exact ⟨Nat.zero_le _, Nat.zero_le _⟩)) hS (fun u H locs hq hP hS => ?_)
              have hvN2 := inv_back hvN hfN hb (fun i hi9 => sIt_18 hμ _ i hi9) (by omega)
              have hrN2 : ∀ b i, ¬ (b = 1 ∧ i < 18) → ¬ (b = 0 ∧ i = 17) → u b i = N b i := fun b i h1 h2 => by rw [hq]; exact back_r h1 h2
              rw [← hq] at hvN2
              clear hq
              generalize u = N2 at hP hvN2 hrN2
              have hP : gP D cy B z T (gI o 12 N2 I0) R H := hP
              refine lv_iload X.1 X.2.1 dX12_run_147 (lv_at hl 0 rfl) ?_
              exact g_iret N2 X hr hlk hK hP hS dX12_run_149 ⟨congrArg nI (by rw [← hkn, if_neg n124]), (fun b i h => by by_cases e1 : b = 1; (· subst e1; by_cases e2 : i < 18; (· rw [hvN2.1 i (by omega) (by omega), hσ i (by omega) (by omega)]); unfold qS at h; exact ((hrN2 1 i (by omega) (by omega)).trans (hkN 1 i (by unfold qS; omega)))); unfold qS at h; exact ((hrN2 b i (by omega) (by omega)).trans (hkN b i (by unfold qS; omega)))), (τk + 1), msk, by omega, by omega, hvN2.2.2.2⟩
            · have n124 : w9 = 2 := gq_eq c124 (Eq.refl (nI w9)) (show (2 : Int32) = nI 2 from rfl) (by omega) (by omega)
              refine lv_aload_n X.1 X.2.1 dX12_run_127 rfl (lv_at hl 0 rfl) ?_
              refine m_getr 1 1 X hK hP hM hin rfl (by decide) k9 rfl dX12_run_128 (by decide) ?_
              refine lv_iconst (v := 4) X.1 X.2.1 dX12_run_131 (by decide) ?_
              refine lv_iload_n X.1 X.2.1 dX12_run_132 rfl (lv_at hl 1 rfl) ?_
              refine lv_iadd X.1 X.2.1 dX12_run_133 ?_
              refine m_ald 1 (4 + μ) 883 X hK hP hM rfl (gIx_of (gn_add (show (4 : Int32) = nI 4 from rfl) (Eq.refl (nI μ))) (by omega) (by omega)) dX12_run_134 (show N 1 (4 + μ) = nI ((sIt fl ti sh σ μ ld k) (4 + μ)) from (hvN.1 (4 + μ) (by omega) (by omega))) ?_
              refine lv_goto (tgt := 140) X.1 X.2.1 dX12_run_135 (by decide) ?_
              refine lv_istore (lv' := [(6, .int (nI ((sIt fl ti sh σ μ ld k) (4 + μ)))), (0, .ref o), (1, .int (nI μ)), (2, .int (nI n)), (3, .int (nI ld)), (4, .int (nI w9)), (5, .int (nI (sRs w9 σ (sIt fl ti sh σ μ ld k))))]) X.1 X.2.1 dX12_run_140 hl (by decide) rfl (fun ls hl => ?_)
              refine lv_aload_n X.1 X.2.1 dX12_run_142 rfl (lv_at hl 1 rfl) ?_
              refine lv_iconst (v := 0) X.1 X.2.1 dX12_run_143 (by decide) ?_
              refine g_run_v (g_runV (k := 14) [.int 0] X hK hP hS hC hB (c_back hM N (f := 0) (by decide)) (cwV 1 X.2.2.2.2 gX12_run_X12_goesBackTo rfl rfl rfl (by decide +kernel) ⟨Nat.le_of_ble_eq_true rfl, Nat.le_of_ble_eq_true rfl⟩) (hM.1 0 _ rfl) rfl rfl hl.1 rfl (Nat.le_of_ble_eq_true rfl) dX12_run_144 (by exact ⟨Nat.zero_le _, Nat.zero_le _⟩)) hS (fun u H locs hq hP hS => ?_)
              have hvN3 := inv_back hvN hfN hb (fun i hi9 => sIt_18 hμ _ i hi9) (by omega)
              have hrN3 : ∀ b i, ¬ (b = 1 ∧ i < 18) → ¬ (b = 0 ∧ i = 17) → u b i = N b i := fun b i h1 h2 => by rw [hq]; exact back_r h1 h2
              rw [← hq] at hvN3
              clear hq
              generalize u = N3 at hP hvN3 hrN3
              have hP : gP D cy B z T (gI o 12 N3 I0) R H := hP
              refine lv_iload X.1 X.2.1 dX12_run_147 (lv_at hl 0 rfl) ?_
              exact g_iret N3 X hr hlk hK hP hS dX12_run_149 ⟨congrArg nI (by rw [← hkn, if_pos n124]), (fun b i h => by by_cases e1 : b = 1; (· subst e1; by_cases e2 : i < 18; (· rw [hvN3.1 i (by omega) (by omega), hσ i (by omega) (by omega)]); unfold qS at h; exact ((hrN3 1 i (by omega) (by omega)).trans (hkN 1 i (by unfold qS; omega)))); unfold qS at h; exact ((hrN3 b i (by omega) (by omega)).trans (hkN b i (by unfold qS; omega)))), (τk + 1), msk, by omega, by omega, hvN3.2.2.2⟩
          · have n57 : k < n := gq_nle c57 (Eq.refl (nI n)) (Eq.refl (nI k)) (by omega) (by omega)
            have hk9 : k < n := by omega
            refine lv_aload_n X.1 X.2.1 dX12_run_60 rfl (lv_at hl 0 rfl) ?_
            refine lv_iload_n X.1 X.2.1 dX12_run_61 rfl (lv_at hl 1 rfl) ?_
            refine lv_iload_n X.1 X.2.1 dX12_run_62 rfl (lv_at hl 3 rfl) ?_
            refine g_run_v (g_runV (k := 14) [.int (nI μ), .int (nI ld)] X hK hP hS hC hB (c_goes hM hvN.1 hvN.2.1 hvN.2.2.1 hμ (by first | exact h38 | omega | (rw [sIt_18 hμ _ _ (by omega)]; exact h38) | (rw [h18 38 (by omega)]; exact h38)) (by omega) hvN.2.2.2 (by omega) (by omega)) (cwV 2 X.2.2.2.2 gX12_run_X12_goes rfl rfl rfl (by decide +kernel) ⟨Nat.le_of_ble_eq_true rfl, Nat.le_of_ble_eq_true rfl⟩) (hM.1 0 _ rfl) rfl rfl hl.1 rfl (Nat.le_of_ble_eq_true rfl) dX12_run_63 (by exact ⟨Nat.zero_le _, Nat.zero_le _⟩)) hS (fun u H locs hq hP hS => ?_)
            obtain ⟨h19N4, h20N4, h21N4, h22N4, hσN4, ⟨τN4, msN4, hτaN4, hτbN4, hcaN4⟩, hkN4⟩ := hq
            generalize u = N4 at hP h19N4 h20N4 h21N4 h22N4 hσN4 hcaN4 hkN4
            have hP : gP D cy B z T (gI o 12 N4 I0) R H := hP
            have hvN4 := inv_goes hvN hμ hσN4 hcaN4 hkN4
            have hfr0N4 := gS_fr hfN hkN4
            refine lv_iload X.1 X.2.1 dX12_run_66 (lv_at hl 5 rfl) ?_
            refine lv_iload X.1 X.2.1 dX12_run_68 (lv_at hl 4 rfl) ?_
            refine lv_if_ne (tgt := 80) X.1 X.2.1 dX12_run_70 (by decide) (fun c70 => ?_) (fun c70 => ?_)
            · have n70 : ¬ w9 = 0 := gq_ne c70 (Eq.refl (nI w9)) (show (0 : Int32) = nI 0 from rfl) (by omega) (by omega)
              refine lv_iload X.1 X.2.1 dX12_run_80 (lv_at hl 4 rfl) ?_
              refine lv_iconst (v := 1) X.1 X.2.1 dX12_run_82 (by decide) ?_
              refine lv_icmp_ne (tgt := 93) X.1 X.2.1 dX12_run_83 (by decide) (fun c83 => ?_) (fun c83 => ?_)
              · have n83 : ¬ w9 = 1 := gq_ne c83 (Eq.refl (nI w9)) (show (1 : Int32) = nI 1 from rfl) (by omega) (by omega)
                refine lv_iload X.1 X.2.1 dX12_run_93 (lv_at hl 4 rfl) ?_
                refine lv_iconst (v := 3) X.1 X.2.1 dX12_run_95 (by decide) ?_
                refine lv_icmp_ne (tgt := 111) X.1 X.2.1 dX12_run_96 (by decide) (fun c96 => ?_) (fun c96 => ?_)
                · have n96 : ¬ w9 = 3 := gq_ne c96 (Eq.refl (nI w9)) (show (3 : Int32) = nI 3 from rfl) (by omega) (by omega)
                  refine lv_iconst (v := 0) X.1 X.2.1 dX12_run_111 (by decide) ?_
                  refine lv_iadd X.1 X.2.1 dX12_run_112 ?_
                  refine lv_istore (lv' := [(5, .int ((nI (sRs w9 σ (sIt fl ti sh σ μ ld k))) + 0)), (0, .ref o), (1, .int (nI μ)), (2, .int (nI n)), (3, .int (nI ld)), (4, .int (nI w9)), (6, .int (nI k))]) X.1 X.2.1 dX12_run_113 hl (by decide) rfl (fun ls hl => ?_)
                  refine lv_iinc (v := nI (k + 1)) (lv' := [(6, .int (nI (k + 1))), (5, .int ((nI (sRs w9 σ (sIt fl ti sh σ μ ld k))) + 0)), (0, .ref o), (1, .int (nI μ)), (2, .int (nI n)), (3, .int (nI ld)), (4, .int (nI w9))]) X.1 X.2.1 dX12_run_115 hl (k := 6) rfl (gn_inc (Eq.refl (nI k)) 1) (by decide) rfl (fun ls hl => ?_)
                  refine lv_goto (tgt := 54) X.1 X.2.1 dX12_run_118 (by decide) ?_
                  have hsum : (nI (sRs w9 σ (sIt fl ti sh σ μ ld k))) + 0 = nI (sRs w9 σ (sIt fl ti sh σ μ ld (k + 1))) := ((gn_add (Eq.refl (nI (sRs w9 σ (sIt fl ti sh σ μ ld k)))) (show (0 : Int32) = nI 0 from rfl))).trans (congrArg nI (by
                    have g0 : sIt fl ti sh σ μ ld (k + 1) 0 = (sIt fl ti sh σ μ ld k) 0 - sCm (sIt fl ti sh σ μ ld k) μ ld := rfl
                    have g1 : sIt fl ti sh σ μ ld (k + 1) 1 = (sIt fl ti sh σ μ ld k) 1 + sBr fl (sIt fl ti sh σ μ ld k) μ ld := rfl
                    have g2 : sIt fl ti sh σ μ ld (k + 1) 2 = (sIt fl ti sh σ μ ld k) 2 + sSe fl sh (sIt fl ti sh σ μ ld k) μ ld := rfl
                    have g3 := sBr_le fl (sIt fl ti sh σ μ ld k) μ ld
                    have g4 := sCm_e (sIt fl ti sh σ μ ld k) μ ld
                    unfold sRs
                    rw [if_neg n70, if_neg n83, if_neg n96, if_neg n70, if_neg n83, if_neg n96]))
                  have hl : lv_has ls 7 [(0, .ref o), (1, .int (nI μ)), (2, .int (nI n)), (3, .int (nI ld)), (4, .int (nI w9)), (5, .int (nI (sRs w9 σ (sIt fl ti sh σ μ ld (k + 1))))), (6, .int (nI (k + 1)))] := by rw [← hsum]; exact lv_sub hl [2, 3, 4, 5, 6, 1, 0] rfl
                  exact ih _ _ _ _ (by omega) ⟨τN4, msN4, mInv_le hvN4 (by omega), by omega, by omega, hfr0N4, (fun b i h => by unfold qS at h; exact ((hkN4 b i (by unfold gS lS; omega)).trans (hkN b i (by unfold qS; omega)))), hl⟩ hP hS
                · have n96 : w9 = 3 := gq_eq c96 (Eq.refl (nI w9)) (show (3 : Int32) = nI 3 from rfl) (by omega) (by omega)
                  have hbc := sBr_le fl (sIt fl ti sh σ μ ld k) μ ld
                  refine lv_aload_n X.1 X.2.1 dX12_run_99 rfl (lv_at hl 0 rfl) ?_
                  refine m_geti 19 X hK hP hM hin rfl (by decide) k174 rfl dX12_run_100 (show N4 0 19 = nI (sCm (sIt fl ti sh σ μ ld k) μ ld) from h19N4) ?_
                  refine lv_aload_n X.1 X.2.1 dX12_run_103 rfl (lv_at hl 0 rfl) ?_
                  refine m_geti 22 X hK hP hM hin rfl (by decide) k197 rfl dX12_run_104 (show N4 0 22 = nI (sBr fl (sIt fl ti sh σ μ ld k) μ ld) from h22N4) ?_
                  refine lv_isub X.1 X.2.1 dX12_run_107 ?_
                  refine lv_goto (tgt := 112) X.1 X.2.1 dX12_run_108 (by decide) ?_
                  refine lv_iadd X.1 X.2.1 dX12_run_112 ?_
                  refine lv_istore (lv' := [(5, .int ((nI (sRs w9 σ (sIt fl ti sh σ μ ld k))) + ((nI (sCm (sIt fl ti sh σ μ ld k) μ ld)) - (nI (sBr fl (sIt fl ti sh σ μ ld k) μ ld))))), (0, .ref o), (1, .int (nI μ)), (2, .int (nI n)), (3, .int (nI ld)), (4, .int (nI w9)), (6, .int (nI k))]) X.1 X.2.1 dX12_run_113 hl (by decide) rfl (fun ls hl => ?_)
                  refine lv_iinc (v := nI (k + 1)) (lv' := [(6, .int (nI (k + 1))), (5, .int ((nI (sRs w9 σ (sIt fl ti sh σ μ ld k))) + ((nI (sCm (sIt fl ti sh σ μ ld k) μ ld)) - (nI (sBr fl (sIt fl ti sh σ μ ld k) μ ld))))), (0, .ref o), (1, .int (nI μ)), (2, .int (nI n)), (3, .int (nI ld)), (4, .int (nI w9))]) X.1 X.2.1 dX12_run_115 hl (k := 6) rfl (gn_inc (Eq.refl (nI k)) 1) (by decide) rfl (fun ls hl => ?_)
                  refine lv_goto (tgt := 54) X.1 X.2.1 dX12_run_118 (by decide) ?_
                  have hsum : (nI (sRs w9 σ (sIt fl ti sh σ μ ld k))) + ((nI (sCm (sIt fl ti sh σ μ ld k) μ ld)) - (nI (sBr fl (sIt fl ti sh σ μ ld k) μ ld))) = nI (sRs w9 σ (sIt fl ti sh σ μ ld (k + 1))) := ((gn_add (Eq.refl (nI (sRs w9 σ (sIt fl ti sh σ μ ld k)))) (gn_sub (Eq.refl (nI (sCm (sIt fl ti sh σ μ ld k) μ ld))) (Eq.refl (nI (sBr fl (sIt fl ti sh σ μ ld k) μ ld))) (by omega)))).trans (congrArg nI (by
                    have g0 : sIt fl ti sh σ μ ld (k + 1) 0 = (sIt fl ti sh σ μ ld k) 0 - sCm (sIt fl ti sh σ μ ld k) μ ld := rfl
                    have g1 : sIt fl ti sh σ μ ld (k + 1) 1 = (sIt fl ti sh σ μ ld k) 1 + sBr fl (sIt fl ti sh σ μ ld k) μ ld := rfl
                    have g2 : sIt fl ti sh σ μ ld (k + 1) 2 = (sIt fl ti sh σ μ ld k) 2 + sSe fl sh (sIt fl ti sh σ μ ld k) μ ld := rfl
                    have g3 := sBr_le fl (sIt fl ti sh σ μ ld k) μ ld
                    have g4 := sCm_e (sIt fl ti sh σ μ ld k) μ ld
                    unfold sRs
                    rw [if_neg n70, if_neg n83, if_pos n96, if_neg n70, if_neg n83, if_pos n96]; omega))
                  have hl : lv_has ls 7 [(0, .ref o), (1, .int (nI μ)), (2, .int (nI n)), (3, .int (nI ld)), (4, .int (nI w9)), (5, .int (nI (sRs w9 σ (sIt fl ti sh σ μ ld (k + 1))))), (6, .int (nI (k + 1)))] := by rw [← hsum]; exact lv_sub hl [2, 3, 4, 5, 6, 1, 0] rfl
                  exact ih _ _ _ _ (by omega) ⟨τN4, msN4, mInv_le hvN4 (by omega), by omega, by omega, hfr0N4, (fun b i h => by unfold qS at h; exact ((hkN4 b i (by unfold gS lS; omega)).trans (hkN b i (by unfold qS; omega)))), hl⟩ hP hS
              · have n83 : w9 = 1 := gq_eq c83 (Eq.refl (nI w9)) (show (1 : Int32) = nI 1 from rfl) (by omega) (by omega)
                refine lv_aload_n X.1 X.2.1 dX12_run_86 rfl (lv_at hl 0 rfl) ?_
                refine m_geti 21 X hK hP hM hin rfl (by decide) k187 rfl dX12_run_87 (show N4 0 21 = nI (sSe fl sh (sIt fl ti sh σ μ ld k) μ ld) from h21N4) ?_
                refine lv_goto (tgt := 112) X.1 X.2.1 dX12_run_90 (by decide) ?_
                refine lv_iadd X.1 X.2.1 dX12_run_112 ?_
                refine lv_istore (lv' := [(5, .int ((nI (sRs w9 σ (sIt fl ti sh σ μ ld k))) + (nI (sSe fl sh (sIt fl ti sh σ μ ld k) μ ld)))), (0, .ref o), (1, .int (nI μ)), (2, .int (nI n)), (3, .int (nI ld)), (4, .int (nI w9)), (6, .int (nI k))]) X.1 X.2.1 dX12_run_113 hl (by decide) rfl (fun ls hl => ?_)
                refine lv_iinc (v := nI (k + 1)) (lv' := [(6, .int (nI (k + 1))), (5, .int ((nI (sRs w9 σ (sIt fl ti sh σ μ ld k))) + (nI (sSe fl sh (sIt fl ti sh σ μ ld k) μ ld)))), (0, .ref o), (1, .int (nI μ)), (2, .int (nI n)), (3, .int (nI ld)), (4, .int (nI w9))]) X.1 X.2.1 dX12_run_115 hl (k := 6) rfl (gn_inc (Eq.refl (nI k)) 1) (by decide) rfl (fun ls hl => ?_)
                refine lv_goto (tgt := 54) X.1 X.2.1 dX12_run_118 (by decide) ?_
                have hsum : (nI (sRs w9 σ (sIt fl ti sh σ μ ld k))) + (nI (sSe fl sh (sIt fl ti sh σ μ ld k) μ ld)) = nI (sRs w9 σ (sIt fl ti sh σ μ ld (k + 1))) := ((gn_add (Eq.refl (nI (sRs w9 σ (sIt fl ti sh σ μ ld k)))) (Eq.refl (nI (sSe fl sh (sIt fl ti sh σ μ ld k) μ ld))))).trans (congrArg nI (by
                  have g0 : sIt fl ti sh σ μ ld (k + 1) 0 = (sIt fl ti sh σ μ ld k) 0 - sCm (sIt fl ti sh σ μ ld k) μ ld := rfl
                  have g1 : sIt fl ti sh σ μ ld (k + 1) 1 = (sIt fl ti sh σ μ ld k) 1 + sBr fl (sIt fl ti sh σ μ ld k) μ ld := rfl
                  have g2 : sIt fl ti sh σ μ ld (k + 1) 2 = (sIt fl ti sh σ μ ld k) 2 + sSe fl sh (sIt fl ti sh σ μ ld k) μ ld := rfl
                  have g3 := sBr_le fl (sIt fl ti sh σ μ ld k) μ ld
                  have g4 := sCm_e (sIt fl ti sh σ μ ld k) μ ld
                  unfold sRs
                  rw [if_neg n70, if_pos n83, if_neg n70, if_pos n83]; omega))
                have hl : lv_has ls 7 [(0, .ref o), (1, .int (nI μ)), (2, .int (nI n)), (3, .int (nI ld)), (4, .int (nI w9)), (5, .int (nI (sRs w9 σ (sIt fl ti sh σ μ ld (k + 1))))), (6, .int (nI (k + 1)))] := by rw [← hsum]; exact lv_sub hl [2, 3, 4, 5, 6, 1, 0] rfl
                exact ih _ _ _ _ (by omega) ⟨τN4, msN4, mInv_le hvN4 (by omega), by omega, by omega, hfr0N4, (fun b i h => by unfold qS at h; exact ((hkN4 b i (by unfold gS lS; omega)).trans (hkN b i (by unfold qS; omega)))), hl⟩ hP hS
            · have n70 : w9 = 0 := gq_eq c70 (Eq.refl (nI w9)) (show (0 : Int32) = nI 0 from rfl) (by omega) (by omega)
              refine lv_aload_n X.1 X.2.1 dX12_run_73 rfl (lv_at hl 0 rfl) ?_
              refine m_geti 22 X hK hP hM hin rfl (by decide) k197 rfl dX12_run_74 (show N4 0 22 = nI (sBr fl (sIt fl ti sh σ μ ld k) μ ld) from h22N4) ?_
              refine lv_goto (tgt := 112) X.1 X.2.1 dX12_run_77 (by decide) ?_
              refine lv_iadd X.1 X.2.1 dX12_run_112 ?_
              refine lv_istore (lv' := [(5, .int ((nI (sRs w9 σ (sIt fl ti sh σ μ ld k))) + (nI (sBr fl (sIt fl ti sh σ μ ld k) μ ld)))), (0, .ref o), (1, .int (nI μ)), (2, .int (nI n)), (3, .int (nI ld)), (4, .int (nI w9)), (6, .int (nI k))]) X.1 X.2.1 dX12_run_113 hl (by decide) rfl (fun ls hl => ?_)
              refine lv_iinc (v := nI (k + 1)) (lv' := [(6, .int (nI (k + 1))), (5, .int ((nI (sRs w9 σ (sIt fl ti sh σ μ ld k))) + (nI (sBr fl (sIt fl ti sh σ μ ld k) μ ld)))), (0, .ref o), (1, .int (nI μ)), (2, .int (nI n)), (3, .int (nI ld)), (4, .int (nI w9))]) X.1 X.2.1 dX12_run_115 hl (k := 6) rfl (gn_inc (Eq.refl (nI k)) 1) (by decide) rfl (fun ls hl => ?_)
              refine lv_goto (tgt := 54) X.1 X.2.1 dX12_run_118 (by decide) ?_
              have hsum : (nI (sRs w9 σ (sIt fl ti sh σ μ ld k))) + (nI (sBr fl (sIt fl ti sh σ μ ld k) μ ld)) = nI (sRs w9 σ (sIt fl ti sh σ μ ld (k + 1))) := ((gn_add (Eq.refl (nI (sRs w9 σ (sIt fl ti sh σ μ ld k)))) (Eq.refl (nI (sBr fl (sIt fl ti sh σ μ ld k) μ ld))))).trans (congrArg nI (by
                have g0 : sIt fl ti sh σ μ ld (k + 1) 0 = (sIt fl ti sh σ μ ld k) 0 - sCm (sIt fl ti sh σ μ ld k) μ ld := rfl
                have g1 : sIt fl ti sh σ μ ld (k + 1) 1 = (sIt fl ti sh σ μ ld k) 1 + sBr fl (sIt fl ti sh σ μ ld k) μ ld := rfl
                have g2 : sIt fl ti sh σ μ ld (k + 1) 2 = (sIt fl ti sh σ μ ld k) 2 + sSe fl sh (sIt fl ti sh σ μ ld k) μ ld := rfl
                have g3 := sBr_le fl (sIt fl ti sh σ μ ld k) μ ld
                have g4 := sCm_e (sIt fl ti sh σ μ ld k) μ ld
                unfold sRs
                rw [if_pos n70, if_pos n70]; omega))
              have hl : lv_has ls 7 [(0, .ref o), (1, .int (nI μ)), (2, .int (nI n)), (3, .int (nI ld)), (4, .int (nI w9)), (5, .int (nI (sRs w9 σ (sIt fl ti sh σ μ ld (k + 1))))), (6, .int (nI (k + 1)))] := by rw [← hsum]; exact lv_sub hl [2, 3, 4, 5, 6, 1, 0] rfl
              exact ih _ _ _ _ (by omega) ⟨τN4, msN4, mInv_le hvN4 (by omega), by omega, by omega, hfr0N4, (fun b i h => by unfold qS at h; exact ((hkN4 b i (by unfold gS lS; omega)).trans (hkN b i (by unfold qS; omega)))), hl⟩ hP hS
        · exact absurd (g_le (a := 1) (b := 20) (x := 1) (y := 20) rfl rfl (by omega) (by omega) (by omega)) (gt_0 c36)
    · exact absurd (g_le (a := 0) (b := 3) (x := 0) (y := 3) rfl rfl (by omega) (by omega) (by omega)) (gt_0 c15)

end MP
