section MW9
variable {l : Launch} {s0 : State} {D : va_G} {cy : Nat → ClassId} {B o z : Nat} {T : Nat → Nat × Nat} {R : Nat → Nat → Option Nat} {I0 : Nat → Nat → Int32} {M : Nat → Nat → Int32} {σ : Nat → Nat} {fl : List Nat} {ti sh K τ ms : Nat}
/-- TURNS: μ goes next, back at ea; ν was back, or will be, at eb, and has gone from the shovel at fb -/
def sTu (fl : List Nat) (ti sh ld t : Nat) : Nat → Nat → Nat → (Nat → Nat) → Nat → Nat → Nat → (Nat → Nat)
  | 0, _, _, σ, _, _, _ => σ
  | n + 1, μ, ν, σ, ea, eb, fb => if t < max ea fb + sSe fl sh σ μ ld then σ else sTu fl ti sh ld t n ν μ (sGo fl ti sh σ μ ld) eb (max ea fb + sSe fl sh σ μ ld) (max ea fb + sFi sh σ μ ld)
theorem sTu_18 {ld t : Nat} : ∀ (n μ ν : Nat) (σ : Nat → Nat) (ea eb fb i : Nat), μ < 4 → ν < 4 → 18 ≤ i → sTu fl ti sh ld t n μ ν σ ea eb fb i = σ i
  | 0, _, _, _, _, _, _, _, _, _, _ => rfl
  | n + 1, μ, ν, σ, ea, eb, fb, i, h1, h2, hi => by
    unfold sTu
    split
    · rfl
    · rw [sTu_18 n ν μ _ _ _ _ i h2 h1 hi, sGo_18 h1 hi]
theorem sFi_le (fl : List Nat) (sh : Nat) (σ : Nat → Nat) (μ ld : Nat) : sFi sh σ μ ld ≤ sSe fl sh σ μ ld := by unfold sSe; omega

set_option maxHeartbeats 4000000 in
set_option maxRecDepth 100000 in
/-- c_turns_n -/
theorem c_turns_n (hM : gMod o T R) (hi : mInv M σ fl ti sh K τ ms) {v v2 : Int32} (hno : ¬ ((0 ≤ v ∧ v ≤ nI (σ 38) - 1) ∧ (0 ≤ v2 ∧ v2 ≤ nI (σ 38) - 1))) (a t : Int32) : Met l yX12_turns wsX12_turns ({ frames := 2, cells := 0, slots := 0, locals := 43 }) (mPre s0 D cy B o z T R I0 M [.int v, .int v2, .int a, .int t]) (mQi D cy B o z T R I0 (fun r u => r = -1 ∧ M = u)) 0 0 (gA B) := by
  refine g_met (maxL := 9) (ret := (some .int)) (by decide) rfl (Nat.le_of_ble_eq_true rfl) (fun p e s m args below meth c ls X hr hlk hnm hK hP hC hS hl => ?_)
  have hl : lv_has ls 9 [(0, .ref o), (1, .int v), (2, .int v2), (3, .int a), (4, .int t)] := hl
  have hP : gP D cy B z T (gI o 12 M I0) R s.heap := hP
  have hB : B ≤ s.heap.size := by rw [hP.1]; exact hP.2.1
  have hin : ∀ w ∈ wsX120, w ∈ wsX12_turns := fun _ h => List.mem_cons_of_mem _ (List.mem_append_right _ h)
  have k41 : Cond.fieldLink RX12 41 "BarrowPlankModel" "ends" "[I" ∈ wsX12_turns := by decide +kernel
  have k44 : Cond.fieldLink RX12 44 "BarrowPlankModel" "fills" "[I" ∈ wsX12_turns := by decide +kernel
  have k184 : Cond.fieldLink RX12 184 "BarrowPlankModel" "filling" "I" ∈ wsX12_turns := by decide +kernel
  have k187 : Cond.fieldLink RX12 187 "BarrowPlankModel" "seconds" "I" ∈ wsX12_turns := by decide +kernel
  have k197 : Cond.fieldLink RX12 197 "BarrowPlankModel" "brought" "I" ∈ wsX12_turns := by decide +kernel
  have hσ := hi.1
  have hs := hi.2.1
  have hb := hi.2.2.1
  have hca := hi.2.2.2
  refine lv_aload_n X.1 X.2.1 dX12_turns_0 rfl (lv_at hl 0 rfl) ?_
  refine lv_iload_n X.1 X.2.1 dX12_turns_1 rfl (lv_at hl 1 rfl) ?_
  refine g_run_i (g_runV (k := 14) [.int v] X hK hP hS hC hB (c_isMan hM _ v) (cwV 1 X.2.2.2.2 gX12_turns_X12_isMan rfl rfl rfl (by decide +kernel) ⟨Nat.le_of_ble_eq_true rfl, Nat.le_of_ble_eq_true rfl⟩) (hM.1 0 _ rfl) rfl rfl hl.1 rfl (Nat.le_of_ble_eq_true rfl) dX12_turns_2 (by exact ⟨Nat.zero_le _, Nat.zero_le _⟩)) hS (fun r u H locs hq hP hS => ?_)
  obtain ⟨rfl, rfl⟩ := hq
  have hP : gP D cy B z T (gI o 12 M I0) R H := hP
  refine lv_if_eq (tgt := 16) X.1 X.2.1 dX12_turns_5 (by decide) (fun c5 => ?_) (fun c5 => ?_)
  · refine lv_iconst (v := (-1)) X.1 X.2.1 dX12_turns_16 (by decide) ?_
    exact g_iret M X hr hlk hK hP hS dX12_turns_17 ⟨rfl, rfl⟩
  · refine lv_aload_n X.1 X.2.1 dX12_turns_8 rfl (lv_at hl 0 rfl) ?_
    refine lv_iload_n X.1 X.2.1 dX12_turns_9 rfl (lv_at hl 2 rfl) ?_
    refine g_run_i (g_runV (k := 14) [.int v2] X hK hP hS hC hB (c_isMan hM _ v2) (cwV 1 X.2.2.2.2 gX12_turns_X12_isMan rfl rfl rfl (by decide +kernel) ⟨Nat.le_of_ble_eq_true rfl, Nat.le_of_ble_eq_true rfl⟩) (hM.1 0 _ rfl) rfl rfl hl.1 rfl (Nat.le_of_ble_eq_true rfl) dX12_turns_10 (by exact ⟨Nat.zero_le _, Nat.zero_le _⟩)) hS (fun r u H locs hq hP hS => ?_)
    obtain ⟨rfl, rfl⟩ := hq
    have hP : gP D cy B z T (gI o 12 M I0) R H := hP
    refine lv_if_ne (tgt := 18) X.1 X.2.1 dX12_turns_13 (by decide) (fun c13 => ?_) (fun c13 => ?_)
    · exact absurd ⟨(by rw [← hσ 38 (by decide) (by decide)]; exact gt_1 c5), (by rw [← hσ 38 (by decide) (by decide)]; exact gt_1 c13)⟩ hno
    · refine lv_iconst (v := (-1)) X.1 X.2.1 dX12_turns_16 (by decide) ?_
      exact g_iret M X hr hlk hK hP hS dX12_turns_17 ⟨rfl, rfl⟩

set_option maxHeartbeats 4000000 in
set_option maxRecDepth 100000 in
/-- c_turns_b -/
theorem c_turns_b (hM : gMod o T R) (hi : mInv M σ fl ti sh K τ ms) {μ ν : Nat} (hμn : μ < σ 38) (hνn : ν < σ 38) {a t : Int32} (hbad : μ = ν ∨ ¬ (1 ≤ a ∧ a ≤ 20) ∨ ¬ (0 ≤ t ∧ t ≤ 999)) : Met l yX12_turns wsX12_turns ({ frames := 2, cells := 0, slots := 0, locals := 43 }) (mPre s0 D cy B o z T R I0 M [.int (nI μ), .int (nI ν), .int a, .int t]) (mQi D cy B o z T R I0 (fun r u => r = -2 ∧ M = u)) 0 0 (gA B) := by
  refine g_met (maxL := 9) (ret := (some .int)) (by decide) rfl (Nat.le_of_ble_eq_true rfl) (fun p e s m args below meth c ls X hr hlk hnm hK hP hC hS hl => ?_)
  have hl : lv_has ls 9 [(0, .ref o), (1, .int (nI μ)), (2, .int (nI ν)), (3, .int a), (4, .int t)] := hl
  have hP : gP D cy B z T (gI o 12 M I0) R s.heap := hP
  have hB : B ≤ s.heap.size := by rw [hP.1]; exact hP.2.1
  have hin : ∀ w ∈ wsX120, w ∈ wsX12_turns := fun _ h => List.mem_cons_of_mem _ (List.mem_append_right _ h)
  have k41 : Cond.fieldLink RX12 41 "BarrowPlankModel" "ends" "[I" ∈ wsX12_turns := by decide +kernel
  have k44 : Cond.fieldLink RX12 44 "BarrowPlankModel" "fills" "[I" ∈ wsX12_turns := by decide +kernel
  have k184 : Cond.fieldLink RX12 184 "BarrowPlankModel" "filling" "I" ∈ wsX12_turns := by decide +kernel
  have k187 : Cond.fieldLink RX12 187 "BarrowPlankModel" "seconds" "I" ∈ wsX12_turns := by decide +kernel
  have k197 : Cond.fieldLink RX12 197 "BarrowPlankModel" "brought" "I" ∈ wsX12_turns := by decide +kernel
  have hσ := hi.1
  have hs := hi.2.1
  have hb := hi.2.2.1
  have hca := hi.2.2.2
  have hμ : μ < 4 := Nat.lt_of_lt_of_le hμn hi.2.2.1.2.2.2.2.1
  have h38 := hμn
  have hν : ν < 4 := Nat.lt_of_lt_of_le hνn hi.2.2.1.2.2.2.2.1
  refine lv_aload_n X.1 X.2.1 dX12_turns_0 rfl (lv_at hl 0 rfl) ?_
  refine lv_iload_n X.1 X.2.1 dX12_turns_1 rfl (lv_at hl 1 rfl) ?_
  refine g_run_i (g_runV (k := 14) [.int (nI μ)] X hK hP hS hC hB (c_isMan hM _ (nI μ)) (cwV 1 X.2.2.2.2 gX12_turns_X12_isMan rfl rfl rfl (by decide +kernel) ⟨Nat.le_of_ble_eq_true rfl, Nat.le_of_ble_eq_true rfl⟩) (hM.1 0 _ rfl) rfl rfl hl.1 rfl (Nat.le_of_ble_eq_true rfl) dX12_turns_2 (by exact ⟨Nat.zero_le _, Nat.zero_le _⟩)) hS (fun r u H locs hq hP hS => ?_)
  obtain ⟨rfl, rfl⟩ := hq
  have hP : gP D cy B z T (gI o 12 M I0) R H := hP
  refine lv_if_eq (tgt := 16) X.1 X.2.1 dX12_turns_5 (by decide) (fun c5 => ?_) (fun c5 => ?_)
  · exact absurd (g_man hi hμn) (gt_0 c5)
  · refine lv_aload_n X.1 X.2.1 dX12_turns_8 rfl (lv_at hl 0 rfl) ?_
    refine lv_iload_n X.1 X.2.1 dX12_turns_9 rfl (lv_at hl 2 rfl) ?_
    refine g_run_i (g_runV (k := 14) [.int (nI ν)] X hK hP hS hC hB (c_isMan hM _ (nI ν)) (cwV 1 X.2.2.2.2 gX12_turns_X12_isMan rfl rfl rfl (by decide +kernel) ⟨Nat.le_of_ble_eq_true rfl, Nat.le_of_ble_eq_true rfl⟩) (hM.1 0 _ rfl) rfl rfl hl.1 rfl (Nat.le_of_ble_eq_true rfl) dX12_turns_10 (by exact ⟨Nat.zero_le _, Nat.zero_le _⟩)) hS (fun r u H locs hq hP hS => ?_)
    obtain ⟨rfl, rfl⟩ := hq
    have hP : gP D cy B z T (gI o 12 M I0) R H := hP
    refine lv_if_ne (tgt := 18) X.1 X.2.1 dX12_turns_13 (by decide) (fun c13 => ?_) (fun c13 => ?_)
    · refine lv_iload_n X.1 X.2.1 dX12_turns_18 rfl (lv_at hl 1 rfl) ?_
      refine lv_iload_n X.1 X.2.1 dX12_turns_19 rfl (lv_at hl 2 rfl) ?_
      refine lv_icmp_eq (tgt := 42) X.1 X.2.1 dX12_turns_20 (by decide) (fun c20 => ?_) (fun c20 => ?_)
      · have n20 : μ = ν := gq_eq c20 (Eq.refl (nI μ)) (Eq.refl (nI ν)) (by omega) (by omega)
        refine lv_bipush (v := (-2)) X.1 X.2.1 dX12_turns_42 (by decide) ?_
        exact g_iret M X hr hlk hK hP hS dX12_turns_44 ⟨rfl, rfl⟩
      · have n20 : ¬ μ = ν := gq_ne c20 (Eq.refl (nI μ)) (Eq.refl (nI ν)) (by omega) (by omega)
        refine lv_iload_n X.1 X.2.1 dX12_turns_23 rfl (lv_at hl 3 rfl) ?_
        refine g_run_i (g_runS [.int a] X hK hP hS hC hB (c_isLoad _ a) (va_cwS 1 X.2.2.2.2 gX12_turns_X12_isLoad rfl rfl rfl (by decide +kernel) ⟨Nat.le_of_ble_eq_true rfl, Nat.le_of_ble_eq_true rfl⟩) rfl hl.1 rfl (Nat.le_of_ble_eq_true rfl) dX12_turns_24 (by exact ⟨Nat.zero_le _, Nat.zero_le _⟩)) hS (fun r u H locs hq hP hS => ?_)
        obtain ⟨rfl, rfl⟩ := hq
        have hP : gP D cy B z T (gI o 12 M I0) R H := hP
        refine lv_if_eq (tgt := 42) X.1 X.2.1 dX12_turns_27 (by decide) (fun c27 => ?_) (fun c27 => ?_)
        · refine lv_bipush (v := (-2)) X.1 X.2.1 dX12_turns_42 (by decide) ?_
          exact g_iret M X hr hlk hK hP hS dX12_turns_44 ⟨rfl, rfl⟩
        · refine lv_iload X.1 X.2.1 dX12_turns_30 (lv_at hl 4 rfl) ?_
          refine lv_iconst (v := 0) X.1 X.2.1 dX12_turns_32 (by decide) ?_
          refine lv_sipush (v := 999) X.1 X.2.1 dX12_turns_33 (by decide) ?_
          refine g_run_i (g_runS [.int t, .int 0, .int 999] X hK hP hS hC hB (c_in _ t 0 999) (va_cwS 3 X.2.2.2.2 gX12_turns_X12_in rfl rfl rfl (by decide +kernel) ⟨Nat.le_of_ble_eq_true rfl, Nat.le_of_ble_eq_true rfl⟩) rfl hl.1 rfl (Nat.le_of_ble_eq_true rfl) dX12_turns_36 (by exact ⟨Nat.zero_le _, Nat.zero_le _⟩)) hS (fun r u H locs hq hP hS => ?_)
          obtain ⟨rfl, rfl⟩ := hq
          have hP : gP D cy B z T (gI o 12 M I0) R H := hP
          refine lv_if_ne (tgt := 45) X.1 X.2.1 dX12_turns_39 (by decide) (fun c39 => ?_) (fun c39 => ?_)
          · exact (hbad.elim (fun q => n20 q) (fun q => q.elim (fun q => q (gt_1 c27)) (fun q => q (gt_1 c39)))).elim
          · refine lv_bipush (v := (-2)) X.1 X.2.1 dX12_turns_42 (by decide) ?_
            exact g_iret M X hr hlk hK hP hS dX12_turns_44 ⟨rfl, rfl⟩
    · exact absurd (g_man hi hνn) (gt_0 c13)

set_option maxHeartbeats 4000000 in
set_option maxRecDepth 100000 in
/-- c_turns -/
theorem c_turns (hM : gMod o T R) (hi : mInv M σ fl ti sh K τ ms) {μ ν : Nat} (hμn : μ < σ 38) (hνn : ν < σ 38) (hne : μ ≠ ν) {ld : Nat} (hl1 : 1 ≤ ld) (hld : ld ≤ 20) {t : Nat} (ht : t ≤ 999) (hτ : τ + 4000 < 2 ^ 30) (hK : K < 2 ^ 28) : Met l yX12_turns wsX12_turns ({ frames := 5, cells := 0, slots := 0, locals := 125 }) (mPre s0 D cy B o z T R I0 M [.int (nI μ), .int (nI ν), .int (nI ld), .int (nI t)]) (mQi D cy B o z T R I0 (fun r u => r = nI ((sTu fl ti sh ld t 200 μ ν σ 0 0 0) 1 - σ 1) ∧ mSame qS M u ∧ ∃ τ' ms', τ ≤ τ' ∧ τ' ≤ τ + 3300 ∧ mCache u fl σ τ' ms')) 0 0 (gA B) := by
  refine g_met (maxL := 9) (ret := (some .int)) (by decide) rfl (Nat.le_of_ble_eq_true rfl) (fun p e s m args below meth c ls X hr hlk hnm hK hP hC hS hl => ?_)
  have hl : lv_has ls 9 [(0, .ref o), (1, .int (nI μ)), (2, .int (nI ν)), (3, .int (nI ld)), (4, .int (nI t))] := hl
  have hP : gP D cy B z T (gI o 12 M I0) R s.heap := hP
  have hB : B ≤ s.heap.size := by rw [hP.1]; exact hP.2.1
  have hin : ∀ w ∈ wsX120, w ∈ wsX12_turns := fun _ h => List.mem_cons_of_mem _ (List.mem_append_right _ h)
  have k41 : Cond.fieldLink RX12 41 "BarrowPlankModel" "ends" "[I" ∈ wsX12_turns := by decide +kernel
  have k44 : Cond.fieldLink RX12 44 "BarrowPlankModel" "fills" "[I" ∈ wsX12_turns := by decide +kernel
  have k184 : Cond.fieldLink RX12 184 "BarrowPlankModel" "filling" "I" ∈ wsX12_turns := by decide +kernel
  have k187 : Cond.fieldLink RX12 187 "BarrowPlankModel" "seconds" "I" ∈ wsX12_turns := by decide +kernel
  have k197 : Cond.fieldLink RX12 197 "BarrowPlankModel" "brought" "I" ∈ wsX12_turns := by decide +kernel
  have hσ := hi.1
  have hs := hi.2.1
  have hb := hi.2.2.1
  have hca := hi.2.2.2
  have hμ : μ < 4 := Nat.lt_of_lt_of_le hμn hi.2.2.1.2.2.2.2.1
  have h38 := hμn
  have hν : ν < 4 := Nat.lt_of_lt_of_le hνn hi.2.2.1.2.2.2.2.1
  refine lv_aload_n X.1 X.2.1 dX12_turns_0 rfl (lv_at hl 0 rfl) ?_
  refine lv_iload_n X.1 X.2.1 dX12_turns_1 rfl (lv_at hl 1 rfl) ?_
  refine g_run_i (g_runV (k := 14) [.int (nI μ)] X hK hP hS hC hB (c_isMan hM _ (nI μ)) (cwV 1 X.2.2.2.2 gX12_turns_X12_isMan rfl rfl rfl (by decide +kernel) ⟨Nat.le_of_ble_eq_true rfl, Nat.le_of_ble_eq_true rfl⟩) (hM.1 0 _ rfl) rfl rfl hl.1 rfl (Nat.le_of_ble_eq_true rfl) dX12_turns_2 (by exact ⟨Nat.zero_le _, Nat.zero_le _⟩)) hS (fun r u H locs hq hP hS => ?_)
  obtain ⟨rfl, rfl⟩ := hq
  have hP : gP D cy B z T (gI o 12 M I0) R H := hP
  refine lv_if_eq (tgt := 16) X.1 X.2.1 dX12_turns_5 (by decide) (fun c5 => ?_) (fun c5 => ?_)
  · exact absurd (g_man hi hμn) (gt_0 c5)
  · refine lv_aload_n X.1 X.2.1 dX12_turns_8 rfl (lv_at hl 0 rfl) ?_
    refine lv_iload_n X.1 X.2.1 dX12_turns_9 rfl (lv_at hl 2 rfl) ?_
    refine g_run_i (g_runV (k := 14) [.int (nI ν)] X hK hP hS hC hB (c_isMan hM _ (nI ν)) (cwV 1 X.2.2.2.2 gX12_turns_X12_isMan rfl rfl rfl (by decide +kernel) ⟨Nat.le_of_ble_eq_true rfl, Nat.le_of_ble_eq_true rfl⟩) (hM.1 0 _ rfl) rfl rfl hl.1 rfl (Nat.le_of_ble_eq_true rfl) dX12_turns_10 (by exact ⟨Nat.zero_le _, Nat.zero_le _⟩)) hS (fun r u H locs hq hP hS => ?_)
    obtain ⟨rfl, rfl⟩ := hq
    have hP : gP D cy B z T (gI o 12 M I0) R H := hP
    refine lv_if_ne (tgt := 18) X.1 X.2.1 dX12_turns_13 (by decide) (fun c13 => ?_) (fun c13 => ?_)
    · refine lv_iload_n X.1 X.2.1 dX12_turns_18 rfl (lv_at hl 1 rfl) ?_
      refine lv_iload_n X.1 X.2.1 dX12_turns_19 rfl (lv_at hl 2 rfl) ?_
      refine lv_icmp_eq (tgt := 42) X.1 X.2.1 dX12_turns_20 (by decide) (fun c20 => ?_) (fun c20 => ?_)
      · exact absurd (gq_eq c20 (Eq.refl (nI μ)) (Eq.refl (nI ν)) (by omega) (by omega)) hne
      · have n20 : ¬ μ = ν := gq_ne c20 (Eq.refl (nI μ)) (Eq.refl (nI ν)) (by omega) (by omega)
        refine lv_iload_n X.1 X.2.1 dX12_turns_23 rfl (lv_at hl 3 rfl) ?_
        refine g_run_i (g_runS [.int (nI ld)] X hK hP hS hC hB (c_isLoad _ (nI ld)) (va_cwS 1 X.2.2.2.2 gX12_turns_X12_isLoad rfl rfl rfl (by decide +kernel) ⟨Nat.le_of_ble_eq_true rfl, Nat.le_of_ble_eq_true rfl⟩) rfl hl.1 rfl (Nat.le_of_ble_eq_true rfl) dX12_turns_24 (by exact ⟨Nat.zero_le _, Nat.zero_le _⟩)) hS (fun r u H locs hq hP hS => ?_)
        obtain ⟨rfl, rfl⟩ := hq
        have hP : gP D cy B z T (gI o 12 M I0) R H := hP
        refine lv_if_eq (tgt := 42) X.1 X.2.1 dX12_turns_27 (by decide) (fun c27 => ?_) (fun c27 => ?_)
        · exact absurd (g_le (a := 1) (b := 20) (x := 1) (y := 20) rfl rfl (by omega) (by omega) (by omega)) (gt_0 c27)
        · refine lv_iload X.1 X.2.1 dX12_turns_30 (lv_at hl 4 rfl) ?_
          refine lv_iconst (v := 0) X.1 X.2.1 dX12_turns_32 (by decide) ?_
          refine lv_sipush (v := 999) X.1 X.2.1 dX12_turns_33 (by decide) ?_
          refine g_run_i (g_runS [.int (nI t), .int 0, .int 999] X hK hP hS hC hB (c_in _ (nI t) 0 999) (va_cwS 3 X.2.2.2.2 gX12_turns_X12_in rfl rfl rfl (by decide +kernel) ⟨Nat.le_of_ble_eq_true rfl, Nat.le_of_ble_eq_true rfl⟩) rfl hl.1 rfl (Nat.le_of_ble_eq_true rfl) dX12_turns_36 (by exact ⟨Nat.zero_le _, Nat.zero_le _⟩)) hS (fun r u H locs hq hP hS => ?_)
          obtain ⟨rfl, rfl⟩ := hq
          have hP : gP D cy B z T (gI o 12 M I0) R H := hP
          refine lv_if_ne (tgt := 45) X.1 X.2.1 dX12_turns_39 (by decide) (fun c39 => ?_) (fun c39 => ?_)
          · refine lv_aload_n X.1 X.2.1 dX12_turns_45 rfl (lv_at hl 0 rfl) ?_
            refine lv_iconst (v := 0) X.1 X.2.1 dX12_turns_46 (by decide) ?_
            refine g_run_v (g_runV (k := 14) [.int 0] X hK hP hS hC hB (c_keeps hM M (f := 0) (by decide)) (cwV 1 X.2.2.2.2 gX12_turns_X12_keeps rfl rfl rfl (by decide +kernel) ⟨Nat.le_of_ble_eq_true rfl, Nat.le_of_ble_eq_true rfl⟩) (hM.1 0 _ rfl) rfl rfl hl.1 rfl (Nat.le_of_ble_eq_true rfl) dX12_turns_47 (by exact ⟨Nat.zero_le _, Nat.zero_le _⟩)) hS (fun u H locs hq hP hS => ?_)
            have hq : mKeep M 0 18 = u := hq.symm
            have hvN1 := inv_keep hi 0
            have hfN1 := fr_keep hi.1 0
            have hrN1 : ∀ b i, b ≠ 3 → mKeep M 0 18 b i = M b i := fun b i h => mKeep_r _ _ _ _ _ h
            generalize mKeep M 0 18 = N1 at hq hP hvN1 hfN1 hrN1
            subst hq
            have hP : gP D cy B z T (gI o 12 N1 I0) R H := hP
            refine lv_iconst (v := 0) X.1 X.2.1 dX12_turns_50 (by decide) ?_
            refine lv_istore (lv' := [(5, .int 0), (0, .ref o), (1, .int (nI μ)), (2, .int (nI ν)), (3, .int (nI ld)), (4, .int (nI t))]) X.1 X.2.1 dX12_turns_51 hl (by decide) rfl (fun ls hl => ?_)
            refine lv_iconst (v := 0) X.1 X.2.1 dX12_turns_53 (by decide) ?_
            refine lv_istore (lv' := [(6, .int 0), (5, .int 0), (0, .ref o), (1, .int (nI μ)), (2, .int (nI ν)), (3, .int (nI ld)), (4, .int (nI t))]) X.1 X.2.1 dX12_turns_54 hl (by decide) rfl (fun ls hl => ?_)
            refine lv_iload X.1 X.2.1 dX12_turns_56 (lv_at hl 0 rfl) ?_
            refine lv_iconst (v := 2) X.1 X.2.1 dX12_turns_58 (by decide) ?_
            refine lv_icmp_ge (tgt := 84) X.1 X.2.1 dX12_turns_59 (by decide) (fun c59 => ?_) (fun c59 => ?_)
            · exact absurd (gq_le c59 (show (2 : Int32) = nI 2 from rfl) (show (0 : Int32) = nI 0 from rfl) (by omega) (by omega)) (by omega)
            · have n59 : 0 < 2 := gq_nle c59 (show (2 : Int32) = nI 2 from rfl) (show (0 : Int32) = nI 0 from rfl) (by omega) (by omega)
              refine lv_aload_n X.1 X.2.1 dX12_turns_62 rfl (lv_at hl 2 rfl) ?_
              refine m_getr 23 9 X hK hP hM hin rfl (by decide) k41 rfl dX12_turns_63 (by decide) ?_
              refine lv_iload X.1 X.2.1 dX12_turns_66 (lv_at hl 0 rfl) ?_
              refine lv_iconst (v := 0) X.1 X.2.1 dX12_turns_68 (by decide) ?_
              refine m_ast 9 0 2 X hK hP hS hM rfl (gIx_of (show (0 : Int32) = nI 0 from rfl) (by omega) (by omega)) dX12_turns_69 (fun H locs hP hS => ?_)
              generalize eM2 : g2 N1 9 0 0 = M2 at hP
              refine lv_aload_n X.1 X.2.1 dX12_turns_70 rfl (lv_at hl 2 rfl) ?_
              refine m_getr 24 10 X hK hP hM hin rfl (by decide) k44 rfl dX12_turns_71 (by decide) ?_
              refine lv_iload X.1 X.2.1 dX12_turns_74 (lv_at hl 0 rfl) ?_
              refine lv_iconst (v := 0) X.1 X.2.1 dX12_turns_76 (by decide) ?_
              refine m_ast 10 0 2 X hK hP hS hM rfl (gIx_of (show (0 : Int32) = nI 0 from rfl) (by omega) (by omega)) dX12_turns_77 (fun H locs hP hS => ?_)
              generalize eM3 : g2 M2 10 0 0 = M3 at hP
              refine lv_iinc (v := nI (0 + 1)) (lv' := [(6, .int (nI (0 + 1))), (5, .int 0), (0, .ref o), (1, .int (nI μ)), (2, .int (nI ν)), (3, .int (nI ld)), (4, .int (nI t))]) X.1 X.2.1 dX12_turns_78 hl (k := 0) rfl (gn_inc (show (0 : Int32) = nI 0 from rfl) 1) (by decide) rfl (fun ls hl => ?_)
              refine lv_goto (tgt := 56) X.1 X.2.1 dX12_turns_81 (by decide) ?_
              refine lv_iload X.1 X.2.1 dX12_turns_56 (lv_at hl 0 rfl) ?_
              refine lv_iconst (v := 2) X.1 X.2.1 dX12_turns_58 (by decide) ?_
              refine lv_icmp_ge (tgt := 84) X.1 X.2.1 dX12_turns_59 (by decide) (fun c59_4 => ?_) (fun c59_4 => ?_)
              · exact absurd (gq_le c59_4 (show (2 : Int32) = nI 2 from rfl) (Eq.refl (nI (0 + 1))) (by omega) (by omega)) (by omega)
              · have n59_4 : (0 + 1) < 2 := gq_nle c59_4 (show (2 : Int32) = nI 2 from rfl) (Eq.refl (nI (0 + 1))) (by omega) (by omega)
                refine lv_aload_n X.1 X.2.1 dX12_turns_62 rfl (lv_at hl 2 rfl) ?_
                refine m_getr 23 9 X hK hP hM hin rfl (by decide) k41 rfl dX12_turns_63 (by decide) ?_
                refine lv_iload X.1 X.2.1 dX12_turns_66 (lv_at hl 0 rfl) ?_
                refine lv_iconst (v := 0) X.1 X.2.1 dX12_turns_68 (by decide) ?_
                refine m_ast 9 1 2 X hK hP hS hM rfl (gIx_of (gn_eq (Eq.refl (nI (0 + 1))) (by omega)) (by omega) (by omega)) dX12_turns_69 (fun H locs hP hS => ?_)
                generalize eM5 : g2 M3 9 1 0 = M5 at hP
                refine lv_aload_n X.1 X.2.1 dX12_turns_70 rfl (lv_at hl 2 rfl) ?_
                refine m_getr 24 10 X hK hP hM hin rfl (by decide) k44 rfl dX12_turns_71 (by decide) ?_
                refine lv_iload X.1 X.2.1 dX12_turns_74 (lv_at hl 0 rfl) ?_
                refine lv_iconst (v := 0) X.1 X.2.1 dX12_turns_76 (by decide) ?_
                refine m_ast 10 1 2 X hK hP hS hM rfl (gIx_of (gn_eq (Eq.refl (nI (0 + 1))) (by omega)) (by omega) (by omega)) dX12_turns_77 (fun H locs hP hS => ?_)
                generalize eM6 : g2 M5 10 1 0 = M6 at hP
                refine lv_iinc (v := nI ((0 + 1) + 1)) (lv' := [(6, .int (nI ((0 + 1) + 1))), (5, .int 0), (0, .ref o), (1, .int (nI μ)), (2, .int (nI ν)), (3, .int (nI ld)), (4, .int (nI t))]) X.1 X.2.1 dX12_turns_78 hl (k := 0) rfl (gn_inc (Eq.refl (nI (0 + 1))) 1) (by decide) rfl (fun ls hl => ?_)
                refine lv_goto (tgt := 56) X.1 X.2.1 dX12_turns_81 (by decide) ?_
                refine lv_iload X.1 X.2.1 dX12_turns_56 (lv_at hl 0 rfl) ?_
                refine lv_iconst (v := 2) X.1 X.2.1 dX12_turns_58 (by decide) ?_
                refine lv_icmp_ge (tgt := 84) X.1 X.2.1 dX12_turns_59 (by decide) (fun c59_7 => ?_) (fun c59_7 => ?_)
                · have n59_7 : 2 ≤ ((0 + 1) + 1) := gq_le c59_7 (show (2 : Int32) = nI 2 from rfl) (Eq.refl (nI ((0 + 1) + 1))) (by omega) (by omega)
                  refine lv_iconst (v := 0) X.1 X.2.1 dX12_turns_84 (by decide) ?_
                  refine lv_istore (lv' := [(6, .int 0), (5, .int 0), (0, .ref o), (1, .int (nI μ)), (2, .int (nI ν)), (3, .int (nI ld)), (4, .int (nI t))]) X.1 X.2.1 dX12_turns_85 hl (by decide) rfl (fun ls hl => ?_)
                  refine lv_iconst (v := 1) X.1 X.2.1 dX12_turns_87 (by decide) ?_
                  refine lv_istore (lv' := [(7, .int 1), (6, .int 0), (5, .int 0), (0, .ref o), (1, .int (nI μ)), (2, .int (nI ν)), (3, .int (nI ld)), (4, .int (nI t))]) X.1 X.2.1 dX12_turns_88 hl (by decide) rfl (fun ls hl => ?_)
                  have hr0 : ∀ b i, ¬ (b = 9 ∨ b = 10) → M6 b i = N1 b i := fun b i h => (gs_ne eM6 (by omega) (gs_ne eM5 (by omega) (gs_ne eM3 (by omega) (gs_ne eM2 (by omega) rfl))))
                  have hv0 : mInv M6 σ fl ti sh K τ ms := ⟨mS_c hvN1.1 (fun i => hr0 1 i (by omega)), mSite_c hvN1.2.1 (fun i _ _ => hr0 1 i (by omega)), hb, mCache_c hvN1.2.2.2 (hr0 0 17 (by omega)) (hr0 0 18 (by omega)) (fun a => ⟨hr0 6 a (by omega), hr0 7 a (by omega), hr0 8 a (by omega)⟩)⟩
                  have hf0 : mFr M6 0 σ := fr_c hfN1 (fun i => hr0 3 i (by omega))
                  have hk0 : ∀ b i, ¬ (qS b i ∨ (b = 1 ∧ i < 18)) → M6 b i = M b i := fun b i h => by unfold qS at h; exact (hr0 b i (by omega)).trans ((hrN1 b i (by omega)).trans rfl)
                  refine m_loop (M := M6) 101 90 [] (fun k N ls => ∃ (σk : Nat → Nat) (s9 τk msk : Nat) (x6 x7 : Int32), mInv N σk fl ti sh (K + 300000 * k) τk msk ∧ τ ≤ τk ∧ τk ≤ τ + 32 * k ∧ mFr N 0 σ ∧ (∀ b i, ¬ (qS b i ∨ (b = 1 ∧ i < 18)) → N b i = M b i) ∧ (∀ i, 18 ≤ i → σk i = σ i) ∧ σ 1 ≤ σk 1 ∧ ((x7 = 0 ∧ s9 = (sTu fl ti sh ld t 200 μ ν σ 0 0 0) 1 - σ 1) ∨ (x7 = 1 ∧ s9 = σk 1 - σ 1 ∧ ∃ (w ea eb fb : Nat), w < 2 ∧ x6 = nI w ∧ N 9 w = nI ea ∧ N 9 (1 - w) = nI eb ∧ N 10 (1 - w) = nI fb ∧ ea ≤ t ∧ eb ≤ t ∧ fb ≤ t ∧ 20 * k ≤ ea + eb ∧ sTu fl ti sh ld t (200 - k) (if w = 0 then μ else ν) (if w = 0 then ν else μ) σk ea eb fb = (sTu fl ti sh ld t 200 μ ν σ 0 0 0))) ∧ lv_has ls 9 [(0, .ref o), (1, .int (nI μ)), (2, .int (nI ν)), (3, .int (nI ld)), (4, .int (nI t)), (5, .int (nI s9)), (6, .int x6), (7, .int x7)]) 0 (by omega) ⟨σ, 0, τ, ms, 0, 1, hv0, by omega, by omega, hf0, hk0, fun _ _ => rfl, by omega, Or.inr ⟨rfl, by omega, 0, 0, 0, 0, by omega, rfl, (gs_ne eM6 (by omega) (gs_ne eM5 (by omega) (gs_ne eM3 (by omega) (gs_same eM2)))), (gs_ne eM6 (by omega) (gs_same eM5)), (gs_same eM6), by omega, by omega, by omega, by omega, rfl⟩, lv_sub hl [3, 4, 5, 6, 7, 2, 1, 0] rfl⟩ hP hS (fun k N H locs ls hk hiv hP hS ih => ?_)
                  obtain ⟨σk, s9, τk, msk, x6, x7, hvN, hτ1, hτ2, hfN, hkN, h18, h1m, hmode, hl⟩ := hiv
                  rcases hmode with ⟨rfl, hs9⟩ | ⟨rfl, hs9, w0, ea, eb, fb, hw0, rfl, h9a, h9b, h10, hea, heb, hfb, h20, htu⟩
                  · refine lv_iload X.1 X.2.1 dX12_turns_90 (lv_at hl 7 rfl) ?_
                    refine lv_if_eq (tgt := 224) X.1 X.2.1 dX12_turns_92 (by decide) (fun c92 => ?_) (fun c92 => ?_)
                    · have n92 : 0 = 0 := gq_eq c92 (show (0 : Int32) = nI 0 from rfl) (show (0 : Int32) = nI 0 from rfl) (by omega) (by omega)
                      refine lv_aload_n X.1 X.2.1 dX12_turns_224 rfl (lv_at hl 0 rfl) ?_
                      refine lv_iconst (v := 0) X.1 X.2.1 dX12_turns_225 (by decide) ?_
                      refine g_run_v (g_runV (k := 14) [.int 0] X hK hP hS hC hB (c_back hM N (f := 0) (by decide)) (cwV 1 X.2.2.2.2 gX12_turns_X12_goesBackTo rfl rfl rfl (by decide +kernel) ⟨Nat.le_of_ble_eq_true rfl, Nat.le_of_ble_eq_true rfl⟩) (hM.1 0 _ rfl) rfl rfl hl.1 rfl (Nat.le_of_ble_eq_true rfl) dX12_turns_226 (by exact ⟨Nat.zero_le _, Nat.zero_le _⟩)) hS (fun u H locs hq hP hS => ?_)
                      have hvN8 := inv_back hvN hfN hb h18 (by omega)
                      have hrN8 : ∀ b i, ¬ (b = 1 ∧ i < 18) → ¬ (b = 0 ∧ i = 17) → u b i = N b i := fun b i h1 h2 => by rw [hq]; exact back_r h1 h2
                      rw [← hq] at hvN8
                      clear hq
                      generalize u = N8 at hP hvN8 hrN8
                      have hP : gP D cy B z T (gI o 12 N8 I0) R H := hP
                      refine lv_iload X.1 X.2.1 dX12_turns_229 (lv_at hl 5 rfl) ?_
                      exact g_iret N8 X hr hlk hK hP hS dX12_turns_231 ⟨by rw [hs9], (fun b i h => by by_cases e1 : b = 1; (· subst e1; by_cases e2 : i < 18; (· rw [hvN8.1 i (by omega) (by omega), hσ i (by omega) (by omega)]); unfold qS at h; exact ((hrN8 1 i (by omega) (by omega)).trans (hkN 1 i (by unfold qS; omega)))); unfold qS at h; exact ((hrN8 b i (by omega) (by omega)).trans (hkN b i (by unfold qS; omega)))), (τk + 1), msk, by omega, by omega, hvN8.2.2.2⟩
                    · exact absurd rfl c92
                  · have hse1 := fun x (hx : x < 4) => sSe_le hvN.2.1 hvN.2.2.1 hx ld
                    rcases (show w0 = 0 ∨ w0 = 1 by omega) with rfl | rfl
                    · have h9b : N 9 1 = nI eb := h9b
                      have h10 : N 10 1 = nI fb := h10
                      have htu : sTu fl ti sh ld t (200 - k) μ ν σk ea eb fb = (sTu fl ti sh ld t 200 μ ν σ 0 0 0) := htu
                      have hseA := hse1 μ (by omega)
                      have hgeA := sSe_ge fl sh σk μ ld
                      have hfiA := sFi_le fl sh σk μ ld
                      have hl : lv_has ls 9 [(0, .ref o), (1, .int (nI μ)), (2, .int (nI ν)), (3, .int (nI ld)), (4, .int (nI t)), (5, .int (nI s9)), (6, .int 0), (7, .int 1)] := hl
                      refine lv_iload X.1 X.2.1 dX12_turns_90 (lv_at hl 7 rfl) ?_
                      refine lv_if_eq (tgt := 224) X.1 X.2.1 dX12_turns_92 (by decide) (fun c92 => ?_) (fun c92 => ?_)
                      · exact absurd c92 (by decide)
                      · have n92 : ¬ 1 = 0 := gq_ne c92 (show (1 : Int32) = nI 1 from rfl) (show (0 : Int32) = nI 0 from rfl) (by omega) (by omega)
                        refine lv_aload_n X.1 X.2.1 dX12_turns_95 rfl (lv_at hl 0 rfl) ?_
                        refine m_getr 23 9 X hK hP hM hin rfl (by decide) k41 rfl dX12_turns_96 (by decide) ?_
                        refine lv_iload X.1 X.2.1 dX12_turns_99 (lv_at hl 6 rfl) ?_
                        refine m_ald 9 0 2 X hK hP hM rfl (gIx_of (show (0 : Int32) = nI 0 from rfl) (by omega) (by omega)) dX12_turns_101 (show N 9 0 = nI ea from h9a) ?_
                        refine lv_aload_n X.1 X.2.1 dX12_turns_102 rfl (lv_at hl 0 rfl) ?_
                        refine m_getr 24 10 X hK hP hM hin rfl (by decide) k44 rfl dX12_turns_103 (by decide) ?_
                        refine lv_iconst (v := 1) X.1 X.2.1 dX12_turns_106 (by decide) ?_
                        refine lv_iload X.1 X.2.1 dX12_turns_107 (lv_at hl 6 rfl) ?_
                        refine lv_isub X.1 X.2.1 dX12_turns_109 ?_
                        refine m_ald 10 1 2 X hK hP hM rfl (gIx_of (gn_eq (gn_sub (show (1 : Int32) = nI 1 from rfl) (show (0 : Int32) = nI 0 from rfl) (by omega)) (by omega)) (by omega) (by omega)) dX12_turns_110 (show N 10 1 = nI fb from h10) ?_
                        refine lv_icmp_le (tgt := 124) X.1 X.2.1 dX12_turns_111 (by decide) (fun c111 => ?_) (fun c111 => ?_)
                        · have n111 : ea ≤ fb := gq_le c111 (Eq.refl (nI ea)) (Eq.refl (nI fb)) (by omega) (by omega)
                          refine lv_aload_n X.1 X.2.1 dX12_turns_124 rfl (lv_at hl 0 rfl) ?_
                          refine m_getr 24 10 X hK hP hM hin rfl (by decide) k44 rfl dX12_turns_125 (by decide) ?_
                          refine lv_iconst (v := 1) X.1 X.2.1 dX12_turns_128 (by decide) ?_
                          refine lv_iload X.1 X.2.1 dX12_turns_129 (lv_at hl 6 rfl) ?_
                          refine lv_isub X.1 X.2.1 dX12_turns_131 ?_
                          refine m_ald 10 1 2 X hK hP hM rfl (gIx_of (gn_eq (gn_sub (show (1 : Int32) = nI 1 from rfl) (show (0 : Int32) = nI 0 from rfl) (by omega)) (by omega)) (by omega) (by omega)) dX12_turns_132 (show N 10 1 = nI fb from h10) ?_
                          refine lv_istore (lv' := [(8, .int (nI fb)), (0, .ref o), (1, .int (nI μ)), (2, .int (nI ν)), (3, .int (nI ld)), (4, .int (nI t)), (5, .int (nI s9)), (6, .int 0), (7, .int 1)]) X.1 X.2.1 dX12_turns_133 hl (by decide) rfl (fun ls hl => ?_)
                          refine lv_aload_n X.1 X.2.1 dX12_turns_135 rfl (lv_at hl 1 rfl) ?_
                          refine lv_iload X.1 X.2.1 dX12_turns_136 (lv_at hl 7 rfl) ?_
                          refine lv_if_ne (tgt := 145) X.1 X.2.1 dX12_turns_138 (by decide) (fun c138 => ?_) (fun c138 => ?_)
                          · exact absurd rfl c138
                          · have n138 : 0 = 0 := gq_eq c138 (show (0 : Int32) = nI 0 from rfl) (show (0 : Int32) = nI 0 from rfl) (by omega) (by omega)
                            refine lv_iload_n X.1 X.2.1 dX12_turns_141 rfl (lv_at hl 2 rfl) ?_
                            refine lv_goto (tgt := 146) X.1 X.2.1 dX12_turns_142 (by decide) ?_
                            refine lv_iload_n X.1 X.2.1 dX12_turns_146 rfl (lv_at hl 4 rfl) ?_
                            refine g_run_v (g_runV (k := 14) [.int (nI μ), .int (nI ld)] X hK hP hS hC hB (c_goes hM hvN.1 hvN.2.1 hvN.2.2.1 (show μ < 4 by omega) (by rw [h18 38 (by omega)]; omega) (by omega) hvN.2.2.2 (by omega) (by omega)) (cwV 2 X.2.2.2.2 gX12_turns_X12_goes rfl rfl rfl (by decide +kernel) ⟨Nat.le_of_ble_eq_true rfl, Nat.le_of_ble_eq_true rfl⟩) (hM.1 0 _ rfl) rfl rfl hl.1 rfl (Nat.le_of_ble_eq_true rfl) dX12_turns_147 (by exact ⟨Nat.zero_le _, Nat.zero_le _⟩)) hS (fun u H locs hq hP hS => ?_)
                            obtain ⟨h19N9, h20N9, h21N9, h22N9, hσN9, ⟨τN9, msN9, hτaN9, hτbN9, hcaN9⟩, hkN9⟩ := hq
                            generalize u = N9 at hP h19N9 h20N9 h21N9 h22N9 hσN9 hcaN9 hkN9
                            have hP : gP D cy B z T (gI o 12 N9 I0) R H := hP
                            have hvN9 := inv_goes hvN (show μ < 4 by omega) hσN9 hcaN9 hkN9
                            have hfr0N9 := gS_fr hfN hkN9
                            refine lv_aload_n X.1 X.2.1 dX12_turns_150 rfl (lv_at hl 1 rfl) ?_
                            refine m_getr 24 10 X hK hP hM hin rfl (by decide) k44 rfl dX12_turns_151 (by decide) ?_
                            refine lv_iload X.1 X.2.1 dX12_turns_154 (lv_at hl 7 rfl) ?_
                            refine lv_iload X.1 X.2.1 dX12_turns_156 (lv_at hl 0 rfl) ?_
                            refine lv_aload_n X.1 X.2.1 dX12_turns_158 rfl (lv_at hl 1 rfl) ?_
                            refine m_geti 20 X hK hP hM hin rfl (by decide) k184 rfl dX12_turns_159 (show N9 0 20 = nI (sFi sh σk μ ld) from h20N9) ?_
                            refine lv_iadd X.1 X.2.1 dX12_turns_162 ?_
                            refine m_ast 10 0 2 X hK hP hS hM rfl (gIx_of (show (0 : Int32) = nI 0 from rfl) (by omega) (by omega)) dX12_turns_163 (fun H locs hP hS => ?_)
                            generalize eM10 : g2 N9 10 0 ((nI fb) + (nI (sFi sh σk μ ld))) = M10 at hP
                            refine lv_aload_n X.1 X.2.1 dX12_turns_164 rfl (lv_at hl 1 rfl) ?_
                            refine m_getr 23 9 X hK hP hM hin rfl (by decide) k41 rfl dX12_turns_165 (by decide) ?_
                            refine lv_iload X.1 X.2.1 dX12_turns_168 (lv_at hl 7 rfl) ?_
                            refine lv_iload X.1 X.2.1 dX12_turns_170 (lv_at hl 0 rfl) ?_
                            refine lv_aload_n X.1 X.2.1 dX12_turns_172 rfl (lv_at hl 1 rfl) ?_
                            refine m_geti 21 X hK hP hM hin rfl (by decide) k187 rfl dX12_turns_173 (show M10 0 21 = nI (sSe fl sh σk μ ld) from (gs_ne eM10 (by omega) h21N9)) ?_
                            refine lv_iadd X.1 X.2.1 dX12_turns_176 ?_
                            refine m_ast 9 0 2 X hK hP hS hM rfl (gIx_of (show (0 : Int32) = nI 0 from rfl) (by omega) (by omega)) dX12_turns_177 (fun H locs hP hS => ?_)
                            generalize eM11 : g2 M10 9 0 ((nI fb) + (nI (sSe fl sh σk μ ld))) = M11 at hP
                            refine lv_aload_n X.1 X.2.1 dX12_turns_178 rfl (lv_at hl 1 rfl) ?_
                            refine m_getr 23 9 X hK hP hM hin rfl (by decide) k41 rfl dX12_turns_179 (by decide) ?_
                            refine lv_iload X.1 X.2.1 dX12_turns_182 (lv_at hl 7 rfl) ?_
                            refine m_ald 9 0 2 X hK hP hM rfl (gIx_of (show (0 : Int32) = nI 0 from rfl) (by omega) (by omega)) dX12_turns_184 (show M11 9 0 = (nI fb) + (nI (sSe fl sh σk μ ld)) from (gs_same eM11)) ?_
                            refine lv_iload X.1 X.2.1 dX12_turns_185 (lv_at hl 5 rfl) ?_
                            refine lv_icmp_gt (tgt := 194) X.1 X.2.1 dX12_turns_187 (by decide) (fun c187 => ?_) (fun c187 => ?_)
                            · have n187 : t < (fb + (sSe fl sh σk μ ld)) := gq_lt c187 (Eq.refl (nI t)) (gn_add (Eq.refl (nI fb)) (Eq.refl (nI (sSe fl sh σk μ ld)))) (by omega) (by omega)
                              refine lv_iconst (v := 0) X.1 X.2.1 dX12_turns_194 (by decide) ?_
                              refine lv_istore (lv' := [(7, .int 0), (8, .int (nI fb)), (0, .ref o), (1, .int (nI μ)), (2, .int (nI ν)), (3, .int (nI ld)), (4, .int (nI t)), (5, .int (nI s9)), (6, .int 0)]) X.1 X.2.1 dX12_turns_195 hl (by decide) rfl (fun ls hl => ?_)
                              refine lv_iload X.1 X.2.1 dX12_turns_197 (lv_at hl 7 rfl) ?_
                              refine lv_iload X.1 X.2.1 dX12_turns_199 (lv_at hl 0 rfl) ?_
                              refine lv_if_eq (tgt := 211) X.1 X.2.1 dX12_turns_201 (by decide) (fun c201 => ?_) (fun c201 => ?_)
                              · have n201 : 0 = 0 := gq_eq c201 (show (0 : Int32) = nI 0 from rfl) (show (0 : Int32) = nI 0 from rfl) (by omega) (by omega)
                                refine lv_iconst (v := 0) X.1 X.2.1 dX12_turns_211 (by decide) ?_
                                refine lv_iadd X.1 X.2.1 dX12_turns_212 ?_
                                refine lv_istore (lv' := [(5, .int ((nI s9) + 0)), (7, .int 0), (8, .int (nI fb)), (0, .ref o), (1, .int (nI μ)), (2, .int (nI ν)), (3, .int (nI ld)), (4, .int (nI t)), (6, .int 0)]) X.1 X.2.1 dX12_turns_213 hl (by decide) rfl (fun ls hl => ?_)
                                refine lv_iconst (v := 1) X.1 X.2.1 dX12_turns_215 (by decide) ?_
                                refine lv_iload X.1 X.2.1 dX12_turns_216 (lv_at hl 8 rfl) ?_
                                refine lv_isub X.1 X.2.1 dX12_turns_218 ?_
                                refine lv_istore (lv' := [(6, .int (1 - 0)), (5, .int ((nI s9) + 0)), (7, .int 0), (8, .int (nI fb)), (0, .ref o), (1, .int (nI μ)), (2, .int (nI ν)), (3, .int (nI ld)), (4, .int (nI t))]) X.1 X.2.1 dX12_turns_219 hl (by decide) rfl (fun ls hl => ?_)
                                refine lv_goto (tgt := 90) X.1 X.2.1 dX12_turns_221 (by decide) ?_
                                have hmx : max ea fb = fb := by omega
                                have hr9 : ∀ b i, ¬ (b = 9 ∨ b = 10) → M11 b i = N9 b i := fun b i h => gs_ne eM11 (by omega) (gs_ne eM10 (by omega) rfl)
                                have hvE : mInv M11 (sGo fl ti sh σk μ ld) fl ti sh (K + 300000 * (k + 1)) τN9 msN9 := mInv_le ⟨mS_c hvN9.1 (fun i => hr9 1 i (by omega)), mSite_c hvN9.2.1 (fun i _ _ => hr9 1 i (by omega)), hvN9.2.2.1, mCache_c hvN9.2.2.2 (hr9 0 17 (by omega)) (hr9 0 18 (by omega)) (fun a => ⟨hr9 6 a (by omega), hr9 7 a (by omega), hr9 8 a (by omega)⟩)⟩ (by omega)
                                have hfE : mFr M11 0 σ := fr_c hfr0N9 (fun i => hr9 3 i (by omega))
                                have hkE : ∀ b i, ¬ (qS b i ∨ (b = 1 ∧ i < 18)) → M11 b i = M b i := fun b i h => by unfold qS at h; exact (hr9 b i (by omega)).trans ((hkN9 b i (by unfold gS lS; omega)).trans (hkN b i (by unfold qS; omega)))
                                have htu2 := htu
                                rw [show 200 - k = (200 - (k + 1)) + 1 by omega] at htu2
                                have htu2 : (if t < max ea fb + sSe fl sh σk μ ld then σk else sTu fl ti sh ld t (200 - (k + 1)) ν μ (sGo fl ti sh σk μ ld) eb (max ea fb + sSe fl sh σk μ ld) (max ea fb + sFi sh σk μ ld)) = (sTu fl ti sh ld t 200 μ ν σ 0 0 0) := htu2
                                rw [if_pos (by omega)] at htu2
                                exact ih _ _ _ _ (by omega) ⟨(sGo fl ti sh σk μ ld), s9 + 0, τN9, msN9, _, 0, hvE, by omega, by omega, hfE, hkE, fun i hi9 => (sGo_18 (by omega) hi9).trans (h18 i hi9), by rw [sGo_1]; omega, Or.inl ⟨rfl, by rw [← htu2]; omega⟩, lv_sub hl [4, 5, 6, 7, 8, 1, 0, 2] (by rw [← nI_add]; rfl)⟩ hP hS
                              · exact absurd rfl c201
                            · have n187 : (fb + (sSe fl sh σk μ ld)) ≤ t := gq_nlt c187 (Eq.refl (nI t)) (gn_add (Eq.refl (nI fb)) (Eq.refl (nI (sSe fl sh σk μ ld)))) (by omega) (by omega)
                              refine lv_iconst (v := 1) X.1 X.2.1 dX12_turns_190 (by decide) ?_
                              refine lv_goto (tgt := 195) X.1 X.2.1 dX12_turns_191 (by decide) ?_
                              refine lv_istore (lv' := [(7, .int 1), (8, .int (nI fb)), (0, .ref o), (1, .int (nI μ)), (2, .int (nI ν)), (3, .int (nI ld)), (4, .int (nI t)), (5, .int (nI s9)), (6, .int 0)]) X.1 X.2.1 dX12_turns_195 hl (by decide) rfl (fun ls hl => ?_)
                              refine lv_iload X.1 X.2.1 dX12_turns_197 (lv_at hl 7 rfl) ?_
                              refine lv_iload X.1 X.2.1 dX12_turns_199 (lv_at hl 0 rfl) ?_
                              refine lv_if_eq (tgt := 211) X.1 X.2.1 dX12_turns_201 (by decide) (fun c201 => ?_) (fun c201 => ?_)
                              · exact absurd c201 (by decide)
                              · have n201 : ¬ 1 = 0 := gq_ne c201 (show (1 : Int32) = nI 1 from rfl) (show (0 : Int32) = nI 0 from rfl) (by omega) (by omega)
                                refine lv_aload_n X.1 X.2.1 dX12_turns_204 rfl (lv_at hl 2 rfl) ?_
                                refine m_geti 22 X hK hP hM hin rfl (by decide) k197 rfl dX12_turns_205 (show M11 0 22 = nI (sBr fl σk μ ld) from (gs_ne eM11 (by omega) (gs_ne eM10 (by omega) h22N9))) ?_
                                refine lv_goto (tgt := 212) X.1 X.2.1 dX12_turns_208 (by decide) ?_
                                refine lv_iadd X.1 X.2.1 dX12_turns_212 ?_
                                refine lv_istore (lv' := [(5, .int ((nI s9) + (nI (sBr fl σk μ ld)))), (7, .int 1), (8, .int (nI fb)), (0, .ref o), (1, .int (nI μ)), (2, .int (nI ν)), (3, .int (nI ld)), (4, .int (nI t)), (6, .int 0)]) X.1 X.2.1 dX12_turns_213 hl (by decide) rfl (fun ls hl => ?_)
                                refine lv_iconst (v := 1) X.1 X.2.1 dX12_turns_215 (by decide) ?_
                                refine lv_iload X.1 X.2.1 dX12_turns_216 (lv_at hl 8 rfl) ?_
                                refine lv_isub X.1 X.2.1 dX12_turns_218 ?_
                                refine lv_istore (lv' := [(6, .int (1 - 0)), (5, .int ((nI s9) + (nI (sBr fl σk μ ld)))), (7, .int 1), (8, .int (nI fb)), (0, .ref o), (1, .int (nI μ)), (2, .int (nI ν)), (3, .int (nI ld)), (4, .int (nI t))]) X.1 X.2.1 dX12_turns_219 hl (by decide) rfl (fun ls hl => ?_)
                                refine lv_goto (tgt := 90) X.1 X.2.1 dX12_turns_221 (by decide) ?_
                                have hmx : max ea fb = fb := by omega
                                have hr9 : ∀ b i, ¬ (b = 9 ∨ b = 10) → M11 b i = N9 b i := fun b i h => gs_ne eM11 (by omega) (gs_ne eM10 (by omega) rfl)
                                have hvE : mInv M11 (sGo fl ti sh σk μ ld) fl ti sh (K + 300000 * (k + 1)) τN9 msN9 := mInv_le ⟨mS_c hvN9.1 (fun i => hr9 1 i (by omega)), mSite_c hvN9.2.1 (fun i _ _ => hr9 1 i (by omega)), hvN9.2.2.1, mCache_c hvN9.2.2.2 (hr9 0 17 (by omega)) (hr9 0 18 (by omega)) (fun a => ⟨hr9 6 a (by omega), hr9 7 a (by omega), hr9 8 a (by omega)⟩)⟩ (by omega)
                                have hfE : mFr M11 0 σ := fr_c hfr0N9 (fun i => hr9 3 i (by omega))
                                have hkE : ∀ b i, ¬ (qS b i ∨ (b = 1 ∧ i < 18)) → M11 b i = M b i := fun b i h => by unfold qS at h; exact (hr9 b i (by omega)).trans ((hkN9 b i (by unfold gS lS; omega)).trans (hkN b i (by unfold qS; omega)))
                                have htu2 := htu
                                rw [show 200 - k = (200 - (k + 1)) + 1 by omega] at htu2
                                have htu2 : (if t < max ea fb + sSe fl sh σk μ ld then σk else sTu fl ti sh ld t (200 - (k + 1)) ν μ (sGo fl ti sh σk μ ld) eb (max ea fb + sSe fl sh σk μ ld) (max ea fb + sFi sh σk μ ld)) = (sTu fl ti sh ld t 200 μ ν σ 0 0 0) := htu2
                                rw [if_neg (by omega)] at htu2
                                exact ih _ _ _ _ (by omega) ⟨(sGo fl ti sh σk μ ld), s9 + sBr fl σk μ ld, τN9, msN9, _, 1, hvE, by omega, by omega, hfE, hkE, fun i hi9 => (sGo_18 (by omega) hi9).trans (h18 i hi9), by rw [sGo_1]; omega, Or.inr ⟨rfl, by rw [sGo_1]; omega, 1, eb, fb + sSe fl sh σk μ ld, fb + sFi sh σk μ ld, by omega, rfl, (gs_ne eM11 (by omega) (gs_ne eM10 (by omega) ((hkN9 9 1 (by unfold gS lS; omega)).trans h9b))), ((gs_same eM11)).trans (gn_add (Eq.refl (nI fb)) (Eq.refl (nI (sSe fl sh σk μ ld)))), ((gs_ne eM11 (by omega) (gs_same eM10))).trans (gn_add (Eq.refl (nI fb)) (Eq.refl (nI (sFi sh σk μ ld)))), by omega, by omega, by omega, by omega, (by rw [← hmx]; exact htu2)⟩, lv_sub hl [4, 5, 6, 7, 8, 1, 0, 2] (by rw [← nI_add]; rfl)⟩ hP hS
                        · have n111 : fb < ea := gq_nle c111 (Eq.refl (nI ea)) (Eq.refl (nI fb)) (by omega) (by omega)
                          refine lv_aload_n X.1 X.2.1 dX12_turns_114 rfl (lv_at hl 0 rfl) ?_
                          refine m_getr 23 9 X hK hP hM hin rfl (by decide) k41 rfl dX12_turns_115 (by decide) ?_
                          refine lv_iload X.1 X.2.1 dX12_turns_118 (lv_at hl 6 rfl) ?_
                          refine m_ald 9 0 2 X hK hP hM rfl (gIx_of (show (0 : Int32) = nI 0 from rfl) (by omega) (by omega)) dX12_turns_120 (show N 9 0 = nI ea from h9a) ?_
                          refine lv_goto (tgt := 133) X.1 X.2.1 dX12_turns_121 (by decide) ?_
                          refine lv_istore (lv' := [(8, .int (nI ea)), (0, .ref o), (1, .int (nI μ)), (2, .int (nI ν)), (3, .int (nI ld)), (4, .int (nI t)), (5, .int (nI s9)), (6, .int 0), (7, .int 1)]) X.1 X.2.1 dX12_turns_133 hl (by decide) rfl (fun ls hl => ?_)
                          refine lv_aload_n X.1 X.2.1 dX12_turns_135 rfl (lv_at hl 1 rfl) ?_
                          refine lv_iload X.1 X.2.1 dX12_turns_136 (lv_at hl 7 rfl) ?_
                          refine lv_if_ne (tgt := 145) X.1 X.2.1 dX12_turns_138 (by decide) (fun c138 => ?_) (fun c138 => ?_)
                          · exact absurd rfl c138
                          · have n138 : 0 = 0 := gq_eq c138 (show (0 : Int32) = nI 0 from rfl) (show (0 : Int32) = nI 0 from rfl) (by omega) (by omega)
                            refine lv_iload_n X.1 X.2.1 dX12_turns_141 rfl (lv_at hl 2 rfl) ?_
                            refine lv_goto (tgt := 146) X.1 X.2.1 dX12_turns_142 (by decide) ?_
                            refine lv_iload_n X.1 X.2.1 dX12_turns_146 rfl (lv_at hl 4 rfl) ?_
                            refine g_run_v (g_runV (k := 14) [.int (nI μ), .int (nI ld)] X hK hP hS hC hB (c_goes hM hvN.1 hvN.2.1 hvN.2.2.1 (show μ < 4 by omega) (by rw [h18 38 (by omega)]; omega) (by omega) hvN.2.2.2 (by omega) (by omega)) (cwV 2 X.2.2.2.2 gX12_turns_X12_goes rfl rfl rfl (by decide +kernel) ⟨Nat.le_of_ble_eq_true rfl, Nat.le_of_ble_eq_true rfl⟩) (hM.1 0 _ rfl) rfl rfl hl.1 rfl (Nat.le_of_ble_eq_true rfl) dX12_turns_147 (by exact ⟨Nat.zero_le _, Nat.zero_le _⟩)) hS (fun u H locs hq hP hS => ?_)
                            obtain ⟨h19N12, h20N12, h21N12, h22N12, hσN12, ⟨τN12, msN12, hτaN12, hτbN12, hcaN12⟩, hkN12⟩ := hq
                            generalize u = N12 at hP h19N12 h20N12 h21N12 h22N12 hσN12 hcaN12 hkN12
                            have hP : gP D cy B z T (gI o 12 N12 I0) R H := hP
                            have hvN12 := inv_goes hvN (show μ < 4 by omega) hσN12 hcaN12 hkN12
                            have hfr0N12 := gS_fr hfN hkN12
                            refine lv_aload_n X.1 X.2.1 dX12_turns_150 rfl (lv_at hl 1 rfl) ?_
                            refine m_getr 24 10 X hK hP hM hin rfl (by decide) k44 rfl dX12_turns_151 (by decide) ?_
                            refine lv_iload X.1 X.2.1 dX12_turns_154 (lv_at hl 7 rfl) ?_
                            refine lv_iload X.1 X.2.1 dX12_turns_156 (lv_at hl 0 rfl) ?_
                            refine lv_aload_n X.1 X.2.1 dX12_turns_158 rfl (lv_at hl 1 rfl) ?_
                            refine m_geti 20 X hK hP hM hin rfl (by decide) k184 rfl dX12_turns_159 (show N12 0 20 = nI (sFi sh σk μ ld) from h20N12) ?_
                            refine lv_iadd X.1 X.2.1 dX12_turns_162 ?_
                            refine m_ast 10 0 2 X hK hP hS hM rfl (gIx_of (show (0 : Int32) = nI 0 from rfl) (by omega) (by omega)) dX12_turns_163 (fun H locs hP hS => ?_)
                            generalize eM13 : g2 N12 10 0 ((nI ea) + (nI (sFi sh σk μ ld))) = M13 at hP
                            refine lv_aload_n X.1 X.2.1 dX12_turns_164 rfl (lv_at hl 1 rfl) ?_
                            refine m_getr 23 9 X hK hP hM hin rfl (by decide) k41 rfl dX12_turns_165 (by decide) ?_
                            refine lv_iload X.1 X.2.1 dX12_turns_168 (lv_at hl 7 rfl) ?_
                            refine lv_iload X.1 X.2.1 dX12_turns_170 (lv_at hl 0 rfl) ?_
                            refine lv_aload_n X.1 X.2.1 dX12_turns_172 rfl (lv_at hl 1 rfl) ?_
                            refine m_geti 21 X hK hP hM hin rfl (by decide) k187 rfl dX12_turns_173 (show M13 0 21 = nI (sSe fl sh σk μ ld) from (gs_ne eM13 (by omega) h21N12)) ?_
                            refine lv_iadd X.1 X.2.1 dX12_turns_176 ?_
                            refine m_ast 9 0 2 X hK hP hS hM rfl (gIx_of (show (0 : Int32) = nI 0 from rfl) (by omega) (by omega)) dX12_turns_177 (fun H locs hP hS => ?_)
                            generalize eM14 : g2 M13 9 0 ((nI ea) + (nI (sSe fl sh σk μ ld))) = M14 at hP
                            refine lv_aload_n X.1 X.2.1 dX12_turns_178 rfl (lv_at hl 1 rfl) ?_
                            refine m_getr 23 9 X hK hP hM hin rfl (by decide) k41 rfl dX12_turns_179 (by decide) ?_
                            refine lv_iload X.1 X.2.1 dX12_turns_182 (lv_at hl 7 rfl) ?_
                            refine m_ald 9 0 2 X hK hP hM rfl (gIx_of (show (0 : Int32) = nI 0 from rfl) (by omega) (by omega)) dX12_turns_184 (show M14 9 0 = (nI ea) + (nI (sSe fl sh σk μ ld)) from (gs_same eM14)) ?_
                            refine lv_iload X.1 X.2.1 dX12_turns_185 (lv_at hl 5 rfl) ?_
                            refine lv_icmp_gt (tgt := 194) X.1 X.2.1 dX12_turns_187 (by decide) (fun c187 => ?_) (fun c187 => ?_)
                            · have n187 : t < (ea + (sSe fl sh σk μ ld)) := gq_lt c187 (Eq.refl (nI t)) (gn_add (Eq.refl (nI ea)) (Eq.refl (nI (sSe fl sh σk μ ld)))) (by omega) (by omega)
                              refine lv_iconst (v := 0) X.1 X.2.1 dX12_turns_194 (by decide) ?_
                              refine lv_istore (lv' := [(7, .int 0), (8, .int (nI ea)), (0, .ref o), (1, .int (nI μ)), (2, .int (nI ν)), (3, .int (nI ld)), (4, .int (nI t)), (5, .int (nI s9)), (6, .int 0)]) X.1 X.2.1 dX12_turns_195 hl (by decide) rfl (fun ls hl => ?_)
                              refine lv_iload X.1 X.2.1 dX12_turns_197 (lv_at hl 7 rfl) ?_
                              refine lv_iload X.1 X.2.1 dX12_turns_199 (lv_at hl 0 rfl) ?_
                              refine lv_if_eq (tgt := 211) X.1 X.2.1 dX12_turns_201 (by decide) (fun c201 => ?_) (fun c201 => ?_)
                              · have n201 : 0 = 0 := gq_eq c201 (show (0 : Int32) = nI 0 from rfl) (show (0 : Int32) = nI 0 from rfl) (by omega) (by omega)
                                refine lv_iconst (v := 0) X.1 X.2.1 dX12_turns_211 (by decide) ?_
                                refine lv_iadd X.1 X.2.1 dX12_turns_212 ?_
                                refine lv_istore (lv' := [(5, .int ((nI s9) + 0)), (7, .int 0), (8, .int (nI ea)), (0, .ref o), (1, .int (nI μ)), (2, .int (nI ν)), (3, .int (nI ld)), (4, .int (nI t)), (6, .int 0)]) X.1 X.2.1 dX12_turns_213 hl (by decide) rfl (fun ls hl => ?_)
                                refine lv_iconst (v := 1) X.1 X.2.1 dX12_turns_215 (by decide) ?_
                                refine lv_iload X.1 X.2.1 dX12_turns_216 (lv_at hl 8 rfl) ?_
                                refine lv_isub X.1 X.2.1 dX12_turns_218 ?_
                                refine lv_istore (lv' := [(6, .int (1 - 0)), (5, .int ((nI s9) + 0)), (7, .int 0), (8, .int (nI ea)), (0, .ref o), (1, .int (nI μ)), (2, .int (nI ν)), (3, .int (nI ld)), (4, .int (nI t))]) X.1 X.2.1 dX12_turns_219 hl (by decide) rfl (fun ls hl => ?_)
                                refine lv_goto (tgt := 90) X.1 X.2.1 dX12_turns_221 (by decide) ?_
                                have hmx : max ea fb = ea := by omega
                                have hr9 : ∀ b i, ¬ (b = 9 ∨ b = 10) → M14 b i = N12 b i := fun b i h => gs_ne eM14 (by omega) (gs_ne eM13 (by omega) rfl)
                                have hvE : mInv M14 (sGo fl ti sh σk μ ld) fl ti sh (K + 300000 * (k + 1)) τN12 msN12 := mInv_le ⟨mS_c hvN12.1 (fun i => hr9 1 i (by omega)), mSite_c hvN12.2.1 (fun i _ _ => hr9 1 i (by omega)), hvN12.2.2.1, mCache_c hvN12.2.2.2 (hr9 0 17 (by omega)) (hr9 0 18 (by omega)) (fun a => ⟨hr9 6 a (by omega), hr9 7 a (by omega), hr9 8 a (by omega)⟩)⟩ (by omega)
                                have hfE : mFr M14 0 σ := fr_c hfr0N12 (fun i => hr9 3 i (by omega))
                                have hkE : ∀ b i, ¬ (qS b i ∨ (b = 1 ∧ i < 18)) → M14 b i = M b i := fun b i h => by unfold qS at h; exact (hr9 b i (by omega)).trans ((hkN12 b i (by unfold gS lS; omega)).trans (hkN b i (by unfold qS; omega)))
                                have htu2 := htu
                                rw [show 200 - k = (200 - (k + 1)) + 1 by omega] at htu2
                                have htu2 : (if t < max ea fb + sSe fl sh σk μ ld then σk else sTu fl ti sh ld t (200 - (k + 1)) ν μ (sGo fl ti sh σk μ ld) eb (max ea fb + sSe fl sh σk μ ld) (max ea fb + sFi sh σk μ ld)) = (sTu fl ti sh ld t 200 μ ν σ 0 0 0) := htu2
                                rw [if_pos (by omega)] at htu2
                                exact ih _ _ _ _ (by omega) ⟨(sGo fl ti sh σk μ ld), s9 + 0, τN12, msN12, _, 0, hvE, by omega, by omega, hfE, hkE, fun i hi9 => (sGo_18 (by omega) hi9).trans (h18 i hi9), by rw [sGo_1]; omega, Or.inl ⟨rfl, by rw [← htu2]; omega⟩, lv_sub hl [4, 5, 6, 7, 8, 1, 0, 2] (by rw [← nI_add]; rfl)⟩ hP hS
                              · exact absurd rfl c201
                            · have n187 : (ea + (sSe fl sh σk μ ld)) ≤ t := gq_nlt c187 (Eq.refl (nI t)) (gn_add (Eq.refl (nI ea)) (Eq.refl (nI (sSe fl sh σk μ ld)))) (by omega) (by omega)
                              refine lv_iconst (v := 1) X.1 X.2.1 dX12_turns_190 (by decide) ?_
                              refine lv_goto (tgt := 195) X.1 X.2.1 dX12_turns_191 (by decide) ?_
                              refine lv_istore (lv' := [(7, .int 1), (8, .int (nI ea)), (0, .ref o), (1, .int (nI μ)), (2, .int (nI ν)), (3, .int (nI ld)), (4, .int (nI t)), (5, .int (nI s9)), (6, .int 0)]) X.1 X.2.1 dX12_turns_195 hl (by decide) rfl (fun ls hl => ?_)
                              refine lv_iload X.1 X.2.1 dX12_turns_197 (lv_at hl 7 rfl) ?_
                              refine lv_iload X.1 X.2.1 dX12_turns_199 (lv_at hl 0 rfl) ?_
                              refine lv_if_eq (tgt := 211) X.1 X.2.1 dX12_turns_201 (by decide) (fun c201 => ?_) (fun c201 => ?_)
                              · exact absurd c201 (by decide)
                              · have n201 : ¬ 1 = 0 := gq_ne c201 (show (1 : Int32) = nI 1 from rfl) (show (0 : Int32) = nI 0 from rfl) (by omega) (by omega)
                                refine lv_aload_n X.1 X.2.1 dX12_turns_204 rfl (lv_at hl 2 rfl) ?_
                                refine m_geti 22 X hK hP hM hin rfl (by decide) k197 rfl dX12_turns_205 (show M14 0 22 = nI (sBr fl σk μ ld) from (gs_ne eM14 (by omega) (gs_ne eM13 (by omega) h22N12))) ?_
                                refine lv_goto (tgt := 212) X.1 X.2.1 dX12_turns_208 (by decide) ?_
                                refine lv_iadd X.1 X.2.1 dX12_turns_212 ?_
                                refine lv_istore (lv' := [(5, .int ((nI s9) + (nI (sBr fl σk μ ld)))), (7, .int 1), (8, .int (nI ea)), (0, .ref o), (1, .int (nI μ)), (2, .int (nI ν)), (3, .int (nI ld)), (4, .int (nI t)), (6, .int 0)]) X.1 X.2.1 dX12_turns_213 hl (by decide) rfl (fun ls hl => ?_)
                                refine lv_iconst (v := 1) X.1 X.2.1 dX12_turns_215 (by decide) ?_
                                refine lv_iload X.1 X.2.1 dX12_turns_216 (lv_at hl 8 rfl) ?_
                                refine lv_isub X.1 X.2.1 dX12_turns_218 ?_
                                refine lv_istore (lv' := [(6, .int (1 - 0)), (5, .int ((nI s9) + (nI (sBr fl σk μ ld)))), (7, .int 1), (8, .int (nI ea)), (0, .ref o), (1, .int (nI μ)), (2, .int (nI ν)), (3, .int (nI ld)), (4, .int (nI t))]) X.1 X.2.1 dX12_turns_219 hl (by decide) rfl (fun ls hl => ?_)
                                refine lv_goto (tgt := 90) X.1 X.2.1 dX12_turns_221 (by decide) ?_
                                have hmx : max ea fb = ea := by omega
                                have hr9 : ∀ b i, ¬ (b = 9 ∨ b = 10) → M14 b i = N12 b i := fun b i h => gs_ne eM14 (by omega) (gs_ne eM13 (by omega) rfl)
                                have hvE : mInv M14 (sGo fl ti sh σk μ ld) fl ti sh (K + 300000 * (k + 1)) τN12 msN12 := mInv_le ⟨mS_c hvN12.1 (fun i => hr9 1 i (by omega)), mSite_c hvN12.2.1 (fun i _ _ => hr9 1 i (by omega)), hvN12.2.2.1, mCache_c hvN12.2.2.2 (hr9 0 17 (by omega)) (hr9 0 18 (by omega)) (fun a => ⟨hr9 6 a (by omega), hr9 7 a (by omega), hr9 8 a (by omega)⟩)⟩ (by omega)
                                have hfE : mFr M14 0 σ := fr_c hfr0N12 (fun i => hr9 3 i (by omega))
                                have hkE : ∀ b i, ¬ (qS b i ∨ (b = 1 ∧ i < 18)) → M14 b i = M b i := fun b i h => by unfold qS at h; exact (hr9 b i (by omega)).trans ((hkN12 b i (by unfold gS lS; omega)).trans (hkN b i (by unfold qS; omega)))
                                have htu2 := htu
                                rw [show 200 - k = (200 - (k + 1)) + 1 by omega] at htu2
                                have htu2 : (if t < max ea fb + sSe fl sh σk μ ld then σk else sTu fl ti sh ld t (200 - (k + 1)) ν μ (sGo fl ti sh σk μ ld) eb (max ea fb + sSe fl sh σk μ ld) (max ea fb + sFi sh σk μ ld)) = (sTu fl ti sh ld t 200 μ ν σ 0 0 0) := htu2
                                rw [if_neg (by omega)] at htu2
                                exact ih _ _ _ _ (by omega) ⟨(sGo fl ti sh σk μ ld), s9 + sBr fl σk μ ld, τN12, msN12, _, 1, hvE, by omega, by omega, hfE, hkE, fun i hi9 => (sGo_18 (by omega) hi9).trans (h18 i hi9), by rw [sGo_1]; omega, Or.inr ⟨rfl, by rw [sGo_1]; omega, 1, eb, ea + sSe fl sh σk μ ld, ea + sFi sh σk μ ld, by omega, rfl, (gs_ne eM14 (by omega) (gs_ne eM13 (by omega) ((hkN12 9 1 (by unfold gS lS; omega)).trans h9b))), ((gs_same eM14)).trans (gn_add (Eq.refl (nI ea)) (Eq.refl (nI (sSe fl sh σk μ ld)))), ((gs_ne eM14 (by omega) (gs_same eM13))).trans (gn_add (Eq.refl (nI ea)) (Eq.refl (nI (sFi sh σk μ ld)))), by omega, by omega, by omega, by omega, (by rw [← hmx]; exact htu2)⟩, lv_sub hl [4, 5, 6, 7, 8, 1, 0, 2] (by rw [← nI_add]; rfl)⟩ hP hS
                    · have h9b : N 9 0 = nI eb := h9b
                      have h10 : N 10 0 = nI fb := h10
                      have htu : sTu fl ti sh ld t (200 - k) ν μ σk ea eb fb = (sTu fl ti sh ld t 200 μ ν σ 0 0 0) := htu
                      have hseA := hse1 ν (by omega)
                      have hgeA := sSe_ge fl sh σk ν ld
                      have hfiA := sFi_le fl sh σk ν ld
                      have hl : lv_has ls 9 [(0, .ref o), (1, .int (nI μ)), (2, .int (nI ν)), (3, .int (nI ld)), (4, .int (nI t)), (5, .int (nI s9)), (6, .int 1), (7, .int 1)] := hl
                      refine lv_iload X.1 X.2.1 dX12_turns_90 (lv_at hl 7 rfl) ?_
                      refine lv_if_eq (tgt := 224) X.1 X.2.1 dX12_turns_92 (by decide) (fun c92 => ?_) (fun c92 => ?_)
                      · exact absurd c92 (by decide)
                      · have n92 : ¬ 1 = 0 := gq_ne c92 (show (1 : Int32) = nI 1 from rfl) (show (0 : Int32) = nI 0 from rfl) (by omega) (by omega)
                        refine lv_aload_n X.1 X.2.1 dX12_turns_95 rfl (lv_at hl 0 rfl) ?_
                        refine m_getr 23 9 X hK hP hM hin rfl (by decide) k41 rfl dX12_turns_96 (by decide) ?_
                        refine lv_iload X.1 X.2.1 dX12_turns_99 (lv_at hl 6 rfl) ?_
                        refine m_ald 9 1 2 X hK hP hM rfl (gIx_of (show (1 : Int32) = nI 1 from rfl) (by omega) (by omega)) dX12_turns_101 (show N 9 1 = nI ea from h9a) ?_
                        refine lv_aload_n X.1 X.2.1 dX12_turns_102 rfl (lv_at hl 0 rfl) ?_
                        refine m_getr 24 10 X hK hP hM hin rfl (by decide) k44 rfl dX12_turns_103 (by decide) ?_
                        refine lv_iconst (v := 1) X.1 X.2.1 dX12_turns_106 (by decide) ?_
                        refine lv_iload X.1 X.2.1 dX12_turns_107 (lv_at hl 6 rfl) ?_
                        refine lv_isub X.1 X.2.1 dX12_turns_109 ?_
                        refine m_ald 10 0 2 X hK hP hM rfl (gIx_of (gn_eq (gn_sub (show (1 : Int32) = nI 1 from rfl) (show (1 : Int32) = nI 1 from rfl) (by omega)) (by omega)) (by omega) (by omega)) dX12_turns_110 (show N 10 0 = nI fb from h10) ?_
                        refine lv_icmp_le (tgt := 124) X.1 X.2.1 dX12_turns_111 (by decide) (fun c111 => ?_) (fun c111 => ?_)
                        · have n111 : ea ≤ fb := gq_le c111 (Eq.refl (nI ea)) (Eq.refl (nI fb)) (by omega) (by omega)
                          refine lv_aload_n X.1 X.2.1 dX12_turns_124 rfl (lv_at hl 0 rfl) ?_
                          refine m_getr 24 10 X hK hP hM hin rfl (by decide) k44 rfl dX12_turns_125 (by decide) ?_
                          refine lv_iconst (v := 1) X.1 X.2.1 dX12_turns_128 (by decide) ?_
                          refine lv_iload X.1 X.2.1 dX12_turns_129 (lv_at hl 6 rfl) ?_
                          refine lv_isub X.1 X.2.1 dX12_turns_131 ?_
                          refine m_ald 10 0 2 X hK hP hM rfl (gIx_of (gn_eq (gn_sub (show (1 : Int32) = nI 1 from rfl) (show (1 : Int32) = nI 1 from rfl) (by omega)) (by omega)) (by omega) (by omega)) dX12_turns_132 (show N 10 0 = nI fb from h10) ?_
                          refine lv_istore (lv' := [(8, .int (nI fb)), (0, .ref o), (1, .int (nI μ)), (2, .int (nI ν)), (3, .int (nI ld)), (4, .int (nI t)), (5, .int (nI s9)), (6, .int 1), (7, .int 1)]) X.1 X.2.1 dX12_turns_133 hl (by decide) rfl (fun ls hl => ?_)
                          refine lv_aload_n X.1 X.2.1 dX12_turns_135 rfl (lv_at hl 1 rfl) ?_
                          refine lv_iload X.1 X.2.1 dX12_turns_136 (lv_at hl 7 rfl) ?_
                          refine lv_if_ne (tgt := 145) X.1 X.2.1 dX12_turns_138 (by decide) (fun c138 => ?_) (fun c138 => ?_)
                          · have n138 : ¬ 1 = 0 := gq_ne c138 (show (1 : Int32) = nI 1 from rfl) (show (0 : Int32) = nI 0 from rfl) (by omega) (by omega)
                            refine lv_iload_n X.1 X.2.1 dX12_turns_145 rfl (lv_at hl 3 rfl) ?_
                            refine lv_iload_n X.1 X.2.1 dX12_turns_146 rfl (lv_at hl 4 rfl) ?_
                            refine g_run_v (g_runV (k := 14) [.int (nI ν), .int (nI ld)] X hK hP hS hC hB (c_goes hM hvN.1 hvN.2.1 hvN.2.2.1 (show ν < 4 by omega) (by rw [h18 38 (by omega)]; omega) (by omega) hvN.2.2.2 (by omega) (by omega)) (cwV 2 X.2.2.2.2 gX12_turns_X12_goes rfl rfl rfl (by decide +kernel) ⟨Nat.le_of_ble_eq_true rfl, Nat.le_of_ble_eq_true rfl⟩) (hM.1 0 _ rfl) rfl rfl hl.1 rfl (Nat.le_of_ble_eq_true rfl) dX12_turns_147 (by exact ⟨Nat.zero_le _, Nat.zero_le _⟩)) hS (fun u H locs hq hP hS => ?_)
                            obtain ⟨h19N15, h20N15, h21N15, h22N15, hσN15, ⟨τN15, msN15, hτaN15, hτbN15, hcaN15⟩, hkN15⟩ := hq
                            generalize u = N15 at hP h19N15 h20N15 h21N15 h22N15 hσN15 hcaN15 hkN15
                            have hP : gP D cy B z T (gI o 12 N15 I0) R H := hP
                            have hvN15 := inv_goes hvN (show ν < 4 by omega) hσN15 hcaN15 hkN15
                            have hfr0N15 := gS_fr hfN hkN15
                            refine lv_aload_n X.1 X.2.1 dX12_turns_150 rfl (lv_at hl 1 rfl) ?_
                            refine m_getr 24 10 X hK hP hM hin rfl (by decide) k44 rfl dX12_turns_151 (by decide) ?_
                            refine lv_iload X.1 X.2.1 dX12_turns_154 (lv_at hl 7 rfl) ?_
                            refine lv_iload X.1 X.2.1 dX12_turns_156 (lv_at hl 0 rfl) ?_
                            refine lv_aload_n X.1 X.2.1 dX12_turns_158 rfl (lv_at hl 1 rfl) ?_
                            refine m_geti 20 X hK hP hM hin rfl (by decide) k184 rfl dX12_turns_159 (show N15 0 20 = nI (sFi sh σk ν ld) from h20N15) ?_
                            refine lv_iadd X.1 X.2.1 dX12_turns_162 ?_
                            refine m_ast 10 1 2 X hK hP hS hM rfl (gIx_of (show (1 : Int32) = nI 1 from rfl) (by omega) (by omega)) dX12_turns_163 (fun H locs hP hS => ?_)
                            generalize eM16 : g2 N15 10 1 ((nI fb) + (nI (sFi sh σk ν ld))) = M16 at hP
                            refine lv_aload_n X.1 X.2.1 dX12_turns_164 rfl (lv_at hl 1 rfl) ?_
                            refine m_getr 23 9 X hK hP hM hin rfl (by decide) k41 rfl dX12_turns_165 (by decide) ?_
                            refine lv_iload X.1 X.2.1 dX12_turns_168 (lv_at hl 7 rfl) ?_
                            refine lv_iload X.1 X.2.1 dX12_turns_170 (lv_at hl 0 rfl) ?_
                            refine lv_aload_n X.1 X.2.1 dX12_turns_172 rfl (lv_at hl 1 rfl) ?_
                            refine m_geti 21 X hK hP hM hin rfl (by decide) k187 rfl dX12_turns_173 (show M16 0 21 = nI (sSe fl sh σk ν ld) from (gs_ne eM16 (by omega) h21N15)) ?_
                            refine lv_iadd X.1 X.2.1 dX12_turns_176 ?_
                            refine m_ast 9 1 2 X hK hP hS hM rfl (gIx_of (show (1 : Int32) = nI 1 from rfl) (by omega) (by omega)) dX12_turns_177 (fun H locs hP hS => ?_)
                            generalize eM17 : g2 M16 9 1 ((nI fb) + (nI (sSe fl sh σk ν ld))) = M17 at hP
                            refine lv_aload_n X.1 X.2.1 dX12_turns_178 rfl (lv_at hl 1 rfl) ?_
                            refine m_getr 23 9 X hK hP hM hin rfl (by decide) k41 rfl dX12_turns_179 (by decide) ?_
                            refine lv_iload X.1 X.2.1 dX12_turns_182 (lv_at hl 7 rfl) ?_
                            refine m_ald 9 1 2 X hK hP hM rfl (gIx_of (show (1 : Int32) = nI 1 from rfl) (by omega) (by omega)) dX12_turns_184 (show M17 9 1 = (nI fb) + (nI (sSe fl sh σk ν ld)) from (gs_same eM17)) ?_
                            refine lv_iload X.1 X.2.1 dX12_turns_185 (lv_at hl 5 rfl) ?_
                            refine lv_icmp_gt (tgt := 194) X.1 X.2.1 dX12_turns_187 (by decide) (fun c187 => ?_) (fun c187 => ?_)
                            · have n187 : t < (fb + (sSe fl sh σk ν ld)) := gq_lt c187 (Eq.refl (nI t)) (gn_add (Eq.refl (nI fb)) (Eq.refl (nI (sSe fl sh σk ν ld)))) (by omega) (by omega)
                              refine lv_iconst (v := 0) X.1 X.2.1 dX12_turns_194 (by decide) ?_
                              refine lv_istore (lv' := [(7, .int 0), (8, .int (nI fb)), (0, .ref o), (1, .int (nI μ)), (2, .int (nI ν)), (3, .int (nI ld)), (4, .int (nI t)), (5, .int (nI s9)), (6, .int 1)]) X.1 X.2.1 dX12_turns_195 hl (by decide) rfl (fun ls hl => ?_)
                              refine lv_iload X.1 X.2.1 dX12_turns_197 (lv_at hl 7 rfl) ?_
                              refine lv_iload X.1 X.2.1 dX12_turns_199 (lv_at hl 0 rfl) ?_
                              refine lv_if_eq (tgt := 211) X.1 X.2.1 dX12_turns_201 (by decide) (fun c201 => ?_) (fun c201 => ?_)
                              · have n201 : 0 = 0 := gq_eq c201 (show (0 : Int32) = nI 0 from rfl) (show (0 : Int32) = nI 0 from rfl) (by omega) (by omega)
                                refine lv_iconst (v := 0) X.1 X.2.1 dX12_turns_211 (by decide) ?_
                                refine lv_iadd X.1 X.2.1 dX12_turns_212 ?_
                                refine lv_istore (lv' := [(5, .int ((nI s9) + 0)), (7, .int 0), (8, .int (nI fb)), (0, .ref o), (1, .int (nI μ)), (2, .int (nI ν)), (3, .int (nI ld)), (4, .int (nI t)), (6, .int 1)]) X.1 X.2.1 dX12_turns_213 hl (by decide) rfl (fun ls hl => ?_)
                                refine lv_iconst (v := 1) X.1 X.2.1 dX12_turns_215 (by decide) ?_
                                refine lv_iload X.1 X.2.1 dX12_turns_216 (lv_at hl 8 rfl) ?_
                                refine lv_isub X.1 X.2.1 dX12_turns_218 ?_
                                refine lv_istore (lv' := [(6, .int (1 - 1)), (5, .int ((nI s9) + 0)), (7, .int 0), (8, .int (nI fb)), (0, .ref o), (1, .int (nI μ)), (2, .int (nI ν)), (3, .int (nI ld)), (4, .int (nI t))]) X.1 X.2.1 dX12_turns_219 hl (by decide) rfl (fun ls hl => ?_)
                                refine lv_goto (tgt := 90) X.1 X.2.1 dX12_turns_221 (by decide) ?_
                                have hmx : max ea fb = fb := by omega
                                have hr9 : ∀ b i, ¬ (b = 9 ∨ b = 10) → M17 b i = N15 b i := fun b i h => gs_ne eM17 (by omega) (gs_ne eM16 (by omega) rfl)
                                have hvE : mInv M17 (sGo fl ti sh σk ν ld) fl ti sh (K + 300000 * (k + 1)) τN15 msN15 := mInv_le ⟨mS_c hvN15.1 (fun i => hr9 1 i (by omega)), mSite_c hvN15.2.1 (fun i _ _ => hr9 1 i (by omega)), hvN15.2.2.1, mCache_c hvN15.2.2.2 (hr9 0 17 (by omega)) (hr9 0 18 (by omega)) (fun a => ⟨hr9 6 a (by omega), hr9 7 a (by omega), hr9 8 a (by omega)⟩)⟩ (by omega)
                                have hfE : mFr M17 0 σ := fr_c hfr0N15 (fun i => hr9 3 i (by omega))
                                have hkE : ∀ b i, ¬ (qS b i ∨ (b = 1 ∧ i < 18)) → M17 b i = M b i := fun b i h => by unfold qS at h; exact (hr9 b i (by omega)).trans ((hkN15 b i (by unfold gS lS; omega)).trans (hkN b i (by unfold qS; omega)))
                                have htu2 := htu
                                rw [show 200 - k = (200 - (k + 1)) + 1 by omega] at htu2
                                have htu2 : (if t < max ea fb + sSe fl sh σk ν ld then σk else sTu fl ti sh ld t (200 - (k + 1)) μ ν (sGo fl ti sh σk ν ld) eb (max ea fb + sSe fl sh σk ν ld) (max ea fb + sFi sh σk ν ld)) = (sTu fl ti sh ld t 200 μ ν σ 0 0 0) := htu2
                                rw [if_pos (by omega)] at htu2
                                exact ih _ _ _ _ (by omega) ⟨(sGo fl ti sh σk ν ld), s9 + 0, τN15, msN15, _, 0, hvE, by omega, by omega, hfE, hkE, fun i hi9 => (sGo_18 (by omega) hi9).trans (h18 i hi9), by rw [sGo_1]; omega, Or.inl ⟨rfl, by rw [← htu2]; omega⟩, lv_sub hl [4, 5, 6, 7, 8, 1, 0, 2] (by rw [← nI_add]; rfl)⟩ hP hS
                              · exact absurd rfl c201
                            · have n187 : (fb + (sSe fl sh σk ν ld)) ≤ t := gq_nlt c187 (Eq.refl (nI t)) (gn_add (Eq.refl (nI fb)) (Eq.refl (nI (sSe fl sh σk ν ld)))) (by omega) (by omega)
                              refine lv_iconst (v := 1) X.1 X.2.1 dX12_turns_190 (by decide) ?_
                              refine lv_goto (tgt := 195) X.1 X.2.1 dX12_turns_191 (by decide) ?_
                              refine lv_istore (lv' := [(7, .int 1), (8, .int (nI fb)), (0, .ref o), (1, .int (nI μ)), (2, .int (nI ν)), (3, .int (nI ld)), (4, .int (nI t)), (5, .int (nI s9)), (6, .int 1)]) X.1 X.2.1 dX12_turns_195 hl (by decide) rfl (fun ls hl => ?_)
                              refine lv_iload X.1 X.2.1 dX12_turns_197 (lv_at hl 7 rfl) ?_
                              refine lv_iload X.1 X.2.1 dX12_turns_199 (lv_at hl 0 rfl) ?_
                              refine lv_if_eq (tgt := 211) X.1 X.2.1 dX12_turns_201 (by decide) (fun c201 => ?_) (fun c201 => ?_)
                              · exact absurd c201 (by decide)
                              · have n201 : ¬ 1 = 0 := gq_ne c201 (show (1 : Int32) = nI 1 from rfl) (show (0 : Int32) = nI 0 from rfl) (by omega) (by omega)
                                refine lv_aload_n X.1 X.2.1 dX12_turns_204 rfl (lv_at hl 2 rfl) ?_
                                refine m_geti 22 X hK hP hM hin rfl (by decide) k197 rfl dX12_turns_205 (show M17 0 22 = nI (sBr fl σk ν ld) from (gs_ne eM17 (by omega) (gs_ne eM16 (by omega) h22N15))) ?_
                                refine lv_goto (tgt := 212) X.1 X.2.1 dX12_turns_208 (by decide) ?_
                                refine lv_iadd X.1 X.2.1 dX12_turns_212 ?_
                                refine lv_istore (lv' := [(5, .int ((nI s9) + (nI (sBr fl σk ν ld)))), (7, .int 1), (8, .int (nI fb)), (0, .ref o), (1, .int (nI μ)), (2, .int (nI ν)), (3, .int (nI ld)), (4, .int (nI t)), (6, .int 1)]) X.1 X.2.1 dX12_turns_213 hl (by decide) rfl (fun ls hl => ?_)
                                refine lv_iconst (v := 1) X.1 X.2.1 dX12_turns_215 (by decide) ?_
                                refine lv_iload X.1 X.2.1 dX12_turns_216 (lv_at hl 8 rfl) ?_
                                refine lv_isub X.1 X.2.1 dX12_turns_218 ?_
                                refine lv_istore (lv' := [(6, .int (1 - 1)), (5, .int ((nI s9) + (nI (sBr fl σk ν ld)))), (7, .int 1), (8, .int (nI fb)), (0, .ref o), (1, .int (nI μ)), (2, .int (nI ν)), (3, .int (nI ld)), (4, .int (nI t))]) X.1 X.2.1 dX12_turns_219 hl (by decide) rfl (fun ls hl => ?_)
                                refine lv_goto (tgt := 90) X.1 X.2.1 dX12_turns_221 (by decide) ?_
                                have hmx : max ea fb = fb := by omega
                                have hr9 : ∀ b i, ¬ (b = 9 ∨ b = 10) → M17 b i = N15 b i := fun b i h => gs_ne eM17 (by omega) (gs_ne eM16 (by omega) rfl)
                                have hvE : mInv M17 (sGo fl ti sh σk ν ld) fl ti sh (K + 300000 * (k + 1)) τN15 msN15 := mInv_le ⟨mS_c hvN15.1 (fun i => hr9 1 i (by omega)), mSite_c hvN15.2.1 (fun i _ _ => hr9 1 i (by omega)), hvN15.2.2.1, mCache_c hvN15.2.2.2 (hr9 0 17 (by omega)) (hr9 0 18 (by omega)) (fun a => ⟨hr9 6 a (by omega), hr9 7 a (by omega), hr9 8 a (by omega)⟩)⟩ (by omega)
                                have hfE : mFr M17 0 σ := fr_c hfr0N15 (fun i => hr9 3 i (by omega))
                                have hkE : ∀ b i, ¬ (qS b i ∨ (b = 1 ∧ i < 18)) → M17 b i = M b i := fun b i h => by unfold qS at h; exact (hr9 b i (by omega)).trans ((hkN15 b i (by unfold gS lS; omega)).trans (hkN b i (by unfold qS; omega)))
                                have htu2 := htu
                                rw [show 200 - k = (200 - (k + 1)) + 1 by omega] at htu2
                                have htu2 : (if t < max ea fb + sSe fl sh σk ν ld then σk else sTu fl ti sh ld t (200 - (k + 1)) μ ν (sGo fl ti sh σk ν ld) eb (max ea fb + sSe fl sh σk ν ld) (max ea fb + sFi sh σk ν ld)) = (sTu fl ti sh ld t 200 μ ν σ 0 0 0) := htu2
                                rw [if_neg (by omega)] at htu2
                                exact ih _ _ _ _ (by omega) ⟨(sGo fl ti sh σk ν ld), s9 + sBr fl σk ν ld, τN15, msN15, _, 1, hvE, by omega, by omega, hfE, hkE, fun i hi9 => (sGo_18 (by omega) hi9).trans (h18 i hi9), by rw [sGo_1]; omega, Or.inr ⟨rfl, by rw [sGo_1]; omega, 0, eb, fb + sSe fl sh σk ν ld, fb + sFi sh σk ν ld, by omega, rfl, (gs_ne eM17 (by omega) (gs_ne eM16 (by omega) ((hkN15 9 0 (by unfold gS lS; omega)).trans h9b))), ((gs_same eM17)).trans (gn_add (Eq.refl (nI fb)) (Eq.refl (nI (sSe fl sh σk ν ld)))), ((gs_ne eM17 (by omega) (gs_same eM16))).trans (gn_add (Eq.refl (nI fb)) (Eq.refl (nI (sFi sh σk ν ld)))), by omega, by omega, by omega, by omega, (by rw [← hmx]; exact htu2)⟩, lv_sub hl [4, 5, 6, 7, 8, 1, 0, 2] (by rw [← nI_add]; rfl)⟩ hP hS
                          · exact absurd c138 (by decide)
                        · have n111 : fb < ea := gq_nle c111 (Eq.refl (nI ea)) (Eq.refl (nI fb)) (by omega) (by omega)
                          refine lv_aload_n X.1 X.2.1 dX12_turns_114 rfl (lv_at hl 0 rfl) ?_
                          refine m_getr 23 9 X hK hP hM hin rfl (by decide) k41 rfl dX12_turns_115 (by decide) ?_
                          refine lv_iload X.1 X.2.1 dX12_turns_118 (lv_at hl 6 rfl) ?_
                          refine m_ald 9 1 2 X hK hP hM rfl (gIx_of (show (1 : Int32) = nI 1 from rfl) (by omega) (by omega)) dX12_turns_120 (show N 9 1 = nI ea from h9a) ?_
                          refine lv_goto (tgt := 133) X.1 X.2.1 dX12_turns_121 (by decide) ?_
                          refine lv_istore (lv' := [(8, .int (nI ea)), (0, .ref o), (1, .int (nI μ)), (2, .int (nI ν)), (3, .int (nI ld)), (4, .int (nI t)), (5, .int (nI s9)), (6, .int 1), (7, .int 1)]) X.1 X.2.1 dX12_turns_133 hl (by decide) rfl (fun ls hl => ?_)
                          refine lv_aload_n X.1 X.2.1 dX12_turns_135 rfl (lv_at hl 1 rfl) ?_
                          refine lv_iload X.1 X.2.1 dX12_turns_136 (lv_at hl 7 rfl) ?_
                          refine lv_if_ne (tgt := 145) X.1 X.2.1 dX12_turns_138 (by decide) (fun c138 => ?_) (fun c138 => ?_)
                          · have n138 : ¬ 1 = 0 := gq_ne c138 (show (1 : Int32) = nI 1 from rfl) (show (0 : Int32) = nI 0 from rfl) (by omega) (by omega)
                            refine lv_iload_n X.1 X.2.1 dX12_turns_145 rfl (lv_at hl 3 rfl) ?_
                            refine lv_iload_n X.1 X.2.1 dX12_turns_146 rfl (lv_at hl 4 rfl) ?_
                            refine g_run_v (g_runV (k := 14) [.int (nI ν), .int (nI ld)] X hK hP hS hC hB (c_goes hM hvN.1 hvN.2.1 hvN.2.2.1 (show ν < 4 by omega) (by rw [h18 38 (by omega)]; omega) (by omega) hvN.2.2.2 (by omega) (by omega)) (cwV 2 X.2.2.2.2 gX12_turns_X12_goes rfl rfl rfl (by decide +kernel) ⟨Nat.le_of_ble_eq_true rfl, Nat.le_of_ble_eq_true rfl⟩) (hM.1 0 _ rfl) rfl rfl hl.1 rfl (Nat.le_of_ble_eq_true rfl) dX12_turns_147 (by exact ⟨Nat.zero_le _, Nat.zero_le _⟩)) hS (fun u H locs hq hP hS => ?_)
                            obtain ⟨h19N18, h20N18, h21N18, h22N18, hσN18, ⟨τN18, msN18, hτaN18, hτbN18, hcaN18⟩, hkN18⟩ := hq
                            generalize u = N18 at hP h19N18 h20N18 h21N18 h22N18 hσN18 hcaN18 hkN18
                            have hP : gP D cy B z T (gI o 12 N18 I0) R H := hP
                            have hvN18 := inv_goes hvN (show ν < 4 by omega) hσN18 hcaN18 hkN18
                            have hfr0N18 := gS_fr hfN hkN18
                            refine lv_aload_n X.1 X.2.1 dX12_turns_150 rfl (lv_at hl 1 rfl) ?_
                            refine m_getr 24 10 X hK hP hM hin rfl (by decide) k44 rfl dX12_turns_151 (by decide) ?_
                            refine lv_iload X.1 X.2.1 dX12_turns_154 (lv_at hl 7 rfl) ?_
                            refine lv_iload X.1 X.2.1 dX12_turns_156 (lv_at hl 0 rfl) ?_
                            refine lv_aload_n X.1 X.2.1 dX12_turns_158 rfl (lv_at hl 1 rfl) ?_
                            refine m_geti 20 X hK hP hM hin rfl (by decide) k184 rfl dX12_turns_159 (show N18 0 20 = nI (sFi sh σk ν ld) from h20N18) ?_
                            refine lv_iadd X.1 X.2.1 dX12_turns_162 ?_
                            refine m_ast 10 1 2 X hK hP hS hM rfl (gIx_of (show (1 : Int32) = nI 1 from rfl) (by omega) (by omega)) dX12_turns_163 (fun H locs hP hS => ?_)
                            generalize eM19 : g2 N18 10 1 ((nI ea) + (nI (sFi sh σk ν ld))) = M19 at hP
                            refine lv_aload_n X.1 X.2.1 dX12_turns_164 rfl (lv_at hl 1 rfl) ?_
                            refine m_getr 23 9 X hK hP hM hin rfl (by decide) k41 rfl dX12_turns_165 (by decide) ?_
                            refine lv_iload X.1 X.2.1 dX12_turns_168 (lv_at hl 7 rfl) ?_
                            refine lv_iload X.1 X.2.1 dX12_turns_170 (lv_at hl 0 rfl) ?_
                            refine lv_aload_n X.1 X.2.1 dX12_turns_172 rfl (lv_at hl 1 rfl) ?_
                            refine m_geti 21 X hK hP hM hin rfl (by decide) k187 rfl dX12_turns_173 (show M19 0 21 = nI (sSe fl sh σk ν ld) from (gs_ne eM19 (by omega) h21N18)) ?_
                            refine lv_iadd X.1 X.2.1 dX12_turns_176 ?_
                            refine m_ast 9 1 2 X hK hP hS hM rfl (gIx_of (show (1 : Int32) = nI 1 from rfl) (by omega) (by omega)) dX12_turns_177 (fun H locs hP hS => ?_)
                            generalize eM20 : g2 M19 9 1 ((nI ea) + (nI (sSe fl sh σk ν ld))) = M20 at hP
                            refine lv_aload_n X.1 X.2.1 dX12_turns_178 rfl (lv_at hl 1 rfl) ?_
                            refine m_getr 23 9 X hK hP hM hin rfl (by decide) k41 rfl dX12_turns_179 (by decide) ?_
                            refine lv_iload X.1 X.2.1 dX12_turns_182 (lv_at hl 7 rfl) ?_
                            refine m_ald 9 1 2 X hK hP hM rfl (gIx_of (show (1 : Int32) = nI 1 from rfl) (by omega) (by omega)) dX12_turns_184 (show M20 9 1 = (nI ea) + (nI (sSe fl sh σk ν ld)) from (gs_same eM20)) ?_
                            refine lv_iload X.1 X.2.1 dX12_turns_185 (lv_at hl 5 rfl) ?_
                            refine lv_icmp_gt (tgt := 194) X.1 X.2.1 dX12_turns_187 (by decide) (fun c187 => ?_) (fun c187 => ?_)
                            · have n187 : t < (ea + (sSe fl sh σk ν ld)) := gq_lt c187 (Eq.refl (nI t)) (gn_add (Eq.refl (nI ea)) (Eq.refl (nI (sSe fl sh σk ν ld)))) (by omega) (by omega)
                              refine lv_iconst (v := 0) X.1 X.2.1 dX12_turns_194 (by decide) ?_
                              refine lv_istore (lv' := [(7, .int 0), (8, .int (nI ea)), (0, .ref o), (1, .int (nI μ)), (2, .int (nI ν)), (3, .int (nI ld)), (4, .int (nI t)), (5, .int (nI s9)), (6, .int 1)]) X.1 X.2.1 dX12_turns_195 hl (by decide) rfl (fun ls hl => ?_)
                              refine lv_iload X.1 X.2.1 dX12_turns_197 (lv_at hl 7 rfl) ?_
                              refine lv_iload X.1 X.2.1 dX12_turns_199 (lv_at hl 0 rfl) ?_
                              refine lv_if_eq (tgt := 211) X.1 X.2.1 dX12_turns_201 (by decide) (fun c201 => ?_) (fun c201 => ?_)
                              · have n201 : 0 = 0 := gq_eq c201 (show (0 : Int32) = nI 0 from rfl) (show (0 : Int32) = nI 0 from rfl) (by omega) (by omega)
                                refine lv_iconst (v := 0) X.1 X.2.1 dX12_turns_211 (by decide) ?_
                                refine lv_iadd X.1 X.2.1 dX12_turns_212 ?_
                                refine lv_istore (lv' := [(5, .int ((nI s9) + 0)), (7, .int 0), (8, .int (nI ea)), (0, .ref o), (1, .int (nI μ)), (2, .int (nI ν)), (3, .int (nI ld)), (4, .int (nI t)), (6, .int 1)]) X.1 X.2.1 dX12_turns_213 hl (by decide) rfl (fun ls hl => ?_)
                                refine lv_iconst (v := 1) X.1 X.2.1 dX12_turns_215 (by decide) ?_
                                refine lv_iload X.1 X.2.1 dX12_turns_216 (lv_at hl 8 rfl) ?_
                                refine lv_isub X.1 X.2.1 dX12_turns_218 ?_
                                refine lv_istore (lv' := [(6, .int (1 - 1)), (5, .int ((nI s9) + 0)), (7, .int 0), (8, .int (nI ea)), (0, .ref o), (1, .int (nI μ)), (2, .int (nI ν)), (3, .int (nI ld)), (4, .int (nI t))]) X.1 X.2.1 dX12_turns_219 hl (by decide) rfl (fun ls hl => ?_)
                                refine lv_goto (tgt := 90) X.1 X.2.1 dX12_turns_221 (by decide) ?_
                                have hmx : max ea fb = ea := by omega
                                have hr9 : ∀ b i, ¬ (b = 9 ∨ b = 10) → M20 b i = N18 b i := fun b i h => gs_ne eM20 (by omega) (gs_ne eM19 (by omega) rfl)
                                have hvE : mInv M20 (sGo fl ti sh σk ν ld) fl ti sh (K + 300000 * (k + 1)) τN18 msN18 := mInv_le ⟨mS_c hvN18.1 (fun i => hr9 1 i (by omega)), mSite_c hvN18.2.1 (fun i _ _ => hr9 1 i (by omega)), hvN18.2.2.1, mCache_c hvN18.2.2.2 (hr9 0 17 (by omega)) (hr9 0 18 (by omega)) (fun a => ⟨hr9 6 a (by omega), hr9 7 a (by omega), hr9 8 a (by omega)⟩)⟩ (by omega)
                                have hfE : mFr M20 0 σ := fr_c hfr0N18 (fun i => hr9 3 i (by omega))
                                have hkE : ∀ b i, ¬ (qS b i ∨ (b = 1 ∧ i < 18)) → M20 b i = M b i := fun b i h => by unfold qS at h; exact (hr9 b i (by omega)).trans ((hkN18 b i (by unfold gS lS; omega)).trans (hkN b i (by unfold qS; omega)))
                                have htu2 := htu
                                rw [show 200 - k = (200 - (k + 1)) + 1 by omega] at htu2
                                have htu2 : (if t < max ea fb + sSe fl sh σk ν ld then σk else sTu fl ti sh ld t (200 - (k + 1)) μ ν (sGo fl ti sh σk ν ld) eb (max ea fb + sSe fl sh σk ν ld) (max ea fb + sFi sh σk ν ld)) = (sTu fl ti sh ld t 200 μ ν σ 0 0 0) := htu2
                                rw [if_pos (by omega)] at htu2
                                exact ih _ _ _ _ (by omega) ⟨(sGo fl ti sh σk ν ld), s9 + 0, τN18, msN18, _, 0, hvE, by omega, by omega, hfE, hkE, fun i hi9 => (sGo_18 (by omega) hi9).trans (h18 i hi9), by rw [sGo_1]; omega, Or.inl ⟨rfl, by rw [← htu2]; omega⟩, lv_sub hl [4, 5, 6, 7, 8, 1, 0, 2] (by rw [← nI_add]; rfl)⟩ hP hS
                              · exact absurd rfl c201
                            · have n187 : (ea + (sSe fl sh σk ν ld)) ≤ t := gq_nlt c187 (Eq.refl (nI t)) (gn_add (Eq.refl (nI ea)) (Eq.refl (nI (sSe fl sh σk ν ld)))) (by omega) (by omega)
                              refine lv_iconst (v := 1) X.1 X.2.1 dX12_turns_190 (by decide) ?_
                              refine lv_goto (tgt := 195) X.1 X.2.1 dX12_turns_191 (by decide) ?_
                              refine lv_istore (lv' := [(7, .int 1), (8, .int (nI ea)), (0, .ref o), (1, .int (nI μ)), (2, .int (nI ν)), (3, .int (nI ld)), (4, .int (nI t)), (5, .int (nI s9)), (6, .int 1)]) X.1 X.2.1 dX12_turns_195 hl (by decide) rfl (fun ls hl => ?_)
                              refine lv_iload X.1 X.2.1 dX12_turns_197 (lv_at hl 7 rfl) ?_
                              refine lv_iload X.1 X.2.1 dX12_turns_199 (lv_at hl 0 rfl) ?_
                              refine lv_if_eq (tgt := 211) X.1 X.2.1 dX12_turns_201 (by decide) (fun c201 => ?_) (fun c201 => ?_)
                              · exact absurd c201 (by decide)
                              · have n201 : ¬ 1 = 0 := gq_ne c201 (show (1 : Int32) = nI 1 from rfl) (show (0 : Int32) = nI 0 from rfl) (by omega) (by omega)
                                refine lv_aload_n X.1 X.2.1 dX12_turns_204 rfl (lv_at hl 2 rfl) ?_
                                refine m_geti 22 X hK hP hM hin rfl (by decide) k197 rfl dX12_turns_205 (show M20 0 22 = nI (sBr fl σk ν ld) from (gs_ne eM20 (by omega) (gs_ne eM19 (by omega) h22N18))) ?_
                                refine lv_goto (tgt := 212) X.1 X.2.1 dX12_turns_208 (by decide) ?_
                                refine lv_iadd X.1 X.2.1 dX12_turns_212 ?_
                                refine lv_istore (lv' := [(5, .int ((nI s9) + (nI (sBr fl σk ν ld)))), (7, .int 1), (8, .int (nI ea)), (0, .ref o), (1, .int (nI μ)), (2, .int (nI ν)), (3, .int (nI ld)), (4, .int (nI t)), (6, .int 1)]) X.1 X.2.1 dX12_turns_213 hl (by decide) rfl (fun ls hl => ?_)
                                refine lv_iconst (v := 1) X.1 X.2.1 dX12_turns_215 (by decide) ?_
                                refine lv_iload X.1 X.2.1 dX12_turns_216 (lv_at hl 8 rfl) ?_
                                refine lv_isub X.1 X.2.1 dX12_turns_218 ?_
                                refine lv_istore (lv' := [(6, .int (1 - 1)), (5, .int ((nI s9) + (nI (sBr fl σk ν ld)))), (7, .int 1), (8, .int (nI ea)), (0, .ref o), (1, .int (nI μ)), (2, .int (nI ν)), (3, .int (nI ld)), (4, .int (nI t))]) X.1 X.2.1 dX12_turns_219 hl (by decide) rfl (fun ls hl => ?_)
                                refine lv_goto (tgt := 90) X.1 X.2.1 dX12_turns_221 (by decide) ?_
                                have hmx : max ea fb = ea := by omega
                                have hr9 : ∀ b i, ¬ (b = 9 ∨ b = 10) → M20 b i = N18 b i := fun b i h => gs_ne eM20 (by omega) (gs_ne eM19 (by omega) rfl)
                                have hvE : mInv M20 (sGo fl ti sh σk ν ld) fl ti sh (K + 300000 * (k + 1)) τN18 msN18 := mInv_le ⟨mS_c hvN18.1 (fun i => hr9 1 i (by omega)), mSite_c hvN18.2.1 (fun i _ _ => hr9 1 i (by omega)), hvN18.2.2.1, mCache_c hvN18.2.2.2 (hr9 0 17 (by omega)) (hr9 0 18 (by omega)) (fun a => ⟨hr9 6 a (by omega), hr9 7 a (by omega), hr9 8 a (by omega)⟩)⟩ (by omega)
                                have hfE : mFr M20 0 σ := fr_c hfr0N18 (fun i => hr9 3 i (by omega))
                                have hkE : ∀ b i, ¬ (qS b i ∨ (b = 1 ∧ i < 18)) → M20 b i = M b i := fun b i h => by unfold qS at h; exact (hr9 b i (by omega)).trans ((hkN18 b i (by unfold gS lS; omega)).trans (hkN b i (by unfold qS; omega)))
                                have htu2 := htu
                                rw [show 200 - k = (200 - (k + 1)) + 1 by omega] at htu2
                                have htu2 : (if t < max ea fb + sSe fl sh σk ν ld then σk else sTu fl ti sh ld t (200 - (k + 1)) μ ν (sGo fl ti sh σk ν ld) eb (max ea fb + sSe fl sh σk ν ld) (max ea fb + sFi sh σk ν ld)) = (sTu fl ti sh ld t 200 μ ν σ 0 0 0) := htu2
                                rw [if_neg (by omega)] at htu2
                                exact ih _ _ _ _ (by omega) ⟨(sGo fl ti sh σk ν ld), s9 + sBr fl σk ν ld, τN18, msN18, _, 1, hvE, by omega, by omega, hfE, hkE, fun i hi9 => (sGo_18 (by omega) hi9).trans (h18 i hi9), by rw [sGo_1]; omega, Or.inr ⟨rfl, by rw [sGo_1]; omega, 0, eb, ea + sSe fl sh σk ν ld, ea + sFi sh σk ν ld, by omega, rfl, (gs_ne eM20 (by omega) (gs_ne eM19 (by omega) ((hkN18 9 0 (by unfold gS lS; omega)).trans h9b))), ((gs_same eM20)).trans (gn_add (Eq.refl (nI ea)) (Eq.refl (nI (sSe fl sh σk ν ld)))), ((gs_ne eM20 (by omega) (gs_same eM19))).trans (gn_add (Eq.refl (nI ea)) (Eq.refl (nI (sFi sh σk ν ld)))), by omega, by omega, by omega, by omega, (by rw [← hmx]; exact htu2)⟩, lv_sub hl [4, 5, 6, 7, 8, 1, 0, 2] (by rw [← nI_add]; rfl)⟩ hP hS
                          · exact absurd c138 (by decide)
                · exact absurd (gq_nle c59_7 (show (2 : Int32) = nI 2 from rfl) (Eq.refl (nI ((0 + 1) + 1))) (by omega) (by omega)) (by omega)
          · exact absurd (g_le (a := 0) (b := 999) (x := 0) (y := 999) rfl rfl (by omega) (by omega) (by omega)) (gt_0 c39)
    · exact absurd (g_man hi hνn) (gt_0 c13)

end MW9
