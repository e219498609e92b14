section MU9
variable {l : Launch} {s0 : State} {D : va_G} {cy : Nat → ClassId} {B o z : Nat} {T : Nat → Nat × Nat} {R : Nat → Nat → Option Nat} {I0 : Nat → Nat → Int32} {M : Nat → Nat → Int32} {σ : Nat → Nat} {fl : List Nat} {ti sh K τ ms : Nat}
/-- among 1 .. n that are of P: by which g is fewest, the least of several -/
def sBs (P : Nat → Bool) (g : Nat → Nat) : Nat → Option (Nat × Nat)
  | 0 => none
  | n + 1 => if P (n + 1) = true then (match sBs P g n with
    | none => some (n + 1, g (n + 1))
    | some (b, q) => if g (n + 1) < q then some (n + 1, g (n + 1)) else some (b, q)) else sBs P g n
def sIsBb (σ : Nat → Nat) (n : Nat) : Bool := (List.range 10).all (fun y => !(sBit n y == 1) || σ (28 + y) == 0)
theorem sIsBb_iff (σ : Nat → Nat) (n : Nat) : sIsBb σ n = true ↔ sIsB σ n := by
  unfold sIsBb sIsB
  rw [List.all_eq_true]
  constructor
  · intro h y hy h1
    have h2 := h y (List.mem_range.mpr hy)
    simp [h1] at h2
    exact h2
  · intro h y hy
    have h2 := h y (List.mem_range.mp hy)
    by_cases h1 : sBit n y = 1
    · simp [h1, h2 h1]
    · simp [h1]
def oB (f : Option (Nat × Nat)) : Int32 := match f with
  | none => -5
  | some q => nI q.1
def oL (f : Option (Nat × Nat)) : Int32 := match f with
  | none => 0
  | some q => nI q.2
def sBP (σ : Nat → Nat) (nb : Nat) : Nat → Bool := fun n => sIsBb σ n && decide (sPc n 10 = nb)
theorem sBs_le {P : Nat → Bool} {g : Nat → Nat} {G : Nat} (hg : ∀ n, g n ≤ G) : ∀ n b q, sBs P g n = some (b, q) → b ≤ n ∧ q ≤ G
  | 0, _, _, h => by cases h
  | n + 1, b, q, h => by
    unfold sBs at h
    split at h
    · split at h
      · cases h
        exact ⟨Nat.le_refl _, hg _⟩
      · rename_i b2 q2 e2
        have h2 := sBs_le hg n b2 q2 e2
        split at h
        · cases h
          exact ⟨Nat.le_refl _, hg _⟩
        · cases h
          exact ⟨by omega, h2.2⟩
    · have h2 := sBs_le hg n b q h
      exact ⟨by omega, h2.2⟩

set_option maxHeartbeats 4000000 in
set_option maxRecDepth 100000 in
/-- c_boards_n -/
theorem c_boards_n (hM : gMod o T R) (hi : mInv M σ fl ti sh K τ ms) {v w9 : Int32} (hno : ¬ ((0 ≤ v ∧ v ≤ nI (σ 38) - 1) ∧ (0 ≤ w9 ∧ w9 ≤ 1))) (a n wd : Int32) : Met l yX12_boards wsX12_boards ({ frames := 2, cells := 0, slots := 0, locals := 43 }) (mPre s0 D cy B o z T R I0 M [.int v, .int a, .int n, .int wd, .int w9]) (mQi D cy B o z T R I0 (fun r u => r = -1001 ∧ M = u)) 0 0 (gA B) := by
  refine g_met (maxL := 12) (ret := (some .int)) (by decide) rfl (Nat.le_of_ble_eq_true rfl) (fun p e s m args below meth c ls X hr hlk hnm hK hP hC hS hl => ?_)
  have hl : lv_has ls 12 [(0, .ref o), (1, .int v), (2, .int a), (3, .int n), (4, .int wd), (5, .int w9)] := hl
  have hP : gP D cy B z T (gI o 12 M I0) R s.heap := hP
  have hB : B ≤ s.heap.size := by rw [hP.1]; exact hP.2.1
  have hσ := hi.1
  have hs := hi.2.1
  have hb := hi.2.2.1
  have hca := hi.2.2.2
  refine lv_aload_n X.1 X.2.1 dX12_boards_0 rfl (lv_at hl 0 rfl) ?_
  refine lv_iload_n X.1 X.2.1 dX12_boards_1 rfl (lv_at hl 1 rfl) ?_
  refine g_run_i (g_runV (k := 14) [.int v] X hK hP hS hC hB (c_isMan hM _ v) (cwV 1 X.2.2.2.2 gX12_boards_X12_isMan rfl rfl rfl (by decide +kernel) ⟨Nat.le_of_ble_eq_true rfl, Nat.le_of_ble_eq_true rfl⟩) (hM.1 0 _ rfl) rfl rfl hl.1 rfl (Nat.le_of_ble_eq_true rfl) dX12_boards_2 (by exact ⟨Nat.zero_le _, Nat.zero_le _⟩)) hS (fun r u H locs hq hP hS => ?_)
  obtain ⟨rfl, rfl⟩ := hq
  have hP : gP D cy B z T (gI o 12 M I0) R H := hP
  refine lv_if_eq (tgt := 18) X.1 X.2.1 dX12_boards_5 (by decide) (fun c5 => ?_) (fun c5 => ?_)
  · refine lv_sipush (v := (-1001)) X.1 X.2.1 dX12_boards_18 (by decide) ?_
    exact g_iret M X hr hlk hK hP hS dX12_boards_21 ⟨rfl, rfl⟩
  · refine lv_iload X.1 X.2.1 dX12_boards_8 (lv_at hl 5 rfl) ?_
    refine lv_iconst (v := 0) X.1 X.2.1 dX12_boards_10 (by decide) ?_
    refine lv_iconst (v := 1) X.1 X.2.1 dX12_boards_11 (by decide) ?_
    refine g_run_i (g_runS [.int w9, .int 0, .int 1] X hK hP hS hC hB (c_in _ w9 0 1) (va_cwS 3 X.2.2.2.2 gX12_boards_X12_in rfl rfl rfl (by decide +kernel) ⟨Nat.le_of_ble_eq_true rfl, Nat.le_of_ble_eq_true rfl⟩) rfl hl.1 rfl (Nat.le_of_ble_eq_true rfl) dX12_boards_12 (by exact ⟨Nat.zero_le _, Nat.zero_le _⟩)) hS (fun r u H locs hq hP hS => ?_)
    obtain ⟨rfl, rfl⟩ := hq
    have hP : gP D cy B z T (gI o 12 M I0) R H := hP
    refine lv_if_ne (tgt := 22) X.1 X.2.1 dX12_boards_15 (by decide) (fun c15 => ?_) (fun c15 => ?_)
    · exact absurd ⟨(by rw [← hσ 38 (by decide) (by decide)]; exact gt_1 c5), gt_1 c15⟩ hno
    · refine lv_sipush (v := (-1001)) X.1 X.2.1 dX12_boards_18 (by decide) ?_
      exact g_iret M X hr hlk hK hP hS dX12_boards_21 ⟨rfl, rfl⟩

set_option maxHeartbeats 4000000 in
set_option maxRecDepth 100000 in
/-- c_boards_b -/
theorem c_boards_b (hM : gMod o T R) (hi : mInv M σ fl ti sh K τ ms) {μ : Nat} (hμn : μ < σ 38) {w9 : Nat} (hw : w9 ≤ 1) {a n wd : Int32} (hbad : ¬ ((1 ≤ a ∧ a ≤ 20) ∧ (1 ≤ n ∧ n ≤ 3) ∧ (1 ≤ wd ∧ wd ≤ 9))) : Met l yX12_boards wsX12_boards ({ frames := 2, cells := 0, slots := 0, locals := 43 }) (mPre s0 D cy B o z T R I0 M [.int (nI μ), .int a, .int n, .int wd, .int (nI w9)]) (mQi D cy B o z T R I0 (fun r u => r = -1002 ∧ M = u)) 0 0 (gA B) := by
  refine g_met (maxL := 12) (ret := (some .int)) (by decide) rfl (Nat.le_of_ble_eq_true rfl) (fun p e s m args below meth c ls X hr hlk hnm hK hP hC hS hl => ?_)
  have hl : lv_has ls 12 [(0, .ref o), (1, .int (nI μ)), (2, .int a), (3, .int n), (4, .int wd), (5, .int (nI w9))] := hl
  have hP : gP D cy B z T (gI o 12 M I0) R s.heap := hP
  have hB : B ≤ s.heap.size := by rw [hP.1]; exact hP.2.1
  have hσ := hi.1
  have hs := hi.2.1
  have hb := hi.2.2.1
  have hca := hi.2.2.2
  refine lv_aload_n X.1 X.2.1 dX12_boards_0 rfl (lv_at hl 0 rfl) ?_
  refine lv_iload_n X.1 X.2.1 dX12_boards_1 rfl (lv_at hl 1 rfl) ?_
  refine g_run_i (g_runV (k := 14) [.int (nI μ)] X hK hP hS hC hB (c_isMan hM _ (nI μ)) (cwV 1 X.2.2.2.2 gX12_boards_X12_isMan rfl rfl rfl (by decide +kernel) ⟨Nat.le_of_ble_eq_true rfl, Nat.le_of_ble_eq_true rfl⟩) (hM.1 0 _ rfl) rfl rfl hl.1 rfl (Nat.le_of_ble_eq_true rfl) dX12_boards_2 (by exact ⟨Nat.zero_le _, Nat.zero_le _⟩)) hS (fun r u H locs hq hP hS => ?_)
  obtain ⟨rfl, rfl⟩ := hq
  have hP : gP D cy B z T (gI o 12 M I0) R H := hP
  refine lv_if_eq (tgt := 18) X.1 X.2.1 dX12_boards_5 (by decide) (fun c5 => ?_) (fun c5 => ?_)
  · exact absurd (g_man hi hμn) (gt_0 c5)
  · refine lv_iload X.1 X.2.1 dX12_boards_8 (lv_at hl 5 rfl) ?_
    refine lv_iconst (v := 0) X.1 X.2.1 dX12_boards_10 (by decide) ?_
    refine lv_iconst (v := 1) X.1 X.2.1 dX12_boards_11 (by decide) ?_
    refine g_run_i (g_runS [.int (nI w9), .int 0, .int 1] X hK hP hS hC hB (c_in _ (nI w9) 0 1) (va_cwS 3 X.2.2.2.2 gX12_boards_X12_in rfl rfl rfl (by decide +kernel) ⟨Nat.le_of_ble_eq_true rfl, Nat.le_of_ble_eq_true rfl⟩) rfl hl.1 rfl (Nat.le_of_ble_eq_true rfl) dX12_boards_12 (by exact ⟨Nat.zero_le _, Nat.zero_le _⟩)) hS (fun r u H locs hq hP hS => ?_)
    obtain ⟨rfl, rfl⟩ := hq
    have hP : gP D cy B z T (gI o 12 M I0) R H := hP
    refine lv_if_ne (tgt := 22) X.1 X.2.1 dX12_boards_15 (by decide) (fun c15 => ?_) (fun c15 => ?_)
    · refine lv_iload_n X.1 X.2.1 dX12_boards_22 rfl (lv_at hl 2 rfl) ?_
      refine g_run_i (g_runS [.int a] X hK hP hS hC hB (c_isLoad _ a) (va_cwS 1 X.2.2.2.2 gX12_boards_X12_isLoad rfl rfl rfl (by decide +kernel) ⟨Nat.le_of_ble_eq_true rfl, Nat.le_of_ble_eq_true rfl⟩) rfl hl.1 rfl (Nat.le_of_ble_eq_true rfl) dX12_boards_23 (by exact ⟨Nat.zero_le _, Nat.zero_le _⟩)) hS (fun r u H locs hq hP hS => ?_)
      obtain ⟨rfl, rfl⟩ := hq
      have hP : gP D cy B z T (gI o 12 M I0) R H := hP
      refine lv_if_eq (tgt := 49) X.1 X.2.1 dX12_boards_26 (by decide) (fun c26 => ?_) (fun c26 => ?_)
      · refine lv_sipush (v := (-1002)) X.1 X.2.1 dX12_boards_49 (by decide) ?_
        exact g_iret M X hr hlk hK hP hS dX12_boards_52 ⟨rfl, rfl⟩
      · refine lv_iload_n X.1 X.2.1 dX12_boards_29 rfl (lv_at hl 3 rfl) ?_
        refine lv_iconst (v := 1) X.1 X.2.1 dX12_boards_30 (by decide) ?_
        refine lv_iconst (v := 3) X.1 X.2.1 dX12_boards_31 (by decide) ?_
        refine g_run_i (g_runS [.int n, .int 1, .int 3] X hK hP hS hC hB (c_in _ n 1 3) (va_cwS 3 X.2.2.2.2 gX12_boards_X12_in rfl rfl rfl (by decide +kernel) ⟨Nat.le_of_ble_eq_true rfl, Nat.le_of_ble_eq_true rfl⟩) rfl hl.1 rfl (Nat.le_of_ble_eq_true rfl) dX12_boards_32 (by exact ⟨Nat.zero_le _, Nat.zero_le _⟩)) hS (fun r u H locs hq hP hS => ?_)
        obtain ⟨rfl, rfl⟩ := hq
        have hP : gP D cy B z T (gI o 12 M I0) R H := hP
        refine lv_if_eq (tgt := 49) X.1 X.2.1 dX12_boards_35 (by decide) (fun c35 => ?_) (fun c35 => ?_)
        · refine lv_sipush (v := (-1002)) X.1 X.2.1 dX12_boards_49 (by decide) ?_
          exact g_iret M X hr hlk hK hP hS dX12_boards_52 ⟨rfl, rfl⟩
        · refine lv_iload X.1 X.2.1 dX12_boards_38 (lv_at hl 4 rfl) ?_
          refine lv_iconst (v := 1) X.1 X.2.1 dX12_boards_40 (by decide) ?_
          refine lv_bipush (v := 9) X.1 X.2.1 dX12_boards_41 (by decide) ?_
          refine g_run_i (g_runS [.int wd, .int 1, .int 9] X hK hP hS hC hB (c_in _ wd 1 9) (va_cwS 3 X.2.2.2.2 gX12_boards_X12_in rfl rfl rfl (by decide +kernel) ⟨Nat.le_of_ble_eq_true rfl, Nat.le_of_ble_eq_true rfl⟩) rfl hl.1 rfl (Nat.le_of_ble_eq_true rfl) dX12_boards_43 (by exact ⟨Nat.zero_le _, Nat.zero_le _⟩)) hS (fun r u H locs hq hP hS => ?_)
          obtain ⟨rfl, rfl⟩ := hq
          have hP : gP D cy B z T (gI o 12 M I0) R H := hP
          refine lv_if_ne (tgt := 53) X.1 X.2.1 dX12_boards_46 (by decide) (fun c46 => ?_) (fun c46 => ?_)
          · exact absurd ⟨gt_1 c26, gt_1 c35, gt_1 c46⟩ hbad
          · refine lv_sipush (v := (-1002)) X.1 X.2.1 dX12_boards_49 (by decide) ?_
            exact g_iret M X hr hlk hK hP hS dX12_boards_52 ⟨rfl, rfl⟩
    · exact absurd (g_le (a := 0) (b := 1) (x := 0) (y := 1) rfl rfl (by omega) (by omega) (by omega)) (gt_0 c15)

def fBoards (w9 s1 : Nat) (f : Option (Nat × Nat)) : Int32 := match f with
  | none => -5
  | some q => if w9 = 0 then nI q.1 else nI s1 - nI q.2

set_option maxHeartbeats 4000000 in
set_option maxRecDepth 100000 in
/-- c_boards -/
theorem c_boards (hM : gMod o T R) (hi : mInv M σ fl ti sh K τ ms) {μ : Nat} (hμn : μ < σ 38) {w9 : Nat} (hw : w9 ≤ 1) {ld : Nat} (hl1 : 1 ≤ ld) (hld : ld ≤ 20) {nb wd : Nat} (hnb1 : 1 ≤ nb) (hnb : nb ≤ 3) (hwd1 : 1 ≤ wd) (hwd : wd ≤ 9) (hτ : τ + 40000 < 2 ^ 30) (hK : K < 2 ^ 28) : Met l yX12_boards wsX12_boards ({ frames := 7, cells := 0, slots := 0, locals := 173 }) (mPre s0 D cy B o z T R I0 M [.int (nI μ), .int (nI ld), .int (nI nb), .int (nI wd), .int (nI w9)]) (mQi D cy B o z T R I0 (fun r u => r = fBoards w9 (sSe fl sh σ μ ld) (sBs (sBP σ nb) (fun n => sSe fl sh (sWb σ n wd) μ ld) 1023) ∧ mSame qS M u ∧ ∃ τ' ms', τ ≤ τ' ∧ τ' ≤ τ + 34900 ∧ mCache u fl σ τ' ms')) 0 0 (gA B) := by
  refine g_met (maxL := 12) (ret := (some .int)) (by decide) rfl (Nat.le_of_ble_eq_true rfl) (fun p e s m args below meth c ls X hr hlk hnm hK hP hC hS hl => ?_)
  have hl : lv_has ls 12 [(0, .ref o), (1, .int (nI μ)), (2, .int (nI ld)), (3, .int (nI nb)), (4, .int (nI wd)), (5, .int (nI w9))] := hl
  have hP : gP D cy B z T (gI o 12 M I0) R s.heap := hP
  have hB : B ≤ s.heap.size := by rw [hP.1]; exact hP.2.1
  have hσ := hi.1
  have hs := hi.2.1
  have hb := hi.2.2.1
  have hca := hi.2.2.2
  have hμ : μ < 4 := Nat.lt_of_lt_of_le hμn hi.2.2.1.2.2.2.2.1
  have h38 := hμn
  refine lv_aload_n X.1 X.2.1 dX12_boards_0 rfl (lv_at hl 0 rfl) ?_
  refine lv_iload_n X.1 X.2.1 dX12_boards_1 rfl (lv_at hl 1 rfl) ?_
  refine g_run_i (g_runV (k := 14) [.int (nI μ)] X hK hP hS hC hB (c_isMan hM _ (nI μ)) (cwV 1 X.2.2.2.2 gX12_boards_X12_isMan rfl rfl rfl (by decide +kernel) ⟨Nat.le_of_ble_eq_true rfl, Nat.le_of_ble_eq_true rfl⟩) (hM.1 0 _ rfl) rfl rfl hl.1 rfl (Nat.le_of_ble_eq_true rfl) dX12_boards_2 (by exact ⟨Nat.zero_le _, Nat.zero_le _⟩)) hS (fun r u H locs hq hP hS => ?_)
  obtain ⟨rfl, rfl⟩ := hq
  have hP : gP D cy B z T (gI o 12 M I0) R H := hP
  refine lv_if_eq (tgt := 18) X.1 X.2.1 dX12_boards_5 (by decide) (fun c5 => ?_) (fun c5 => ?_)
  · exact absurd (g_man hi hμn) (gt_0 c5)
  · refine lv_iload X.1 X.2.1 dX12_boards_8 (lv_at hl 5 rfl) ?_
    refine lv_iconst (v := 0) X.1 X.2.1 dX12_boards_10 (by decide) ?_
    refine lv_iconst (v := 1) X.1 X.2.1 dX12_boards_11 (by decide) ?_
    refine g_run_i (g_runS [.int (nI w9), .int 0, .int 1] X hK hP hS hC hB (c_in _ (nI w9) 0 1) (va_cwS 3 X.2.2.2.2 gX12_boards_X12_in rfl rfl rfl (by decide +kernel) ⟨Nat.le_of_ble_eq_true rfl, Nat.le_of_ble_eq_true rfl⟩) rfl hl.1 rfl (Nat.le_of_ble_eq_true rfl) dX12_boards_12 (by exact ⟨Nat.zero_le _, Nat.zero_le _⟩)) hS (fun r u H locs hq hP hS => ?_)
    obtain ⟨rfl, rfl⟩ := hq
    have hP : gP D cy B z T (gI o 12 M I0) R H := hP
    refine lv_if_ne (tgt := 22) X.1 X.2.1 dX12_boards_15 (by decide) (fun c15 => ?_) (fun c15 => ?_)
    · refine lv_iload_n X.1 X.2.1 dX12_boards_22 rfl (lv_at hl 2 rfl) ?_
      refine g_run_i (g_runS [.int (nI ld)] X hK hP hS hC hB (c_isLoad _ (nI ld)) (va_cwS 1 X.2.2.2.2 gX12_boards_X12_isLoad rfl rfl rfl (by decide +kernel) ⟨Nat.le_of_ble_eq_true rfl, Nat.le_of_ble_eq_true rfl⟩) rfl hl.1 rfl (Nat.le_of_ble_eq_true rfl) dX12_boards_23 (by exact ⟨Nat.zero_le _, Nat.zero_le _⟩)) hS (fun r u H locs hq hP hS => ?_)
      obtain ⟨rfl, rfl⟩ := hq
      have hP : gP D cy B z T (gI o 12 M I0) R H := hP
      refine lv_if_eq (tgt := 49) X.1 X.2.1 dX12_boards_26 (by decide) (fun c26 => ?_) (fun c26 => ?_)
      · exact absurd (g_le (a := 1) (b := 20) (x := 1) (y := 20) rfl rfl (by omega) (by omega) (by omega)) (gt_0 c26)
      · refine lv_iload_n X.1 X.2.1 dX12_boards_29 rfl (lv_at hl 3 rfl) ?_
        refine lv_iconst (v := 1) X.1 X.2.1 dX12_boards_30 (by decide) ?_
        refine lv_iconst (v := 3) X.1 X.2.1 dX12_boards_31 (by decide) ?_
        refine g_run_i (g_runS [.int (nI nb), .int 1, .int 3] X hK hP hS hC hB (c_in _ (nI nb) 1 3) (va_cwS 3 X.2.2.2.2 gX12_boards_X12_in rfl rfl rfl (by decide +kernel) ⟨Nat.le_of_ble_eq_true rfl, Nat.le_of_ble_eq_true rfl⟩) rfl hl.1 rfl (Nat.le_of_ble_eq_true rfl) dX12_boards_32 (by exact ⟨Nat.zero_le _, Nat.zero_le _⟩)) hS (fun r u H locs hq hP hS => ?_)
        obtain ⟨rfl, rfl⟩ := hq
        have hP : gP D cy B z T (gI o 12 M I0) R H := hP
        refine lv_if_eq (tgt := 49) X.1 X.2.1 dX12_boards_35 (by decide) (fun c35 => ?_) (fun c35 => ?_)
        · exact absurd (g_le (a := 1) (b := 3) (x := 1) (y := 3) rfl rfl (by omega) (by omega) (by omega)) (gt_0 c35)
        · refine lv_iload X.1 X.2.1 dX12_boards_38 (lv_at hl 4 rfl) ?_
          refine lv_iconst (v := 1) X.1 X.2.1 dX12_boards_40 (by decide) ?_
          refine lv_bipush (v := 9) X.1 X.2.1 dX12_boards_41 (by decide) ?_
          refine g_run_i (g_runS [.int (nI wd), .int 1, .int 9] X hK hP hS hC hB (c_in _ (nI wd) 1 9) (va_cwS 3 X.2.2.2.2 gX12_boards_X12_in rfl rfl rfl (by decide +kernel) ⟨Nat.le_of_ble_eq_true rfl, Nat.le_of_ble_eq_true rfl⟩) rfl hl.1 rfl (Nat.le_of_ble_eq_true rfl) dX12_boards_43 (by exact ⟨Nat.zero_le _, Nat.zero_le _⟩)) hS (fun r u H locs hq hP hS => ?_)
          obtain ⟨rfl, rfl⟩ := hq
          have hP : gP D cy B z T (gI o 12 M I0) R H := hP
          refine lv_if_ne (tgt := 53) X.1 X.2.1 dX12_boards_46 (by decide) (fun c46 => ?_) (fun c46 => ?_)
          · refine lv_aload_n X.1 X.2.1 dX12_boards_53 rfl (lv_at hl 0 rfl) ?_
            refine g_run_i (g_runV (k := 14) [] X hK hP hS hC hB (c_bare hM hi) (cwV 0 X.2.2.2.2 gX12_boards_X12_bare rfl rfl rfl (by decide +kernel) ⟨Nat.le_of_ble_eq_true rfl, Nat.le_of_ble_eq_true rfl⟩) (hM.1 0 _ rfl) rfl rfl hl.1 rfl (Nat.le_of_ble_eq_true rfl) dX12_boards_54 (by exact ⟨Nat.zero_le _, Nat.zero_le _⟩)) hS (fun r u H locs hq hP hS => ?_)
            obtain ⟨rfl, rfl⟩ := hq
            have hP : gP D cy B z T (gI o 12 M I0) R H := hP
            refine lv_istore (lv' := [(6, .int (nI (sBare σ 10))), (0, .ref o), (1, .int (nI μ)), (2, .int (nI ld)), (3, .int (nI nb)), (4, .int (nI wd)), (5, .int (nI w9))]) X.1 X.2.1 dX12_boards_57 hl (by decide) rfl (fun ls hl => ?_)
            refine lv_bipush (v := (-5)) X.1 X.2.1 dX12_boards_59 (by decide) ?_
            refine lv_istore (lv' := [(7, .int (-5)), (6, .int (nI (sBare σ 10))), (0, .ref o), (1, .int (nI μ)), (2, .int (nI ld)), (3, .int (nI nb)), (4, .int (nI wd)), (5, .int (nI w9))]) X.1 X.2.1 dX12_boards_61 hl (by decide) rfl (fun ls hl => ?_)
            refine lv_iconst (v := 0) X.1 X.2.1 dX12_boards_63 (by decide) ?_
            refine lv_istore (lv' := [(8, .int 0), (7, .int (-5)), (6, .int (nI (sBare σ 10))), (0, .ref o), (1, .int (nI μ)), (2, .int (nI ld)), (3, .int (nI nb)), (4, .int (nI wd)), (5, .int (nI w9))]) X.1 X.2.1 dX12_boards_64 hl (by decide) rfl (fun ls hl => ?_)
            refine lv_iconst (v := 1) X.1 X.2.1 dX12_boards_66 (by decide) ?_
            refine lv_istore (lv' := [(9, .int 1), (8, .int 0), (7, .int (-5)), (6, .int (nI (sBare σ 10))), (0, .ref o), (1, .int (nI μ)), (2, .int (nI ld)), (3, .int (nI nb)), (4, .int (nI wd)), (5, .int (nI w9))]) X.1 X.2.1 dX12_boards_67 hl (by decide) rfl (fun ls hl => ?_)
            have hgl : ∀ n, (fun n => sSe fl sh (sWb σ n wd) μ ld) n ≤ 290000 := fun n => sSe_le hs (sBd_wb hb (show wd ≤ 9 by omega)) hμ ld
            refine m_loop (M := M) 1023 69 [] (fun k N ls => ∃ (τk msk : Nat), mInv N σ fl ti sh K τk msk ∧ τ ≤ τk ∧ τk ≤ τ + 34 * k ∧ mSame qS M N ∧ lv_has ls 12 [(0, .ref o), (1, .int (nI μ)), (2, .int (nI ld)), (3, .int (nI nb)), (4, .int (nI wd)), (5, .int (nI w9)), (6, .int (nI (sBare σ 10))), (7, .int (oB (sBs (sBP σ nb) (fun n => sSe fl sh (sWb σ n wd) μ ld) k))), (8, .int (oL (sBs (sBP σ nb) (fun n => sSe fl sh (sWb σ n wd) μ ld) k))), (9, .int (nI (k + 1)))]) 0 (by omega) ⟨τ, ms, hi, by omega, by omega, fun _ _ _ => rfl, lv_sub hl [4, 5, 6, 7, 8, 9, 3, 2, 1, 0] rfl⟩ hP hS (fun k N H locs ls hk hiv hP hS ih => ?_)
            obtain ⟨τk, msk, hvN, hτ1, hτ2, hqs, hl⟩ := hiv
            have hble := sBs_le (P := sBP σ nb) hgl k
            have hstep : (sBs (sBP σ nb) (fun n => sSe fl sh (sWb σ n wd) μ ld) (k + 1)) = (if sBP σ nb (k + 1) = true then (match (sBs (sBP σ nb) (fun n => sSe fl sh (sWb σ n wd) μ ld) k) with | none => some (k + 1, (fun n => sSe fl sh (sWb σ n wd) μ ld) (k + 1)) | some (b, q) => if (fun n => sSe fl sh (sWb σ n wd) μ ld) (k + 1) < q then some (k + 1, (fun n => sSe fl sh (sWb σ n wd) μ ld) (k + 1)) else some (b, q)) else (sBs (sBP σ nb) (fun n => sSe fl sh (sWb σ n wd) μ ld) k)) := rfl
            generalize hfk : (sBs (sBP σ nb) (fun n => sSe fl sh (sWb σ n wd) μ ld) k) = f at hl hble hstep
            generalize (sBs (sBP σ nb) (fun n => sSe fl sh (sWb σ n wd) μ ld) (k + 1)) = f2 at hstep ih
            refine lv_iload X.1 X.2.1 dX12_boards_69 (lv_at hl 9 rfl) ?_
            refine lv_sipush (v := 1024) X.1 X.2.1 dX12_boards_71 (by decide) ?_
            refine lv_icmp_ge (tgt := 163) X.1 X.2.1 dX12_boards_74 (by decide) (fun c74 => ?_) (fun c74 => ?_)
            · have n74 : 1024 ≤ (k + 1) := gq_le c74 (show (1024 : Int32) = nI 1024 from rfl) (Eq.refl (nI (k + 1))) (by omega) (by omega)
              obtain rfl : k = 1023 := by have := gq_le c74 (show (1024 : Int32) = nI 1024 from rfl) (Eq.refl (nI (k + 1))) (by omega) (by omega); omega
              rcases f with _ | ⟨b0, q0⟩
              · have hl : lv_has ls 12 [(0, .ref o), (1, .int (nI μ)), (2, .int (nI ld)), (3, .int (nI nb)), (4, .int (nI wd)), (5, .int (nI w9)), (6, .int (nI (sBare σ 10))), (7, .int (-5)), (8, .int 0), (9, .int (nI 1024))] := hl
                refine lv_iload X.1 X.2.1 dX12_boards_163 (lv_at hl 7 rfl) ?_
                refine lv_bipush (v := (-5)) X.1 X.2.1 dX12_boards_165 (by decide) ?_
                refine lv_icmp_eq (tgt := 175) X.1 X.2.1 dX12_boards_167 (by decide) (fun c167 => ?_) (fun c167 => ?_)
                · refine lv_iload X.1 X.2.1 dX12_boards_175 (lv_at hl 7 rfl) ?_
                  refine lv_goto (tgt := 189) X.1 X.2.1 dX12_boards_177 (by decide) ?_
                  exact g_iret N X hr hlk hK hP hS dX12_boards_189 ⟨(by rw [hfk]; rfl), hqs, τk, msk, by omega, by omega, hvN.2.2.2⟩
                · exact absurd rfl c167
              · have hbq := hble b0 q0 rfl
                have hl : lv_has ls 12 [(0, .ref o), (1, .int (nI μ)), (2, .int (nI ld)), (3, .int (nI nb)), (4, .int (nI wd)), (5, .int (nI w9)), (6, .int (nI (sBare σ 10))), (7, .int (nI b0)), (8, .int (nI q0)), (9, .int (nI 1024))] := hl
                refine lv_iload X.1 X.2.1 dX12_boards_163 (lv_at hl 7 rfl) ?_
                refine lv_bipush (v := (-5)) X.1 X.2.1 dX12_boards_165 (by decide) ?_
                refine lv_icmp_eq (tgt := 175) X.1 X.2.1 dX12_boards_167 (by decide) (fun c167 => ?_) (fun c167 => ?_)
                · exact absurd c167 (gn_m5 (by omega))
                · refine lv_iload X.1 X.2.1 dX12_boards_170 (lv_at hl 5 rfl) ?_
                  refine lv_if_ne (tgt := 180) X.1 X.2.1 dX12_boards_172 (by decide) (fun c172 => ?_) (fun c172 => ?_)
                  · have n172 : ¬ w9 = 0 := gq_ne c172 (Eq.refl (nI w9)) (show (0 : Int32) = nI 0 from rfl) (by omega) (by omega)
                    refine lv_aload_n X.1 X.2.1 dX12_boards_180 rfl (lv_at hl 0 rfl) ?_
                    refine lv_iload_n X.1 X.2.1 dX12_boards_181 rfl (lv_at hl 1 rfl) ?_
                    refine lv_iload_n X.1 X.2.1 dX12_boards_182 rfl (lv_at hl 2 rfl) ?_
                    refine g_run_i (g_runV (k := 14) [.int (nI μ), .int (nI ld)] X hK hP hS hC hB (c_oneRound hM hvN hμ h38 (by omega) (by omega) (by omega)) (cwV 2 X.2.2.2.2 gX12_boards_X12_oneRound rfl rfl rfl (by decide +kernel) ⟨Nat.le_of_ble_eq_true rfl, Nat.le_of_ble_eq_true rfl⟩) (hM.1 0 _ rfl) rfl rfl hl.1 rfl (Nat.le_of_ble_eq_true rfl) dX12_boards_183 (by exact ⟨Nat.zero_le _, Nat.zero_le _⟩)) hS (fun r u H locs hq hP hS => ?_)
                    obtain ⟨rfl, hkN1, τN1, msN1, hτaN1, hτbN1, hcaN1⟩ := hq
                    generalize u = N1 at hP hkN1 hcaN1
                    have hP : gP D cy B z T (gI o 12 N1 I0) R H := hP
                    have hvN1 := inv_q hvN hkN1 hcaN1
                    refine lv_iload X.1 X.2.1 dX12_boards_186 (lv_at hl 8 rfl) ?_
                    refine lv_isub X.1 X.2.1 dX12_boards_188 ?_
                    exact g_iret N1 X hr hlk hK hP hS dX12_boards_189 ⟨(by rw [hfk]; show nI (sSe fl sh σ μ ld) - nI q0 = (if w9 = 0 then _ else _); rw [if_neg n172]), (fun b i h => (hkN1 b i h).trans (hqs b i h)), τN1, msN1, by omega, by omega, hvN1.2.2.2⟩
                  · have n172 : w9 = 0 := gq_eq c172 (Eq.refl (nI w9)) (show (0 : Int32) = nI 0 from rfl) (by omega) (by omega)
                    refine lv_iload X.1 X.2.1 dX12_boards_175 (lv_at hl 7 rfl) ?_
                    refine lv_goto (tgt := 189) X.1 X.2.1 dX12_boards_177 (by decide) ?_
                    exact g_iret N X hr hlk hK hP hS dX12_boards_189 ⟨(by rw [hfk]; show nI b0 = (if w9 = 0 then nI b0 else _); rw [if_pos n172]), hqs, τk, msk, by omega, by omega, hvN.2.2.2⟩
            · have n74 : (k + 1) < 1024 := gq_nle c74 (show (1024 : Int32) = nI 1024 from rfl) (Eq.refl (nI (k + 1))) (by omega) (by omega)
              have hk9 : k + 1 < 1024 := gq_nle c74 (show (1024 : Int32) = nI 1024 from rfl) (Eq.refl (nI (k + 1))) (by omega) (by omega)
              refine lv_iload X.1 X.2.1 dX12_boards_77 (lv_at hl 9 rfl) ?_
              refine lv_iload X.1 X.2.1 dX12_boards_79 (lv_at hl 6 rfl) ?_
              refine lv_iconst (v := (-1)) X.1 X.2.1 dX12_boards_81 (by decide) ?_
              refine lv_ixor X.1 X.2.1 dX12_boards_82 ?_
              refine lv_iand X.1 X.2.1 dX12_boards_83 ?_
              refine lv_if_ne (tgt := 157) X.1 X.2.1 dX12_boards_84 (by decide) (fun c84 => ?_) (fun c84 => ?_)
              · have hskip : ¬ sIsB σ (k + 1) := fun q => c84 ((gnb (by omega)).mpr q)
                refine lv_iinc (v := nI ((k + 1) + 1)) (lv' := [(9, .int (nI ((k + 1) + 1))), (0, .ref o), (1, .int (nI μ)), (2, .int (nI ld)), (3, .int (nI nb)), (4, .int (nI wd)), (5, .int (nI w9)), (6, .int (nI (sBare σ 10))), (7, .int (oB f)), (8, .int (oL f))]) X.1 X.2.1 dX12_boards_157 hl (k := 9) rfl (gn_inc (Eq.refl (nI (k + 1))) 1) (by decide) rfl (fun ls hl => ?_)
                refine lv_goto (tgt := 69) X.1 X.2.1 dX12_boards_160 (by decide) ?_
                have hf2 : f2 = f := by rw [hstep, if_neg (fun q => by have h9 := (Bool.and_eq_true _ _).mp q; exact hskip ((sIsBb_iff σ (k + 1)).mp h9.1))]
                exact ih _ _ _ _ (by omega) ⟨τk, msk, hvN, by omega, by omega, hqs, by rw [hf2]; exact lv_sub hl [1, 2, 3, 4, 5, 6, 7, 8, 9, 0] rfl⟩ hP hS
              · have hbare : sIsB σ (k + 1) := (gnb (by omega)).mp c84
                refine lv_iload X.1 X.2.1 dX12_boards_87 (lv_at hl 9 rfl) ?_
                refine g_run_i (g_runS [.int (nI (k + 1))] X hK hP hS hC hB (c_count1 _ (n := (k + 1)) (by omega)) (va_cwS 1 X.2.2.2.2 gX12_boards_X12_count1 rfl rfl rfl (by decide +kernel) ⟨Nat.le_of_ble_eq_true rfl, Nat.le_of_ble_eq_true rfl⟩) rfl hl.1 rfl (Nat.le_of_ble_eq_true rfl) dX12_boards_89 (by exact ⟨Nat.zero_le _, Nat.zero_le _⟩)) hS (fun r u H locs hq hP hS => ?_)
                obtain ⟨rfl, rfl⟩ := hq
                have hP : gP D cy B z T (gI o 12 N I0) R H := hP
                have hpl := sPc_le (k + 1) 10
                refine lv_iload_n X.1 X.2.1 dX12_boards_92 rfl (lv_at hl 3 rfl) ?_
                refine lv_icmp_ne (tgt := 157) X.1 X.2.1 dX12_boards_93 (by decide) (fun c93 => ?_) (fun c93 => ?_)
                · have n93 : ¬ (sPc (k + 1) 10) = nb := gq_ne c93 (Eq.refl (nI (sPc (k + 1) 10))) (Eq.refl (nI nb)) (by omega) (by omega)
                  have hskip : ¬ sPc (k + 1) 10 = nb := gq_ne c93 (Eq.refl (nI (sPc (k + 1) 10))) (Eq.refl (nI nb)) (by omega) (by omega)
                  refine lv_iinc (v := nI ((k + 1) + 1)) (lv' := [(9, .int (nI ((k + 1) + 1))), (0, .ref o), (1, .int (nI μ)), (2, .int (nI ld)), (3, .int (nI nb)), (4, .int (nI wd)), (5, .int (nI w9)), (6, .int (nI (sBare σ 10))), (7, .int (oB f)), (8, .int (oL f))]) X.1 X.2.1 dX12_boards_157 hl (k := 9) rfl (gn_inc (Eq.refl (nI (k + 1))) 1) (by decide) rfl (fun ls hl => ?_)
                  refine lv_goto (tgt := 69) X.1 X.2.1 dX12_boards_160 (by decide) ?_
                  have hf2 : f2 = f := by rw [hstep, if_neg (fun q => by have h9 := (Bool.and_eq_true _ _).mp q; exact hskip (of_decide_eq_true h9.2))]
                  exact ih _ _ _ _ (by omega) ⟨τk, msk, hvN, by omega, by omega, hqs, by rw [hf2]; exact lv_sub hl [1, 2, 3, 4, 5, 6, 7, 8, 9, 0] rfl⟩ hP hS
                · have n93 : (sPc (k + 1) 10) = nb := gq_eq c93 (Eq.refl (nI (sPc (k + 1) 10))) (Eq.refl (nI nb)) (by omega) (by omega)
                  have hpc : sPc (k + 1) 10 = nb := gq_eq c93 (Eq.refl (nI (sPc (k + 1) 10))) (Eq.refl (nI nb)) (by omega) (by omega)
                  refine lv_aload_n X.1 X.2.1 dX12_boards_96 rfl (lv_at hl 0 rfl) ?_
                  refine lv_iload_n X.1 X.2.1 dX12_boards_97 rfl (lv_at hl 1 rfl) ?_
                  refine lv_iload_n X.1 X.2.1 dX12_boards_98 rfl (lv_at hl 2 rfl) ?_
                  refine lv_iload X.1 X.2.1 dX12_boards_99 (lv_at hl 9 rfl) ?_
                  refine lv_iload X.1 X.2.1 dX12_boards_101 (lv_at hl 4 rfl) ?_
                  refine g_run_i (g_runV (k := 14) [.int (nI μ), .int (nI ld), .int (nI (k + 1)), .int (nI wd)] X hK hP hS hC hB (c_withBoards hM hvN hμ h38 (by omega) (n := (k + 1)) (wd := wd) (by omega) (by omega) hbare (by omega) (by omega)) (cwV 4 X.2.2.2.2 gX12_boards_X12_withBoards rfl rfl rfl (by decide +kernel) ⟨Nat.le_of_ble_eq_true rfl, Nat.le_of_ble_eq_true rfl⟩) (hM.1 0 _ rfl) rfl rfl hl.1 rfl (Nat.le_of_ble_eq_true rfl) dX12_boards_103 (by exact ⟨Nat.zero_le _, Nat.zero_le _⟩)) hS (fun r u H locs hq hP hS => ?_)
                  obtain ⟨rfl, hkN2, τN2, msN2, hτaN2, hτbN2, hcaN2⟩ := hq
                  generalize u = N2 at hP hkN2 hcaN2
                  have hP : gP D cy B z T (gI o 12 N2 I0) R H := hP
                  have hvN2 := inv_q hvN hkN2 hcaN2
                  refine lv_istore (lv' := [(10, .int (nI (sSe fl sh (sWb σ (k + 1) wd) μ ld))), (0, .ref o), (1, .int (nI μ)), (2, .int (nI ld)), (3, .int (nI nb)), (4, .int (nI wd)), (5, .int (nI w9)), (6, .int (nI (sBare σ 10))), (7, .int (oB f)), (8, .int (oL f)), (9, .int (nI (k + 1)))]) X.1 X.2.1 dX12_boards_106 hl (by decide) rfl (fun ls hl => ?_)
                  have hg1 : sSe fl sh (sWb σ (k + 1) wd) μ ld ≤ 290000 := hgl (k + 1)
                  rcases f with _ | ⟨b0, q0⟩
                  · have hl : lv_has ls 12 [(10, .int (nI (sSe fl sh (sWb σ (k + 1) wd) μ ld))), (0, .ref o), (1, .int (nI μ)), (2, .int (nI ld)), (3, .int (nI nb)), (4, .int (nI wd)), (5, .int (nI w9)), (6, .int (nI (sBare σ 10))), (7, .int (-5)), (8, .int 0), (9, .int (nI (k + 1)))] := hl
                    refine lv_iload X.1 X.2.1 dX12_boards_108 (lv_at hl 8 rfl) ?_
                    refine lv_bipush (v := (-5)) X.1 X.2.1 dX12_boards_110 (by decide) ?_
                    refine lv_icmp_eq (tgt := 122) X.1 X.2.1 dX12_boards_112 (by decide) (fun c112 => ?_) (fun c112 => ?_)
                    · refine lv_iconst (v := 1) X.1 X.2.1 dX12_boards_122 (by decide) ?_
                      refine lv_goto (tgt := 127) X.1 X.2.1 dX12_boards_123 (by decide) ?_
                      refine lv_istore (lv' := [(11, .int 1), (10, .int (nI (sSe fl sh (sWb σ (k + 1) wd) μ ld))), (0, .ref o), (1, .int (nI μ)), (2, .int (nI ld)), (3, .int (nI nb)), (4, .int (nI wd)), (5, .int (nI w9)), (6, .int (nI (sBare σ 10))), (7, .int (-5)), (8, .int 0), (9, .int (nI (k + 1)))]) X.1 X.2.1 dX12_boards_127 hl (by decide) rfl (fun ls hl => ?_)
                      refine lv_iload X.1 X.2.1 dX12_boards_129 (lv_at hl 0 rfl) ?_
                      refine lv_if_eq (tgt := 139) X.1 X.2.1 dX12_boards_131 (by decide) (fun c131 => ?_) (fun c131 => ?_)
                      · exact absurd c131 (by decide)
                      · have n131 : ¬ 1 = 0 := gq_ne c131 (show (1 : Int32) = nI 1 from rfl) (show (0 : Int32) = nI 0 from rfl) (by omega) (by omega)
                        refine lv_iload X.1 X.2.1 dX12_boards_134 (lv_at hl 11 rfl) ?_
                        refine lv_goto (tgt := 141) X.1 X.2.1 dX12_boards_136 (by decide) ?_
                        refine lv_istore (lv' := [(7, .int (nI (k + 1))), (11, .int 1), (10, .int (nI (sSe fl sh (sWb σ (k + 1) wd) μ ld))), (0, .ref o), (1, .int (nI μ)), (2, .int (nI ld)), (3, .int (nI nb)), (4, .int (nI wd)), (5, .int (nI w9)), (6, .int (nI (sBare σ 10))), (8, .int 0), (9, .int (nI (k + 1)))]) X.1 X.2.1 dX12_boards_141 hl (by decide) rfl (fun ls hl => ?_)
                        refine lv_iload X.1 X.2.1 dX12_boards_143 (lv_at hl 1 rfl) ?_
                        refine lv_if_eq (tgt := 153) X.1 X.2.1 dX12_boards_145 (by decide) (fun c145 => ?_) (fun c145 => ?_)
                        · exact absurd c145 (by decide)
                        · have n145 : ¬ 1 = 0 := gq_ne c145 (show (1 : Int32) = nI 1 from rfl) (show (0 : Int32) = nI 0 from rfl) (by omega) (by omega)
                          refine lv_iload X.1 X.2.1 dX12_boards_148 (lv_at hl 2 rfl) ?_
                          refine lv_goto (tgt := 155) X.1 X.2.1 dX12_boards_150 (by decide) ?_
                          refine lv_istore (lv' := [(8, .int (nI (sSe fl sh (sWb σ (k + 1) wd) μ ld))), (7, .int (nI (k + 1))), (11, .int 1), (10, .int (nI (sSe fl sh (sWb σ (k + 1) wd) μ ld))), (0, .ref o), (1, .int (nI μ)), (2, .int (nI ld)), (3, .int (nI nb)), (4, .int (nI wd)), (5, .int (nI w9)), (6, .int (nI (sBare σ 10))), (9, .int (nI (k + 1)))]) X.1 X.2.1 dX12_boards_155 hl (by decide) rfl (fun ls hl => ?_)
                          refine lv_iinc (v := nI ((k + 1) + 1)) (lv' := [(9, .int (nI ((k + 1) + 1))), (8, .int (nI (sSe fl sh (sWb σ (k + 1) wd) μ ld))), (7, .int (nI (k + 1))), (11, .int 1), (10, .int (nI (sSe fl sh (sWb σ (k + 1) wd) μ ld))), (0, .ref o), (1, .int (nI μ)), (2, .int (nI ld)), (3, .int (nI nb)), (4, .int (nI wd)), (5, .int (nI w9)), (6, .int (nI (sBare σ 10)))]) X.1 X.2.1 dX12_boards_157 hl (k := 11) rfl (gn_inc (Eq.refl (nI (k + 1))) 1) (by decide) rfl (fun ls hl => ?_)
                          refine lv_goto (tgt := 69) X.1 X.2.1 dX12_boards_160 (by decide) ?_
                          have hp : sBP σ nb (k + 1) = true := by unfold sBP; rw [(sIsBb_iff σ (k + 1)).mpr hbare, decide_eq_true hpc]; rfl
                          have hf2 : f2 = some (k + 1, (fun n => sSe fl sh (sWb σ n wd) μ ld) (k + 1)) := by rw [hstep, if_pos hp]
                          exact ih _ _ _ _ (by omega) ⟨τN2, msN2, hvN2, by omega, by omega, (fun b i h => (hkN2 b i h).trans (hqs b i h)), by rw [hf2]; exact lv_sub hl [5, 6, 7, 8, 9, 10, 11, 2, 1, 0] rfl⟩ hP hS
                    · exact absurd rfl c112
                  · have hbq := hble b0 q0 rfl
                    have hl : lv_has ls 12 [(10, .int (nI (sSe fl sh (sWb σ (k + 1) wd) μ ld))), (0, .ref o), (1, .int (nI μ)), (2, .int (nI ld)), (3, .int (nI nb)), (4, .int (nI wd)), (5, .int (nI w9)), (6, .int (nI (sBare σ 10))), (7, .int (nI b0)), (8, .int (nI q0)), (9, .int (nI (k + 1)))] := hl
                    refine lv_iload X.1 X.2.1 dX12_boards_108 (lv_at hl 8 rfl) ?_
                    refine lv_bipush (v := (-5)) X.1 X.2.1 dX12_boards_110 (by decide) ?_
                    refine lv_icmp_eq (tgt := 122) X.1 X.2.1 dX12_boards_112 (by decide) (fun c112 => ?_) (fun c112 => ?_)
                    · exact absurd c112 (gn_m5 (by omega))
                    · refine lv_iload X.1 X.2.1 dX12_boards_115 (lv_at hl 0 rfl) ?_
                      refine lv_iload X.1 X.2.1 dX12_boards_117 (lv_at hl 9 rfl) ?_
                      refine lv_icmp_ge (tgt := 126) X.1 X.2.1 dX12_boards_119 (by decide) (fun c119 => ?_) (fun c119 => ?_)
                      · have n119 : q0 ≤ (sSe fl sh (sWb σ (k + 1) wd) μ ld) := gq_le c119 (Eq.refl (nI q0)) (Eq.refl (nI (sSe fl sh (sWb σ (k + 1) wd) μ ld))) (by omega) (by omega)
                        refine lv_iconst (v := 0) X.1 X.2.1 dX12_boards_126 (by decide) ?_
                        refine lv_istore (lv' := [(11, .int 0), (10, .int (nI (sSe fl sh (sWb σ (k + 1) wd) μ ld))), (0, .ref o), (1, .int (nI μ)), (2, .int (nI ld)), (3, .int (nI nb)), (4, .int (nI wd)), (5, .int (nI w9)), (6, .int (nI (sBare σ 10))), (7, .int (nI b0)), (8, .int (nI q0)), (9, .int (nI (k + 1)))]) X.1 X.2.1 dX12_boards_127 hl (by decide) rfl (fun ls hl => ?_)
                        refine lv_iload X.1 X.2.1 dX12_boards_129 (lv_at hl 0 rfl) ?_
                        refine lv_if_eq (tgt := 139) X.1 X.2.1 dX12_boards_131 (by decide) (fun c131 => ?_) (fun c131 => ?_)
                        · have n131 : 0 = 0 := gq_eq c131 (show (0 : Int32) = nI 0 from rfl) (show (0 : Int32) = nI 0 from rfl) (by omega) (by omega)
                          refine lv_iload X.1 X.2.1 dX12_boards_139 (lv_at hl 9 rfl) ?_
                          refine lv_istore (lv' := [(7, .int (nI b0)), (11, .int 0), (10, .int (nI (sSe fl sh (sWb σ (k + 1) wd) μ ld))), (0, .ref o), (1, .int (nI μ)), (2, .int (nI ld)), (3, .int (nI nb)), (4, .int (nI wd)), (5, .int (nI w9)), (6, .int (nI (sBare σ 10))), (8, .int (nI q0)), (9, .int (nI (k + 1)))]) X.1 X.2.1 dX12_boards_141 hl (by decide) rfl (fun ls hl => ?_)
                          refine lv_iload X.1 X.2.1 dX12_boards_143 (lv_at hl 1 rfl) ?_
                          refine lv_if_eq (tgt := 153) X.1 X.2.1 dX12_boards_145 (by decide) (fun c145 => ?_) (fun c145 => ?_)
                          · have n145 : 0 = 0 := gq_eq c145 (show (0 : Int32) = nI 0 from rfl) (show (0 : Int32) = nI 0 from rfl) (by omega) (by omega)
                            refine lv_iload X.1 X.2.1 dX12_boards_153 (lv_at hl 10 rfl) ?_
                            refine lv_istore (lv' := [(8, .int (nI q0)), (7, .int (nI b0)), (11, .int 0), (10, .int (nI (sSe fl sh (sWb σ (k + 1) wd) μ ld))), (0, .ref o), (1, .int (nI μ)), (2, .int (nI ld)), (3, .int (nI nb)), (4, .int (nI wd)), (5, .int (nI w9)), (6, .int (nI (sBare σ 10))), (9, .int (nI (k + 1)))]) X.1 X.2.1 dX12_boards_155 hl (by decide) rfl (fun ls hl => ?_)
                            refine lv_iinc (v := nI ((k + 1) + 1)) (lv' := [(9, .int (nI ((k + 1) + 1))), (8, .int (nI q0)), (7, .int (nI b0)), (11, .int 0), (10, .int (nI (sSe fl sh (sWb σ (k + 1) wd) μ ld))), (0, .ref o), (1, .int (nI μ)), (2, .int (nI ld)), (3, .int (nI nb)), (4, .int (nI wd)), (5, .int (nI w9)), (6, .int (nI (sBare σ 10)))]) X.1 X.2.1 dX12_boards_157 hl (k := 11) rfl (gn_inc (Eq.refl (nI (k + 1))) 1) (by decide) rfl (fun ls hl => ?_)
                            refine lv_goto (tgt := 69) X.1 X.2.1 dX12_boards_160 (by decide) ?_
                            have hp : sBP σ nb (k + 1) = true := by unfold sBP; rw [(sIsBb_iff σ (k + 1)).mpr hbare, decide_eq_true hpc]; rfl
                            have hf2 : f2 = some (b0, q0) := by rw [hstep, if_pos hp]; show (if (fun n => sSe fl sh (sWb σ n wd) μ ld) (k + 1) < q0 then _ else _) = _; rw [if_neg (by show ¬ sSe fl sh (sWb σ (k + 1) wd) μ ld < q0; omega)]
                            exact ih _ _ _ _ (by omega) ⟨τN2, msN2, hvN2, by omega, by omega, (fun b i h => (hkN2 b i h).trans (hqs b i h)), by rw [hf2]; exact lv_sub hl [5, 6, 7, 8, 9, 10, 11, 2, 1, 0] rfl⟩ hP hS
                          · exact absurd rfl c145
                        · exact absurd rfl c131
                      · have n119 : (sSe fl sh (sWb σ (k + 1) wd) μ ld) < q0 := gq_nle c119 (Eq.refl (nI q0)) (Eq.refl (nI (sSe fl sh (sWb σ (k + 1) wd) μ ld))) (by omega) (by omega)
                        refine lv_iconst (v := 1) X.1 X.2.1 dX12_boards_122 (by decide) ?_
                        refine lv_goto (tgt := 127) X.1 X.2.1 dX12_boards_123 (by decide) ?_
                        refine lv_istore (lv' := [(11, .int 1), (10, .int (nI (sSe fl sh (sWb σ (k + 1) wd) μ ld))), (0, .ref o), (1, .int (nI μ)), (2, .int (nI ld)), (3, .int (nI nb)), (4, .int (nI wd)), (5, .int (nI w9)), (6, .int (nI (sBare σ 10))), (7, .int (nI b0)), (8, .int (nI q0)), (9, .int (nI (k + 1)))]) X.1 X.2.1 dX12_boards_127 hl (by decide) rfl (fun ls hl => ?_)
                        refine lv_iload X.1 X.2.1 dX12_boards_129 (lv_at hl 0 rfl) ?_
                        refine lv_if_eq (tgt := 139) X.1 X.2.1 dX12_boards_131 (by decide) (fun c131 => ?_) (fun c131 => ?_)
                        · exact absurd c131 (by decide)
                        · have n131 : ¬ 1 = 0 := gq_ne c131 (show (1 : Int32) = nI 1 from rfl) (show (0 : Int32) = nI 0 from rfl) (by omega) (by omega)
                          refine lv_iload X.1 X.2.1 dX12_boards_134 (lv_at hl 11 rfl) ?_
                          refine lv_goto (tgt := 141) X.1 X.2.1 dX12_boards_136 (by decide) ?_
                          refine lv_istore (lv' := [(7, .int (nI (k + 1))), (11, .int 1), (10, .int (nI (sSe fl sh (sWb σ (k + 1) wd) μ ld))), (0, .ref o), (1, .int (nI μ)), (2, .int (nI ld)), (3, .int (nI nb)), (4, .int (nI wd)), (5, .int (nI w9)), (6, .int (nI (sBare σ 10))), (8, .int (nI q0)), (9, .int (nI (k + 1)))]) X.1 X.2.1 dX12_boards_141 hl (by decide) rfl (fun ls hl => ?_)
                          refine lv_iload X.1 X.2.1 dX12_boards_143 (lv_at hl 1 rfl) ?_
                          refine lv_if_eq (tgt := 153) X.1 X.2.1 dX12_boards_145 (by decide) (fun c145 => ?_) (fun c145 => ?_)
                          · exact absurd c145 (by decide)
                          · have n145 : ¬ 1 = 0 := gq_ne c145 (show (1 : Int32) = nI 1 from rfl) (show (0 : Int32) = nI 0 from rfl) (by omega) (by omega)
                            refine lv_iload X.1 X.2.1 dX12_boards_148 (lv_at hl 2 rfl) ?_
                            refine lv_goto (tgt := 155) X.1 X.2.1 dX12_boards_150 (by decide) ?_
                            refine lv_istore (lv' := [(8, .int (nI (sSe fl sh (sWb σ (k + 1) wd) μ ld))), (7, .int (nI (k + 1))), (11, .int 1), (10, .int (nI (sSe fl sh (sWb σ (k + 1) wd) μ ld))), (0, .ref o), (1, .int (nI μ)), (2, .int (nI ld)), (3, .int (nI nb)), (4, .int (nI wd)), (5, .int (nI w9)), (6, .int (nI (sBare σ 10))), (9, .int (nI (k + 1)))]) X.1 X.2.1 dX12_boards_155 hl (by decide) rfl (fun ls hl => ?_)
                            refine lv_iinc (v := nI ((k + 1) + 1)) (lv' := [(9, .int (nI ((k + 1) + 1))), (8, .int (nI (sSe fl sh (sWb σ (k + 1) wd) μ ld))), (7, .int (nI (k + 1))), (11, .int 1), (10, .int (nI (sSe fl sh (sWb σ (k + 1) wd) μ ld))), (0, .ref o), (1, .int (nI μ)), (2, .int (nI ld)), (3, .int (nI nb)), (4, .int (nI wd)), (5, .int (nI w9)), (6, .int (nI (sBare σ 10)))]) X.1 X.2.1 dX12_boards_157 hl (k := 11) rfl (gn_inc (Eq.refl (nI (k + 1))) 1) (by decide) rfl (fun ls hl => ?_)
                            refine lv_goto (tgt := 69) X.1 X.2.1 dX12_boards_160 (by decide) ?_
                            have hp : sBP σ nb (k + 1) = true := by unfold sBP; rw [(sIsBb_iff σ (k + 1)).mpr hbare, decide_eq_true hpc]; rfl
                            have hf2 : f2 = some (k + 1, (fun n => sSe fl sh (sWb σ n wd) μ ld) (k + 1)) := by rw [hstep, if_pos hp]; show (if (fun n => sSe fl sh (sWb σ n wd) μ ld) (k + 1) < q0 then _ else _) = _; rw [if_pos (by show sSe fl sh (sWb σ (k + 1) wd) μ ld < q0; omega)]
                            exact ih _ _ _ _ (by omega) ⟨τN2, msN2, hvN2, by omega, by omega, (fun b i h => (hkN2 b i h).trans (hqs b i h)), by rw [hf2]; exact lv_sub hl [5, 6, 7, 8, 9, 10, 11, 2, 1, 0] rfl⟩ hP hS
          · exact absurd (g_le (a := 1) (b := 9) (x := 1) (y := 9) rfl rfl (by omega) (by omega) (by omega)) (gt_0 c46)
    · exact absurd (g_le (a := 0) (b := 1) (x := 0) (y := 1) rfl rfl (by omega) (by omega) (by omega)) (gt_0 c15)

end MU9
