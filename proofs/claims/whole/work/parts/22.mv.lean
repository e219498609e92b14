section MV9
variable {l : Launch} {s0 : State} {D : va_G} {cy : Nat → ClassId} {B o z : Nat} {T : Nat → Nat × Nat} {R : Nat → Nat → Option Nat} {I0 : Nat → Nat → Int32} {M : Nat → Nat → Int32} {σ : Nat → Nat} {fl : List Nat} {ti sh K τ ms : Nat}
def sPv (σ : Nat → Nat) (y : Nat) : Nat → Nat := g1 (g1 σ (8 + y) 0) (18 + y) 0
def sPa (g : Nat → Nat) : Nat → Option (Nat × Nat)
  | 0 => none
  | n + 1 => match sPa g n with
    | none => some (n, g n)
    | some (b, q) => if g n < q then some (n, g n) else some (b, q)
def oP (f : Option (Nat × Nat)) : Int32 := match f with
  | none => -1
  | some q => nI q.1
theorem sPa_le {g : Nat → Nat} {G : Nat} (hg : ∀ n, g n ≤ G) : ∀ n b q, sPa g n = some (b, q) → b ≤ n ∧ q ≤ G
  | 0, _, _, h => by cases h
  | n + 1, b, q, h => by
    unfold sPa at h
    split at h
    · cases h
      exact ⟨by omega, hg _⟩
    · rename_i b2 q2 e2
      have h2 := sPa_le hg n b2 q2 e2
      split at h
      · cases h
        exact ⟨by omega, hg _⟩
      · cases h
        exact ⟨by omega, h2.2⟩
theorem sBd_pv (h : sBd σ K) {y : Nat} (hy : y < 10) : sBd (sPv σ y) K := sBd_28 h (fun υ hυ => by
  have h1 := h.2.2.2.1 υ hυ
  unfold sPv g1
  split
  · omega
  · split <;> omega) (fun i hi => by unfold sPv; rw [g1_ne (by omega), g1_ne (by omega)])

set_option maxHeartbeats 4000000 in
set_option maxRecDepth 100000 in
/-- c_pave_n -/
theorem c_pave_n (hM : gMod o T R) (hi : mInv M σ fl ti sh K τ ms) {v : Int32} (hno : ¬ (0 ≤ v ∧ v ≤ nI (σ 38) - 1)) (a : Int32) : Met l yX12_pave wsX12_pave ({ frames := 2, cells := 0, slots := 0, locals := 43 }) (mPre s0 D cy B o z T R I0 M [.int v, .int a]) (mQi D cy B o z T R I0 (fun r u => r = -1 ∧ M = u)) 0 0 (gA B) := by
  refine g_met (maxL := 10) (ret := (some .int)) (by decide) rfl (Nat.le_of_ble_eq_true rfl) (fun p e s m args below meth c ls X hr hlk hnm hK hP hC hS hl => ?_)
  have hl : lv_has ls 10 [(0, .ref o), (1, .int v), (2, .int a)] := hl
  have hP : gP D cy B z T (gI o 12 M I0) R s.heap := hP
  have hB : B ≤ s.heap.size := by rw [hP.1]; exact hP.2.1
  have hin : ∀ w ∈ wsX120, w ∈ wsX12_pave := fun _ h => List.mem_cons_of_mem _ (List.mem_append_right _ h)
  have k9 : Cond.fieldLink RX12 9 "BarrowPlankModel" "s" "[I" ∈ wsX12_pave := by decide +kernel
  have k37 : Cond.fieldLink RX12 37 "BarrowPlankModel" "times" "I" ∈ wsX12_pave := by decide +kernel
  have hσ := hi.1
  have hs := hi.2.1
  have hb := hi.2.2.1
  have hca := hi.2.2.2
  refine lv_aload_n X.1 X.2.1 dX12_pave_0 rfl (lv_at hl 0 rfl) ?_
  refine lv_iload_n X.1 X.2.1 dX12_pave_1 rfl (lv_at hl 1 rfl) ?_
  refine g_run_i (g_runV (k := 14) [.int v] X hK hP hS hC hB (c_isMan hM _ v) (cwV 1 X.2.2.2.2 gX12_pave_X12_isMan rfl rfl rfl (by decide +kernel) ⟨Nat.le_of_ble_eq_true rfl, Nat.le_of_ble_eq_true rfl⟩) (hM.1 0 _ rfl) rfl rfl hl.1 rfl (Nat.le_of_ble_eq_true rfl) dX12_pave_2 (by exact ⟨Nat.zero_le _, Nat.zero_le _⟩)) hS (fun r u H locs hq hP hS => ?_)
  obtain ⟨rfl, rfl⟩ := hq
  have hP : gP D cy B z T (gI o 12 M I0) R H := hP
  refine lv_if_ne (tgt := 10) X.1 X.2.1 dX12_pave_5 (by decide) (fun c5 => ?_) (fun c5 => ?_)
  · exact absurd (gt_1 c5) (g_noman hi hno)
  · refine lv_iconst (v := (-1)) X.1 X.2.1 dX12_pave_8 (by decide) ?_
    exact g_iret M X hr hlk hK hP hS dX12_pave_9 ⟨rfl, rfl⟩

set_option maxHeartbeats 4000000 in
set_option maxRecDepth 100000 in
/-- c_pave_b -/
theorem c_pave_b (hM : gMod o T R) (hi : mInv M σ fl ti sh K τ ms) {μ : Nat} (hμn : μ < σ 38) {a : Int32} (hbad : ¬ (1 ≤ a ∧ a ≤ 20)) : Met l yX12_pave wsX12_pave ({ frames := 2, cells := 0, slots := 0, locals := 43 }) (mPre s0 D cy B o z T R I0 M [.int (nI μ), .int a]) (mQi D cy B o z T R I0 (fun r u => r = -2 ∧ M = u)) 0 0 (gA B) := by
  refine g_met (maxL := 10) (ret := (some .int)) (by decide) rfl (Nat.le_of_ble_eq_true rfl) (fun p e s m args below meth c ls X hr hlk hnm hK hP hC hS hl => ?_)
  have hl : lv_has ls 10 [(0, .ref o), (1, .int (nI μ)), (2, .int a)] := hl
  have hP : gP D cy B z T (gI o 12 M I0) R s.heap := hP
  have hB : B ≤ s.heap.size := by rw [hP.1]; exact hP.2.1
  have hin : ∀ w ∈ wsX120, w ∈ wsX12_pave := fun _ h => List.mem_cons_of_mem _ (List.mem_append_right _ h)
  have k9 : Cond.fieldLink RX12 9 "BarrowPlankModel" "s" "[I" ∈ wsX12_pave := by decide +kernel
  have k37 : Cond.fieldLink RX12 37 "BarrowPlankModel" "times" "I" ∈ wsX12_pave := by decide +kernel
  have hσ := hi.1
  have hs := hi.2.1
  have hb := hi.2.2.1
  have hca := hi.2.2.2
  refine lv_aload_n X.1 X.2.1 dX12_pave_0 rfl (lv_at hl 0 rfl) ?_
  refine lv_iload_n X.1 X.2.1 dX12_pave_1 rfl (lv_at hl 1 rfl) ?_
  refine g_run_i (g_runV (k := 14) [.int (nI μ)] X hK hP hS hC hB (c_isMan hM _ (nI μ)) (cwV 1 X.2.2.2.2 gX12_pave_X12_isMan rfl rfl rfl (by decide +kernel) ⟨Nat.le_of_ble_eq_true rfl, Nat.le_of_ble_eq_true rfl⟩) (hM.1 0 _ rfl) rfl rfl hl.1 rfl (Nat.le_of_ble_eq_true rfl) dX12_pave_2 (by exact ⟨Nat.zero_le _, Nat.zero_le _⟩)) hS (fun r u H locs hq hP hS => ?_)
  obtain ⟨rfl, rfl⟩ := hq
  have hP : gP D cy B z T (gI o 12 M I0) R H := hP
  refine lv_if_ne (tgt := 10) X.1 X.2.1 dX12_pave_5 (by decide) (fun c5 => ?_) (fun c5 => ?_)
  · refine lv_iload_n X.1 X.2.1 dX12_pave_10 rfl (lv_at hl 2 rfl) ?_
    refine g_run_i (g_runS [.int a] X hK hP hS hC hB (c_isLoad _ a) (va_cwS 1 X.2.2.2.2 gX12_pave_X12_isLoad rfl rfl rfl (by decide +kernel) ⟨Nat.le_of_ble_eq_true rfl, Nat.le_of_ble_eq_true rfl⟩) rfl hl.1 rfl (Nat.le_of_ble_eq_true rfl) dX12_pave_11 (by exact ⟨Nat.zero_le _, Nat.zero_le _⟩)) hS (fun r u H locs hq hP hS => ?_)
    obtain ⟨rfl, rfl⟩ := hq
    have hP : gP D cy B z T (gI o 12 M I0) R H := hP
    refine lv_if_ne (tgt := 20) X.1 X.2.1 dX12_pave_14 (by decide) (fun c14 => ?_) (fun c14 => ?_)
    · exact absurd (gt_1 c14) hbad
    · refine lv_bipush (v := (-2)) X.1 X.2.1 dX12_pave_17 (by decide) ?_
      exact g_iret M X hr hlk hK hP hS dX12_pave_19 ⟨rfl, rfl⟩
  · exact absurd (g_man hi hμn) (gt_0 c5)

set_option maxHeartbeats 4000000 in
set_option maxRecDepth 100000 in
/-- c_pave -/
theorem c_pave (hM : gMod o T R) (hi : mInv M σ fl ti sh K τ ms) {μ : Nat} (hμn : μ < σ 38) {ld : Nat} (hl1 : 1 ≤ ld) (hld : ld ≤ 20) (hτ : τ + 400 < 2 ^ 30) (hK : K < 2 ^ 28) : Met l yX12_pave wsX12_pave ({ frames := 6, cells := 0, slots := 0, locals := 147 }) (mPre s0 D cy B o z T R I0 M [.int (nI μ), .int (nI ld)]) (mQi D cy B o z T R I0 (fun r u => r = oP (sPa (fun y => sSe fl sh (sPv σ y) μ ld) 10) ∧ mSame qS M u ∧ ∃ τ' ms', τ ≤ τ' ∧ τ' ≤ τ + 340 ∧ mCache u fl σ τ' ms')) 0 0 (gA B) := by
  refine g_met (maxL := 10) (ret := (some .int)) (by decide) rfl (Nat.le_of_ble_eq_true rfl) (fun p e s m args below meth c ls X hr hlk hnm hK hP hC hS hl => ?_)
  have hl : lv_has ls 10 [(0, .ref o), (1, .int (nI μ)), (2, .int (nI ld))] := hl
  have hP : gP D cy B z T (gI o 12 M I0) R s.heap := hP
  have hB : B ≤ s.heap.size := by rw [hP.1]; exact hP.2.1
  have hin : ∀ w ∈ wsX120, w ∈ wsX12_pave := fun _ h => List.mem_cons_of_mem _ (List.mem_append_right _ h)
  have k9 : Cond.fieldLink RX12 9 "BarrowPlankModel" "s" "[I" ∈ wsX12_pave := by decide +kernel
  have k37 : Cond.fieldLink RX12 37 "BarrowPlankModel" "times" "I" ∈ wsX12_pave := by decide +kernel
  have hσ := hi.1
  have hs := hi.2.1
  have hb := hi.2.2.1
  have hca := hi.2.2.2
  have hμ : μ < 4 := Nat.lt_of_lt_of_le hμn hi.2.2.1.2.2.2.2.1
  have h38 := hμn
  refine lv_aload_n X.1 X.2.1 dX12_pave_0 rfl (lv_at hl 0 rfl) ?_
  refine lv_iload_n X.1 X.2.1 dX12_pave_1 rfl (lv_at hl 1 rfl) ?_
  refine g_run_i (g_runV (k := 14) [.int (nI μ)] X hK hP hS hC hB (c_isMan hM _ (nI μ)) (cwV 1 X.2.2.2.2 gX12_pave_X12_isMan rfl rfl rfl (by decide +kernel) ⟨Nat.le_of_ble_eq_true rfl, Nat.le_of_ble_eq_true rfl⟩) (hM.1 0 _ rfl) rfl rfl hl.1 rfl (Nat.le_of_ble_eq_true rfl) dX12_pave_2 (by exact ⟨Nat.zero_le _, Nat.zero_le _⟩)) hS (fun r u H locs hq hP hS => ?_)
  obtain ⟨rfl, rfl⟩ := hq
  have hP : gP D cy B z T (gI o 12 M I0) R H := hP
  refine lv_if_ne (tgt := 10) X.1 X.2.1 dX12_pave_5 (by decide) (fun c5 => ?_) (fun c5 => ?_)
  · refine lv_iload_n X.1 X.2.1 dX12_pave_10 rfl (lv_at hl 2 rfl) ?_
    refine g_run_i (g_runS [.int (nI ld)] X hK hP hS hC hB (c_isLoad _ (nI ld)) (va_cwS 1 X.2.2.2.2 gX12_pave_X12_isLoad rfl rfl rfl (by decide +kernel) ⟨Nat.le_of_ble_eq_true rfl, Nat.le_of_ble_eq_true rfl⟩) rfl hl.1 rfl (Nat.le_of_ble_eq_true rfl) dX12_pave_11 (by exact ⟨Nat.zero_le _, Nat.zero_le _⟩)) hS (fun r u H locs hq hP hS => ?_)
    obtain ⟨rfl, rfl⟩ := hq
    have hP : gP D cy B z T (gI o 12 M I0) R H := hP
    refine lv_if_ne (tgt := 20) X.1 X.2.1 dX12_pave_14 (by decide) (fun c14 => ?_) (fun c14 => ?_)
    · refine lv_iconst (v := (-1)) X.1 X.2.1 dX12_pave_20 (by decide) ?_
      refine lv_istore_n (lv' := [(3, .int (-1)), (0, .ref o), (1, .int (nI μ)), (2, .int (nI ld))]) X.1 X.2.1 dX12_pave_21 rfl hl (by decide) rfl (fun ls hl => ?_)
      refine lv_iconst (v := 0) X.1 X.2.1 dX12_pave_22 (by decide) ?_
      refine lv_istore (lv' := [(4, .int 0), (3, .int (-1)), (0, .ref o), (1, .int (nI μ)), (2, .int (nI ld))]) X.1 X.2.1 dX12_pave_23 hl (by decide) rfl (fun ls hl => ?_)
      refine lv_iconst (v := 0) X.1 X.2.1 dX12_pave_25 (by decide) ?_
      refine lv_istore (lv' := [(5, .int 0), (4, .int 0), (3, .int (-1)), (0, .ref o), (1, .int (nI μ)), (2, .int (nI ld))]) X.1 X.2.1 dX12_pave_26 hl (by decide) rfl (fun ls hl => ?_)
      have hgl : ∀ y, y < 10 → (fun y => sSe fl sh (sPv σ y) μ ld) y ≤ 290000 := fun y hy => sSe_le hs (sBd_pv hb hy) hμ ld
      refine m_loop (M := M) 10 28 [] (fun k N ls => ∃ (τk msk : Nat), mInv N σ fl ti sh K τk msk ∧ τ ≤ τk ∧ τk ≤ τ + 34 * k ∧ mSame qS M N ∧ (∀ b q, (sPa (fun y => sSe fl sh (sPv σ y) μ ld) k) = some (b, q) → b ≤ 9 ∧ q ≤ 290000) ∧ lv_has ls 10 [(0, .ref o), (1, .int (nI μ)), (2, .int (nI ld)), (3, .int (oP (sPa (fun y => sSe fl sh (sPv σ y) μ ld) k))), (4, .int (oL (sPa (fun y => sSe fl sh (sPv σ y) μ ld) k))), (5, .int (nI k))]) 0 (by omega) ⟨τ, ms, hi, by omega, by omega, fun _ _ _ => rfl, (fun _ _ h => by cases h), lv_sub hl [3, 4, 5, 2, 1, 0] rfl⟩ hP hS (fun k N H locs ls hk hiv hP hS ih => ?_)
      obtain ⟨τk, msk, hvN, hτ1, hτ2, hqs, hble, hl⟩ := hiv
      have hstep : (sPa (fun y => sSe fl sh (sPv σ y) μ ld) (k + 1)) = (match (sPa (fun y => sSe fl sh (sPv σ y) μ ld) k) with | none => some (k, (fun y => sSe fl sh (sPv σ y) μ ld) k) | some (b, q) => if (fun y => sSe fl sh (sPv σ y) μ ld) k < q then some (k, (fun y => sSe fl sh (sPv σ y) μ ld) k) else some (b, q)) := rfl
      generalize hfk : (sPa (fun y => sSe fl sh (sPv σ y) μ ld) k) = f at hl hble hstep
      generalize (sPa (fun y => sSe fl sh (sPv σ y) μ ld) (k + 1)) = f2 at hstep ih
      refine lv_iload X.1 X.2.1 dX12_pave_28 (lv_at hl 5 rfl) ?_
      refine lv_bipush (v := 10) X.1 X.2.1 dX12_pave_30 (by decide) ?_
      refine lv_icmp_ge (tgt := 184) X.1 X.2.1 dX12_pave_32 (by decide) (fun c32 => ?_) (fun c32 => ?_)
      · have n32 : 10 ≤ k := gq_le c32 (show (10 : Int32) = nI 10 from rfl) (Eq.refl (nI k)) (by omega) (by omega)
        obtain rfl : k = 10 := gk18 hk c32
        refine lv_iload_n X.1 X.2.1 dX12_pave_184 rfl (lv_at hl 3 rfl) ?_
        exact g_iret N X hr hlk hK hP hS dX12_pave_185 ⟨by rw [hfk], hqs, τk, msk, by omega, by omega, hvN.2.2.2⟩
      · have n32 : k < 10 := gq_nle c32 (show (10 : Int32) = nI 10 from rfl) (Eq.refl (nI k)) (by omega) (by omega)
        have hk9 : k < 10 := gk_lt hk c32
        have b8 : σ (8 + k) ≤ 9 := hb.2.2.2.1 k (by omega)
        refine lv_aload_n X.1 X.2.1 dX12_pave_35 rfl (lv_at hl 0 rfl) ?_
        refine m_getr 1 1 X hK hP hM hin rfl (by decide) k9 rfl dX12_pave_36 (by decide) ?_
        refine lv_bipush (v := 8) X.1 X.2.1 dX12_pave_39 (by decide) ?_
        refine lv_iload X.1 X.2.1 dX12_pave_41 (lv_at hl 5 rfl) ?_
        refine lv_iadd X.1 X.2.1 dX12_pave_43 ?_
        refine m_ald 1 (8 + k) 883 X hK hP hM rfl (gIx_of (gn_add (show (8 : Int32) = nI 8 from rfl) (Eq.refl (nI k))) (by omega) (by omega)) dX12_pave_44 (show N 1 (8 + k) = nI (σ (8 + k)) from (hvN.1 (8 + k) (by omega) (by omega))) ?_
        refine lv_istore (lv' := [(6, .int (nI (σ (8 + k)))), (0, .ref o), (1, .int (nI μ)), (2, .int (nI ld)), (3, .int (oP f)), (4, .int (oL f)), (5, .int (nI k))]) X.1 X.2.1 dX12_pave_45 hl (by decide) rfl (fun ls hl => ?_)
        refine lv_aload_n X.1 X.2.1 dX12_pave_47 rfl (lv_at hl 1 rfl) ?_
        refine m_getr 1 1 X hK hP hM hin rfl (by decide) k9 rfl dX12_pave_48 (by decide) ?_
        refine lv_bipush (v := 18) X.1 X.2.1 dX12_pave_51 (by decide) ?_
        refine lv_iload X.1 X.2.1 dX12_pave_53 (lv_at hl 6 rfl) ?_
        refine lv_iadd X.1 X.2.1 dX12_pave_55 ?_
        refine m_ald 1 (18 + k) 883 X hK hP hM rfl (gIx_of (gn_add (show (18 : Int32) = nI 18 from rfl) (Eq.refl (nI k))) (by omega) (by omega)) dX12_pave_56 (show N 1 (18 + k) = nI (σ (18 + k)) from (hvN.1 (18 + k) (by omega) (by omega))) ?_
        refine lv_istore (lv' := [(7, .int (nI (σ (18 + k)))), (6, .int (nI (σ (8 + k)))), (0, .ref o), (1, .int (nI μ)), (2, .int (nI ld)), (3, .int (oP f)), (4, .int (oL f)), (5, .int (nI k))]) X.1 X.2.1 dX12_pave_57 hl (by decide) rfl (fun ls hl => ?_)
        refine lv_aload_n X.1 X.2.1 dX12_pave_59 rfl (lv_at hl 2 rfl) ?_
        refine m_getr 1 1 X hK hP hM hin rfl (by decide) k9 rfl dX12_pave_60 (by decide) ?_
        refine lv_bipush (v := 8) X.1 X.2.1 dX12_pave_63 (by decide) ?_
        refine lv_iload X.1 X.2.1 dX12_pave_65 (lv_at hl 7 rfl) ?_
        refine lv_iadd X.1 X.2.1 dX12_pave_67 ?_
        refine lv_iconst (v := 0) X.1 X.2.1 dX12_pave_68 (by decide) ?_
        refine m_ast 1 (8 + k) 883 X hK hP hS hM rfl (gIx_of (gn_add (show (8 : Int32) = nI 8 from rfl) (Eq.refl (nI k))) (by omega) (by omega)) dX12_pave_69 (fun H locs hP hS => ?_)
        generalize eM1 : g2 N 1 (8 + k) 0 = M1 at hP
        refine lv_aload_n X.1 X.2.1 dX12_pave_70 rfl (lv_at hl 2 rfl) ?_
        refine m_getr 1 1 X hK hP hM hin rfl (by decide) k9 rfl dX12_pave_71 (by decide) ?_
        refine lv_bipush (v := 18) X.1 X.2.1 dX12_pave_74 (by decide) ?_
        refine lv_iload X.1 X.2.1 dX12_pave_76 (lv_at hl 7 rfl) ?_
        refine lv_iadd X.1 X.2.1 dX12_pave_78 ?_
        refine lv_iconst (v := 0) X.1 X.2.1 dX12_pave_79 (by decide) ?_
        refine m_ast 1 (18 + k) 883 X hK hP hS hM rfl (gIx_of (gn_add (show (18 : Int32) = nI 18 from rfl) (Eq.refl (nI k))) (by omega) (by omega)) dX12_pave_80 (fun H locs hP hS => ?_)
        generalize eM2 : g2 M1 1 (18 + k) 0 = M2 at hP
        refine lv_aload_n X.1 X.2.1 dX12_pave_81 rfl (lv_at hl 2 rfl) ?_
        refine lv_dup X.1 X.2.1 dX12_pave_82 rfl ?_
        refine m_geti 17 X hK hP hM hin rfl (by decide) k37 rfl dX12_pave_83 (show M2 0 17 = nI τk from (gs_ne eM2 (by omega) (gs_ne eM1 (by omega) hvN.2.2.2.2.2.1))) ?_
        refine lv_iconst (v := 1) X.1 X.2.1 dX12_pave_86 (by decide) ?_
        refine lv_iadd X.1 X.2.1 dX12_pave_87 ?_
        refine m_puti 17 X hK hP hS hM hin rfl (by decide) k37 rfl rfl rfl rfl dX12_pave_88 (fun H locs hP hS => ?_)
        generalize eM3 : g2 M2 0 17 ((nI τk) + 1) = M3 at hP
        have hσ3 : mS M3 (sPv σ k) := mS_q (mS_p (mS_p hvN.1 eM1 (show (0 : Int32) = nI 0 from rfl)) eM2 (show (0 : Int32) = nI 0 from rfl)) eM3 (by decide)
        have hr3 : ∀ b i, ¬ (b = 1 ∧ (i = 8 + k ∨ i = 18 + k)) → ¬ (b = 0 ∧ i = 17) → M3 b i = N b i := fun b i h1 h2 => gs_ne eM3 (by omega) (gs_ne eM2 (by omega) (gs_ne eM1 (by omega) rfl))
        have hs3 : mSite M3 fl ti sh := mSite_c hvN.2.1 (fun i _ _ => hr3 1 i (by omega) (by omega))
        have hca3 : mCache M3 fl (sPv σ k) (τk + 1) msk := mCache_tick hvN.2.2.2 (by omega) ((gs_same eM3).trans (gn_add (Eq.refl (nI τk)) (show (1 : Int32) = nI 1 from rfl))) (hr3 0 18 (by omega) (by omega)) (fun a => hr3 6 a (by omega) (by omega))
        have hi3 : mInv M3 (sPv σ k) fl ti sh K (τk + 1) msk := ⟨hσ3, hs3, sBd_pv hb hk9, hca3⟩
        refine lv_aload_n X.1 X.2.1 dX12_pave_91 rfl (lv_at hl 2 rfl) ?_
        refine lv_iload_n X.1 X.2.1 dX12_pave_92 rfl (lv_at hl 3 rfl) ?_
        refine lv_iload_n X.1 X.2.1 dX12_pave_93 rfl (lv_at hl 4 rfl) ?_
        refine g_run_i (g_runV (k := 14) [.int (nI μ), .int (nI ld)] X hK hP hS hC hB (c_oneRound hM hi3 hμ (by unfold sPv; rw [g1_ne (by omega), g1_ne (by omega)]; exact h38) (by omega) (by omega) (by omega)) (cwV 2 X.2.2.2.2 gX12_pave_X12_oneRound rfl rfl rfl (by decide +kernel) ⟨Nat.le_of_ble_eq_true rfl, Nat.le_of_ble_eq_true rfl⟩) (hM.1 0 _ rfl) rfl rfl hl.1 rfl (Nat.le_of_ble_eq_true rfl) dX12_pave_94 (by exact ⟨Nat.zero_le _, Nat.zero_le _⟩)) hS (fun r u H locs hq hP hS => ?_)
        obtain ⟨rfl, hkN4, τN4, msN4, hτaN4, hτbN4, hcaN4⟩ := hq
        generalize u = N4 at hP hkN4 hcaN4
        have hP : gP D cy B z T (gI o 12 N4 I0) R H := hP
        refine lv_istore (lv' := [(8, .int (nI (sSe fl sh (sPv σ k) μ ld))), (7, .int (nI (σ (18 + k)))), (6, .int (nI (σ (8 + k)))), (0, .ref o), (1, .int (nI μ)), (2, .int (nI ld)), (3, .int (oP f)), (4, .int (oL f)), (5, .int (nI k))]) X.1 X.2.1 dX12_pave_97 hl (by decide) rfl (fun ls hl => ?_)
        refine lv_aload_n X.1 X.2.1 dX12_pave_99 rfl (lv_at hl 3 rfl) ?_
        refine m_getr 1 1 X hK hP hM hin rfl (by decide) k9 rfl dX12_pave_100 (by decide) ?_
        refine lv_bipush (v := 8) X.1 X.2.1 dX12_pave_103 (by decide) ?_
        refine lv_iload X.1 X.2.1 dX12_pave_105 (lv_at hl 8 rfl) ?_
        refine lv_iadd X.1 X.2.1 dX12_pave_107 ?_
        refine lv_iload X.1 X.2.1 dX12_pave_108 (lv_at hl 2 rfl) ?_
        refine m_ast 1 (8 + k) 883 X hK hP hS hM rfl (gIx_of (gn_add (show (8 : Int32) = nI 8 from rfl) (Eq.refl (nI k))) (by omega) (by omega)) dX12_pave_110 (fun H locs hP hS => ?_)
        generalize eM5 : g2 N4 1 (8 + k) (nI (σ (8 + k))) = M5 at hP
        refine lv_aload_n X.1 X.2.1 dX12_pave_111 rfl (lv_at hl 3 rfl) ?_
        refine m_getr 1 1 X hK hP hM hin rfl (by decide) k9 rfl dX12_pave_112 (by decide) ?_
        refine lv_bipush (v := 18) X.1 X.2.1 dX12_pave_115 (by decide) ?_
        refine lv_iload X.1 X.2.1 dX12_pave_117 (lv_at hl 8 rfl) ?_
        refine lv_iadd X.1 X.2.1 dX12_pave_119 ?_
        refine lv_iload X.1 X.2.1 dX12_pave_120 (lv_at hl 1 rfl) ?_
        refine m_ast 1 (18 + k) 883 X hK hP hS hM rfl (gIx_of (gn_add (show (18 : Int32) = nI 18 from rfl) (Eq.refl (nI k))) (by omega) (by omega)) dX12_pave_122 (fun H locs hP hS => ?_)
        generalize eM6 : g2 M5 1 (18 + k) (nI (σ (18 + k))) = M6 at hP
        refine lv_aload_n X.1 X.2.1 dX12_pave_123 rfl (lv_at hl 3 rfl) ?_
        refine lv_dup X.1 X.2.1 dX12_pave_124 rfl ?_
        refine m_geti 17 X hK hP hM hin rfl (by decide) k37 rfl dX12_pave_125 (show M6 0 17 = nI τN4 from (gs_ne eM6 (by omega) (gs_ne eM5 (by omega) (hcaN4.2.2.1)))) ?_
        refine lv_iconst (v := 1) X.1 X.2.1 dX12_pave_128 (by decide) ?_
        refine lv_iadd X.1 X.2.1 dX12_pave_129 ?_
        refine m_puti 17 X hK hP hS hM hin rfl (by decide) k37 rfl rfl rfl rfl dX12_pave_130 (fun H locs hP hS => ?_)
        generalize eM7 : g2 M6 0 17 ((nI τN4) + 1) = M7 at hP
        have hrow : ∀ i, M7 1 i = N 1 i := fun i => by
          by_cases i8 : i = 18 + k
          · subst i8; rw [hvN.1 _ (by omega) (by omega)]; exact gs_ne eM7 (by omega) (gs_same eM6)
          · by_cases i9 : i = 8 + k
            · subst i9; rw [hvN.1 _ (by omega) (by omega)]; exact gs_ne eM7 (by omega) (gs_ne eM6 (by omega) (gs_same eM5))
            · exact gs_ne eM7 (by omega) (gs_ne eM6 (by omega) (gs_ne eM5 (by omega) ((hkN4 1 i (by unfold qS; omega)).trans (hr3 1 i (by omega) (by omega)))))
        have hq7 : mSame qS N M7 := fun b i h => by
          by_cases e1 : b = 1
          · subst e1; exact hrow i
          · unfold qS at h; exact gs_ne eM7 (by omega) (gs_ne eM6 (by omega) (gs_ne eM5 (by omega) ((hkN4 b i (by unfold qS; omega)).trans (hr3 b i (by omega) (by omega)))))
        have hca7 : mCache M7 fl σ (τN4 + 1) msN4 := mCache_tick hcaN4 (by omega) ((gs_same eM7).trans (gn_add (Eq.refl (nI τN4)) (show (1 : Int32) = nI 1 from rfl))) (gs_ne eM7 (by omega) (gs_ne eM6 (by omega) (gs_ne eM5 (by omega) rfl))) (fun a => gs_ne eM7 (by omega) (gs_ne eM6 (by omega) (gs_ne eM5 (by omega) rfl)))
        have hv7 := inv_q hvN hq7 hca7
        have hg1 : sSe fl sh (sPv σ k) μ ld ≤ 290000 := hgl k hk9
        rcases f with _ | ⟨b0, q0⟩
        · have hl : lv_has ls 10 [(8, .int (nI (sSe fl sh (sPv σ k) μ ld))), (7, .int (nI (σ (18 + k)))), (6, .int (nI (σ (8 + k)))), (0, .ref o), (1, .int (nI μ)), (2, .int (nI ld)), (3, .int (-1)), (4, .int 0), (5, .int (nI k))] := hl
          refine lv_iload_n X.1 X.2.1 dX12_pave_133 rfl (lv_at hl 6 rfl) ?_
          refine lv_iconst (v := (-1)) X.1 X.2.1 dX12_pave_134 (by decide) ?_
          refine lv_icmp_eq (tgt := 145) X.1 X.2.1 dX12_pave_135 (by decide) (fun c135 => ?_) (fun c135 => ?_)
          · refine lv_iconst (v := 1) X.1 X.2.1 dX12_pave_145 (by decide) ?_
            refine lv_goto (tgt := 150) X.1 X.2.1 dX12_pave_146 (by decide) ?_
            refine lv_istore (lv' := [(9, .int 1), (8, .int (nI (sSe fl sh (sPv σ k) μ ld))), (7, .int (nI (σ (18 + k)))), (6, .int (nI (σ (8 + k)))), (0, .ref o), (1, .int (nI μ)), (2, .int (nI ld)), (3, .int (-1)), (4, .int 0), (5, .int (nI k))]) X.1 X.2.1 dX12_pave_150 hl (by decide) rfl (fun ls hl => ?_)
            refine lv_iload X.1 X.2.1 dX12_pave_152 (lv_at hl 0 rfl) ?_
            refine lv_if_eq (tgt := 162) X.1 X.2.1 dX12_pave_154 (by decide) (fun c154 => ?_) (fun c154 => ?_)
            · exact absurd c154 (by decide)
            · have n154 : ¬ 1 = 0 := gq_ne c154 (show (1 : Int32) = nI 1 from rfl) (show (0 : Int32) = nI 0 from rfl) (by omega) (by omega)
              refine lv_iload X.1 X.2.1 dX12_pave_157 (lv_at hl 9 rfl) ?_
              refine lv_goto (tgt := 163) X.1 X.2.1 dX12_pave_159 (by decide) ?_
              refine lv_istore_n (lv' := [(3, .int (nI k)), (9, .int 1), (8, .int (nI (sSe fl sh (sPv σ k) μ ld))), (7, .int (nI (σ (18 + k)))), (6, .int (nI (σ (8 + k)))), (0, .ref o), (1, .int (nI μ)), (2, .int (nI ld)), (4, .int 0), (5, .int (nI k))]) X.1 X.2.1 dX12_pave_163 rfl hl (by decide) rfl (fun ls hl => ?_)
              refine lv_iload X.1 X.2.1 dX12_pave_164 (lv_at hl 1 rfl) ?_
              refine lv_if_eq (tgt := 174) X.1 X.2.1 dX12_pave_166 (by decide) (fun c166 => ?_) (fun c166 => ?_)
              · exact absurd c166 (by decide)
              · have n166 : ¬ 1 = 0 := gq_ne c166 (show (1 : Int32) = nI 1 from rfl) (show (0 : Int32) = nI 0 from rfl) (by omega) (by omega)
                refine lv_iload X.1 X.2.1 dX12_pave_169 (lv_at hl 2 rfl) ?_
                refine lv_goto (tgt := 176) X.1 X.2.1 dX12_pave_171 (by decide) ?_
                refine lv_istore (lv' := [(4, .int (nI (sSe fl sh (sPv σ k) μ ld))), (3, .int (nI k)), (9, .int 1), (8, .int (nI (sSe fl sh (sPv σ k) μ ld))), (7, .int (nI (σ (18 + k)))), (6, .int (nI (σ (8 + k)))), (0, .ref o), (1, .int (nI μ)), (2, .int (nI ld)), (5, .int (nI k))]) X.1 X.2.1 dX12_pave_176 hl (by decide) rfl (fun ls hl => ?_)
                refine lv_iinc (v := nI (k + 1)) (lv' := [(5, .int (nI (k + 1))), (4, .int (nI (sSe fl sh (sPv σ k) μ ld))), (3, .int (nI k)), (9, .int 1), (8, .int (nI (sSe fl sh (sPv σ k) μ ld))), (7, .int (nI (σ (18 + k)))), (6, .int (nI (σ (8 + k)))), (0, .ref o), (1, .int (nI μ)), (2, .int (nI ld))]) X.1 X.2.1 dX12_pave_178 hl (k := 9) rfl (gn_inc (Eq.refl (nI k)) 1) (by decide) rfl (fun ls hl => ?_)
                refine lv_goto (tgt := 28) X.1 X.2.1 dX12_pave_181 (by decide) ?_
                have hf2 : f2 = some (k, (fun y => sSe fl sh (sPv σ y) μ ld) k) := by rw [hstep]
                exact ih _ _ _ _ (by omega) ⟨(τN4 + 1), msN4, hv7, by omega, by omega, (fun b i h => (hq7 b i h).trans (hqs b i h)), (by rw [hf2]; exact fun b q h => by cases h; exact ⟨by omega, hg1⟩), by rw [hf2]; exact lv_sub hl [7, 8, 9, 2, 1, 0] rfl⟩ hP hS
          · exact absurd rfl c135
        · have hbq := hble b0 q0 rfl
          have hl : lv_has ls 10 [(8, .int (nI (sSe fl sh (sPv σ k) μ ld))), (7, .int (nI (σ (18 + k)))), (6, .int (nI (σ (8 + k)))), (0, .ref o), (1, .int (nI μ)), (2, .int (nI ld)), (3, .int (nI b0)), (4, .int (nI q0)), (5, .int (nI k))] := hl
          refine lv_iload_n X.1 X.2.1 dX12_pave_133 rfl (lv_at hl 6 rfl) ?_
          refine lv_iconst (v := (-1)) X.1 X.2.1 dX12_pave_134 (by decide) ?_
          refine lv_icmp_eq (tgt := 145) X.1 X.2.1 dX12_pave_135 (by decide) (fun c135 => ?_) (fun c135 => ?_)
          · exact absurd c135 (gn_m1 (by omega))
          · refine lv_iload X.1 X.2.1 dX12_pave_138 (lv_at hl 0 rfl) ?_
            refine lv_iload X.1 X.2.1 dX12_pave_140 (lv_at hl 7 rfl) ?_
            refine lv_icmp_ge (tgt := 149) X.1 X.2.1 dX12_pave_142 (by decide) (fun c142 => ?_) (fun c142 => ?_)
            · have n142 : q0 ≤ (sSe fl sh (sPv σ k) μ ld) := gq_le c142 (Eq.refl (nI q0)) (Eq.refl (nI (sSe fl sh (sPv σ k) μ ld))) (by omega) (by omega)
              refine lv_iconst (v := 0) X.1 X.2.1 dX12_pave_149 (by decide) ?_
              refine lv_istore (lv' := [(9, .int 0), (8, .int (nI (sSe fl sh (sPv σ k) μ ld))), (7, .int (nI (σ (18 + k)))), (6, .int (nI (σ (8 + k)))), (0, .ref o), (1, .int (nI μ)), (2, .int (nI ld)), (3, .int (nI b0)), (4, .int (nI q0)), (5, .int (nI k))]) X.1 X.2.1 dX12_pave_150 hl (by decide) rfl (fun ls hl => ?_)
              refine lv_iload X.1 X.2.1 dX12_pave_152 (lv_at hl 0 rfl) ?_
              refine lv_if_eq (tgt := 162) X.1 X.2.1 dX12_pave_154 (by decide) (fun c154 => ?_) (fun c154 => ?_)
              · have n154 : 0 = 0 := gq_eq c154 (show (0 : Int32) = nI 0 from rfl) (show (0 : Int32) = nI 0 from rfl) (by omega) (by omega)
                refine lv_iload_n X.1 X.2.1 dX12_pave_162 rfl (lv_at hl 7 rfl) ?_
                refine lv_istore_n (lv' := [(3, .int (nI b0)), (9, .int 0), (8, .int (nI (sSe fl sh (sPv σ k) μ ld))), (7, .int (nI (σ (18 + k)))), (6, .int (nI (σ (8 + k)))), (0, .ref o), (1, .int (nI μ)), (2, .int (nI ld)), (4, .int (nI q0)), (5, .int (nI k))]) X.1 X.2.1 dX12_pave_163 rfl hl (by decide) rfl (fun ls hl => ?_)
                refine lv_iload X.1 X.2.1 dX12_pave_164 (lv_at hl 1 rfl) ?_
                refine lv_if_eq (tgt := 174) X.1 X.2.1 dX12_pave_166 (by decide) (fun c166 => ?_) (fun c166 => ?_)
                · have n166 : 0 = 0 := gq_eq c166 (show (0 : Int32) = nI 0 from rfl) (show (0 : Int32) = nI 0 from rfl) (by omega) (by omega)
                  refine lv_iload X.1 X.2.1 dX12_pave_174 (lv_at hl 8 rfl) ?_
                  refine lv_istore (lv' := [(4, .int (nI q0)), (3, .int (nI b0)), (9, .int 0), (8, .int (nI (sSe fl sh (sPv σ k) μ ld))), (7, .int (nI (σ (18 + k)))), (6, .int (nI (σ (8 + k)))), (0, .ref o), (1, .int (nI μ)), (2, .int (nI ld)), (5, .int (nI k))]) X.1 X.2.1 dX12_pave_176 hl (by decide) rfl (fun ls hl => ?_)
                  refine lv_iinc (v := nI (k + 1)) (lv' := [(5, .int (nI (k + 1))), (4, .int (nI q0)), (3, .int (nI b0)), (9, .int 0), (8, .int (nI (sSe fl sh (sPv σ k) μ ld))), (7, .int (nI (σ (18 + k)))), (6, .int (nI (σ (8 + k)))), (0, .ref o), (1, .int (nI μ)), (2, .int (nI ld))]) X.1 X.2.1 dX12_pave_178 hl (k := 9) rfl (gn_inc (Eq.refl (nI k)) 1) (by decide) rfl (fun ls hl => ?_)
                  refine lv_goto (tgt := 28) X.1 X.2.1 dX12_pave_181 (by decide) ?_
                  have hf2 : f2 = some (b0, q0) := by rw [hstep]; show (if (fun y => sSe fl sh (sPv σ y) μ ld) k < q0 then _ else _) = _; rw [if_neg (by show ¬ sSe fl sh (sPv σ k) μ ld < q0; omega)]
                  exact ih _ _ _ _ (by omega) ⟨(τN4 + 1), msN4, hv7, by omega, by omega, (fun b i h => (hq7 b i h).trans (hqs b i h)), (by rw [hf2]; exact fun b q h => by cases h; exact hbq), by rw [hf2]; exact lv_sub hl [7, 8, 9, 2, 1, 0] rfl⟩ hP hS
                · exact absurd rfl c166
              · exact absurd rfl c154
            · have n142 : (sSe fl sh (sPv σ k) μ ld) < q0 := gq_nle c142 (Eq.refl (nI q0)) (Eq.refl (nI (sSe fl sh (sPv σ k) μ ld))) (by omega) (by omega)
              refine lv_iconst (v := 1) X.1 X.2.1 dX12_pave_145 (by decide) ?_
              refine lv_goto (tgt := 150) X.1 X.2.1 dX12_pave_146 (by decide) ?_
              refine lv_istore (lv' := [(9, .int 1), (8, .int (nI (sSe fl sh (sPv σ k) μ ld))), (7, .int (nI (σ (18 + k)))), (6, .int (nI (σ (8 + k)))), (0, .ref o), (1, .int (nI μ)), (2, .int (nI ld)), (3, .int (nI b0)), (4, .int (nI q0)), (5, .int (nI k))]) X.1 X.2.1 dX12_pave_150 hl (by decide) rfl (fun ls hl => ?_)
              refine lv_iload X.1 X.2.1 dX12_pave_152 (lv_at hl 0 rfl) ?_
              refine lv_if_eq (tgt := 162) X.1 X.2.1 dX12_pave_154 (by decide) (fun c154 => ?_) (fun c154 => ?_)
              · exact absurd c154 (by decide)
              · have n154 : ¬ 1 = 0 := gq_ne c154 (show (1 : Int32) = nI 1 from rfl) (show (0 : Int32) = nI 0 from rfl) (by omega) (by omega)
                refine lv_iload X.1 X.2.1 dX12_pave_157 (lv_at hl 9 rfl) ?_
                refine lv_goto (tgt := 163) X.1 X.2.1 dX12_pave_159 (by decide) ?_
                refine lv_istore_n (lv' := [(3, .int (nI k)), (9, .int 1), (8, .int (nI (sSe fl sh (sPv σ k) μ ld))), (7, .int (nI (σ (18 + k)))), (6, .int (nI (σ (8 + k)))), (0, .ref o), (1, .int (nI μ)), (2, .int (nI ld)), (4, .int (nI q0)), (5, .int (nI k))]) X.1 X.2.1 dX12_pave_163 rfl hl (by decide) rfl (fun ls hl => ?_)
                refine lv_iload X.1 X.2.1 dX12_pave_164 (lv_at hl 1 rfl) ?_
                refine lv_if_eq (tgt := 174) X.1 X.2.1 dX12_pave_166 (by decide) (fun c166 => ?_) (fun c166 => ?_)
                · exact absurd c166 (by decide)
                · have n166 : ¬ 1 = 0 := gq_ne c166 (show (1 : Int32) = nI 1 from rfl) (show (0 : Int32) = nI 0 from rfl) (by omega) (by omega)
                  refine lv_iload X.1 X.2.1 dX12_pave_169 (lv_at hl 2 rfl) ?_
                  refine lv_goto (tgt := 176) X.1 X.2.1 dX12_pave_171 (by decide) ?_
                  refine lv_istore (lv' := [(4, .int (nI (sSe fl sh (sPv σ k) μ ld))), (3, .int (nI k)), (9, .int 1), (8, .int (nI (sSe fl sh (sPv σ k) μ ld))), (7, .int (nI (σ (18 + k)))), (6, .int (nI (σ (8 + k)))), (0, .ref o), (1, .int (nI μ)), (2, .int (nI ld)), (5, .int (nI k))]) X.1 X.2.1 dX12_pave_176 hl (by decide) rfl (fun ls hl => ?_)
                  refine lv_iinc (v := nI (k + 1)) (lv' := [(5, .int (nI (k + 1))), (4, .int (nI (sSe fl sh (sPv σ k) μ ld))), (3, .int (nI k)), (9, .int 1), (8, .int (nI (sSe fl sh (sPv σ k) μ ld))), (7, .int (nI (σ (18 + k)))), (6, .int (nI (σ (8 + k)))), (0, .ref o), (1, .int (nI μ)), (2, .int (nI ld))]) X.1 X.2.1 dX12_pave_178 hl (k := 9) rfl (gn_inc (Eq.refl (nI k)) 1) (by decide) rfl (fun ls hl => ?_)
                  refine lv_goto (tgt := 28) X.1 X.2.1 dX12_pave_181 (by decide) ?_
                  have hf2 : f2 = some (k, (fun y => sSe fl sh (sPv σ y) μ ld) k) := by rw [hstep]; show (if (fun y => sSe fl sh (sPv σ y) μ ld) k < q0 then _ else _) = _; rw [if_pos (by show  sSe fl sh (sPv σ k) μ ld < q0; omega)]
                  exact ih _ _ _ _ (by omega) ⟨(τN4 + 1), msN4, hv7, by omega, by omega, (fun b i h => (hq7 b i h).trans (hqs b i h)), (by rw [hf2]; exact fun b q h => by cases h; exact ⟨by omega, hg1⟩), by rw [hf2]; exact lv_sub hl [7, 8, 9, 2, 1, 0] rfl⟩ hP hS
    · exact absurd (g_le (a := 1) (b := 20) (x := 1) (y := 20) rfl rfl (by omega) (by omega) (by omega)) (gt_0 c14)
  · exact absurd (g_man hi hμn) (gt_0 c5)

end MV9
