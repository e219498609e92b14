section MQ9
variable {l : Launch} {s0 : State} {D : va_G} {cy : Nat → ClassId} {B o z : Nat} {T : Nat → Nat × Nat} {R : Nat → Nat → Option Nat} {I0 : Nat → Nat → Int32} {M : Nat → Nat → Int32} {σ : Nat → Nat} {fl : List Nat} {ti sh K τ ms : Nat}
def sLk (fl : List Nat) (ti sh : Nat) (σ : Nat → Nat) (μ ld : Nat) : Nat → Nat → Option Nat
  | 0, _ => none
  | n + 1, k => if sSe fl sh (sIt fl ti sh σ μ ld k) μ ld = σ (56 + k) then sLk fl ti sh σ μ ld n (k + 1) else some k
def oI (f : Option Nat) : Int32 := match f with
  | none => -5
  | some j => nI j
theorem gn_m5 {n : Nat} (h : n < 2 ^ 31) : ¬ nI n = -5 := fun e => by
  have h1 : (nI n).toInt = (-5 : Int32).toInt := by rw [e]
  rw [nI_toInt h, show (-5 : Int32).toInt = -5 by decide] at h1
  omega

set_option maxHeartbeats 4000000 in
set_option maxRecDepth 100000 in
/-- c_looked_n -/
theorem c_looked_n (hM : gMod o T R) (hi : mInv M σ fl ti sh K τ ms) {v : Int32} (hno : ¬ (0 ≤ v ∧ v ≤ nI (σ 38) - 1)) (a : Int32) : Met l yX12_looked wsX12_looked ({ frames := 2, cells := 0, slots := 0, locals := 43 }) (mPre s0 D cy B o z T R I0 M [.int v, .int a]) (mQi D cy B o z T R I0 (fun r u => r = -1 ∧ M = u)) 0 0 (gA B) := by
  refine g_met (maxL := 5) (ret := (some .int)) (by decide) rfl (Nat.le_of_ble_eq_true rfl) (fun p e s m args below meth c ls X hr hlk hnm hK hP hC hS hl => ?_)
  have hl : lv_has ls 5 [(0, .ref o), (1, .int v), (2, .int a)] := hl
  have hP : gP D cy B z T (gI o 12 M I0) R s.heap := hP
  have hB : B ≤ s.heap.size := by rw [hP.1]; exact hP.2.1
  have hin : ∀ w ∈ wsX120, w ∈ wsX12_looked := fun _ h => List.mem_cons_of_mem _ (List.mem_append_right _ h)
  have k9 : Cond.fieldLink RX12 9 "BarrowPlankModel" "s" "[I" ∈ wsX12_looked := by decide +kernel
  have k187 : Cond.fieldLink RX12 187 "BarrowPlankModel" "seconds" "I" ∈ wsX12_looked := by decide +kernel
  have hσ := hi.1
  have hs := hi.2.1
  have hb := hi.2.2.1
  have hca := hi.2.2.2
  refine lv_aload_n X.1 X.2.1 dX12_looked_0 rfl (lv_at hl 0 rfl) ?_
  refine lv_iload_n X.1 X.2.1 dX12_looked_1 rfl (lv_at hl 1 rfl) ?_
  refine g_run_i (g_runV (k := 14) [.int v] X hK hP hS hC hB (c_isMan hM _ v) (cwV 1 X.2.2.2.2 gX12_looked_X12_isMan rfl rfl rfl (by decide +kernel) ⟨Nat.le_of_ble_eq_true rfl, Nat.le_of_ble_eq_true rfl⟩) (hM.1 0 _ rfl) rfl rfl hl.1 rfl (Nat.le_of_ble_eq_true rfl) dX12_looked_2 (by exact ⟨Nat.zero_le _, Nat.zero_le _⟩)) hS (fun r u H locs hq hP hS => ?_)
  obtain ⟨rfl, rfl⟩ := hq
  have hP : gP D cy B z T (gI o 12 M I0) R H := hP
  refine lv_if_ne (tgt := 10) X.1 X.2.1 dX12_looked_5 (by decide) (fun c5 => ?_) (fun c5 => ?_)
  · exact absurd (gt_1 c5) (g_noman hi hno)
  · refine lv_iconst (v := (-1)) X.1 X.2.1 dX12_looked_8 (by decide) ?_
    exact g_iret M X hr hlk hK hP hS dX12_looked_9 ⟨rfl, rfl⟩

set_option maxHeartbeats 4000000 in
set_option maxRecDepth 100000 in
/-- c_looked_b -/
theorem c_looked_b (hM : gMod o T R) (hi : mInv M σ fl ti sh K τ ms) {μ : Nat} (hμn : μ < σ 38) {a : Int32} (hbad : ¬ (1 ≤ a ∧ a ≤ 20)) : Met l yX12_looked wsX12_looked ({ frames := 2, cells := 0, slots := 0, locals := 43 }) (mPre s0 D cy B o z T R I0 M [.int (nI μ), .int a]) (mQi D cy B o z T R I0 (fun r u => r = -2 ∧ M = u)) 0 0 (gA B) := by
  refine g_met (maxL := 5) (ret := (some .int)) (by decide) rfl (Nat.le_of_ble_eq_true rfl) (fun p e s m args below meth c ls X hr hlk hnm hK hP hC hS hl => ?_)
  have hl : lv_has ls 5 [(0, .ref o), (1, .int (nI μ)), (2, .int a)] := hl
  have hP : gP D cy B z T (gI o 12 M I0) R s.heap := hP
  have hB : B ≤ s.heap.size := by rw [hP.1]; exact hP.2.1
  have hin : ∀ w ∈ wsX120, w ∈ wsX12_looked := fun _ h => List.mem_cons_of_mem _ (List.mem_append_right _ h)
  have k9 : Cond.fieldLink RX12 9 "BarrowPlankModel" "s" "[I" ∈ wsX12_looked := by decide +kernel
  have k187 : Cond.fieldLink RX12 187 "BarrowPlankModel" "seconds" "I" ∈ wsX12_looked := by decide +kernel
  have hσ := hi.1
  have hs := hi.2.1
  have hb := hi.2.2.1
  have hca := hi.2.2.2
  refine lv_aload_n X.1 X.2.1 dX12_looked_0 rfl (lv_at hl 0 rfl) ?_
  refine lv_iload_n X.1 X.2.1 dX12_looked_1 rfl (lv_at hl 1 rfl) ?_
  refine g_run_i (g_runV (k := 14) [.int (nI μ)] X hK hP hS hC hB (c_isMan hM _ (nI μ)) (cwV 1 X.2.2.2.2 gX12_looked_X12_isMan rfl rfl rfl (by decide +kernel) ⟨Nat.le_of_ble_eq_true rfl, Nat.le_of_ble_eq_true rfl⟩) (hM.1 0 _ rfl) rfl rfl hl.1 rfl (Nat.le_of_ble_eq_true rfl) dX12_looked_2 (by exact ⟨Nat.zero_le _, Nat.zero_le _⟩)) hS (fun r u H locs hq hP hS => ?_)
  obtain ⟨rfl, rfl⟩ := hq
  have hP : gP D cy B z T (gI o 12 M I0) R H := hP
  refine lv_if_ne (tgt := 10) X.1 X.2.1 dX12_looked_5 (by decide) (fun c5 => ?_) (fun c5 => ?_)
  · refine lv_iload_n X.1 X.2.1 dX12_looked_10 rfl (lv_at hl 2 rfl) ?_
    refine g_run_i (g_runS [.int a] X hK hP hS hC hB (c_isLoad _ a) (va_cwS 1 X.2.2.2.2 gX12_looked_X12_isLoad rfl rfl rfl (by decide +kernel) ⟨Nat.le_of_ble_eq_true rfl, Nat.le_of_ble_eq_true rfl⟩) rfl hl.1 rfl (Nat.le_of_ble_eq_true rfl) dX12_looked_11 (by exact ⟨Nat.zero_le _, Nat.zero_le _⟩)) hS (fun r u H locs hq hP hS => ?_)
    obtain ⟨rfl, rfl⟩ := hq
    have hP : gP D cy B z T (gI o 12 M I0) R H := hP
    refine lv_if_ne (tgt := 20) X.1 X.2.1 dX12_looked_14 (by decide) (fun c14 => ?_) (fun c14 => ?_)
    · exact absurd (gt_1 c14) hbad
    · refine lv_bipush (v := (-2)) X.1 X.2.1 dX12_looked_17 (by decide) ?_
      exact g_iret M X hr hlk hK hP hS dX12_looked_19 ⟨rfl, rfl⟩
  · exact absurd (g_man hi hμn) (gt_0 c5)

set_option maxHeartbeats 4000000 in
set_option maxRecDepth 100000 in
/-- c_looked -/
theorem c_looked (hM : gMod o T R) (hi : mInv M σ fl ti sh K τ ms) {μ : Nat} (hμn : μ < σ 38) {ld : Nat} (hl1 : 1 ≤ ld) (hld : ld ≤ 20) (hτ : τ + 1000 < 2 ^ 30) (hK : K < 2 ^ 28) : Met l yX12_looked wsX12_looked ({ frames := 5, cells := 0, slots := 0, locals := 125 }) (mPre s0 D cy B o z T R I0 M [.int (nI μ), .int (nI ld)]) (mQi D cy B o z T R I0 (fun r u => r = oI (sLk fl ti sh σ μ ld (σ 40) 0) ∧ mSame qS M u ∧ ∃ τ' ms', τ ≤ τ' ∧ τ' ≤ τ + 970 ∧ mCache u fl σ τ' ms')) 0 0 (gA B) := by
  refine g_met (maxL := 5) (ret := (some .int)) (by decide) rfl (Nat.le_of_ble_eq_true rfl) (fun p e s m args below meth c ls X hr hlk hnm hK hP hC hS hl => ?_)
  have hl : lv_has ls 5 [(0, .ref o), (1, .int (nI μ)), (2, .int (nI ld))] := hl
  have hP : gP D cy B z T (gI o 12 M I0) R s.heap := hP
  have hB : B ≤ s.heap.size := by rw [hP.1]; exact hP.2.1
  have hin : ∀ w ∈ wsX120, w ∈ wsX12_looked := fun _ h => List.mem_cons_of_mem _ (List.mem_append_right _ h)
  have k9 : Cond.fieldLink RX12 9 "BarrowPlankModel" "s" "[I" ∈ wsX12_looked := by decide +kernel
  have k187 : Cond.fieldLink RX12 187 "BarrowPlankModel" "seconds" "I" ∈ wsX12_looked := by decide +kernel
  have hσ := hi.1
  have hs := hi.2.1
  have hb := hi.2.2.1
  have hca := hi.2.2.2
  have hμ : μ < 4 := Nat.lt_of_lt_of_le hμn hi.2.2.1.2.2.2.2.1
  have h38 := hμn
  refine lv_aload_n X.1 X.2.1 dX12_looked_0 rfl (lv_at hl 0 rfl) ?_
  refine lv_iload_n X.1 X.2.1 dX12_looked_1 rfl (lv_at hl 1 rfl) ?_
  refine g_run_i (g_runV (k := 14) [.int (nI μ)] X hK hP hS hC hB (c_isMan hM _ (nI μ)) (cwV 1 X.2.2.2.2 gX12_looked_X12_isMan rfl rfl rfl (by decide +kernel) ⟨Nat.le_of_ble_eq_true rfl, Nat.le_of_ble_eq_true rfl⟩) (hM.1 0 _ rfl) rfl rfl hl.1 rfl (Nat.le_of_ble_eq_true rfl) dX12_looked_2 (by exact ⟨Nat.zero_le _, Nat.zero_le _⟩)) hS (fun r u H locs hq hP hS => ?_)
  obtain ⟨rfl, rfl⟩ := hq
  have hP : gP D cy B z T (gI o 12 M I0) R H := hP
  refine lv_if_ne (tgt := 10) X.1 X.2.1 dX12_looked_5 (by decide) (fun c5 => ?_) (fun c5 => ?_)
  · refine lv_iload_n X.1 X.2.1 dX12_looked_10 rfl (lv_at hl 2 rfl) ?_
    refine g_run_i (g_runS [.int (nI ld)] X hK hP hS hC hB (c_isLoad _ (nI ld)) (va_cwS 1 X.2.2.2.2 gX12_looked_X12_isLoad rfl rfl rfl (by decide +kernel) ⟨Nat.le_of_ble_eq_true rfl, Nat.le_of_ble_eq_true rfl⟩) rfl hl.1 rfl (Nat.le_of_ble_eq_true rfl) dX12_looked_11 (by exact ⟨Nat.zero_le _, Nat.zero_le _⟩)) hS (fun r u H locs hq hP hS => ?_)
    obtain ⟨rfl, rfl⟩ := hq
    have hP : gP D cy B z T (gI o 12 M I0) R H := hP
    refine lv_if_ne (tgt := 20) X.1 X.2.1 dX12_looked_14 (by decide) (fun c14 => ?_) (fun c14 => ?_)
    · refine lv_aload_n X.1 X.2.1 dX12_looked_20 rfl (lv_at hl 0 rfl) ?_
      refine lv_iconst (v := 0) X.1 X.2.1 dX12_looked_21 (by decide) ?_
      refine g_run_v (g_runV (k := 14) [.int 0] X hK hP hS hC hB (c_keeps hM M (f := 0) (by decide)) (cwV 1 X.2.2.2.2 gX12_looked_X12_keeps rfl rfl rfl (by decide +kernel) ⟨Nat.le_of_ble_eq_true rfl, Nat.le_of_ble_eq_true rfl⟩) (hM.1 0 _ rfl) rfl rfl hl.1 rfl (Nat.le_of_ble_eq_true rfl) dX12_looked_22 (by exact ⟨Nat.zero_le _, Nat.zero_le _⟩)) hS (fun u H locs hq hP hS => ?_)
      have hq : mKeep M 0 18 = u := hq.symm
      have hvN1 := inv_keep hi 0
      have hfN1 := fr_keep hi.1 0
      have hrN1 : ∀ b i, b ≠ 3 → mKeep M 0 18 b i = M b i := fun b i h => mKeep_r _ _ _ _ _ h
      generalize mKeep M 0 18 = N1 at hq hP hvN1 hfN1 hrN1
      subst hq
      have hP : gP D cy B z T (gI o 12 N1 I0) R H := hP
      refine lv_bipush (v := (-5)) X.1 X.2.1 dX12_looked_25 (by decide) ?_
      refine lv_istore_n (lv' := [(3, .int (-5)), (0, .ref o), (1, .int (nI μ)), (2, .int (nI ld))]) X.1 X.2.1 dX12_looked_27 rfl hl (by decide) rfl (fun ls hl => ?_)
      refine lv_iconst (v := 0) X.1 X.2.1 dX12_looked_28 (by decide) ?_
      refine lv_istore (lv' := [(4, .int 0), (3, .int (-5)), (0, .ref o), (1, .int (nI μ)), (2, .int (nI ld))]) X.1 X.2.1 dX12_looked_29 hl (by decide) rfl (fun ls hl => ?_)
      have hb40 : σ 40 ≤ 12 := hb.2.2.2.2.2.2.1
      refine m_loop (M := N1) (σ 40) 31 [] (fun k N ls => ∃ (f : Option Nat) (τk msk : Nat), ((f = none ∧ sLk fl ti sh σ μ ld (σ 40 - k) k = sLk fl ti sh σ μ ld (σ 40) 0) ∨ ∃ j, j ≤ 12 ∧ f = some j ∧ sLk fl ti sh σ μ ld (σ 40) 0 = some j) ∧ mInv N (sIt fl ti sh σ μ ld k) fl ti sh (K + 300000 * k) τk msk ∧ τ ≤ τk ∧ τk ≤ τ + 32 * k ∧ mFr N 0 σ ∧ (∀ b i, ¬ (qS b i ∨ (b = 1 ∧ i < 18)) → N b i = M b i) ∧ lv_has ls 5 [(0, .ref o), (1, .int (nI μ)), (2, .int (nI ld)), (3, .int (oI f)), (4, .int (nI k))]) 0 (by omega) ⟨none, τ, ms, Or.inl ⟨rfl, rfl⟩, hvN1, by omega, by omega, hfN1, (fun b i h => by unfold qS at h; exact ((hrN1 b i (by omega)).trans rfl)), lv_sub hl [2, 3, 4, 1, 0] rfl⟩ hP hS (fun k N H locs ls hk hiv hP hS ih => ?_)
      obtain ⟨f, τk, msk, hf, hvN, hτ1, hτ2, hfN, hkN, hl⟩ := hiv
      have h40 : (sIt fl ti sh σ μ ld k) 40 = σ 40 := sIt_18 hμ k 40 (by omega)
      rcases hf with ⟨rfl, hLK⟩ | ⟨j, hj, rfl, hLK⟩
      · have hl : lv_has ls 5 [(0, .ref o), (1, .int (nI μ)), (2, .int (nI ld)), (3, .int (-5)), (4, .int (nI k))] := hl
        refine lv_iload X.1 X.2.1 dX12_looked_31 (lv_at hl 4 rfl) ?_
        refine lv_aload_n X.1 X.2.1 dX12_looked_33 rfl (lv_at hl 0 rfl) ?_
        refine m_getr 1 1 X hK hP hM hin rfl (by decide) k9 rfl dX12_looked_34 (by decide) ?_
        refine lv_bipush (v := 40) X.1 X.2.1 dX12_looked_37 (by decide) ?_
        refine m_ald 1 40 883 X hK hP hM rfl (gIx_of (show (40 : Int32) = nI 40 from rfl) (by omega) (by omega)) dX12_looked_39 (show N 1 40 = nI (σ 40) from (by rw [hvN.1 40 (by decide) (by decide), h40])) ?_
        refine lv_icmp_ge (tgt := 85) X.1 X.2.1 dX12_looked_40 (by decide) (fun c40 => ?_) (fun c40 => ?_)
        · have n40 : σ 40 ≤ k := gq_le c40 (Eq.refl (nI (σ 40))) (Eq.refl (nI k)) (by omega) (by omega)
          refine lv_aload_n X.1 X.2.1 dX12_looked_85 rfl (lv_at hl 0 rfl) ?_
          refine lv_iconst (v := 0) X.1 X.2.1 dX12_looked_86 (by decide) ?_
          refine g_run_v (g_runV (k := 14) [.int 0] X hK hP hS hC hB (c_back hM N (f := 0) (by decide)) (cwV 1 X.2.2.2.2 gX12_looked_X12_goesBackTo rfl rfl rfl (by decide +kernel) ⟨Nat.le_of_ble_eq_true rfl, Nat.le_of_ble_eq_true rfl⟩) (hM.1 0 _ rfl) rfl rfl hl.1 rfl (Nat.le_of_ble_eq_true rfl) dX12_looked_87 (by exact ⟨Nat.zero_le _, Nat.zero_le _⟩)) hS (fun u H locs hq hP hS => ?_)
          have hvN2 := inv_back hvN hfN hb (fun i hi9 => sIt_18 hμ _ i hi9) (by omega)
          have hrN2 : ∀ b i, ¬ (b = 1 ∧ i < 18) → ¬ (b = 0 ∧ i = 17) → u b i = N b i := fun b i h1 h2 => by rw [hq]; exact back_r h1 h2
          rw [← hq] at hvN2
          clear hq
          generalize u = N2 at hP hvN2 hrN2
          have hP : gP D cy B z T (gI o 12 N2 I0) R H := hP
          refine lv_iload_n X.1 X.2.1 dX12_looked_90 rfl (lv_at hl 3 rfl) ?_
          exact g_iret N2 X hr hlk hK hP hS dX12_looked_91 ⟨(by rw [← hLK, show σ 40 - k = 0 by omega]; rfl), (fun b i h => by by_cases e1 : b = 1; (· subst e1; by_cases e2 : i < 18; (· rw [hvN2.1 i (by omega) (by omega), hσ i (by omega) (by omega)]); unfold qS at h; exact ((hrN2 1 i (by omega) (by omega)).trans (hkN 1 i (by unfold qS; omega)))); unfold qS at h; exact ((hrN2 b i (by omega) (by omega)).trans (hkN b i (by unfold qS; omega)))), (τk + 1), msk, by omega, by omega, hvN2.2.2.2⟩
        · have n40 : k < σ 40 := gq_nle c40 (Eq.refl (nI (σ 40))) (Eq.refl (nI k)) (by omega) (by omega)
          have hk9 : k < σ 40 := by omega
          refine lv_iload_n X.1 X.2.1 dX12_looked_43 rfl (lv_at hl 3 rfl) ?_
          refine lv_bipush (v := (-5)) X.1 X.2.1 dX12_looked_44 (by decide) ?_
          refine lv_icmp_ne (tgt := 85) X.1 X.2.1 dX12_looked_46 (by decide) (fun c46 => ?_) (fun c46 => ?_)
          · exact absurd rfl c46
          · refine lv_aload_n X.1 X.2.1 dX12_looked_49 rfl (lv_at hl 0 rfl) ?_
            refine lv_iload_n X.1 X.2.1 dX12_looked_50 rfl (lv_at hl 1 rfl) ?_
            refine lv_iload_n X.1 X.2.1 dX12_looked_51 rfl (lv_at hl 2 rfl) ?_
            refine g_run_v (g_runV (k := 14) [.int (nI μ), .int (nI ld)] X hK hP hS hC hB (c_goes hM hvN.1 hvN.2.1 hvN.2.2.1 hμ (by first | exact h38 | omega | (rw [sIt_18 hμ _ _ (by omega)]; exact h38) | (rw [h18 38 (by omega)]; exact h38)) (by omega) hvN.2.2.2 (by omega) (by omega)) (cwV 2 X.2.2.2.2 gX12_looked_X12_goes rfl rfl rfl (by decide +kernel) ⟨Nat.le_of_ble_eq_true rfl, Nat.le_of_ble_eq_true rfl⟩) (hM.1 0 _ rfl) rfl rfl hl.1 rfl (Nat.le_of_ble_eq_true rfl) dX12_looked_52 (by exact ⟨Nat.zero_le _, Nat.zero_le _⟩)) hS (fun u H locs hq hP hS => ?_)
            obtain ⟨h19N3, h20N3, h21N3, h22N3, hσN3, ⟨τN3, msN3, hτaN3, hτbN3, hcaN3⟩, hkN3⟩ := hq
            generalize u = N3 at hP h19N3 h20N3 h21N3 h22N3 hσN3 hcaN3 hkN3
            have hP : gP D cy B z T (gI o 12 N3 I0) R H := hP
            have hvN3 := inv_goes hvN hμ hσN3 hcaN3 hkN3
            have hfr0N3 := gS_fr hfN hkN3
            have hse := sSe_le hvN.2.1 hvN.2.2.1 hμ ld
            have h56 : (sGo fl ti sh (sIt fl ti sh σ μ ld k) μ ld) (56 + k) = σ (56 + k) := (sGo_18 hμ (by omega)).trans (sIt_18 hμ k _ (by omega))
            have hb56 : σ (56 + k) ≤ 9999 := hb.2.2.2.2.2.2.2.2.2.1 k (by omega)
            refine lv_aload_n X.1 X.2.1 dX12_looked_55 rfl (lv_at hl 0 rfl) ?_
            refine m_geti 21 X hK hP hM hin rfl (by decide) k187 rfl dX12_looked_56 (show N3 0 21 = nI (sSe fl sh (sIt fl ti sh σ μ ld k) μ ld) from h21N3) ?_
            refine lv_aload_n X.1 X.2.1 dX12_looked_59 rfl (lv_at hl 0 rfl) ?_
            refine m_getr 1 1 X hK hP hM hin rfl (by decide) k9 rfl dX12_looked_60 (by decide) ?_
            refine lv_bipush (v := 56) X.1 X.2.1 dX12_looked_63 (by decide) ?_
            refine lv_iload X.1 X.2.1 dX12_looked_65 (lv_at hl 4 rfl) ?_
            refine lv_iadd X.1 X.2.1 dX12_looked_67 ?_
            refine m_ald 1 (56 + k) 883 X hK hP hM rfl (gIx_of (gn_add (show (56 : Int32) = nI 56 from rfl) (Eq.refl (nI k))) (by omega) (by omega)) dX12_looked_68 (show N3 1 (56 + k) = nI ((sGo fl ti sh (sIt fl ti sh σ μ ld k) μ ld) (56 + k)) from (hvN3.1 (56 + k) (by omega) (by omega))) ?_
            refine lv_icmp_eq (tgt := 77) X.1 X.2.1 dX12_looked_69 (by decide) (fun c69 => ?_) (fun c69 => ?_)
            · have n69 : (sSe fl sh (sIt fl ti sh σ μ ld k) μ ld) = (sGo fl ti sh (sIt fl ti sh σ μ ld k) μ ld) (56 + k) := gq_eq c69 (Eq.refl (nI (sSe fl sh (sIt fl ti sh σ μ ld k) μ ld))) (Eq.refl (nI ((sGo fl ti sh (sIt fl ti sh σ μ ld k) μ ld) (56 + k)))) (by omega) (by omega)
              refine lv_iload_n X.1 X.2.1 dX12_looked_77 rfl (lv_at hl 3 rfl) ?_
              refine lv_istore_n (lv' := [(3, .int (-5)), (0, .ref o), (1, .int (nI μ)), (2, .int (nI ld)), (4, .int (nI k))]) X.1 X.2.1 dX12_looked_78 rfl hl (by decide) rfl (fun ls hl => ?_)
              refine lv_iinc (v := nI (k + 1)) (lv' := [(4, .int (nI (k + 1))), (3, .int (-5)), (0, .ref o), (1, .int (nI μ)), (2, .int (nI ld))]) X.1 X.2.1 dX12_looked_79 hl (k := 4) rfl (gn_inc (Eq.refl (nI k)) 1) (by decide) rfl (fun ls hl => ?_)
              refine lv_goto (tgt := 31) X.1 X.2.1 dX12_looked_82 (by decide) ?_
              exact ih _ _ _ _ (by omega) ⟨none, τN3, msN3, Or.inl ⟨rfl, by rw [← hLK, show σ 40 - k = (σ 40 - (k + 1)) + 1 by omega]; show _ = (if _ then _ else _); rw [if_pos (by rw [← h56]; exact n69)]⟩, mInv_le hvN3 (by omega), by omega, by omega, hfr0N3, (fun b i h => by unfold qS at h; exact ((hkN3 b i (by unfold gS lS; omega)).trans (hkN b i (by unfold qS; omega)))), lv_sub hl [2, 3, 4, 1, 0] rfl⟩ hP hS
            · have n69 : ¬ (sSe fl sh (sIt fl ti sh σ μ ld k) μ ld) = (sGo fl ti sh (sIt fl ti sh σ μ ld k) μ ld) (56 + k) := gq_ne c69 (Eq.refl (nI (sSe fl sh (sIt fl ti sh σ μ ld k) μ ld))) (Eq.refl (nI ((sGo fl ti sh (sIt fl ti sh σ μ ld k) μ ld) (56 + k)))) (by omega) (by omega)
              refine lv_iload X.1 X.2.1 dX12_looked_72 (lv_at hl 4 rfl) ?_
              refine lv_goto (tgt := 78) X.1 X.2.1 dX12_looked_74 (by decide) ?_
              refine lv_istore_n (lv' := [(3, .int (nI k)), (0, .ref o), (1, .int (nI μ)), (2, .int (nI ld)), (4, .int (nI k))]) X.1 X.2.1 dX12_looked_78 rfl hl (by decide) rfl (fun ls hl => ?_)
              refine lv_iinc (v := nI (k + 1)) (lv' := [(4, .int (nI (k + 1))), (3, .int (nI k)), (0, .ref o), (1, .int (nI μ)), (2, .int (nI ld))]) X.1 X.2.1 dX12_looked_79 hl (k := 4) rfl (gn_inc (Eq.refl (nI k)) 1) (by decide) rfl (fun ls hl => ?_)
              refine lv_goto (tgt := 31) X.1 X.2.1 dX12_looked_82 (by decide) ?_
              exact ih _ _ _ _ (by omega) ⟨(some k), τN3, msN3, Or.inr ⟨k, by omega, rfl, by rw [← hLK, show σ 40 - k = (σ 40 - (k + 1)) + 1 by omega]; show (if _ then _ else _) = _; rw [if_neg (by rw [← h56]; exact n69)]⟩, mInv_le hvN3 (by omega), by omega, by omega, hfr0N3, (fun b i h => by unfold qS at h; exact ((hkN3 b i (by unfold gS lS; omega)).trans (hkN b i (by unfold qS; omega)))), lv_sub hl [2, 3, 4, 1, 0] rfl⟩ hP hS
      · have hl : lv_has ls 5 [(0, .ref o), (1, .int (nI μ)), (2, .int (nI ld)), (3, .int (nI j)), (4, .int (nI k))] := hl
        refine lv_iload X.1 X.2.1 dX12_looked_31 (lv_at hl 4 rfl) ?_
        refine lv_aload_n X.1 X.2.1 dX12_looked_33 rfl (lv_at hl 0 rfl) ?_
        refine m_getr 1 1 X hK hP hM hin rfl (by decide) k9 rfl dX12_looked_34 (by decide) ?_
        refine lv_bipush (v := 40) X.1 X.2.1 dX12_looked_37 (by decide) ?_
        refine m_ald 1 40 883 X hK hP hM rfl (gIx_of (show (40 : Int32) = nI 40 from rfl) (by omega) (by omega)) dX12_looked_39 (show N 1 40 = nI (σ 40) from (by rw [hvN.1 40 (by decide) (by decide), h40])) ?_
        refine lv_icmp_ge (tgt := 85) X.1 X.2.1 dX12_looked_40 (by decide) (fun c40 => ?_) (fun c40 => ?_)
        · have n40 : σ 40 ≤ k := gq_le c40 (Eq.refl (nI (σ 40))) (Eq.refl (nI k)) (by omega) (by omega)
          refine lv_aload_n X.1 X.2.1 dX12_looked_85 rfl (lv_at hl 0 rfl) ?_
          refine lv_iconst (v := 0) X.1 X.2.1 dX12_looked_86 (by decide) ?_
          refine g_run_v (g_runV (k := 14) [.int 0] X hK hP hS hC hB (c_back hM N (f := 0) (by decide)) (cwV 1 X.2.2.2.2 gX12_looked_X12_goesBackTo rfl rfl rfl (by decide +kernel) ⟨Nat.le_of_ble_eq_true rfl, Nat.le_of_ble_eq_true rfl⟩) (hM.1 0 _ rfl) rfl rfl hl.1 rfl (Nat.le_of_ble_eq_true rfl) dX12_looked_87 (by exact ⟨Nat.zero_le _, Nat.zero_le _⟩)) hS (fun u H locs hq hP hS => ?_)
          have hvN4 := inv_back hvN hfN hb (fun i hi9 => sIt_18 hμ _ i hi9) (by omega)
          have hrN4 : ∀ b i, ¬ (b = 1 ∧ i < 18) → ¬ (b = 0 ∧ i = 17) → u b i = N b i := fun b i h1 h2 => by rw [hq]; exact back_r h1 h2
          rw [← hq] at hvN4
          clear hq
          generalize u = N4 at hP hvN4 hrN4
          have hP : gP D cy B z T (gI o 12 N4 I0) R H := hP
          refine lv_iload_n X.1 X.2.1 dX12_looked_90 rfl (lv_at hl 3 rfl) ?_
          exact g_iret N4 X hr hlk hK hP hS dX12_looked_91 ⟨(by rw [hLK]; rfl), (fun b i h => by by_cases e1 : b = 1; (· subst e1; by_cases e2 : i < 18; (· rw [hvN4.1 i (by omega) (by omega), hσ i (by omega) (by omega)]); unfold qS at h; exact ((hrN4 1 i (by omega) (by omega)).trans (hkN 1 i (by unfold qS; omega)))); unfold qS at h; exact ((hrN4 b i (by omega) (by omega)).trans (hkN b i (by unfold qS; omega)))), (τk + 1), msk, by omega, by omega, hvN4.2.2.2⟩
        · have n40 : k < σ 40 := gq_nle c40 (Eq.refl (nI (σ 40))) (Eq.refl (nI k)) (by omega) (by omega)
          have hk9 : k < σ 40 := by omega
          refine lv_iload_n X.1 X.2.1 dX12_looked_43 rfl (lv_at hl 3 rfl) ?_
          refine lv_bipush (v := (-5)) X.1 X.2.1 dX12_looked_44 (by decide) ?_
          refine lv_icmp_ne (tgt := 85) X.1 X.2.1 dX12_looked_46 (by decide) (fun c46 => ?_) (fun c46 => ?_)
          · refine lv_aload_n X.1 X.2.1 dX12_looked_85 rfl (lv_at hl 0 rfl) ?_
            refine lv_iconst (v := 0) X.1 X.2.1 dX12_looked_86 (by decide) ?_
            refine g_run_v (g_runV (k := 14) [.int 0] X hK hP hS hC hB (c_back hM N (f := 0) (by decide)) (cwV 1 X.2.2.2.2 gX12_looked_X12_goesBackTo rfl rfl rfl (by decide +kernel) ⟨Nat.le_of_ble_eq_true rfl, Nat.le_of_ble_eq_true rfl⟩) (hM.1 0 _ rfl) rfl rfl hl.1 rfl (Nat.le_of_ble_eq_true rfl) dX12_looked_87 (by exact ⟨Nat.zero_le _, Nat.zero_le _⟩)) hS (fun u H locs hq hP hS => ?_)
            have hvN5 := inv_back hvN hfN hb (fun i hi9 => sIt_18 hμ _ i hi9) (by omega)
            have hrN5 : ∀ b i, ¬ (b = 1 ∧ i < 18) → ¬ (b = 0 ∧ i = 17) → u b i = N b i := fun b i h1 h2 => by rw [hq]; exact back_r h1 h2
            rw [← hq] at hvN5
            clear hq
            generalize u = N5 at hP hvN5 hrN5
            have hP : gP D cy B z T (gI o 12 N5 I0) R H := hP
            refine lv_iload_n X.1 X.2.1 dX12_looked_90 rfl (lv_at hl 3 rfl) ?_
            exact g_iret N5 X hr hlk hK hP hS dX12_looked_91 ⟨(by rw [hLK]; rfl), (fun b i h => by by_cases e1 : b = 1; (· subst e1; by_cases e2 : i < 18; (· rw [hvN5.1 i (by omega) (by omega), hσ i (by omega) (by omega)]); unfold qS at h; exact ((hrN5 1 i (by omega) (by omega)).trans (hkN 1 i (by unfold qS; omega)))); unfold qS at h; exact ((hrN5 b i (by omega) (by omega)).trans (hkN b i (by unfold qS; omega)))), (τk + 1), msk, by omega, by omega, hvN5.2.2.2⟩
          · exact absurd c46 (gn_m5 (by omega))
    · exact absurd (g_le (a := 1) (b := 20) (x := 1) (y := 20) rfl rfl (by omega) (by omega) (by omega)) (gt_0 c14)
  · exact absurd (g_man hi hμn) (gt_0 c5)

set_option maxHeartbeats 4000000 in
set_option maxRecDepth 100000 in
/-- c_book_e -/
theorem c_book_e (hM : gMod o T R) (hi : mInv M σ fl ti sh K τ ms)  : Met l yX12_book wsX12_book ({ frames := 0, cells := 0, slots := 0, locals := 0 }) (mPre s0 D cy B o z T R I0 M [.int (-1)]) (mQi D cy B o z T R I0 (fun r u => r = 0 ∧ u = g2 M 1 40 0)) 0 0 (gA B) := by
  refine g_met (maxL := 2) (ret := (some .int)) (by decide) rfl (Nat.le_of_ble_eq_true rfl) (fun p e s m args below meth c ls X hr hlk hnm hK hP hC hS hl => ?_)
  have hl : lv_has ls 2 [(0, .ref o), (1, .int (-1))] := hl
  have hP : gP D cy B z T (gI o 12 M I0) R s.heap := hP
  have hB : B ≤ s.heap.size := by rw [hP.1]; exact hP.2.1
  have hin : ∀ w ∈ wsX120, w ∈ wsX12_book := fun _ h => List.mem_cons_of_mem _ (List.mem_append_right _ h)
  have k9 : Cond.fieldLink RX12 9 "BarrowPlankModel" "s" "[I" ∈ wsX12_book := by decide +kernel
  have hσ := hi.1
  have hs := hi.2.1
  have hb := hi.2.2.1
  have hca := hi.2.2.2
  refine lv_iload_n X.1 X.2.1 dX12_book_0 rfl (lv_at hl 1 rfl) ?_
  refine lv_iconst (v := (-1)) X.1 X.2.1 dX12_book_1 (by decide) ?_
  refine lv_icmp_ne (tgt := 15) X.1 X.2.1 dX12_book_2 (by decide) (fun c2 => ?_) (fun c2 => ?_)
  · exact absurd rfl c2
  · refine lv_aload_n X.1 X.2.1 dX12_book_5 rfl (lv_at hl 0 rfl) ?_
    refine m_getr 1 1 X hK hP hM hin rfl (by decide) k9 rfl dX12_book_6 (by decide) ?_
    refine lv_bipush (v := 40) X.1 X.2.1 dX12_book_9 (by decide) ?_
    refine lv_iconst (v := 0) X.1 X.2.1 dX12_book_11 (by decide) ?_
    refine m_ast 1 40 883 X hK hP hS hM rfl (gIx_of (show (40 : Int32) = nI 40 from rfl) (by omega) (by omega)) dX12_book_12 (fun H locs hP hS => ?_)
    generalize eM1 : g2 M 1 40 0 = M1 at hP
    refine lv_iconst (v := 0) X.1 X.2.1 dX12_book_13 (by decide) ?_
    exact g_iret M1 X hr hlk hK hP hS dX12_book_14 ⟨rfl, (by rw [← eM1])⟩

set_option maxHeartbeats 4000000 in
set_option maxRecDepth 100000 in
/-- c_book_b -/
theorem c_book_b (hM : gMod o T R) (hi : mInv M σ fl ti sh K τ ms) {n : Int32} (h1 : ¬ n = -1) (hbad : ¬ (0 ≤ n ∧ n ≤ 9999)) : Met l yX12_book wsX12_book ({ frames := 1, cells := 0, slots := 0, locals := 22 }) (mPre s0 D cy B o z T R I0 M [.int n]) (mQi D cy B o z T R I0 (fun r u => r = -2 ∧ M = u)) 0 0 (gA B) := by
  refine g_met (maxL := 2) (ret := (some .int)) (by decide) rfl (Nat.le_of_ble_eq_true rfl) (fun p e s m args below meth c ls X hr hlk hnm hK hP hC hS hl => ?_)
  have hl : lv_has ls 2 [(0, .ref o), (1, .int n)] := hl
  have hP : gP D cy B z T (gI o 12 M I0) R s.heap := hP
  have hB : B ≤ s.heap.size := by rw [hP.1]; exact hP.2.1
  have hin : ∀ w ∈ wsX120, w ∈ wsX12_book := fun _ h => List.mem_cons_of_mem _ (List.mem_append_right _ h)
  have k9 : Cond.fieldLink RX12 9 "BarrowPlankModel" "s" "[I" ∈ wsX12_book := by decide +kernel
  have hσ := hi.1
  have hs := hi.2.1
  have hb := hi.2.2.1
  have hca := hi.2.2.2
  refine lv_iload_n X.1 X.2.1 dX12_book_0 rfl (lv_at hl 1 rfl) ?_
  refine lv_iconst (v := (-1)) X.1 X.2.1 dX12_book_1 (by decide) ?_
  refine lv_icmp_ne (tgt := 15) X.1 X.2.1 dX12_book_2 (by decide) (fun c2 => ?_) (fun c2 => ?_)
  · refine lv_iload_n X.1 X.2.1 dX12_book_15 rfl (lv_at hl 1 rfl) ?_
    refine lv_iconst (v := 0) X.1 X.2.1 dX12_book_16 (by decide) ?_
    refine lv_sipush (v := 9999) X.1 X.2.1 dX12_book_17 (by decide) ?_
    refine g_run_i (g_runS [.int n, .int 0, .int 9999] X hK hP hS hC hB (c_in _ n 0 9999) (va_cwS 3 X.2.2.2.2 gX12_book_X12_in rfl rfl rfl (by decide +kernel) ⟨Nat.le_of_ble_eq_true rfl, Nat.le_of_ble_eq_true rfl⟩) rfl hl.1 rfl (Nat.le_of_ble_eq_true rfl) dX12_book_20 (by exact ⟨Nat.zero_le _, Nat.zero_le _⟩)) hS (fun r u H locs hq hP hS => ?_)
    obtain ⟨rfl, rfl⟩ := hq
    have hP : gP D cy B z T (gI o 12 M I0) R H := hP
    refine lv_if_ne (tgt := 29) X.1 X.2.1 dX12_book_23 (by decide) (fun c23 => ?_) (fun c23 => ?_)
    · exact absurd (gt_1 c23) hbad
    · refine lv_bipush (v := (-2)) X.1 X.2.1 dX12_book_26 (by decide) ?_
      exact g_iret M X hr hlk hK hP hS dX12_book_28 ⟨rfl, rfl⟩
  · exact absurd c2 h1

set_option maxHeartbeats 4000000 in
set_option maxRecDepth 100000 in
/-- c_book_f -/
theorem c_book_f (hM : gMod o T R) (hi : mInv M σ fl ti sh K τ ms) {n : Nat} (hn : n ≤ 9999) (h12 : σ 40 = 12) : Met l yX12_book wsX12_book ({ frames := 1, cells := 0, slots := 0, locals := 22 }) (mPre s0 D cy B o z T R I0 M [.int (nI n)]) (mQi D cy B o z T R I0 (fun r u => r = -4 ∧ M = u)) 0 0 (gA B) := by
  refine g_met (maxL := 2) (ret := (some .int)) (by decide) rfl (Nat.le_of_ble_eq_true rfl) (fun p e s m args below meth c ls X hr hlk hnm hK hP hC hS hl => ?_)
  have hl : lv_has ls 2 [(0, .ref o), (1, .int (nI n))] := hl
  have hP : gP D cy B z T (gI o 12 M I0) R s.heap := hP
  have hB : B ≤ s.heap.size := by rw [hP.1]; exact hP.2.1
  have hin : ∀ w ∈ wsX120, w ∈ wsX12_book := fun _ h => List.mem_cons_of_mem _ (List.mem_append_right _ h)
  have k9 : Cond.fieldLink RX12 9 "BarrowPlankModel" "s" "[I" ∈ wsX12_book := by decide +kernel
  have hσ := hi.1
  have hs := hi.2.1
  have hb := hi.2.2.1
  have hca := hi.2.2.2
  refine lv_iload_n X.1 X.2.1 dX12_book_0 rfl (lv_at hl 1 rfl) ?_
  refine lv_iconst (v := (-1)) X.1 X.2.1 dX12_book_1 (by decide) ?_
  refine lv_icmp_ne (tgt := 15) X.1 X.2.1 dX12_book_2 (by decide) (fun c2 => ?_) (fun c2 => ?_)
  · refine lv_iload_n X.1 X.2.1 dX12_book_15 rfl (lv_at hl 1 rfl) ?_
    refine lv_iconst (v := 0) X.1 X.2.1 dX12_book_16 (by decide) ?_
    refine lv_sipush (v := 9999) X.1 X.2.1 dX12_book_17 (by decide) ?_
    refine g_run_i (g_runS [.int (nI n), .int 0, .int 9999] X hK hP hS hC hB (c_in _ (nI n) 0 9999) (va_cwS 3 X.2.2.2.2 gX12_book_X12_in rfl rfl rfl (by decide +kernel) ⟨Nat.le_of_ble_eq_true rfl, Nat.le_of_ble_eq_true rfl⟩) rfl hl.1 rfl (Nat.le_of_ble_eq_true rfl) dX12_book_20 (by exact ⟨Nat.zero_le _, Nat.zero_le _⟩)) hS (fun r u H locs hq hP hS => ?_)
    obtain ⟨rfl, rfl⟩ := hq
    have hP : gP D cy B z T (gI o 12 M I0) R H := hP
    refine lv_if_ne (tgt := 29) X.1 X.2.1 dX12_book_23 (by decide) (fun c23 => ?_) (fun c23 => ?_)
    · refine lv_aload_n X.1 X.2.1 dX12_book_29 rfl (lv_at hl 0 rfl) ?_
      refine m_getr 1 1 X hK hP hM hin rfl (by decide) k9 rfl dX12_book_30 (by decide) ?_
      refine lv_bipush (v := 40) X.1 X.2.1 dX12_book_33 (by decide) ?_
      refine m_ald 1 40 883 X hK hP hM rfl (gIx_of (show (40 : Int32) = nI 40 from rfl) (by omega) (by omega)) dX12_book_35 (show M 1 40 = nI (σ 40) from (hσ 40 (by omega) (by omega))) ?_
      refine lv_bipush (v := 12) X.1 X.2.1 dX12_book_36 (by decide) ?_
      refine lv_icmp_ne (tgt := 44) X.1 X.2.1 dX12_book_38 (by decide) (fun c38 => ?_) (fun c38 => ?_)
      · exact absurd (by rw [h12]; rfl) c38
      · have n38 : σ 40 = 12 := gq_eq c38 (Eq.refl (nI (σ 40))) (show (12 : Int32) = nI 12 from rfl) (by omega) (by omega)
        refine lv_bipush (v := (-4)) X.1 X.2.1 dX12_book_41 (by decide) ?_
        exact g_iret M X hr hlk hK hP hS dX12_book_43 ⟨rfl, rfl⟩
    · exact absurd (g_le (a := 0) (b := 9999) (x := 0) (y := 9999) rfl rfl (by omega) (by omega) (by omega)) (gt_0 c23)
  · exact absurd c2 (gn_m1 (by omega))

theorem mS_at (hi : mInv M σ fl ti sh K τ ms) {i n : Nat} (h1 : i < 168) (h2 : i ≠ 42) (h : σ i = n) : M 1 i = nI n := by rw [hi.1 i h1 h2, h]
set_option maxHeartbeats 4000000 in
set_option maxRecDepth 100000 in
/-- c_book -/
theorem c_book (hM : gMod o T R) (hi : mInv M σ fl ti sh K τ ms) {n : Nat} (hn : n ≤ 9999) {j : Nat} (hj : σ 40 = j) (hj12 : j < 12) : Met l yX12_book wsX12_book ({ frames := 1, cells := 0, slots := 0, locals := 22 }) (mPre s0 D cy B o z T R I0 M [.int (nI n)]) (mQi D cy B o z T R I0 (fun r u => r = nI j + 1 ∧ u = g2 (g2 M 1 (56 + j) (nI n)) 1 40 (nI j + 1))) 0 0 (gA B) := by
  refine g_met (maxL := 2) (ret := (some .int)) (by decide) rfl (Nat.le_of_ble_eq_true rfl) (fun p e s m args below meth c ls X hr hlk hnm hK hP hC hS hl => ?_)
  have hl : lv_has ls 2 [(0, .ref o), (1, .int (nI n))] := hl
  have hP : gP D cy B z T (gI o 12 M I0) R s.heap := hP
  have hB : B ≤ s.heap.size := by rw [hP.1]; exact hP.2.1
  have hin : ∀ w ∈ wsX120, w ∈ wsX12_book := fun _ h => List.mem_cons_of_mem _ (List.mem_append_right _ h)
  have k9 : Cond.fieldLink RX12 9 "BarrowPlankModel" "s" "[I" ∈ wsX12_book := by decide +kernel
  have hσ := hi.1
  have hs := hi.2.1
  have hb := hi.2.2.1
  have hca := hi.2.2.2
  refine lv_iload_n X.1 X.2.1 dX12_book_0 rfl (lv_at hl 1 rfl) ?_
  refine lv_iconst (v := (-1)) X.1 X.2.1 dX12_book_1 (by decide) ?_
  refine lv_icmp_ne (tgt := 15) X.1 X.2.1 dX12_book_2 (by decide) (fun c2 => ?_) (fun c2 => ?_)
  · refine lv_iload_n X.1 X.2.1 dX12_book_15 rfl (lv_at hl 1 rfl) ?_
    refine lv_iconst (v := 0) X.1 X.2.1 dX12_book_16 (by decide) ?_
    refine lv_sipush (v := 9999) X.1 X.2.1 dX12_book_17 (by decide) ?_
    refine g_run_i (g_runS [.int (nI n), .int 0, .int 9999] X hK hP hS hC hB (c_in _ (nI n) 0 9999) (va_cwS 3 X.2.2.2.2 gX12_book_X12_in rfl rfl rfl (by decide +kernel) ⟨Nat.le_of_ble_eq_true rfl, Nat.le_of_ble_eq_true rfl⟩) rfl hl.1 rfl (Nat.le_of_ble_eq_true rfl) dX12_book_20 (by exact ⟨Nat.zero_le _, Nat.zero_le _⟩)) hS (fun r u H locs hq hP hS => ?_)
    obtain ⟨rfl, rfl⟩ := hq
    have hP : gP D cy B z T (gI o 12 M I0) R H := hP
    refine lv_if_ne (tgt := 29) X.1 X.2.1 dX12_book_23 (by decide) (fun c23 => ?_) (fun c23 => ?_)
    · refine lv_aload_n X.1 X.2.1 dX12_book_29 rfl (lv_at hl 0 rfl) ?_
      refine m_getr 1 1 X hK hP hM hin rfl (by decide) k9 rfl dX12_book_30 (by decide) ?_
      refine lv_bipush (v := 40) X.1 X.2.1 dX12_book_33 (by decide) ?_
      refine m_ald 1 40 883 X hK hP hM rfl (gIx_of (show (40 : Int32) = nI 40 from rfl) (by omega) (by omega)) dX12_book_35 (show M 1 40 = nI j from (mS_at hi (by decide) (by decide) hj)) ?_
      refine lv_bipush (v := 12) X.1 X.2.1 dX12_book_36 (by decide) ?_
      refine lv_icmp_ne (tgt := 44) X.1 X.2.1 dX12_book_38 (by decide) (fun c38 => ?_) (fun c38 => ?_)
      · have n38 : ¬ j = 12 := gq_ne c38 (Eq.refl (nI j)) (show (12 : Int32) = nI 12 from rfl) (by omega) (by omega)
        refine lv_aload_n X.1 X.2.1 dX12_book_44 rfl (lv_at hl 0 rfl) ?_
        refine m_getr 1 1 X hK hP hM hin rfl (by decide) k9 rfl dX12_book_45 (by decide) ?_
        refine lv_bipush (v := 56) X.1 X.2.1 dX12_book_48 (by decide) ?_
        refine lv_aload_n X.1 X.2.1 dX12_book_50 rfl (lv_at hl 0 rfl) ?_
        refine m_getr 1 1 X hK hP hM hin rfl (by decide) k9 rfl dX12_book_51 (by decide) ?_
        refine lv_bipush (v := 40) X.1 X.2.1 dX12_book_54 (by decide) ?_
        refine m_ald 1 40 883 X hK hP hM rfl (gIx_of (show (40 : Int32) = nI 40 from rfl) (by omega) (by omega)) dX12_book_56 (show M 1 40 = nI j from (mS_at hi (by decide) (by decide) hj)) ?_
        refine lv_iadd X.1 X.2.1 dX12_book_57 ?_
        refine lv_iload_n X.1 X.2.1 dX12_book_58 rfl (lv_at hl 1 rfl) ?_
        refine m_ast 1 (56 + j) 883 X hK hP hS hM rfl (gIx_of (gn_add (show (56 : Int32) = nI 56 from rfl) (Eq.refl (nI j))) (by omega) (by omega)) dX12_book_59 (fun H locs hP hS => ?_)
        generalize eM1 : g2 M 1 (56 + j) (nI n) = M1 at hP
        refine lv_aload_n X.1 X.2.1 dX12_book_60 rfl (lv_at hl 0 rfl) ?_
        refine m_getr 1 1 X hK hP hM hin rfl (by decide) k9 rfl dX12_book_61 (by decide) ?_
        refine lv_bipush (v := 40) X.1 X.2.1 dX12_book_64 (by decide) ?_
        refine lv_dup2_11 X.1 X.2.1 dX12_book_66 rfl rfl ?_
        refine m_ald 1 40 883 X hK hP hM rfl (gIx_of (show (40 : Int32) = nI 40 from rfl) (by omega) (by omega)) dX12_book_67 (show M1 1 40 = nI j from (gs_ne eM1 (by omega) (mS_at hi (by decide) (by decide) hj))) ?_
        refine lv_iconst (v := 1) X.1 X.2.1 dX12_book_68 (by decide) ?_
        refine lv_iadd X.1 X.2.1 dX12_book_69 ?_
        refine m_ast 1 40 883 X hK hP hS hM rfl (gIx_of (show (40 : Int32) = nI 40 from rfl) (by omega) (by omega)) dX12_book_70 (fun H locs hP hS => ?_)
        generalize eM2 : g2 M1 1 40 ((nI j) + 1) = M2 at hP
        refine lv_aload_n X.1 X.2.1 dX12_book_71 rfl (lv_at hl 0 rfl) ?_
        refine m_getr 1 1 X hK hP hM hin rfl (by decide) k9 rfl dX12_book_72 (by decide) ?_
        refine lv_bipush (v := 40) X.1 X.2.1 dX12_book_75 (by decide) ?_
        refine m_ald 1 40 883 X hK hP hM rfl (gIx_of (show (40 : Int32) = nI 40 from rfl) (by omega) (by omega)) dX12_book_77 (show M2 1 40 = (nI j) + 1 from (gs_same eM2)) ?_
        exact g_iret M2 X hr hlk hK hP hS dX12_book_78 ⟨rfl, (by rw [← eM2, ← eM1])⟩
      · exact absurd (gq_eq c38 (Eq.refl (nI j)) (show (12 : Int32) = nI 12 from rfl) (by omega) (by omega)) (by omega)
    · exact absurd (g_le (a := 0) (b := 9999) (x := 0) (y := 9999) rfl rfl (by omega) (by omega) (by omega)) (gt_0 c23)
  · exact absurd c2 (gn_m1 (by omega))

set_option maxHeartbeats 4000000 in
set_option maxRecDepth 100000 in
/-- c_count_0 -/
theorem c_count_0 (hM : gMod o T R) (hi : mInv M σ fl ti sh K τ ms)  : Met l yX12_count wsX12_count ({ frames := 0, cells := 0, slots := 0, locals := 0 }) (mPre s0 D cy B o z T R I0 M [.int 0]) (mQi D cy B o z T R I0 (fun r u => r = nI (σ 38) ∧ M = u)) 0 0 (gA B) := by
  refine g_met (maxL := 2) (ret := (some .int)) (by decide) rfl (Nat.le_of_ble_eq_true rfl) (fun p e s m args below meth c ls X hr hlk hnm hK hP hC hS hl => ?_)
  have hl : lv_has ls 2 [(0, .ref o), (1, .int 0)] := hl
  have hP : gP D cy B z T (gI o 12 M I0) R s.heap := hP
  have hB : B ≤ s.heap.size := by rw [hP.1]; exact hP.2.1
  have hin : ∀ w ∈ wsX120, w ∈ wsX12_count := fun _ h => List.mem_cons_of_mem _ (List.mem_append_right _ h)
  have k9 : Cond.fieldLink RX12 9 "BarrowPlankModel" "s" "[I" ∈ wsX12_count := by decide +kernel
  have k249 : Cond.fieldLink RX12 249 "BarrowPlankModel" "ran" "I" ∈ wsX12_count := by decide +kernel
  have hσ := hi.1
  have hs := hi.2.1
  have hb := hi.2.2.1
  have hca := hi.2.2.2
  refine lv_iload_n X.1 X.2.1 dX12_count_0 rfl (lv_at hl 1 rfl) ?_
  refine lv_tableIn (off := 35) (tgt := 36) X.1 X.2.1 dX12_count_1 (by decide) (by decide) (by decide) (by decide) ?_
  refine lv_aload_n X.1 X.2.1 dX12_count_36 rfl (lv_at hl 0 rfl) ?_
  refine m_getr 1 1 X hK hP hM hin rfl (by decide) k9 rfl dX12_count_37 (by decide) ?_
  refine lv_bipush (v := 38) X.1 X.2.1 dX12_count_40 (by decide) ?_
  refine m_ald 1 38 883 X hK hP hM rfl (gIx_of (show (38 : Int32) = nI 38 from rfl) (by omega) (by omega)) dX12_count_42 (show M 1 38 = nI (σ 38) from (hσ 38 (by omega) (by omega))) ?_
  exact g_iret M X hr hlk hK hP hS dX12_count_43 ⟨rfl, rfl⟩

set_option maxHeartbeats 4000000 in
set_option maxRecDepth 100000 in
/-- c_count_1 -/
theorem c_count_1 (hM : gMod o T R) (hi : mInv M σ fl ti sh K τ ms)  : Met l yX12_count wsX12_count ({ frames := 0, cells := 0, slots := 0, locals := 0 }) (mPre s0 D cy B o z T R I0 M [.int 1]) (mQi D cy B o z T R I0 (fun r u => r = nI (σ 39) ∧ M = u)) 0 0 (gA B) := by
  refine g_met (maxL := 2) (ret := (some .int)) (by decide) rfl (Nat.le_of_ble_eq_true rfl) (fun p e s m args below meth c ls X hr hlk hnm hK hP hC hS hl => ?_)
  have hl : lv_has ls 2 [(0, .ref o), (1, .int 1)] := hl
  have hP : gP D cy B z T (gI o 12 M I0) R s.heap := hP
  have hB : B ≤ s.heap.size := by rw [hP.1]; exact hP.2.1
  have hin : ∀ w ∈ wsX120, w ∈ wsX12_count := fun _ h => List.mem_cons_of_mem _ (List.mem_append_right _ h)
  have k9 : Cond.fieldLink RX12 9 "BarrowPlankModel" "s" "[I" ∈ wsX12_count := by decide +kernel
  have k249 : Cond.fieldLink RX12 249 "BarrowPlankModel" "ran" "I" ∈ wsX12_count := by decide +kernel
  have hσ := hi.1
  have hs := hi.2.1
  have hb := hi.2.2.1
  have hca := hi.2.2.2
  refine lv_iload_n X.1 X.2.1 dX12_count_0 rfl (lv_at hl 1 rfl) ?_
  refine lv_tableIn (off := 43) (tgt := 44) X.1 X.2.1 dX12_count_1 (by decide) (by decide) (by decide) (by decide) ?_
  refine lv_aload_n X.1 X.2.1 dX12_count_44 rfl (lv_at hl 0 rfl) ?_
  refine m_getr 1 1 X hK hP hM hin rfl (by decide) k9 rfl dX12_count_45 (by decide) ?_
  refine lv_bipush (v := 39) X.1 X.2.1 dX12_count_48 (by decide) ?_
  refine m_ald 1 39 883 X hK hP hM rfl (gIx_of (show (39 : Int32) = nI 39 from rfl) (by omega) (by omega)) dX12_count_50 (show M 1 39 = nI (σ 39) from (hσ 39 (by omega) (by omega))) ?_
  exact g_iret M X hr hlk hK hP hS dX12_count_51 ⟨rfl, rfl⟩

set_option maxHeartbeats 4000000 in
set_option maxRecDepth 100000 in
/-- c_count_2 -/
theorem c_count_2 (hM : gMod o T R) (hi : mInv M σ fl ti sh K τ ms)  : Met l yX12_count wsX12_count ({ frames := 0, cells := 0, slots := 0, locals := 0 }) (mPre s0 D cy B o z T R I0 M [.int 2]) (mQi D cy B o z T R I0 (fun r u => r = nI (σ 40) ∧ M = u)) 0 0 (gA B) := by
  refine g_met (maxL := 2) (ret := (some .int)) (by decide) rfl (Nat.le_of_ble_eq_true rfl) (fun p e s m args below meth c ls X hr hlk hnm hK hP hC hS hl => ?_)
  have hl : lv_has ls 2 [(0, .ref o), (1, .int 2)] := hl
  have hP : gP D cy B z T (gI o 12 M I0) R s.heap := hP
  have hB : B ≤ s.heap.size := by rw [hP.1]; exact hP.2.1
  have hin : ∀ w ∈ wsX120, w ∈ wsX12_count := fun _ h => List.mem_cons_of_mem _ (List.mem_append_right _ h)
  have k9 : Cond.fieldLink RX12 9 "BarrowPlankModel" "s" "[I" ∈ wsX12_count := by decide +kernel
  have k249 : Cond.fieldLink RX12 249 "BarrowPlankModel" "ran" "I" ∈ wsX12_count := by decide +kernel
  have hσ := hi.1
  have hs := hi.2.1
  have hb := hi.2.2.1
  have hca := hi.2.2.2
  refine lv_iload_n X.1 X.2.1 dX12_count_0 rfl (lv_at hl 1 rfl) ?_
  refine lv_tableIn (off := 51) (tgt := 52) X.1 X.2.1 dX12_count_1 (by decide) (by decide) (by decide) (by decide) ?_
  refine lv_aload_n X.1 X.2.1 dX12_count_52 rfl (lv_at hl 0 rfl) ?_
  refine m_getr 1 1 X hK hP hM hin rfl (by decide) k9 rfl dX12_count_53 (by decide) ?_
  refine lv_bipush (v := 40) X.1 X.2.1 dX12_count_56 (by decide) ?_
  refine m_ald 1 40 883 X hK hP hM rfl (gIx_of (show (40 : Int32) = nI 40 from rfl) (by omega) (by omega)) dX12_count_58 (show M 1 40 = nI (σ 40) from (hσ 40 (by omega) (by omega))) ?_
  exact g_iret M X hr hlk hK hP hS dX12_count_59 ⟨rfl, rfl⟩

set_option maxHeartbeats 4000000 in
set_option maxRecDepth 100000 in
/-- c_count_3 -/
theorem c_count_3 (hM : gMod o T R) (hi : mInv M σ fl ti sh K τ ms)  : Met l yX12_count wsX12_count ({ frames := 0, cells := 0, slots := 0, locals := 0 }) (mPre s0 D cy B o z T R I0 M [.int 3]) (mQi D cy B o z T R I0 (fun r u => r = nI (σ 41) ∧ M = u)) 0 0 (gA B) := by
  refine g_met (maxL := 2) (ret := (some .int)) (by decide) rfl (Nat.le_of_ble_eq_true rfl) (fun p e s m args below meth c ls X hr hlk hnm hK hP hC hS hl => ?_)
  have hl : lv_has ls 2 [(0, .ref o), (1, .int 3)] := hl
  have hP : gP D cy B z T (gI o 12 M I0) R s.heap := hP
  have hB : B ≤ s.heap.size := by rw [hP.1]; exact hP.2.1
  have hin : ∀ w ∈ wsX120, w ∈ wsX12_count := fun _ h => List.mem_cons_of_mem _ (List.mem_append_right _ h)
  have k9 : Cond.fieldLink RX12 9 "BarrowPlankModel" "s" "[I" ∈ wsX12_count := by decide +kernel
  have k249 : Cond.fieldLink RX12 249 "BarrowPlankModel" "ran" "I" ∈ wsX12_count := by decide +kernel
  have hσ := hi.1
  have hs := hi.2.1
  have hb := hi.2.2.1
  have hca := hi.2.2.2
  refine lv_iload_n X.1 X.2.1 dX12_count_0 rfl (lv_at hl 1 rfl) ?_
  refine lv_tableIn (off := 59) (tgt := 60) X.1 X.2.1 dX12_count_1 (by decide) (by decide) (by decide) (by decide) ?_
  refine lv_aload_n X.1 X.2.1 dX12_count_60 rfl (lv_at hl 0 rfl) ?_
  refine m_getr 1 1 X hK hP hM hin rfl (by decide) k9 rfl dX12_count_61 (by decide) ?_
  refine lv_bipush (v := 41) X.1 X.2.1 dX12_count_64 (by decide) ?_
  refine m_ald 1 41 883 X hK hP hM rfl (gIx_of (show (41 : Int32) = nI 41 from rfl) (by omega) (by omega)) dX12_count_66 (show M 1 41 = nI (σ 41) from (hσ 41 (by omega) (by omega))) ?_
  exact g_iret M X hr hlk hK hP hS dX12_count_67 ⟨rfl, rfl⟩

set_option maxHeartbeats 4000000 in
set_option maxRecDepth 100000 in
/-- c_count_4 -/
theorem c_count_4 (hM : gMod o T R) (hi : mInv M σ fl ti sh K τ ms)  : Met l yX12_count wsX12_count ({ frames := 0, cells := 0, slots := 0, locals := 0 }) (mPre s0 D cy B o z T R I0 M [.int 4]) (mQi D cy B o z T R I0 (fun r u => r = M 0 26 ∧ M = u)) 0 0 (gA B) := by
  refine g_met (maxL := 2) (ret := (some .int)) (by decide) rfl (Nat.le_of_ble_eq_true rfl) (fun p e s m args below meth c ls X hr hlk hnm hK hP hC hS hl => ?_)
  have hl : lv_has ls 2 [(0, .ref o), (1, .int 4)] := hl
  have hP : gP D cy B z T (gI o 12 M I0) R s.heap := hP
  have hB : B ≤ s.heap.size := by rw [hP.1]; exact hP.2.1
  have hin : ∀ w ∈ wsX120, w ∈ wsX12_count := fun _ h => List.mem_cons_of_mem _ (List.mem_append_right _ h)
  have k9 : Cond.fieldLink RX12 9 "BarrowPlankModel" "s" "[I" ∈ wsX12_count := by decide +kernel
  have k249 : Cond.fieldLink RX12 249 "BarrowPlankModel" "ran" "I" ∈ wsX12_count := by decide +kernel
  have hσ := hi.1
  have hs := hi.2.1
  have hb := hi.2.2.1
  have hca := hi.2.2.2
  refine lv_iload_n X.1 X.2.1 dX12_count_0 rfl (lv_at hl 1 rfl) ?_
  refine lv_tableIn (off := 67) (tgt := 68) X.1 X.2.1 dX12_count_1 (by decide) (by decide) (by decide) (by decide) ?_
  refine lv_aload_n X.1 X.2.1 dX12_count_68 rfl (lv_at hl 0 rfl) ?_
  refine m_geti 26 X hK hP hM hin rfl (by decide) k249 rfl dX12_count_69 (show M 0 26 = M 0 26 from rfl) ?_
  exact g_iret M X hr hlk hK hP hS dX12_count_72 ⟨rfl, rfl⟩

set_option maxHeartbeats 4000000 in
set_option maxRecDepth 100000 in
/-- c_count_n -/
theorem c_count_n (hM : gMod o T R) (hi : mInv M σ fl ti sh K τ ms) {q : Int32} (hq : q.toInt < 0 ∨ 4 < q.toInt) : Met l yX12_count wsX12_count ({ frames := 0, cells := 0, slots := 0, locals := 0 }) (mPre s0 D cy B o z T R I0 M [.int q]) (mQi D cy B o z T R I0 (fun r u => r = -1 ∧ M = u)) 0 0 (gA B) := by
  refine g_met (maxL := 2) (ret := (some .int)) (by decide) rfl (Nat.le_of_ble_eq_true rfl) (fun p e s m args below meth c ls X hr hlk hnm hK hP hC hS hl => ?_)
  have hl : lv_has ls 2 [(0, .ref o), (1, .int q)] := hl
  have hP : gP D cy B z T (gI o 12 M I0) R s.heap := hP
  have hB : B ≤ s.heap.size := by rw [hP.1]; exact hP.2.1
  have hin : ∀ w ∈ wsX120, w ∈ wsX12_count := fun _ h => List.mem_cons_of_mem _ (List.mem_append_right _ h)
  have k9 : Cond.fieldLink RX12 9 "BarrowPlankModel" "s" "[I" ∈ wsX12_count := by decide +kernel
  have k249 : Cond.fieldLink RX12 249 "BarrowPlankModel" "ran" "I" ∈ wsX12_count := by decide +kernel
  have hσ := hi.1
  have hs := hi.2.1
  have hb := hi.2.2.1
  have hca := hi.2.2.2
  refine lv_iload_n X.1 X.2.1 dX12_count_0 rfl (lv_at hl 1 rfl) ?_
  refine lv_tableOut (tgt := 73) X.1 X.2.1 dX12_count_1 hq (by decide) ?_
  refine lv_iconst (v := (-1)) X.1 X.2.1 dX12_count_73 (by decide) ?_
  exact g_iret M X hr hlk hK hP hS dX12_count_74 ⟨rfl, rfl⟩

set_option maxHeartbeats 4000000 in
set_option maxRecDepth 100000 in
/-- c_trace_n -/
theorem c_trace_n (hM : gMod o T R) {q : Int32} {n : Nat} (hn : M 0 26 = nI n) (hn20 : n ≤ 20) (hbad : ¬ (0 ≤ q ∧ q ≤ nI n - 1)) : Met l yX12_trace wsX12_trace ({ frames := 1, cells := 0, slots := 0, locals := 22 }) (mPre s0 D cy B o z T R I0 M [.int q]) (mQi D cy B o z T R I0 (fun r u => r = -1 ∧ M = u)) 0 0 (gA B) := by
  refine g_met (maxL := 2) (ret := (some .int)) (by decide) rfl (Nat.le_of_ble_eq_true rfl) (fun p e s m args below meth c ls X hr hlk hnm hK hP hC hS hl => ?_)
  have hl : lv_has ls 2 [(0, .ref o), (1, .int q)] := hl
  have hP : gP D cy B z T (gI o 12 M I0) R s.heap := hP
  have hB : B ≤ s.heap.size := by rw [hP.1]; exact hP.2.1
  have hin : ∀ w ∈ wsX120, w ∈ wsX12_trace := fun _ h => List.mem_cons_of_mem _ (List.mem_append_right _ h)
  have k47 : Cond.fieldLink RX12 47 "BarrowPlankModel" "bodies" "[I" ∈ wsX12_trace := by decide +kernel
  have k249 : Cond.fieldLink RX12 249 "BarrowPlankModel" "ran" "I" ∈ wsX12_trace := by decide +kernel
  rcases Nat.lt_or_ge n 20 with h20 | h20
  · have hP : gP D cy B z T (gI o 12 M I0) R s.heap := hP
    refine lv_iload_n X.1 X.2.1 dX12_trace_0 rfl (lv_at hl 1 rfl) ?_
    refine lv_iconst (v := 0) X.1 X.2.1 dX12_trace_1 (by decide) ?_
    refine lv_aload_n X.1 X.2.1 dX12_trace_2 rfl (lv_at hl 0 rfl) ?_
    refine m_geti 26 X hK hP hM hin rfl (by decide) k249 rfl dX12_trace_3 (show M 0 26 = nI n from hn) ?_
    refine lv_bipush (v := 20) X.1 X.2.1 dX12_trace_6 (by decide) ?_
    refine lv_icmp_ge (tgt := 18) X.1 X.2.1 dX12_trace_8 (by decide) (fun c8 => ?_) (fun c8 => ?_)
    · exact absurd (gq_le c8 (show (20 : Int32) = nI 20 from rfl) (Eq.refl (nI n)) (by omega) (by omega)) (by omega)
    · have n8 : n < 20 := gq_nle c8 (show (20 : Int32) = nI 20 from rfl) (Eq.refl (nI n)) (by omega) (by omega)
      refine lv_aload_n X.1 X.2.1 dX12_trace_11 rfl (lv_at hl 0 rfl) ?_
      refine m_geti 26 X hK hP hM hin rfl (by decide) k249 rfl dX12_trace_12 (show M 0 26 = nI n from hn) ?_
      refine lv_goto (tgt := 20) X.1 X.2.1 dX12_trace_15 (by decide) ?_
      refine lv_iconst (v := 1) X.1 X.2.1 dX12_trace_20 (by decide) ?_
      refine lv_isub X.1 X.2.1 dX12_trace_21 ?_
      refine g_run_i (g_runS [.int q, .int 0, .int ((nI n) - 1)] X hK hP hS hC hB (c_in _ q 0 ((nI n) - 1)) (va_cwS 3 X.2.2.2.2 gX12_trace_X12_in rfl rfl rfl (by decide +kernel) ⟨Nat.le_of_ble_eq_true rfl, Nat.le_of_ble_eq_true rfl⟩) rfl hl.1 rfl (Nat.le_of_ble_eq_true rfl) dX12_trace_22 (by exact ⟨Nat.zero_le _, Nat.zero_le _⟩)) hS (fun r u H locs hq hP hS => ?_)
      obtain ⟨rfl, rfl⟩ := hq
      have hP : gP D cy B z T (gI o 12 M I0) R H := hP
      refine lv_if_eq (tgt := 37) X.1 X.2.1 dX12_trace_25 (by decide) (fun c25 => ?_) (fun c25 => ?_)
      · refine lv_iconst (v := (-1)) X.1 X.2.1 dX12_trace_37 (by decide) ?_
        exact g_iret M X hr hlk hK hP hS dX12_trace_38 ⟨rfl, rfl⟩
      · exact absurd (gt_1 c25) hbad
  · have hP : gP D cy B z T (gI o 12 M I0) R s.heap := hP
    obtain rfl : n = 20 := by omega
    refine lv_iload_n X.1 X.2.1 dX12_trace_0 rfl (lv_at hl 1 rfl) ?_
    refine lv_iconst (v := 0) X.1 X.2.1 dX12_trace_1 (by decide) ?_
    refine lv_aload_n X.1 X.2.1 dX12_trace_2 rfl (lv_at hl 0 rfl) ?_
    refine m_geti 26 X hK hP hM hin rfl (by decide) k249 rfl dX12_trace_3 (show M 0 26 = nI 20 from hn) ?_
    refine lv_bipush (v := 20) X.1 X.2.1 dX12_trace_6 (by decide) ?_
    refine lv_icmp_ge (tgt := 18) X.1 X.2.1 dX12_trace_8 (by decide) (fun c8 => ?_) (fun c8 => ?_)
    · have n8 : 20 ≤ 20 := gq_le c8 (show (20 : Int32) = nI 20 from rfl) (Eq.refl (nI 20)) (by omega) (by omega)
      refine lv_bipush (v := 20) X.1 X.2.1 dX12_trace_18 (by decide) ?_
      refine lv_iconst (v := 1) X.1 X.2.1 dX12_trace_20 (by decide) ?_
      refine lv_isub X.1 X.2.1 dX12_trace_21 ?_
      refine g_run_i (g_runS [.int q, .int 0, .int (20 - 1)] X hK hP hS hC hB (c_in _ q 0 (20 - 1)) (va_cwS 3 X.2.2.2.2 gX12_trace_X12_in rfl rfl rfl (by decide +kernel) ⟨Nat.le_of_ble_eq_true rfl, Nat.le_of_ble_eq_true rfl⟩) rfl hl.1 rfl (Nat.le_of_ble_eq_true rfl) dX12_trace_22 (by exact ⟨Nat.zero_le _, Nat.zero_le _⟩)) hS (fun r u H locs hq hP hS => ?_)
      obtain ⟨rfl, rfl⟩ := hq
      have hP : gP D cy B z T (gI o 12 M I0) R H := hP
      refine lv_if_eq (tgt := 37) X.1 X.2.1 dX12_trace_25 (by decide) (fun c25 => ?_) (fun c25 => ?_)
      · refine lv_iconst (v := (-1)) X.1 X.2.1 dX12_trace_37 (by decide) ?_
        exact g_iret M X hr hlk hK hP hS dX12_trace_38 ⟨rfl, rfl⟩
      · exact absurd (gt_1 c25) hbad
    · exact absurd (show (20 : Int32) ≤ nI 20 by decide) c8

set_option maxHeartbeats 4000000 in
set_option maxRecDepth 100000 in
/-- c_trace -/
theorem c_trace (hM : gMod o T R) {q n : Nat} (hn : M 0 26 = nI n) (hn20 : n ≤ 20) (hq : q < n) : Met l yX12_trace wsX12_trace ({ frames := 1, cells := 0, slots := 0, locals := 22 }) (mPre s0 D cy B o z T R I0 M [.int (nI q)]) (mQi D cy B o z T R I0 (fun r u => r = M 11 q ∧ M = u)) 0 0 (gA B) := by
  refine g_met (maxL := 2) (ret := (some .int)) (by decide) rfl (Nat.le_of_ble_eq_true rfl) (fun p e s m args below meth c ls X hr hlk hnm hK hP hC hS hl => ?_)
  have hl : lv_has ls 2 [(0, .ref o), (1, .int (nI q))] := hl
  have hP : gP D cy B z T (gI o 12 M I0) R s.heap := hP
  have hB : B ≤ s.heap.size := by rw [hP.1]; exact hP.2.1
  have hin : ∀ w ∈ wsX120, w ∈ wsX12_trace := fun _ h => List.mem_cons_of_mem _ (List.mem_append_right _ h)
  have k47 : Cond.fieldLink RX12 47 "BarrowPlankModel" "bodies" "[I" ∈ wsX12_trace := by decide +kernel
  have k249 : Cond.fieldLink RX12 249 "BarrowPlankModel" "ran" "I" ∈ wsX12_trace := by decide +kernel
  rcases Nat.lt_or_ge n 20 with h20 | h20
  · have hP : gP D cy B z T (gI o 12 M I0) R s.heap := hP
    refine lv_iload_n X.1 X.2.1 dX12_trace_0 rfl (lv_at hl 1 rfl) ?_
    refine lv_iconst (v := 0) X.1 X.2.1 dX12_trace_1 (by decide) ?_
    refine lv_aload_n X.1 X.2.1 dX12_trace_2 rfl (lv_at hl 0 rfl) ?_
    refine m_geti 26 X hK hP hM hin rfl (by decide) k249 rfl dX12_trace_3 (show M 0 26 = nI n from hn) ?_
    refine lv_bipush (v := 20) X.1 X.2.1 dX12_trace_6 (by decide) ?_
    refine lv_icmp_ge (tgt := 18) X.1 X.2.1 dX12_trace_8 (by decide) (fun c8 => ?_) (fun c8 => ?_)
    · exact absurd (gq_le c8 (show (20 : Int32) = nI 20 from rfl) (Eq.refl (nI n)) (by omega) (by omega)) (by omega)
    · have n8 : n < 20 := gq_nle c8 (show (20 : Int32) = nI 20 from rfl) (Eq.refl (nI n)) (by omega) (by omega)
      refine lv_aload_n X.1 X.2.1 dX12_trace_11 rfl (lv_at hl 0 rfl) ?_
      refine m_geti 26 X hK hP hM hin rfl (by decide) k249 rfl dX12_trace_12 (show M 0 26 = nI n from hn) ?_
      refine lv_goto (tgt := 20) X.1 X.2.1 dX12_trace_15 (by decide) ?_
      refine lv_iconst (v := 1) X.1 X.2.1 dX12_trace_20 (by decide) ?_
      refine lv_isub X.1 X.2.1 dX12_trace_21 ?_
      refine g_run_i (g_runS [.int (nI q), .int 0, .int ((nI n) - 1)] X hK hP hS hC hB (c_in _ (nI q) 0 ((nI n) - 1)) (va_cwS 3 X.2.2.2.2 gX12_trace_X12_in rfl rfl rfl (by decide +kernel) ⟨Nat.le_of_ble_eq_true rfl, Nat.le_of_ble_eq_true rfl⟩) rfl hl.1 rfl (Nat.le_of_ble_eq_true rfl) dX12_trace_22 (by exact ⟨Nat.zero_le _, Nat.zero_le _⟩)) hS (fun r u H locs hq hP hS => ?_)
      obtain ⟨rfl, rfl⟩ := hq
      have hP : gP D cy B z T (gI o 12 M I0) R H := hP
      refine lv_if_eq (tgt := 37) X.1 X.2.1 dX12_trace_25 (by decide) (fun c25 => ?_) (fun c25 => ?_)
      · exact absurd (gm_in (by omega) hq) (gt_0 c25)
      · refine lv_aload_n X.1 X.2.1 dX12_trace_28 rfl (lv_at hl 0 rfl) ?_
        refine m_getr 25 11 X hK hP hM hin rfl (by decide) k47 rfl dX12_trace_29 (by decide) ?_
        refine lv_iload_n X.1 X.2.1 dX12_trace_32 rfl (lv_at hl 1 rfl) ?_
        refine m_ald 11 q 20 X hK hP hM rfl (gIx_of (Eq.refl (nI q)) (by omega) (by omega)) dX12_trace_33 (show M 11 q = M 11 q from rfl) ?_
        refine lv_goto (tgt := 38) X.1 X.2.1 dX12_trace_34 (by decide) ?_
        exact g_iret M X hr hlk hK hP hS dX12_trace_38 ⟨rfl, rfl⟩
  · have hP : gP D cy B z T (gI o 12 M I0) R s.heap := hP
    obtain rfl : n = 20 := by omega
    refine lv_iload_n X.1 X.2.1 dX12_trace_0 rfl (lv_at hl 1 rfl) ?_
    refine lv_iconst (v := 0) X.1 X.2.1 dX12_trace_1 (by decide) ?_
    refine lv_aload_n X.1 X.2.1 dX12_trace_2 rfl (lv_at hl 0 rfl) ?_
    refine m_geti 26 X hK hP hM hin rfl (by decide) k249 rfl dX12_trace_3 (show M 0 26 = nI 20 from hn) ?_
    refine lv_bipush (v := 20) X.1 X.2.1 dX12_trace_6 (by decide) ?_
    refine lv_icmp_ge (tgt := 18) X.1 X.2.1 dX12_trace_8 (by decide) (fun c8 => ?_) (fun c8 => ?_)
    · have n8 : 20 ≤ 20 := gq_le c8 (show (20 : Int32) = nI 20 from rfl) (Eq.refl (nI 20)) (by omega) (by omega)
      refine lv_bipush (v := 20) X.1 X.2.1 dX12_trace_18 (by decide) ?_
      refine lv_iconst (v := 1) X.1 X.2.1 dX12_trace_20 (by decide) ?_
      refine lv_isub X.1 X.2.1 dX12_trace_21 ?_
      refine g_run_i (g_runS [.int (nI q), .int 0, .int (20 - 1)] X hK hP hS hC hB (c_in _ (nI q) 0 (20 - 1)) (va_cwS 3 X.2.2.2.2 gX12_trace_X12_in rfl rfl rfl (by decide +kernel) ⟨Nat.le_of_ble_eq_true rfl, Nat.le_of_ble_eq_true rfl⟩) rfl hl.1 rfl (Nat.le_of_ble_eq_true rfl) dX12_trace_22 (by exact ⟨Nat.zero_le _, Nat.zero_le _⟩)) hS (fun r u H locs hq hP hS => ?_)
      obtain ⟨rfl, rfl⟩ := hq
      have hP : gP D cy B z T (gI o 12 M I0) R H := hP
      refine lv_if_eq (tgt := 37) X.1 X.2.1 dX12_trace_25 (by decide) (fun c25 => ?_) (fun c25 => ?_)
      · exact absurd (gm_in (by omega) hq) (gt_0 c25)
      · refine lv_aload_n X.1 X.2.1 dX12_trace_28 rfl (lv_at hl 0 rfl) ?_
        refine m_getr 25 11 X hK hP hM hin rfl (by decide) k47 rfl dX12_trace_29 (by decide) ?_
        refine lv_iload_n X.1 X.2.1 dX12_trace_32 rfl (lv_at hl 1 rfl) ?_
        refine m_ald 11 q 20 X hK hP hM rfl (gIx_of (Eq.refl (nI q)) (by omega) (by omega)) dX12_trace_33 (show M 11 q = M 11 q from rfl) ?_
        refine lv_goto (tgt := 38) X.1 X.2.1 dX12_trace_34 (by decide) ?_
        exact g_iret M X hr hlk hK hP hS dX12_trace_38 ⟨rfl, rfl⟩
    · exact absurd (show (20 : Int32) ≤ nI 20 by decide) c8

end MQ9
