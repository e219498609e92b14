section MK
variable {l : Launch} {s0 : State} {D : va_G} {cy : Nat → ClassId} {B o z : Nat} {T : Nat → Nat × Nat} {R : Nat → Nat → Option Nat} {I0 : Nat → Nat → Int32} {M : Nat → Nat → Int32} {σ : Nat → Nat} {fl : List Nat} {ti sh K τ ms : Nat}
def sBy (fl : List Nat) (ti sh μ ld t : Nat) : Nat → (Nat → Nat) → Nat → (Nat → Nat)
  | 0, σ, _ => σ
  | n + 1, σ, tk => if t < tk + sSe fl sh σ μ ld then σ else sBy fl ti sh μ ld t n (sGo fl ti sh σ μ ld) (tk + sSe fl sh σ μ ld)
theorem sBy_18 {μ ld t : Nat} (hμ : μ < 4) : ∀ (n : Nat) (σ : Nat → Nat) (tk i : Nat), 18 ≤ i → sBy fl ti sh μ ld t n σ tk i = σ i
  | 0, _, _, _, _ => rfl
  | n + 1, σ, tk, i, hi => by
    unfold sBy
    split
    · rfl
    · rw [sBy_18 hμ n _ _ i hi, sGo_18 hμ hi]
theorem sBy_1 {μ ld t : Nat} : ∀ (n : Nat) (σ : Nat → Nat) (tk : Nat), σ 1 ≤ sBy fl ti sh μ ld t n σ tk 1
  | 0, _, _ => Nat.le_refl _
  | n + 1, σ, tk => by
    unfold sBy
    split
    · exact Nat.le_refl _
    · exact Nat.le_trans (by rw [sGo_1]; omega) (sBy_1 n _ _)
theorem sBd_le {K' : Nat} (h : sBd σ K) (hK : K ≤ K') : sBd σ K' := ⟨h.1, ⟨Nat.le_trans h.2.1.1 hK, Nat.le_trans h.2.1.2.1 hK, Nat.le_trans h.2.1.2.2 hK⟩, h.2.2⟩
theorem mInv_le {K' : Nat} (h : mInv M σ fl ti sh K τ ms) (hK : K ≤ K') : mInv M σ fl ti sh K' τ ms := ⟨h.1, h.2.1, sBd_le h.2.2.1 hK, h.2.2.2⟩
def bS (b i : Nat) : Prop := (b = 3 ∧ 18 ≤ i) ∨ (4 ≤ b ∧ b ≤ 8) ∨ (b = 0 ∧ (i = 12 ∨ i = 13 ∨ (17 ≤ i ∧ i ≤ 22))) ∨ (b = 1 ∧ i < 18)

set_option maxHeartbeats 4000000 in
set_option maxRecDepth 100000 in
/-- goesBy -/
theorem c_goesBy (hM : gMod o T R) (hi : mInv M σ fl ti sh K τ ms) {μ ld t : Nat} (hμ : μ < 4) (h38 : μ < σ 38) (hld : ld ≤ 20) (ht : t ≤ 9999) (hτ : τ + 7000 < 2 ^ 30) (hK : K < 470000000) : Met l yX12_goesBy wsX12_goesBy ({ frames := 5, cells := 0, slots := 0, locals := 125 }) (mPre s0 D cy B o z T R I0 M [.int (nI μ), .int (nI ld), .int (nI t)]) (mQi D cy B o z T R I0 (fun r u => r = nI ((sBy fl ti sh μ ld t 200 σ 0) 1 - σ 1) ∧ (∃ τ' ms', τ ≤ τ' ∧ τ' ≤ τ + 6500 ∧ mInv u (sBy fl ti sh μ ld t 200 σ 0) fl ti sh (K + 60000000) τ' ms') ∧ mSame bS M u)) 0 0 (gA B) := by
  refine g_met (maxL := 7) (ret := (some .int)) (by decide) rfl (Nat.le_of_ble_eq_true rfl) (fun p e s m args below meth c ls X hr hlk hnm hK hP hC hS hl => ?_)
  have hl : lv_has ls 7 [(0, .ref o), (1, .int (nI μ)), (2, .int (nI ld)), (3, .int (nI t))] := hl
  have hP : gP D cy B z T (gI o 12 M I0) R s.heap := hP
  have hB : B ≤ s.heap.size := by rw [hP.1]; exact hP.2.1
  have hin : ∀ w ∈ wsX120, w ∈ wsX12_goesBy := fun _ h => List.mem_cons_of_mem _ (List.mem_append_right _ h)
  have k187 : Cond.fieldLink RX12 187 "BarrowPlankModel" "seconds" "I" ∈ wsX12_goesBy := by decide +kernel
  have k197 : Cond.fieldLink RX12 197 "BarrowPlankModel" "brought" "I" ∈ wsX12_goesBy := by decide +kernel
  have hσ := hi.1
  have hs := hi.2.1
  have hb := hi.2.2.1
  have hca := hi.2.2.2
  refine lv_iconst (v := 0) X.1 X.2.1 dX12_goesBy_0 (by decide) ?_
  refine lv_istore (lv' := [(4, .int 0), (0, .ref o), (1, .int (nI μ)), (2, .int (nI ld)), (3, .int (nI t))]) X.1 X.2.1 dX12_goesBy_1 hl (by decide) rfl (fun ls hl => ?_)
  refine lv_iconst (v := 0) X.1 X.2.1 dX12_goesBy_3 (by decide) ?_
  refine lv_istore (lv' := [(5, .int 0), (4, .int 0), (0, .ref o), (1, .int (nI μ)), (2, .int (nI ld)), (3, .int (nI t))]) X.1 X.2.1 dX12_goesBy_4 hl (by decide) rfl (fun ls hl => ?_)
  refine lv_iconst (v := 0) X.1 X.2.1 dX12_goesBy_6 (by decide) ?_
  refine lv_istore (lv' := [(6, .int 0), (5, .int 0), (4, .int 0), (0, .ref o), (1, .int (nI μ)), (2, .int (nI ld)), (3, .int (nI t))]) X.1 X.2.1 dX12_goesBy_7 hl (by decide) rfl (fun ls hl => ?_)
  have h11 : σ 1 - σ 1 = 0 := by omega
  refine m_loop (M := M) 200 9 [] (fun k N ls => ∃ (σk : Nat → Nat) (tk τk msk : Nat), mInv N σk fl ti sh (K + 300000 * k) τk msk ∧ τ ≤ τk ∧ τk ≤ τ + 32 * k ∧ sBy fl ti sh μ ld t (200 - k) σk tk = sBy fl ti sh μ ld t 200 σ 0 ∧ (∀ i, 18 ≤ i → σk i = σ i) ∧ σ 1 ≤ σk 1 ∧ tk ≤ t ∧ mSame bS M N ∧ lv_has ls 7 [(0, .ref o), (1, .int (nI μ)), (2, .int (nI ld)), (3, .int (nI t)), (4, .int (nI (σk 1 - σ 1))), (5, .int (nI tk)), (6, .int (nI k))]) 0 (by omega) ⟨σ, 0, τ, ms, hi, by omega, by omega, rfl, fun _ _ => rfl, by omega, by omega, fun _ _ _ => rfl, by rw [h11]; exact lv_sub hl [3, 4, 5, 6, 2, 1, 0] rfl⟩ hP hS (fun k N H locs ls hk hiv hP hS ih => ?_)
  obtain ⟨σk, tk, τk, msk, hvN, hτ1, hτ2, hby, h18, h1m, htk, hbs, hl⟩ := hiv
  have hK1 := hvN.2.2.1.2.1.1
  refine lv_iload X.1 X.2.1 dX12_goesBy_9 (lv_at hl 6 rfl) ?_
  refine lv_sipush (v := 200) X.1 X.2.1 dX12_goesBy_11 (by decide) ?_
  refine lv_icmp_ge (tgt := 66) X.1 X.2.1 dX12_goesBy_14 (by decide) (fun c14 => ?_) (fun c14 => ?_)
  · have n14 : 200 ≤ k := gq_le c14 (show (200 : Int32) = nI 200 from rfl) (Eq.refl (nI k)) (by omega) (by omega)
    refine lv_iload X.1 X.2.1 dX12_goesBy_66 (lv_at hl 4 rfl) ?_
    obtain rfl : k = 200 := gk18 hk c14
    have hby : σk = (sBy fl ti sh μ ld t 200 σ 0) := hby
    exact g_iret N X hr hlk hK hP hS dX12_goesBy_68 ⟨by rw [← hby], ⟨τk, msk, by omega, by omega, by rw [← hby]; exact mInv_le hvN (by omega)⟩, hbs⟩
  · have n14 : k < 200 := gq_nle c14 (show (200 : Int32) = nI 200 from rfl) (Eq.refl (nI k)) (by omega) (by omega)
    have hk9 : k < 200 := gk_lt hk c14
    refine lv_aload_n X.1 X.2.1 dX12_goesBy_17 rfl (lv_at hl 0 rfl) ?_
    refine lv_iconst (v := 1) X.1 X.2.1 dX12_goesBy_18 (by decide) ?_
    refine g_run_v (g_runV (k := 14) [.int 1] X hK hP hS hC hB (c_keeps hM N (f := 1) (by decide)) (cwV 1 X.2.2.2.2 gX12_goesBy_X12_keeps rfl rfl rfl (by decide +kernel) ⟨Nat.le_of_ble_eq_true rfl, Nat.le_of_ble_eq_true rfl⟩) (hM.1 0 _ rfl) rfl rfl hl.1 rfl (Nat.le_of_ble_eq_true rfl) dX12_goesBy_19 (by exact ⟨Nat.zero_le _, Nat.zero_le _⟩)) hS (fun u H locs hq hP hS => ?_)
    have hq : mKeep N 1 18 = u := hq.symm
    have hvN1 := inv_keep hvN 1
    have hfN1 := fr_keep hvN.1 1
    have hrN1 : ∀ b i, b ≠ 3 → mKeep N 1 18 b i = N b i := fun b i h => mKeep_r _ _ _ _ _ h
    have hzN1 : ∀ i, i < 18 → mKeep N 1 18 3 i = N 3 i := fun i h => by unfold mKeep; rw [if_neg (by omega)]
    generalize mKeep N 1 18 = N1 at hq hP hvN1 hfN1 hrN1 hzN1
    subst hq
    have hP : gP D cy B z T (gI o 12 N1 I0) R H := hP
    refine lv_aload_n X.1 X.2.1 dX12_goesBy_22 rfl (lv_at hl 0 rfl) ?_
    refine lv_iload_n X.1 X.2.1 dX12_goesBy_23 rfl (lv_at hl 1 rfl) ?_
    refine lv_iload_n X.1 X.2.1 dX12_goesBy_24 rfl (lv_at hl 2 rfl) ?_
    refine g_run_v (g_runV (k := 14) [.int (nI μ), .int (nI ld)] X hK hP hS hC hB (c_goes hM hvN1.1 hvN1.2.1 hvN1.2.2.1 hμ (by first | exact h38 | omega | (rw [sIt_18 hμ _ _ (by omega)]; exact h38) | (rw [h18 38 (by omega)]; exact h38)) (by omega) hvN1.2.2.2 (by omega) (by omega)) (cwV 2 X.2.2.2.2 gX12_goesBy_X12_goes rfl rfl rfl (by decide +kernel) ⟨Nat.le_of_ble_eq_true rfl, Nat.le_of_ble_eq_true rfl⟩) (hM.1 0 _ rfl) rfl rfl hl.1 rfl (Nat.le_of_ble_eq_true rfl) dX12_goesBy_25 (by exact ⟨Nat.zero_le _, Nat.zero_le _⟩)) hS (fun u H locs hq hP hS => ?_)
    obtain ⟨h19N2, h20N2, h21N2, h22N2, hσN2, ⟨τN2, msN2, hτaN2, hτbN2, hcaN2⟩, hkN2⟩ := hq
    generalize u = N2 at hP h19N2 h20N2 h21N2 h22N2 hσN2 hcaN2 hkN2
    have hP : gP D cy B z T (gI o 12 N2 I0) R H := hP
    have hvN2 := inv_goes hvN1 hμ hσN2 hcaN2 hkN2
    have hfr1N2 := gS_fr hfN1 hkN2
    have hse := sSe_le hvN.2.1 hvN.2.2.1 hμ ld
    refine lv_iload X.1 X.2.1 dX12_goesBy_28 (lv_at hl 5 rfl) ?_
    refine lv_aload_n X.1 X.2.1 dX12_goesBy_30 rfl (lv_at hl 0 rfl) ?_
    refine m_geti 21 X hK hP hM hin rfl (by decide) k187 rfl dX12_goesBy_31 (show N2 0 21 = nI (sSe fl sh σk μ ld) from h21N2) ?_
    refine lv_iadd X.1 X.2.1 dX12_goesBy_34 ?_
    refine lv_istore (lv' := [(5, .int ((nI tk) + (nI (sSe fl sh σk μ ld)))), (0, .ref o), (1, .int (nI μ)), (2, .int (nI ld)), (3, .int (nI t)), (4, .int (nI (σk 1 - σ 1))), (6, .int (nI k))]) X.1 X.2.1 dX12_goesBy_35 hl (by decide) rfl (fun ls hl => ?_)
    refine lv_iload X.1 X.2.1 dX12_goesBy_37 (lv_at hl 0 rfl) ?_
    refine lv_iload_n X.1 X.2.1 dX12_goesBy_39 rfl (lv_at hl 4 rfl) ?_
    refine lv_icmp_le (tgt := 51) X.1 X.2.1 dX12_goesBy_40 (by decide) (fun c40 => ?_) (fun c40 => ?_)
    · have n40 : (tk + (sSe fl sh σk μ ld)) ≤ t := gq_le c40 (gn_add (Eq.refl (nI tk)) (Eq.refl (nI (sSe fl sh σk μ ld)))) (Eq.refl (nI t)) (by omega) (by omega)
      refine lv_iload X.1 X.2.1 dX12_goesBy_51 (lv_at hl 5 rfl) ?_
      refine lv_aload_n X.1 X.2.1 dX12_goesBy_53 rfl (lv_at hl 1 rfl) ?_
      refine m_geti 22 X hK hP hM hin rfl (by decide) k197 rfl dX12_goesBy_54 (show N2 0 22 = nI (sBr fl σk μ ld) from h22N2) ?_
      refine lv_iadd X.1 X.2.1 dX12_goesBy_57 ?_
      refine lv_istore (lv' := [(4, .int ((nI (σk 1 - σ 1)) + (nI (sBr fl σk μ ld)))), (5, .int ((nI tk) + (nI (sSe fl sh σk μ ld)))), (0, .ref o), (1, .int (nI μ)), (2, .int (nI ld)), (3, .int (nI t)), (6, .int (nI k))]) X.1 X.2.1 dX12_goesBy_58 hl (by decide) rfl (fun ls hl => ?_)
      refine lv_iinc (v := nI (k + 1)) (lv' := [(6, .int (nI (k + 1))), (4, .int ((nI (σk 1 - σ 1)) + (nI (sBr fl σk μ ld)))), (5, .int ((nI tk) + (nI (sSe fl sh σk μ ld)))), (0, .ref o), (1, .int (nI μ)), (2, .int (nI ld)), (3, .int (nI t))]) X.1 X.2.1 dX12_goesBy_60 hl (k := 6) rfl (gn_inc (Eq.refl (nI k)) 1) (by decide) rfl (fun ls hl => ?_)
      refine lv_goto (tgt := 9) X.1 X.2.1 dX12_goesBy_63 (by decide) ?_
      have hby2 : sBy fl ti sh μ ld t (200 - (k + 1)) (sGo fl ti sh σk μ ld) (tk + sSe fl sh σk μ ld) = sBy fl ti sh μ ld t 200 σ 0 := by rw [← hby, show 200 - k = (200 - (k + 1)) + 1 by omega]; show _ = (if t < tk + sSe fl sh σk μ ld then σk else _); rw [if_neg (by omega)]
      have hl : lv_has ls 7 [(0, .ref o), (1, .int (nI μ)), (2, .int (nI ld)), (3, .int (nI t)), (4, .int (nI ((sGo fl ti sh σk μ ld) 1 - σ 1))), (5, .int (nI (tk + sSe fl sh σk μ ld))), (6, .int (nI (k + 1)))] := by
        rw [sGo_1, show σk 1 + sBr fl σk μ ld - σ 1 = (σk 1 - σ 1) + sBr fl σk μ ld by omega, ← nI_add, ← nI_add tk]
        exact lv_sub hl [3, 4, 5, 6, 1, 2, 0] rfl
      exact ih _ _ _ _ (by omega) ⟨(sGo fl ti sh σk μ ld), tk + sSe fl sh σk μ ld, τN2, msN2, mInv_le hvN2 (by omega), by omega, by omega, hby2, fun i hi9 => (sGo_18 hμ hi9).trans (h18 i hi9), by rw [sGo_1]; omega, by omega, fun b i h => by unfold bS at h; by_cases e3 : b = 3; (· subst e3; have e4 : i < 18 := (by omega); exact ((hkN2 3 i (by unfold gS lS; omega)).trans ((hzN1 i e4).trans (hbs 3 i (by unfold bS; omega))))); exact ((hkN2 b i (by unfold gS lS; omega)).trans ((hrN1 b i (by omega)).trans (hbs b i (by unfold bS; omega)))), hl⟩ hP hS
    · have n40 : t < (tk + (sSe fl sh σk μ ld)) := gq_nle c40 (gn_add (Eq.refl (nI tk)) (Eq.refl (nI (sSe fl sh σk μ ld)))) (Eq.refl (nI t)) (by omega) (by omega)
      refine lv_aload_n X.1 X.2.1 dX12_goesBy_43 rfl (lv_at hl 1 rfl) ?_
      refine lv_iconst (v := 1) X.1 X.2.1 dX12_goesBy_44 (by decide) ?_
      refine g_run_v (g_runV (k := 14) [.int 1] X hK hP hS hC hB (c_back hM N2 (f := 1) (by decide)) (cwV 1 X.2.2.2.2 gX12_goesBy_X12_goesBackTo rfl rfl rfl (by decide +kernel) ⟨Nat.le_of_ble_eq_true rfl, Nat.le_of_ble_eq_true rfl⟩) (hM.1 0 _ rfl) rfl rfl hl.1 rfl (Nat.le_of_ble_eq_true rfl) dX12_goesBy_45 (by exact ⟨Nat.zero_le _, Nat.zero_le _⟩)) hS (fun u H locs hq hP hS => ?_)
      have hvN3 := inv_back hvN2 hfr1N2 hvN.2.2.1 (fun i hi9 => sGo_18 hμ hi9) (by omega)
      have hrN3 : ∀ b i, ¬ (b = 1 ∧ i < 18) → ¬ (b = 0 ∧ i = 17) → u b i = N2 b i := fun b i h1 h2 => by rw [hq]; exact back_r h1 h2
      rw [← hq] at hvN3
      clear hq
      generalize u = N3 at hP hvN3 hrN3
      have hP : gP D cy B z T (gI o 12 N3 I0) R H := hP
      refine lv_iload X.1 X.2.1 dX12_goesBy_48 (lv_at hl 5 rfl) ?_
      have hby2 : σk = (sBy fl ti sh μ ld t 200 σ 0) := by rw [← hby, show 200 - k = (200 - (k + 1)) + 1 by omega]; show σk = (if t < tk + sSe fl sh σk μ ld then σk else _); rw [if_pos (by omega)]
      exact g_iret N3 X hr hlk hK hP hS dX12_goesBy_50 ⟨by rw [← hby2], ⟨(τN2 + 1), msN2, by omega, by omega, by rw [← hby2]; exact mInv_le hvN3 (by omega)⟩, fun b i h => by unfold bS at h; by_cases e3 : b = 3; (· subst e3; have e4 : i < 18 := (by omega); exact ((hrN3 3 i (by omega) (by omega)).trans ((hkN2 3 i (by unfold gS lS; omega)).trans ((hzN1 i e4).trans (hbs 3 i (by unfold bS; omega)))))); exact ((hrN3 b i (by omega) (by omega)).trans ((hkN2 b i (by unfold gS lS; omega)).trans ((hrN1 b i (by omega)).trans (hbs b i (by unfold bS; omega)))))⟩

set_option maxHeartbeats 4000000 in
set_option maxRecDepth 100000 in
/-- byOf -/
theorem c_byOf (hM : gMod o T R) (hi : mInv M σ fl ti sh K τ ms) {μ ld t : Nat} (hμ : μ < 4) (h38 : μ < σ 38) (hld : ld ≤ 20) (ht : t ≤ 9999) (hτ : τ + 7000 < 2 ^ 30) (hK : K < 2 ^ 28) : Met l yX12_byOf wsX12_byOf ({ frames := 6, cells := 0, slots := 0, locals := 151 }) (mPre s0 D cy B o z T R I0 M [.int (nI μ), .int (nI ld), .int (nI t)]) (mQi D cy B o z T R I0 (fun r u => r = nI ((sBy fl ti sh μ ld t 200 σ 0) 1 - σ 1) ∧ mSame qS M u ∧ ∃ τ' ms', τ ≤ τ' ∧ τ' ≤ τ + 6501 ∧ mCache u fl σ τ' ms')) 0 0 (gA B) := by
  refine g_met (maxL := 5) (ret := (some .int)) (by decide) rfl (Nat.le_of_ble_eq_true rfl) (fun p e s m args below meth c ls X hr hlk hnm hK hP hC hS hl => ?_)
  have hl : lv_has ls 5 [(0, .ref o), (1, .int (nI μ)), (2, .int (nI ld)), (3, .int (nI t))] := hl
  have hP : gP D cy B z T (gI o 12 M I0) R s.heap := hP
  have hB : B ≤ s.heap.size := by rw [hP.1]; exact hP.2.1
  have hσ := hi.1
  have hs := hi.2.1
  have hb := hi.2.2.1
  have hca := hi.2.2.2
  refine lv_aload_n X.1 X.2.1 dX12_byOf_0 rfl (lv_at hl 0 rfl) ?_
  refine lv_iconst (v := 0) X.1 X.2.1 dX12_byOf_1 (by decide) ?_
  refine g_run_v (g_runV (k := 14) [.int 0] X hK hP hS hC hB (c_keeps hM M (f := 0) (by decide)) (cwV 1 X.2.2.2.2 gX12_byOf_X12_keeps rfl rfl rfl (by decide +kernel) ⟨Nat.le_of_ble_eq_true rfl, Nat.le_of_ble_eq_true rfl⟩) (hM.1 0 _ rfl) rfl rfl hl.1 rfl (Nat.le_of_ble_eq_true rfl) dX12_byOf_2 (by exact ⟨Nat.zero_le _, Nat.zero_le _⟩)) hS (fun u H locs hq hP hS => ?_)
  have hq : mKeep M 0 18 = u := hq.symm
  have hvN1 := inv_keep hi 0
  have hfN1 := fr_keep hi.1 0
  have hrN1 : ∀ b i, b ≠ 3 → mKeep M 0 18 b i = M b i := fun b i h => mKeep_r _ _ _ _ _ h
  generalize mKeep M 0 18 = N1 at hq hP hvN1 hfN1 hrN1
  subst hq
  have hP : gP D cy B z T (gI o 12 N1 I0) R H := hP
  refine lv_aload_n X.1 X.2.1 dX12_byOf_5 rfl (lv_at hl 0 rfl) ?_
  refine lv_iload_n X.1 X.2.1 dX12_byOf_6 rfl (lv_at hl 1 rfl) ?_
  refine lv_iload_n X.1 X.2.1 dX12_byOf_7 rfl (lv_at hl 2 rfl) ?_
  refine lv_iload_n X.1 X.2.1 dX12_byOf_8 rfl (lv_at hl 3 rfl) ?_
  refine g_run_i (g_runV (k := 14) [.int (nI μ), .int (nI ld), .int (nI t)] X hK hP hS hC hB (c_goesBy hM hvN1 (μ := μ) (ld := ld) (t := t) hμ (by first | exact h38 | omega | (rw [sIt_18 hμ _ _ (by omega)]; exact h38) | (rw [h18 38 (by omega)]; exact h38)) (by omega) (by omega) (by omega) (by omega)) (cwV 3 X.2.2.2.2 gX12_byOf_X12_goesBy rfl rfl rfl (by decide +kernel) ⟨Nat.le_of_ble_eq_true rfl, Nat.le_of_ble_eq_true rfl⟩) (hM.1 0 _ rfl) rfl rfl hl.1 rfl (Nat.le_of_ble_eq_true rfl) dX12_byOf_9 (by exact ⟨Nat.zero_le _, Nat.zero_le _⟩)) hS (fun r u H locs hq hP hS => ?_)
  obtain ⟨rfl, ⟨τN2, msN2, hτaN2, hτbN2, hvN2⟩, hkN2⟩ := hq
  generalize u = N2 at hP hvN2 hkN2
  have hP : gP D cy B z T (gI o 12 N2 I0) R H := hP
  have hgN2 : mFr N2 0 σ := fun k hk => (hkN2 3 (18 * 0 + k) (by unfold bS; omega)).trans (hfN1 k hk)
  refine lv_istore (lv' := [(4, .int (nI ((sBy fl ti sh μ ld t 200 σ 0) 1 - σ 1))), (0, .ref o), (1, .int (nI μ)), (2, .int (nI ld)), (3, .int (nI t))]) X.1 X.2.1 dX12_byOf_12 hl (by decide) rfl (fun ls hl => ?_)
  refine lv_aload_n X.1 X.2.1 dX12_byOf_14 rfl (lv_at hl 1 rfl) ?_
  refine lv_iconst (v := 0) X.1 X.2.1 dX12_byOf_15 (by decide) ?_
  refine g_run_v (g_runV (k := 14) [.int 0] X hK hP hS hC hB (c_back hM N2 (f := 0) (by decide)) (cwV 1 X.2.2.2.2 gX12_byOf_X12_goesBackTo rfl rfl rfl (by decide +kernel) ⟨Nat.le_of_ble_eq_true rfl, Nat.le_of_ble_eq_true rfl⟩) (hM.1 0 _ rfl) rfl rfl hl.1 rfl (Nat.le_of_ble_eq_true rfl) dX12_byOf_16 (by exact ⟨Nat.zero_le _, Nat.zero_le _⟩)) hS (fun u H locs hq hP hS => ?_)
  have hvN3 := inv_back hvN2 hgN2 hb (fun i hi9 => sBy_18 hμ _ _ _ i hi9) (by omega)
  have hrN3 : ∀ b i, ¬ (b = 1 ∧ i < 18) → ¬ (b = 0 ∧ i = 17) → u b i = N2 b i := fun b i h1 h2 => by rw [hq]; exact back_r h1 h2
  rw [← hq] at hvN3
  clear hq
  generalize u = N3 at hP hvN3 hrN3
  have hP : gP D cy B z T (gI o 12 N3 I0) R H := hP
  refine lv_iload X.1 X.2.1 dX12_byOf_19 (lv_at hl 0 rfl) ?_
  exact g_iret N3 X hr hlk hK hP hS dX12_byOf_21 ⟨rfl, (fun b i h => by by_cases e1 : b = 1; (· subst e1; by_cases e2 : i < 18; (· rw [hvN3.1 i (by omega) (by omega), hσ i (by omega) (by omega)]); unfold qS at h; exact ((hrN3 1 i (by omega) (by omega)).trans ((hkN2 1 i (by unfold bS; omega)).trans ((hrN1 1 i (by omega)).trans rfl)))); unfold qS at h; exact ((hrN3 b i (by omega) (by omega)).trans ((hkN2 b i (by unfold bS; omega)).trans ((hrN1 b i (by omega)).trans rfl)))), (τN2 + 1), msN2, by omega, by omega, hvN3.2.2.2⟩

end MK
