section MS9
variable {l : Launch} {s0 : State} {D : va_G} {cy : Nat → ClassId} {B o z : Nat} {T : Nat → Nat × Nat} {R : Nat → Nat → Option Nat} {I0 : Nat → Nat → Int32} {M : Nat → Nat → Int32} {σ : Nat → Nat} {fl : List Nat} {ti sh K τ ms : Nat}
/-- BY of the first n men, one behind the other, but bn -/
def sAll (fl : List Nat) (ti sh t bn : Nat) (σ : Nat → Nat) : Nat → (Nat → Nat)
  | 0 => σ
  | n + 1 => if n = bn then sAll fl ti sh t bn σ n else sBy fl ti sh n 10 t 200 (sAll fl ti sh t bn σ n) 0
theorem sAll_18 {t bn : Nat} : ∀ n, n ≤ 4 → ∀ i, 18 ≤ i → sAll fl ti sh t bn σ n i = σ i
  | 0, _, _, _ => rfl
  | n + 1, hn, i, hi => by
    unfold sAll
    split
    · exact sAll_18 n (by omega) i hi
    · rw [sBy_18 (by omega) 200 _ _ i hi]
      exact sAll_18 n (by omega) i hi
theorem sAll_1 {t bn : Nat} : ∀ n, σ 1 ≤ sAll fl ti sh t bn σ n 1
  | 0 => Nat.le_refl _
  | n + 1 => by
    unfold sAll
    split
    · exact sAll_1 n
    · exact Nat.le_trans (sAll_1 n) (sBy_1 200 _ _)

set_option maxHeartbeats 4000000 in
set_option maxRecDepth 100000 in
/-- byAll -/
theorem c_byAll (hM : gMod o T R) (hi : mInv M σ fl ti sh K τ ms) {bt : Int32} {bn t : Nat} (hbt : ∀ k, k < 4 → (nI k = bt ↔ k = bn)) (ht : t ≤ 999) (hτ : τ + 30000 < 2 ^ 30) (hK : K < 2 ^ 28) : Met l yX12_byAll wsX12_byAll ({ frames := 6, cells := 0, slots := 0, locals := 151 }) (mPre s0 D cy B o z T R I0 M [.int bt, .int (nI t)]) (mQi D cy B o z T R I0 (fun r u => r = nI (sAll fl ti sh t bn σ (σ 38) 1 - σ 1) ∧ mSame qS M u ∧ ∃ τ' ms', τ ≤ τ' ∧ τ' ≤ τ + 26001 ∧ mCache u fl σ τ' ms')) 0 0 (gA B) := by
  refine g_met (maxL := 5) (ret := (some .int)) (by decide) rfl (Nat.le_of_ble_eq_true rfl) (fun p e s m args below meth c ls X hr hlk hnm hK hP hC hS hl => ?_)
  have hl : lv_has ls 5 [(0, .ref o), (1, .int bt), (2, .int (nI t))] := hl
  have hP : gP D cy B z T (gI o 12 M I0) R s.heap := hP
  have hB : B ≤ s.heap.size := by rw [hP.1]; exact hP.2.1
  have hin : ∀ w ∈ wsX120, w ∈ wsX12_byAll := fun _ h => List.mem_cons_of_mem _ (List.mem_append_right _ h)
  have k9 : Cond.fieldLink RX12 9 "BarrowPlankModel" "s" "[I" ∈ wsX12_byAll := by decide +kernel
  have hσ := hi.1
  have hs := hi.2.1
  have hb := hi.2.2.1
  have hca := hi.2.2.2
  have hb38 : σ 38 ≤ 4 := hb.2.2.2.2.1
  refine lv_aload_n X.1 X.2.1 dX12_byAll_0 rfl (lv_at hl 0 rfl) ?_
  refine lv_iconst (v := 0) X.1 X.2.1 dX12_byAll_1 (by decide) ?_
  refine g_run_v (g_runV (k := 14) [.int 0] X hK hP hS hC hB (c_keeps hM M (f := 0) (by decide)) (cwV 1 X.2.2.2.2 gX12_byAll_X12_keeps rfl rfl rfl (by decide +kernel) ⟨Nat.le_of_ble_eq_true rfl, Nat.le_of_ble_eq_true rfl⟩) (hM.1 0 _ rfl) rfl rfl hl.1 rfl (Nat.le_of_ble_eq_true rfl) dX12_byAll_2 (by exact ⟨Nat.zero_le _, Nat.zero_le _⟩)) hS (fun u H locs hq hP hS => ?_)
  have hq : mKeep M 0 18 = u := hq.symm
  have hvN1 := inv_keep hi 0
  have hfN1 := fr_keep hi.1 0
  have hrN1 : ∀ b i, b ≠ 3 → mKeep M 0 18 b i = M b i := fun b i h => mKeep_r _ _ _ _ _ h
  generalize mKeep M 0 18 = N1 at hq hP hvN1 hfN1 hrN1
  subst hq
  have hP : gP D cy B z T (gI o 12 N1 I0) R H := hP
  refine lv_iconst (v := 0) X.1 X.2.1 dX12_byAll_5 (by decide) ?_
  refine lv_istore_n (lv' := [(3, .int 0), (0, .ref o), (1, .int bt), (2, .int (nI t))]) X.1 X.2.1 dX12_byAll_6 rfl hl (by decide) rfl (fun ls hl => ?_)
  refine lv_iconst (v := 0) X.1 X.2.1 dX12_byAll_7 (by decide) ?_
  refine lv_istore (lv' := [(4, .int 0), (3, .int 0), (0, .ref o), (1, .int bt), (2, .int (nI t))]) X.1 X.2.1 dX12_byAll_8 hl (by decide) rfl (fun ls hl => ?_)
  have h00 : σ 1 - σ 1 = 0 := by omega
  refine m_loop (M := N1) (σ 38) 10 [] (fun k N ls => ∃ (τk msk : Nat), mInv N (sAll fl ti sh t bn σ k) fl ti sh (K + 60000000 * k) τk msk ∧ τ ≤ τk ∧ τk ≤ τ + 6500 * k ∧ mFr N 0 σ ∧ (∀ b i, ¬ (qS b i ∨ (b = 1 ∧ i < 18)) → N b i = M b i) ∧ lv_has ls 5 [(0, .ref o), (1, .int bt), (2, .int (nI t)), (3, .int (nI ((sAll fl ti sh t bn σ k) 1 - σ 1))), (4, .int (nI k))]) 0 (by omega) ⟨τ, ms, hvN1, by omega, by omega, hfN1, (fun b i h => by unfold qS at h; exact ((hrN1 b i (by omega)).trans rfl)), by rw [show sAll fl ti sh t bn σ 0 = σ from rfl, h00]; exact lv_sub hl [2, 3, 4, 1, 0] rfl⟩ hP hS (fun k N H locs ls hk hiv hP hS ih => ?_)
  obtain ⟨τk, msk, hvN, hτ1, hτ2, hfN, hkN, hl⟩ := hiv
  have h38 : (sAll fl ti sh t bn σ k) 38 = σ 38 := sAll_18 k (by omega) 38 (by omega)
  have h1k := sAll_1 (fl := fl) (ti := ti) (sh := sh) (σ := σ) (t := t) (bn := bn) k
  refine lv_iload X.1 X.2.1 dX12_byAll_10 (lv_at hl 4 rfl) ?_
  refine lv_aload_n X.1 X.2.1 dX12_byAll_12 rfl (lv_at hl 0 rfl) ?_
  refine m_getr 1 1 X hK hP hM hin rfl (by decide) k9 rfl dX12_byAll_13 (by decide) ?_
  refine lv_bipush (v := 38) X.1 X.2.1 dX12_byAll_16 (by decide) ?_
  refine m_ald 1 38 883 X hK hP hM rfl (gIx_of (show (38 : Int32) = nI 38 from rfl) (by omega) (by omega)) dX12_byAll_18 (show N 1 38 = nI (σ 38) from (by rw [hvN.1 38 (by decide) (by decide), h38])) ?_
  refine lv_icmp_ge (tgt := 50) X.1 X.2.1 dX12_byAll_19 (by decide) (fun c19 => ?_) (fun c19 => ?_)
  · have n19 : σ 38 ≤ k := gq_le c19 (Eq.refl (nI (σ 38))) (Eq.refl (nI k)) (by omega) (by omega)
    have hkn : k = σ 38 := by omega
    refine lv_aload_n X.1 X.2.1 dX12_byAll_50 rfl (lv_at hl 0 rfl) ?_
    refine lv_iconst (v := 0) X.1 X.2.1 dX12_byAll_51 (by decide) ?_
    refine g_run_v (g_runV (k := 14) [.int 0] X hK hP hS hC hB (c_back hM N (f := 0) (by decide)) (cwV 1 X.2.2.2.2 gX12_byAll_X12_goesBackTo rfl rfl rfl (by decide +kernel) ⟨Nat.le_of_ble_eq_true rfl, Nat.le_of_ble_eq_true rfl⟩) (hM.1 0 _ rfl) rfl rfl hl.1 rfl (Nat.le_of_ble_eq_true rfl) dX12_byAll_52 (by exact ⟨Nat.zero_le _, Nat.zero_le _⟩)) hS (fun u H locs hq hP hS => ?_)
    have hvN2 := inv_back hvN hfN hb (fun i hi9 => sAll_18 _ (by omega) i hi9) (by omega)
    have hrN2 : ∀ b i, ¬ (b = 1 ∧ i < 18) → ¬ (b = 0 ∧ i = 17) → u b i = N b i := fun b i h1 h2 => by rw [hq]; exact back_r h1 h2
    rw [← hq] at hvN2
    clear hq
    generalize u = N2 at hP hvN2 hrN2
    have hP : gP D cy B z T (gI o 12 N2 I0) R H := hP
    refine lv_iload_n X.1 X.2.1 dX12_byAll_55 rfl (lv_at hl 3 rfl) ?_
    exact g_iret N2 X hr hlk hK hP hS dX12_byAll_56 ⟨by rw [← hkn], (fun b i h => by by_cases e1 : b = 1; (· subst e1; by_cases e2 : i < 18; (· rw [hvN2.1 i (by omega) (by omega), hσ i (by omega) (by omega)]); unfold qS at h; exact ((hrN2 1 i (by omega) (by omega)).trans (hkN 1 i (by unfold qS; omega)))); unfold qS at h; exact ((hrN2 b i (by omega) (by omega)).trans (hkN b i (by unfold qS; omega)))), (τk + 1), msk, by omega, by omega, hvN2.2.2.2⟩
  · have n19 : k < σ 38 := gq_nle c19 (Eq.refl (nI (σ 38))) (Eq.refl (nI k)) (by omega) (by omega)
    have hk9 : k < σ 38 := by omega
    refine lv_iload_n X.1 X.2.1 dX12_byAll_22 rfl (lv_at hl 3 rfl) ?_
    refine lv_iload X.1 X.2.1 dX12_byAll_23 (lv_at hl 4 rfl) ?_
    refine lv_iload_n X.1 X.2.1 dX12_byAll_25 rfl (lv_at hl 1 rfl) ?_
    refine lv_icmp_ne (tgt := 33) X.1 X.2.1 dX12_byAll_26 (by decide) (fun c26 => ?_) (fun c26 => ?_)
    · have hkb : ¬ k = bn := fun q => c26 ((hbt k (by omega)).mpr q)
      refine lv_aload_n X.1 X.2.1 dX12_byAll_33 rfl (lv_at hl 0 rfl) ?_
      refine lv_iload X.1 X.2.1 dX12_byAll_34 (lv_at hl 4 rfl) ?_
      refine lv_bipush (v := 10) X.1 X.2.1 dX12_byAll_36 (by decide) ?_
      refine lv_iload_n X.1 X.2.1 dX12_byAll_38 rfl (lv_at hl 2 rfl) ?_
      refine g_run_i (g_runV (k := 14) [.int (nI k), .int 10, .int (nI t)] X hK hP hS hC hB (c_goesBy hM hvN (μ := k) (ld := 10) (t := t) (show k < 4 by omega) (by first | exact h38 | omega | (rw [sIt_18 hμ _ _ (by omega)]; exact h38) | (rw [h18 38 (by omega)]; exact h38)) (by omega) (by omega) (by omega) (by omega)) (cwV 3 X.2.2.2.2 gX12_byAll_X12_goesBy rfl rfl rfl (by decide +kernel) ⟨Nat.le_of_ble_eq_true rfl, Nat.le_of_ble_eq_true rfl⟩) (hM.1 0 _ rfl) rfl rfl hl.1 rfl (Nat.le_of_ble_eq_true rfl) dX12_byAll_39 (by exact ⟨Nat.zero_le _, Nat.zero_le _⟩)) hS (fun r u H locs hq hP hS => ?_)
      obtain ⟨rfl, ⟨τN3, msN3, hτaN3, hτbN3, hvN3⟩, hkN3⟩ := hq
      generalize u = N3 at hP hvN3 hkN3
      have hP : gP D cy B z T (gI o 12 N3 I0) R H := hP
      have hgN3 : mFr N3 0 σ := fun k hk => (hkN3 3 (18 * 0 + k) (by unfold bS; omega)).trans (hfN k hk)
      refine lv_iadd X.1 X.2.1 dX12_byAll_42 ?_
      refine lv_istore_n (lv' := [(3, .int ((nI ((sAll fl ti sh t bn σ k) 1 - σ 1)) + (nI ((sBy fl ti sh k 10 t 200 (sAll fl ti sh t bn σ k) 0) 1 - (sAll fl ti sh t bn σ k) 1)))), (0, .ref o), (1, .int bt), (2, .int (nI t)), (4, .int (nI k))]) X.1 X.2.1 dX12_byAll_43 rfl hl (by decide) rfl (fun ls hl => ?_)
      refine lv_iinc (v := nI (k + 1)) (lv' := [(4, .int (nI (k + 1))), (3, .int ((nI ((sAll fl ti sh t bn σ k) 1 - σ 1)) + (nI ((sBy fl ti sh k 10 t 200 (sAll fl ti sh t bn σ k) 0) 1 - (sAll fl ti sh t bn σ k) 1)))), (0, .ref o), (1, .int bt), (2, .int (nI t))]) X.1 X.2.1 dX12_byAll_44 hl (k := 4) rfl (gn_inc (Eq.refl (nI k)) 1) (by decide) rfl (fun ls hl => ?_)
      refine lv_goto (tgt := 10) X.1 X.2.1 dX12_byAll_47 (by decide) ?_
      have hal : sAll fl ti sh t bn σ (k + 1) = (sBy fl ti sh k 10 t 200 (sAll fl ti sh t bn σ k) 0) := by show (if k = bn then _ else _) = _; rw [if_neg hkb]
      have hby1 := sBy_1 (fl := fl) (ti := ti) (sh := sh) (μ := k) (ld := 10) (t := t) 200 (sAll fl ti sh t bn σ k) 0
      have hsum : (nI ((sAll fl ti sh t bn σ k) 1 - σ 1)) + (nI ((sBy fl ti sh k 10 t 200 (sAll fl ti sh t bn σ k) 0) 1 - (sAll fl ti sh t bn σ k) 1)) = nI (sAll fl ti sh t bn σ (k + 1) 1 - σ 1) := ((gn_add (Eq.refl (nI ((sAll fl ti sh t bn σ k) 1 - σ 1))) (Eq.refl (nI ((sBy fl ti sh k 10 t 200 (sAll fl ti sh t bn σ k) 0) 1 - (sAll fl ti sh t bn σ k) 1))))).trans (congrArg nI (by rw [hal]; omega))
      have hl : lv_has ls 5 [(0, .ref o), (1, .int bt), (2, .int (nI t)), (3, .int (nI (sAll fl ti sh t bn σ (k + 1) 1 - σ 1))), (4, .int (nI (k + 1)))] := by rw [← hsum]; exact lv_sub hl [2, 3, 4, 1, 0] rfl
      exact ih _ _ _ _ (by omega) ⟨τN3, msN3, by rw [hal]; exact mInv_le hvN3 (by omega), by omega, by omega, hgN3, (fun b i h => by unfold qS at h; exact ((hkN3 b i (by unfold bS; omega)).trans (hkN b i (by unfold qS; omega)))), hl⟩ hP hS
    · have hkb : k = bn := (hbt k (by omega)).mp c26
      refine lv_iconst (v := 0) X.1 X.2.1 dX12_byAll_29 (by decide) ?_
      refine lv_goto (tgt := 42) X.1 X.2.1 dX12_byAll_30 (by decide) ?_
      refine lv_iadd X.1 X.2.1 dX12_byAll_42 ?_
      refine lv_istore_n (lv' := [(3, .int ((nI ((sAll fl ti sh t bn σ k) 1 - σ 1)) + 0)), (0, .ref o), (1, .int bt), (2, .int (nI t)), (4, .int (nI k))]) X.1 X.2.1 dX12_byAll_43 rfl hl (by decide) rfl (fun ls hl => ?_)
      refine lv_iinc (v := nI (k + 1)) (lv' := [(4, .int (nI (k + 1))), (3, .int ((nI ((sAll fl ti sh t bn σ k) 1 - σ 1)) + 0)), (0, .ref o), (1, .int bt), (2, .int (nI t))]) X.1 X.2.1 dX12_byAll_44 hl (k := 4) rfl (gn_inc (Eq.refl (nI k)) 1) (by decide) rfl (fun ls hl => ?_)
      refine lv_goto (tgt := 10) X.1 X.2.1 dX12_byAll_47 (by decide) ?_
      have hal : sAll fl ti sh t bn σ (k + 1) = (sAll fl ti sh t bn σ k) := by show (if k = bn then _ else _) = _; rw [if_pos hkb]
      have hsum : (nI ((sAll fl ti sh t bn σ k) 1 - σ 1)) + 0 = nI (sAll fl ti sh t bn σ (k + 1) 1 - σ 1) := ((gn_add (Eq.refl (nI ((sAll fl ti sh t bn σ k) 1 - σ 1))) (show (0 : Int32) = nI 0 from rfl))).trans (congrArg nI (by rw [hal]; omega))
      have hl : lv_has ls 5 [(0, .ref o), (1, .int bt), (2, .int (nI t)), (3, .int (nI (sAll fl ti sh t bn σ (k + 1) 1 - σ 1))), (4, .int (nI (k + 1)))] := by rw [← hsum]; exact lv_sub hl [2, 3, 4, 1, 0] rfl
      exact ih _ _ _ _ (by omega) ⟨τk, msk, by rw [hal]; exact mInv_le hvN (by omega), by omega, by omega, hfN, (fun b i h => by unfold qS at h; exact (hkN b i (by unfold qS; omega))), hl⟩ hP hS

theorem bt_none : ∀ k, k < 4 → (nI k = -1 ↔ k = 9) := fun k hk => ⟨fun e => absurd e (gn_m1 (by omega)), fun e => by omega⟩
theorem bt_some {μ : Nat} (hμ : μ < 4) : ∀ k, k < 4 → (nI k = nI μ ↔ k = μ) := fun k hk => nI_eq (by omega) (by omega)

set_option maxHeartbeats 4000000 in
set_option maxRecDepth 100000 in
/-- c_worth_n -/
theorem c_worth_n (hM : gMod o T R) (hi : mInv M σ fl ti sh K τ ms) {v : Int32} (hno : ¬ (0 ≤ v ∧ v ≤ nI (σ 38) - 1)) (t : Int32) : Met l yX12_worth wsX12_worth ({ frames := 2, cells := 0, slots := 0, locals := 43 }) (mPre s0 D cy B o z T R I0 M [.int v, .int t]) (mQi D cy B o z T R I0 (fun r u => r = -1001 ∧ M = u)) 0 0 (gA B) := by
  refine g_met (maxL := 3) (ret := (some .int)) (by decide) rfl (Nat.le_of_ble_eq_true rfl) (fun p e s m args below meth c ls X hr hlk hnm hK hP hC hS hl => ?_)
  have hl : lv_has ls 3 [(0, .ref o), (1, .int v), (2, .int t)] := hl
  have hP : gP D cy B z T (gI o 12 M I0) R s.heap := hP
  have hB : B ≤ s.heap.size := by rw [hP.1]; exact hP.2.1
  have hσ := hi.1
  have hs := hi.2.1
  have hb := hi.2.2.1
  have hca := hi.2.2.2
  refine lv_aload_n X.1 X.2.1 dX12_worth_0 rfl (lv_at hl 0 rfl) ?_
  refine lv_iload_n X.1 X.2.1 dX12_worth_1 rfl (lv_at hl 1 rfl) ?_
  refine g_run_i (g_runV (k := 14) [.int v] X hK hP hS hC hB (c_isMan hM _ v) (cwV 1 X.2.2.2.2 gX12_worth_X12_isMan rfl rfl rfl (by decide +kernel) ⟨Nat.le_of_ble_eq_true rfl, Nat.le_of_ble_eq_true rfl⟩) (hM.1 0 _ rfl) rfl rfl hl.1 rfl (Nat.le_of_ble_eq_true rfl) dX12_worth_2 (by exact ⟨Nat.zero_le _, Nat.zero_le _⟩)) hS (fun r u H locs hq hP hS => ?_)
  obtain ⟨rfl, rfl⟩ := hq
  have hP : gP D cy B z T (gI o 12 M I0) R H := hP
  refine lv_if_ne (tgt := 12) X.1 X.2.1 dX12_worth_5 (by decide) (fun c5 => ?_) (fun c5 => ?_)
  · exact absurd (gt_1 c5) (g_noman hi hno)
  · refine lv_sipush (v := (-1001)) X.1 X.2.1 dX12_worth_8 (by decide) ?_
    exact g_iret M X hr hlk hK hP hS dX12_worth_11 ⟨rfl, rfl⟩

set_option maxHeartbeats 4000000 in
set_option maxRecDepth 100000 in
/-- c_worth_b -/
theorem c_worth_b (hM : gMod o T R) (hi : mInv M σ fl ti sh K τ ms) {μ : Nat} (hμn : μ < σ 38) {t : Int32} (hbad : ¬ (0 ≤ t ∧ t ≤ 999)) : Met l yX12_worth wsX12_worth ({ frames := 2, cells := 0, slots := 0, locals := 43 }) (mPre s0 D cy B o z T R I0 M [.int (nI μ), .int t]) (mQi D cy B o z T R I0 (fun r u => r = -1002 ∧ M = u)) 0 0 (gA B) := by
  refine g_met (maxL := 3) (ret := (some .int)) (by decide) rfl (Nat.le_of_ble_eq_true rfl) (fun p e s m args below meth c ls X hr hlk hnm hK hP hC hS hl => ?_)
  have hl : lv_has ls 3 [(0, .ref o), (1, .int (nI μ)), (2, .int t)] := hl
  have hP : gP D cy B z T (gI o 12 M I0) R s.heap := hP
  have hB : B ≤ s.heap.size := by rw [hP.1]; exact hP.2.1
  have hσ := hi.1
  have hs := hi.2.1
  have hb := hi.2.2.1
  have hca := hi.2.2.2
  refine lv_aload_n X.1 X.2.1 dX12_worth_0 rfl (lv_at hl 0 rfl) ?_
  refine lv_iload_n X.1 X.2.1 dX12_worth_1 rfl (lv_at hl 1 rfl) ?_
  refine g_run_i (g_runV (k := 14) [.int (nI μ)] X hK hP hS hC hB (c_isMan hM _ (nI μ)) (cwV 1 X.2.2.2.2 gX12_worth_X12_isMan rfl rfl rfl (by decide +kernel) ⟨Nat.le_of_ble_eq_true rfl, Nat.le_of_ble_eq_true rfl⟩) (hM.1 0 _ rfl) rfl rfl hl.1 rfl (Nat.le_of_ble_eq_true rfl) dX12_worth_2 (by exact ⟨Nat.zero_le _, Nat.zero_le _⟩)) hS (fun r u H locs hq hP hS => ?_)
  obtain ⟨rfl, rfl⟩ := hq
  have hP : gP D cy B z T (gI o 12 M I0) R H := hP
  refine lv_if_ne (tgt := 12) X.1 X.2.1 dX12_worth_5 (by decide) (fun c5 => ?_) (fun c5 => ?_)
  · refine lv_iload_n X.1 X.2.1 dX12_worth_12 rfl (lv_at hl 2 rfl) ?_
    refine lv_iconst (v := 0) X.1 X.2.1 dX12_worth_13 (by decide) ?_
    refine lv_sipush (v := 999) X.1 X.2.1 dX12_worth_14 (by decide) ?_
    refine g_run_i (g_runS [.int t, .int 0, .int 999] X hK hP hS hC hB (c_in _ t 0 999) (va_cwS 3 X.2.2.2.2 gX12_worth_X12_in rfl rfl rfl (by decide +kernel) ⟨Nat.le_of_ble_eq_true rfl, Nat.le_of_ble_eq_true rfl⟩) rfl hl.1 rfl (Nat.le_of_ble_eq_true rfl) dX12_worth_17 (by exact ⟨Nat.zero_le _, Nat.zero_le _⟩)) hS (fun r u H locs hq hP hS => ?_)
    obtain ⟨rfl, rfl⟩ := hq
    have hP : gP D cy B z T (gI o 12 M I0) R H := hP
    refine lv_if_eq (tgt := 39) X.1 X.2.1 dX12_worth_20 (by decide) (fun c20 => ?_) (fun c20 => ?_)
    · refine lv_sipush (v := (-1002)) X.1 X.2.1 dX12_worth_39 (by decide) ?_
      exact g_iret M X hr hlk hK hP hS dX12_worth_42 ⟨rfl, rfl⟩
    · exact absurd (gt_1 c20) hbad
  · exact absurd (g_man hi hμn) (gt_0 c5)

set_option maxHeartbeats 4000000 in
set_option maxRecDepth 100000 in
/-- c_worth -/
theorem c_worth (hM : gMod o T R) (hi : mInv M σ fl ti sh K τ ms) {μ : Nat} (hμn : μ < σ 38) {t : Nat} (ht : t ≤ 999) (hτ : τ + 60000 < 2 ^ 30) (hK : K < 2 ^ 28) : Met l yX12_worth wsX12_worth ({ frames := 7, cells := 0, slots := 0, locals := 175 }) (mPre s0 D cy B o z T R I0 M [.int (nI μ), .int (nI t)]) (mQi D cy B o z T R I0 (fun r u => r = nI (sAll fl ti sh t 9 σ (σ 38) 1 - σ 1) - nI (sAll fl ti sh t μ σ (σ 38) 1 - σ 1) ∧ mSame qS M u ∧ ∃ τ' ms', τ ≤ τ' ∧ τ' ≤ τ + 52002 ∧ mCache u fl σ τ' ms')) 0 0 (gA B) := by
  refine g_met (maxL := 3) (ret := (some .int)) (by decide) rfl (Nat.le_of_ble_eq_true rfl) (fun p e s m args below meth c ls X hr hlk hnm hK hP hC hS hl => ?_)
  have hl : lv_has ls 3 [(0, .ref o), (1, .int (nI μ)), (2, .int (nI t))] := hl
  have hP : gP D cy B z T (gI o 12 M I0) R s.heap := hP
  have hB : B ≤ s.heap.size := by rw [hP.1]; exact hP.2.1
  have hσ := hi.1
  have hs := hi.2.1
  have hb := hi.2.2.1
  have hca := hi.2.2.2
  have hμ : μ < 4 := Nat.lt_of_lt_of_le hμn hi.2.2.1.2.2.2.2.1
  have h38 := hμn
  refine lv_aload_n X.1 X.2.1 dX12_worth_0 rfl (lv_at hl 0 rfl) ?_
  refine lv_iload_n X.1 X.2.1 dX12_worth_1 rfl (lv_at hl 1 rfl) ?_
  refine g_run_i (g_runV (k := 14) [.int (nI μ)] X hK hP hS hC hB (c_isMan hM _ (nI μ)) (cwV 1 X.2.2.2.2 gX12_worth_X12_isMan rfl rfl rfl (by decide +kernel) ⟨Nat.le_of_ble_eq_true rfl, Nat.le_of_ble_eq_true rfl⟩) (hM.1 0 _ rfl) rfl rfl hl.1 rfl (Nat.le_of_ble_eq_true rfl) dX12_worth_2 (by exact ⟨Nat.zero_le _, Nat.zero_le _⟩)) hS (fun r u H locs hq hP hS => ?_)
  obtain ⟨rfl, rfl⟩ := hq
  have hP : gP D cy B z T (gI o 12 M I0) R H := hP
  refine lv_if_ne (tgt := 12) X.1 X.2.1 dX12_worth_5 (by decide) (fun c5 => ?_) (fun c5 => ?_)
  · refine lv_iload_n X.1 X.2.1 dX12_worth_12 rfl (lv_at hl 2 rfl) ?_
    refine lv_iconst (v := 0) X.1 X.2.1 dX12_worth_13 (by decide) ?_
    refine lv_sipush (v := 999) X.1 X.2.1 dX12_worth_14 (by decide) ?_
    refine g_run_i (g_runS [.int (nI t), .int 0, .int 999] X hK hP hS hC hB (c_in _ (nI t) 0 999) (va_cwS 3 X.2.2.2.2 gX12_worth_X12_in rfl rfl rfl (by decide +kernel) ⟨Nat.le_of_ble_eq_true rfl, Nat.le_of_ble_eq_true rfl⟩) rfl hl.1 rfl (Nat.le_of_ble_eq_true rfl) dX12_worth_17 (by exact ⟨Nat.zero_le _, Nat.zero_le _⟩)) hS (fun r u H locs hq hP hS => ?_)
    obtain ⟨rfl, rfl⟩ := hq
    have hP : gP D cy B z T (gI o 12 M I0) R H := hP
    refine lv_if_eq (tgt := 39) X.1 X.2.1 dX12_worth_20 (by decide) (fun c20 => ?_) (fun c20 => ?_)
    · exact absurd (g_le (a := 0) (b := 999) (x := 0) (y := 999) rfl rfl (by omega) (by omega) (by omega)) (gt_0 c20)
    · refine lv_aload_n X.1 X.2.1 dX12_worth_23 rfl (lv_at hl 0 rfl) ?_
      refine lv_iconst (v := (-1)) X.1 X.2.1 dX12_worth_24 (by decide) ?_
      refine lv_iload_n X.1 X.2.1 dX12_worth_25 rfl (lv_at hl 2 rfl) ?_
      refine g_run_i (g_runV (k := 14) [.int (-1), .int (nI t)] X hK hP hS hC hB (c_byAll hM hi (bn := 9) bt_none (by omega) (by omega) (by omega)) (cwV 2 X.2.2.2.2 gX12_worth_X12_byAll rfl rfl rfl (by decide +kernel) ⟨Nat.le_of_ble_eq_true rfl, Nat.le_of_ble_eq_true rfl⟩) (hM.1 0 _ rfl) rfl rfl hl.1 rfl (Nat.le_of_ble_eq_true rfl) dX12_worth_26 (by exact ⟨Nat.zero_le _, Nat.zero_le _⟩)) hS (fun r u H locs hq hP hS => ?_)
      obtain ⟨rfl, hkN1, τN1, msN1, hτaN1, hτbN1, hcaN1⟩ := hq
      generalize u = N1 at hP hkN1 hcaN1
      have hP : gP D cy B z T (gI o 12 N1 I0) R H := hP
      have hvN1 := inv_q hi hkN1 hcaN1
      refine lv_aload_n X.1 X.2.1 dX12_worth_29 rfl (lv_at hl 0 rfl) ?_
      refine lv_iload_n X.1 X.2.1 dX12_worth_30 rfl (lv_at hl 1 rfl) ?_
      refine lv_iload_n X.1 X.2.1 dX12_worth_31 rfl (lv_at hl 2 rfl) ?_
      refine g_run_i (g_runV (k := 14) [.int (nI μ), .int (nI t)] X hK hP hS hC hB (c_byAll hM hvN1 (bn := μ) (bt_some hμ) (by omega) (by omega) (by omega)) (cwV 2 X.2.2.2.2 gX12_worth_X12_byAll rfl rfl rfl (by decide +kernel) ⟨Nat.le_of_ble_eq_true rfl, Nat.le_of_ble_eq_true rfl⟩) (hM.1 0 _ rfl) rfl rfl hl.1 rfl (Nat.le_of_ble_eq_true rfl) dX12_worth_32 (by exact ⟨Nat.zero_le _, Nat.zero_le _⟩)) hS (fun r u H locs hq hP hS => ?_)
      obtain ⟨rfl, hkN2, τN2, msN2, hτaN2, hτbN2, hcaN2⟩ := hq
      generalize u = N2 at hP hkN2 hcaN2
      have hP : gP D cy B z T (gI o 12 N2 I0) R H := hP
      have hvN2 := inv_q hvN1 hkN2 hcaN2
      refine lv_isub X.1 X.2.1 dX12_worth_35 ?_
      refine lv_goto (tgt := 42) X.1 X.2.1 dX12_worth_36 (by decide) ?_
      exact g_iret N2 X hr hlk hK hP hS dX12_worth_42 ⟨rfl, (fun b i h => (hkN2 b i h).trans (hkN1 b i h)), τN2, msN2, by omega, by omega, hvN2.2.2.2⟩
  · exact absurd (g_man hi hμn) (gt_0 c5)

end MS9
