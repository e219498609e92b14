section MJ
variable {l : Launch} {s0 : State} {D : va_G} {cy : Nat → ClassId} {B o z : Nat} {T : Nat → Nat × Nat} {R : Nat → Nat → Option Nat} {I0 : Nat → Nat → Int32} {M : Nat → Nat → Int32} {σ : Nat → Nat} {fl : List Nat} {ti sh K τ ms : Nat}
/-- the reference's world stands for σ, fl, ti, sh -/
def mInv (M : Nat → Nat → Int32) (σ : Nat → Nat) (fl : List Nat) (ti sh K τ ms : Nat) : Prop := mS M σ ∧ mSite M fl ti sh ∧ sBd σ K ∧ mCache M fl σ τ ms
/-- the frame f holds κ -/
def mFr (M : Nat → Nat → Int32) (f : Nat) (κ : Nat → Nat) : Prop := ∀ k, k < 18 → M 3 (18 * f + k) = nI (κ k)
theorem sTk_le (ht : tOk 20 fl 0) (hl : fl.length ≤ 140) (hb : sBd σ K) {μ : Nat} (hμ : μ < 4) (υ β : Nat) : sTk fl σ μ υ β ≤ 13900 := by
  have h1 := sX_le ht hl (fF σ μ υ β)
  have h2 : σ (4 + μ) ≤ 99 := hb.2.2.1 μ hμ
  unfold sTk
  split <;> split <;> omega
theorem sTh_le (ht : tOk 20 fl 0) (hl : fl.length ≤ 140) (hb : sBd σ K) {μ : Nat} (hμ : μ < 4) (β : Nat) : ∀ n, sTh fl σ μ β n ≤ 13900 * n
  | 0 => Nat.le_refl _
  | n + 1 => by
    have h1 := sTh_le ht hl hb hμ β n
    have h2 := sTk_le ht hl hb hμ n (sBa fl σ μ β n)
    show sTh fl σ μ β n + sTk fl σ μ n (sBa fl σ μ β n) ≤ _
    omega
theorem sHm_le (ht : tOk 20 fl 0) (hl : fl.length ≤ 140) (hb : sBd σ K) {μ : Nat} (hμ : μ < 4) : ∀ n, sHm fl σ μ n ≤ 13900 * n
  | 0 => Nat.le_refl _
  | n + 1 => by
    have h1 := sHm_le ht hl hb hμ n
    have h2 := sTk_le ht hl hb hμ (9 - n) 0
    show sHm fl σ μ n + sTk fl σ μ (9 - n) 0 ≤ _
    omega
theorem sSe_le (hs : mSite M fl ti sh) (hb : sBd σ K) {μ : Nat} (hμ : μ < 4) (ld : Nat) : sSe fl sh σ μ ld ≤ 290000 := by
  have h1 := sTh_le hs.1 hs.2.1 hb hμ (sCm σ μ ld) 10
  have h2 := sHm_le hs.1 hs.2.1 hb hμ 10
  have h3 := sCm_le σ μ ld
  have h4 : σ (48 + μ) ≤ 9 := (hb.2.2.2.2.2.2.2.2.1 μ hμ).2.1
  have h5 : sh * sCm σ μ ld ≤ 99 * 20 := Nat.mul_le_mul hs.2.2.2.1 h3
  unfold sSe sFi
  split <;> omega
theorem sTk_pos (fl : List Nat) (σ : Nat → Nat) (μ υ β : Nat) : 1 ≤ sTk fl σ μ υ β := by unfold sTk; omega
theorem sTh_ge (fl : List Nat) (σ : Nat → Nat) (μ β : Nat) : ∀ n, n ≤ sTh fl σ μ β n
  | 0 => Nat.le_refl _
  | n + 1 => by
    have h1 := sTh_ge fl σ μ β n
    have h2 := sTk_pos fl σ μ n (sBa fl σ μ β n)
    show n + 1 ≤ sTh fl σ μ β n + sTk fl σ μ n (sBa fl σ μ β n)
    omega
theorem sHm_ge (fl : List Nat) (σ : Nat → Nat) (μ : Nat) : ∀ n, n ≤ sHm fl σ μ n
  | 0 => Nat.le_refl _
  | n + 1 => by
    have h1 := sHm_ge fl σ μ n
    have h2 := sTk_pos fl σ μ (9 - n) 0
    show n + 1 ≤ sHm fl σ μ n + sTk fl σ μ (9 - n) 0
    omega
theorem sSe_ge (fl : List Nat) (sh : Nat) (σ : Nat → Nat) (μ ld : Nat) : 20 ≤ sSe fl sh σ μ ld := by
  have h1 := sTh_ge fl σ μ (sCm σ μ ld) 10
  have h2 := sHm_ge fl σ μ 10
  unfold sSe
  omega
theorem sBr_le (fl : List Nat) (σ : Nat → Nat) (μ ld : Nat) : sBr fl σ μ ld ≤ sCm σ μ ld := sBa_le fl σ μ _ 10
theorem sGo_18 {μ ld i : Nat} (hμ : μ < 4) (hi : 18 ≤ i) : sGo fl ti sh σ μ ld i = σ i := by
  unfold sGo
  rw [if_neg (by omega), if_neg (by omega), if_neg (by omega), if_neg (by omega), if_neg (by omega), if_neg (by omega)]
theorem sGo_0 {μ ld : Nat} : sGo fl ti sh σ μ ld 0 = σ 0 - sCm σ μ ld := rfl
theorem sGo_1 {μ ld : Nat} : sGo fl ti sh σ μ ld 1 = σ 1 + sBr fl σ μ ld := rfl
theorem sGo_2 {μ ld : Nat} : sGo fl ti sh σ μ ld 2 = σ 2 + sSe fl sh σ μ ld := rfl
theorem sGo_3 {μ ld : Nat} : sGo fl ti sh σ μ ld 3 = σ 3 + 1 := rfl
theorem sGo_4 {μ ld : Nat} : sGo fl ti sh σ μ ld (4 + μ) = sTd ti σ μ ld := by
  unfold sGo
  rw [if_neg (by omega), if_neg (by omega), if_neg (by omega), if_neg (by omega), if_pos rfl]
theorem sGo_4n {μ ld μ2 : Nat} (h4 : μ2 < 4) (h : μ2 ≠ μ) : sGo fl ti sh σ μ ld (4 + μ2) = σ (4 + μ2) := by
  unfold sGo
  rw [if_neg (by omega), if_neg (by omega), if_neg (by omega), if_neg (by omega), if_neg (by omega), if_neg (by omega)]
theorem sBd_go (hs : mSite M fl ti sh) (hb : sBd σ K) {μ : Nat} (hμ : μ < 4) (ld : Nat) : sBd (sGo fl ti sh σ μ ld) (K + 300000) := by
  have h1 := sSe_le hs hb hμ ld
  have h2 := sBr_le fl σ μ ld
  have h3 := sCm_le σ μ ld
  obtain ⟨c0, ⟨c1, c2, c3⟩, c4, c5, c6, c7, c8, c9, c10, c11, c12⟩ := hb
  refine ⟨by rw [sGo_0]; omega, ⟨by rw [sGo_1]; omega, by rw [sGo_2]; omega, by rw [sGo_3]; omega⟩, fun μ2 h => ?_, fun υ hυ => ?_, by rw [sGo_18 hμ (by omega)]; exact c6, by rw [sGo_18 hμ (by omega)]; exact c7, by rw [sGo_18 hμ (by omega)]; exact c8, by rw [sGo_18 hμ (by omega)]; exact c9, fun μ2 h => ?_, fun k hk => by rw [sGo_18 hμ (by omega)]; exact c11 k hk, fun k hk => by rw [sGo_18 hμ (by omega)]; exact c12 k hk⟩
  · by_cases e : μ2 = μ
    · subst e
      rw [sGo_4]
      have := c4 μ2 hμ
      have := hs.2.2.1
      unfold sTd
      split <;> omega
    · rw [sGo_4n h e]
      exact c4 μ2 h
  · by_cases e : υ < 10
    · unfold sGo
      rw [if_neg (by omega), if_neg (by omega), if_neg (by omega), if_neg (by omega), if_neg (by omega)]
      have h7 := c5 υ hυ
      unfold sSo
      split
      · split <;> omega
      · exact h7
    · rw [sGo_18 hμ (by omega)]
      exact c5 υ hυ
  · rw [sGo_18 hμ (by omega), sGo_18 hμ (by omega), sGo_18 hμ (by omega)]
    exact c10 μ2 h
theorem inv_keep (h : mInv M σ fl ti sh K τ ms) (f : Nat) : mInv (mKeep M f 18) σ fl ti sh K τ ms :=
  ⟨mS_c h.1 (fun i => mKeep_r M f 18 1 i (by decide)), mSite_c h.2.1 (fun i _ _ => mKeep_r M f 18 1 i (by decide)), h.2.2.1, mCache_c h.2.2.2 (mKeep_r M f 18 0 17 (by decide)) (mKeep_r M f 18 0 18 (by decide)) (fun a => ⟨mKeep_r M f 18 6 a (by decide), mKeep_r M f 18 7 a (by decide), mKeep_r M f 18 8 a (by decide)⟩)⟩
theorem fr_keep (h : mS M σ) (f : Nat) : mFr (mKeep M f 18) f σ := fun k hk => by
  unfold mKeep
  rw [if_pos ⟨rfl, by omega, by omega⟩, show 18 * f + k - 18 * f = k by omega]
  exact h k (by omega) (by omega)
theorem fr_keep1 {κ : Nat → Nat} (h : mFr M 0 κ) : mFr (mKeep M 1 18) 0 κ := fun k hk => by
  unfold mKeep
  rw [if_neg (by omega)]
  exact h k hk
theorem fr_c {M' : Nat → Nat → Int32} {f : Nat} {κ : Nat → Nat} (h : mFr M f κ) (hc : ∀ i, M' 3 i = M 3 i) : mFr M' f κ := fun k hk => (hc _).trans (h k hk)
theorem inv_back {σk : Nat → Nat} {f Kk : Nat} (h : mInv M σk fl ti sh Kk τ ms) (hf : mFr M f σ) (hb : sBd σ K) (h18 : ∀ i, 18 ≤ i → σk i = σ i) (hτ : τ + 1 < 2 ^ 30) : mInv (mBack (g2 M 0 17 (M 0 17 + 1)) f 18) σ fl ti sh K (τ + 1) ms := by
  have hr : ∀ b i, ¬ (b = 1 ∧ i < 18) → ¬ (b = 0 ∧ i = 17) → mBack (g2 M 0 17 (M 0 17 + 1)) f 18 b i = M b i := fun b i h1 h2 => by
    rw [mBack_r _ _ _ _ _ h1]
    simp only [g2]
    rw [if_neg h2]
  refine ⟨fun i h1 h2 => ?_, mSite_c h.2.1 (fun i _ _ => hr 1 i (by omega) (by omega)), hb, mCache_tick h.2.2.2 hτ ?_ (hr 0 18 (by omega) (by omega)) (fun a => hr 6 a (by omega) (by omega))⟩
  · by_cases hi : i < 18
    · unfold mBack
      rw [if_pos ⟨rfl, hi⟩]
      simp only [g2]
      rw [if_neg (by omega)]
      exact hf i hi
    · rw [hr 1 i (by omega) (by omega), h.1 i h1 h2, h18 i (by omega)]
  · rw [mBack_r _ _ _ _ _ (by omega), g2_same, h.2.2.2.2.2.1, nI_1]
theorem back_r {f b i : Nat} (h1 : ¬ (b = 1 ∧ i < 18)) (h2 : ¬ (b = 0 ∧ i = 17)) : mBack (g2 M 0 17 (M 0 17 + 1)) f 18 b i = M b i := by
  rw [mBack_r _ _ _ _ _ h1]
  simp only [g2]
  rw [if_neg h2]
/-- behind a goes -/
theorem inv_goes {u : Nat → Nat → Int32} {μ ld : Nat} (h : mInv M σ fl ti sh K τ ms) (hμ : μ < 4) (h1 : mS u (sGo fl ti sh σ μ ld)) {τ' ms' : Nat} (h2 : mCache u fl (sGo fl ti sh σ μ ld) τ' ms') (h3 : mSame gS M u) : mInv u (sGo fl ti sh σ μ ld) fl ti sh (K + 300000) τ' ms' :=
  ⟨h1, mSite_c h.2.1 (fun i _ _ => h3 1 i (by unfold gS lS; omega)), sBd_go h.2.1 h.2.2.1 hμ ld, h2⟩
theorem gS_fr {u : Nat → Nat → Int32} {f : Nat} {κ : Nat → Nat} (h : mFr M f κ) (h3 : mSame gS M u) : mFr u f κ := fr_c h (fun i => h3 3 i (by unfold gS lS; omega))
def sIt (fl : List Nat) (ti sh : Nat) (σ : Nat → Nat) (μ ld : Nat) : Nat → (Nat → Nat)
  | 0 => σ
  | n + 1 => sGo fl ti sh (sIt fl ti sh σ μ ld n) μ ld
theorem sIt_18 {μ ld : Nat} (hμ : μ < 4) : ∀ n i, 18 ≤ i → sIt fl ti sh σ μ ld n i = σ i
  | 0, _, _ => rfl
  | n + 1, i, hi => (sGo_18 hμ hi).trans (sIt_18 hμ n i hi)
theorem sIt_m {μ ld : Nat} : ∀ n, σ 1 ≤ sIt fl ti sh σ μ ld n 1 ∧ σ 2 ≤ sIt fl ti sh σ μ ld n 2 ∧ sIt fl ti sh σ μ ld n 0 ≤ σ 0 ∧ sIt fl ti sh σ μ ld n 1 - σ 1 ≤ σ 0 - sIt fl ti sh σ μ ld n 0
  | 0 => ⟨Nat.le_refl _, Nat.le_refl _, Nat.le_refl _, by show σ 1 - σ 1 ≤ σ 0 - σ 0; omega⟩
  | n + 1 => by
    obtain ⟨h1, h2, h3, h4⟩ := sIt_m (μ := μ) (ld := ld) n
    have h5 := sBr_le fl (sIt fl ti sh σ μ ld n) μ ld
    have h6 := sCm_e (sIt fl ti sh σ μ ld n) μ ld
    show σ 1 ≤ sGo fl ti sh (sIt fl ti sh σ μ ld n) μ ld 1 ∧ σ 2 ≤ sGo fl ti sh (sIt fl ti sh σ μ ld n) μ ld 2 ∧ sGo fl ti sh (sIt fl ti sh σ μ ld n) μ ld 0 ≤ σ 0 ∧ sGo fl ti sh (sIt fl ti sh σ μ ld n) μ ld 1 - σ 1 ≤ σ 0 - sGo fl ti sh (sIt fl ti sh σ μ ld n) μ ld 0
    rw [sGo_0, sGo_1, sGo_2]
    omega
/-- rows that a question may leave otherwise -/
def qS (b i : Nat) : Prop := (3 ≤ b ∧ b ≤ 10) ∨ (b = 0 ∧ (i = 12 ∨ i = 13 ∨ (17 ≤ i ∧ i ≤ 22)))
theorem qS_row {u : Nat → Nat → Int32} (h : mSame qS M u) (i : Nat) : u 1 i = M 1 i := h 1 i (by unfold qS; omega)
/-- a question's end: what it went back to -/
theorem inv_q {u : Nat → Nat → Int32} {τ' ms' : Nat} (h : mInv M σ fl ti sh K τ ms) (hq : mSame qS M u) (hc : mCache u fl σ τ' ms') : mInv u σ fl ti sh K τ' ms' := ⟨mS_c h.1 (qS_row hq), mSite_c h.2.1 (fun i _ _ => qS_row hq i), h.2.2.1, hc⟩

set_option maxHeartbeats 4000000 in
set_option maxRecDepth 100000 in
/-- oneRound -/
theorem c_oneRound (hM : gMod o T R) (hi : mInv M σ fl ti sh K τ ms) {μ ld : Nat} (hμ : μ < 4) (h38 : μ < σ 38) (hld : ld ≤ 20) (hτ : τ + 40 < 2 ^ 30) (hK : K < 2 ^ 28) : Met l yX12_oneRound wsX12_oneRound ({ frames := 5, cells := 0, slots := 0, locals := 125 }) (mPre s0 D cy B o z T R I0 M [.int (nI μ), .int (nI ld)]) (mQi D cy B o z T R I0 (fun r u => r = nI (sSe fl sh σ μ ld) ∧ mSame qS M u ∧ ∃ τ' ms', τ ≤ τ' ∧ τ' ≤ τ + 32 ∧ mCache u fl σ τ' ms')) 0 0 (gA B) := by
  refine g_met (maxL := 3) (ret := (some .int)) (by decide) rfl (Nat.le_of_ble_eq_true rfl) (fun p e s m args below meth c ls X hr hlk hnm hK hP hC hS hl => ?_)
  have hl : lv_has ls 3 [(0, .ref o), (1, .int (nI μ)), (2, .int (nI ld))] := hl
  have hP : gP D cy B z T (gI o 12 M I0) R s.heap := hP
  have hB : B ≤ s.heap.size := by rw [hP.1]; exact hP.2.1
  have hin : ∀ w ∈ wsX120, w ∈ wsX12_oneRound := fun _ h => List.mem_cons_of_mem _ (List.mem_append_right _ h)
  have k187 : Cond.fieldLink RX12 187 "BarrowPlankModel" "seconds" "I" ∈ wsX12_oneRound := by decide +kernel
  have hσ := hi.1
  have hs := hi.2.1
  have hb := hi.2.2.1
  have hca := hi.2.2.2
  refine lv_aload_n X.1 X.2.1 dX12_oneRound_0 rfl (lv_at hl 0 rfl) ?_
  refine lv_iconst (v := 0) X.1 X.2.1 dX12_oneRound_1 (by decide) ?_
  refine g_run_v (g_runV (k := 14) [.int 0] X hK hP hS hC hB (c_keeps hM M (f := 0) (by decide)) (cwV 1 X.2.2.2.2 gX12_oneRound_X12_keeps rfl rfl rfl (by decide +kernel) ⟨Nat.le_of_ble_eq_true rfl, Nat.le_of_ble_eq_true rfl⟩) (hM.1 0 _ rfl) rfl rfl hl.1 rfl (Nat.le_of_ble_eq_true rfl) dX12_oneRound_2 (by exact ⟨Nat.zero_le _, Nat.zero_le _⟩)) hS (fun u H locs hq hP hS => ?_)
  have hq : mKeep M 0 18 = u := hq.symm
  have hvN1 := inv_keep hi 0
  have hfN1 := fr_keep hi.1 0
  have hrN1 : ∀ b i, b ≠ 3 → mKeep M 0 18 b i = M b i := fun b i h => mKeep_r _ _ _ _ _ h
  generalize mKeep M 0 18 = N1 at hq hP hvN1 hfN1 hrN1
  subst hq
  have hP : gP D cy B z T (gI o 12 N1 I0) R H := hP
  refine lv_aload_n X.1 X.2.1 dX12_oneRound_5 rfl (lv_at hl 0 rfl) ?_
  refine lv_iload_n X.1 X.2.1 dX12_oneRound_6 rfl (lv_at hl 1 rfl) ?_
  refine lv_iload_n X.1 X.2.1 dX12_oneRound_7 rfl (lv_at hl 2 rfl) ?_
  refine g_run_v (g_runV (k := 14) [.int (nI μ), .int (nI ld)] X hK hP hS hC hB (c_goes hM hvN1.1 hvN1.2.1 hvN1.2.2.1 hμ (by first | exact h38 | omega | (rw [sIt_18 hμ _ _ (by omega)]; exact h38) | (rw [h18 38 (by omega)]; exact h38)) (by omega) hvN1.2.2.2 (by omega) (by omega)) (cwV 2 X.2.2.2.2 gX12_oneRound_X12_goes rfl rfl rfl (by decide +kernel) ⟨Nat.le_of_ble_eq_true rfl, Nat.le_of_ble_eq_true rfl⟩) (hM.1 0 _ rfl) rfl rfl hl.1 rfl (Nat.le_of_ble_eq_true rfl) dX12_oneRound_8 (by exact ⟨Nat.zero_le _, Nat.zero_le _⟩)) hS (fun u H locs hq hP hS => ?_)
  obtain ⟨h19N2, h20N2, h21N2, h22N2, hσN2, ⟨τN2, msN2, hτaN2, hτbN2, hcaN2⟩, hkN2⟩ := hq
  generalize u = N2 at hP h19N2 h20N2 h21N2 h22N2 hσN2 hcaN2 hkN2
  have hP : gP D cy B z T (gI o 12 N2 I0) R H := hP
  have hvN2 := inv_goes hvN1 hμ hσN2 hcaN2 hkN2
  have hfr0N2 := gS_fr hfN1 hkN2
  refine lv_aload_n X.1 X.2.1 dX12_oneRound_11 rfl (lv_at hl 0 rfl) ?_
  refine lv_iconst (v := 0) X.1 X.2.1 dX12_oneRound_12 (by decide) ?_
  refine g_run_v (g_runV (k := 14) [.int 0] X hK hP hS hC hB (c_back hM N2 (f := 0) (by decide)) (cwV 1 X.2.2.2.2 gX12_oneRound_X12_goesBackTo rfl rfl rfl (by decide +kernel) ⟨Nat.le_of_ble_eq_true rfl, Nat.le_of_ble_eq_true rfl⟩) (hM.1 0 _ rfl) rfl rfl hl.1 rfl (Nat.le_of_ble_eq_true rfl) dX12_oneRound_13 (by exact ⟨Nat.zero_le _, Nat.zero_le _⟩)) hS (fun u H locs hq hP hS => ?_)
  have hvN3 := inv_back hvN2 hfr0N2 hb (fun i hi9 => sGo_18 hμ hi9) (by omega)
  have hrN3 : ∀ b i, ¬ (b = 1 ∧ i < 18) → ¬ (b = 0 ∧ i = 17) → u b i = N2 b i := fun b i h1 h2 => by rw [hq]; exact back_r h1 h2
  rw [← hq] at hvN3
  clear hq
  generalize u = N3 at hP hvN3 hrN3
  have hP : gP D cy B z T (gI o 12 N3 I0) R H := hP
  refine lv_aload_n X.1 X.2.1 dX12_oneRound_16 rfl (lv_at hl 0 rfl) ?_
  refine m_geti 21 X hK hP hM hin rfl (by decide) k187 rfl dX12_oneRound_17 (show N3 0 21 = nI (sSe fl sh σ μ ld) from ((hrN3 0 21 (by omega) (by omega)).trans h21N2)) ?_
  exact g_iret N3 X hr hlk hK hP hS dX12_oneRound_20 ⟨rfl, (fun b i h => by by_cases e1 : b = 1; (· subst e1; by_cases e2 : i < 18; (· rw [hvN3.1 i (by omega) (by omega), hσ i (by omega) (by omega)]); unfold qS at h; exact ((hrN3 1 i (by omega) (by omega)).trans ((hkN2 1 i (by unfold gS lS; omega)).trans ((hrN1 1 i (by omega)).trans rfl)))); unfold qS at h; exact ((hrN3 b i (by omega) (by omega)).trans ((hkN2 b i (by unfold gS lS; omega)).trans ((hrN1 b i (by omega)).trans rfl)))), (τN2 + 1), msN2, by omega, by omega, hvN3.2.2.2⟩

end MJ
