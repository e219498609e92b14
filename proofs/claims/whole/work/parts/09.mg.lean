section MG
variable {l : Launch} {s0 : State} {D : va_G} {cy : Nat → ClassId} {B o z : Nat} {T : Nat → Nat × Nat} {R : Nat → Nat → Option Nat} {I0 : Nat → Nat → Int32} {M : Nat → Nat → Int32} {σ : Nat → Nat} {fl : List Nat} {ti sh K : Nat}
def mSoft (M : Nat → Nat → Int32) (σ : Nat → Nat) (n : Nat) : Nat → Nat → Int32 := fun b i => if b = 1 ∧ 8 ≤ i ∧ i < 8 + n then nI (sSo σ i) else M b i
theorem mSoft_0 (M : Nat → Nat → Int32) (σ : Nat → Nat) : mSoft M σ 0 = M := by
  funext b i
  unfold mSoft
  rw [if_neg (by omega)]
theorem mSoft_s (M : Nat → Nat → Int32) (σ : Nat → Nat) (n : Nat) {x : Int32} (hx : x = nI (sSo σ (8 + n))) : g2 (mSoft M σ n) 1 (8 + n) x = mSoft M σ (n + 1) := by
  funext b i
  unfold mSoft g2
  dsimp only
  by_cases h : b = 1 ∧ i = 8 + n
  · obtain ⟨rfl, rfl⟩ := h
    rw [if_pos ⟨rfl, rfl⟩, if_pos (by omega), hx]
  · rw [if_neg h]
    by_cases h2 : b = 1 ∧ 8 ≤ i ∧ i < 8 + n
    · rw [if_pos h2, if_pos (by omega)]
    · rw [if_neg h2, if_neg (by omega)]
theorem mSoft_r (M : Nat → Nat → Int32) (σ : Nat → Nat) (n b i : Nat) (h : ¬ (b = 1 ∧ 8 ≤ i ∧ i < 8 + n)) : mSoft M σ n b i = M b i := by
  unfold mSoft
  rw [if_neg h]

set_option maxHeartbeats 4000000 in
set_option maxRecDepth 100000 in
/-- softens -/
theorem c_softens (hM : gMod o T R) (hσ : mS M σ) (hb : sBd σ K) : Met l yX12_softens wsX12_softens ({ frames := 0, cells := 0, slots := 0, locals := 0 }) (mPre s0 D cy B o z T R I0 M []) (mQv D cy B o z T R I0 (fun u => u = mSoft (g2 M 0 17 (M 0 17 + 1)) σ 10)) 0 0 (gA B) := by
  refine g_met (maxL := 2) (ret := none) (by decide) rfl (Nat.le_of_ble_eq_true rfl) (fun p e s m args below meth c ls X hr hlk hnm hK hP hC hS hl => ?_)
  have hl : lv_has ls 2 [(0, .ref o)] := hl
  have hP : gP D cy B z T (gI o 12 M I0) R s.heap := hP
  have hB : B ≤ s.heap.size := by rw [hP.1]; exact hP.2.1
  have hin : ∀ w ∈ wsX120, w ∈ wsX12_softens := fun _ h => List.mem_cons_of_mem _ (List.mem_append_right _ h)
  have k9 : Cond.fieldLink RX12 9 "BarrowPlankModel" "s" "[I" ∈ wsX12_softens := by decide +kernel
  have k37 : Cond.fieldLink RX12 37 "BarrowPlankModel" "times" "I" ∈ wsX12_softens := by decide +kernel
  refine lv_aload_n X.1 X.2.1 dX12_softens_0 rfl (lv_at hl 0 rfl) ?_
  refine lv_dup X.1 X.2.1 dX12_softens_1 rfl ?_
  refine m_geti 17 X hK hP hM hin rfl (by decide) k37 rfl dX12_softens_2 (show M 0 17 = M 0 17 from rfl) ?_
  refine lv_iconst (v := 1) X.1 X.2.1 dX12_softens_5 (by decide) ?_
  refine lv_iadd X.1 X.2.1 dX12_softens_6 ?_
  refine m_puti 17 X hK hP hS hM hin rfl (by decide) k37 rfl rfl rfl rfl dX12_softens_7 (fun H locs hP hS => ?_)
  generalize eM1 : g2 M 0 17 ((M 0 17) + 1) = M1 at hP
  refine lv_iconst (v := 0) X.1 X.2.1 dX12_softens_10 (by decide) ?_
  refine lv_istore_n (lv' := [(1, .int 0), (0, .ref o)]) X.1 X.2.1 dX12_softens_11 rfl hl (by decide) rfl (fun ls hl => ?_)
  have hσ1 : mS M1 σ := fun i h1 h2 => by rw [← eM1]; exact (g2_na (by decide)).trans (hσ i h1 h2)
  have hl : lv_has ls 2 [(0, .ref o), (1, .int (nI 0))] := lv_sub hl [1, 0] rfl
  refine m_loop (M := M1) 10 12 [] (fun k N ls => N = mSoft M1 σ k ∧ lv_has ls 2 [(0, .ref o), (1, .int (nI k))]) 0 (by omega) ⟨(mSoft_0 M1 σ).symm, hl⟩ hP hS (fun k N H locs ls hk hi hP hS ih => ?_)
  obtain ⟨rfl, hl⟩ := hi
  generalize eN : mSoft M1 σ k = N at hP
  refine lv_iload_n X.1 X.2.1 dX12_softens_12 rfl (lv_at hl 1 rfl) ?_
  refine lv_bipush (v := 10) X.1 X.2.1 dX12_softens_13 (by decide) ?_
  refine lv_icmp_ge (tgt := 67) X.1 X.2.1 dX12_softens_15 (by decide) (fun c15 => ?_) (fun c15 => ?_)
  · have n15 : 10 ≤ k := gq_le c15 (show (10 : Int32) = nI 10 from rfl) (Eq.refl (nI k)) (by omega) (by omega)
    exact g_vret N X hr hlk hK hP hS dX12_softens_67 (by rw [← eN, ← eM1, show k = 10 from gk18 hk c15])
  · have n15 : k < 10 := gq_nle c15 (show (10 : Int32) = nI 10 from rfl) (Eq.refl (nI k)) (by omega) (by omega)
    have hk9 : k < 10 := gk_lt hk c15
    have b8 : σ (8 + k) ≤ 9 := hb.2.2.2.1 k (by omega)
    have b28 : σ (28 + k) ≤ 9 := by have h := hb.2.2.2.1 (20 + k) (by omega); rw [← Nat.add_assoc] at h; exact h
    refine lv_aload_n X.1 X.2.1 dX12_softens_18 rfl (lv_at hl 0 rfl) ?_
    refine m_getr 1 1 X hK hP hM hin rfl (by decide) k9 rfl dX12_softens_19 (by decide) ?_
    refine lv_bipush (v := 8) X.1 X.2.1 dX12_softens_22 (by decide) ?_
    refine lv_iload_n X.1 X.2.1 dX12_softens_24 rfl (lv_at hl 1 rfl) ?_
    refine lv_iadd X.1 X.2.1 dX12_softens_25 ?_
    refine lv_dup2_11 X.1 X.2.1 dX12_softens_26 rfl rfl ?_
    refine m_ald 1 (8 + k) 883 X hK hP hM rfl (gIx_of (gn_add (show (8 : Int32) = nI 8 from rfl) (Eq.refl (nI k))) (by omega) (by omega)) dX12_softens_27 (show N 1 (8 + k) = nI (σ (8 + k)) from (by rw [← eN, mSoft_r _ _ _ _ _ (by omega)]; exact hσ1 _ (by omega) (by omega))) ?_
    refine lv_aload_n X.1 X.2.1 dX12_softens_28 rfl (lv_at hl 0 rfl) ?_
    refine m_getr 1 1 X hK hP hM hin rfl (by decide) k9 rfl dX12_softens_29 (by decide) ?_
    refine lv_bipush (v := 28) X.1 X.2.1 dX12_softens_32 (by decide) ?_
    refine lv_iload_n X.1 X.2.1 dX12_softens_34 rfl (lv_at hl 1 rfl) ?_
    refine lv_iadd X.1 X.2.1 dX12_softens_35 ?_
    refine m_ald 1 (28 + k) 883 X hK hP hM rfl (gIx_of (gn_add (show (28 : Int32) = nI 28 from rfl) (Eq.refl (nI k))) (by omega) (by omega)) dX12_softens_36 (show N 1 (28 + k) = nI (σ (28 + k)) from (by rw [← eN, mSoft_r _ _ _ _ _ (by omega)]; exact hσ1 _ (by omega) (by omega))) ?_
    refine lv_if_ne (tgt := 58) X.1 X.2.1 dX12_softens_37 (by decide) (fun c37 => ?_) (fun c37 => ?_)
    · have n37 : ¬ σ (28 + k) = 0 := gq_ne c37 (Eq.refl (nI (σ (28 + k)))) (show (0 : Int32) = nI 0 from rfl) (by omega) (by omega)
      refine lv_iconst (v := 0) X.1 X.2.1 dX12_softens_58 (by decide) ?_
      refine lv_iadd X.1 X.2.1 dX12_softens_59 ?_
      refine m_ast 1 (8 + k) 883 X hK hP hS hM rfl (gIx_of (gn_add (show (8 : Int32) = nI 8 from rfl) (Eq.refl (nI k))) (by omega) (by omega)) dX12_softens_60 (fun H locs hP hS => ?_)
      generalize eM2 : g2 N 1 (8 + k) ((nI (σ (8 + k))) + 0) = M2 at hP
      refine lv_iinc (v := nI (k + 1)) (lv' := [(1, .int (nI (k + 1))), (0, .ref o)]) X.1 X.2.1 dX12_softens_61 hl (k := 1) rfl (gn_inc (Eq.refl (nI k)) 1) (by decide) rfl (fun ls hl => ?_)
      refine lv_goto (tgt := 12) X.1 X.2.1 dX12_softens_64 (by decide) ?_
      exact ih _ _ _ _ (by omega) ⟨(by rw [← eM2, ← eN]; exact mSoft_s M1 σ k ((gn_add (Eq.refl (nI (σ (8 + k)))) (show (0 : Int32) = nI 0 from rfl)).trans (congrArg nI (by unfold sSo; rw [if_neg (by rw [show 8 + k + 20 = 28 + k by omega]; exact fun q => n37 q.1)]; omega)))), lv_sub hl [1, 0] rfl⟩ hP hS
    · have n37 : σ (28 + k) = 0 := gq_eq c37 (Eq.refl (nI (σ (28 + k)))) (show (0 : Int32) = nI 0 from rfl) (by omega) (by omega)
      refine lv_aload_n X.1 X.2.1 dX12_softens_40 rfl (lv_at hl 0 rfl) ?_
      refine m_getr 1 1 X hK hP hM hin rfl (by decide) k9 rfl dX12_softens_41 (by decide) ?_
      refine lv_bipush (v := 8) X.1 X.2.1 dX12_softens_44 (by decide) ?_
      refine lv_iload_n X.1 X.2.1 dX12_softens_46 rfl (lv_at hl 1 rfl) ?_
      refine lv_iadd X.1 X.2.1 dX12_softens_47 ?_
      refine m_ald 1 (8 + k) 883 X hK hP hM rfl (gIx_of (gn_add (show (8 : Int32) = nI 8 from rfl) (Eq.refl (nI k))) (by omega) (by omega)) dX12_softens_48 (show N 1 (8 + k) = nI (σ (8 + k)) from (by rw [← eN, mSoft_r _ _ _ _ _ (by omega)]; exact hσ1 _ (by omega) (by omega))) ?_
      refine lv_bipush (v := 9) X.1 X.2.1 dX12_softens_49 (by decide) ?_
      refine lv_icmp_ge (tgt := 58) X.1 X.2.1 dX12_softens_51 (by decide) (fun c51 => ?_) (fun c51 => ?_)
      · have n51 : 9 ≤ σ (8 + k) := gq_le c51 (show (9 : Int32) = nI 9 from rfl) (Eq.refl (nI (σ (8 + k)))) (by omega) (by omega)
        refine lv_iconst (v := 0) X.1 X.2.1 dX12_softens_58 (by decide) ?_
        refine lv_iadd X.1 X.2.1 dX12_softens_59 ?_
        refine m_ast 1 (8 + k) 883 X hK hP hS hM rfl (gIx_of (gn_add (show (8 : Int32) = nI 8 from rfl) (Eq.refl (nI k))) (by omega) (by omega)) dX12_softens_60 (fun H locs hP hS => ?_)
        generalize eM3 : g2 N 1 (8 + k) ((nI (σ (8 + k))) + 0) = M3 at hP
        refine lv_iinc (v := nI (k + 1)) (lv' := [(1, .int (nI (k + 1))), (0, .ref o)]) X.1 X.2.1 dX12_softens_61 hl (k := 1) rfl (gn_inc (Eq.refl (nI k)) 1) (by decide) rfl (fun ls hl => ?_)
        refine lv_goto (tgt := 12) X.1 X.2.1 dX12_softens_64 (by decide) ?_
        exact ih _ _ _ _ (by omega) ⟨(by rw [← eM3, ← eN]; exact mSoft_s M1 σ k ((gn_add (Eq.refl (nI (σ (8 + k)))) (show (0 : Int32) = nI 0 from rfl)).trans (congrArg nI (by unfold sSo; rw [if_neg (fun q => absurd q.2 (by omega))]; omega)))), lv_sub hl [1, 0] rfl⟩ hP hS
      · have n51 : σ (8 + k) < 9 := gq_nle c51 (show (9 : Int32) = nI 9 from rfl) (Eq.refl (nI (σ (8 + k)))) (by omega) (by omega)
        refine lv_iconst (v := 1) X.1 X.2.1 dX12_softens_54 (by decide) ?_
        refine lv_goto (tgt := 59) X.1 X.2.1 dX12_softens_55 (by decide) ?_
        refine lv_iadd X.1 X.2.1 dX12_softens_59 ?_
        refine m_ast 1 (8 + k) 883 X hK hP hS hM rfl (gIx_of (gn_add (show (8 : Int32) = nI 8 from rfl) (Eq.refl (nI k))) (by omega) (by omega)) dX12_softens_60 (fun H locs hP hS => ?_)
        generalize eM4 : g2 N 1 (8 + k) ((nI (σ (8 + k))) + 1) = M4 at hP
        refine lv_iinc (v := nI (k + 1)) (lv' := [(1, .int (nI (k + 1))), (0, .ref o)]) X.1 X.2.1 dX12_softens_61 hl (k := 1) rfl (gn_inc (Eq.refl (nI k)) 1) (by decide) rfl (fun ls hl => ?_)
        refine lv_goto (tgt := 12) X.1 X.2.1 dX12_softens_64 (by decide) ?_
        exact ih _ _ _ _ (by omega) ⟨(by rw [← eM4, ← eN]; exact mSoft_s M1 σ k ((gn_add (Eq.refl (nI (σ (8 + k)))) (show (1 : Int32) = nI 1 from rfl)).trans (congrArg nI (by unfold sSo; rw [if_pos ⟨by rw [show 8 + k + 20 = 28 + k by omega]; exact n37, by omega⟩])))), lv_sub hl [1, 0] rfl⟩ hP hS

set_option maxHeartbeats 4000000 in
set_option maxRecDepth 100000 in
/-- tires -/
theorem c_tires (hM : gMod o T R) (hσ : mS M σ) (hs : mSite M fl ti sh) (hb : sBd σ K) {μ cm : Nat} (hμ : μ < 4) (hcm : M 0 19 = nI cm) (hc2 : cm ≤ 20) : Met l yX12_tires wsX12_tires ({ frames := 2, cells := 0, slots := 0, locals := 43 }) (mPre s0 D cy B o z T R I0 M [.int (nI μ)]) (mQv D cy B o z T R I0 (fun u => u = g2 M 1 (4 + μ) (nI (if σ (52 + μ) < cm then min 99 (σ (4 + μ) + ti) else σ (4 + μ) - 1)))) 0 0 (gA B) := by
  refine g_met (maxL := 3) (ret := none) (by decide) rfl (Nat.le_of_ble_eq_true rfl) (fun p e s m args below meth c ls X hr hlk hnm hK hP hC hS hl => ?_)
  have hl : lv_has ls 3 [(0, .ref o), (1, .int (nI μ))] := hl
  have hP : gP D cy B z T (gI o 12 M I0) R s.heap := hP
  have hB : B ≤ s.heap.size := by rw [hP.1]; exact hP.2.1
  have hin : ∀ w ∈ wsX120, w ∈ wsX12_tires := fun _ h => List.mem_cons_of_mem _ (List.mem_append_right _ h)
  have k9 : Cond.fieldLink RX12 9 "BarrowPlankModel" "s" "[I" ∈ wsX12_tires := by decide +kernel
  have k174 : Cond.fieldLink RX12 174 "BarrowPlankModel" "came" "I" ∈ wsX12_tires := by decide +kernel
  have b44 : σ (44 + μ) ≤ 6 := (hb.2.2.2.2.2.2.2.2.1 μ hμ).1
  have b48 : σ (48 + μ) ≤ 9 := (hb.2.2.2.2.2.2.2.2.1 μ hμ).2.1
  have b52 : σ (52 + μ) ≤ 20 := (hb.2.2.2.2.2.2.2.2.1 μ hμ).2.2
  have b4 : σ (4 + μ) ≤ 99 := hb.2.2.1 μ hμ
  have b0 : σ 0 ≤ 999 := hb.1
  have bt : ti ≤ 99 := hs.2.2.1
  rcases Nat.eq_zero_or_pos (σ (4 + μ)) with h0 | h0
  · have hP : gP D cy B z T (gI o 12 M I0) R s.heap := hP
    refine lv_aload_n X.1 X.2.1 dX12_tires_0 rfl (lv_at hl 0 rfl) ?_
    refine m_getr 1 1 X hK hP hM hin rfl (by decide) k9 rfl dX12_tires_1 (by decide) ?_
    refine lv_iconst (v := 4) X.1 X.2.1 dX12_tires_4 (by decide) ?_
    refine lv_iload_n X.1 X.2.1 dX12_tires_5 rfl (lv_at hl 1 rfl) ?_
    refine lv_iadd X.1 X.2.1 dX12_tires_6 ?_
    refine m_ald 1 (4 + μ) 883 X hK hP hM rfl (gIx_of (gn_add (show (4 : Int32) = nI 4 from rfl) (Eq.refl (nI μ))) (by omega) (by omega)) dX12_tires_7 (show M 1 (4 + μ) = nI (σ (4 + μ)) from (hσ (4 + μ) (by omega) (by omega))) ?_
    refine lv_aload_n X.1 X.2.1 dX12_tires_8 rfl (lv_at hl 0 rfl) ?_
    refine m_geti 19 X hK hP hM hin rfl (by decide) k174 rfl dX12_tires_9 (show M 0 19 = nI cm from hcm) ?_
    refine lv_aload_n X.1 X.2.1 dX12_tires_12 rfl (lv_at hl 0 rfl) ?_
    refine m_getr 1 1 X hK hP hM hin rfl (by decide) k9 rfl dX12_tires_13 (by decide) ?_
    refine lv_bipush (v := 52) X.1 X.2.1 dX12_tires_16 (by decide) ?_
    refine lv_iload_n X.1 X.2.1 dX12_tires_18 rfl (lv_at hl 1 rfl) ?_
    refine lv_iadd X.1 X.2.1 dX12_tires_19 ?_
    refine m_ald 1 (52 + μ) 883 X hK hP hM rfl (gIx_of (gn_add (show (52 : Int32) = nI 52 from rfl) (Eq.refl (nI μ))) (by omega) (by omega)) dX12_tires_20 (show M 1 (52 + μ) = nI (σ (52 + μ)) from (hσ (52 + μ) (by omega) (by omega))) ?_
    refine lv_icmp_le (tgt := 32) X.1 X.2.1 dX12_tires_21 (by decide) (fun c21 => ?_) (fun c21 => ?_)
    · have n21 : cm ≤ σ (52 + μ) := gq_le c21 (Eq.refl (nI cm)) (Eq.refl (nI (σ (52 + μ)))) (by omega) (by omega)
      refine lv_iconst (v := (-1)) X.1 X.2.1 dX12_tires_32 (by decide) ?_
      refine lv_iadd X.1 X.2.1 dX12_tires_33 ?_
      refine lv_istore_n (lv' := [(2, .int ((nI (σ (4 + μ))) + (-1))), (0, .ref o), (1, .int (nI μ))]) X.1 X.2.1 dX12_tires_34 rfl hl (by decide) rfl (fun ls hl => ?_)
      refine lv_aload_n X.1 X.2.1 dX12_tires_35 rfl (lv_at hl 1 rfl) ?_
      refine m_getr 1 1 X hK hP hM hin rfl (by decide) k9 rfl dX12_tires_36 (by decide) ?_
      refine lv_iconst (v := 4) X.1 X.2.1 dX12_tires_39 (by decide) ?_
      refine lv_iload_n X.1 X.2.1 dX12_tires_40 rfl (lv_at hl 2 rfl) ?_
      refine lv_iadd X.1 X.2.1 dX12_tires_41 ?_
      refine lv_iload_n X.1 X.2.1 dX12_tires_42 rfl (lv_at hl 0 rfl) ?_
      refine lv_if_ge (tgt := 50) X.1 X.2.1 dX12_tires_43 (by decide) (fun c43 => ?_) (fun c43 => ?_)
      · exact absurd c43 (gn_m1n h0)
      · refine lv_iconst (v := 0) X.1 X.2.1 dX12_tires_46 (by decide) ?_
        refine lv_goto (tgt := 62) X.1 X.2.1 dX12_tires_47 (by decide) ?_
        refine m_ast 1 (4 + μ) 883 X hK hP hS hM rfl (gIx_of (gn_add (show (4 : Int32) = nI 4 from rfl) (Eq.refl (nI μ))) (by omega) (by omega)) dX12_tires_62 (fun H locs hP hS => ?_)
        generalize eM1 : g2 M 1 (4 + μ) 0 = M1 at hP
        exact g_vret M1 X hr hlk hK hP hS dX12_tires_63 (by rw [← eM1]; exact congrArg (g2 M 1 (4 + μ)) (((show (0 : Int32) = nI 0 from rfl)).trans (congrArg nI (by rw [if_neg (show ¬ σ (52 + μ) < cm by omega)] <;> omega))))
    · have n21 : σ (52 + μ) < cm := gq_nle c21 (Eq.refl (nI cm)) (Eq.refl (nI (σ (52 + μ)))) (by omega) (by omega)
      refine lv_aload_n X.1 X.2.1 dX12_tires_24 rfl (lv_at hl 0 rfl) ?_
      refine lv_iconst (v := 4) X.1 X.2.1 dX12_tires_25 (by decide) ?_
      refine g_run_i (g_runV (k := 14) [.int 4] X hK hP hS hC hB (c_told hM hσ hs 4) (cwV 1 X.2.2.2.2 gX12_tires_X12_told rfl rfl rfl (by decide +kernel) ⟨Nat.le_of_ble_eq_true rfl, Nat.le_of_ble_eq_true rfl⟩) (hM.1 0 _ rfl) rfl rfl hl.1 rfl (Nat.le_of_ble_eq_true rfl) dX12_tires_26 ⟨Nat.zero_le _, Nat.zero_le _⟩) hS (fun r u H locs hq hP hS => ?_)
      obtain ⟨hr9, rfl⟩ := hq
      have hr9 : r = nI ti := hr9
      subst hr9
      have hP : gP D cy B z T (gI o 12 M I0) R H := hP
      refine lv_goto (tgt := 33) X.1 X.2.1 dX12_tires_29 (by decide) ?_
      refine lv_iadd X.1 X.2.1 dX12_tires_33 ?_
      refine lv_istore_n (lv' := [(2, .int ((nI (σ (4 + μ))) + (nI ti))), (0, .ref o), (1, .int (nI μ))]) X.1 X.2.1 dX12_tires_34 rfl hl (by decide) rfl (fun ls hl => ?_)
      refine lv_aload_n X.1 X.2.1 dX12_tires_35 rfl (lv_at hl 1 rfl) ?_
      refine m_getr 1 1 X hK hP hM hin rfl (by decide) k9 rfl dX12_tires_36 (by decide) ?_
      refine lv_iconst (v := 4) X.1 X.2.1 dX12_tires_39 (by decide) ?_
      refine lv_iload_n X.1 X.2.1 dX12_tires_40 rfl (lv_at hl 2 rfl) ?_
      refine lv_iadd X.1 X.2.1 dX12_tires_41 ?_
      refine lv_iload_n X.1 X.2.1 dX12_tires_42 rfl (lv_at hl 0 rfl) ?_
      refine lv_if_ge (tgt := 50) X.1 X.2.1 dX12_tires_43 (by decide) (fun c43 => ?_) (fun c43 => ?_)
      · have n43 : 0 ≤ (σ (4 + μ) + ti) := gq_le c43 (show (0 : Int32) = nI 0 from rfl) (gn_add (Eq.refl (nI (σ (4 + μ)))) (Eq.refl (nI ti))) (by omega) (by omega)
        refine lv_iload_n X.1 X.2.1 dX12_tires_50 rfl (lv_at hl 0 rfl) ?_
        refine lv_bipush (v := 99) X.1 X.2.1 dX12_tires_51 (by decide) ?_
        refine lv_icmp_le (tgt := 61) X.1 X.2.1 dX12_tires_53 (by decide) (fun c53 => ?_) (fun c53 => ?_)
        · have n53 : (σ (4 + μ) + ti) ≤ 99 := gq_le c53 (gn_add (Eq.refl (nI (σ (4 + μ)))) (Eq.refl (nI ti))) (show (99 : Int32) = nI 99 from rfl) (by omega) (by omega)
          refine lv_iload_n X.1 X.2.1 dX12_tires_61 rfl (lv_at hl 0 rfl) ?_
          refine m_ast 1 (4 + μ) 883 X hK hP hS hM rfl (gIx_of (gn_add (show (4 : Int32) = nI 4 from rfl) (Eq.refl (nI μ))) (by omega) (by omega)) dX12_tires_62 (fun H locs hP hS => ?_)
          generalize eM2 : g2 M 1 (4 + μ) ((nI (σ (4 + μ))) + (nI ti)) = M2 at hP
          exact g_vret M2 X hr hlk hK hP hS dX12_tires_63 (by rw [← eM2]; exact congrArg (g2 M 1 (4 + μ)) (((gn_add (Eq.refl (nI (σ (4 + μ)))) (Eq.refl (nI ti)))).trans (congrArg nI (by rw [if_pos (show σ (52 + μ) < cm by omega)] <;> omega))))
        · have n53 : 99 < (σ (4 + μ) + ti) := gq_nle c53 (gn_add (Eq.refl (nI (σ (4 + μ)))) (Eq.refl (nI ti))) (show (99 : Int32) = nI 99 from rfl) (by omega) (by omega)
          refine lv_bipush (v := 99) X.1 X.2.1 dX12_tires_56 (by decide) ?_
          refine lv_goto (tgt := 62) X.1 X.2.1 dX12_tires_58 (by decide) ?_
          refine m_ast 1 (4 + μ) 883 X hK hP hS hM rfl (gIx_of (gn_add (show (4 : Int32) = nI 4 from rfl) (Eq.refl (nI μ))) (by omega) (by omega)) dX12_tires_62 (fun H locs hP hS => ?_)
          generalize eM3 : g2 M 1 (4 + μ) 99 = M3 at hP
          exact g_vret M3 X hr hlk hK hP hS dX12_tires_63 (by rw [← eM3]; exact congrArg (g2 M 1 (4 + μ)) (((show (99 : Int32) = nI 99 from rfl)).trans (congrArg nI (by rw [if_pos (show σ (52 + μ) < cm by omega)] <;> omega))))
      · exact absurd (by rw [(gn_add (Eq.refl (nI (σ (4 + μ)))) (Eq.refl (nI ti)))]; exact nI_pos' (by omega)) c43
  · have hP : gP D cy B z T (gI o 12 M I0) R s.heap := hP
    refine lv_aload_n X.1 X.2.1 dX12_tires_0 rfl (lv_at hl 0 rfl) ?_
    refine m_getr 1 1 X hK hP hM hin rfl (by decide) k9 rfl dX12_tires_1 (by decide) ?_
    refine lv_iconst (v := 4) X.1 X.2.1 dX12_tires_4 (by decide) ?_
    refine lv_iload_n X.1 X.2.1 dX12_tires_5 rfl (lv_at hl 1 rfl) ?_
    refine lv_iadd X.1 X.2.1 dX12_tires_6 ?_
    refine m_ald 1 (4 + μ) 883 X hK hP hM rfl (gIx_of (gn_add (show (4 : Int32) = nI 4 from rfl) (Eq.refl (nI μ))) (by omega) (by omega)) dX12_tires_7 (show M 1 (4 + μ) = nI (σ (4 + μ)) from (hσ (4 + μ) (by omega) (by omega))) ?_
    refine lv_aload_n X.1 X.2.1 dX12_tires_8 rfl (lv_at hl 0 rfl) ?_
    refine m_geti 19 X hK hP hM hin rfl (by decide) k174 rfl dX12_tires_9 (show M 0 19 = nI cm from hcm) ?_
    refine lv_aload_n X.1 X.2.1 dX12_tires_12 rfl (lv_at hl 0 rfl) ?_
    refine m_getr 1 1 X hK hP hM hin rfl (by decide) k9 rfl dX12_tires_13 (by decide) ?_
    refine lv_bipush (v := 52) X.1 X.2.1 dX12_tires_16 (by decide) ?_
    refine lv_iload_n X.1 X.2.1 dX12_tires_18 rfl (lv_at hl 1 rfl) ?_
    refine lv_iadd X.1 X.2.1 dX12_tires_19 ?_
    refine m_ald 1 (52 + μ) 883 X hK hP hM rfl (gIx_of (gn_add (show (52 : Int32) = nI 52 from rfl) (Eq.refl (nI μ))) (by omega) (by omega)) dX12_tires_20 (show M 1 (52 + μ) = nI (σ (52 + μ)) from (hσ (52 + μ) (by omega) (by omega))) ?_
    refine lv_icmp_le (tgt := 32) X.1 X.2.1 dX12_tires_21 (by decide) (fun c21 => ?_) (fun c21 => ?_)
    · have n21 : cm ≤ σ (52 + μ) := gq_le c21 (Eq.refl (nI cm)) (Eq.refl (nI (σ (52 + μ)))) (by omega) (by omega)
      refine lv_iconst (v := (-1)) X.1 X.2.1 dX12_tires_32 (by decide) ?_
      refine lv_iadd X.1 X.2.1 dX12_tires_33 ?_
      refine lv_istore_n (lv' := [(2, .int ((nI (σ (4 + μ))) + (-1))), (0, .ref o), (1, .int (nI μ))]) X.1 X.2.1 dX12_tires_34 rfl hl (by decide) rfl (fun ls hl => ?_)
      refine lv_aload_n X.1 X.2.1 dX12_tires_35 rfl (lv_at hl 1 rfl) ?_
      refine m_getr 1 1 X hK hP hM hin rfl (by decide) k9 rfl dX12_tires_36 (by decide) ?_
      refine lv_iconst (v := 4) X.1 X.2.1 dX12_tires_39 (by decide) ?_
      refine lv_iload_n X.1 X.2.1 dX12_tires_40 rfl (lv_at hl 2 rfl) ?_
      refine lv_iadd X.1 X.2.1 dX12_tires_41 ?_
      refine lv_iload_n X.1 X.2.1 dX12_tires_42 rfl (lv_at hl 0 rfl) ?_
      refine lv_if_ge (tgt := 50) X.1 X.2.1 dX12_tires_43 (by decide) (fun c43 => ?_) (fun c43 => ?_)
      · have n43 : 0 ≤ (σ (4 + μ) - 1) := gq_le c43 (show (0 : Int32) = nI 0 from rfl) (gn_m1s h0) (by omega) (by omega)
        refine lv_iload_n X.1 X.2.1 dX12_tires_50 rfl (lv_at hl 0 rfl) ?_
        refine lv_bipush (v := 99) X.1 X.2.1 dX12_tires_51 (by decide) ?_
        refine lv_icmp_le (tgt := 61) X.1 X.2.1 dX12_tires_53 (by decide) (fun c53 => ?_) (fun c53 => ?_)
        · have n53 : (σ (4 + μ) - 1) ≤ 99 := gq_le c53 (gn_m1s h0) (show (99 : Int32) = nI 99 from rfl) (by omega) (by omega)
          refine lv_iload_n X.1 X.2.1 dX12_tires_61 rfl (lv_at hl 0 rfl) ?_
          refine m_ast 1 (4 + μ) 883 X hK hP hS hM rfl (gIx_of (gn_add (show (4 : Int32) = nI 4 from rfl) (Eq.refl (nI μ))) (by omega) (by omega)) dX12_tires_62 (fun H locs hP hS => ?_)
          generalize eM4 : g2 M 1 (4 + μ) ((nI (σ (4 + μ))) + (-1)) = M4 at hP
          exact g_vret M4 X hr hlk hK hP hS dX12_tires_63 (by rw [← eM4]; exact congrArg (g2 M 1 (4 + μ)) (((gn_m1s h0)).trans (congrArg nI (by rw [if_neg (show ¬ σ (52 + μ) < cm by omega)] <;> omega))))
        · have n53 : 99 < (σ (4 + μ) - 1) := gq_nle c53 (gn_m1s h0) (show (99 : Int32) = nI 99 from rfl) (by omega) (by omega)
          refine lv_bipush (v := 99) X.1 X.2.1 dX12_tires_56 (by decide) ?_
          refine lv_goto (tgt := 62) X.1 X.2.1 dX12_tires_58 (by decide) ?_
          refine m_ast 1 (4 + μ) 883 X hK hP hS hM rfl (gIx_of (gn_add (show (4 : Int32) = nI 4 from rfl) (Eq.refl (nI μ))) (by omega) (by omega)) dX12_tires_62 (fun H locs hP hS => ?_)
          generalize eM5 : g2 M 1 (4 + μ) 99 = M5 at hP
          exact g_vret M5 X hr hlk hK hP hS dX12_tires_63 (by rw [← eM5]; exact congrArg (g2 M 1 (4 + μ)) (((show (99 : Int32) = nI 99 from rfl)).trans (congrArg nI (by rw [if_neg (show ¬ σ (52 + μ) < cm by omega)] <;> omega))))
      · exact absurd (by rw [(gn_m1s h0)]; exact nI_pos' (by omega)) c43
    · have n21 : σ (52 + μ) < cm := gq_nle c21 (Eq.refl (nI cm)) (Eq.refl (nI (σ (52 + μ)))) (by omega) (by omega)
      refine lv_aload_n X.1 X.2.1 dX12_tires_24 rfl (lv_at hl 0 rfl) ?_
      refine lv_iconst (v := 4) X.1 X.2.1 dX12_tires_25 (by decide) ?_
      refine g_run_i (g_runV (k := 14) [.int 4] X hK hP hS hC hB (c_told hM hσ hs 4) (cwV 1 X.2.2.2.2 gX12_tires_X12_told rfl rfl rfl (by decide +kernel) ⟨Nat.le_of_ble_eq_true rfl, Nat.le_of_ble_eq_true rfl⟩) (hM.1 0 _ rfl) rfl rfl hl.1 rfl (Nat.le_of_ble_eq_true rfl) dX12_tires_26 ⟨Nat.zero_le _, Nat.zero_le _⟩) hS (fun r u H locs hq hP hS => ?_)
      obtain ⟨hr9, rfl⟩ := hq
      have hr9 : r = nI ti := hr9
      subst hr9
      have hP : gP D cy B z T (gI o 12 M I0) R H := hP
      refine lv_goto (tgt := 33) X.1 X.2.1 dX12_tires_29 (by decide) ?_
      refine lv_iadd X.1 X.2.1 dX12_tires_33 ?_
      refine lv_istore_n (lv' := [(2, .int ((nI (σ (4 + μ))) + (nI ti))), (0, .ref o), (1, .int (nI μ))]) X.1 X.2.1 dX12_tires_34 rfl hl (by decide) rfl (fun ls hl => ?_)
      refine lv_aload_n X.1 X.2.1 dX12_tires_35 rfl (lv_at hl 1 rfl) ?_
      refine m_getr 1 1 X hK hP hM hin rfl (by decide) k9 rfl dX12_tires_36 (by decide) ?_
      refine lv_iconst (v := 4) X.1 X.2.1 dX12_tires_39 (by decide) ?_
      refine lv_iload_n X.1 X.2.1 dX12_tires_40 rfl (lv_at hl 2 rfl) ?_
      refine lv_iadd X.1 X.2.1 dX12_tires_41 ?_
      refine lv_iload_n X.1 X.2.1 dX12_tires_42 rfl (lv_at hl 0 rfl) ?_
      refine lv_if_ge (tgt := 50) X.1 X.2.1 dX12_tires_43 (by decide) (fun c43 => ?_) (fun c43 => ?_)
      · have n43 : 0 ≤ (σ (4 + μ) + ti) := gq_le c43 (show (0 : Int32) = nI 0 from rfl) (gn_add (Eq.refl (nI (σ (4 + μ)))) (Eq.refl (nI ti))) (by omega) (by omega)
        refine lv_iload_n X.1 X.2.1 dX12_tires_50 rfl (lv_at hl 0 rfl) ?_
        refine lv_bipush (v := 99) X.1 X.2.1 dX12_tires_51 (by decide) ?_
        refine lv_icmp_le (tgt := 61) X.1 X.2.1 dX12_tires_53 (by decide) (fun c53 => ?_) (fun c53 => ?_)
        · have n53 : (σ (4 + μ) + ti) ≤ 99 := gq_le c53 (gn_add (Eq.refl (nI (σ (4 + μ)))) (Eq.refl (nI ti))) (show (99 : Int32) = nI 99 from rfl) (by omega) (by omega)
          refine lv_iload_n X.1 X.2.1 dX12_tires_61 rfl (lv_at hl 0 rfl) ?_
          refine m_ast 1 (4 + μ) 883 X hK hP hS hM rfl (gIx_of (gn_add (show (4 : Int32) = nI 4 from rfl) (Eq.refl (nI μ))) (by omega) (by omega)) dX12_tires_62 (fun H locs hP hS => ?_)
          generalize eM6 : g2 M 1 (4 + μ) ((nI (σ (4 + μ))) + (nI ti)) = M6 at hP
          exact g_vret M6 X hr hlk hK hP hS dX12_tires_63 (by rw [← eM6]; exact congrArg (g2 M 1 (4 + μ)) (((gn_add (Eq.refl (nI (σ (4 + μ)))) (Eq.refl (nI ti)))).trans (congrArg nI (by rw [if_pos (show σ (52 + μ) < cm by omega)] <;> omega))))
        · have n53 : 99 < (σ (4 + μ) + ti) := gq_nle c53 (gn_add (Eq.refl (nI (σ (4 + μ)))) (Eq.refl (nI ti))) (show (99 : Int32) = nI 99 from rfl) (by omega) (by omega)
          refine lv_bipush (v := 99) X.1 X.2.1 dX12_tires_56 (by decide) ?_
          refine lv_goto (tgt := 62) X.1 X.2.1 dX12_tires_58 (by decide) ?_
          refine m_ast 1 (4 + μ) 883 X hK hP hS hM rfl (gIx_of (gn_add (show (4 : Int32) = nI 4 from rfl) (Eq.refl (nI μ))) (by omega) (by omega)) dX12_tires_62 (fun H locs hP hS => ?_)
          generalize eM7 : g2 M 1 (4 + μ) 99 = M7 at hP
          exact g_vret M7 X hr hlk hK hP hS dX12_tires_63 (by rw [← eM7]; exact congrArg (g2 M 1 (4 + μ)) (((show (99 : Int32) = nI 99 from rfl)).trans (congrArg nI (by rw [if_pos (show σ (52 + μ) < cm by omega)] <;> omega))))
      · exact absurd (by rw [(gn_add (Eq.refl (nI (σ (4 + μ)))) (Eq.refl (nI ti)))]; exact nI_pos' (by omega)) c43

theorem mSite_fr (hs : mSite M fl ti sh) : ∃ fr : Nat, 183 + 140 * M 1 42 = nI fr ∧ fr + fl.length ≤ 883 ∧ ∀ k, k < fl.length → M 1 (fr + k) = encR (fl.getD k 0) := by
  rcases hs.2.2.2.2 with ⟨h1, h2, -, -⟩ | ⟨hd, h1, h2, -, -, -, h3⟩
  · refine ⟨43, by rw [h1]; decide, by rw [h2]; decide, fun k hk => ?_⟩
    rw [h2] at hk
    exact absurd hk (Nat.not_lt_zero k)
  · refine ⟨183 + 140 * hd, by rw [h2]; exact gn_add (x := 183) (y := 140 * hd) rfl (gn_mul (x := 140) (y := hd) rfl rfl), ?_, h3⟩
    have := hs.2.1
    omega
def lAS (b i : Nat) : Prop := b = 4 ∨ b = 5 ∨ (b = 0 ∧ (i = 12 ∨ i = 13))

theorem fF_le (σ : Nat → Nat) (μ υ β K : Nat) (hb : sBd σ K) (hμ : μ < 4) (hυ : υ < 10) (hβ : β ≤ 20) (j : Nat) : fF σ μ υ β j ≤ 20 := by
  have b44 : σ (44 + μ) ≤ 6 := (hb.2.2.2.2.2.2.2.2.1 μ hμ).1
  have b8 : σ (8 + υ) ≤ 9 := hb.2.2.2.1 υ (by omega)
  have b18 : σ (18 + υ) ≤ 9 := by have h := hb.2.2.2.1 (10 + υ) (by omega); rw [← Nat.add_assoc] at h; exact h
  have b28 : σ (28 + υ) ≤ 9 := by have h := hb.2.2.2.1 (20 + υ) (by omega); rw [← Nat.add_assoc] at h; exact h
  unfold fF
  repeat' split
  all_goals omega
theorem gsl_0 (a b : Nat) : (nI a - nI b) + 0 = nI a - nI b := by simp
theorem gsl_z (a : Nat) : nI a + 0 = nI a := by simp
theorem gsl_p (a b n : Nat) : (nI a - nI b) + (-10 - (-10 - nI n)) = nI (a + n) - nI b := by
  rw [← nI_add]
  grind
theorem gsl_e (a b n : Nat) : (nI a - nI b) + ((-200 - nI n) - -200) = nI a - nI (b + n) := by
  rw [← nI_add]
  grind
theorem gsl_s (a n : Nat) : nI a + (-400 - (-400 - nI n)) = nI (a + n) := by
  rw [← nI_add]
  grind

set_option maxHeartbeats 4000000 in
set_option maxRecDepth 100000 in
/-- looksAnew -/
theorem c_looksAnew (hM : gMod o T R) (hσ : mS M σ) (hs : mSite M fl ti sh) (hb : sBd σ K) {μ υ β : Nat} (hμ : μ < 4) (hυ : υ < 10) (hβ : β ≤ 20) : Met l yX12_looksAnew wsX12_looksAnew ({ frames := 1, cells := 0, slots := 0, locals := 22 }) (mPre s0 D cy B o z T R I0 M [.int (nI μ), .int (nI υ), .int (nI β)]) (mQv D cy B o z T R I0 (fun u => u 0 12 = nI (sX fl (fF σ μ υ β)).1 - nI (sX fl (fF σ μ υ β)).2.1 ∧ u 0 13 = nI (sX fl (fF σ μ υ β)).2.2 ∧ mSame lAS M u)) 0 0 (gA B) := by
  refine g_met (maxL := 12) (ret := none) (by decide) rfl (Nat.le_of_ble_eq_true rfl) (fun p e s m args below meth c ls X hr hlk hnm hK hP hC hS hl => ?_)
  have hl : lv_has ls 12 [(0, .ref o), (1, .int (nI μ)), (2, .int (nI υ)), (3, .int (nI β))] := hl
  have hP : gP D cy B z T (gI o 12 M I0) R s.heap := hP
  have hB : B ≤ s.heap.size := by rw [hP.1]; exact hP.2.1
  have hin : ∀ w ∈ wsX120, w ∈ wsX12_looksAnew := fun _ h => List.mem_cons_of_mem _ (List.mem_append_right _ h)
  have k9 : Cond.fieldLink RX12 9 "BarrowPlankModel" "s" "[I" ∈ wsX12_looksAnew := by decide +kernel
  have k21 : Cond.fieldLink RX12 21 "BarrowPlankModel" "by" "[I" ∈ wsX12_looksAnew := by decide +kernel
  have k24 : Cond.fieldLink RX12 24 "BarrowPlankModel" "truths" "[Z" ∈ wsX12_looksAnew := by decide +kernel
  have k158 : Cond.fieldLink RX12 158 "BarrowPlankModel" "slower" "I" ∈ wsX12_looksAnew := by decide +kernel
  have k161 : Cond.fieldLink RX12 161 "BarrowPlankModel" "losing" "I" ∈ wsX12_looksAnew := by decide +kernel
  have b44 : σ (44 + μ) ≤ 6 := (hb.2.2.2.2.2.2.2.2.1 μ hμ).1
  have b48 : σ (48 + μ) ≤ 9 := (hb.2.2.2.2.2.2.2.2.1 μ hμ).2.1
  have b52 : σ (52 + μ) ≤ 20 := (hb.2.2.2.2.2.2.2.2.1 μ hμ).2.2
  have b4 : σ (4 + μ) ≤ 99 := hb.2.2.1 μ hμ
  have b0 : σ 0 ≤ 999 := hb.1
  have b8 : σ (8 + υ) ≤ 9 := hb.2.2.2.1 υ (by omega)
  have b18 : σ (18 + υ) ≤ 9 := by have h := hb.2.2.2.1 (10 + υ) (by omega); rw [← Nat.add_assoc] at h; exact h
  have b28 : σ (28 + υ) ≤ 9 := by have h := hb.2.2.2.1 (20 + υ) (by omega); rw [← Nat.add_assoc] at h; exact h
  have hlen := hs.2.1
  obtain ⟨fr, efr, hfr, hst⟩ := mSite_fr hs
  refine lv_aload_n X.1 X.2.1 dX12_looksAnew_0 rfl (lv_at hl 0 rfl) ?_
  refine m_getr 10 4 X hK hP hM hin rfl (by decide) k21 rfl dX12_looksAnew_1 (by decide) ?_
  refine lv_iconst (v := 0) X.1 X.2.1 dX12_looksAnew_4 (by decide) ?_
  refine lv_iload_n X.1 X.2.1 dX12_looksAnew_5 rfl (lv_at hl 2 rfl) ?_
  refine m_ast 4 0 6 X hK hP hS hM rfl (gIx_of (show (0 : Int32) = nI 0 from rfl) (by omega) (by omega)) dX12_looksAnew_6 (fun H locs hP hS => ?_)
  generalize eM1 : g2 M 4 0 (nI υ) = M1 at hP
  refine lv_aload_n X.1 X.2.1 dX12_looksAnew_7 rfl (lv_at hl 0 rfl) ?_
  refine m_getr 10 4 X hK hP hM hin rfl (by decide) k21 rfl dX12_looksAnew_8 (by decide) ?_
  refine lv_iconst (v := 1) X.1 X.2.1 dX12_looksAnew_11 (by decide) ?_
  refine lv_aload_n X.1 X.2.1 dX12_looksAnew_12 rfl (lv_at hl 0 rfl) ?_
  refine m_getr 1 1 X hK hP hM hin rfl (by decide) k9 rfl dX12_looksAnew_13 (by decide) ?_
  refine lv_bipush (v := 8) X.1 X.2.1 dX12_looksAnew_16 (by decide) ?_
  refine lv_iload_n X.1 X.2.1 dX12_looksAnew_18 rfl (lv_at hl 2 rfl) ?_
  refine lv_iadd X.1 X.2.1 dX12_looksAnew_19 ?_
  refine m_ald 1 (8 + υ) 883 X hK hP hM rfl (gIx_of (gn_add (show (8 : Int32) = nI 8 from rfl) (Eq.refl (nI υ))) (by omega) (by omega)) dX12_looksAnew_20 (show M1 1 (8 + υ) = nI (σ (8 + υ)) from (gs_ne eM1 (by omega) (hσ (8 + υ) (by omega) (by omega)))) ?_
  refine m_ast 4 1 6 X hK hP hS hM rfl (gIx_of (show (1 : Int32) = nI 1 from rfl) (by omega) (by omega)) dX12_looksAnew_21 (fun H locs hP hS => ?_)
  generalize eM2 : g2 M1 4 1 (nI (σ (8 + υ))) = M2 at hP
  refine lv_aload_n X.1 X.2.1 dX12_looksAnew_22 rfl (lv_at hl 0 rfl) ?_
  refine m_getr 10 4 X hK hP hM hin rfl (by decide) k21 rfl dX12_looksAnew_23 (by decide) ?_
  refine lv_iconst (v := 2) X.1 X.2.1 dX12_looksAnew_26 (by decide) ?_
  refine lv_aload_n X.1 X.2.1 dX12_looksAnew_27 rfl (lv_at hl 0 rfl) ?_
  refine m_getr 1 1 X hK hP hM hin rfl (by decide) k9 rfl dX12_looksAnew_28 (by decide) ?_
  refine lv_bipush (v := 18) X.1 X.2.1 dX12_looksAnew_31 (by decide) ?_
  refine lv_iload_n X.1 X.2.1 dX12_looksAnew_33 rfl (lv_at hl 2 rfl) ?_
  refine lv_iadd X.1 X.2.1 dX12_looksAnew_34 ?_
  refine m_ald 1 (18 + υ) 883 X hK hP hM rfl (gIx_of (gn_add (show (18 : Int32) = nI 18 from rfl) (Eq.refl (nI υ))) (by omega) (by omega)) dX12_looksAnew_35 (show M2 1 (18 + υ) = nI (σ (18 + υ)) from (gs_ne eM2 (by omega) (gs_ne eM1 (by omega) (hσ (18 + υ) (by omega) (by omega))))) ?_
  refine m_ast 4 2 6 X hK hP hS hM rfl (gIx_of (show (2 : Int32) = nI 2 from rfl) (by omega) (by omega)) dX12_looksAnew_36 (fun H locs hP hS => ?_)
  generalize eM3 : g2 M2 4 2 (nI (σ (18 + υ))) = M3 at hP
  refine lv_aload_n X.1 X.2.1 dX12_looksAnew_37 rfl (lv_at hl 0 rfl) ?_
  refine m_getr 10 4 X hK hP hM hin rfl (by decide) k21 rfl dX12_looksAnew_38 (by decide) ?_
  refine lv_iconst (v := 3) X.1 X.2.1 dX12_looksAnew_41 (by decide) ?_
  refine lv_aload_n X.1 X.2.1 dX12_looksAnew_42 rfl (lv_at hl 0 rfl) ?_
  refine m_getr 1 1 X hK hP hM hin rfl (by decide) k9 rfl dX12_looksAnew_43 (by decide) ?_
  refine lv_bipush (v := 28) X.1 X.2.1 dX12_looksAnew_46 (by decide) ?_
  refine lv_iload_n X.1 X.2.1 dX12_looksAnew_48 rfl (lv_at hl 2 rfl) ?_
  refine lv_iadd X.1 X.2.1 dX12_looksAnew_49 ?_
  refine m_ald 1 (28 + υ) 883 X hK hP hM rfl (gIx_of (gn_add (show (28 : Int32) = nI 28 from rfl) (Eq.refl (nI υ))) (by omega) (by omega)) dX12_looksAnew_50 (show M3 1 (28 + υ) = nI (σ (28 + υ)) from (gs_ne eM3 (by omega) (gs_ne eM2 (by omega) (gs_ne eM1 (by omega) (hσ (28 + υ) (by omega) (by omega)))))) ?_
  refine m_ast 4 3 6 X hK hP hS hM rfl (gIx_of (show (3 : Int32) = nI 3 from rfl) (by omega) (by omega)) dX12_looksAnew_51 (fun H locs hP hS => ?_)
  generalize eM4 : g2 M3 4 3 (nI (σ (28 + υ))) = M4 at hP
  refine lv_aload_n X.1 X.2.1 dX12_looksAnew_52 rfl (lv_at hl 0 rfl) ?_
  refine m_getr 10 4 X hK hP hM hin rfl (by decide) k21 rfl dX12_looksAnew_53 (by decide) ?_
  refine lv_iconst (v := 4) X.1 X.2.1 dX12_looksAnew_56 (by decide) ?_
  refine lv_iload_n X.1 X.2.1 dX12_looksAnew_57 rfl (lv_at hl 3 rfl) ?_
  refine m_ast 4 4 6 X hK hP hS hM rfl (gIx_of (show (4 : Int32) = nI 4 from rfl) (by omega) (by omega)) dX12_looksAnew_58 (fun H locs hP hS => ?_)
  generalize eM5 : g2 M4 4 4 (nI β) = M5 at hP
  refine lv_aload_n X.1 X.2.1 dX12_looksAnew_59 rfl (lv_at hl 0 rfl) ?_
  refine m_getr 10 4 X hK hP hM hin rfl (by decide) k21 rfl dX12_looksAnew_60 (by decide) ?_
  refine lv_iconst (v := 5) X.1 X.2.1 dX12_looksAnew_63 (by decide) ?_
  refine lv_aload_n X.1 X.2.1 dX12_looksAnew_64 rfl (lv_at hl 0 rfl) ?_
  refine m_getr 1 1 X hK hP hM hin rfl (by decide) k9 rfl dX12_looksAnew_65 (by decide) ?_
  refine lv_bipush (v := 44) X.1 X.2.1 dX12_looksAnew_68 (by decide) ?_
  refine lv_iload_n X.1 X.2.1 dX12_looksAnew_70 rfl (lv_at hl 1 rfl) ?_
  refine lv_iadd X.1 X.2.1 dX12_looksAnew_71 ?_
  refine m_ald 1 (44 + μ) 883 X hK hP hM rfl (gIx_of (gn_add (show (44 : Int32) = nI 44 from rfl) (Eq.refl (nI μ))) (by omega) (by omega)) dX12_looksAnew_72 (show M5 1 (44 + μ) = nI (σ (44 + μ)) from (gs_ne eM5 (by omega) (gs_ne eM4 (by omega) (gs_ne eM3 (by omega) (gs_ne eM2 (by omega) (gs_ne eM1 (by omega) (hσ (44 + μ) (by omega) (by omega)))))))) ?_
  refine m_ast 4 5 6 X hK hP hS hM rfl (gIx_of (show (5 : Int32) = nI 5 from rfl) (by omega) (by omega)) dX12_looksAnew_73 (fun H locs hP hS => ?_)
  generalize eM6 : g2 M5 4 5 (nI (σ (44 + μ))) = M6 at hP
  refine lv_aload_n X.1 X.2.1 dX12_looksAnew_74 rfl (lv_at hl 0 rfl) ?_
  refine lv_iconst (v := 0) X.1 X.2.1 dX12_looksAnew_75 (by decide) ?_
  refine m_puti 12 X hK hP hS hM hin rfl (by decide) k158 rfl rfl rfl rfl dX12_looksAnew_76 (fun H locs hP hS => ?_)
  generalize eM7 : g2 M6 0 12 0 = M7 at hP
  refine lv_aload_n X.1 X.2.1 dX12_looksAnew_79 rfl (lv_at hl 0 rfl) ?_
  refine lv_iconst (v := 0) X.1 X.2.1 dX12_looksAnew_80 (by decide) ?_
  refine m_puti 13 X hK hP hS hM hin rfl (by decide) k161 rfl rfl rfl rfl dX12_looksAnew_81 (fun H locs hP hS => ?_)
  generalize eM8 : g2 M7 0 13 0 = M8 at hP
  have h42 : M8 1 42 = M 1 42 := (gs_ne eM8 (by omega) (gs_ne eM7 (by omega) (gs_ne eM6 (by omega) (gs_ne eM5 (by omega) (gs_ne eM4 (by omega) (gs_ne eM3 (by omega) (gs_ne eM2 (by omega) (gs_ne eM1 (by omega) rfl))))))))
  have hN9 : (M8 1 42 = -1 ∧ nI fl.length = 0) ∨ ∃ hd, hd < 5 ∧ M8 1 42 = nI hd ∧ M8 1 (hd + 178) = nI fl.length := by
    rw [h42]
    rcases mSite_n hs with h | ⟨hd, h1, h2, h3⟩
    · exact Or.inl h
    · exact Or.inr ⟨hd, h1, h2, (gs_ne eM8 (by omega) (gs_ne eM7 (by omega) (gs_ne eM6 (by omega) (gs_ne eM5 (by omega) (gs_ne eM4 (by omega) (gs_ne eM3 (by omega) (gs_ne eM2 (by omega) (gs_ne eM1 (by omega) h3))))))))⟩
  refine lv_aload_n X.1 X.2.1 dX12_looksAnew_84 rfl (lv_at hl 0 rfl) ?_
  refine lv_sipush (v := 178) X.1 X.2.1 dX12_looksAnew_85 (by decide) ?_
  refine lv_iconst (v := 0) X.1 X.2.1 dX12_looksAnew_88 (by decide) ?_
  refine g_run_i (g_runV (k := 14) [.int 178, .int 0] X hK hP hS hC hB (c_tellsOf hM (w := 178) (by omega) (v := nI fl.length) (hN9)) (cwV 2 X.2.2.2.2 gX12_looksAnew_X12_tellsOf rfl rfl rfl (by decide +kernel) ⟨Nat.le_of_ble_eq_true rfl, Nat.le_of_ble_eq_true rfl⟩) (hM.1 0 _ rfl) rfl rfl hl.1 rfl (Nat.le_of_ble_eq_true rfl) dX12_looksAnew_89 ⟨Nat.zero_le _, Nat.zero_le _⟩) hS (fun r u H locs hq hP hS => ?_)
  obtain ⟨rfl, rfl⟩ := hq
  have hP : gP D cy B z T (gI o 12 M8 I0) R H := hP
  refine lv_istore (lv' := [(4, .int (nI fl.length)), (0, .ref o), (1, .int (nI μ)), (2, .int (nI υ)), (3, .int (nI β))]) X.1 X.2.1 dX12_looksAnew_92 hl (by decide) rfl (fun ls hl => ?_)
  refine lv_sipush (v := 183) X.1 X.2.1 dX12_looksAnew_94 (by decide) ?_
  refine lv_sipush (v := 140) X.1 X.2.1 dX12_looksAnew_97 (by decide) ?_
  refine lv_aload_n X.1 X.2.1 dX12_looksAnew_100 rfl (lv_at hl 1 rfl) ?_
  refine m_getr 1 1 X hK hP hM hin rfl (by decide) k9 rfl dX12_looksAnew_101 (by decide) ?_
  refine lv_bipush (v := 42) X.1 X.2.1 dX12_looksAnew_104 (by decide) ?_
  refine m_ald 1 42 883 X hK hP hM rfl (gIx_of (show (42 : Int32) = nI 42 from rfl) (by omega) (by omega)) dX12_looksAnew_106 (show M8 1 42 = M 1 42 from (gs_ne eM8 (by omega) (gs_ne eM7 (by omega) (gs_ne eM6 (by omega) (gs_ne eM5 (by omega) (gs_ne eM4 (by omega) (gs_ne eM3 (by omega) (gs_ne eM2 (by omega) (gs_ne eM1 (by omega) rfl))))))))) ?_
  refine lv_imul X.1 X.2.1 dX12_looksAnew_107 ?_
  refine lv_iadd X.1 X.2.1 dX12_looksAnew_108 ?_
  refine lv_cv efr ?_
  refine lv_istore (lv' := [(5, .int (nI fr)), (4, .int (nI fl.length)), (0, .ref o), (1, .int (nI μ)), (2, .int (nI υ)), (3, .int (nI β))]) X.1 X.2.1 dX12_looksAnew_109 hl (by decide) rfl (fun ls hl => ?_)
  refine lv_iconst (v := 0) X.1 X.2.1 dX12_looksAnew_111 (by decide) ?_
  refine lv_istore (lv' := [(6, .int 0), (5, .int (nI fr)), (4, .int (nI fl.length)), (0, .ref o), (1, .int (nI μ)), (2, .int (nI υ)), (3, .int (nI β))]) X.1 X.2.1 dX12_looksAnew_112 hl (by decide) rfl (fun ls hl => ?_)
  refine lv_iload X.1 X.2.1 dX12_looksAnew_114 (lv_at hl 1 rfl) ?_
  refine lv_istore (lv' := [(7, .int (nI fr)), (6, .int 0), (5, .int (nI fr)), (4, .int (nI fl.length)), (0, .ref o), (1, .int (nI μ)), (2, .int (nI υ)), (3, .int (nI β))]) X.1 X.2.1 dX12_looksAnew_116 hl (by decide) rfl (fun ls hl => ?_)
  have hby : ∀ j, j < 6 → M8 4 j = nI (fF σ μ υ β j) := by
    intro j hj
    rcases (show j = 0 ∨ j = 1 ∨ j = 2 ∨ j = 3 ∨ j = 4 ∨ j = 5 by omega) with rfl | rfl | rfl | rfl | rfl | rfl
    · exact (gs_ne eM8 (by omega) (gs_ne eM7 (by omega) (gs_ne eM6 (by omega) (gs_ne eM5 (by omega) (gs_ne eM4 (by omega) (gs_ne eM3 (by omega) (gs_ne eM2 (by omega) (gs_same eM1))))))))
    · exact (gs_ne eM8 (by omega) (gs_ne eM7 (by omega) (gs_ne eM6 (by omega) (gs_ne eM5 (by omega) (gs_ne eM4 (by omega) (gs_ne eM3 (by omega) (gs_same eM2)))))))
    · exact (gs_ne eM8 (by omega) (gs_ne eM7 (by omega) (gs_ne eM6 (by omega) (gs_ne eM5 (by omega) (gs_ne eM4 (by omega) (gs_same eM3))))))
    · exact (gs_ne eM8 (by omega) (gs_ne eM7 (by omega) (gs_ne eM6 (by omega) (gs_ne eM5 (by omega) (gs_same eM4)))))
    · exact (gs_ne eM8 (by omega) (gs_ne eM7 (by omega) (gs_ne eM6 (by omega) (gs_same eM5))))
    · exact (gs_ne eM8 (by omega) (gs_ne eM7 (by omega) (gs_same eM6)))
  have hkeep : ∀ b i, ¬ lAS b i → M8 b i = M b i := fun b i h => by
    unfold lAS at h
    exact (gs_ne eM8 (by omega) (gs_ne eM7 (by omega) (gs_ne eM6 (by omega) (gs_ne eM5 (by omega) (gs_ne eM4 (by omega) (gs_ne eM3 (by omega) (gs_ne eM2 (by omega) (gs_ne eM1 (by omega) rfl))))))))
  have hsl : M8 0 12 = 0 := (gs_ne eM8 (by omega) (gs_same eM7))
  have hlo : M8 0 13 = 0 := (gs_same eM8)
  generalize M8 = M0 at hP hby hkeep hsl hlo
  refine m_loop (M := M0) fl.length 118 [] (fun k N ls => ∃ (st : List Bool) (pp ee qq : Nat), tRun (fF σ μ υ β) (fl.take k) ([], 0, 0, 0) = (st, pp, ee, qq) ∧ st.length ≤ 20 ∧ tOk 20 (fl.drop k) st.length ∧ tRep (N 5) st ∧ N 0 12 = nI pp - nI ee ∧ N 0 13 = nI qq ∧ (∀ b i, ¬ (b = 5 ∨ (b = 0 ∧ (i = 12 ∨ i = 13))) → N b i = M0 b i) ∧ lv_has ls 12 [(0, .ref o), (1, .int (nI μ)), (2, .int (nI υ)), (3, .int (nI β)), (4, .int (nI fl.length)), (5, .int (nI fr)), (6, .int (nI st.length)), (7, .int (nI (fr + k)))]) 0 (Nat.zero_le _) ⟨[], 0, 0, 0, rfl, Nat.zero_le _, hs.1, trivial, hsl, hlo, fun _ _ _ => rfl, lv_sub hl [4, 5, 6, 7, 3, 2, 1, 0] rfl⟩ hP hS (fun k N H locs ls hk hi hP hS ih => ?_)
  obtain ⟨st, pp, ee, qq, hrun, hst20, hok, hrep, hN12, hN13, hsm, hl⟩ := hi
  refine lv_iload X.1 X.2.1 dX12_looksAnew_118 (lv_at hl 7 rfl) ?_
  refine lv_iload X.1 X.2.1 dX12_looksAnew_120 (lv_at hl 5 rfl) ?_
  refine lv_iload X.1 X.2.1 dX12_looksAnew_122 (lv_at hl 4 rfl) ?_
  refine lv_iadd X.1 X.2.1 dX12_looksAnew_124 ?_
  refine lv_icmp_ge (tgt := 454) X.1 X.2.1 dX12_looksAnew_125 (by decide) (fun c125 => ?_) (fun c125 => ?_)
  · have n125 : (fr + fl.length) ≤ (fr + k) := gq_le c125 (gn_add (Eq.refl (nI fr)) (Eq.refl (nI fl.length))) (Eq.refl (nI (fr + k))) (by omega) (by omega)
    exact g_vret N X hr hlk hK hP hS dX12_looksAnew_454 ⟨(by unfold sX; rw [show tRun (fF σ μ υ β) fl ([], 0, 0, 0) = (st, pp, ee, qq) by rw [← hrun, List.take_of_length_le (by omega)]]; exact hN12), (by unfold sX; rw [show tRun (fF σ μ υ β) fl ([], 0, 0, 0) = (st, pp, ee, qq) by rw [← hrun, List.take_of_length_le (by omega)]]; exact hN13), fun b i h => (hsm b i (fun q => h (by unfold lAS; omega))).trans (hkeep b i h)⟩
  · have n125 : (fr + k) < (fr + fl.length) := gq_nle c125 (gn_add (Eq.refl (nI fr)) (Eq.refl (nI fl.length))) (Eq.refl (nI (fr + k))) (by omega) (by omega)
    have hk9 : k < fl.length := by omega
    rw [drop_c hk9] at hok
    have hrun2 := tRun_s (f := fF σ μ υ β) (x := ([], 0, 0, 0)) hk9
    rw [hrun] at hrun2
    refine lv_aload_n X.1 X.2.1 dX12_looksAnew_128 rfl (lv_at hl 0 rfl) ?_
    refine m_getr 1 1 X hK hP hM hin rfl (by decide) k9 rfl dX12_looksAnew_129 (by decide) ?_
    refine lv_iload X.1 X.2.1 dX12_looksAnew_132 (lv_at hl 7 rfl) ?_
    refine m_ald 1 (fr + k) 883 X hK hP hM rfl (gIx_of (Eq.refl (nI (fr + k))) (by omega) (by omega)) dX12_looksAnew_134 (show N 1 (fr + k) = encR (fl.getD k 0) from ((hsm 1 _ (by omega)).trans ((hkeep 1 _ (by unfold lAS; omega)).trans (hst k hk9)))) ?_
    generalize fl.getD k 0 = t at hok hrun2 ⊢
    by_cases tA : t < 10000
    · obtain ⟨t6, t3, t32, tn, tok⟩ := tOk_A hok tA
      have hfb := fF_le σ μ υ β K hb hμ hυ hβ (t % 8)
      refine lv_cv (encR_A tA) ?_
      refine lv_istore (lv' := [(8, .int (nI t)), (0, .ref o), (1, .int (nI μ)), (2, .int (nI υ)), (3, .int (nI β)), (4, .int (nI fl.length)), (5, .int (nI fr)), (6, .int (nI st.length)), (7, .int (nI (fr + k)))]) X.1 X.2.1 dX12_looksAnew_135 hl (by decide) rfl (fun ls hl => ?_)
      refine lv_iload X.1 X.2.1 dX12_looksAnew_137 (lv_at hl 0 rfl) ?_
      refine lv_if_lt (tgt := 236) X.1 X.2.1 dX12_looksAnew_139 (by decide) (fun c139 => ?_) (fun c139 => ?_)
      · exact absurd c139 (nI_pos (by omega))
      · have n139 : 0 ≤ t := gq_nlt c139 (Eq.refl (nI t)) (show (0 : Int32) = nI 0 from rfl) (by omega) (by omega)
        refine lv_aload_n X.1 X.2.1 dX12_looksAnew_142 rfl (lv_at hl 1 rfl) ?_
        refine m_getr 10 4 X hK hP hM hin rfl (by decide) k21 rfl dX12_looksAnew_143 (by decide) ?_
        refine lv_iload X.1 X.2.1 dX12_looksAnew_146 (lv_at hl 0 rfl) ?_
        refine lv_bipush (v := 8) X.1 X.2.1 dX12_looksAnew_148 (by decide) ?_
        refine lv_irem X.1 X.2.1 dX12_looksAnew_150 (by decide) ?_
        refine m_ald 4 (t % 8) 6 X hK hP hM rfl (gIx_of (gn_rem (Eq.refl (nI t)) (show (8 : Int32) = nI 8 from rfl) (by omega) (by omega) (by omega)) (by omega) (by omega)) dX12_looksAnew_151 (show N 4 (t % 8) = nI (fF σ μ υ β (t % 8)) from ((hsm 4 _ (by omega)).trans (hby (t % 8) (by omega)))) ?_
        refine lv_istore (lv' := [(9, .int (nI (fF σ μ υ β (t % 8)))), (8, .int (nI t)), (0, .ref o), (1, .int (nI μ)), (2, .int (nI υ)), (3, .int (nI β)), (4, .int (nI fl.length)), (5, .int (nI fr)), (6, .int (nI st.length)), (7, .int (nI (fr + k)))]) X.1 X.2.1 dX12_looksAnew_152 hl (by decide) rfl (fun ls hl => ?_)
        refine lv_iload X.1 X.2.1 dX12_looksAnew_154 (lv_at hl 1 rfl) ?_
        refine lv_bipush (v := 8) X.1 X.2.1 dX12_looksAnew_156 (by decide) ?_
        refine lv_idiv X.1 X.2.1 dX12_looksAnew_158 (by decide) ?_
        refine lv_iconst (v := 4) X.1 X.2.1 dX12_looksAnew_159 (by decide) ?_
        refine lv_irem X.1 X.2.1 dX12_looksAnew_160 (by decide) ?_
        refine lv_istore (lv' := [(10, .int (((nI t) / 8) - ((nI t) / 8) / 4 * 4)), (9, .int (nI (fF σ μ υ β (t % 8)))), (8, .int (nI t)), (0, .ref o), (1, .int (nI μ)), (2, .int (nI υ)), (3, .int (nI β)), (4, .int (nI fl.length)), (5, .int (nI fr)), (6, .int (nI st.length)), (7, .int (nI (fr + k)))]) X.1 X.2.1 dX12_looksAnew_161 hl (by decide) rfl (fun ls hl => ?_)
        refine lv_iload X.1 X.2.1 dX12_looksAnew_163 (lv_at hl 2 rfl) ?_
        refine lv_bipush (v := 32) X.1 X.2.1 dX12_looksAnew_165 (by decide) ?_
        refine lv_idiv X.1 X.2.1 dX12_looksAnew_167 (by decide) ?_
        refine lv_istore (lv' := [(11, .int ((nI t) / 32)), (10, .int (((nI t) / 8) - ((nI t) / 8) / 4 * 4)), (9, .int (nI (fF σ μ υ β (t % 8)))), (8, .int (nI t)), (0, .ref o), (1, .int (nI μ)), (2, .int (nI υ)), (3, .int (nI β)), (4, .int (nI fl.length)), (5, .int (nI fr)), (6, .int (nI st.length)), (7, .int (nI (fr + k)))]) X.1 X.2.1 dX12_looksAnew_168 hl (by decide) rfl (fun ls hl => ?_)
        refine lv_aload_n X.1 X.2.1 dX12_looksAnew_170 rfl (lv_at hl 4 rfl) ?_
        refine m_getr 11 5 X hK hP hM hin rfl (by decide) k24 rfl dX12_looksAnew_171 (by decide) ?_
        refine lv_iload X.1 X.2.1 dX12_looksAnew_174 (lv_at hl 10 rfl) ?_
        refine lv_iload X.1 X.2.1 dX12_looksAnew_176 (lv_at hl 1 rfl) ?_
        refine lv_if_ne (tgt := 196) X.1 X.2.1 dX12_looksAnew_178 (by decide) (fun c178 => ?_) (fun c178 => ?_)
        · have n178 : ¬ ((t / 8) % 4) = 0 := gq_ne c178 (gn_rem (gn_div (Eq.refl (nI t)) (show (8 : Int32) = nI 8 from rfl) (by omega) (by omega) (by omega)) (show (4 : Int32) = nI 4 from rfl) (by omega) (by omega) (by omega)) (show (0 : Int32) = nI 0 from rfl) (by omega) (by omega)
          refine lv_iload X.1 X.2.1 dX12_looksAnew_196 (lv_at hl 1 rfl) ?_
          refine lv_iconst (v := 1) X.1 X.2.1 dX12_looksAnew_198 (by decide) ?_
          refine lv_icmp_ne (tgt := 217) X.1 X.2.1 dX12_looksAnew_199 (by decide) (fun c199 => ?_) (fun c199 => ?_)
          · have n199 : ¬ ((t / 8) % 4) = 1 := gq_ne c199 (gn_rem (gn_div (Eq.refl (nI t)) (show (8 : Int32) = nI 8 from rfl) (by omega) (by omega) (by omega)) (show (4 : Int32) = nI 4 from rfl) (by omega) (by omega) (by omega)) (show (1 : Int32) = nI 1 from rfl) (by omega) (by omega)
            refine lv_iload X.1 X.2.1 dX12_looksAnew_217 (lv_at hl 2 rfl) ?_
            refine lv_iload X.1 X.2.1 dX12_looksAnew_219 (lv_at hl 0 rfl) ?_
            refine lv_icmp_le (tgt := 228) X.1 X.2.1 dX12_looksAnew_221 (by decide) (fun c221 => ?_) (fun c221 => ?_)
            · have n221 : fF σ μ υ β (t % 8) ≤ (t / 32) := gq_le c221 (Eq.refl (nI (fF σ μ υ β (t % 8)))) (gn_div (Eq.refl (nI t)) (show (32 : Int32) = nI 32 from rfl) (by omega) (by omega) (by omega)) (by omega) (by omega)
              refine lv_iconst (v := 0) X.1 X.2.1 dX12_looksAnew_228 (by decide) ?_
              refine m_zast (st.length) X hK hP hS hM (gIx_of (gn_eq (Eq.refl (nI st.length)) (by omega)) (by omega) (by omega)) rfl dX12_looksAnew_229 (fun H locs hP hS => ?_)
              generalize eM9 : g2 N 5 (st.length) 0 = M9 at hP
              refine lv_iinc (v := nI (st.length + 1)) (lv' := [(6, .int (nI (st.length + 1))), (11, .int ((nI t) / 32)), (10, .int (((nI t) / 8) - ((nI t) / 8) / 4 * 4)), (9, .int (nI (fF σ μ υ β (t % 8)))), (8, .int (nI t)), (0, .ref o), (1, .int (nI μ)), (2, .int (nI υ)), (3, .int (nI β)), (4, .int (nI fl.length)), (5, .int (nI fr)), (7, .int (nI (fr + k)))]) X.1 X.2.1 dX12_looksAnew_230 hl (k := 10) rfl (gn_inc (Eq.refl (nI st.length)) 1) (by decide) rfl (fun ls hl => ?_)
              refine lv_goto (tgt := 448) X.1 X.2.1 dX12_looksAnew_233 (by decide) ?_
              refine lv_iinc (v := nI ((fr + k) + 1)) (lv' := [(7, .int (nI ((fr + k) + 1))), (6, .int (nI (st.length + 1))), (11, .int ((nI t) / 32)), (10, .int (((nI t) / 8) - ((nI t) / 8) / 4 * 4)), (9, .int (nI (fF σ μ υ β (t % 8)))), (8, .int (nI t)), (0, .ref o), (1, .int (nI μ)), (2, .int (nI υ)), (3, .int (nI β)), (4, .int (nI fl.length)), (5, .int (nI fr))]) X.1 X.2.1 dX12_looksAnew_448 hl (k := 11) rfl (gn_inc (Eq.refl (nI (fr + k))) 1) (by decide) rfl (fun ls hl => ?_)
              refine lv_goto (tgt := 118) X.1 X.2.1 dX12_looksAnew_451 (by decide) ?_
              exact ih _ _ _ _ (by omega) ⟨(false :: st), _, _, _, (hrun2.trans (by rw [tStep_A tA, (show tTest (fF σ μ υ β) t = false from by unfold tTest; rw [if_neg n178, if_neg n199]; exact decide_eq_false (by omega))])), (by simp only [List.length_cons, List.length_nil] at *; omega), tok, ⟨gs_same eM9, tRep_up hrep (fun j hj => gs_ne eM9 (by omega) rfl)⟩, (gs_ne eM9 (by omega) hN12), (gs_ne eM9 (by omega) hN13), fun b i h => (gs_ne eM9 (by omega) (hsm b i h)), lv_sub hl [6, 7, 8, 9, 10, 11, 1, 0] rfl⟩ hP hS
            · have n221 : (t / 32) < fF σ μ υ β (t % 8) := gq_nle c221 (Eq.refl (nI (fF σ μ υ β (t % 8)))) (gn_div (Eq.refl (nI t)) (show (32 : Int32) = nI 32 from rfl) (by omega) (by omega) (by omega)) (by omega) (by omega)
              refine lv_iconst (v := 1) X.1 X.2.1 dX12_looksAnew_224 (by decide) ?_
              refine lv_goto (tgt := 229) X.1 X.2.1 dX12_looksAnew_225 (by decide) ?_
              refine m_zast (st.length) X hK hP hS hM (gIx_of (gn_eq (Eq.refl (nI st.length)) (by omega)) (by omega) (by omega)) rfl dX12_looksAnew_229 (fun H locs hP hS => ?_)
              generalize eM10 : g2 N 5 (st.length) 1 = M10 at hP
              refine lv_iinc (v := nI (st.length + 1)) (lv' := [(6, .int (nI (st.length + 1))), (11, .int ((nI t) / 32)), (10, .int (((nI t) / 8) - ((nI t) / 8) / 4 * 4)), (9, .int (nI (fF σ μ υ β (t % 8)))), (8, .int (nI t)), (0, .ref o), (1, .int (nI μ)), (2, .int (nI υ)), (3, .int (nI β)), (4, .int (nI fl.length)), (5, .int (nI fr)), (7, .int (nI (fr + k)))]) X.1 X.2.1 dX12_looksAnew_230 hl (k := 10) rfl (gn_inc (Eq.refl (nI st.length)) 1) (by decide) rfl (fun ls hl => ?_)
              refine lv_goto (tgt := 448) X.1 X.2.1 dX12_looksAnew_233 (by decide) ?_
              refine lv_iinc (v := nI ((fr + k) + 1)) (lv' := [(7, .int (nI ((fr + k) + 1))), (6, .int (nI (st.length + 1))), (11, .int ((nI t) / 32)), (10, .int (((nI t) / 8) - ((nI t) / 8) / 4 * 4)), (9, .int (nI (fF σ μ υ β (t % 8)))), (8, .int (nI t)), (0, .ref o), (1, .int (nI μ)), (2, .int (nI υ)), (3, .int (nI β)), (4, .int (nI fl.length)), (5, .int (nI fr))]) X.1 X.2.1 dX12_looksAnew_448 hl (k := 11) rfl (gn_inc (Eq.refl (nI (fr + k))) 1) (by decide) rfl (fun ls hl => ?_)
              refine lv_goto (tgt := 118) X.1 X.2.1 dX12_looksAnew_451 (by decide) ?_
              exact ih _ _ _ _ (by omega) ⟨(true :: st), _, _, _, (hrun2.trans (by rw [tStep_A tA, (show tTest (fF σ μ υ β) t = true from by unfold tTest; rw [if_neg n178, if_neg n199]; exact decide_eq_true (by omega))])), (by simp only [List.length_cons, List.length_nil] at *; omega), tok, ⟨gs_same eM10, tRep_up hrep (fun j hj => gs_ne eM10 (by omega) rfl)⟩, (gs_ne eM10 (by omega) hN12), (gs_ne eM10 (by omega) hN13), fun b i h => (gs_ne eM10 (by omega) (hsm b i h)), lv_sub hl [6, 7, 8, 9, 10, 11, 1, 0] rfl⟩ hP hS
          · have n199 : ((t / 8) % 4) = 1 := gq_eq c199 (gn_rem (gn_div (Eq.refl (nI t)) (show (8 : Int32) = nI 8 from rfl) (by omega) (by omega) (by omega)) (show (4 : Int32) = nI 4 from rfl) (by omega) (by omega) (by omega)) (show (1 : Int32) = nI 1 from rfl) (by omega) (by omega)
            refine lv_iload X.1 X.2.1 dX12_looksAnew_202 (lv_at hl 2 rfl) ?_
            refine lv_iload X.1 X.2.1 dX12_looksAnew_204 (lv_at hl 0 rfl) ?_
            refine lv_icmp_ne (tgt := 213) X.1 X.2.1 dX12_looksAnew_206 (by decide) (fun c206 => ?_) (fun c206 => ?_)
            · have n206 : ¬ fF σ μ υ β (t % 8) = (t / 32) := gq_ne c206 (Eq.refl (nI (fF σ μ υ β (t % 8)))) (gn_div (Eq.refl (nI t)) (show (32 : Int32) = nI 32 from rfl) (by omega) (by omega) (by omega)) (by omega) (by omega)
              refine lv_iconst (v := 0) X.1 X.2.1 dX12_looksAnew_213 (by decide) ?_
              refine lv_goto (tgt := 229) X.1 X.2.1 dX12_looksAnew_214 (by decide) ?_
              refine m_zast (st.length) X hK hP hS hM (gIx_of (gn_eq (Eq.refl (nI st.length)) (by omega)) (by omega) (by omega)) rfl dX12_looksAnew_229 (fun H locs hP hS => ?_)
              generalize eM11 : g2 N 5 (st.length) 0 = M11 at hP
              refine lv_iinc (v := nI (st.length + 1)) (lv' := [(6, .int (nI (st.length + 1))), (11, .int ((nI t) / 32)), (10, .int (((nI t) / 8) - ((nI t) / 8) / 4 * 4)), (9, .int (nI (fF σ μ υ β (t % 8)))), (8, .int (nI t)), (0, .ref o), (1, .int (nI μ)), (2, .int (nI υ)), (3, .int (nI β)), (4, .int (nI fl.length)), (5, .int (nI fr)), (7, .int (nI (fr + k)))]) X.1 X.2.1 dX12_looksAnew_230 hl (k := 10) rfl (gn_inc (Eq.refl (nI st.length)) 1) (by decide) rfl (fun ls hl => ?_)
              refine lv_goto (tgt := 448) X.1 X.2.1 dX12_looksAnew_233 (by decide) ?_
              refine lv_iinc (v := nI ((fr + k) + 1)) (lv' := [(7, .int (nI ((fr + k) + 1))), (6, .int (nI (st.length + 1))), (11, .int ((nI t) / 32)), (10, .int (((nI t) / 8) - ((nI t) / 8) / 4 * 4)), (9, .int (nI (fF σ μ υ β (t % 8)))), (8, .int (nI t)), (0, .ref o), (1, .int (nI μ)), (2, .int (nI υ)), (3, .int (nI β)), (4, .int (nI fl.length)), (5, .int (nI fr))]) X.1 X.2.1 dX12_looksAnew_448 hl (k := 11) rfl (gn_inc (Eq.refl (nI (fr + k))) 1) (by decide) rfl (fun ls hl => ?_)
              refine lv_goto (tgt := 118) X.1 X.2.1 dX12_looksAnew_451 (by decide) ?_
              exact ih _ _ _ _ (by omega) ⟨(false :: st), _, _, _, (hrun2.trans (by rw [tStep_A tA, (show tTest (fF σ μ υ β) t = false from by unfold tTest; rw [if_neg n178, if_pos n199]; exact decide_eq_false n206)])), (by simp only [List.length_cons, List.length_nil] at *; omega), tok, ⟨gs_same eM11, tRep_up hrep (fun j hj => gs_ne eM11 (by omega) rfl)⟩, (gs_ne eM11 (by omega) hN12), (gs_ne eM11 (by omega) hN13), fun b i h => (gs_ne eM11 (by omega) (hsm b i h)), lv_sub hl [6, 7, 8, 9, 10, 11, 1, 0] rfl⟩ hP hS
            · have n206 : fF σ μ υ β (t % 8) = (t / 32) := gq_eq c206 (Eq.refl (nI (fF σ μ υ β (t % 8)))) (gn_div (Eq.refl (nI t)) (show (32 : Int32) = nI 32 from rfl) (by omega) (by omega) (by omega)) (by omega) (by omega)
              refine lv_iconst (v := 1) X.1 X.2.1 dX12_looksAnew_209 (by decide) ?_
              refine lv_goto (tgt := 229) X.1 X.2.1 dX12_looksAnew_210 (by decide) ?_
              refine m_zast (st.length) X hK hP hS hM (gIx_of (gn_eq (Eq.refl (nI st.length)) (by omega)) (by omega) (by omega)) rfl dX12_looksAnew_229 (fun H locs hP hS => ?_)
              generalize eM12 : g2 N 5 (st.length) 1 = M12 at hP
              refine lv_iinc (v := nI (st.length + 1)) (lv' := [(6, .int (nI (st.length + 1))), (11, .int ((nI t) / 32)), (10, .int (((nI t) / 8) - ((nI t) / 8) / 4 * 4)), (9, .int (nI (fF σ μ υ β (t % 8)))), (8, .int (nI t)), (0, .ref o), (1, .int (nI μ)), (2, .int (nI υ)), (3, .int (nI β)), (4, .int (nI fl.length)), (5, .int (nI fr)), (7, .int (nI (fr + k)))]) X.1 X.2.1 dX12_looksAnew_230 hl (k := 10) rfl (gn_inc (Eq.refl (nI st.length)) 1) (by decide) rfl (fun ls hl => ?_)
              refine lv_goto (tgt := 448) X.1 X.2.1 dX12_looksAnew_233 (by decide) ?_
              refine lv_iinc (v := nI ((fr + k) + 1)) (lv' := [(7, .int (nI ((fr + k) + 1))), (6, .int (nI (st.length + 1))), (11, .int ((nI t) / 32)), (10, .int (((nI t) / 8) - ((nI t) / 8) / 4 * 4)), (9, .int (nI (fF σ μ υ β (t % 8)))), (8, .int (nI t)), (0, .ref o), (1, .int (nI μ)), (2, .int (nI υ)), (3, .int (nI β)), (4, .int (nI fl.length)), (5, .int (nI fr))]) X.1 X.2.1 dX12_looksAnew_448 hl (k := 11) rfl (gn_inc (Eq.refl (nI (fr + k))) 1) (by decide) rfl (fun ls hl => ?_)
              refine lv_goto (tgt := 118) X.1 X.2.1 dX12_looksAnew_451 (by decide) ?_
              exact ih _ _ _ _ (by omega) ⟨(true :: st), _, _, _, (hrun2.trans (by rw [tStep_A tA, (show tTest (fF σ μ υ β) t = true from by unfold tTest; rw [if_neg n178, if_pos n199]; exact decide_eq_true n206)])), (by simp only [List.length_cons, List.length_nil] at *; omega), tok, ⟨gs_same eM12, tRep_up hrep (fun j hj => gs_ne eM12 (by omega) rfl)⟩, (gs_ne eM12 (by omega) hN12), (gs_ne eM12 (by omega) hN13), fun b i h => (gs_ne eM12 (by omega) (hsm b i h)), lv_sub hl [6, 7, 8, 9, 10, 11, 1, 0] rfl⟩ hP hS
        · have n178 : ((t / 8) % 4) = 0 := gq_eq c178 (gn_rem (gn_div (Eq.refl (nI t)) (show (8 : Int32) = nI 8 from rfl) (by omega) (by omega) (by omega)) (show (4 : Int32) = nI 4 from rfl) (by omega) (by omega) (by omega)) (show (0 : Int32) = nI 0 from rfl) (by omega) (by omega)
          refine lv_iload X.1 X.2.1 dX12_looksAnew_181 (lv_at hl 2 rfl) ?_
          refine lv_iload X.1 X.2.1 dX12_looksAnew_183 (lv_at hl 0 rfl) ?_
          refine lv_icmp_ge (tgt := 192) X.1 X.2.1 dX12_looksAnew_185 (by decide) (fun c185 => ?_) (fun c185 => ?_)
          · have n185 : (t / 32) ≤ fF σ μ υ β (t % 8) := gq_le c185 (gn_div (Eq.refl (nI t)) (show (32 : Int32) = nI 32 from rfl) (by omega) (by omega) (by omega)) (Eq.refl (nI (fF σ μ υ β (t % 8)))) (by omega) (by omega)
            refine lv_iconst (v := 0) X.1 X.2.1 dX12_looksAnew_192 (by decide) ?_
            refine lv_goto (tgt := 229) X.1 X.2.1 dX12_looksAnew_193 (by decide) ?_
            refine m_zast (st.length) X hK hP hS hM (gIx_of (gn_eq (Eq.refl (nI st.length)) (by omega)) (by omega) (by omega)) rfl dX12_looksAnew_229 (fun H locs hP hS => ?_)
            generalize eM13 : g2 N 5 (st.length) 0 = M13 at hP
            refine lv_iinc (v := nI (st.length + 1)) (lv' := [(6, .int (nI (st.length + 1))), (11, .int ((nI t) / 32)), (10, .int (((nI t) / 8) - ((nI t) / 8) / 4 * 4)), (9, .int (nI (fF σ μ υ β (t % 8)))), (8, .int (nI t)), (0, .ref o), (1, .int (nI μ)), (2, .int (nI υ)), (3, .int (nI β)), (4, .int (nI fl.length)), (5, .int (nI fr)), (7, .int (nI (fr + k)))]) X.1 X.2.1 dX12_looksAnew_230 hl (k := 10) rfl (gn_inc (Eq.refl (nI st.length)) 1) (by decide) rfl (fun ls hl => ?_)
            refine lv_goto (tgt := 448) X.1 X.2.1 dX12_looksAnew_233 (by decide) ?_
            refine lv_iinc (v := nI ((fr + k) + 1)) (lv' := [(7, .int (nI ((fr + k) + 1))), (6, .int (nI (st.length + 1))), (11, .int ((nI t) / 32)), (10, .int (((nI t) / 8) - ((nI t) / 8) / 4 * 4)), (9, .int (nI (fF σ μ υ β (t % 8)))), (8, .int (nI t)), (0, .ref o), (1, .int (nI μ)), (2, .int (nI υ)), (3, .int (nI β)), (4, .int (nI fl.length)), (5, .int (nI fr))]) X.1 X.2.1 dX12_looksAnew_448 hl (k := 11) rfl (gn_inc (Eq.refl (nI (fr + k))) 1) (by decide) rfl (fun ls hl => ?_)
            refine lv_goto (tgt := 118) X.1 X.2.1 dX12_looksAnew_451 (by decide) ?_
            exact ih _ _ _ _ (by omega) ⟨(false :: st), _, _, _, (hrun2.trans (by rw [tStep_A tA, (show tTest (fF σ μ υ β) t = false from by unfold tTest; rw [if_pos n178]; exact decide_eq_false (by omega))])), (by simp only [List.length_cons, List.length_nil] at *; omega), tok, ⟨gs_same eM13, tRep_up hrep (fun j hj => gs_ne eM13 (by omega) rfl)⟩, (gs_ne eM13 (by omega) hN12), (gs_ne eM13 (by omega) hN13), fun b i h => (gs_ne eM13 (by omega) (hsm b i h)), lv_sub hl [6, 7, 8, 9, 10, 11, 1, 0] rfl⟩ hP hS
          · have n185 : fF σ μ υ β (t % 8) < (t / 32) := gq_nle c185 (gn_div (Eq.refl (nI t)) (show (32 : Int32) = nI 32 from rfl) (by omega) (by omega) (by omega)) (Eq.refl (nI (fF σ μ υ β (t % 8)))) (by omega) (by omega)
            refine lv_iconst (v := 1) X.1 X.2.1 dX12_looksAnew_188 (by decide) ?_
            refine lv_goto (tgt := 229) X.1 X.2.1 dX12_looksAnew_189 (by decide) ?_
            refine m_zast (st.length) X hK hP hS hM (gIx_of (gn_eq (Eq.refl (nI st.length)) (by omega)) (by omega) (by omega)) rfl dX12_looksAnew_229 (fun H locs hP hS => ?_)
            generalize eM14 : g2 N 5 (st.length) 1 = M14 at hP
            refine lv_iinc (v := nI (st.length + 1)) (lv' := [(6, .int (nI (st.length + 1))), (11, .int ((nI t) / 32)), (10, .int (((nI t) / 8) - ((nI t) / 8) / 4 * 4)), (9, .int (nI (fF σ μ υ β (t % 8)))), (8, .int (nI t)), (0, .ref o), (1, .int (nI μ)), (2, .int (nI υ)), (3, .int (nI β)), (4, .int (nI fl.length)), (5, .int (nI fr)), (7, .int (nI (fr + k)))]) X.1 X.2.1 dX12_looksAnew_230 hl (k := 10) rfl (gn_inc (Eq.refl (nI st.length)) 1) (by decide) rfl (fun ls hl => ?_)
            refine lv_goto (tgt := 448) X.1 X.2.1 dX12_looksAnew_233 (by decide) ?_
            refine lv_iinc (v := nI ((fr + k) + 1)) (lv' := [(7, .int (nI ((fr + k) + 1))), (6, .int (nI (st.length + 1))), (11, .int ((nI t) / 32)), (10, .int (((nI t) / 8) - ((nI t) / 8) / 4 * 4)), (9, .int (nI (fF σ μ υ β (t % 8)))), (8, .int (nI t)), (0, .ref o), (1, .int (nI μ)), (2, .int (nI υ)), (3, .int (nI β)), (4, .int (nI fl.length)), (5, .int (nI fr))]) X.1 X.2.1 dX12_looksAnew_448 hl (k := 11) rfl (gn_inc (Eq.refl (nI (fr + k))) 1) (by decide) rfl (fun ls hl => ?_)
            refine lv_goto (tgt := 118) X.1 X.2.1 dX12_looksAnew_451 (by decide) ?_
            exact ih _ _ _ _ (by omega) ⟨(true :: st), _, _, _, (hrun2.trans (by rw [tStep_A tA, (show tTest (fF σ μ υ β) t = true from by unfold tTest; rw [if_pos n178]; exact decide_eq_true n185)])), (by simp only [List.length_cons, List.length_nil] at *; omega), tok, ⟨gs_same eM14, tRep_up hrep (fun j hj => gs_ne eM14 (by omega) rfl)⟩, (gs_ne eM14 (by omega) hN12), (gs_ne eM14 (by omega) hN13), fun b i h => (gs_ne eM14 (by omega) (hsm b i h)), lv_sub hl [6, 7, 8, 9, 10, 11, 1, 0] rfl⟩ hP hS
    · by_cases tN : t = 10000
      · subst tN
        obtain ⟨t1, tok⟩ := tOk_N hok
        obtain ⟨b0, st, rfl⟩ : ∃ b0 r, st = b0 :: r := by cases st with | nil => exact absurd t1 (by simp) | cons a r => exact ⟨a, r, rfl⟩
        have hst21 : st.length + 1 ≤ 20 := hst20
        rw [tStep_N] at hrun2
        cases b0 with
        | true =>
          refine lv_cv (show encR 10000 = -1 by decide) ?_
          refine lv_istore (lv' := [(8, .int (-1)), (0, .ref o), (1, .int (nI μ)), (2, .int (nI υ)), (3, .int (nI β)), (4, .int (nI fl.length)), (5, .int (nI fr)), (6, .int (nI (st.length + 1))), (7, .int (nI (fr + k)))]) X.1 X.2.1 dX12_looksAnew_135 hl (by decide) rfl (fun ls hl => ?_)
          refine lv_iload X.1 X.2.1 dX12_looksAnew_137 (lv_at hl 0 rfl) ?_
          refine lv_if_lt (tgt := 236) X.1 X.2.1 dX12_looksAnew_139 (by decide) (fun c139 => ?_) (fun c139 => ?_)
          · refine lv_iload X.1 X.2.1 dX12_looksAnew_236 (lv_at hl 0 rfl) ?_
            refine lv_iconst (v := (-1)) X.1 X.2.1 dX12_looksAnew_238 (by decide) ?_
            refine lv_icmp_ne (tgt := 271) X.1 X.2.1 dX12_looksAnew_239 (by decide) (fun c239 => ?_) (fun c239 => ?_)
            · exact absurd rfl c239
            · refine lv_aload_n X.1 X.2.1 dX12_looksAnew_242 rfl (lv_at hl 1 rfl) ?_
              refine m_getr 11 5 X hK hP hM hin rfl (by decide) k24 rfl dX12_looksAnew_243 (by decide) ?_
              refine lv_iload X.1 X.2.1 dX12_looksAnew_246 (lv_at hl 7 rfl) ?_
              refine lv_iconst (v := 1) X.1 X.2.1 dX12_looksAnew_248 (by decide) ?_
              refine lv_isub X.1 X.2.1 dX12_looksAnew_249 ?_
              refine lv_aload_n X.1 X.2.1 dX12_looksAnew_250 rfl (lv_at hl 1 rfl) ?_
              refine m_getr 11 5 X hK hP hM hin rfl (by decide) k24 rfl dX12_looksAnew_251 (by decide) ?_
              refine lv_iload X.1 X.2.1 dX12_looksAnew_254 (lv_at hl 7 rfl) ?_
              refine lv_iconst (v := 1) X.1 X.2.1 dX12_looksAnew_256 (by decide) ?_
              refine lv_isub X.1 X.2.1 dX12_looksAnew_257 ?_
              refine m_zald (st.length) X hK hP hM (gIx_of (gn_eq (gn_sub (Eq.refl (nI (st.length + 1))) (show (1 : Int32) = nI 1 from rfl) (by omega)) (by omega)) (by omega) (by omega)) dX12_looksAnew_258 (show N 5 (st.length) = 1 from (hrep.1)) ?_
              refine lv_if_ne (tgt := 266) X.1 X.2.1 dX12_looksAnew_259 (by decide) (fun c259 => ?_) (fun c259 => ?_)
              · have n259 : ¬ 1 = 0 := gq_ne c259 (show (1 : Int32) = nI 1 from rfl) (show (0 : Int32) = nI 0 from rfl) (by omega) (by omega)
                refine lv_iconst (v := 0) X.1 X.2.1 dX12_looksAnew_266 (by decide) ?_
                refine m_zast (st.length) X hK hP hS hM (gIx_of (gn_eq (gn_sub (Eq.refl (nI (st.length + 1))) (show (1 : Int32) = nI 1 from rfl) (by omega)) (by omega)) (by omega) (by omega)) rfl dX12_looksAnew_267 (fun H locs hP hS => ?_)
                generalize eM15 : g2 N 5 (st.length) 0 = M15 at hP
                refine lv_goto (tgt := 448) X.1 X.2.1 dX12_looksAnew_268 (by decide) ?_
                refine lv_iinc (v := nI ((fr + k) + 1)) (lv' := [(7, .int (nI ((fr + k) + 1))), (8, .int (-1)), (0, .ref o), (1, .int (nI μ)), (2, .int (nI υ)), (3, .int (nI β)), (4, .int (nI fl.length)), (5, .int (nI fr)), (6, .int (nI (st.length + 1)))]) X.1 X.2.1 dX12_looksAnew_448 hl (k := 8) rfl (gn_inc (Eq.refl (nI (fr + k))) 1) (by decide) rfl (fun ls hl => ?_)
                refine lv_goto (tgt := 118) X.1 X.2.1 dX12_looksAnew_451 (by decide) ?_
                exact ih _ _ _ _ (by omega) ⟨(false :: st), _, _, _, hrun2, (by simp only [List.length_cons, List.length_nil] at *; omega), tok, ⟨gs_same eM15, tRep_up hrep.2 (fun j hj => gs_ne eM15 (by omega) rfl)⟩, (gs_ne eM15 (by omega) hN12), (gs_ne eM15 (by omega) hN13), fun b i h => (gs_ne eM15 (by omega) (hsm b i h)), lv_sub hl [2, 3, 4, 5, 6, 7, 8, 0] rfl⟩ hP hS
              · exact absurd c259 (by decide)
          · exact absurd (by decide) c139
        | false =>
          refine lv_cv (show encR 10000 = -1 by decide) ?_
          refine lv_istore (lv' := [(8, .int (-1)), (0, .ref o), (1, .int (nI μ)), (2, .int (nI υ)), (3, .int (nI β)), (4, .int (nI fl.length)), (5, .int (nI fr)), (6, .int (nI (st.length + 1))), (7, .int (nI (fr + k)))]) X.1 X.2.1 dX12_looksAnew_135 hl (by decide) rfl (fun ls hl => ?_)
          refine lv_iload X.1 X.2.1 dX12_looksAnew_137 (lv_at hl 0 rfl) ?_
          refine lv_if_lt (tgt := 236) X.1 X.2.1 dX12_looksAnew_139 (by decide) (fun c139 => ?_) (fun c139 => ?_)
          · refine lv_iload X.1 X.2.1 dX12_looksAnew_236 (lv_at hl 0 rfl) ?_
            refine lv_iconst (v := (-1)) X.1 X.2.1 dX12_looksAnew_238 (by decide) ?_
            refine lv_icmp_ne (tgt := 271) X.1 X.2.1 dX12_looksAnew_239 (by decide) (fun c239 => ?_) (fun c239 => ?_)
            · exact absurd rfl c239
            · refine lv_aload_n X.1 X.2.1 dX12_looksAnew_242 rfl (lv_at hl 1 rfl) ?_
              refine m_getr 11 5 X hK hP hM hin rfl (by decide) k24 rfl dX12_looksAnew_243 (by decide) ?_
              refine lv_iload X.1 X.2.1 dX12_looksAnew_246 (lv_at hl 7 rfl) ?_
              refine lv_iconst (v := 1) X.1 X.2.1 dX12_looksAnew_248 (by decide) ?_
              refine lv_isub X.1 X.2.1 dX12_looksAnew_249 ?_
              refine lv_aload_n X.1 X.2.1 dX12_looksAnew_250 rfl (lv_at hl 1 rfl) ?_
              refine m_getr 11 5 X hK hP hM hin rfl (by decide) k24 rfl dX12_looksAnew_251 (by decide) ?_
              refine lv_iload X.1 X.2.1 dX12_looksAnew_254 (lv_at hl 7 rfl) ?_
              refine lv_iconst (v := 1) X.1 X.2.1 dX12_looksAnew_256 (by decide) ?_
              refine lv_isub X.1 X.2.1 dX12_looksAnew_257 ?_
              refine m_zald (st.length) X hK hP hM (gIx_of (gn_eq (gn_sub (Eq.refl (nI (st.length + 1))) (show (1 : Int32) = nI 1 from rfl) (by omega)) (by omega)) (by omega) (by omega)) dX12_looksAnew_258 (show N 5 (st.length) = 0 from (hrep.1)) ?_
              refine lv_if_ne (tgt := 266) X.1 X.2.1 dX12_looksAnew_259 (by decide) (fun c259 => ?_) (fun c259 => ?_)
              · exact absurd rfl c259
              · have n259 : 0 = 0 := gq_eq c259 (show (0 : Int32) = nI 0 from rfl) (show (0 : Int32) = nI 0 from rfl) (by omega) (by omega)
                refine lv_iconst (v := 1) X.1 X.2.1 dX12_looksAnew_262 (by decide) ?_
                refine lv_goto (tgt := 267) X.1 X.2.1 dX12_looksAnew_263 (by decide) ?_
                refine m_zast (st.length) X hK hP hS hM (gIx_of (gn_eq (gn_sub (Eq.refl (nI (st.length + 1))) (show (1 : Int32) = nI 1 from rfl) (by omega)) (by omega)) (by omega) (by omega)) rfl dX12_looksAnew_267 (fun H locs hP hS => ?_)
                generalize eM16 : g2 N 5 (st.length) 1 = M16 at hP
                refine lv_goto (tgt := 448) X.1 X.2.1 dX12_looksAnew_268 (by decide) ?_
                refine lv_iinc (v := nI ((fr + k) + 1)) (lv' := [(7, .int (nI ((fr + k) + 1))), (8, .int (-1)), (0, .ref o), (1, .int (nI μ)), (2, .int (nI υ)), (3, .int (nI β)), (4, .int (nI fl.length)), (5, .int (nI fr)), (6, .int (nI (st.length + 1)))]) X.1 X.2.1 dX12_looksAnew_448 hl (k := 8) rfl (gn_inc (Eq.refl (nI (fr + k))) 1) (by decide) rfl (fun ls hl => ?_)
                refine lv_goto (tgt := 118) X.1 X.2.1 dX12_looksAnew_451 (by decide) ?_
                exact ih _ _ _ _ (by omega) ⟨(true :: st), _, _, _, hrun2, (by simp only [List.length_cons, List.length_nil] at *; omega), tok, ⟨gs_same eM16, tRep_up hrep.2 (fun j hj => gs_ne eM16 (by omega) rfl)⟩, (gs_ne eM16 (by omega) hN12), (gs_ne eM16 (by omega) hN13), fun b i h => (gs_ne eM16 (by omega) (hsm b i h)), lv_sub hl [2, 3, 4, 5, 6, 7, 8, 0] rfl⟩ hP hS
          · exact absurd (by decide) c139
      · by_cases tB : t = 10001 ∨ t = 10002
        · obtain ⟨t2, tok⟩ := tOk_B hok tB
          obtain ⟨a0, b0, st, rfl⟩ : ∃ a0 b0 r, st = a0 :: b0 :: r := by cases st with | nil => exact absurd t2 (by simp) | cons a r => cases r with | nil => exact absurd t2 (by simp) | cons b r => exact ⟨a, b, r, rfl⟩
          have tok : tOk 20 (fl.drop (k + 1)) (st.length + 1) := tok
          have hst21 : st.length + 2 ≤ 20 := hst20
          rcases tB with rfl | rfl
          · rw [tStep_B] at hrun2
            cases a0 with
            | true =>
              cases b0 with
              | true =>
                refine lv_cv (show encR 10001 = -2 by decide) ?_
                refine lv_istore (lv' := [(8, .int (-2)), (0, .ref o), (1, .int (nI μ)), (2, .int (nI υ)), (3, .int (nI β)), (4, .int (nI fl.length)), (5, .int (nI fr)), (6, .int (nI (st.length + 2))), (7, .int (nI (fr + k)))]) X.1 X.2.1 dX12_looksAnew_135 hl (by decide) rfl (fun ls hl => ?_)
                refine lv_iload X.1 X.2.1 dX12_looksAnew_137 (lv_at hl 0 rfl) ?_
                refine lv_if_lt (tgt := 236) X.1 X.2.1 dX12_looksAnew_139 (by decide) (fun c139 => ?_) (fun c139 => ?_)
                · refine lv_iload X.1 X.2.1 dX12_looksAnew_236 (lv_at hl 0 rfl) ?_
                  refine lv_iconst (v := (-1)) X.1 X.2.1 dX12_looksAnew_238 (by decide) ?_
                  refine lv_icmp_ne (tgt := 271) X.1 X.2.1 dX12_looksAnew_239 (by decide) (fun c239 => ?_) (fun c239 => ?_)
                  · refine lv_iload X.1 X.2.1 dX12_looksAnew_271 (lv_at hl 0 rfl) ?_
                    refine lv_bipush (v := (-10)) X.1 X.2.1 dX12_looksAnew_273 (by decide) ?_
                    refine lv_icmp_le (tgt := 357) X.1 X.2.1 dX12_looksAnew_275 (by decide) (fun c275 => ?_) (fun c275 => ?_)
                    · exact absurd c275 (by decide)
                    · refine lv_iinc (v := nI (st.length + 1)) (lv' := [(6, .int (nI (st.length + 1))), (8, .int (-2)), (0, .ref o), (1, .int (nI μ)), (2, .int (nI υ)), (3, .int (nI β)), (4, .int (nI fl.length)), (5, .int (nI fr)), (7, .int (nI (fr + k)))]) X.1 X.2.1 dX12_looksAnew_278 hl (k := 7) rfl (gn_dec (st.length + 1)) (by decide) rfl (fun ls hl => ?_)
                      refine lv_aload_n X.1 X.2.1 dX12_looksAnew_281 rfl (lv_at hl 2 rfl) ?_
                      refine m_getr 11 5 X hK hP hM hin rfl (by decide) k24 rfl dX12_looksAnew_282 (by decide) ?_
                      refine lv_iload X.1 X.2.1 dX12_looksAnew_285 (lv_at hl 0 rfl) ?_
                      refine lv_iconst (v := 1) X.1 X.2.1 dX12_looksAnew_287 (by decide) ?_
                      refine lv_isub X.1 X.2.1 dX12_looksAnew_288 ?_
                      refine lv_iload X.1 X.2.1 dX12_looksAnew_289 (lv_at hl 1 rfl) ?_
                      refine lv_bipush (v := (-2)) X.1 X.2.1 dX12_looksAnew_291 (by decide) ?_
                      refine lv_icmp_ne (tgt := 326) X.1 X.2.1 dX12_looksAnew_293 (by decide) (fun c293 => ?_) (fun c293 => ?_)
                      · exact absurd rfl c293
                      · refine lv_aload_n X.1 X.2.1 dX12_looksAnew_296 rfl (lv_at hl 2 rfl) ?_
                        refine m_getr 11 5 X hK hP hM hin rfl (by decide) k24 rfl dX12_looksAnew_297 (by decide) ?_
                        refine lv_iload X.1 X.2.1 dX12_looksAnew_300 (lv_at hl 0 rfl) ?_
                        refine lv_iconst (v := 1) X.1 X.2.1 dX12_looksAnew_302 (by decide) ?_
                        refine lv_isub X.1 X.2.1 dX12_looksAnew_303 ?_
                        refine m_zald (st.length) X hK hP hM (gIx_of (gn_eq (gn_sub (Eq.refl (nI (st.length + 1))) (show (1 : Int32) = nI 1 from rfl) (by omega)) (by omega)) (by omega) (by omega)) dX12_looksAnew_304 (show N 5 (st.length) = 1 from (hrep.2.1)) ?_
                        refine lv_if_eq (tgt := 322) X.1 X.2.1 dX12_looksAnew_305 (by decide) (fun c305 => ?_) (fun c305 => ?_)
                        · exact absurd c305 (by decide)
                        · have n305 : ¬ 1 = 0 := gq_ne c305 (show (1 : Int32) = nI 1 from rfl) (show (0 : Int32) = nI 0 from rfl) (by omega) (by omega)
                          refine lv_aload_n X.1 X.2.1 dX12_looksAnew_308 rfl (lv_at hl 2 rfl) ?_
                          refine m_getr 11 5 X hK hP hM hin rfl (by decide) k24 rfl dX12_looksAnew_309 (by decide) ?_
                          refine lv_iload X.1 X.2.1 dX12_looksAnew_312 (lv_at hl 0 rfl) ?_
                          refine m_zald (1 + st.length) X hK hP hM (gIx_of (gn_eq (Eq.refl (nI (st.length + 1))) (by omega)) (by omega) (by omega)) dX12_looksAnew_314 (show N 5 (1 + st.length) = 1 from (by rw [Nat.add_comm]; exact hrep.1)) ?_
                          refine lv_if_eq (tgt := 322) X.1 X.2.1 dX12_looksAnew_315 (by decide) (fun c315 => ?_) (fun c315 => ?_)
                          · exact absurd c315 (by decide)
                          · have n315 : ¬ 1 = 0 := gq_ne c315 (show (1 : Int32) = nI 1 from rfl) (show (0 : Int32) = nI 0 from rfl) (by omega) (by omega)
                            refine lv_iconst (v := 1) X.1 X.2.1 dX12_looksAnew_318 (by decide) ?_
                            refine lv_goto (tgt := 353) X.1 X.2.1 dX12_looksAnew_319 (by decide) ?_
                            refine m_zast (st.length) X hK hP hS hM (gIx_of (gn_eq (gn_sub (Eq.refl (nI (st.length + 1))) (show (1 : Int32) = nI 1 from rfl) (by omega)) (by omega)) (by omega) (by omega)) rfl dX12_looksAnew_353 (fun H locs hP hS => ?_)
                            generalize eM17 : g2 N 5 (st.length) 1 = M17 at hP
                            refine lv_goto (tgt := 448) X.1 X.2.1 dX12_looksAnew_354 (by decide) ?_
                            refine lv_iinc (v := nI ((fr + k) + 1)) (lv' := [(7, .int (nI ((fr + k) + 1))), (6, .int (nI (st.length + 1))), (8, .int (-2)), (0, .ref o), (1, .int (nI μ)), (2, .int (nI υ)), (3, .int (nI β)), (4, .int (nI fl.length)), (5, .int (nI fr))]) X.1 X.2.1 dX12_looksAnew_448 hl (k := 8) rfl (gn_inc (Eq.refl (nI (fr + k))) 1) (by decide) rfl (fun ls hl => ?_)
                            refine lv_goto (tgt := 118) X.1 X.2.1 dX12_looksAnew_451 (by decide) ?_
                            exact ih _ _ _ _ (by omega) ⟨(true :: st), _, _, _, hrun2, (by simp only [List.length_cons, List.length_nil] at *; omega), tok, ⟨gs_same eM17, tRep_up hrep.2.2 (fun j hj => gs_ne eM17 (by omega) rfl)⟩, (gs_ne eM17 (by omega) hN12), (gs_ne eM17 (by omega) hN13), fun b i h => (gs_ne eM17 (by omega) (hsm b i h)), lv_sub hl [3, 4, 5, 6, 7, 8, 1, 0] rfl⟩ hP hS
                  · exact absurd c239 (by decide)
                · exact absurd (by decide) c139
              | false =>
                refine lv_cv (show encR 10001 = -2 by decide) ?_
                refine lv_istore (lv' := [(8, .int (-2)), (0, .ref o), (1, .int (nI μ)), (2, .int (nI υ)), (3, .int (nI β)), (4, .int (nI fl.length)), (5, .int (nI fr)), (6, .int (nI (st.length + 2))), (7, .int (nI (fr + k)))]) X.1 X.2.1 dX12_looksAnew_135 hl (by decide) rfl (fun ls hl => ?_)
                refine lv_iload X.1 X.2.1 dX12_looksAnew_137 (lv_at hl 0 rfl) ?_
                refine lv_if_lt (tgt := 236) X.1 X.2.1 dX12_looksAnew_139 (by decide) (fun c139 => ?_) (fun c139 => ?_)
                · refine lv_iload X.1 X.2.1 dX12_looksAnew_236 (lv_at hl 0 rfl) ?_
                  refine lv_iconst (v := (-1)) X.1 X.2.1 dX12_looksAnew_238 (by decide) ?_
                  refine lv_icmp_ne (tgt := 271) X.1 X.2.1 dX12_looksAnew_239 (by decide) (fun c239 => ?_) (fun c239 => ?_)
                  · refine lv_iload X.1 X.2.1 dX12_looksAnew_271 (lv_at hl 0 rfl) ?_
                    refine lv_bipush (v := (-10)) X.1 X.2.1 dX12_looksAnew_273 (by decide) ?_
                    refine lv_icmp_le (tgt := 357) X.1 X.2.1 dX12_looksAnew_275 (by decide) (fun c275 => ?_) (fun c275 => ?_)
                    · exact absurd c275 (by decide)
                    · refine lv_iinc (v := nI (st.length + 1)) (lv' := [(6, .int (nI (st.length + 1))), (8, .int (-2)), (0, .ref o), (1, .int (nI μ)), (2, .int (nI υ)), (3, .int (nI β)), (4, .int (nI fl.length)), (5, .int (nI fr)), (7, .int (nI (fr + k)))]) X.1 X.2.1 dX12_looksAnew_278 hl (k := 7) rfl (gn_dec (st.length + 1)) (by decide) rfl (fun ls hl => ?_)
                      refine lv_aload_n X.1 X.2.1 dX12_looksAnew_281 rfl (lv_at hl 2 rfl) ?_
                      refine m_getr 11 5 X hK hP hM hin rfl (by decide) k24 rfl dX12_looksAnew_282 (by decide) ?_
                      refine lv_iload X.1 X.2.1 dX12_looksAnew_285 (lv_at hl 0 rfl) ?_
                      refine lv_iconst (v := 1) X.1 X.2.1 dX12_looksAnew_287 (by decide) ?_
                      refine lv_isub X.1 X.2.1 dX12_looksAnew_288 ?_
                      refine lv_iload X.1 X.2.1 dX12_looksAnew_289 (lv_at hl 1 rfl) ?_
                      refine lv_bipush (v := (-2)) X.1 X.2.1 dX12_looksAnew_291 (by decide) ?_
                      refine lv_icmp_ne (tgt := 326) X.1 X.2.1 dX12_looksAnew_293 (by decide) (fun c293 => ?_) (fun c293 => ?_)
                      · exact absurd rfl c293
                      · refine lv_aload_n X.1 X.2.1 dX12_looksAnew_296 rfl (lv_at hl 2 rfl) ?_
                        refine m_getr 11 5 X hK hP hM hin rfl (by decide) k24 rfl dX12_looksAnew_297 (by decide) ?_
                        refine lv_iload X.1 X.2.1 dX12_looksAnew_300 (lv_at hl 0 rfl) ?_
                        refine lv_iconst (v := 1) X.1 X.2.1 dX12_looksAnew_302 (by decide) ?_
                        refine lv_isub X.1 X.2.1 dX12_looksAnew_303 ?_
                        refine m_zald (st.length) X hK hP hM (gIx_of (gn_eq (gn_sub (Eq.refl (nI (st.length + 1))) (show (1 : Int32) = nI 1 from rfl) (by omega)) (by omega)) (by omega) (by omega)) dX12_looksAnew_304 (show N 5 (st.length) = 0 from (hrep.2.1)) ?_
                        refine lv_if_eq (tgt := 322) X.1 X.2.1 dX12_looksAnew_305 (by decide) (fun c305 => ?_) (fun c305 => ?_)
                        · have n305 : 0 = 0 := gq_eq c305 (show (0 : Int32) = nI 0 from rfl) (show (0 : Int32) = nI 0 from rfl) (by omega) (by omega)
                          refine lv_iconst (v := 0) X.1 X.2.1 dX12_looksAnew_322 (by decide) ?_
                          refine lv_goto (tgt := 353) X.1 X.2.1 dX12_looksAnew_323 (by decide) ?_
                          refine m_zast (st.length) X hK hP hS hM (gIx_of (gn_eq (gn_sub (Eq.refl (nI (st.length + 1))) (show (1 : Int32) = nI 1 from rfl) (by omega)) (by omega)) (by omega) (by omega)) rfl dX12_looksAnew_353 (fun H locs hP hS => ?_)
                          generalize eM18 : g2 N 5 (st.length) 0 = M18 at hP
                          refine lv_goto (tgt := 448) X.1 X.2.1 dX12_looksAnew_354 (by decide) ?_
                          refine lv_iinc (v := nI ((fr + k) + 1)) (lv' := [(7, .int (nI ((fr + k) + 1))), (6, .int (nI (st.length + 1))), (8, .int (-2)), (0, .ref o), (1, .int (nI μ)), (2, .int (nI υ)), (3, .int (nI β)), (4, .int (nI fl.length)), (5, .int (nI fr))]) X.1 X.2.1 dX12_looksAnew_448 hl (k := 8) rfl (gn_inc (Eq.refl (nI (fr + k))) 1) (by decide) rfl (fun ls hl => ?_)
                          refine lv_goto (tgt := 118) X.1 X.2.1 dX12_looksAnew_451 (by decide) ?_
                          exact ih _ _ _ _ (by omega) ⟨(false :: st), _, _, _, hrun2, (by simp only [List.length_cons, List.length_nil] at *; omega), tok, ⟨gs_same eM18, tRep_up hrep.2.2 (fun j hj => gs_ne eM18 (by omega) rfl)⟩, (gs_ne eM18 (by omega) hN12), (gs_ne eM18 (by omega) hN13), fun b i h => (gs_ne eM18 (by omega) (hsm b i h)), lv_sub hl [3, 4, 5, 6, 7, 8, 1, 0] rfl⟩ hP hS
                        · exact absurd rfl c305
                  · exact absurd c239 (by decide)
                · exact absurd (by decide) c139
            | false =>
              cases b0 with
              | true =>
                refine lv_cv (show encR 10001 = -2 by decide) ?_
                refine lv_istore (lv' := [(8, .int (-2)), (0, .ref o), (1, .int (nI μ)), (2, .int (nI υ)), (3, .int (nI β)), (4, .int (nI fl.length)), (5, .int (nI fr)), (6, .int (nI (st.length + 2))), (7, .int (nI (fr + k)))]) X.1 X.2.1 dX12_looksAnew_135 hl (by decide) rfl (fun ls hl => ?_)
                refine lv_iload X.1 X.2.1 dX12_looksAnew_137 (lv_at hl 0 rfl) ?_
                refine lv_if_lt (tgt := 236) X.1 X.2.1 dX12_looksAnew_139 (by decide) (fun c139 => ?_) (fun c139 => ?_)
                · refine lv_iload X.1 X.2.1 dX12_looksAnew_236 (lv_at hl 0 rfl) ?_
                  refine lv_iconst (v := (-1)) X.1 X.2.1 dX12_looksAnew_238 (by decide) ?_
                  refine lv_icmp_ne (tgt := 271) X.1 X.2.1 dX12_looksAnew_239 (by decide) (fun c239 => ?_) (fun c239 => ?_)
                  · refine lv_iload X.1 X.2.1 dX12_looksAnew_271 (lv_at hl 0 rfl) ?_
                    refine lv_bipush (v := (-10)) X.1 X.2.1 dX12_looksAnew_273 (by decide) ?_
                    refine lv_icmp_le (tgt := 357) X.1 X.2.1 dX12_looksAnew_275 (by decide) (fun c275 => ?_) (fun c275 => ?_)
                    · exact absurd c275 (by decide)
                    · refine lv_iinc (v := nI (st.length + 1)) (lv' := [(6, .int (nI (st.length + 1))), (8, .int (-2)), (0, .ref o), (1, .int (nI μ)), (2, .int (nI υ)), (3, .int (nI β)), (4, .int (nI fl.length)), (5, .int (nI fr)), (7, .int (nI (fr + k)))]) X.1 X.2.1 dX12_looksAnew_278 hl (k := 7) rfl (gn_dec (st.length + 1)) (by decide) rfl (fun ls hl => ?_)
                      refine lv_aload_n X.1 X.2.1 dX12_looksAnew_281 rfl (lv_at hl 2 rfl) ?_
                      refine m_getr 11 5 X hK hP hM hin rfl (by decide) k24 rfl dX12_looksAnew_282 (by decide) ?_
                      refine lv_iload X.1 X.2.1 dX12_looksAnew_285 (lv_at hl 0 rfl) ?_
                      refine lv_iconst (v := 1) X.1 X.2.1 dX12_looksAnew_287 (by decide) ?_
                      refine lv_isub X.1 X.2.1 dX12_looksAnew_288 ?_
                      refine lv_iload X.1 X.2.1 dX12_looksAnew_289 (lv_at hl 1 rfl) ?_
                      refine lv_bipush (v := (-2)) X.1 X.2.1 dX12_looksAnew_291 (by decide) ?_
                      refine lv_icmp_ne (tgt := 326) X.1 X.2.1 dX12_looksAnew_293 (by decide) (fun c293 => ?_) (fun c293 => ?_)
                      · exact absurd rfl c293
                      · refine lv_aload_n X.1 X.2.1 dX12_looksAnew_296 rfl (lv_at hl 2 rfl) ?_
                        refine m_getr 11 5 X hK hP hM hin rfl (by decide) k24 rfl dX12_looksAnew_297 (by decide) ?_
                        refine lv_iload X.1 X.2.1 dX12_looksAnew_300 (lv_at hl 0 rfl) ?_
                        refine lv_iconst (v := 1) X.1 X.2.1 dX12_looksAnew_302 (by decide) ?_
                        refine lv_isub X.1 X.2.1 dX12_looksAnew_303 ?_
                        refine m_zald (st.length) X hK hP hM (gIx_of (gn_eq (gn_sub (Eq.refl (nI (st.length + 1))) (show (1 : Int32) = nI 1 from rfl) (by omega)) (by omega)) (by omega) (by omega)) dX12_looksAnew_304 (show N 5 (st.length) = 1 from (hrep.2.1)) ?_
                        refine lv_if_eq (tgt := 322) X.1 X.2.1 dX12_looksAnew_305 (by decide) (fun c305 => ?_) (fun c305 => ?_)
                        · exact absurd c305 (by decide)
                        · have n305 : ¬ 1 = 0 := gq_ne c305 (show (1 : Int32) = nI 1 from rfl) (show (0 : Int32) = nI 0 from rfl) (by omega) (by omega)
                          refine lv_aload_n X.1 X.2.1 dX12_looksAnew_308 rfl (lv_at hl 2 rfl) ?_
                          refine m_getr 11 5 X hK hP hM hin rfl (by decide) k24 rfl dX12_looksAnew_309 (by decide) ?_
                          refine lv_iload X.1 X.2.1 dX12_looksAnew_312 (lv_at hl 0 rfl) ?_
                          refine m_zald (1 + st.length) X hK hP hM (gIx_of (gn_eq (Eq.refl (nI (st.length + 1))) (by omega)) (by omega) (by omega)) dX12_looksAnew_314 (show N 5 (1 + st.length) = 0 from (by rw [Nat.add_comm]; exact hrep.1)) ?_
                          refine lv_if_eq (tgt := 322) X.1 X.2.1 dX12_looksAnew_315 (by decide) (fun c315 => ?_) (fun c315 => ?_)
                          · have n315 : 0 = 0 := gq_eq c315 (show (0 : Int32) = nI 0 from rfl) (show (0 : Int32) = nI 0 from rfl) (by omega) (by omega)
                            refine lv_iconst (v := 0) X.1 X.2.1 dX12_looksAnew_322 (by decide) ?_
                            refine lv_goto (tgt := 353) X.1 X.2.1 dX12_looksAnew_323 (by decide) ?_
                            refine m_zast (st.length) X hK hP hS hM (gIx_of (gn_eq (gn_sub (Eq.refl (nI (st.length + 1))) (show (1 : Int32) = nI 1 from rfl) (by omega)) (by omega)) (by omega) (by omega)) rfl dX12_looksAnew_353 (fun H locs hP hS => ?_)
                            generalize eM19 : g2 N 5 (st.length) 0 = M19 at hP
                            refine lv_goto (tgt := 448) X.1 X.2.1 dX12_looksAnew_354 (by decide) ?_
                            refine lv_iinc (v := nI ((fr + k) + 1)) (lv' := [(7, .int (nI ((fr + k) + 1))), (6, .int (nI (st.length + 1))), (8, .int (-2)), (0, .ref o), (1, .int (nI μ)), (2, .int (nI υ)), (3, .int (nI β)), (4, .int (nI fl.length)), (5, .int (nI fr))]) X.1 X.2.1 dX12_looksAnew_448 hl (k := 8) rfl (gn_inc (Eq.refl (nI (fr + k))) 1) (by decide) rfl (fun ls hl => ?_)
                            refine lv_goto (tgt := 118) X.1 X.2.1 dX12_looksAnew_451 (by decide) ?_
                            exact ih _ _ _ _ (by omega) ⟨(false :: st), _, _, _, hrun2, (by simp only [List.length_cons, List.length_nil] at *; omega), tok, ⟨gs_same eM19, tRep_up hrep.2.2 (fun j hj => gs_ne eM19 (by omega) rfl)⟩, (gs_ne eM19 (by omega) hN12), (gs_ne eM19 (by omega) hN13), fun b i h => (gs_ne eM19 (by omega) (hsm b i h)), lv_sub hl [3, 4, 5, 6, 7, 8, 1, 0] rfl⟩ hP hS
                          · exact absurd rfl c315
                  · exact absurd c239 (by decide)
                · exact absurd (by decide) c139
              | false =>
                refine lv_cv (show encR 10001 = -2 by decide) ?_
                refine lv_istore (lv' := [(8, .int (-2)), (0, .ref o), (1, .int (nI μ)), (2, .int (nI υ)), (3, .int (nI β)), (4, .int (nI fl.length)), (5, .int (nI fr)), (6, .int (nI (st.length + 2))), (7, .int (nI (fr + k)))]) X.1 X.2.1 dX12_looksAnew_135 hl (by decide) rfl (fun ls hl => ?_)
                refine lv_iload X.1 X.2.1 dX12_looksAnew_137 (lv_at hl 0 rfl) ?_
                refine lv_if_lt (tgt := 236) X.1 X.2.1 dX12_looksAnew_139 (by decide) (fun c139 => ?_) (fun c139 => ?_)
                · refine lv_iload X.1 X.2.1 dX12_looksAnew_236 (lv_at hl 0 rfl) ?_
                  refine lv_iconst (v := (-1)) X.1 X.2.1 dX12_looksAnew_238 (by decide) ?_
                  refine lv_icmp_ne (tgt := 271) X.1 X.2.1 dX12_looksAnew_239 (by decide) (fun c239 => ?_) (fun c239 => ?_)
                  · refine lv_iload X.1 X.2.1 dX12_looksAnew_271 (lv_at hl 0 rfl) ?_
                    refine lv_bipush (v := (-10)) X.1 X.2.1 dX12_looksAnew_273 (by decide) ?_
                    refine lv_icmp_le (tgt := 357) X.1 X.2.1 dX12_looksAnew_275 (by decide) (fun c275 => ?_) (fun c275 => ?_)
                    · exact absurd c275 (by decide)
                    · refine lv_iinc (v := nI (st.length + 1)) (lv' := [(6, .int (nI (st.length + 1))), (8, .int (-2)), (0, .ref o), (1, .int (nI μ)), (2, .int (nI υ)), (3, .int (nI β)), (4, .int (nI fl.length)), (5, .int (nI fr)), (7, .int (nI (fr + k)))]) X.1 X.2.1 dX12_looksAnew_278 hl (k := 7) rfl (gn_dec (st.length + 1)) (by decide) rfl (fun ls hl => ?_)
                      refine lv_aload_n X.1 X.2.1 dX12_looksAnew_281 rfl (lv_at hl 2 rfl) ?_
                      refine m_getr 11 5 X hK hP hM hin rfl (by decide) k24 rfl dX12_looksAnew_282 (by decide) ?_
                      refine lv_iload X.1 X.2.1 dX12_looksAnew_285 (lv_at hl 0 rfl) ?_
                      refine lv_iconst (v := 1) X.1 X.2.1 dX12_looksAnew_287 (by decide) ?_
                      refine lv_isub X.1 X.2.1 dX12_looksAnew_288 ?_
                      refine lv_iload X.1 X.2.1 dX12_looksAnew_289 (lv_at hl 1 rfl) ?_
                      refine lv_bipush (v := (-2)) X.1 X.2.1 dX12_looksAnew_291 (by decide) ?_
                      refine lv_icmp_ne (tgt := 326) X.1 X.2.1 dX12_looksAnew_293 (by decide) (fun c293 => ?_) (fun c293 => ?_)
                      · exact absurd rfl c293
                      · refine lv_aload_n X.1 X.2.1 dX12_looksAnew_296 rfl (lv_at hl 2 rfl) ?_
                        refine m_getr 11 5 X hK hP hM hin rfl (by decide) k24 rfl dX12_looksAnew_297 (by decide) ?_
                        refine lv_iload X.1 X.2.1 dX12_looksAnew_300 (lv_at hl 0 rfl) ?_
                        refine lv_iconst (v := 1) X.1 X.2.1 dX12_looksAnew_302 (by decide) ?_
                        refine lv_isub X.1 X.2.1 dX12_looksAnew_303 ?_
                        refine m_zald (st.length) X hK hP hM (gIx_of (gn_eq (gn_sub (Eq.refl (nI (st.length + 1))) (show (1 : Int32) = nI 1 from rfl) (by omega)) (by omega)) (by omega) (by omega)) dX12_looksAnew_304 (show N 5 (st.length) = 0 from (hrep.2.1)) ?_
                        refine lv_if_eq (tgt := 322) X.1 X.2.1 dX12_looksAnew_305 (by decide) (fun c305 => ?_) (fun c305 => ?_)
                        · have n305 : 0 = 0 := gq_eq c305 (show (0 : Int32) = nI 0 from rfl) (show (0 : Int32) = nI 0 from rfl) (by omega) (by omega)
                          refine lv_iconst (v := 0) X.1 X.2.1 dX12_looksAnew_322 (by decide) ?_
                          refine lv_goto (tgt := 353) X.1 X.2.1 dX12_looksAnew_323 (by decide) ?_
                          refine m_zast (st.length) X hK hP hS hM (gIx_of (gn_eq (gn_sub (Eq.refl (nI (st.length + 1))) (show (1 : Int32) = nI 1 from rfl) (by omega)) (by omega)) (by omega) (by omega)) rfl dX12_looksAnew_353 (fun H locs hP hS => ?_)
                          generalize eM20 : g2 N 5 (st.length) 0 = M20 at hP
                          refine lv_goto (tgt := 448) X.1 X.2.1 dX12_looksAnew_354 (by decide) ?_
                          refine lv_iinc (v := nI ((fr + k) + 1)) (lv' := [(7, .int (nI ((fr + k) + 1))), (6, .int (nI (st.length + 1))), (8, .int (-2)), (0, .ref o), (1, .int (nI μ)), (2, .int (nI υ)), (3, .int (nI β)), (4, .int (nI fl.length)), (5, .int (nI fr))]) X.1 X.2.1 dX12_looksAnew_448 hl (k := 8) rfl (gn_inc (Eq.refl (nI (fr + k))) 1) (by decide) rfl (fun ls hl => ?_)
                          refine lv_goto (tgt := 118) X.1 X.2.1 dX12_looksAnew_451 (by decide) ?_
                          exact ih _ _ _ _ (by omega) ⟨(false :: st), _, _, _, hrun2, (by simp only [List.length_cons, List.length_nil] at *; omega), tok, ⟨gs_same eM20, tRep_up hrep.2.2 (fun j hj => gs_ne eM20 (by omega) rfl)⟩, (gs_ne eM20 (by omega) hN12), (gs_ne eM20 (by omega) hN13), fun b i h => (gs_ne eM20 (by omega) (hsm b i h)), lv_sub hl [3, 4, 5, 6, 7, 8, 1, 0] rfl⟩ hP hS
                        · exact absurd rfl c305
                  · exact absurd c239 (by decide)
                · exact absurd (by decide) c139
          · rw [tStep_O] at hrun2
            cases a0 with
            | true =>
              cases b0 with
              | true =>
                refine lv_cv (show encR 10002 = -3 by decide) ?_
                refine lv_istore (lv' := [(8, .int (-3)), (0, .ref o), (1, .int (nI μ)), (2, .int (nI υ)), (3, .int (nI β)), (4, .int (nI fl.length)), (5, .int (nI fr)), (6, .int (nI (st.length + 2))), (7, .int (nI (fr + k)))]) X.1 X.2.1 dX12_looksAnew_135 hl (by decide) rfl (fun ls hl => ?_)
                refine lv_iload X.1 X.2.1 dX12_looksAnew_137 (lv_at hl 0 rfl) ?_
                refine lv_if_lt (tgt := 236) X.1 X.2.1 dX12_looksAnew_139 (by decide) (fun c139 => ?_) (fun c139 => ?_)
                · refine lv_iload X.1 X.2.1 dX12_looksAnew_236 (lv_at hl 0 rfl) ?_
                  refine lv_iconst (v := (-1)) X.1 X.2.1 dX12_looksAnew_238 (by decide) ?_
                  refine lv_icmp_ne (tgt := 271) X.1 X.2.1 dX12_looksAnew_239 (by decide) (fun c239 => ?_) (fun c239 => ?_)
                  · refine lv_iload X.1 X.2.1 dX12_looksAnew_271 (lv_at hl 0 rfl) ?_
                    refine lv_bipush (v := (-10)) X.1 X.2.1 dX12_looksAnew_273 (by decide) ?_
                    refine lv_icmp_le (tgt := 357) X.1 X.2.1 dX12_looksAnew_275 (by decide) (fun c275 => ?_) (fun c275 => ?_)
                    · exact absurd c275 (by decide)
                    · refine lv_iinc (v := nI (st.length + 1)) (lv' := [(6, .int (nI (st.length + 1))), (8, .int (-3)), (0, .ref o), (1, .int (nI μ)), (2, .int (nI υ)), (3, .int (nI β)), (4, .int (nI fl.length)), (5, .int (nI fr)), (7, .int (nI (fr + k)))]) X.1 X.2.1 dX12_looksAnew_278 hl (k := 7) rfl (gn_dec (st.length + 1)) (by decide) rfl (fun ls hl => ?_)
                      refine lv_aload_n X.1 X.2.1 dX12_looksAnew_281 rfl (lv_at hl 2 rfl) ?_
                      refine m_getr 11 5 X hK hP hM hin rfl (by decide) k24 rfl dX12_looksAnew_282 (by decide) ?_
                      refine lv_iload X.1 X.2.1 dX12_looksAnew_285 (lv_at hl 0 rfl) ?_
                      refine lv_iconst (v := 1) X.1 X.2.1 dX12_looksAnew_287 (by decide) ?_
                      refine lv_isub X.1 X.2.1 dX12_looksAnew_288 ?_
                      refine lv_iload X.1 X.2.1 dX12_looksAnew_289 (lv_at hl 1 rfl) ?_
                      refine lv_bipush (v := (-2)) X.1 X.2.1 dX12_looksAnew_291 (by decide) ?_
                      refine lv_icmp_ne (tgt := 326) X.1 X.2.1 dX12_looksAnew_293 (by decide) (fun c293 => ?_) (fun c293 => ?_)
                      · refine lv_aload_n X.1 X.2.1 dX12_looksAnew_326 rfl (lv_at hl 2 rfl) ?_
                        refine m_getr 11 5 X hK hP hM hin rfl (by decide) k24 rfl dX12_looksAnew_327 (by decide) ?_
                        refine lv_iload X.1 X.2.1 dX12_looksAnew_330 (lv_at hl 0 rfl) ?_
                        refine lv_iconst (v := 1) X.1 X.2.1 dX12_looksAnew_332 (by decide) ?_
                        refine lv_isub X.1 X.2.1 dX12_looksAnew_333 ?_
                        refine m_zald (st.length) X hK hP hM (gIx_of (gn_eq (gn_sub (Eq.refl (nI (st.length + 1))) (show (1 : Int32) = nI 1 from rfl) (by omega)) (by omega)) (by omega) (by omega)) dX12_looksAnew_334 (show N 5 (st.length) = 1 from (hrep.2.1)) ?_
                        refine lv_if_ne (tgt := 348) X.1 X.2.1 dX12_looksAnew_335 (by decide) (fun c335 => ?_) (fun c335 => ?_)
                        · have n335 : ¬ 1 = 0 := gq_ne c335 (show (1 : Int32) = nI 1 from rfl) (show (0 : Int32) = nI 0 from rfl) (by omega) (by omega)
                          refine lv_iconst (v := 1) X.1 X.2.1 dX12_looksAnew_348 (by decide) ?_
                          refine lv_goto (tgt := 353) X.1 X.2.1 dX12_looksAnew_349 (by decide) ?_
                          refine m_zast (st.length) X hK hP hS hM (gIx_of (gn_eq (gn_sub (Eq.refl (nI (st.length + 1))) (show (1 : Int32) = nI 1 from rfl) (by omega)) (by omega)) (by omega) (by omega)) rfl dX12_looksAnew_353 (fun H locs hP hS => ?_)
                          generalize eM21 : g2 N 5 (st.length) 1 = M21 at hP
                          refine lv_goto (tgt := 448) X.1 X.2.1 dX12_looksAnew_354 (by decide) ?_
                          refine lv_iinc (v := nI ((fr + k) + 1)) (lv' := [(7, .int (nI ((fr + k) + 1))), (6, .int (nI (st.length + 1))), (8, .int (-3)), (0, .ref o), (1, .int (nI μ)), (2, .int (nI υ)), (3, .int (nI β)), (4, .int (nI fl.length)), (5, .int (nI fr))]) X.1 X.2.1 dX12_looksAnew_448 hl (k := 8) rfl (gn_inc (Eq.refl (nI (fr + k))) 1) (by decide) rfl (fun ls hl => ?_)
                          refine lv_goto (tgt := 118) X.1 X.2.1 dX12_looksAnew_451 (by decide) ?_
                          exact ih _ _ _ _ (by omega) ⟨(true :: st), _, _, _, hrun2, (by simp only [List.length_cons, List.length_nil] at *; omega), tok, ⟨gs_same eM21, tRep_up hrep.2.2 (fun j hj => gs_ne eM21 (by omega) rfl)⟩, (gs_ne eM21 (by omega) hN12), (gs_ne eM21 (by omega) hN13), fun b i h => (gs_ne eM21 (by omega) (hsm b i h)), lv_sub hl [3, 4, 5, 6, 7, 8, 1, 0] rfl⟩ hP hS
                        · exact absurd c335 (by decide)
                      · exact absurd c293 (by decide)
                  · exact absurd c239 (by decide)
                · exact absurd (by decide) c139
              | false =>
                refine lv_cv (show encR 10002 = -3 by decide) ?_
                refine lv_istore (lv' := [(8, .int (-3)), (0, .ref o), (1, .int (nI μ)), (2, .int (nI υ)), (3, .int (nI β)), (4, .int (nI fl.length)), (5, .int (nI fr)), (6, .int (nI (st.length + 2))), (7, .int (nI (fr + k)))]) X.1 X.2.1 dX12_looksAnew_135 hl (by decide) rfl (fun ls hl => ?_)
                refine lv_iload X.1 X.2.1 dX12_looksAnew_137 (lv_at hl 0 rfl) ?_
                refine lv_if_lt (tgt := 236) X.1 X.2.1 dX12_looksAnew_139 (by decide) (fun c139 => ?_) (fun c139 => ?_)
                · refine lv_iload X.1 X.2.1 dX12_looksAnew_236 (lv_at hl 0 rfl) ?_
                  refine lv_iconst (v := (-1)) X.1 X.2.1 dX12_looksAnew_238 (by decide) ?_
                  refine lv_icmp_ne (tgt := 271) X.1 X.2.1 dX12_looksAnew_239 (by decide) (fun c239 => ?_) (fun c239 => ?_)
                  · refine lv_iload X.1 X.2.1 dX12_looksAnew_271 (lv_at hl 0 rfl) ?_
                    refine lv_bipush (v := (-10)) X.1 X.2.1 dX12_looksAnew_273 (by decide) ?_
                    refine lv_icmp_le (tgt := 357) X.1 X.2.1 dX12_looksAnew_275 (by decide) (fun c275 => ?_) (fun c275 => ?_)
                    · exact absurd c275 (by decide)
                    · refine lv_iinc (v := nI (st.length + 1)) (lv' := [(6, .int (nI (st.length + 1))), (8, .int (-3)), (0, .ref o), (1, .int (nI μ)), (2, .int (nI υ)), (3, .int (nI β)), (4, .int (nI fl.length)), (5, .int (nI fr)), (7, .int (nI (fr + k)))]) X.1 X.2.1 dX12_looksAnew_278 hl (k := 7) rfl (gn_dec (st.length + 1)) (by decide) rfl (fun ls hl => ?_)
                      refine lv_aload_n X.1 X.2.1 dX12_looksAnew_281 rfl (lv_at hl 2 rfl) ?_
                      refine m_getr 11 5 X hK hP hM hin rfl (by decide) k24 rfl dX12_looksAnew_282 (by decide) ?_
                      refine lv_iload X.1 X.2.1 dX12_looksAnew_285 (lv_at hl 0 rfl) ?_
                      refine lv_iconst (v := 1) X.1 X.2.1 dX12_looksAnew_287 (by decide) ?_
                      refine lv_isub X.1 X.2.1 dX12_looksAnew_288 ?_
                      refine lv_iload X.1 X.2.1 dX12_looksAnew_289 (lv_at hl 1 rfl) ?_
                      refine lv_bipush (v := (-2)) X.1 X.2.1 dX12_looksAnew_291 (by decide) ?_
                      refine lv_icmp_ne (tgt := 326) X.1 X.2.1 dX12_looksAnew_293 (by decide) (fun c293 => ?_) (fun c293 => ?_)
                      · refine lv_aload_n X.1 X.2.1 dX12_looksAnew_326 rfl (lv_at hl 2 rfl) ?_
                        refine m_getr 11 5 X hK hP hM hin rfl (by decide) k24 rfl dX12_looksAnew_327 (by decide) ?_
                        refine lv_iload X.1 X.2.1 dX12_looksAnew_330 (lv_at hl 0 rfl) ?_
                        refine lv_iconst (v := 1) X.1 X.2.1 dX12_looksAnew_332 (by decide) ?_
                        refine lv_isub X.1 X.2.1 dX12_looksAnew_333 ?_
                        refine m_zald (st.length) X hK hP hM (gIx_of (gn_eq (gn_sub (Eq.refl (nI (st.length + 1))) (show (1 : Int32) = nI 1 from rfl) (by omega)) (by omega)) (by omega) (by omega)) dX12_looksAnew_334 (show N 5 (st.length) = 0 from (hrep.2.1)) ?_
                        refine lv_if_ne (tgt := 348) X.1 X.2.1 dX12_looksAnew_335 (by decide) (fun c335 => ?_) (fun c335 => ?_)
                        · exact absurd rfl c335
                        · have n335 : 0 = 0 := gq_eq c335 (show (0 : Int32) = nI 0 from rfl) (show (0 : Int32) = nI 0 from rfl) (by omega) (by omega)
                          refine lv_aload_n X.1 X.2.1 dX12_looksAnew_338 rfl (lv_at hl 2 rfl) ?_
                          refine m_getr 11 5 X hK hP hM hin rfl (by decide) k24 rfl dX12_looksAnew_339 (by decide) ?_
                          refine lv_iload X.1 X.2.1 dX12_looksAnew_342 (lv_at hl 0 rfl) ?_
                          refine m_zald (1 + st.length) X hK hP hM (gIx_of (gn_eq (Eq.refl (nI (st.length + 1))) (by omega)) (by omega) (by omega)) dX12_looksAnew_344 (show N 5 (1 + st.length) = 1 from (by rw [Nat.add_comm]; exact hrep.1)) ?_
                          refine lv_if_eq (tgt := 352) X.1 X.2.1 dX12_looksAnew_345 (by decide) (fun c345 => ?_) (fun c345 => ?_)
                          · exact absurd c345 (by decide)
                          · have n345 : ¬ 1 = 0 := gq_ne c345 (show (1 : Int32) = nI 1 from rfl) (show (0 : Int32) = nI 0 from rfl) (by omega) (by omega)
                            refine lv_iconst (v := 1) X.1 X.2.1 dX12_looksAnew_348 (by decide) ?_
                            refine lv_goto (tgt := 353) X.1 X.2.1 dX12_looksAnew_349 (by decide) ?_
                            refine m_zast (st.length) X hK hP hS hM (gIx_of (gn_eq (gn_sub (Eq.refl (nI (st.length + 1))) (show (1 : Int32) = nI 1 from rfl) (by omega)) (by omega)) (by omega) (by omega)) rfl dX12_looksAnew_353 (fun H locs hP hS => ?_)
                            generalize eM22 : g2 N 5 (st.length) 1 = M22 at hP
                            refine lv_goto (tgt := 448) X.1 X.2.1 dX12_looksAnew_354 (by decide) ?_
                            refine lv_iinc (v := nI ((fr + k) + 1)) (lv' := [(7, .int (nI ((fr + k) + 1))), (6, .int (nI (st.length + 1))), (8, .int (-3)), (0, .ref o), (1, .int (nI μ)), (2, .int (nI υ)), (3, .int (nI β)), (4, .int (nI fl.length)), (5, .int (nI fr))]) X.1 X.2.1 dX12_looksAnew_448 hl (k := 8) rfl (gn_inc (Eq.refl (nI (fr + k))) 1) (by decide) rfl (fun ls hl => ?_)
                            refine lv_goto (tgt := 118) X.1 X.2.1 dX12_looksAnew_451 (by decide) ?_
                            exact ih _ _ _ _ (by omega) ⟨(true :: st), _, _, _, hrun2, (by simp only [List.length_cons, List.length_nil] at *; omega), tok, ⟨gs_same eM22, tRep_up hrep.2.2 (fun j hj => gs_ne eM22 (by omega) rfl)⟩, (gs_ne eM22 (by omega) hN12), (gs_ne eM22 (by omega) hN13), fun b i h => (gs_ne eM22 (by omega) (hsm b i h)), lv_sub hl [3, 4, 5, 6, 7, 8, 1, 0] rfl⟩ hP hS
                      · exact absurd c293 (by decide)
                  · exact absurd c239 (by decide)
                · exact absurd (by decide) c139
            | false =>
              cases b0 with
              | true =>
                refine lv_cv (show encR 10002 = -3 by decide) ?_
                refine lv_istore (lv' := [(8, .int (-3)), (0, .ref o), (1, .int (nI μ)), (2, .int (nI υ)), (3, .int (nI β)), (4, .int (nI fl.length)), (5, .int (nI fr)), (6, .int (nI (st.length + 2))), (7, .int (nI (fr + k)))]) X.1 X.2.1 dX12_looksAnew_135 hl (by decide) rfl (fun ls hl => ?_)
                refine lv_iload X.1 X.2.1 dX12_looksAnew_137 (lv_at hl 0 rfl) ?_
                refine lv_if_lt (tgt := 236) X.1 X.2.1 dX12_looksAnew_139 (by decide) (fun c139 => ?_) (fun c139 => ?_)
                · refine lv_iload X.1 X.2.1 dX12_looksAnew_236 (lv_at hl 0 rfl) ?_
                  refine lv_iconst (v := (-1)) X.1 X.2.1 dX12_looksAnew_238 (by decide) ?_
                  refine lv_icmp_ne (tgt := 271) X.1 X.2.1 dX12_looksAnew_239 (by decide) (fun c239 => ?_) (fun c239 => ?_)
                  · refine lv_iload X.1 X.2.1 dX12_looksAnew_271 (lv_at hl 0 rfl) ?_
                    refine lv_bipush (v := (-10)) X.1 X.2.1 dX12_looksAnew_273 (by decide) ?_
                    refine lv_icmp_le (tgt := 357) X.1 X.2.1 dX12_looksAnew_275 (by decide) (fun c275 => ?_) (fun c275 => ?_)
                    · exact absurd c275 (by decide)
                    · refine lv_iinc (v := nI (st.length + 1)) (lv' := [(6, .int (nI (st.length + 1))), (8, .int (-3)), (0, .ref o), (1, .int (nI μ)), (2, .int (nI υ)), (3, .int (nI β)), (4, .int (nI fl.length)), (5, .int (nI fr)), (7, .int (nI (fr + k)))]) X.1 X.2.1 dX12_looksAnew_278 hl (k := 7) rfl (gn_dec (st.length + 1)) (by decide) rfl (fun ls hl => ?_)
                      refine lv_aload_n X.1 X.2.1 dX12_looksAnew_281 rfl (lv_at hl 2 rfl) ?_
                      refine m_getr 11 5 X hK hP hM hin rfl (by decide) k24 rfl dX12_looksAnew_282 (by decide) ?_
                      refine lv_iload X.1 X.2.1 dX12_looksAnew_285 (lv_at hl 0 rfl) ?_
                      refine lv_iconst (v := 1) X.1 X.2.1 dX12_looksAnew_287 (by decide) ?_
                      refine lv_isub X.1 X.2.1 dX12_looksAnew_288 ?_
                      refine lv_iload X.1 X.2.1 dX12_looksAnew_289 (lv_at hl 1 rfl) ?_
                      refine lv_bipush (v := (-2)) X.1 X.2.1 dX12_looksAnew_291 (by decide) ?_
                      refine lv_icmp_ne (tgt := 326) X.1 X.2.1 dX12_looksAnew_293 (by decide) (fun c293 => ?_) (fun c293 => ?_)
                      · refine lv_aload_n X.1 X.2.1 dX12_looksAnew_326 rfl (lv_at hl 2 rfl) ?_
                        refine m_getr 11 5 X hK hP hM hin rfl (by decide) k24 rfl dX12_looksAnew_327 (by decide) ?_
                        refine lv_iload X.1 X.2.1 dX12_looksAnew_330 (lv_at hl 0 rfl) ?_
                        refine lv_iconst (v := 1) X.1 X.2.1 dX12_looksAnew_332 (by decide) ?_
                        refine lv_isub X.1 X.2.1 dX12_looksAnew_333 ?_
                        refine m_zald (st.length) X hK hP hM (gIx_of (gn_eq (gn_sub (Eq.refl (nI (st.length + 1))) (show (1 : Int32) = nI 1 from rfl) (by omega)) (by omega)) (by omega) (by omega)) dX12_looksAnew_334 (show N 5 (st.length) = 1 from (hrep.2.1)) ?_
                        refine lv_if_ne (tgt := 348) X.1 X.2.1 dX12_looksAnew_335 (by decide) (fun c335 => ?_) (fun c335 => ?_)
                        · have n335 : ¬ 1 = 0 := gq_ne c335 (show (1 : Int32) = nI 1 from rfl) (show (0 : Int32) = nI 0 from rfl) (by omega) (by omega)
                          refine lv_iconst (v := 1) X.1 X.2.1 dX12_looksAnew_348 (by decide) ?_
                          refine lv_goto (tgt := 353) X.1 X.2.1 dX12_looksAnew_349 (by decide) ?_
                          refine m_zast (st.length) X hK hP hS hM (gIx_of (gn_eq (gn_sub (Eq.refl (nI (st.length + 1))) (show (1 : Int32) = nI 1 from rfl) (by omega)) (by omega)) (by omega) (by omega)) rfl dX12_looksAnew_353 (fun H locs hP hS => ?_)
                          generalize eM23 : g2 N 5 (st.length) 1 = M23 at hP
                          refine lv_goto (tgt := 448) X.1 X.2.1 dX12_looksAnew_354 (by decide) ?_
                          refine lv_iinc (v := nI ((fr + k) + 1)) (lv' := [(7, .int (nI ((fr + k) + 1))), (6, .int (nI (st.length + 1))), (8, .int (-3)), (0, .ref o), (1, .int (nI μ)), (2, .int (nI υ)), (3, .int (nI β)), (4, .int (nI fl.length)), (5, .int (nI fr))]) X.1 X.2.1 dX12_looksAnew_448 hl (k := 8) rfl (gn_inc (Eq.refl (nI (fr + k))) 1) (by decide) rfl (fun ls hl => ?_)
                          refine lv_goto (tgt := 118) X.1 X.2.1 dX12_looksAnew_451 (by decide) ?_
                          exact ih _ _ _ _ (by omega) ⟨(true :: st), _, _, _, hrun2, (by simp only [List.length_cons, List.length_nil] at *; omega), tok, ⟨gs_same eM23, tRep_up hrep.2.2 (fun j hj => gs_ne eM23 (by omega) rfl)⟩, (gs_ne eM23 (by omega) hN12), (gs_ne eM23 (by omega) hN13), fun b i h => (gs_ne eM23 (by omega) (hsm b i h)), lv_sub hl [3, 4, 5, 6, 7, 8, 1, 0] rfl⟩ hP hS
                        · exact absurd c335 (by decide)
                      · exact absurd c293 (by decide)
                  · exact absurd c239 (by decide)
                · exact absurd (by decide) c139
              | false =>
                refine lv_cv (show encR 10002 = -3 by decide) ?_
                refine lv_istore (lv' := [(8, .int (-3)), (0, .ref o), (1, .int (nI μ)), (2, .int (nI υ)), (3, .int (nI β)), (4, .int (nI fl.length)), (5, .int (nI fr)), (6, .int (nI (st.length + 2))), (7, .int (nI (fr + k)))]) X.1 X.2.1 dX12_looksAnew_135 hl (by decide) rfl (fun ls hl => ?_)
                refine lv_iload X.1 X.2.1 dX12_looksAnew_137 (lv_at hl 0 rfl) ?_
                refine lv_if_lt (tgt := 236) X.1 X.2.1 dX12_looksAnew_139 (by decide) (fun c139 => ?_) (fun c139 => ?_)
                · refine lv_iload X.1 X.2.1 dX12_looksAnew_236 (lv_at hl 0 rfl) ?_
                  refine lv_iconst (v := (-1)) X.1 X.2.1 dX12_looksAnew_238 (by decide) ?_
                  refine lv_icmp_ne (tgt := 271) X.1 X.2.1 dX12_looksAnew_239 (by decide) (fun c239 => ?_) (fun c239 => ?_)
                  · refine lv_iload X.1 X.2.1 dX12_looksAnew_271 (lv_at hl 0 rfl) ?_
                    refine lv_bipush (v := (-10)) X.1 X.2.1 dX12_looksAnew_273 (by decide) ?_
                    refine lv_icmp_le (tgt := 357) X.1 X.2.1 dX12_looksAnew_275 (by decide) (fun c275 => ?_) (fun c275 => ?_)
                    · exact absurd c275 (by decide)
                    · refine lv_iinc (v := nI (st.length + 1)) (lv' := [(6, .int (nI (st.length + 1))), (8, .int (-3)), (0, .ref o), (1, .int (nI μ)), (2, .int (nI υ)), (3, .int (nI β)), (4, .int (nI fl.length)), (5, .int (nI fr)), (7, .int (nI (fr + k)))]) X.1 X.2.1 dX12_looksAnew_278 hl (k := 7) rfl (gn_dec (st.length + 1)) (by decide) rfl (fun ls hl => ?_)
                      refine lv_aload_n X.1 X.2.1 dX12_looksAnew_281 rfl (lv_at hl 2 rfl) ?_
                      refine m_getr 11 5 X hK hP hM hin rfl (by decide) k24 rfl dX12_looksAnew_282 (by decide) ?_
                      refine lv_iload X.1 X.2.1 dX12_looksAnew_285 (lv_at hl 0 rfl) ?_
                      refine lv_iconst (v := 1) X.1 X.2.1 dX12_looksAnew_287 (by decide) ?_
                      refine lv_isub X.1 X.2.1 dX12_looksAnew_288 ?_
                      refine lv_iload X.1 X.2.1 dX12_looksAnew_289 (lv_at hl 1 rfl) ?_
                      refine lv_bipush (v := (-2)) X.1 X.2.1 dX12_looksAnew_291 (by decide) ?_
                      refine lv_icmp_ne (tgt := 326) X.1 X.2.1 dX12_looksAnew_293 (by decide) (fun c293 => ?_) (fun c293 => ?_)
                      · refine lv_aload_n X.1 X.2.1 dX12_looksAnew_326 rfl (lv_at hl 2 rfl) ?_
                        refine m_getr 11 5 X hK hP hM hin rfl (by decide) k24 rfl dX12_looksAnew_327 (by decide) ?_
                        refine lv_iload X.1 X.2.1 dX12_looksAnew_330 (lv_at hl 0 rfl) ?_
                        refine lv_iconst (v := 1) X.1 X.2.1 dX12_looksAnew_332 (by decide) ?_
                        refine lv_isub X.1 X.2.1 dX12_looksAnew_333 ?_
                        refine m_zald (st.length) X hK hP hM (gIx_of (gn_eq (gn_sub (Eq.refl (nI (st.length + 1))) (show (1 : Int32) = nI 1 from rfl) (by omega)) (by omega)) (by omega) (by omega)) dX12_looksAnew_334 (show N 5 (st.length) = 0 from (hrep.2.1)) ?_
                        refine lv_if_ne (tgt := 348) X.1 X.2.1 dX12_looksAnew_335 (by decide) (fun c335 => ?_) (fun c335 => ?_)
                        · exact absurd rfl c335
                        · have n335 : 0 = 0 := gq_eq c335 (show (0 : Int32) = nI 0 from rfl) (show (0 : Int32) = nI 0 from rfl) (by omega) (by omega)
                          refine lv_aload_n X.1 X.2.1 dX12_looksAnew_338 rfl (lv_at hl 2 rfl) ?_
                          refine m_getr 11 5 X hK hP hM hin rfl (by decide) k24 rfl dX12_looksAnew_339 (by decide) ?_
                          refine lv_iload X.1 X.2.1 dX12_looksAnew_342 (lv_at hl 0 rfl) ?_
                          refine m_zald (1 + st.length) X hK hP hM (gIx_of (gn_eq (Eq.refl (nI (st.length + 1))) (by omega)) (by omega) (by omega)) dX12_looksAnew_344 (show N 5 (1 + st.length) = 0 from (by rw [Nat.add_comm]; exact hrep.1)) ?_
                          refine lv_if_eq (tgt := 352) X.1 X.2.1 dX12_looksAnew_345 (by decide) (fun c345 => ?_) (fun c345 => ?_)
                          · have n345 : 0 = 0 := gq_eq c345 (show (0 : Int32) = nI 0 from rfl) (show (0 : Int32) = nI 0 from rfl) (by omega) (by omega)
                            refine lv_iconst (v := 0) X.1 X.2.1 dX12_looksAnew_352 (by decide) ?_
                            refine m_zast (st.length) X hK hP hS hM (gIx_of (gn_eq (gn_sub (Eq.refl (nI (st.length + 1))) (show (1 : Int32) = nI 1 from rfl) (by omega)) (by omega)) (by omega) (by omega)) rfl dX12_looksAnew_353 (fun H locs hP hS => ?_)
                            generalize eM24 : g2 N 5 (st.length) 0 = M24 at hP
                            refine lv_goto (tgt := 448) X.1 X.2.1 dX12_looksAnew_354 (by decide) ?_
                            refine lv_iinc (v := nI ((fr + k) + 1)) (lv' := [(7, .int (nI ((fr + k) + 1))), (6, .int (nI (st.length + 1))), (8, .int (-3)), (0, .ref o), (1, .int (nI μ)), (2, .int (nI υ)), (3, .int (nI β)), (4, .int (nI fl.length)), (5, .int (nI fr))]) X.1 X.2.1 dX12_looksAnew_448 hl (k := 8) rfl (gn_inc (Eq.refl (nI (fr + k))) 1) (by decide) rfl (fun ls hl => ?_)
                            refine lv_goto (tgt := 118) X.1 X.2.1 dX12_looksAnew_451 (by decide) ?_
                            exact ih _ _ _ _ (by omega) ⟨(false :: st), _, _, _, hrun2, (by simp only [List.length_cons, List.length_nil] at *; omega), tok, ⟨gs_same eM24, tRep_up hrep.2.2 (fun j hj => gs_ne eM24 (by omega) rfl)⟩, (gs_ne eM24 (by omega) hN12), (gs_ne eM24 (by omega) hN13), fun b i h => (gs_ne eM24 (by omega) (hsm b i h)), lv_sub hl [3, 4, 5, 6, 7, 8, 1, 0] rfl⟩ hP hS
                          · exact absurd rfl c345
                      · exact absurd c293 (by decide)
                  · exact absurd c239 (by decide)
                · exact absurd (by decide) c139
        · obtain ⟨t0, t9, tn, tok⟩ := tOk_C hok tA (by omega)
          obtain ⟨b0, rfl⟩ : ∃ b0, st = [b0] := by cases st with | nil => exact absurd tn (by simp) | cons a r => cases r with | nil => exact ⟨a, rfl⟩ | cons b r => exact absurd tn (by simp)
          rcases tC_split t0 t9 with ⟨n, hn, rfl⟩ | ⟨n, hn, rfl⟩ | ⟨n, hn, rfl⟩
          · rw [tStep_P hn] at hrun2
            refine lv_cv (encR_P hn) ?_
            obtain ⟨q0, q1, q2, q3, q4⟩ := ng_P hn
            clear t0 t9
            cases b0 with
            | true =>
              refine lv_istore (lv' := [(8, .int ((-10) - nI n)), (0, .ref o), (1, .int (nI μ)), (2, .int (nI υ)), (3, .int (nI β)), (4, .int (nI fl.length)), (5, .int (nI fr)), (6, .int (nI 1)), (7, .int (nI (fr + k)))]) X.1 X.2.1 dX12_looksAnew_135 hl (by decide) rfl (fun ls hl => ?_)
              refine lv_iload X.1 X.2.1 dX12_looksAnew_137 (lv_at hl 0 rfl) ?_
              refine lv_if_lt (tgt := 236) X.1 X.2.1 dX12_looksAnew_139 (by decide) (fun c139 => ?_) (fun c139 => ?_)
              · refine lv_iload X.1 X.2.1 dX12_looksAnew_236 (lv_at hl 0 rfl) ?_
                refine lv_iconst (v := (-1)) X.1 X.2.1 dX12_looksAnew_238 (by decide) ?_
                refine lv_icmp_ne (tgt := 271) X.1 X.2.1 dX12_looksAnew_239 (by decide) (fun c239 => ?_) (fun c239 => ?_)
                · refine lv_iload X.1 X.2.1 dX12_looksAnew_271 (lv_at hl 0 rfl) ?_
                  refine lv_bipush (v := (-10)) X.1 X.2.1 dX12_looksAnew_273 (by decide) ?_
                  refine lv_icmp_le (tgt := 357) X.1 X.2.1 dX12_looksAnew_275 (by decide) (fun c275 => ?_) (fun c275 => ?_)
                  · refine lv_iconst (v := 0) X.1 X.2.1 dX12_looksAnew_357 (by decide) ?_
                    refine lv_istore (lv' := [(6, .int 0), (8, .int ((-10) - nI n)), (0, .ref o), (1, .int (nI μ)), (2, .int (nI υ)), (3, .int (nI β)), (4, .int (nI fl.length)), (5, .int (nI fr)), (7, .int (nI (fr + k)))]) X.1 X.2.1 dX12_looksAnew_358 hl (by decide) rfl (fun ls hl => ?_)
                    refine lv_aload_n X.1 X.2.1 dX12_looksAnew_360 rfl (lv_at hl 2 rfl) ?_
                    refine m_getr 11 5 X hK hP hM hin rfl (by decide) k24 rfl dX12_looksAnew_361 (by decide) ?_
                    refine lv_iconst (v := 0) X.1 X.2.1 dX12_looksAnew_364 (by decide) ?_
                    refine m_zald 0 X hK hP hM (gIx_of (show (0 : Int32) = nI 0 from rfl) (by omega) (by omega)) dX12_looksAnew_365 (show N 5 0 = 1 from (hrep.1)) ?_
                    refine lv_istore (lv' := [(9, .int 1), (6, .int 0), (8, .int ((-10) - nI n)), (0, .ref o), (1, .int (nI μ)), (2, .int (nI υ)), (3, .int (nI β)), (4, .int (nI fl.length)), (5, .int (nI fr)), (7, .int (nI (fr + k)))]) X.1 X.2.1 dX12_looksAnew_366 hl (by decide) rfl (fun ls hl => ?_)
                    refine lv_aload_n X.1 X.2.1 dX12_looksAnew_368 rfl (lv_at hl 3 rfl) ?_
                    refine lv_dup X.1 X.2.1 dX12_looksAnew_369 rfl ?_
                    refine m_geti 12 X hK hP hM hin rfl (by decide) k158 rfl dX12_looksAnew_370 (show N 0 12 = nI pp - nI ee from hN12) ?_
                    refine lv_iload X.1 X.2.1 dX12_looksAnew_373 (lv_at hl 0 rfl) ?_
                    refine lv_if_eq (tgt := 386) X.1 X.2.1 dX12_looksAnew_375 (by decide) (fun c375 => ?_) (fun c375 => ?_)
                    · exact absurd c375 (by decide)
                    · have n375 : ¬ 1 = 0 := gq_ne c375 (show (1 : Int32) = nI 1 from rfl) (show (0 : Int32) = nI 0 from rfl) (by omega) (by omega)
                      refine lv_iload X.1 X.2.1 dX12_looksAnew_378 (lv_at hl 2 rfl) ?_
                      refine lv_sipush (v := (-400)) X.1 X.2.1 dX12_looksAnew_380 (by decide) ?_
                      refine lv_icmp_gt (tgt := 390) X.1 X.2.1 dX12_looksAnew_383 (by decide) (fun c383 => ?_) (fun c383 => ?_)
                      · refine lv_iload X.1 X.2.1 dX12_looksAnew_390 (lv_at hl 2 rfl) ?_
                        refine lv_sipush (v := (-200)) X.1 X.2.1 dX12_looksAnew_392 (by decide) ?_
                        refine lv_icmp_le (tgt := 406) X.1 X.2.1 dX12_looksAnew_395 (by decide) (fun c395 => ?_) (fun c395 => ?_)
                        · exact absurd c395 (Int32.not_le.mpr q4)
                        · refine lv_bipush (v := (-10)) X.1 X.2.1 dX12_looksAnew_398 (by decide) ?_
                          refine lv_iload X.1 X.2.1 dX12_looksAnew_400 (lv_at hl 2 rfl) ?_
                          refine lv_isub X.1 X.2.1 dX12_looksAnew_402 ?_
                          refine lv_goto (tgt := 412) X.1 X.2.1 dX12_looksAnew_403 (by decide) ?_
                          refine lv_iadd X.1 X.2.1 dX12_looksAnew_412 ?_
                          refine m_puti 12 X hK hP hS hM hin rfl (by decide) k158 rfl rfl rfl rfl dX12_looksAnew_413 (fun H locs hP hS => ?_)
                          generalize eM25 : g2 N 0 12 ((nI pp - nI ee) + ((-10) - ((-10) - nI n))) = M25 at hP
                          refine lv_aload_n X.1 X.2.1 dX12_looksAnew_416 rfl (lv_at hl 3 rfl) ?_
                          refine lv_dup X.1 X.2.1 dX12_looksAnew_417 rfl ?_
                          refine m_geti 13 X hK hP hM hin rfl (by decide) k161 rfl dX12_looksAnew_418 (show M25 0 13 = nI qq from (gs_ne eM25 (by omega) hN13)) ?_
                          refine lv_iload X.1 X.2.1 dX12_looksAnew_421 (lv_at hl 0 rfl) ?_
                          refine lv_if_eq (tgt := 443) X.1 X.2.1 dX12_looksAnew_423 (by decide) (fun c423 => ?_) (fun c423 => ?_)
                          · exact absurd c423 (by decide)
                          · have n423 : ¬ 1 = 0 := gq_ne c423 (show (1 : Int32) = nI 1 from rfl) (show (0 : Int32) = nI 0 from rfl) (by omega) (by omega)
                            refine lv_iload X.1 X.2.1 dX12_looksAnew_426 (lv_at hl 2 rfl) ?_
                            refine lv_sipush (v := (-400)) X.1 X.2.1 dX12_looksAnew_428 (by decide) ?_
                            refine lv_icmp_gt (tgt := 443) X.1 X.2.1 dX12_looksAnew_431 (by decide) (fun c431 => ?_) (fun c431 => ?_)
                            · refine lv_iconst (v := 0) X.1 X.2.1 dX12_looksAnew_443 (by decide) ?_
                              refine lv_iadd X.1 X.2.1 dX12_looksAnew_444 ?_
                              refine m_puti 13 X hK hP hS hM hin rfl (by decide) k161 rfl rfl rfl rfl dX12_looksAnew_445 (fun H locs hP hS => ?_)
                              generalize eM26 : g2 M25 0 13 ((nI qq) + 0) = M26 at hP
                              refine lv_iinc (v := nI ((fr + k) + 1)) (lv' := [(7, .int (nI ((fr + k) + 1))), (9, .int 1), (6, .int 0), (8, .int ((-10) - nI n)), (0, .ref o), (1, .int (nI μ)), (2, .int (nI υ)), (3, .int (nI β)), (4, .int (nI fl.length)), (5, .int (nI fr))]) X.1 X.2.1 dX12_looksAnew_448 hl (k := 9) rfl (gn_inc (Eq.refl (nI (fr + k))) 1) (by decide) rfl (fun ls hl => ?_)
                              refine lv_goto (tgt := 118) X.1 X.2.1 dX12_looksAnew_451 (by decide) ?_
                              exact ih _ _ _ _ (by omega) ⟨[], _, _, _, hrun2, (by simp only [List.length_cons, List.length_nil] at *; omega), tok, trivial, (gs_ne eM26 (by omega) ((gs_same eM25).trans (gsl_p pp ee n))), ((gs_same eM26).trans (gsl_z qq)), fun b i h => (gs_ne eM26 (by omega) (gs_ne eM25 (by omega) (hsm b i h))), lv_sub hl [4, 5, 6, 7, 8, 9, 2, 0] rfl⟩ hP hS
                            · exact absurd q3 c431
                      · exact absurd q3 c383
                  · exact absurd q2 c275
                · exact absurd c239 q1
              · exact absurd q0 c139
            | false =>
              refine lv_istore (lv' := [(8, .int ((-10) - nI n)), (0, .ref o), (1, .int (nI μ)), (2, .int (nI υ)), (3, .int (nI β)), (4, .int (nI fl.length)), (5, .int (nI fr)), (6, .int (nI 1)), (7, .int (nI (fr + k)))]) X.1 X.2.1 dX12_looksAnew_135 hl (by decide) rfl (fun ls hl => ?_)
              refine lv_iload X.1 X.2.1 dX12_looksAnew_137 (lv_at hl 0 rfl) ?_
              refine lv_if_lt (tgt := 236) X.1 X.2.1 dX12_looksAnew_139 (by decide) (fun c139 => ?_) (fun c139 => ?_)
              · refine lv_iload X.1 X.2.1 dX12_looksAnew_236 (lv_at hl 0 rfl) ?_
                refine lv_iconst (v := (-1)) X.1 X.2.1 dX12_looksAnew_238 (by decide) ?_
                refine lv_icmp_ne (tgt := 271) X.1 X.2.1 dX12_looksAnew_239 (by decide) (fun c239 => ?_) (fun c239 => ?_)
                · refine lv_iload X.1 X.2.1 dX12_looksAnew_271 (lv_at hl 0 rfl) ?_
                  refine lv_bipush (v := (-10)) X.1 X.2.1 dX12_looksAnew_273 (by decide) ?_
                  refine lv_icmp_le (tgt := 357) X.1 X.2.1 dX12_looksAnew_275 (by decide) (fun c275 => ?_) (fun c275 => ?_)
                  · refine lv_iconst (v := 0) X.1 X.2.1 dX12_looksAnew_357 (by decide) ?_
                    refine lv_istore (lv' := [(6, .int 0), (8, .int ((-10) - nI n)), (0, .ref o), (1, .int (nI μ)), (2, .int (nI υ)), (3, .int (nI β)), (4, .int (nI fl.length)), (5, .int (nI fr)), (7, .int (nI (fr + k)))]) X.1 X.2.1 dX12_looksAnew_358 hl (by decide) rfl (fun ls hl => ?_)
                    refine lv_aload_n X.1 X.2.1 dX12_looksAnew_360 rfl (lv_at hl 2 rfl) ?_
                    refine m_getr 11 5 X hK hP hM hin rfl (by decide) k24 rfl dX12_looksAnew_361 (by decide) ?_
                    refine lv_iconst (v := 0) X.1 X.2.1 dX12_looksAnew_364 (by decide) ?_
                    refine m_zald 0 X hK hP hM (gIx_of (show (0 : Int32) = nI 0 from rfl) (by omega) (by omega)) dX12_looksAnew_365 (show N 5 0 = 0 from (hrep.1)) ?_
                    refine lv_istore (lv' := [(9, .int 0), (6, .int 0), (8, .int ((-10) - nI n)), (0, .ref o), (1, .int (nI μ)), (2, .int (nI υ)), (3, .int (nI β)), (4, .int (nI fl.length)), (5, .int (nI fr)), (7, .int (nI (fr + k)))]) X.1 X.2.1 dX12_looksAnew_366 hl (by decide) rfl (fun ls hl => ?_)
                    refine lv_aload_n X.1 X.2.1 dX12_looksAnew_368 rfl (lv_at hl 3 rfl) ?_
                    refine lv_dup X.1 X.2.1 dX12_looksAnew_369 rfl ?_
                    refine m_geti 12 X hK hP hM hin rfl (by decide) k158 rfl dX12_looksAnew_370 (show N 0 12 = nI pp - nI ee from hN12) ?_
                    refine lv_iload X.1 X.2.1 dX12_looksAnew_373 (lv_at hl 0 rfl) ?_
                    refine lv_if_eq (tgt := 386) X.1 X.2.1 dX12_looksAnew_375 (by decide) (fun c375 => ?_) (fun c375 => ?_)
                    · have n375 : 0 = 0 := gq_eq c375 (show (0 : Int32) = nI 0 from rfl) (show (0 : Int32) = nI 0 from rfl) (by omega) (by omega)
                      refine lv_iconst (v := 0) X.1 X.2.1 dX12_looksAnew_386 (by decide) ?_
                      refine lv_goto (tgt := 412) X.1 X.2.1 dX12_looksAnew_387 (by decide) ?_
                      refine lv_iadd X.1 X.2.1 dX12_looksAnew_412 ?_
                      refine m_puti 12 X hK hP hS hM hin rfl (by decide) k158 rfl rfl rfl rfl dX12_looksAnew_413 (fun H locs hP hS => ?_)
                      generalize eM27 : g2 N 0 12 ((nI pp - nI ee) + 0) = M27 at hP
                      refine lv_aload_n X.1 X.2.1 dX12_looksAnew_416 rfl (lv_at hl 3 rfl) ?_
                      refine lv_dup X.1 X.2.1 dX12_looksAnew_417 rfl ?_
                      refine m_geti 13 X hK hP hM hin rfl (by decide) k161 rfl dX12_looksAnew_418 (show M27 0 13 = nI qq from (gs_ne eM27 (by omega) hN13)) ?_
                      refine lv_iload X.1 X.2.1 dX12_looksAnew_421 (lv_at hl 0 rfl) ?_
                      refine lv_if_eq (tgt := 443) X.1 X.2.1 dX12_looksAnew_423 (by decide) (fun c423 => ?_) (fun c423 => ?_)
                      · have n423 : 0 = 0 := gq_eq c423 (show (0 : Int32) = nI 0 from rfl) (show (0 : Int32) = nI 0 from rfl) (by omega) (by omega)
                        refine lv_iconst (v := 0) X.1 X.2.1 dX12_looksAnew_443 (by decide) ?_
                        refine lv_iadd X.1 X.2.1 dX12_looksAnew_444 ?_
                        refine m_puti 13 X hK hP hS hM hin rfl (by decide) k161 rfl rfl rfl rfl dX12_looksAnew_445 (fun H locs hP hS => ?_)
                        generalize eM28 : g2 M27 0 13 ((nI qq) + 0) = M28 at hP
                        refine lv_iinc (v := nI ((fr + k) + 1)) (lv' := [(7, .int (nI ((fr + k) + 1))), (9, .int 0), (6, .int 0), (8, .int ((-10) - nI n)), (0, .ref o), (1, .int (nI μ)), (2, .int (nI υ)), (3, .int (nI β)), (4, .int (nI fl.length)), (5, .int (nI fr))]) X.1 X.2.1 dX12_looksAnew_448 hl (k := 9) rfl (gn_inc (Eq.refl (nI (fr + k))) 1) (by decide) rfl (fun ls hl => ?_)
                        refine lv_goto (tgt := 118) X.1 X.2.1 dX12_looksAnew_451 (by decide) ?_
                        exact ih _ _ _ _ (by omega) ⟨[], _, _, _, hrun2, (by simp only [List.length_cons, List.length_nil] at *; omega), tok, trivial, (gs_ne eM28 (by omega) ((gs_same eM27).trans (gsl_0 pp ee))), ((gs_same eM28).trans (gsl_z qq)), fun b i h => (gs_ne eM28 (by omega) (gs_ne eM27 (by omega) (hsm b i h))), lv_sub hl [4, 5, 6, 7, 8, 9, 2, 0] rfl⟩ hP hS
                      · exact absurd rfl c423
                    · exact absurd rfl c375
                  · exact absurd q2 c275
                · exact absurd c239 q1
              · exact absurd q0 c139
          · rw [tStep_E hn] at hrun2
            refine lv_cv (encR_E hn) ?_
            obtain ⟨q0, q1, q2, q3, q4⟩ := ng_E hn
            clear t0 t9
            cases b0 with
            | true =>
              refine lv_istore (lv' := [(8, .int ((-200) - nI n)), (0, .ref o), (1, .int (nI μ)), (2, .int (nI υ)), (3, .int (nI β)), (4, .int (nI fl.length)), (5, .int (nI fr)), (6, .int (nI 1)), (7, .int (nI (fr + k)))]) X.1 X.2.1 dX12_looksAnew_135 hl (by decide) rfl (fun ls hl => ?_)
              refine lv_iload X.1 X.2.1 dX12_looksAnew_137 (lv_at hl 0 rfl) ?_
              refine lv_if_lt (tgt := 236) X.1 X.2.1 dX12_looksAnew_139 (by decide) (fun c139 => ?_) (fun c139 => ?_)
              · refine lv_iload X.1 X.2.1 dX12_looksAnew_236 (lv_at hl 0 rfl) ?_
                refine lv_iconst (v := (-1)) X.1 X.2.1 dX12_looksAnew_238 (by decide) ?_
                refine lv_icmp_ne (tgt := 271) X.1 X.2.1 dX12_looksAnew_239 (by decide) (fun c239 => ?_) (fun c239 => ?_)
                · refine lv_iload X.1 X.2.1 dX12_looksAnew_271 (lv_at hl 0 rfl) ?_
                  refine lv_bipush (v := (-10)) X.1 X.2.1 dX12_looksAnew_273 (by decide) ?_
                  refine lv_icmp_le (tgt := 357) X.1 X.2.1 dX12_looksAnew_275 (by decide) (fun c275 => ?_) (fun c275 => ?_)
                  · refine lv_iconst (v := 0) X.1 X.2.1 dX12_looksAnew_357 (by decide) ?_
                    refine lv_istore (lv' := [(6, .int 0), (8, .int ((-200) - nI n)), (0, .ref o), (1, .int (nI μ)), (2, .int (nI υ)), (3, .int (nI β)), (4, .int (nI fl.length)), (5, .int (nI fr)), (7, .int (nI (fr + k)))]) X.1 X.2.1 dX12_looksAnew_358 hl (by decide) rfl (fun ls hl => ?_)
                    refine lv_aload_n X.1 X.2.1 dX12_looksAnew_360 rfl (lv_at hl 2 rfl) ?_
                    refine m_getr 11 5 X hK hP hM hin rfl (by decide) k24 rfl dX12_looksAnew_361 (by decide) ?_
                    refine lv_iconst (v := 0) X.1 X.2.1 dX12_looksAnew_364 (by decide) ?_
                    refine m_zald 0 X hK hP hM (gIx_of (show (0 : Int32) = nI 0 from rfl) (by omega) (by omega)) dX12_looksAnew_365 (show N 5 0 = 1 from (hrep.1)) ?_
                    refine lv_istore (lv' := [(9, .int 1), (6, .int 0), (8, .int ((-200) - nI n)), (0, .ref o), (1, .int (nI μ)), (2, .int (nI υ)), (3, .int (nI β)), (4, .int (nI fl.length)), (5, .int (nI fr)), (7, .int (nI (fr + k)))]) X.1 X.2.1 dX12_looksAnew_366 hl (by decide) rfl (fun ls hl => ?_)
                    refine lv_aload_n X.1 X.2.1 dX12_looksAnew_368 rfl (lv_at hl 3 rfl) ?_
                    refine lv_dup X.1 X.2.1 dX12_looksAnew_369 rfl ?_
                    refine m_geti 12 X hK hP hM hin rfl (by decide) k158 rfl dX12_looksAnew_370 (show N 0 12 = nI pp - nI ee from hN12) ?_
                    refine lv_iload X.1 X.2.1 dX12_looksAnew_373 (lv_at hl 0 rfl) ?_
                    refine lv_if_eq (tgt := 386) X.1 X.2.1 dX12_looksAnew_375 (by decide) (fun c375 => ?_) (fun c375 => ?_)
                    · exact absurd c375 (by decide)
                    · have n375 : ¬ 1 = 0 := gq_ne c375 (show (1 : Int32) = nI 1 from rfl) (show (0 : Int32) = nI 0 from rfl) (by omega) (by omega)
                      refine lv_iload X.1 X.2.1 dX12_looksAnew_378 (lv_at hl 2 rfl) ?_
                      refine lv_sipush (v := (-400)) X.1 X.2.1 dX12_looksAnew_380 (by decide) ?_
                      refine lv_icmp_gt (tgt := 390) X.1 X.2.1 dX12_looksAnew_383 (by decide) (fun c383 => ?_) (fun c383 => ?_)
                      · refine lv_iload X.1 X.2.1 dX12_looksAnew_390 (lv_at hl 2 rfl) ?_
                        refine lv_sipush (v := (-200)) X.1 X.2.1 dX12_looksAnew_392 (by decide) ?_
                        refine lv_icmp_le (tgt := 406) X.1 X.2.1 dX12_looksAnew_395 (by decide) (fun c395 => ?_) (fun c395 => ?_)
                        · refine lv_iload X.1 X.2.1 dX12_looksAnew_406 (lv_at hl 2 rfl) ?_
                          refine lv_sipush (v := (-200)) X.1 X.2.1 dX12_looksAnew_408 (by decide) ?_
                          refine lv_isub X.1 X.2.1 dX12_looksAnew_411 ?_
                          refine lv_iadd X.1 X.2.1 dX12_looksAnew_412 ?_
                          refine m_puti 12 X hK hP hS hM hin rfl (by decide) k158 rfl rfl rfl rfl dX12_looksAnew_413 (fun H locs hP hS => ?_)
                          generalize eM29 : g2 N 0 12 ((nI pp - nI ee) + (((-200) - nI n) - (-200))) = M29 at hP
                          refine lv_aload_n X.1 X.2.1 dX12_looksAnew_416 rfl (lv_at hl 3 rfl) ?_
                          refine lv_dup X.1 X.2.1 dX12_looksAnew_417 rfl ?_
                          refine m_geti 13 X hK hP hM hin rfl (by decide) k161 rfl dX12_looksAnew_418 (show M29 0 13 = nI qq from (gs_ne eM29 (by omega) hN13)) ?_
                          refine lv_iload X.1 X.2.1 dX12_looksAnew_421 (lv_at hl 0 rfl) ?_
                          refine lv_if_eq (tgt := 443) X.1 X.2.1 dX12_looksAnew_423 (by decide) (fun c423 => ?_) (fun c423 => ?_)
                          · exact absurd c423 (by decide)
                          · have n423 : ¬ 1 = 0 := gq_ne c423 (show (1 : Int32) = nI 1 from rfl) (show (0 : Int32) = nI 0 from rfl) (by omega) (by omega)
                            refine lv_iload X.1 X.2.1 dX12_looksAnew_426 (lv_at hl 2 rfl) ?_
                            refine lv_sipush (v := (-400)) X.1 X.2.1 dX12_looksAnew_428 (by decide) ?_
                            refine lv_icmp_gt (tgt := 443) X.1 X.2.1 dX12_looksAnew_431 (by decide) (fun c431 => ?_) (fun c431 => ?_)
                            · refine lv_iconst (v := 0) X.1 X.2.1 dX12_looksAnew_443 (by decide) ?_
                              refine lv_iadd X.1 X.2.1 dX12_looksAnew_444 ?_
                              refine m_puti 13 X hK hP hS hM hin rfl (by decide) k161 rfl rfl rfl rfl dX12_looksAnew_445 (fun H locs hP hS => ?_)
                              generalize eM30 : g2 M29 0 13 ((nI qq) + 0) = M30 at hP
                              refine lv_iinc (v := nI ((fr + k) + 1)) (lv' := [(7, .int (nI ((fr + k) + 1))), (9, .int 1), (6, .int 0), (8, .int ((-200) - nI n)), (0, .ref o), (1, .int (nI μ)), (2, .int (nI υ)), (3, .int (nI β)), (4, .int (nI fl.length)), (5, .int (nI fr))]) X.1 X.2.1 dX12_looksAnew_448 hl (k := 9) rfl (gn_inc (Eq.refl (nI (fr + k))) 1) (by decide) rfl (fun ls hl => ?_)
                              refine lv_goto (tgt := 118) X.1 X.2.1 dX12_looksAnew_451 (by decide) ?_
                              exact ih _ _ _ _ (by omega) ⟨[], _, _, _, hrun2, (by simp only [List.length_cons, List.length_nil] at *; omega), tok, trivial, (gs_ne eM30 (by omega) ((gs_same eM29).trans (gsl_e pp ee n))), ((gs_same eM30).trans (gsl_z qq)), fun b i h => (gs_ne eM30 (by omega) (gs_ne eM29 (by omega) (hsm b i h))), lv_sub hl [4, 5, 6, 7, 8, 9, 2, 0] rfl⟩ hP hS
                            · exact absurd q3 c431
                        · exact absurd q4 c395
                      · exact absurd q3 c383
                  · exact absurd q2 c275
                · exact absurd c239 q1
              · exact absurd q0 c139
            | false =>
              refine lv_istore (lv' := [(8, .int ((-200) - nI n)), (0, .ref o), (1, .int (nI μ)), (2, .int (nI υ)), (3, .int (nI β)), (4, .int (nI fl.length)), (5, .int (nI fr)), (6, .int (nI 1)), (7, .int (nI (fr + k)))]) X.1 X.2.1 dX12_looksAnew_135 hl (by decide) rfl (fun ls hl => ?_)
              refine lv_iload X.1 X.2.1 dX12_looksAnew_137 (lv_at hl 0 rfl) ?_
              refine lv_if_lt (tgt := 236) X.1 X.2.1 dX12_looksAnew_139 (by decide) (fun c139 => ?_) (fun c139 => ?_)
              · refine lv_iload X.1 X.2.1 dX12_looksAnew_236 (lv_at hl 0 rfl) ?_
                refine lv_iconst (v := (-1)) X.1 X.2.1 dX12_looksAnew_238 (by decide) ?_
                refine lv_icmp_ne (tgt := 271) X.1 X.2.1 dX12_looksAnew_239 (by decide) (fun c239 => ?_) (fun c239 => ?_)
                · refine lv_iload X.1 X.2.1 dX12_looksAnew_271 (lv_at hl 0 rfl) ?_
                  refine lv_bipush (v := (-10)) X.1 X.2.1 dX12_looksAnew_273 (by decide) ?_
                  refine lv_icmp_le (tgt := 357) X.1 X.2.1 dX12_looksAnew_275 (by decide) (fun c275 => ?_) (fun c275 => ?_)
                  · refine lv_iconst (v := 0) X.1 X.2.1 dX12_looksAnew_357 (by decide) ?_
                    refine lv_istore (lv' := [(6, .int 0), (8, .int ((-200) - nI n)), (0, .ref o), (1, .int (nI μ)), (2, .int (nI υ)), (3, .int (nI β)), (4, .int (nI fl.length)), (5, .int (nI fr)), (7, .int (nI (fr + k)))]) X.1 X.2.1 dX12_looksAnew_358 hl (by decide) rfl (fun ls hl => ?_)
                    refine lv_aload_n X.1 X.2.1 dX12_looksAnew_360 rfl (lv_at hl 2 rfl) ?_
                    refine m_getr 11 5 X hK hP hM hin rfl (by decide) k24 rfl dX12_looksAnew_361 (by decide) ?_
                    refine lv_iconst (v := 0) X.1 X.2.1 dX12_looksAnew_364 (by decide) ?_
                    refine m_zald 0 X hK hP hM (gIx_of (show (0 : Int32) = nI 0 from rfl) (by omega) (by omega)) dX12_looksAnew_365 (show N 5 0 = 0 from (hrep.1)) ?_
                    refine lv_istore (lv' := [(9, .int 0), (6, .int 0), (8, .int ((-200) - nI n)), (0, .ref o), (1, .int (nI μ)), (2, .int (nI υ)), (3, .int (nI β)), (4, .int (nI fl.length)), (5, .int (nI fr)), (7, .int (nI (fr + k)))]) X.1 X.2.1 dX12_looksAnew_366 hl (by decide) rfl (fun ls hl => ?_)
                    refine lv_aload_n X.1 X.2.1 dX12_looksAnew_368 rfl (lv_at hl 3 rfl) ?_
                    refine lv_dup X.1 X.2.1 dX12_looksAnew_369 rfl ?_
                    refine m_geti 12 X hK hP hM hin rfl (by decide) k158 rfl dX12_looksAnew_370 (show N 0 12 = nI pp - nI ee from hN12) ?_
                    refine lv_iload X.1 X.2.1 dX12_looksAnew_373 (lv_at hl 0 rfl) ?_
                    refine lv_if_eq (tgt := 386) X.1 X.2.1 dX12_looksAnew_375 (by decide) (fun c375 => ?_) (fun c375 => ?_)
                    · have n375 : 0 = 0 := gq_eq c375 (show (0 : Int32) = nI 0 from rfl) (show (0 : Int32) = nI 0 from rfl) (by omega) (by omega)
                      refine lv_iconst (v := 0) X.1 X.2.1 dX12_looksAnew_386 (by decide) ?_
                      refine lv_goto (tgt := 412) X.1 X.2.1 dX12_looksAnew_387 (by decide) ?_
                      refine lv_iadd X.1 X.2.1 dX12_looksAnew_412 ?_
                      refine m_puti 12 X hK hP hS hM hin rfl (by decide) k158 rfl rfl rfl rfl dX12_looksAnew_413 (fun H locs hP hS => ?_)
                      generalize eM31 : g2 N 0 12 ((nI pp - nI ee) + 0) = M31 at hP
                      refine lv_aload_n X.1 X.2.1 dX12_looksAnew_416 rfl (lv_at hl 3 rfl) ?_
                      refine lv_dup X.1 X.2.1 dX12_looksAnew_417 rfl ?_
                      refine m_geti 13 X hK hP hM hin rfl (by decide) k161 rfl dX12_looksAnew_418 (show M31 0 13 = nI qq from (gs_ne eM31 (by omega) hN13)) ?_
                      refine lv_iload X.1 X.2.1 dX12_looksAnew_421 (lv_at hl 0 rfl) ?_
                      refine lv_if_eq (tgt := 443) X.1 X.2.1 dX12_looksAnew_423 (by decide) (fun c423 => ?_) (fun c423 => ?_)
                      · have n423 : 0 = 0 := gq_eq c423 (show (0 : Int32) = nI 0 from rfl) (show (0 : Int32) = nI 0 from rfl) (by omega) (by omega)
                        refine lv_iconst (v := 0) X.1 X.2.1 dX12_looksAnew_443 (by decide) ?_
                        refine lv_iadd X.1 X.2.1 dX12_looksAnew_444 ?_
                        refine m_puti 13 X hK hP hS hM hin rfl (by decide) k161 rfl rfl rfl rfl dX12_looksAnew_445 (fun H locs hP hS => ?_)
                        generalize eM32 : g2 M31 0 13 ((nI qq) + 0) = M32 at hP
                        refine lv_iinc (v := nI ((fr + k) + 1)) (lv' := [(7, .int (nI ((fr + k) + 1))), (9, .int 0), (6, .int 0), (8, .int ((-200) - nI n)), (0, .ref o), (1, .int (nI μ)), (2, .int (nI υ)), (3, .int (nI β)), (4, .int (nI fl.length)), (5, .int (nI fr))]) X.1 X.2.1 dX12_looksAnew_448 hl (k := 9) rfl (gn_inc (Eq.refl (nI (fr + k))) 1) (by decide) rfl (fun ls hl => ?_)
                        refine lv_goto (tgt := 118) X.1 X.2.1 dX12_looksAnew_451 (by decide) ?_
                        exact ih _ _ _ _ (by omega) ⟨[], _, _, _, hrun2, (by simp only [List.length_cons, List.length_nil] at *; omega), tok, trivial, (gs_ne eM32 (by omega) ((gs_same eM31).trans (gsl_0 pp ee))), ((gs_same eM32).trans (gsl_z qq)), fun b i h => (gs_ne eM32 (by omega) (gs_ne eM31 (by omega) (hsm b i h))), lv_sub hl [4, 5, 6, 7, 8, 9, 2, 0] rfl⟩ hP hS
                      · exact absurd rfl c423
                    · exact absurd rfl c375
                  · exact absurd q2 c275
                · exact absurd c239 q1
              · exact absurd q0 c139
          · rw [tStep_S hn] at hrun2
            refine lv_cv (encR_S hn) ?_
            obtain ⟨q0, q1, q2, q3, q4⟩ := ng_S hn
            clear t0 t9
            cases b0 with
            | true =>
              refine lv_istore (lv' := [(8, .int ((-400) - nI n)), (0, .ref o), (1, .int (nI μ)), (2, .int (nI υ)), (3, .int (nI β)), (4, .int (nI fl.length)), (5, .int (nI fr)), (6, .int (nI 1)), (7, .int (nI (fr + k)))]) X.1 X.2.1 dX12_looksAnew_135 hl (by decide) rfl (fun ls hl => ?_)
              refine lv_iload X.1 X.2.1 dX12_looksAnew_137 (lv_at hl 0 rfl) ?_
              refine lv_if_lt (tgt := 236) X.1 X.2.1 dX12_looksAnew_139 (by decide) (fun c139 => ?_) (fun c139 => ?_)
              · refine lv_iload X.1 X.2.1 dX12_looksAnew_236 (lv_at hl 0 rfl) ?_
                refine lv_iconst (v := (-1)) X.1 X.2.1 dX12_looksAnew_238 (by decide) ?_
                refine lv_icmp_ne (tgt := 271) X.1 X.2.1 dX12_looksAnew_239 (by decide) (fun c239 => ?_) (fun c239 => ?_)
                · refine lv_iload X.1 X.2.1 dX12_looksAnew_271 (lv_at hl 0 rfl) ?_
                  refine lv_bipush (v := (-10)) X.1 X.2.1 dX12_looksAnew_273 (by decide) ?_
                  refine lv_icmp_le (tgt := 357) X.1 X.2.1 dX12_looksAnew_275 (by decide) (fun c275 => ?_) (fun c275 => ?_)
                  · refine lv_iconst (v := 0) X.1 X.2.1 dX12_looksAnew_357 (by decide) ?_
                    refine lv_istore (lv' := [(6, .int 0), (8, .int ((-400) - nI n)), (0, .ref o), (1, .int (nI μ)), (2, .int (nI υ)), (3, .int (nI β)), (4, .int (nI fl.length)), (5, .int (nI fr)), (7, .int (nI (fr + k)))]) X.1 X.2.1 dX12_looksAnew_358 hl (by decide) rfl (fun ls hl => ?_)
                    refine lv_aload_n X.1 X.2.1 dX12_looksAnew_360 rfl (lv_at hl 2 rfl) ?_
                    refine m_getr 11 5 X hK hP hM hin rfl (by decide) k24 rfl dX12_looksAnew_361 (by decide) ?_
                    refine lv_iconst (v := 0) X.1 X.2.1 dX12_looksAnew_364 (by decide) ?_
                    refine m_zald 0 X hK hP hM (gIx_of (show (0 : Int32) = nI 0 from rfl) (by omega) (by omega)) dX12_looksAnew_365 (show N 5 0 = 1 from (hrep.1)) ?_
                    refine lv_istore (lv' := [(9, .int 1), (6, .int 0), (8, .int ((-400) - nI n)), (0, .ref o), (1, .int (nI μ)), (2, .int (nI υ)), (3, .int (nI β)), (4, .int (nI fl.length)), (5, .int (nI fr)), (7, .int (nI (fr + k)))]) X.1 X.2.1 dX12_looksAnew_366 hl (by decide) rfl (fun ls hl => ?_)
                    refine lv_aload_n X.1 X.2.1 dX12_looksAnew_368 rfl (lv_at hl 3 rfl) ?_
                    refine lv_dup X.1 X.2.1 dX12_looksAnew_369 rfl ?_
                    refine m_geti 12 X hK hP hM hin rfl (by decide) k158 rfl dX12_looksAnew_370 (show N 0 12 = nI pp - nI ee from hN12) ?_
                    refine lv_iload X.1 X.2.1 dX12_looksAnew_373 (lv_at hl 0 rfl) ?_
                    refine lv_if_eq (tgt := 386) X.1 X.2.1 dX12_looksAnew_375 (by decide) (fun c375 => ?_) (fun c375 => ?_)
                    · exact absurd c375 (by decide)
                    · have n375 : ¬ 1 = 0 := gq_ne c375 (show (1 : Int32) = nI 1 from rfl) (show (0 : Int32) = nI 0 from rfl) (by omega) (by omega)
                      refine lv_iload X.1 X.2.1 dX12_looksAnew_378 (lv_at hl 2 rfl) ?_
                      refine lv_sipush (v := (-400)) X.1 X.2.1 dX12_looksAnew_380 (by decide) ?_
                      refine lv_icmp_gt (tgt := 390) X.1 X.2.1 dX12_looksAnew_383 (by decide) (fun c383 => ?_) (fun c383 => ?_)
                      · exact absurd c383 (Int32.not_lt.mpr q3)
                      · refine lv_iconst (v := 0) X.1 X.2.1 dX12_looksAnew_386 (by decide) ?_
                        refine lv_goto (tgt := 412) X.1 X.2.1 dX12_looksAnew_387 (by decide) ?_
                        refine lv_iadd X.1 X.2.1 dX12_looksAnew_412 ?_
                        refine m_puti 12 X hK hP hS hM hin rfl (by decide) k158 rfl rfl rfl rfl dX12_looksAnew_413 (fun H locs hP hS => ?_)
                        generalize eM33 : g2 N 0 12 ((nI pp - nI ee) + 0) = M33 at hP
                        refine lv_aload_n X.1 X.2.1 dX12_looksAnew_416 rfl (lv_at hl 3 rfl) ?_
                        refine lv_dup X.1 X.2.1 dX12_looksAnew_417 rfl ?_
                        refine m_geti 13 X hK hP hM hin rfl (by decide) k161 rfl dX12_looksAnew_418 (show M33 0 13 = nI qq from (gs_ne eM33 (by omega) hN13)) ?_
                        refine lv_iload X.1 X.2.1 dX12_looksAnew_421 (lv_at hl 0 rfl) ?_
                        refine lv_if_eq (tgt := 443) X.1 X.2.1 dX12_looksAnew_423 (by decide) (fun c423 => ?_) (fun c423 => ?_)
                        · exact absurd c423 (by decide)
                        · have n423 : ¬ 1 = 0 := gq_ne c423 (show (1 : Int32) = nI 1 from rfl) (show (0 : Int32) = nI 0 from rfl) (by omega) (by omega)
                          refine lv_iload X.1 X.2.1 dX12_looksAnew_426 (lv_at hl 2 rfl) ?_
                          refine lv_sipush (v := (-400)) X.1 X.2.1 dX12_looksAnew_428 (by decide) ?_
                          refine lv_icmp_gt (tgt := 443) X.1 X.2.1 dX12_looksAnew_431 (by decide) (fun c431 => ?_) (fun c431 => ?_)
                          · exact absurd c431 (Int32.not_lt.mpr q3)
                          · refine lv_sipush (v := (-400)) X.1 X.2.1 dX12_looksAnew_434 (by decide) ?_
                            refine lv_iload X.1 X.2.1 dX12_looksAnew_437 (lv_at hl 2 rfl) ?_
                            refine lv_isub X.1 X.2.1 dX12_looksAnew_439 ?_
                            refine lv_goto (tgt := 444) X.1 X.2.1 dX12_looksAnew_440 (by decide) ?_
                            refine lv_iadd X.1 X.2.1 dX12_looksAnew_444 ?_
                            refine m_puti 13 X hK hP hS hM hin rfl (by decide) k161 rfl rfl rfl rfl dX12_looksAnew_445 (fun H locs hP hS => ?_)
                            generalize eM34 : g2 M33 0 13 ((nI qq) + ((-400) - ((-400) - nI n))) = M34 at hP
                            refine lv_iinc (v := nI ((fr + k) + 1)) (lv' := [(7, .int (nI ((fr + k) + 1))), (9, .int 1), (6, .int 0), (8, .int ((-400) - nI n)), (0, .ref o), (1, .int (nI μ)), (2, .int (nI υ)), (3, .int (nI β)), (4, .int (nI fl.length)), (5, .int (nI fr))]) X.1 X.2.1 dX12_looksAnew_448 hl (k := 9) rfl (gn_inc (Eq.refl (nI (fr + k))) 1) (by decide) rfl (fun ls hl => ?_)
                            refine lv_goto (tgt := 118) X.1 X.2.1 dX12_looksAnew_451 (by decide) ?_
                            exact ih _ _ _ _ (by omega) ⟨[], _, _, _, hrun2, (by simp only [List.length_cons, List.length_nil] at *; omega), tok, trivial, (gs_ne eM34 (by omega) ((gs_same eM33).trans (gsl_0 pp ee))), ((gs_same eM34).trans (gsl_s qq n)), fun b i h => (gs_ne eM34 (by omega) (gs_ne eM33 (by omega) (hsm b i h))), lv_sub hl [4, 5, 6, 7, 8, 9, 2, 0] rfl⟩ hP hS
                  · exact absurd q2 c275
                · exact absurd c239 q1
              · exact absurd q0 c139
            | false =>
              refine lv_istore (lv' := [(8, .int ((-400) - nI n)), (0, .ref o), (1, .int (nI μ)), (2, .int (nI υ)), (3, .int (nI β)), (4, .int (nI fl.length)), (5, .int (nI fr)), (6, .int (nI 1)), (7, .int (nI (fr + k)))]) X.1 X.2.1 dX12_looksAnew_135 hl (by decide) rfl (fun ls hl => ?_)
              refine lv_iload X.1 X.2.1 dX12_looksAnew_137 (lv_at hl 0 rfl) ?_
              refine lv_if_lt (tgt := 236) X.1 X.2.1 dX12_looksAnew_139 (by decide) (fun c139 => ?_) (fun c139 => ?_)
              · refine lv_iload X.1 X.2.1 dX12_looksAnew_236 (lv_at hl 0 rfl) ?_
                refine lv_iconst (v := (-1)) X.1 X.2.1 dX12_looksAnew_238 (by decide) ?_
                refine lv_icmp_ne (tgt := 271) X.1 X.2.1 dX12_looksAnew_239 (by decide) (fun c239 => ?_) (fun c239 => ?_)
                · refine lv_iload X.1 X.2.1 dX12_looksAnew_271 (lv_at hl 0 rfl) ?_
                  refine lv_bipush (v := (-10)) X.1 X.2.1 dX12_looksAnew_273 (by decide) ?_
                  refine lv_icmp_le (tgt := 357) X.1 X.2.1 dX12_looksAnew_275 (by decide) (fun c275 => ?_) (fun c275 => ?_)
                  · refine lv_iconst (v := 0) X.1 X.2.1 dX12_looksAnew_357 (by decide) ?_
                    refine lv_istore (lv' := [(6, .int 0), (8, .int ((-400) - nI n)), (0, .ref o), (1, .int (nI μ)), (2, .int (nI υ)), (3, .int (nI β)), (4, .int (nI fl.length)), (5, .int (nI fr)), (7, .int (nI (fr + k)))]) X.1 X.2.1 dX12_looksAnew_358 hl (by decide) rfl (fun ls hl => ?_)
                    refine lv_aload_n X.1 X.2.1 dX12_looksAnew_360 rfl (lv_at hl 2 rfl) ?_
                    refine m_getr 11 5 X hK hP hM hin rfl (by decide) k24 rfl dX12_looksAnew_361 (by decide) ?_
                    refine lv_iconst (v := 0) X.1 X.2.1 dX12_looksAnew_364 (by decide) ?_
                    refine m_zald 0 X hK hP hM (gIx_of (show (0 : Int32) = nI 0 from rfl) (by omega) (by omega)) dX12_looksAnew_365 (show N 5 0 = 0 from (hrep.1)) ?_
                    refine lv_istore (lv' := [(9, .int 0), (6, .int 0), (8, .int ((-400) - nI n)), (0, .ref o), (1, .int (nI μ)), (2, .int (nI υ)), (3, .int (nI β)), (4, .int (nI fl.length)), (5, .int (nI fr)), (7, .int (nI (fr + k)))]) X.1 X.2.1 dX12_looksAnew_366 hl (by decide) rfl (fun ls hl => ?_)
                    refine lv_aload_n X.1 X.2.1 dX12_looksAnew_368 rfl (lv_at hl 3 rfl) ?_
                    refine lv_dup X.1 X.2.1 dX12_looksAnew_369 rfl ?_
                    refine m_geti 12 X hK hP hM hin rfl (by decide) k158 rfl dX12_looksAnew_370 (show N 0 12 = nI pp - nI ee from hN12) ?_
                    refine lv_iload X.1 X.2.1 dX12_looksAnew_373 (lv_at hl 0 rfl) ?_
                    refine lv_if_eq (tgt := 386) X.1 X.2.1 dX12_looksAnew_375 (by decide) (fun c375 => ?_) (fun c375 => ?_)
                    · have n375 : 0 = 0 := gq_eq c375 (show (0 : Int32) = nI 0 from rfl) (show (0 : Int32) = nI 0 from rfl) (by omega) (by omega)
                      refine lv_iconst (v := 0) X.1 X.2.1 dX12_looksAnew_386 (by decide) ?_
                      refine lv_goto (tgt := 412) X.1 X.2.1 dX12_looksAnew_387 (by decide) ?_
                      refine lv_iadd X.1 X.2.1 dX12_looksAnew_412 ?_
                      refine m_puti 12 X hK hP hS hM hin rfl (by decide) k158 rfl rfl rfl rfl dX12_looksAnew_413 (fun H locs hP hS => ?_)
                      generalize eM35 : g2 N 0 12 ((nI pp - nI ee) + 0) = M35 at hP
                      refine lv_aload_n X.1 X.2.1 dX12_looksAnew_416 rfl (lv_at hl 3 rfl) ?_
                      refine lv_dup X.1 X.2.1 dX12_looksAnew_417 rfl ?_
                      refine m_geti 13 X hK hP hM hin rfl (by decide) k161 rfl dX12_looksAnew_418 (show M35 0 13 = nI qq from (gs_ne eM35 (by omega) hN13)) ?_
                      refine lv_iload X.1 X.2.1 dX12_looksAnew_421 (lv_at hl 0 rfl) ?_
                      refine lv_if_eq (tgt := 443) X.1 X.2.1 dX12_looksAnew_423 (by decide) (fun c423 => ?_) (fun c423 => ?_)
                      · have n423 : 0 = 0 := gq_eq c423 (show (0 : Int32) = nI 0 from rfl) (show (0 : Int32) = nI 0 from rfl) (by omega) (by omega)
                        refine lv_iconst (v := 0) X.1 X.2.1 dX12_looksAnew_443 (by decide) ?_
                        refine lv_iadd X.1 X.2.1 dX12_looksAnew_444 ?_
                        refine m_puti 13 X hK hP hS hM hin rfl (by decide) k161 rfl rfl rfl rfl dX12_looksAnew_445 (fun H locs hP hS => ?_)
                        generalize eM36 : g2 M35 0 13 ((nI qq) + 0) = M36 at hP
                        refine lv_iinc (v := nI ((fr + k) + 1)) (lv' := [(7, .int (nI ((fr + k) + 1))), (9, .int 0), (6, .int 0), (8, .int ((-400) - nI n)), (0, .ref o), (1, .int (nI μ)), (2, .int (nI υ)), (3, .int (nI β)), (4, .int (nI fl.length)), (5, .int (nI fr))]) X.1 X.2.1 dX12_looksAnew_448 hl (k := 9) rfl (gn_inc (Eq.refl (nI (fr + k))) 1) (by decide) rfl (fun ls hl => ?_)
                        refine lv_goto (tgt := 118) X.1 X.2.1 dX12_looksAnew_451 (by decide) ?_
                        exact ih _ _ _ _ (by omega) ⟨[], _, _, _, hrun2, (by simp only [List.length_cons, List.length_nil] at *; omega), tok, trivial, (gs_ne eM36 (by omega) ((gs_same eM35).trans (gsl_0 pp ee))), ((gs_same eM36).trans (gsl_z qq)), fun b i h => (gs_ne eM36 (by omega) (gs_ne eM35 (by omega) (hsm b i h))), lv_sub hl [4, 5, 6, 7, 8, 9, 2, 0] rfl⟩ hP hS
                      · exact absurd rfl c423
                    · exact absurd rfl c375
                  · exact absurd q2 c275
                · exact absurd c239 q1
              · exact absurd q0 c139

end MG
