section MH
variable {l : Launch} {s0 : State} {D : va_G} {cy : Nat → ClassId} {B o z : Nat} {T : Nat → Nat × Nat} {R : Nat → Nat → Option Nat} {I0 : Nat → Nat → Int32} {M : Nat → Nat → Int32} {σ : Nat → Nat} {fl : List Nat} {ti sh K : Nat}
theorem mS_c {M' : Nat → Nat → Int32} (h : mS M σ) (hc : ∀ i, M' 1 i = M 1 i) : mS M' σ := fun i h1 h2 => (hc i).trans (h i h1 h2)
theorem mSite_c {M' : Nat → Nat → Int32} (h : mSite M fl ti sh) (hc : ∀ i, 42 ≤ i → (i = 42 ∨ 168 ≤ i) → M' 1 i = M 1 i) : mSite M' fl ti sh := by
  refine ⟨h.1, h.2.1, h.2.2.1, h.2.2.2.1, ?_⟩
  rcases h.2.2.2.2 with ⟨h1, h2⟩ | ⟨hd, h1, h2, h3, h4, h5, h6⟩
  · exact Or.inl ⟨(hc 42 (by omega) (by omega)).trans h1, h2⟩
  · exact Or.inr ⟨hd, h1, (hc 42 (by omega) (by omega)).trans h2, (hc _ (by omega) (by omega)).trans h3, (hc _ (by omega) (by omega)).trans h4, (hc _ (by omega) (by omega)).trans h5, fun k hk => (hc _ (by omega) (by omega)).trans (h6 k hk)⟩
/-- what the reference has seen is right, as far as its stamp is now's -/
def mCache (M : Nat → Nat → Int32) (fl : List Nat) (σ : Nat → Nat) (τ ms : Nat) : Prop := τ < 2 ^ 30 ∧ ms < 4 ∧ M 0 17 = nI τ ∧ M 0 18 = nI ms ∧ ∀ a, a < 210 → ∃ q, q ≤ τ ∧ M 6 a = nI q ∧ (q = τ → ms < σ 38 ∧ M 7 a = nI (sX fl (fF σ ms (a / 21) (a % 21))).1 - nI (sX fl (fF σ ms (a / 21) (a % 21))).2.1 ∧ M 8 a = nI (sX fl (fF σ ms (a / 21) (a % 21))).2.2)
def lS (b i : Nat) : Prop := b = 4 ∨ b = 5 ∨ b = 6 ∨ b = 7 ∨ b = 8 ∨ (b = 0 ∧ (i = 12 ∨ i = 13 ∨ i = 17 ∨ i = 18))
theorem mCache_new {U : Nat → Nat → Int32} {τ ms τ' μ at9 : Nat} (h : mCache M fl σ τ ms) (ht : (τ' = τ ∧ μ = ms) ∨ τ' = τ + 1) (hτ : τ' < 2 ^ 30) (hμ : μ < 4) (h38 : μ < σ 38) (h17 : U 0 17 = nI τ') (h18 : U 0 18 = nI μ) (h6 : U 6 at9 = nI τ') (h7 : U 7 at9 = nI (sX fl (fF σ μ (at9 / 21) (at9 % 21))).1 - nI (sX fl (fF σ μ (at9 / 21) (at9 % 21))).2.1) (h8 : U 8 at9 = nI (sX fl (fF σ μ (at9 / 21) (at9 % 21))).2.2) (ho : ∀ a, a ≠ at9 → U 6 a = M 6 a ∧ U 7 a = M 7 a ∧ U 8 a = M 8 a) : mCache U fl σ τ' μ := by
  refine ⟨hτ, hμ, h17, h18, fun a ha => ?_⟩
  by_cases e : a = at9
  · subst e
    exact ⟨τ', Nat.le_refl _, h6, fun _ => ⟨h38, h7, h8⟩⟩
  · obtain ⟨q, q1, q2, q3⟩ := h.2.2.2.2 a ha
    obtain ⟨o1, o2, o3⟩ := ho a e
    refine ⟨q, by omega, by rw [o1]; exact q2, fun hq => ?_⟩
    rcases ht with ⟨rfl, rfl⟩ | rfl
    · rw [o2, o3]
      exact q3 hq
    · omega
theorem mCache_hit {U : Nat → Nat → Int32} {τ ms : Nat} (h : mCache M fl σ τ ms) (h17 : U 0 17 = nI τ) (h18 : U 0 18 = nI ms) (ho : ∀ a, U 6 a = M 6 a ∧ U 7 a = M 7 a ∧ U 8 a = M 8 a) : mCache U fl σ τ ms := by
  refine ⟨h.1, h.2.1, h17, h18, fun a ha => ?_⟩
  obtain ⟨q, q1, q2, q3⟩ := h.2.2.2.2 a ha
  obtain ⟨o1, o2, o3⟩ := ho a
  exact ⟨q, q1, by rw [o1]; exact q2, fun hq => by rw [o2, o3]; exact q3 hq⟩
/-- the stamp grows: nothing seen counts any more -/
theorem mCache_tick {U : Nat → Nat → Int32} {fl2 : List Nat} {σ2 : Nat → Nat} {τ ms : Nat} (h : mCache M fl σ τ ms) (hτ : τ + 1 < 2 ^ 30) (h17 : U 0 17 = nI (τ + 1)) (h18 : U 0 18 = M 0 18) (ho : ∀ a, U 6 a = M 6 a) : mCache U fl2 σ2 (τ + 1) ms := by
  refine ⟨hτ, h.2.1, h17, h18.trans h.2.2.2.1, fun a ha => ?_⟩
  obtain ⟨q, q1, q2, q3⟩ := h.2.2.2.2 a ha
  exact ⟨q, by omega, (ho a).trans q2, fun hq => by omega⟩

set_option maxHeartbeats 4000000 in
set_option maxRecDepth 100000 in
/-- looks -/
theorem c_looks (hM : gMod o T R) (hσ : mS M σ) (hs : mSite M fl ti sh) (hb : sBd σ K) {μ υ β τ ms : Nat} (hμ : μ < 4) (h38 : μ < σ 38) (hυ : υ < 10) (hβ : β ≤ 20) (hca : mCache M fl σ τ ms) (hτ : τ + 1 < 2 ^ 30) : Met l yX12_looks wsX12_looks ({ frames := 2, cells := 0, slots := 0, locals := 53 }) (mPre s0 D cy B o z T R I0 M [.int (nI μ), .int (nI υ), .int (nI β)]) (mQv D cy B o z T R I0 (fun u => ∃ τ', τ ≤ τ' ∧ τ' ≤ τ + 1 ∧ mCache u fl σ τ' μ ∧ u 0 12 = nI (sX fl (fF σ μ υ β)).1 - nI (sX fl (fF σ μ υ β)).2.1 ∧ u 0 13 = nI (sX fl (fF σ μ υ β)).2.2 ∧ mSame lS M u)) 0 0 (gA B) := by
  refine g_met (maxL := 5) (ret := none) (by decide) rfl (Nat.le_of_ble_eq_true rfl) (fun p e s m args below meth c ls X hr hlk hnm hK hP hC hS hl => ?_)
  have hl : lv_has ls 5 [(0, .ref o), (1, .int (nI μ)), (2, .int (nI υ)), (3, .int (nI β))] := hl
  have hP : gP D cy B z T (gI o 12 M I0) R s.heap := hP
  have hB : B ≤ s.heap.size := by rw [hP.1]; exact hP.2.1
  have hin : ∀ w ∈ wsX120, w ∈ wsX12_looks := fun _ h => List.mem_cons_of_mem _ (List.mem_append_right _ h)
  have k28 : Cond.fieldLink RX12 28 "BarrowPlankModel" "seenAt" "[I" ∈ wsX12_looks := by decide +kernel
  have k31 : Cond.fieldLink RX12 31 "BarrowPlankModel" "seenSlower" "[I" ∈ wsX12_looks := by decide +kernel
  have k34 : Cond.fieldLink RX12 34 "BarrowPlankModel" "seenLosing" "[I" ∈ wsX12_looks := by decide +kernel
  have k37 : Cond.fieldLink RX12 37 "BarrowPlankModel" "times" "I" ∈ wsX12_looks := by decide +kernel
  have k151 : Cond.fieldLink RX12 151 "BarrowPlankModel" "manSeen" "I" ∈ wsX12_looks := by decide +kernel
  have k158 : Cond.fieldLink RX12 158 "BarrowPlankModel" "slower" "I" ∈ wsX12_looks := by decide +kernel
  have k161 : Cond.fieldLink RX12 161 "BarrowPlankModel" "losing" "I" ∈ wsX12_looks := by decide +kernel
  have b44 : σ (44 + μ) ≤ 6 := (hb.2.2.2.2.2.2.2.2.1 μ hμ).1
  have b48 : σ (48 + μ) ≤ 9 := (hb.2.2.2.2.2.2.2.2.1 μ hμ).2.1
  have b52 : σ (52 + μ) ≤ 20 := (hb.2.2.2.2.2.2.2.2.1 μ hμ).2.2
  have b4 : σ (4 + μ) ≤ 99 := hb.2.2.1 μ hμ
  have b0 : σ 0 ≤ 999 := hb.1
  have b8 : σ (8 + υ) ≤ 9 := hb.2.2.2.1 υ (by omega)
  have b18 : σ (18 + υ) ≤ 9 := by have h := hb.2.2.2.1 (10 + υ) (by omega); rw [← Nat.add_assoc] at h; exact h
  have b28 : σ (28 + υ) ≤ 9 := by have h := hb.2.2.2.1 (20 + υ) (by omega); rw [← Nat.add_assoc] at h; exact h
  obtain ⟨q9, hq9, eq9, hv9⟩ := hca.2.2.2.2 (β + 21 * υ) (by omega)
  rw [show (β + 21 * υ) / 21 = υ by omega, show (β + 21 * υ) % 21 = β by omega] at hv9
  have hms := hca.2.1
  have hτ0 := hca.1
  refine lv_aload_n X.1 X.2.1 dX12_looks_0 rfl (lv_at hl 0 rfl) ?_
  refine lv_dup X.1 X.2.1 dX12_looks_1 rfl ?_
  refine m_geti 17 X hK hP hM hin rfl (by decide) k37 rfl dX12_looks_2 (show M 0 17 = nI τ from hca.2.2.1) ?_
  refine lv_iload_n X.1 X.2.1 dX12_looks_5 rfl (lv_at hl 1 rfl) ?_
  refine lv_aload_n X.1 X.2.1 dX12_looks_6 rfl (lv_at hl 0 rfl) ?_
  refine m_geti 18 X hK hP hM hin rfl (by decide) k151 rfl dX12_looks_7 (show M 0 18 = nI ms from hca.2.2.2.1) ?_
  refine lv_icmp_ne (tgt := 17) X.1 X.2.1 dX12_looks_10 (by decide) (fun c10 => ?_) (fun c10 => ?_)
  · have n10 : ¬ μ = ms := gq_ne c10 (Eq.refl (nI μ)) (Eq.refl (nI ms)) (by omega) (by omega)
    refine lv_iconst (v := 1) X.1 X.2.1 dX12_looks_17 (by decide) ?_
    refine lv_iadd X.1 X.2.1 dX12_looks_18 ?_
    refine m_puti 17 X hK hP hS hM hin rfl (by decide) k37 rfl rfl rfl rfl dX12_looks_19 (fun H locs hP hS => ?_)
    generalize eM1 : g2 M 0 17 ((nI τ) + 1) = M1 at hP
    refine lv_aload_n X.1 X.2.1 dX12_looks_22 rfl (lv_at hl 0 rfl) ?_
    refine lv_iload_n X.1 X.2.1 dX12_looks_23 rfl (lv_at hl 1 rfl) ?_
    refine m_puti 18 X hK hP hS hM hin rfl (by decide) k151 rfl rfl rfl rfl dX12_looks_24 (fun H locs hP hS => ?_)
    generalize eM2 : g2 M1 0 18 (nI μ) = M2 at hP
    refine lv_bipush (v := 21) X.1 X.2.1 dX12_looks_27 (by decide) ?_
    refine lv_iload_n X.1 X.2.1 dX12_looks_29 rfl (lv_at hl 2 rfl) ?_
    refine lv_imul X.1 X.2.1 dX12_looks_30 ?_
    refine lv_iload_n X.1 X.2.1 dX12_looks_31 rfl (lv_at hl 3 rfl) ?_
    refine lv_iadd X.1 X.2.1 dX12_looks_32 ?_
    refine lv_istore (lv' := [(4, .int ((21 * (nI υ)) + (nI β))), (0, .ref o), (1, .int (nI μ)), (2, .int (nI υ)), (3, .int (nI β))]) X.1 X.2.1 dX12_looks_33 hl (by decide) rfl (fun ls hl => ?_)
    refine lv_aload_n X.1 X.2.1 dX12_looks_35 rfl (lv_at hl 1 rfl) ?_
    refine m_getr 14 6 X hK hP hM hin rfl (by decide) k28 rfl dX12_looks_36 (by decide) ?_
    refine lv_iload X.1 X.2.1 dX12_looks_39 (lv_at hl 0 rfl) ?_
    refine m_ald 6 (β + 21 * υ) 210 X hK hP hM rfl (gIx_of (gn_eq (gn_add (gn_mul (show (21 : Int32) = nI 21 from rfl) (Eq.refl (nI υ))) (Eq.refl (nI β))) (by omega)) (by omega) (by omega)) dX12_looks_41 (show M2 6 (β + 21 * υ) = nI q9 from (gs_ne eM2 (by omega) (gs_ne eM1 (by omega) (by rw [show (β + 21 * υ) = (β + 21 * υ) by omega]; exact eq9)))) ?_
    refine lv_aload_n X.1 X.2.1 dX12_looks_42 rfl (lv_at hl 1 rfl) ?_
    refine m_geti 17 X hK hP hM hin rfl (by decide) k37 rfl dX12_looks_43 (show M2 0 17 = (nI τ) + 1 from (gs_ne eM2 (by omega) (gs_same eM1))) ?_
    refine lv_icmp_eq (tgt := 89) X.1 X.2.1 dX12_looks_46 (by decide) (fun c46 => ?_) (fun c46 => ?_)
    · have n46 : q9 = (τ + 1) := gq_eq c46 (Eq.refl (nI q9)) (gn_add (Eq.refl (nI τ)) (show (1 : Int32) = nI 1 from rfl)) (by omega) (by omega)
      exact absurd n46 (by omega)
    · have n46 : ¬ q9 = (τ + 1) := gq_ne c46 (Eq.refl (nI q9)) (gn_add (Eq.refl (nI τ)) (show (1 : Int32) = nI 1 from rfl)) (by omega) (by omega)
      refine lv_aload_n X.1 X.2.1 dX12_looks_49 rfl (lv_at hl 1 rfl) ?_
      refine lv_iload_n X.1 X.2.1 dX12_looks_50 rfl (lv_at hl 2 rfl) ?_
      refine lv_iload_n X.1 X.2.1 dX12_looks_51 rfl (lv_at hl 3 rfl) ?_
      refine lv_iload_n X.1 X.2.1 dX12_looks_52 rfl (lv_at hl 4 rfl) ?_
      have hR1 : ∀ i, M2 1 i = M 1 i := fun i => (gs_ne eM2 (by omega) (gs_ne eM1 (by omega) rfl))
      refine g_run_v (g_runV (k := 14) [.int (nI μ), .int (nI υ), .int (nI β)] X hK hP hS hC hB (c_looksAnew hM (mS_c hσ hR1) (mSite_c hs (fun i _ _ => hR1 i)) hb hμ hυ hβ) (cwV 3 X.2.2.2.2 gX12_looks_X12_looksAnew rfl rfl rfl (by decide +kernel) ⟨Nat.le_of_ble_eq_true rfl, Nat.le_of_ble_eq_true rfl⟩) (hM.1 0 _ rfl) rfl rfl hl.1 rfl (Nat.le_of_ble_eq_true rfl) dX12_looks_53 (by exact ⟨Nat.zero_le _, Nat.zero_le _⟩)) hS (fun u H locs hq hP hS => ?_)
      obtain ⟨hn12, hn13, hnk⟩ := hq
      generalize u = N3 at hP hn12 hn13 hnk
      have hP : gP D cy B z T (gI o 12 N3 I0) R H := hP
      refine lv_aload_n X.1 X.2.1 dX12_looks_56 rfl (lv_at hl 1 rfl) ?_
      refine m_getr 14 6 X hK hP hM hin rfl (by decide) k28 rfl dX12_looks_57 (by decide) ?_
      refine lv_iload X.1 X.2.1 dX12_looks_60 (lv_at hl 0 rfl) ?_
      refine lv_aload_n X.1 X.2.1 dX12_looks_62 rfl (lv_at hl 1 rfl) ?_
      refine m_geti 17 X hK hP hM hin rfl (by decide) k37 rfl dX12_looks_63 (show N3 0 17 = (nI τ) + 1 from ((hnk 0 17 (by unfold lAS; omega)).trans (gs_ne eM2 (by omega) (gs_same eM1)))) ?_
      refine m_ast 6 (β + 21 * υ) 210 X hK hP hS hM rfl (gIx_of (gn_eq (gn_add (gn_mul (show (21 : Int32) = nI 21 from rfl) (Eq.refl (nI υ))) (Eq.refl (nI β))) (by omega)) (by omega) (by omega)) dX12_looks_66 (fun H locs hP hS => ?_)
      generalize eM4 : g2 N3 6 (β + 21 * υ) ((nI τ) + 1) = M4 at hP
      refine lv_aload_n X.1 X.2.1 dX12_looks_67 rfl (lv_at hl 1 rfl) ?_
      refine m_getr 15 7 X hK hP hM hin rfl (by decide) k31 rfl dX12_looks_68 (by decide) ?_
      refine lv_iload X.1 X.2.1 dX12_looks_71 (lv_at hl 0 rfl) ?_
      refine lv_aload_n X.1 X.2.1 dX12_looks_73 rfl (lv_at hl 1 rfl) ?_
      refine m_geti 12 X hK hP hM hin rfl (by decide) k158 rfl dX12_looks_74 (show M4 0 12 = nI (sX fl (fF σ μ υ β)).1 - nI (sX fl (fF σ μ υ β)).2.1 from (gs_ne eM4 (by omega) hn12)) ?_
      refine m_ast 7 (β + 21 * υ) 210 X hK hP hS hM rfl (gIx_of (gn_eq (gn_add (gn_mul (show (21 : Int32) = nI 21 from rfl) (Eq.refl (nI υ))) (Eq.refl (nI β))) (by omega)) (by omega) (by omega)) dX12_looks_77 (fun H locs hP hS => ?_)
      generalize eM5 : g2 M4 7 (β + 21 * υ) (nI (sX fl (fF σ μ υ β)).1 - nI (sX fl (fF σ μ υ β)).2.1) = M5 at hP
      refine lv_aload_n X.1 X.2.1 dX12_looks_78 rfl (lv_at hl 1 rfl) ?_
      refine m_getr 16 8 X hK hP hM hin rfl (by decide) k34 rfl dX12_looks_79 (by decide) ?_
      refine lv_iload X.1 X.2.1 dX12_looks_82 (lv_at hl 0 rfl) ?_
      refine lv_aload_n X.1 X.2.1 dX12_looks_84 rfl (lv_at hl 1 rfl) ?_
      refine m_geti 13 X hK hP hM hin rfl (by decide) k161 rfl dX12_looks_85 (show M5 0 13 = nI ((sX fl (fF σ μ υ β)).2.2) from (gs_ne eM5 (by omega) (gs_ne eM4 (by omega) hn13))) ?_
      refine m_ast 8 (β + 21 * υ) 210 X hK hP hS hM rfl (gIx_of (gn_eq (gn_add (gn_mul (show (21 : Int32) = nI 21 from rfl) (Eq.refl (nI υ))) (Eq.refl (nI β))) (by omega)) (by omega) (by omega)) dX12_looks_88 (fun H locs hP hS => ?_)
      generalize eM6 : g2 M5 8 (β + 21 * υ) (nI ((sX fl (fF σ μ υ β)).2.2)) = M6 at hP
      refine lv_aload_n X.1 X.2.1 dX12_looks_89 rfl (lv_at hl 1 rfl) ?_
      refine lv_aload_n X.1 X.2.1 dX12_looks_90 rfl (lv_at hl 1 rfl) ?_
      refine m_getr 15 7 X hK hP hM hin rfl (by decide) k31 rfl dX12_looks_91 (by decide) ?_
      refine lv_iload X.1 X.2.1 dX12_looks_94 (lv_at hl 0 rfl) ?_
      refine m_ald 7 (β + 21 * υ) 210 X hK hP hM rfl (gIx_of (gn_eq (gn_add (gn_mul (show (21 : Int32) = nI 21 from rfl) (Eq.refl (nI υ))) (Eq.refl (nI β))) (by omega)) (by omega) (by omega)) dX12_looks_96 (show M6 7 (β + 21 * υ) = nI (sX fl (fF σ μ υ β)).1 - nI (sX fl (fF σ μ υ β)).2.1 from (gs_ne eM6 (by omega) (gs_same eM5))) ?_
      refine m_puti 12 X hK hP hS hM hin rfl (by decide) k158 rfl rfl rfl rfl dX12_looks_97 (fun H locs hP hS => ?_)
      generalize eM7 : g2 M6 0 12 (nI (sX fl (fF σ μ υ β)).1 - nI (sX fl (fF σ μ υ β)).2.1) = M7 at hP
      refine lv_aload_n X.1 X.2.1 dX12_looks_100 rfl (lv_at hl 1 rfl) ?_
      refine lv_aload_n X.1 X.2.1 dX12_looks_101 rfl (lv_at hl 1 rfl) ?_
      refine m_getr 16 8 X hK hP hM hin rfl (by decide) k34 rfl dX12_looks_102 (by decide) ?_
      refine lv_iload X.1 X.2.1 dX12_looks_105 (lv_at hl 0 rfl) ?_
      refine m_ald 8 (β + 21 * υ) 210 X hK hP hM rfl (gIx_of (gn_eq (gn_add (gn_mul (show (21 : Int32) = nI 21 from rfl) (Eq.refl (nI υ))) (Eq.refl (nI β))) (by omega)) (by omega) (by omega)) dX12_looks_107 (show M7 8 (β + 21 * υ) = nI ((sX fl (fF σ μ υ β)).2.2) from (gs_ne eM7 (by omega) (gs_same eM6))) ?_
      refine m_puti 13 X hK hP hS hM hin rfl (by decide) k161 rfl rfl rfl rfl dX12_looks_108 (fun H locs hP hS => ?_)
      generalize eM8 : g2 M7 0 13 (nI ((sX fl (fF σ μ υ β)).2.2)) = M8 at hP
      exact g_vret M8 X hr hlk hK hP hS dX12_looks_111 ⟨τ + 1, by omega, by omega, (mCache_new (at9 := β + 21 * υ) hca (Or.inr (by omega)) (by omega) hμ h38 (((gs_ne eM8 (by omega) (gs_ne eM7 (by omega) (gs_ne eM6 (by omega) (gs_ne eM5 (by omega) (gs_ne eM4 (by omega) ((hnk 0 17 (by unfold lAS; omega)).trans (gs_ne eM2 (by omega) (gs_same eM1))))))))).trans (gn_add (Eq.refl (nI τ)) (show (1 : Int32) = nI 1 from rfl))) (gs_ne eM8 (by omega) (gs_ne eM7 (by omega) (gs_ne eM6 (by omega) (gs_ne eM5 (by omega) (gs_ne eM4 (by omega) ((hnk 0 18 (by unfold lAS; omega)).trans (gs_same eM2))))))) ((gs_ne eM8 (by omega) (gs_ne eM7 (by omega) (gs_ne eM6 (by omega) (gs_ne eM5 (by omega) (gs_same eM4))))).trans (gn_add (Eq.refl (nI τ)) (show (1 : Int32) = nI 1 from rfl))) (by rw [show (β + 21 * υ) / 21 = υ by omega, show (β + 21 * υ) % 21 = β by omega]; exact ((gs_ne eM8 (by omega) (gs_ne eM7 (by omega) (gs_ne eM6 (by omega) (gs_same eM5)))))) (by rw [show (β + 21 * υ) / 21 = υ by omega, show (β + 21 * υ) % 21 = β by omega]; exact ((gs_ne eM8 (by omega) (gs_ne eM7 (by omega) (gs_same eM6))))) (fun a ha => ⟨(gs_ne eM8 (by omega) (gs_ne eM7 (by omega) (gs_ne eM6 (by omega) (gs_ne eM5 (by omega) (gs_ne eM4 (by omega) ((hnk _ _ (by unfold lAS; omega)).trans (gs_ne eM2 (by omega) (gs_ne eM1 (by omega) rfl)))))))), (gs_ne eM8 (by omega) (gs_ne eM7 (by omega) (gs_ne eM6 (by omega) (gs_ne eM5 (by omega) (gs_ne eM4 (by omega) ((hnk _ _ (by unfold lAS; omega)).trans (gs_ne eM2 (by omega) (gs_ne eM1 (by omega) rfl)))))))), (gs_ne eM8 (by omega) (gs_ne eM7 (by omega) (gs_ne eM6 (by omega) (gs_ne eM5 (by omega) (gs_ne eM4 (by omega) ((hnk _ _ (by unfold lAS; omega)).trans (gs_ne eM2 (by omega) (gs_ne eM1 (by omega) rfl))))))))⟩)), (gs_ne eM8 (by omega) (gs_same eM7)), (gs_same eM8), (fun b i h => by unfold lS at h; exact (gs_ne eM8 (by omega) (gs_ne eM7 (by omega) (gs_ne eM6 (by omega) (gs_ne eM5 (by omega) (gs_ne eM4 (by omega) ((hnk _ _ (by unfold lAS; omega)).trans (gs_ne eM2 (by omega) (gs_ne eM1 (by omega) rfl)))))))))⟩
  · have n10 : μ = ms := gq_eq c10 (Eq.refl (nI μ)) (Eq.refl (nI ms)) (by omega) (by omega)
    refine lv_iconst (v := 0) X.1 X.2.1 dX12_looks_13 (by decide) ?_
    refine lv_goto (tgt := 18) X.1 X.2.1 dX12_looks_14 (by decide) ?_
    refine lv_iadd X.1 X.2.1 dX12_looks_18 ?_
    refine m_puti 17 X hK hP hS hM hin rfl (by decide) k37 rfl rfl rfl rfl dX12_looks_19 (fun H locs hP hS => ?_)
    generalize eM9 : g2 M 0 17 ((nI τ) + 0) = M9 at hP
    refine lv_aload_n X.1 X.2.1 dX12_looks_22 rfl (lv_at hl 0 rfl) ?_
    refine lv_iload_n X.1 X.2.1 dX12_looks_23 rfl (lv_at hl 1 rfl) ?_
    refine m_puti 18 X hK hP hS hM hin rfl (by decide) k151 rfl rfl rfl rfl dX12_looks_24 (fun H locs hP hS => ?_)
    generalize eM10 : g2 M9 0 18 (nI μ) = M10 at hP
    refine lv_bipush (v := 21) X.1 X.2.1 dX12_looks_27 (by decide) ?_
    refine lv_iload_n X.1 X.2.1 dX12_looks_29 rfl (lv_at hl 2 rfl) ?_
    refine lv_imul X.1 X.2.1 dX12_looks_30 ?_
    refine lv_iload_n X.1 X.2.1 dX12_looks_31 rfl (lv_at hl 3 rfl) ?_
    refine lv_iadd X.1 X.2.1 dX12_looks_32 ?_
    refine lv_istore (lv' := [(4, .int ((21 * (nI υ)) + (nI β))), (0, .ref o), (1, .int (nI μ)), (2, .int (nI υ)), (3, .int (nI β))]) X.1 X.2.1 dX12_looks_33 hl (by decide) rfl (fun ls hl => ?_)
    refine lv_aload_n X.1 X.2.1 dX12_looks_35 rfl (lv_at hl 1 rfl) ?_
    refine m_getr 14 6 X hK hP hM hin rfl (by decide) k28 rfl dX12_looks_36 (by decide) ?_
    refine lv_iload X.1 X.2.1 dX12_looks_39 (lv_at hl 0 rfl) ?_
    refine m_ald 6 (β + 21 * υ) 210 X hK hP hM rfl (gIx_of (gn_eq (gn_add (gn_mul (show (21 : Int32) = nI 21 from rfl) (Eq.refl (nI υ))) (Eq.refl (nI β))) (by omega)) (by omega) (by omega)) dX12_looks_41 (show M10 6 (β + 21 * υ) = nI q9 from (gs_ne eM10 (by omega) (gs_ne eM9 (by omega) (by rw [show (β + 21 * υ) = (β + 21 * υ) by omega]; exact eq9)))) ?_
    refine lv_aload_n X.1 X.2.1 dX12_looks_42 rfl (lv_at hl 1 rfl) ?_
    refine m_geti 17 X hK hP hM hin rfl (by decide) k37 rfl dX12_looks_43 (show M10 0 17 = (nI τ) + 0 from (gs_ne eM10 (by omega) (gs_same eM9))) ?_
    refine lv_icmp_eq (tgt := 89) X.1 X.2.1 dX12_looks_46 (by decide) (fun c46 => ?_) (fun c46 => ?_)
    · have n46 : q9 = (τ + 0) := gq_eq c46 (Eq.refl (nI q9)) (gn_add (Eq.refl (nI τ)) (show (0 : Int32) = nI 0 from rfl)) (by omega) (by omega)
      have hh9 : q9 = τ := by omega
      have hμ9 : μ = ms := n10
      subst hμ9
      refine lv_aload_n X.1 X.2.1 dX12_looks_89 rfl (lv_at hl 1 rfl) ?_
      refine lv_aload_n X.1 X.2.1 dX12_looks_90 rfl (lv_at hl 1 rfl) ?_
      refine m_getr 15 7 X hK hP hM hin rfl (by decide) k31 rfl dX12_looks_91 (by decide) ?_
      refine lv_iload X.1 X.2.1 dX12_looks_94 (lv_at hl 0 rfl) ?_
      refine m_ald 7 (β + 21 * υ) 210 X hK hP hM rfl (gIx_of (gn_eq (gn_add (gn_mul (show (21 : Int32) = nI 21 from rfl) (Eq.refl (nI υ))) (Eq.refl (nI β))) (by omega)) (by omega) (by omega)) dX12_looks_96 (show M10 7 (β + 21 * υ) = nI (sX fl (fF σ μ υ β)).1 - nI (sX fl (fF σ μ υ β)).2.1 from (gs_ne eM10 (by omega) (gs_ne eM9 (by omega) (by rw [show (β + 21 * υ) = (β + 21 * υ) by omega]; exact (hv9 hh9).2.1)))) ?_
      refine m_puti 12 X hK hP hS hM hin rfl (by decide) k158 rfl rfl rfl rfl dX12_looks_97 (fun H locs hP hS => ?_)
      generalize eM11 : g2 M10 0 12 (nI (sX fl (fF σ μ υ β)).1 - nI (sX fl (fF σ μ υ β)).2.1) = M11 at hP
      refine lv_aload_n X.1 X.2.1 dX12_looks_100 rfl (lv_at hl 1 rfl) ?_
      refine lv_aload_n X.1 X.2.1 dX12_looks_101 rfl (lv_at hl 1 rfl) ?_
      refine m_getr 16 8 X hK hP hM hin rfl (by decide) k34 rfl dX12_looks_102 (by decide) ?_
      refine lv_iload X.1 X.2.1 dX12_looks_105 (lv_at hl 0 rfl) ?_
      refine m_ald 8 (β + 21 * υ) 210 X hK hP hM rfl (gIx_of (gn_eq (gn_add (gn_mul (show (21 : Int32) = nI 21 from rfl) (Eq.refl (nI υ))) (Eq.refl (nI β))) (by omega)) (by omega) (by omega)) dX12_looks_107 (show M11 8 (β + 21 * υ) = nI (sX fl (fF σ μ υ β)).2.2 from (gs_ne eM11 (by omega) (gs_ne eM10 (by omega) (gs_ne eM9 (by omega) (by rw [show (β + 21 * υ) = (β + 21 * υ) by omega]; exact (hv9 hh9).2.2))))) ?_
      refine m_puti 13 X hK hP hS hM hin rfl (by decide) k161 rfl rfl rfl rfl dX12_looks_108 (fun H locs hP hS => ?_)
      generalize eM12 : g2 M11 0 13 (nI (sX fl (fF σ μ υ β)).2.2) = M12 at hP
      exact g_vret M12 X hr hlk hK hP hS dX12_looks_111 ⟨τ + 0, by omega, by omega, (mCache_hit hca (((gs_ne eM12 (by omega) (gs_ne eM11 (by omega) (gs_ne eM10 (by omega) (gs_same eM9))))).trans (gn_add (Eq.refl (nI τ)) (show (0 : Int32) = nI 0 from rfl))) (gs_ne eM12 (by omega) (gs_ne eM11 (by omega) (gs_same eM10))) (fun a => ⟨(gs_ne eM12 (by omega) (gs_ne eM11 (by omega) (gs_ne eM10 (by omega) (gs_ne eM9 (by omega) rfl)))), (gs_ne eM12 (by omega) (gs_ne eM11 (by omega) (gs_ne eM10 (by omega) (gs_ne eM9 (by omega) rfl)))), (gs_ne eM12 (by omega) (gs_ne eM11 (by omega) (gs_ne eM10 (by omega) (gs_ne eM9 (by omega) rfl))))⟩)), (gs_ne eM12 (by omega) (gs_same eM11)), (gs_same eM12), (fun b i h => by unfold lS at h; exact (gs_ne eM12 (by omega) (gs_ne eM11 (by omega) (gs_ne eM10 (by omega) (gs_ne eM9 (by omega) rfl)))))⟩
    · have n46 : ¬ q9 = (τ + 0) := gq_ne c46 (Eq.refl (nI q9)) (gn_add (Eq.refl (nI τ)) (show (0 : Int32) = nI 0 from rfl)) (by omega) (by omega)
      refine lv_aload_n X.1 X.2.1 dX12_looks_49 rfl (lv_at hl 1 rfl) ?_
      refine lv_iload_n X.1 X.2.1 dX12_looks_50 rfl (lv_at hl 2 rfl) ?_
      refine lv_iload_n X.1 X.2.1 dX12_looks_51 rfl (lv_at hl 3 rfl) ?_
      refine lv_iload_n X.1 X.2.1 dX12_looks_52 rfl (lv_at hl 4 rfl) ?_
      have hR1 : ∀ i, M10 1 i = M 1 i := fun i => (gs_ne eM10 (by omega) (gs_ne eM9 (by omega) rfl))
      refine g_run_v (g_runV (k := 14) [.int (nI μ), .int (nI υ), .int (nI β)] X hK hP hS hC hB (c_looksAnew hM (mS_c hσ hR1) (mSite_c hs (fun i _ _ => hR1 i)) hb hμ hυ hβ) (cwV 3 X.2.2.2.2 gX12_looks_X12_looksAnew rfl rfl rfl (by decide +kernel) ⟨Nat.le_of_ble_eq_true rfl, Nat.le_of_ble_eq_true rfl⟩) (hM.1 0 _ rfl) rfl rfl hl.1 rfl (Nat.le_of_ble_eq_true rfl) dX12_looks_53 (by exact ⟨Nat.zero_le _, Nat.zero_le _⟩)) hS (fun u H locs hq hP hS => ?_)
      obtain ⟨hn12, hn13, hnk⟩ := hq
      generalize u = N13 at hP hn12 hn13 hnk
      have hP : gP D cy B z T (gI o 12 N13 I0) R H := hP
      refine lv_aload_n X.1 X.2.1 dX12_looks_56 rfl (lv_at hl 1 rfl) ?_
      refine m_getr 14 6 X hK hP hM hin rfl (by decide) k28 rfl dX12_looks_57 (by decide) ?_
      refine lv_iload X.1 X.2.1 dX12_looks_60 (lv_at hl 0 rfl) ?_
      refine lv_aload_n X.1 X.2.1 dX12_looks_62 rfl (lv_at hl 1 rfl) ?_
      refine m_geti 17 X hK hP hM hin rfl (by decide) k37 rfl dX12_looks_63 (show N13 0 17 = (nI τ) + 0 from ((hnk 0 17 (by unfold lAS; omega)).trans (gs_ne eM10 (by omega) (gs_same eM9)))) ?_
      refine m_ast 6 (β + 21 * υ) 210 X hK hP hS hM rfl (gIx_of (gn_eq (gn_add (gn_mul (show (21 : Int32) = nI 21 from rfl) (Eq.refl (nI υ))) (Eq.refl (nI β))) (by omega)) (by omega) (by omega)) dX12_looks_66 (fun H locs hP hS => ?_)
      generalize eM14 : g2 N13 6 (β + 21 * υ) ((nI τ) + 0) = M14 at hP
      refine lv_aload_n X.1 X.2.1 dX12_looks_67 rfl (lv_at hl 1 rfl) ?_
      refine m_getr 15 7 X hK hP hM hin rfl (by decide) k31 rfl dX12_looks_68 (by decide) ?_
      refine lv_iload X.1 X.2.1 dX12_looks_71 (lv_at hl 0 rfl) ?_
      refine lv_aload_n X.1 X.2.1 dX12_looks_73 rfl (lv_at hl 1 rfl) ?_
      refine m_geti 12 X hK hP hM hin rfl (by decide) k158 rfl dX12_looks_74 (show M14 0 12 = nI (sX fl (fF σ μ υ β)).1 - nI (sX fl (fF σ μ υ β)).2.1 from (gs_ne eM14 (by omega) hn12)) ?_
      refine m_ast 7 (β + 21 * υ) 210 X hK hP hS hM rfl (gIx_of (gn_eq (gn_add (gn_mul (show (21 : Int32) = nI 21 from rfl) (Eq.refl (nI υ))) (Eq.refl (nI β))) (by omega)) (by omega) (by omega)) dX12_looks_77 (fun H locs hP hS => ?_)
      generalize eM15 : g2 M14 7 (β + 21 * υ) (nI (sX fl (fF σ μ υ β)).1 - nI (sX fl (fF σ μ υ β)).2.1) = M15 at hP
      refine lv_aload_n X.1 X.2.1 dX12_looks_78 rfl (lv_at hl 1 rfl) ?_
      refine m_getr 16 8 X hK hP hM hin rfl (by decide) k34 rfl dX12_looks_79 (by decide) ?_
      refine lv_iload X.1 X.2.1 dX12_looks_82 (lv_at hl 0 rfl) ?_
      refine lv_aload_n X.1 X.2.1 dX12_looks_84 rfl (lv_at hl 1 rfl) ?_
      refine m_geti 13 X hK hP hM hin rfl (by decide) k161 rfl dX12_looks_85 (show M15 0 13 = nI ((sX fl (fF σ μ υ β)).2.2) from (gs_ne eM15 (by omega) (gs_ne eM14 (by omega) hn13))) ?_
      refine m_ast 8 (β + 21 * υ) 210 X hK hP hS hM rfl (gIx_of (gn_eq (gn_add (gn_mul (show (21 : Int32) = nI 21 from rfl) (Eq.refl (nI υ))) (Eq.refl (nI β))) (by omega)) (by omega) (by omega)) dX12_looks_88 (fun H locs hP hS => ?_)
      generalize eM16 : g2 M15 8 (β + 21 * υ) (nI ((sX fl (fF σ μ υ β)).2.2)) = M16 at hP
      refine lv_aload_n X.1 X.2.1 dX12_looks_89 rfl (lv_at hl 1 rfl) ?_
      refine lv_aload_n X.1 X.2.1 dX12_looks_90 rfl (lv_at hl 1 rfl) ?_
      refine m_getr 15 7 X hK hP hM hin rfl (by decide) k31 rfl dX12_looks_91 (by decide) ?_
      refine lv_iload X.1 X.2.1 dX12_looks_94 (lv_at hl 0 rfl) ?_
      refine m_ald 7 (β + 21 * υ) 210 X hK hP hM rfl (gIx_of (gn_eq (gn_add (gn_mul (show (21 : Int32) = nI 21 from rfl) (Eq.refl (nI υ))) (Eq.refl (nI β))) (by omega)) (by omega) (by omega)) dX12_looks_96 (show M16 7 (β + 21 * υ) = nI (sX fl (fF σ μ υ β)).1 - nI (sX fl (fF σ μ υ β)).2.1 from (gs_ne eM16 (by omega) (gs_same eM15))) ?_
      refine m_puti 12 X hK hP hS hM hin rfl (by decide) k158 rfl rfl rfl rfl dX12_looks_97 (fun H locs hP hS => ?_)
      generalize eM17 : g2 M16 0 12 (nI (sX fl (fF σ μ υ β)).1 - nI (sX fl (fF σ μ υ β)).2.1) = M17 at hP
      refine lv_aload_n X.1 X.2.1 dX12_looks_100 rfl (lv_at hl 1 rfl) ?_
      refine lv_aload_n X.1 X.2.1 dX12_looks_101 rfl (lv_at hl 1 rfl) ?_
      refine m_getr 16 8 X hK hP hM hin rfl (by decide) k34 rfl dX12_looks_102 (by decide) ?_
      refine lv_iload X.1 X.2.1 dX12_looks_105 (lv_at hl 0 rfl) ?_
      refine m_ald 8 (β + 21 * υ) 210 X hK hP hM rfl (gIx_of (gn_eq (gn_add (gn_mul (show (21 : Int32) = nI 21 from rfl) (Eq.refl (nI υ))) (Eq.refl (nI β))) (by omega)) (by omega) (by omega)) dX12_looks_107 (show M17 8 (β + 21 * υ) = nI ((sX fl (fF σ μ υ β)).2.2) from (gs_ne eM17 (by omega) (gs_same eM16))) ?_
      refine m_puti 13 X hK hP hS hM hin rfl (by decide) k161 rfl rfl rfl rfl dX12_looks_108 (fun H locs hP hS => ?_)
      generalize eM18 : g2 M17 0 13 (nI ((sX fl (fF σ μ υ β)).2.2)) = M18 at hP
      exact g_vret M18 X hr hlk hK hP hS dX12_looks_111 ⟨τ + 0, by omega, by omega, (mCache_new (at9 := β + 21 * υ) hca (Or.inl ⟨by omega, n10⟩) (by omega) hμ h38 (((gs_ne eM18 (by omega) (gs_ne eM17 (by omega) (gs_ne eM16 (by omega) (gs_ne eM15 (by omega) (gs_ne eM14 (by omega) ((hnk 0 17 (by unfold lAS; omega)).trans (gs_ne eM10 (by omega) (gs_same eM9))))))))).trans (gn_add (Eq.refl (nI τ)) (show (0 : Int32) = nI 0 from rfl))) (gs_ne eM18 (by omega) (gs_ne eM17 (by omega) (gs_ne eM16 (by omega) (gs_ne eM15 (by omega) (gs_ne eM14 (by omega) ((hnk 0 18 (by unfold lAS; omega)).trans (gs_same eM10))))))) ((gs_ne eM18 (by omega) (gs_ne eM17 (by omega) (gs_ne eM16 (by omega) (gs_ne eM15 (by omega) (gs_same eM14))))).trans (gn_add (Eq.refl (nI τ)) (show (0 : Int32) = nI 0 from rfl))) (by rw [show (β + 21 * υ) / 21 = υ by omega, show (β + 21 * υ) % 21 = β by omega]; exact ((gs_ne eM18 (by omega) (gs_ne eM17 (by omega) (gs_ne eM16 (by omega) (gs_same eM15)))))) (by rw [show (β + 21 * υ) / 21 = υ by omega, show (β + 21 * υ) % 21 = β by omega]; exact ((gs_ne eM18 (by omega) (gs_ne eM17 (by omega) (gs_same eM16))))) (fun a ha => ⟨(gs_ne eM18 (by omega) (gs_ne eM17 (by omega) (gs_ne eM16 (by omega) (gs_ne eM15 (by omega) (gs_ne eM14 (by omega) ((hnk _ _ (by unfold lAS; omega)).trans (gs_ne eM10 (by omega) (gs_ne eM9 (by omega) rfl)))))))), (gs_ne eM18 (by omega) (gs_ne eM17 (by omega) (gs_ne eM16 (by omega) (gs_ne eM15 (by omega) (gs_ne eM14 (by omega) ((hnk _ _ (by unfold lAS; omega)).trans (gs_ne eM10 (by omega) (gs_ne eM9 (by omega) rfl)))))))), (gs_ne eM18 (by omega) (gs_ne eM17 (by omega) (gs_ne eM16 (by omega) (gs_ne eM15 (by omega) (gs_ne eM14 (by omega) ((hnk _ _ (by unfold lAS; omega)).trans (gs_ne eM10 (by omega) (gs_ne eM9 (by omega) rfl))))))))⟩)), (gs_ne eM18 (by omega) (gs_same eM17)), (gs_same eM18), (fun b i h => by unfold lS at h; exact (gs_ne eM18 (by omega) (gs_ne eM17 (by omega) (gs_ne eM16 (by omega) (gs_ne eM15 (by omega) (gs_ne eM14 (by omega) ((hnk _ _ (by unfold lAS; omega)).trans (gs_ne eM10 (by omega) (gs_ne eM9 (by omega) rfl)))))))))⟩

theorem gtk_1 {a b : Nat} (ha : a ≤ 13860) (hb : b ≤ 13860) (h : (1 : Int32) ≤ 2 + (nI a - nI b)) : b ≤ a + 1 := by
  have h1 : (2 + (nI a - nI b) : Int32).toInt = 2 + ((a : Int) - b) := by
    rw [Int32.toInt_add, pk_sub_toInt (by omega) (by omega), show (2 : Int32).toInt = 2 by decide, Int.bmod_def]
    omega
  have h2 := Int32.le_iff_toInt_le.mp h
  rw [h1, show (1 : Int32).toInt = 1 by decide] at h2
  omega
theorem gtk_0 {a b : Nat} (ha : a ≤ 13860) (hb : b ≤ 13860) (h : ¬ (1 : Int32) ≤ 2 + (nI a - nI b)) : a + 1 < b := by
  rcases Nat.lt_or_ge (a + 1) b with q | q
  · exact q
  · exfalso
    apply h
    have h1 : (2 + (nI a - nI b) : Int32).toInt = 2 + ((a : Int) - b) := by
      rw [Int32.toInt_add, pk_sub_toInt (by omega) (by omega), show (2 : Int32).toInt = 2 by decide, Int.bmod_def]
      omega
    rw [Int32.le_iff_toInt_le, h1, show (1 : Int32).toInt = 1 by decide]
    omega
theorem gtk_v {a b : Nat} (h : b ≤ a + 1) : 2 + (nI a - nI b) = nI (2 + a - b) := by
  rw [← pk_sub (show b ≤ 2 + a by omega), ← nI_add, show nI 2 = 2 from rfl]
  grind

set_option maxHeartbeats 4000000 in
set_option maxRecDepth 100000 in
/-- takes -/
theorem c_takes (hM : gMod o T R) (hσ : mS M σ) (hs : mSite M fl ti sh) (hb : sBd σ K) {μ υ β τ ms : Nat} (hμ : μ < 4) (h38 : μ < σ 38) (hυ : υ < 10) (hβ : β ≤ 20) (hca : mCache M fl σ τ ms) (hτ : τ + 1 < 2 ^ 30) : Met l yX12_takes wsX12_takes ({ frames := 3, cells := 0, slots := 0, locals := 77 }) (mPre s0 D cy B o z T R I0 M [.int (nI μ), .int (nI υ), .int (nI β)]) (mQi D cy B o z T R I0 (fun r u => r = nI (sTk fl σ μ υ β) ∧ ∃ τ', τ ≤ τ' ∧ τ' ≤ τ + 1 ∧ mCache u fl σ τ' μ ∧ mSame lS M u)) 0 0 (gA B) := by
  refine g_met (maxL := 5) (ret := (some .int)) (by decide) rfl (Nat.le_of_ble_eq_true rfl) (fun p e s m args below meth c ls X hr hlk hnm hK hP hC hS hl => ?_)
  have hl : lv_has ls 5 [(0, .ref o), (1, .int (nI μ)), (2, .int (nI υ)), (3, .int (nI β))] := hl
  have hP : gP D cy B z T (gI o 12 M I0) R s.heap := hP
  have hB : B ≤ s.heap.size := by rw [hP.1]; exact hP.2.1
  have hin : ∀ w ∈ wsX120, w ∈ wsX12_takes := fun _ h => List.mem_cons_of_mem _ (List.mem_append_right _ h)
  have k9 : Cond.fieldLink RX12 9 "BarrowPlankModel" "s" "[I" ∈ wsX12_takes := by decide +kernel
  have k158 : Cond.fieldLink RX12 158 "BarrowPlankModel" "slower" "I" ∈ wsX12_takes := by decide +kernel
  have b44 : σ (44 + μ) ≤ 6 := (hb.2.2.2.2.2.2.2.2.1 μ hμ).1
  have b48 : σ (48 + μ) ≤ 9 := (hb.2.2.2.2.2.2.2.2.1 μ hμ).2.1
  have b52 : σ (52 + μ) ≤ 20 := (hb.2.2.2.2.2.2.2.2.1 μ hμ).2.2
  have b4 : σ (4 + μ) ≤ 99 := hb.2.2.1 μ hμ
  have b0 : σ 0 ≤ 999 := hb.1
  have b8 : σ (8 + υ) ≤ 9 := hb.2.2.2.1 υ (by omega)
  have b18 : σ (18 + υ) ≤ 9 := by have h := hb.2.2.2.1 (10 + υ) (by omega); rw [← Nat.add_assoc] at h; exact h
  have b28 : σ (28 + υ) ≤ 9 := by have h := hb.2.2.2.1 (20 + υ) (by omega); rw [← Nat.add_assoc] at h; exact h
  refine lv_aload_n X.1 X.2.1 dX12_takes_0 rfl (lv_at hl 0 rfl) ?_
  refine lv_iload_n X.1 X.2.1 dX12_takes_1 rfl (lv_at hl 1 rfl) ?_
  refine lv_iload_n X.1 X.2.1 dX12_takes_2 rfl (lv_at hl 2 rfl) ?_
  refine lv_iload_n X.1 X.2.1 dX12_takes_3 rfl (lv_at hl 3 rfl) ?_
  refine g_run_v (g_runV (k := 14) [.int (nI μ), .int (nI υ), .int (nI β)] X hK hP hS hC hB (c_looks hM hσ hs hb hμ h38 hυ hβ hca (by omega)) (cwV 3 X.2.2.2.2 gX12_takes_X12_looks rfl rfl rfl (by decide +kernel) ⟨Nat.le_of_ble_eq_true rfl, Nat.le_of_ble_eq_true rfl⟩) (hM.1 0 _ rfl) rfl rfl hl.1 rfl (Nat.le_of_ble_eq_true rfl) dX12_takes_4 (by exact ⟨Nat.zero_le _, Nat.zero_le _⟩)) hS (fun u H locs hq hP hS => ?_)
  obtain ⟨τN1, hτaN1, hτbN1, hcaN1, h12N1, h13N1, hkN1⟩ := hq
  generalize u = N1 at hP hcaN1 h12N1 h13N1 hkN1
  have hP : gP D cy B z T (gI o 12 N1 I0) R H := hP
  have hσN1 : mS N1 σ := mS_c hσ (fun i => hkN1 1 i (by unfold lS; omega))
  have hsN1 : mSite N1 fl ti sh := mSite_c hs (fun i _ _ => hkN1 1 i (by unfold lS; omega))
  have hxN1 := sX_le hs.1 hs.2.1 (fF σ μ υ β)
  refine lv_iconst (v := 2) X.1 X.2.1 dX12_takes_7 (by decide) ?_
  refine lv_aload_n X.1 X.2.1 dX12_takes_8 rfl (lv_at hl 0 rfl) ?_
  refine m_geti 12 X hK hP hM hin rfl (by decide) k158 rfl dX12_takes_9 (show N1 0 12 = nI (sX fl (fF σ μ υ β)).1 - nI (sX fl (fF σ μ υ β)).2.1 from h12N1) ?_
  refine lv_iadd X.1 X.2.1 dX12_takes_12 ?_
  refine lv_iconst (v := 1) X.1 X.2.1 dX12_takes_13 (by decide) ?_
  refine lv_icmp_ge (tgt := 21) X.1 X.2.1 dX12_takes_14 (by decide) (fun c14 => ?_) (fun c14 => ?_)
  · have n14 := gtk_1 hxN1.1 hxN1.2.1 c14
    refine lv_iconst (v := 2) X.1 X.2.1 dX12_takes_21 (by decide) ?_
    refine lv_aload_n X.1 X.2.1 dX12_takes_22 rfl (lv_at hl 0 rfl) ?_
    refine m_geti 12 X hK hP hM hin rfl (by decide) k158 rfl dX12_takes_23 (show N1 0 12 = nI (sX fl (fF σ μ υ β)).1 - nI (sX fl (fF σ μ υ β)).2.1 from h12N1) ?_
    refine lv_iadd X.1 X.2.1 dX12_takes_26 ?_
    refine lv_cv (gtk_v n14) ?_
    refine lv_istore (lv' := [(4, .int (nI (2 + (sX fl (fF σ μ υ β)).1 - (sX fl (fF σ μ υ β)).2.1))), (0, .ref o), (1, .int (nI μ)), (2, .int (nI υ)), (3, .int (nI β))]) X.1 X.2.1 dX12_takes_27 hl (by decide) rfl (fun ls hl => ?_)
    refine lv_iload X.1 X.2.1 dX12_takes_29 (lv_at hl 0 rfl) ?_
    refine lv_aload_n X.1 X.2.1 dX12_takes_31 rfl (lv_at hl 1 rfl) ?_
    refine m_getr 1 1 X hK hP hM hin rfl (by decide) k9 rfl dX12_takes_32 (by decide) ?_
    refine lv_iconst (v := 4) X.1 X.2.1 dX12_takes_35 (by decide) ?_
    refine lv_iload_n X.1 X.2.1 dX12_takes_36 rfl (lv_at hl 2 rfl) ?_
    refine lv_iadd X.1 X.2.1 dX12_takes_37 ?_
    refine m_ald 1 (4 + μ) 883 X hK hP hM rfl (gIx_of (gn_add (show (4 : Int32) = nI 4 from rfl) (Eq.refl (nI μ))) (by omega) (by omega)) dX12_takes_38 (show N1 1 (4 + μ) = nI (σ (4 + μ)) from ((hkN1 1 (4 + μ) (by unfold lS; omega)).trans (hσ (4 + μ) (by omega) (by omega)))) ?_
    refine lv_bipush (v := 10) X.1 X.2.1 dX12_takes_39 (by decide) ?_
    refine lv_idiv X.1 X.2.1 dX12_takes_41 (by decide) ?_
    refine lv_iadd X.1 X.2.1 dX12_takes_42 ?_
    refine lv_istore (lv' := [(4, .int ((nI (2 + (sX fl (fF σ μ υ β)).1 - (sX fl (fF σ μ υ β)).2.1)) + ((nI (σ (4 + μ))) / 10))), (0, .ref o), (1, .int (nI μ)), (2, .int (nI υ)), (3, .int (nI β))]) X.1 X.2.1 dX12_takes_43 hl (by decide) rfl (fun ls hl => ?_)
    refine lv_iload X.1 X.2.1 dX12_takes_45 (lv_at hl 0 rfl) ?_
    refine lv_aload_n X.1 X.2.1 dX12_takes_47 rfl (lv_at hl 1 rfl) ?_
    refine lv_iload_n X.1 X.2.1 dX12_takes_48 rfl (lv_at hl 2 rfl) ?_
    refine lv_iconst (v := 3) X.1 X.2.1 dX12_takes_49 (by decide) ?_
    refine lv_bipush (v := 6) X.1 X.2.1 dX12_takes_50 (by decide) ?_
    refine g_run_i (g_runV (k := 14) [.int (nI μ), .int 3, .int 6] X hK hP hS hC hB (c_isOf hM hσN1 (μ := μ) (k1 := 3) (k2 := 6) (by omega) (by omega) (by omega) (by omega)) (cwV 3 X.2.2.2.2 gX12_takes_X12_isOf rfl rfl rfl (by decide +kernel) ⟨Nat.le_of_ble_eq_true rfl, Nat.le_of_ble_eq_true rfl⟩) (hM.1 0 _ rfl) rfl rfl hl.1 rfl (Nat.le_of_ble_eq_true rfl) dX12_takes_52 (by exact ⟨Nat.zero_le _, Nat.zero_le _⟩)) hS (fun r u H locs hq hP hS => ?_)
    obtain ⟨rfl, rfl⟩ := hq
    have hP : gP D cy B z T (gI o 12 N1 I0) R H := hP
    refine lv_if_eq (tgt := 82) X.1 X.2.1 dX12_takes_55 (by decide) (fun c55 => ?_) (fun c55 => ?_)
    · refine lv_iconst (v := 0) X.1 X.2.1 dX12_takes_82 (by decide) ?_
      refine lv_iadd X.1 X.2.1 dX12_takes_83 ?_
      refine lv_istore (lv' := [(4, .int (((nI (2 + (sX fl (fF σ μ υ β)).1 - (sX fl (fF σ μ υ β)).2.1)) + ((nI (σ (4 + μ))) / 10)) + 0)), (0, .ref o), (1, .int (nI μ)), (2, .int (nI υ)), (3, .int (nI β))]) X.1 X.2.1 dX12_takes_84 hl (by decide) rfl (fun ls hl => ?_)
      refine lv_iload X.1 X.2.1 dX12_takes_86 (lv_at hl 0 rfl) ?_
      refine lv_aload_n X.1 X.2.1 dX12_takes_88 rfl (lv_at hl 1 rfl) ?_
      refine lv_iload_n X.1 X.2.1 dX12_takes_89 rfl (lv_at hl 2 rfl) ?_
      refine lv_iload_n X.1 X.2.1 dX12_takes_90 rfl (lv_at hl 3 rfl) ?_
      refine g_run_i (g_runV (k := 14) [.int (nI μ), .int (nI υ)] X hK hP hS hC hB (c_isNarrow hM hσN1 (μ := μ) (υ := υ) (by omega) (by omega) (by omega) (by omega) (by omega)) (cwV 2 X.2.2.2.2 gX12_takes_X12_isNarrow rfl rfl rfl (by decide +kernel) ⟨Nat.le_of_ble_eq_true rfl, Nat.le_of_ble_eq_true rfl⟩) (hM.1 0 _ rfl) rfl rfl hl.1 rfl (Nat.le_of_ble_eq_true rfl) dX12_takes_91 (by exact ⟨Nat.zero_le _, Nat.zero_le _⟩)) hS (fun r u H locs hq hP hS => ?_)
      obtain ⟨rfl, rfl⟩ := hq
      have hP : gP D cy B z T (gI o 12 N1 I0) R H := hP
      refine lv_if_eq (tgt := 102) X.1 X.2.1 dX12_takes_94 (by decide) (fun c94 => ?_) (fun c94 => ?_)
      · refine lv_iconst (v := 0) X.1 X.2.1 dX12_takes_102 (by decide) ?_
        refine lv_iadd X.1 X.2.1 dX12_takes_103 ?_
        exact g_iret N1 X hr hlk hK hP hS dX12_takes_104 ⟨((gn_add (gn_add (gn_add (Eq.refl (nI (2 + (sX fl (fF σ μ υ β)).1 - (sX fl (fF σ μ υ β)).2.1))) (gn_div (Eq.refl (nI (σ (4 + μ)))) (show (10 : Int32) = nI 10 from rfl) (by omega) (by omega) (by omega))) (show (0 : Int32) = nI 0 from rfl)) (show (0 : Int32) = nI 0 from rfl))).trans (congrArg nI (by unfold sTk; rw [if_neg (fun q => gt_0 c55 q.1), if_neg (gt_0 c94)]; omega)), τN1, hτaN1, hτbN1, hcaN1, hkN1⟩
      · refine lv_bipush (v := 20) X.1 X.2.1 dX12_takes_97 (by decide) ?_
        refine lv_goto (tgt := 103) X.1 X.2.1 dX12_takes_99 (by decide) ?_
        refine lv_iadd X.1 X.2.1 dX12_takes_103 ?_
        exact g_iret N1 X hr hlk hK hP hS dX12_takes_104 ⟨((gn_add (gn_add (gn_add (Eq.refl (nI (2 + (sX fl (fF σ μ υ β)).1 - (sX fl (fF σ μ υ β)).2.1))) (gn_div (Eq.refl (nI (σ (4 + μ)))) (show (10 : Int32) = nI 10 from rfl) (by omega) (by omega) (by omega))) (show (0 : Int32) = nI 0 from rfl)) (show (20 : Int32) = nI 20 from rfl))).trans (congrArg nI (by unfold sTk; rw [if_neg (fun q => gt_0 c55 q.1), if_pos (gt_1 c94)]; omega)), τN1, hτaN1, hτbN1, hcaN1, hkN1⟩
    · refine lv_aload_n X.1 X.2.1 dX12_takes_58 rfl (lv_at hl 1 rfl) ?_
      refine m_getr 1 1 X hK hP hM hin rfl (by decide) k9 rfl dX12_takes_59 (by decide) ?_
      refine lv_iconst (v := 4) X.1 X.2.1 dX12_takes_62 (by decide) ?_
      refine lv_iload_n X.1 X.2.1 dX12_takes_63 rfl (lv_at hl 2 rfl) ?_
      refine lv_iadd X.1 X.2.1 dX12_takes_64 ?_
      refine m_ald 1 (4 + μ) 883 X hK hP hM rfl (gIx_of (gn_add (show (4 : Int32) = nI 4 from rfl) (Eq.refl (nI μ))) (by omega) (by omega)) dX12_takes_65 (show N1 1 (4 + μ) = nI (σ (4 + μ)) from ((hkN1 1 (4 + μ) (by unfold lS; omega)).trans (hσ (4 + μ) (by omega) (by omega)))) ?_
      refine lv_aload_n X.1 X.2.1 dX12_takes_66 rfl (lv_at hl 1 rfl) ?_
      refine m_getr 1 1 X hK hP hM hin rfl (by decide) k9 rfl dX12_takes_67 (by decide) ?_
      refine lv_bipush (v := 48) X.1 X.2.1 dX12_takes_70 (by decide) ?_
      refine lv_iload_n X.1 X.2.1 dX12_takes_72 rfl (lv_at hl 2 rfl) ?_
      refine lv_iadd X.1 X.2.1 dX12_takes_73 ?_
      refine m_ald 1 (48 + μ) 883 X hK hP hM rfl (gIx_of (gn_add (show (48 : Int32) = nI 48 from rfl) (Eq.refl (nI μ))) (by omega) (by omega)) dX12_takes_74 (show N1 1 (48 + μ) = nI (σ (48 + μ)) from ((hkN1 1 (48 + μ) (by unfold lS; omega)).trans (hσ (48 + μ) (by omega) (by omega)))) ?_
      refine lv_icmp_le (tgt := 82) X.1 X.2.1 dX12_takes_75 (by decide) (fun c75 => ?_) (fun c75 => ?_)
      · have n75 : σ (4 + μ) ≤ σ (48 + μ) := gq_le c75 (Eq.refl (nI (σ (4 + μ)))) (Eq.refl (nI (σ (48 + μ)))) (by omega) (by omega)
        refine lv_iconst (v := 0) X.1 X.2.1 dX12_takes_82 (by decide) ?_
        refine lv_iadd X.1 X.2.1 dX12_takes_83 ?_
        refine lv_istore (lv' := [(4, .int (((nI (2 + (sX fl (fF σ μ υ β)).1 - (sX fl (fF σ μ υ β)).2.1)) + ((nI (σ (4 + μ))) / 10)) + 0)), (0, .ref o), (1, .int (nI μ)), (2, .int (nI υ)), (3, .int (nI β))]) X.1 X.2.1 dX12_takes_84 hl (by decide) rfl (fun ls hl => ?_)
        refine lv_iload X.1 X.2.1 dX12_takes_86 (lv_at hl 0 rfl) ?_
        refine lv_aload_n X.1 X.2.1 dX12_takes_88 rfl (lv_at hl 1 rfl) ?_
        refine lv_iload_n X.1 X.2.1 dX12_takes_89 rfl (lv_at hl 2 rfl) ?_
        refine lv_iload_n X.1 X.2.1 dX12_takes_90 rfl (lv_at hl 3 rfl) ?_
        refine g_run_i (g_runV (k := 14) [.int (nI μ), .int (nI υ)] X hK hP hS hC hB (c_isNarrow hM hσN1 (μ := μ) (υ := υ) (by omega) (by omega) (by omega) (by omega) (by omega)) (cwV 2 X.2.2.2.2 gX12_takes_X12_isNarrow rfl rfl rfl (by decide +kernel) ⟨Nat.le_of_ble_eq_true rfl, Nat.le_of_ble_eq_true rfl⟩) (hM.1 0 _ rfl) rfl rfl hl.1 rfl (Nat.le_of_ble_eq_true rfl) dX12_takes_91 (by exact ⟨Nat.zero_le _, Nat.zero_le _⟩)) hS (fun r u H locs hq hP hS => ?_)
        obtain ⟨rfl, rfl⟩ := hq
        have hP : gP D cy B z T (gI o 12 N1 I0) R H := hP
        refine lv_if_eq (tgt := 102) X.1 X.2.1 dX12_takes_94 (by decide) (fun c94 => ?_) (fun c94 => ?_)
        · refine lv_iconst (v := 0) X.1 X.2.1 dX12_takes_102 (by decide) ?_
          refine lv_iadd X.1 X.2.1 dX12_takes_103 ?_
          exact g_iret N1 X hr hlk hK hP hS dX12_takes_104 ⟨((gn_add (gn_add (gn_add (Eq.refl (nI (2 + (sX fl (fF σ μ υ β)).1 - (sX fl (fF σ μ υ β)).2.1))) (gn_div (Eq.refl (nI (σ (4 + μ)))) (show (10 : Int32) = nI 10 from rfl) (by omega) (by omega) (by omega))) (show (0 : Int32) = nI 0 from rfl)) (show (0 : Int32) = nI 0 from rfl))).trans (congrArg nI (by unfold sTk; rw [if_neg (fun q => absurd q.2 (by omega)), if_neg (gt_0 c94)]; omega)), τN1, hτaN1, hτbN1, hcaN1, hkN1⟩
        · refine lv_bipush (v := 20) X.1 X.2.1 dX12_takes_97 (by decide) ?_
          refine lv_goto (tgt := 103) X.1 X.2.1 dX12_takes_99 (by decide) ?_
          refine lv_iadd X.1 X.2.1 dX12_takes_103 ?_
          exact g_iret N1 X hr hlk hK hP hS dX12_takes_104 ⟨((gn_add (gn_add (gn_add (Eq.refl (nI (2 + (sX fl (fF σ μ υ β)).1 - (sX fl (fF σ μ υ β)).2.1))) (gn_div (Eq.refl (nI (σ (4 + μ)))) (show (10 : Int32) = nI 10 from rfl) (by omega) (by omega) (by omega))) (show (0 : Int32) = nI 0 from rfl)) (show (20 : Int32) = nI 20 from rfl))).trans (congrArg nI (by unfold sTk; rw [if_neg (fun q => absurd q.2 (by omega)), if_pos (gt_1 c94)]; omega)), τN1, hτaN1, hτbN1, hcaN1, hkN1⟩
      · have n75 : σ (48 + μ) < σ (4 + μ) := gq_nle c75 (Eq.refl (nI (σ (4 + μ)))) (Eq.refl (nI (σ (48 + μ)))) (by omega) (by omega)
        refine lv_iconst (v := 1) X.1 X.2.1 dX12_takes_78 (by decide) ?_
        refine lv_goto (tgt := 83) X.1 X.2.1 dX12_takes_79 (by decide) ?_
        refine lv_iadd X.1 X.2.1 dX12_takes_83 ?_
        refine lv_istore (lv' := [(4, .int (((nI (2 + (sX fl (fF σ μ υ β)).1 - (sX fl (fF σ μ υ β)).2.1)) + ((nI (σ (4 + μ))) / 10)) + 1)), (0, .ref o), (1, .int (nI μ)), (2, .int (nI υ)), (3, .int (nI β))]) X.1 X.2.1 dX12_takes_84 hl (by decide) rfl (fun ls hl => ?_)
        refine lv_iload X.1 X.2.1 dX12_takes_86 (lv_at hl 0 rfl) ?_
        refine lv_aload_n X.1 X.2.1 dX12_takes_88 rfl (lv_at hl 1 rfl) ?_
        refine lv_iload_n X.1 X.2.1 dX12_takes_89 rfl (lv_at hl 2 rfl) ?_
        refine lv_iload_n X.1 X.2.1 dX12_takes_90 rfl (lv_at hl 3 rfl) ?_
        refine g_run_i (g_runV (k := 14) [.int (nI μ), .int (nI υ)] X hK hP hS hC hB (c_isNarrow hM hσN1 (μ := μ) (υ := υ) (by omega) (by omega) (by omega) (by omega) (by omega)) (cwV 2 X.2.2.2.2 gX12_takes_X12_isNarrow rfl rfl rfl (by decide +kernel) ⟨Nat.le_of_ble_eq_true rfl, Nat.le_of_ble_eq_true rfl⟩) (hM.1 0 _ rfl) rfl rfl hl.1 rfl (Nat.le_of_ble_eq_true rfl) dX12_takes_91 (by exact ⟨Nat.zero_le _, Nat.zero_le _⟩)) hS (fun r u H locs hq hP hS => ?_)
        obtain ⟨rfl, rfl⟩ := hq
        have hP : gP D cy B z T (gI o 12 N1 I0) R H := hP
        refine lv_if_eq (tgt := 102) X.1 X.2.1 dX12_takes_94 (by decide) (fun c94 => ?_) (fun c94 => ?_)
        · refine lv_iconst (v := 0) X.1 X.2.1 dX12_takes_102 (by decide) ?_
          refine lv_iadd X.1 X.2.1 dX12_takes_103 ?_
          exact g_iret N1 X hr hlk hK hP hS dX12_takes_104 ⟨((gn_add (gn_add (gn_add (Eq.refl (nI (2 + (sX fl (fF σ μ υ β)).1 - (sX fl (fF σ μ υ β)).2.1))) (gn_div (Eq.refl (nI (σ (4 + μ)))) (show (10 : Int32) = nI 10 from rfl) (by omega) (by omega) (by omega))) (show (1 : Int32) = nI 1 from rfl)) (show (0 : Int32) = nI 0 from rfl))).trans (congrArg nI (by unfold sTk; rw [if_pos ⟨gt_1 c55, by omega⟩, if_neg (gt_0 c94)]; omega)), τN1, hτaN1, hτbN1, hcaN1, hkN1⟩
        · refine lv_bipush (v := 20) X.1 X.2.1 dX12_takes_97 (by decide) ?_
          refine lv_goto (tgt := 103) X.1 X.2.1 dX12_takes_99 (by decide) ?_
          refine lv_iadd X.1 X.2.1 dX12_takes_103 ?_
          exact g_iret N1 X hr hlk hK hP hS dX12_takes_104 ⟨((gn_add (gn_add (gn_add (Eq.refl (nI (2 + (sX fl (fF σ μ υ β)).1 - (sX fl (fF σ μ υ β)).2.1))) (gn_div (Eq.refl (nI (σ (4 + μ)))) (show (10 : Int32) = nI 10 from rfl) (by omega) (by omega) (by omega))) (show (1 : Int32) = nI 1 from rfl)) (show (20 : Int32) = nI 20 from rfl))).trans (congrArg nI (by unfold sTk; rw [if_pos ⟨gt_1 c55, by omega⟩, if_pos (gt_1 c94)]; omega)), τN1, hτaN1, hτbN1, hcaN1, hkN1⟩
  · have n14 := gtk_0 hxN1.1 hxN1.2.1 c14
    refine lv_iconst (v := 1) X.1 X.2.1 dX12_takes_17 (by decide) ?_
    refine lv_goto (tgt := 27) X.1 X.2.1 dX12_takes_18 (by decide) ?_
    refine lv_istore (lv' := [(4, .int 1), (0, .ref o), (1, .int (nI μ)), (2, .int (nI υ)), (3, .int (nI β))]) X.1 X.2.1 dX12_takes_27 hl (by decide) rfl (fun ls hl => ?_)
    refine lv_iload X.1 X.2.1 dX12_takes_29 (lv_at hl 0 rfl) ?_
    refine lv_aload_n X.1 X.2.1 dX12_takes_31 rfl (lv_at hl 1 rfl) ?_
    refine m_getr 1 1 X hK hP hM hin rfl (by decide) k9 rfl dX12_takes_32 (by decide) ?_
    refine lv_iconst (v := 4) X.1 X.2.1 dX12_takes_35 (by decide) ?_
    refine lv_iload_n X.1 X.2.1 dX12_takes_36 rfl (lv_at hl 2 rfl) ?_
    refine lv_iadd X.1 X.2.1 dX12_takes_37 ?_
    refine m_ald 1 (4 + μ) 883 X hK hP hM rfl (gIx_of (gn_add (show (4 : Int32) = nI 4 from rfl) (Eq.refl (nI μ))) (by omega) (by omega)) dX12_takes_38 (show N1 1 (4 + μ) = nI (σ (4 + μ)) from ((hkN1 1 (4 + μ) (by unfold lS; omega)).trans (hσ (4 + μ) (by omega) (by omega)))) ?_
    refine lv_bipush (v := 10) X.1 X.2.1 dX12_takes_39 (by decide) ?_
    refine lv_idiv X.1 X.2.1 dX12_takes_41 (by decide) ?_
    refine lv_iadd X.1 X.2.1 dX12_takes_42 ?_
    refine lv_istore (lv' := [(4, .int (1 + ((nI (σ (4 + μ))) / 10))), (0, .ref o), (1, .int (nI μ)), (2, .int (nI υ)), (3, .int (nI β))]) X.1 X.2.1 dX12_takes_43 hl (by decide) rfl (fun ls hl => ?_)
    refine lv_iload X.1 X.2.1 dX12_takes_45 (lv_at hl 0 rfl) ?_
    refine lv_aload_n X.1 X.2.1 dX12_takes_47 rfl (lv_at hl 1 rfl) ?_
    refine lv_iload_n X.1 X.2.1 dX12_takes_48 rfl (lv_at hl 2 rfl) ?_
    refine lv_iconst (v := 3) X.1 X.2.1 dX12_takes_49 (by decide) ?_
    refine lv_bipush (v := 6) X.1 X.2.1 dX12_takes_50 (by decide) ?_
    refine g_run_i (g_runV (k := 14) [.int (nI μ), .int 3, .int 6] X hK hP hS hC hB (c_isOf hM hσN1 (μ := μ) (k1 := 3) (k2 := 6) (by omega) (by omega) (by omega) (by omega)) (cwV 3 X.2.2.2.2 gX12_takes_X12_isOf rfl rfl rfl (by decide +kernel) ⟨Nat.le_of_ble_eq_true rfl, Nat.le_of_ble_eq_true rfl⟩) (hM.1 0 _ rfl) rfl rfl hl.1 rfl (Nat.le_of_ble_eq_true rfl) dX12_takes_52 (by exact ⟨Nat.zero_le _, Nat.zero_le _⟩)) hS (fun r u H locs hq hP hS => ?_)
    obtain ⟨rfl, rfl⟩ := hq
    have hP : gP D cy B z T (gI o 12 N1 I0) R H := hP
    refine lv_if_eq (tgt := 82) X.1 X.2.1 dX12_takes_55 (by decide) (fun c55 => ?_) (fun c55 => ?_)
    · refine lv_iconst (v := 0) X.1 X.2.1 dX12_takes_82 (by decide) ?_
      refine lv_iadd X.1 X.2.1 dX12_takes_83 ?_
      refine lv_istore (lv' := [(4, .int ((1 + ((nI (σ (4 + μ))) / 10)) + 0)), (0, .ref o), (1, .int (nI μ)), (2, .int (nI υ)), (3, .int (nI β))]) X.1 X.2.1 dX12_takes_84 hl (by decide) rfl (fun ls hl => ?_)
      refine lv_iload X.1 X.2.1 dX12_takes_86 (lv_at hl 0 rfl) ?_
      refine lv_aload_n X.1 X.2.1 dX12_takes_88 rfl (lv_at hl 1 rfl) ?_
      refine lv_iload_n X.1 X.2.1 dX12_takes_89 rfl (lv_at hl 2 rfl) ?_
      refine lv_iload_n X.1 X.2.1 dX12_takes_90 rfl (lv_at hl 3 rfl) ?_
      refine g_run_i (g_runV (k := 14) [.int (nI μ), .int (nI υ)] X hK hP hS hC hB (c_isNarrow hM hσN1 (μ := μ) (υ := υ) (by omega) (by omega) (by omega) (by omega) (by omega)) (cwV 2 X.2.2.2.2 gX12_takes_X12_isNarrow rfl rfl rfl (by decide +kernel) ⟨Nat.le_of_ble_eq_true rfl, Nat.le_of_ble_eq_true rfl⟩) (hM.1 0 _ rfl) rfl rfl hl.1 rfl (Nat.le_of_ble_eq_true rfl) dX12_takes_91 (by exact ⟨Nat.zero_le _, Nat.zero_le _⟩)) hS (fun r u H locs hq hP hS => ?_)
      obtain ⟨rfl, rfl⟩ := hq
      have hP : gP D cy B z T (gI o 12 N1 I0) R H := hP
      refine lv_if_eq (tgt := 102) X.1 X.2.1 dX12_takes_94 (by decide) (fun c94 => ?_) (fun c94 => ?_)
      · refine lv_iconst (v := 0) X.1 X.2.1 dX12_takes_102 (by decide) ?_
        refine lv_iadd X.1 X.2.1 dX12_takes_103 ?_
        exact g_iret N1 X hr hlk hK hP hS dX12_takes_104 ⟨((gn_add (gn_add (gn_add (show (1 : Int32) = nI 1 from rfl) (gn_div (Eq.refl (nI (σ (4 + μ)))) (show (10 : Int32) = nI 10 from rfl) (by omega) (by omega) (by omega))) (show (0 : Int32) = nI 0 from rfl)) (show (0 : Int32) = nI 0 from rfl))).trans (congrArg nI (by unfold sTk; rw [if_neg (fun q => gt_0 c55 q.1), if_neg (gt_0 c94)]; omega)), τN1, hτaN1, hτbN1, hcaN1, hkN1⟩
      · refine lv_bipush (v := 20) X.1 X.2.1 dX12_takes_97 (by decide) ?_
        refine lv_goto (tgt := 103) X.1 X.2.1 dX12_takes_99 (by decide) ?_
        refine lv_iadd X.1 X.2.1 dX12_takes_103 ?_
        exact g_iret N1 X hr hlk hK hP hS dX12_takes_104 ⟨((gn_add (gn_add (gn_add (show (1 : Int32) = nI 1 from rfl) (gn_div (Eq.refl (nI (σ (4 + μ)))) (show (10 : Int32) = nI 10 from rfl) (by omega) (by omega) (by omega))) (show (0 : Int32) = nI 0 from rfl)) (show (20 : Int32) = nI 20 from rfl))).trans (congrArg nI (by unfold sTk; rw [if_neg (fun q => gt_0 c55 q.1), if_pos (gt_1 c94)]; omega)), τN1, hτaN1, hτbN1, hcaN1, hkN1⟩
    · refine lv_aload_n X.1 X.2.1 dX12_takes_58 rfl (lv_at hl 1 rfl) ?_
      refine m_getr 1 1 X hK hP hM hin rfl (by decide) k9 rfl dX12_takes_59 (by decide) ?_
      refine lv_iconst (v := 4) X.1 X.2.1 dX12_takes_62 (by decide) ?_
      refine lv_iload_n X.1 X.2.1 dX12_takes_63 rfl (lv_at hl 2 rfl) ?_
      refine lv_iadd X.1 X.2.1 dX12_takes_64 ?_
      refine m_ald 1 (4 + μ) 883 X hK hP hM rfl (gIx_of (gn_add (show (4 : Int32) = nI 4 from rfl) (Eq.refl (nI μ))) (by omega) (by omega)) dX12_takes_65 (show N1 1 (4 + μ) = nI (σ (4 + μ)) from ((hkN1 1 (4 + μ) (by unfold lS; omega)).trans (hσ (4 + μ) (by omega) (by omega)))) ?_
      refine lv_aload_n X.1 X.2.1 dX12_takes_66 rfl (lv_at hl 1 rfl) ?_
      refine m_getr 1 1 X hK hP hM hin rfl (by decide) k9 rfl dX12_takes_67 (by decide) ?_
      refine lv_bipush (v := 48) X.1 X.2.1 dX12_takes_70 (by decide) ?_
      refine lv_iload_n X.1 X.2.1 dX12_takes_72 rfl (lv_at hl 2 rfl) ?_
      refine lv_iadd X.1 X.2.1 dX12_takes_73 ?_
      refine m_ald 1 (48 + μ) 883 X hK hP hM rfl (gIx_of (gn_add (show (48 : Int32) = nI 48 from rfl) (Eq.refl (nI μ))) (by omega) (by omega)) dX12_takes_74 (show N1 1 (48 + μ) = nI (σ (48 + μ)) from ((hkN1 1 (48 + μ) (by unfold lS; omega)).trans (hσ (48 + μ) (by omega) (by omega)))) ?_
      refine lv_icmp_le (tgt := 82) X.1 X.2.1 dX12_takes_75 (by decide) (fun c75 => ?_) (fun c75 => ?_)
      · have n75 : σ (4 + μ) ≤ σ (48 + μ) := gq_le c75 (Eq.refl (nI (σ (4 + μ)))) (Eq.refl (nI (σ (48 + μ)))) (by omega) (by omega)
        refine lv_iconst (v := 0) X.1 X.2.1 dX12_takes_82 (by decide) ?_
        refine lv_iadd X.1 X.2.1 dX12_takes_83 ?_
        refine lv_istore (lv' := [(4, .int ((1 + ((nI (σ (4 + μ))) / 10)) + 0)), (0, .ref o), (1, .int (nI μ)), (2, .int (nI υ)), (3, .int (nI β))]) X.1 X.2.1 dX12_takes_84 hl (by decide) rfl (fun ls hl => ?_)
        refine lv_iload X.1 X.2.1 dX12_takes_86 (lv_at hl 0 rfl) ?_
        refine lv_aload_n X.1 X.2.1 dX12_takes_88 rfl (lv_at hl 1 rfl) ?_
        refine lv_iload_n X.1 X.2.1 dX12_takes_89 rfl (lv_at hl 2 rfl) ?_
        refine lv_iload_n X.1 X.2.1 dX12_takes_90 rfl (lv_at hl 3 rfl) ?_
        refine g_run_i (g_runV (k := 14) [.int (nI μ), .int (nI υ)] X hK hP hS hC hB (c_isNarrow hM hσN1 (μ := μ) (υ := υ) (by omega) (by omega) (by omega) (by omega) (by omega)) (cwV 2 X.2.2.2.2 gX12_takes_X12_isNarrow rfl rfl rfl (by decide +kernel) ⟨Nat.le_of_ble_eq_true rfl, Nat.le_of_ble_eq_true rfl⟩) (hM.1 0 _ rfl) rfl rfl hl.1 rfl (Nat.le_of_ble_eq_true rfl) dX12_takes_91 (by exact ⟨Nat.zero_le _, Nat.zero_le _⟩)) hS (fun r u H locs hq hP hS => ?_)
        obtain ⟨rfl, rfl⟩ := hq
        have hP : gP D cy B z T (gI o 12 N1 I0) R H := hP
        refine lv_if_eq (tgt := 102) X.1 X.2.1 dX12_takes_94 (by decide) (fun c94 => ?_) (fun c94 => ?_)
        · refine lv_iconst (v := 0) X.1 X.2.1 dX12_takes_102 (by decide) ?_
          refine lv_iadd X.1 X.2.1 dX12_takes_103 ?_
          exact g_iret N1 X hr hlk hK hP hS dX12_takes_104 ⟨((gn_add (gn_add (gn_add (show (1 : Int32) = nI 1 from rfl) (gn_div (Eq.refl (nI (σ (4 + μ)))) (show (10 : Int32) = nI 10 from rfl) (by omega) (by omega) (by omega))) (show (0 : Int32) = nI 0 from rfl)) (show (0 : Int32) = nI 0 from rfl))).trans (congrArg nI (by unfold sTk; rw [if_neg (fun q => absurd q.2 (by omega)), if_neg (gt_0 c94)]; omega)), τN1, hτaN1, hτbN1, hcaN1, hkN1⟩
        · refine lv_bipush (v := 20) X.1 X.2.1 dX12_takes_97 (by decide) ?_
          refine lv_goto (tgt := 103) X.1 X.2.1 dX12_takes_99 (by decide) ?_
          refine lv_iadd X.1 X.2.1 dX12_takes_103 ?_
          exact g_iret N1 X hr hlk hK hP hS dX12_takes_104 ⟨((gn_add (gn_add (gn_add (show (1 : Int32) = nI 1 from rfl) (gn_div (Eq.refl (nI (σ (4 + μ)))) (show (10 : Int32) = nI 10 from rfl) (by omega) (by omega) (by omega))) (show (0 : Int32) = nI 0 from rfl)) (show (20 : Int32) = nI 20 from rfl))).trans (congrArg nI (by unfold sTk; rw [if_neg (fun q => absurd q.2 (by omega)), if_pos (gt_1 c94)]; omega)), τN1, hτaN1, hτbN1, hcaN1, hkN1⟩
      · have n75 : σ (48 + μ) < σ (4 + μ) := gq_nle c75 (Eq.refl (nI (σ (4 + μ)))) (Eq.refl (nI (σ (48 + μ)))) (by omega) (by omega)
        refine lv_iconst (v := 1) X.1 X.2.1 dX12_takes_78 (by decide) ?_
        refine lv_goto (tgt := 83) X.1 X.2.1 dX12_takes_79 (by decide) ?_
        refine lv_iadd X.1 X.2.1 dX12_takes_83 ?_
        refine lv_istore (lv' := [(4, .int ((1 + ((nI (σ (4 + μ))) / 10)) + 1)), (0, .ref o), (1, .int (nI μ)), (2, .int (nI υ)), (3, .int (nI β))]) X.1 X.2.1 dX12_takes_84 hl (by decide) rfl (fun ls hl => ?_)
        refine lv_iload X.1 X.2.1 dX12_takes_86 (lv_at hl 0 rfl) ?_
        refine lv_aload_n X.1 X.2.1 dX12_takes_88 rfl (lv_at hl 1 rfl) ?_
        refine lv_iload_n X.1 X.2.1 dX12_takes_89 rfl (lv_at hl 2 rfl) ?_
        refine lv_iload_n X.1 X.2.1 dX12_takes_90 rfl (lv_at hl 3 rfl) ?_
        refine g_run_i (g_runV (k := 14) [.int (nI μ), .int (nI υ)] X hK hP hS hC hB (c_isNarrow hM hσN1 (μ := μ) (υ := υ) (by omega) (by omega) (by omega) (by omega) (by omega)) (cwV 2 X.2.2.2.2 gX12_takes_X12_isNarrow rfl rfl rfl (by decide +kernel) ⟨Nat.le_of_ble_eq_true rfl, Nat.le_of_ble_eq_true rfl⟩) (hM.1 0 _ rfl) rfl rfl hl.1 rfl (Nat.le_of_ble_eq_true rfl) dX12_takes_91 (by exact ⟨Nat.zero_le _, Nat.zero_le _⟩)) hS (fun r u H locs hq hP hS => ?_)
        obtain ⟨rfl, rfl⟩ := hq
        have hP : gP D cy B z T (gI o 12 N1 I0) R H := hP
        refine lv_if_eq (tgt := 102) X.1 X.2.1 dX12_takes_94 (by decide) (fun c94 => ?_) (fun c94 => ?_)
        · refine lv_iconst (v := 0) X.1 X.2.1 dX12_takes_102 (by decide) ?_
          refine lv_iadd X.1 X.2.1 dX12_takes_103 ?_
          exact g_iret N1 X hr hlk hK hP hS dX12_takes_104 ⟨((gn_add (gn_add (gn_add (show (1 : Int32) = nI 1 from rfl) (gn_div (Eq.refl (nI (σ (4 + μ)))) (show (10 : Int32) = nI 10 from rfl) (by omega) (by omega) (by omega))) (show (1 : Int32) = nI 1 from rfl)) (show (0 : Int32) = nI 0 from rfl))).trans (congrArg nI (by unfold sTk; rw [if_pos ⟨gt_1 c55, by omega⟩, if_neg (gt_0 c94)]; omega)), τN1, hτaN1, hτbN1, hcaN1, hkN1⟩
        · refine lv_bipush (v := 20) X.1 X.2.1 dX12_takes_97 (by decide) ?_
          refine lv_goto (tgt := 103) X.1 X.2.1 dX12_takes_99 (by decide) ?_
          refine lv_iadd X.1 X.2.1 dX12_takes_103 ?_
          exact g_iret N1 X hr hlk hK hP hS dX12_takes_104 ⟨((gn_add (gn_add (gn_add (show (1 : Int32) = nI 1 from rfl) (gn_div (Eq.refl (nI (σ (4 + μ)))) (show (10 : Int32) = nI 10 from rfl) (by omega) (by omega) (by omega))) (show (1 : Int32) = nI 1 from rfl)) (show (20 : Int32) = nI 20 from rfl))).trans (congrArg nI (by unfold sTk; rw [if_pos ⟨gt_1 c55, by omega⟩, if_pos (gt_1 c94)]; omega)), τN1, hτaN1, hτbN1, hcaN1, hkN1⟩

set_option maxHeartbeats 4000000 in
set_option maxRecDepth 100000 in
/-- lostIn -/
theorem c_lostIn (hM : gMod o T R) (hσ : mS M σ) (hs : mSite M fl ti sh) (hb : sBd σ K) {μ υ β τ ms : Nat} (hμ : μ < 4) (h38 : μ < σ 38) (hυ : υ < 10) (hβ : β ≤ 20) (hca : mCache M fl σ τ ms) (hτ : τ + 1 < 2 ^ 30) : Met l yX12_lostIn wsX12_lostIn ({ frames := 3, cells := 0, slots := 0, locals := 77 }) (mPre s0 D cy B o z T R I0 M [.int (nI μ), .int (nI υ), .int (nI β)]) (mQi D cy B o z T R I0 (fun r u => r = nI (sLs fl σ μ υ β) ∧ ∃ τ', τ ≤ τ' ∧ τ' ≤ τ + 1 ∧ mCache u fl σ τ' μ ∧ mSame lS M u)) 0 0 (gA B) := by
  refine g_met (maxL := 5) (ret := (some .int)) (by decide) rfl (Nat.le_of_ble_eq_true rfl) (fun p e s m args below meth c ls X hr hlk hnm hK hP hC hS hl => ?_)
  have hl : lv_has ls 5 [(0, .ref o), (1, .int (nI μ)), (2, .int (nI υ)), (3, .int (nI β))] := hl
  have hP : gP D cy B z T (gI o 12 M I0) R s.heap := hP
  have hB : B ≤ s.heap.size := by rw [hP.1]; exact hP.2.1
  have hin : ∀ w ∈ wsX120, w ∈ wsX12_lostIn := fun _ h => List.mem_cons_of_mem _ (List.mem_append_right _ h)
  have k9 : Cond.fieldLink RX12 9 "BarrowPlankModel" "s" "[I" ∈ wsX12_lostIn := by decide +kernel
  have k161 : Cond.fieldLink RX12 161 "BarrowPlankModel" "losing" "I" ∈ wsX12_lostIn := by decide +kernel
  have b44 : σ (44 + μ) ≤ 6 := (hb.2.2.2.2.2.2.2.2.1 μ hμ).1
  have b48 : σ (48 + μ) ≤ 9 := (hb.2.2.2.2.2.2.2.2.1 μ hμ).2.1
  have b52 : σ (52 + μ) ≤ 20 := (hb.2.2.2.2.2.2.2.2.1 μ hμ).2.2
  have b4 : σ (4 + μ) ≤ 99 := hb.2.2.1 μ hμ
  have b0 : σ 0 ≤ 999 := hb.1
  have b8 : σ (8 + υ) ≤ 9 := hb.2.2.2.1 υ (by omega)
  have b18 : σ (18 + υ) ≤ 9 := by have h := hb.2.2.2.1 (10 + υ) (by omega); rw [← Nat.add_assoc] at h; exact h
  have b28 : σ (28 + υ) ≤ 9 := by have h := hb.2.2.2.1 (20 + υ) (by omega); rw [← Nat.add_assoc] at h; exact h
  refine lv_aload_n X.1 X.2.1 dX12_lostIn_0 rfl (lv_at hl 0 rfl) ?_
  refine lv_iload_n X.1 X.2.1 dX12_lostIn_1 rfl (lv_at hl 1 rfl) ?_
  refine lv_iload_n X.1 X.2.1 dX12_lostIn_2 rfl (lv_at hl 2 rfl) ?_
  refine lv_iload_n X.1 X.2.1 dX12_lostIn_3 rfl (lv_at hl 3 rfl) ?_
  refine g_run_v (g_runV (k := 14) [.int (nI μ), .int (nI υ), .int (nI β)] X hK hP hS hC hB (c_looks hM hσ hs hb hμ h38 hυ hβ hca (by omega)) (cwV 3 X.2.2.2.2 gX12_lostIn_X12_looks rfl rfl rfl (by decide +kernel) ⟨Nat.le_of_ble_eq_true rfl, Nat.le_of_ble_eq_true rfl⟩) (hM.1 0 _ rfl) rfl rfl hl.1 rfl (Nat.le_of_ble_eq_true rfl) dX12_lostIn_4 (by exact ⟨Nat.zero_le _, Nat.zero_le _⟩)) hS (fun u H locs hq hP hS => ?_)
  obtain ⟨τN1, hτaN1, hτbN1, hcaN1, h12N1, h13N1, hkN1⟩ := hq
  generalize u = N1 at hP hcaN1 h12N1 h13N1 hkN1
  have hP : gP D cy B z T (gI o 12 N1 I0) R H := hP
  have hσN1 : mS N1 σ := mS_c hσ (fun i => hkN1 1 i (by unfold lS; omega))
  have hsN1 : mSite N1 fl ti sh := mSite_c hs (fun i _ _ => hkN1 1 i (by unfold lS; omega))
  have hxN1 := sX_le hs.1 hs.2.1 (fF σ μ υ β)
  refine lv_aload_n X.1 X.2.1 dX12_lostIn_7 rfl (lv_at hl 0 rfl) ?_
  refine m_geti 13 X hK hP hM hin rfl (by decide) k161 rfl dX12_lostIn_8 (show N1 0 13 = nI ((sX fl (fF σ μ υ β)).2.2) from h13N1) ?_
  refine lv_istore (lv' := [(4, .int (nI ((sX fl (fF σ μ υ β)).2.2))), (0, .ref o), (1, .int (nI μ)), (2, .int (nI υ)), (3, .int (nI β))]) X.1 X.2.1 dX12_lostIn_11 hl (by decide) rfl (fun ls hl => ?_)
  refine lv_iload X.1 X.2.1 dX12_lostIn_13 (lv_at hl 0 rfl) ?_
  refine lv_aload_n X.1 X.2.1 dX12_lostIn_15 rfl (lv_at hl 1 rfl) ?_
  refine m_getr 1 1 X hK hP hM hin rfl (by decide) k9 rfl dX12_lostIn_16 (by decide) ?_
  refine lv_bipush (v := 44) X.1 X.2.1 dX12_lostIn_19 (by decide) ?_
  refine lv_iload_n X.1 X.2.1 dX12_lostIn_21 rfl (lv_at hl 2 rfl) ?_
  refine lv_iadd X.1 X.2.1 dX12_lostIn_22 ?_
  refine m_ald 1 (44 + μ) 883 X hK hP hM rfl (gIx_of (gn_add (show (44 : Int32) = nI 44 from rfl) (Eq.refl (nI μ))) (by omega) (by omega)) dX12_lostIn_23 (show N1 1 (44 + μ) = nI (σ (44 + μ)) from ((hkN1 1 (44 + μ) (by unfold lS; omega)).trans (hσ (44 + μ) (by omega) (by omega)))) ?_
  refine lv_iconst (v := 4) X.1 X.2.1 dX12_lostIn_24 (by decide) ?_
  refine lv_icmp_ne (tgt := 52) X.1 X.2.1 dX12_lostIn_25 (by decide) (fun c25 => ?_) (fun c25 => ?_)
  · have n25 : ¬ σ (44 + μ) = 4 := gq_ne c25 (Eq.refl (nI (σ (44 + μ)))) (show (4 : Int32) = nI 4 from rfl) (by omega) (by omega)
    refine lv_iconst (v := 0) X.1 X.2.1 dX12_lostIn_52 (by decide) ?_
    refine lv_iadd X.1 X.2.1 dX12_lostIn_53 ?_
    refine lv_istore (lv' := [(4, .int ((nI ((sX fl (fF σ μ υ β)).2.2)) + 0)), (0, .ref o), (1, .int (nI μ)), (2, .int (nI υ)), (3, .int (nI β))]) X.1 X.2.1 dX12_lostIn_54 hl (by decide) rfl (fun ls hl => ?_)
    refine lv_iload X.1 X.2.1 dX12_lostIn_56 (lv_at hl 0 rfl) ?_
    refine lv_aload_n X.1 X.2.1 dX12_lostIn_58 rfl (lv_at hl 1 rfl) ?_
    refine m_getr 1 1 X hK hP hM hin rfl (by decide) k9 rfl dX12_lostIn_59 (by decide) ?_
    refine lv_bipush (v := 44) X.1 X.2.1 dX12_lostIn_62 (by decide) ?_
    refine lv_iload_n X.1 X.2.1 dX12_lostIn_64 rfl (lv_at hl 2 rfl) ?_
    refine lv_iadd X.1 X.2.1 dX12_lostIn_65 ?_
    refine m_ald 1 (44 + μ) 883 X hK hP hM rfl (gIx_of (gn_add (show (44 : Int32) = nI 44 from rfl) (Eq.refl (nI μ))) (by omega) (by omega)) dX12_lostIn_66 (show N1 1 (44 + μ) = nI (σ (44 + μ)) from ((hkN1 1 (44 + μ) (by unfold lS; omega)).trans (hσ (44 + μ) (by omega) (by omega)))) ?_
    refine lv_iconst (v := 5) X.1 X.2.1 dX12_lostIn_67 (by decide) ?_
    refine lv_icmp_ne (tgt := 88) X.1 X.2.1 dX12_lostIn_68 (by decide) (fun c68 => ?_) (fun c68 => ?_)
    · have n68 : ¬ σ (44 + μ) = 5 := gq_ne c68 (Eq.refl (nI (σ (44 + μ)))) (show (5 : Int32) = nI 5 from rfl) (by omega) (by omega)
      refine lv_iconst (v := 0) X.1 X.2.1 dX12_lostIn_88 (by decide) ?_
      refine lv_iadd X.1 X.2.1 dX12_lostIn_89 ?_
      refine lv_istore (lv' := [(4, .int (((nI ((sX fl (fF σ μ υ β)).2.2)) + 0) + 0)), (0, .ref o), (1, .int (nI μ)), (2, .int (nI υ)), (3, .int (nI β))]) X.1 X.2.1 dX12_lostIn_90 hl (by decide) rfl (fun ls hl => ?_)
      refine lv_iload X.1 X.2.1 dX12_lostIn_92 (lv_at hl 0 rfl) ?_
      refine lv_iload_n X.1 X.2.1 dX12_lostIn_94 rfl (lv_at hl 4 rfl) ?_
      refine lv_icmp_le (tgt := 102) X.1 X.2.1 dX12_lostIn_95 (by decide) (fun c95 => ?_) (fun c95 => ?_)
      · have n95 : (((sX fl (fF σ μ υ β)).2.2 + 0) + 0) ≤ β := gq_le c95 (gn_add (gn_add (Eq.refl (nI ((sX fl (fF σ μ υ β)).2.2))) (show (0 : Int32) = nI 0 from rfl)) (show (0 : Int32) = nI 0 from rfl)) (Eq.refl (nI β)) (by omega) (by omega)
        refine lv_iload X.1 X.2.1 dX12_lostIn_102 (lv_at hl 0 rfl) ?_
        exact g_iret N1 X hr hlk hK hP hS dX12_lostIn_104 ⟨((gn_add (gn_add (Eq.refl (nI ((sX fl (fF σ μ υ β)).2.2))) (show (0 : Int32) = nI 0 from rfl)) (show (0 : Int32) = nI 0 from rfl))).trans (congrArg nI (by unfold sLs; rw [if_neg (fun q => n25 q.1), if_neg (fun q => n68 q.1)]; omega)), τN1, hτaN1, hτbN1, hcaN1, hkN1⟩
      · have n95 : β < (((sX fl (fF σ μ υ β)).2.2 + 0) + 0) := gq_nle c95 (gn_add (gn_add (Eq.refl (nI ((sX fl (fF σ μ υ β)).2.2))) (show (0 : Int32) = nI 0 from rfl)) (show (0 : Int32) = nI 0 from rfl)) (Eq.refl (nI β)) (by omega) (by omega)
        refine lv_iload_n X.1 X.2.1 dX12_lostIn_98 rfl (lv_at hl 4 rfl) ?_
        refine lv_goto (tgt := 104) X.1 X.2.1 dX12_lostIn_99 (by decide) ?_
        exact g_iret N1 X hr hlk hK hP hS dX12_lostIn_104 ⟨((Eq.refl (nI β))).trans (congrArg nI (by unfold sLs; rw [if_neg (fun q => n25 q.1), if_neg (fun q => n68 q.1)]; omega)), τN1, hτaN1, hτbN1, hcaN1, hkN1⟩
    · have n68 : σ (44 + μ) = 5 := gq_eq c68 (Eq.refl (nI (σ (44 + μ)))) (show (5 : Int32) = nI 5 from rfl) (by omega) (by omega)
      refine lv_iload_n X.1 X.2.1 dX12_lostIn_71 rfl (lv_at hl 3 rfl) ?_
      refine lv_aload_n X.1 X.2.1 dX12_lostIn_72 rfl (lv_at hl 1 rfl) ?_
      refine m_getr 1 1 X hK hP hM hin rfl (by decide) k9 rfl dX12_lostIn_73 (by decide) ?_
      refine lv_bipush (v := 48) X.1 X.2.1 dX12_lostIn_76 (by decide) ?_
      refine lv_iload_n X.1 X.2.1 dX12_lostIn_78 rfl (lv_at hl 2 rfl) ?_
      refine lv_iadd X.1 X.2.1 dX12_lostIn_79 ?_
      refine m_ald 1 (48 + μ) 883 X hK hP hM rfl (gIx_of (gn_add (show (48 : Int32) = nI 48 from rfl) (Eq.refl (nI μ))) (by omega) (by omega)) dX12_lostIn_80 (show N1 1 (48 + μ) = nI (σ (48 + μ)) from ((hkN1 1 (48 + μ) (by unfold lS; omega)).trans (hσ (48 + μ) (by omega) (by omega)))) ?_
      refine lv_icmp_ne (tgt := 88) X.1 X.2.1 dX12_lostIn_81 (by decide) (fun c81 => ?_) (fun c81 => ?_)
      · have n81 : ¬ υ = σ (48 + μ) := gq_ne c81 (Eq.refl (nI υ)) (Eq.refl (nI (σ (48 + μ)))) (by omega) (by omega)
        refine lv_iconst (v := 0) X.1 X.2.1 dX12_lostIn_88 (by decide) ?_
        refine lv_iadd X.1 X.2.1 dX12_lostIn_89 ?_
        refine lv_istore (lv' := [(4, .int (((nI ((sX fl (fF σ μ υ β)).2.2)) + 0) + 0)), (0, .ref o), (1, .int (nI μ)), (2, .int (nI υ)), (3, .int (nI β))]) X.1 X.2.1 dX12_lostIn_90 hl (by decide) rfl (fun ls hl => ?_)
        refine lv_iload X.1 X.2.1 dX12_lostIn_92 (lv_at hl 0 rfl) ?_
        refine lv_iload_n X.1 X.2.1 dX12_lostIn_94 rfl (lv_at hl 4 rfl) ?_
        refine lv_icmp_le (tgt := 102) X.1 X.2.1 dX12_lostIn_95 (by decide) (fun c95 => ?_) (fun c95 => ?_)
        · have n95 : (((sX fl (fF σ μ υ β)).2.2 + 0) + 0) ≤ β := gq_le c95 (gn_add (gn_add (Eq.refl (nI ((sX fl (fF σ μ υ β)).2.2))) (show (0 : Int32) = nI 0 from rfl)) (show (0 : Int32) = nI 0 from rfl)) (Eq.refl (nI β)) (by omega) (by omega)
          refine lv_iload X.1 X.2.1 dX12_lostIn_102 (lv_at hl 0 rfl) ?_
          exact g_iret N1 X hr hlk hK hP hS dX12_lostIn_104 ⟨((gn_add (gn_add (Eq.refl (nI ((sX fl (fF σ μ υ β)).2.2))) (show (0 : Int32) = nI 0 from rfl)) (show (0 : Int32) = nI 0 from rfl))).trans (congrArg nI (by unfold sLs; rw [if_neg (fun q => n25 q.1), if_neg (fun q => n81 q.2)]; omega)), τN1, hτaN1, hτbN1, hcaN1, hkN1⟩
        · have n95 : β < (((sX fl (fF σ μ υ β)).2.2 + 0) + 0) := gq_nle c95 (gn_add (gn_add (Eq.refl (nI ((sX fl (fF σ μ υ β)).2.2))) (show (0 : Int32) = nI 0 from rfl)) (show (0 : Int32) = nI 0 from rfl)) (Eq.refl (nI β)) (by omega) (by omega)
          refine lv_iload_n X.1 X.2.1 dX12_lostIn_98 rfl (lv_at hl 4 rfl) ?_
          refine lv_goto (tgt := 104) X.1 X.2.1 dX12_lostIn_99 (by decide) ?_
          exact g_iret N1 X hr hlk hK hP hS dX12_lostIn_104 ⟨((Eq.refl (nI β))).trans (congrArg nI (by unfold sLs; rw [if_neg (fun q => n25 q.1), if_neg (fun q => n81 q.2)]; omega)), τN1, hτaN1, hτbN1, hcaN1, hkN1⟩
      · have n81 : υ = σ (48 + μ) := gq_eq c81 (Eq.refl (nI υ)) (Eq.refl (nI (σ (48 + μ)))) (by omega) (by omega)
        refine lv_iconst (v := 1) X.1 X.2.1 dX12_lostIn_84 (by decide) ?_
        refine lv_goto (tgt := 89) X.1 X.2.1 dX12_lostIn_85 (by decide) ?_
        refine lv_iadd X.1 X.2.1 dX12_lostIn_89 ?_
        refine lv_istore (lv' := [(4, .int (((nI ((sX fl (fF σ μ υ β)).2.2)) + 0) + 1)), (0, .ref o), (1, .int (nI μ)), (2, .int (nI υ)), (3, .int (nI β))]) X.1 X.2.1 dX12_lostIn_90 hl (by decide) rfl (fun ls hl => ?_)
        refine lv_iload X.1 X.2.1 dX12_lostIn_92 (lv_at hl 0 rfl) ?_
        refine lv_iload_n X.1 X.2.1 dX12_lostIn_94 rfl (lv_at hl 4 rfl) ?_
        refine lv_icmp_le (tgt := 102) X.1 X.2.1 dX12_lostIn_95 (by decide) (fun c95 => ?_) (fun c95 => ?_)
        · have n95 : (((sX fl (fF σ μ υ β)).2.2 + 0) + 1) ≤ β := gq_le c95 (gn_add (gn_add (Eq.refl (nI ((sX fl (fF σ μ υ β)).2.2))) (show (0 : Int32) = nI 0 from rfl)) (show (1 : Int32) = nI 1 from rfl)) (Eq.refl (nI β)) (by omega) (by omega)
          refine lv_iload X.1 X.2.1 dX12_lostIn_102 (lv_at hl 0 rfl) ?_
          exact g_iret N1 X hr hlk hK hP hS dX12_lostIn_104 ⟨((gn_add (gn_add (Eq.refl (nI ((sX fl (fF σ μ υ β)).2.2))) (show (0 : Int32) = nI 0 from rfl)) (show (1 : Int32) = nI 1 from rfl))).trans (congrArg nI (by unfold sLs; rw [if_neg (fun q => n25 q.1), if_pos ⟨n68, n81⟩]; omega)), τN1, hτaN1, hτbN1, hcaN1, hkN1⟩
        · have n95 : β < (((sX fl (fF σ μ υ β)).2.2 + 0) + 1) := gq_nle c95 (gn_add (gn_add (Eq.refl (nI ((sX fl (fF σ μ υ β)).2.2))) (show (0 : Int32) = nI 0 from rfl)) (show (1 : Int32) = nI 1 from rfl)) (Eq.refl (nI β)) (by omega) (by omega)
          refine lv_iload_n X.1 X.2.1 dX12_lostIn_98 rfl (lv_at hl 4 rfl) ?_
          refine lv_goto (tgt := 104) X.1 X.2.1 dX12_lostIn_99 (by decide) ?_
          exact g_iret N1 X hr hlk hK hP hS dX12_lostIn_104 ⟨((Eq.refl (nI β))).trans (congrArg nI (by unfold sLs; rw [if_neg (fun q => n25 q.1), if_pos ⟨n68, n81⟩]; omega)), τN1, hτaN1, hτbN1, hcaN1, hkN1⟩
  · have n25 : σ (44 + μ) = 4 := gq_eq c25 (Eq.refl (nI (σ (44 + μ)))) (show (4 : Int32) = nI 4 from rfl) (by omega) (by omega)
    refine lv_aload_n X.1 X.2.1 dX12_lostIn_28 rfl (lv_at hl 1 rfl) ?_
    refine m_getr 1 1 X hK hP hM hin rfl (by decide) k9 rfl dX12_lostIn_29 (by decide) ?_
    refine lv_bipush (v := 28) X.1 X.2.1 dX12_lostIn_32 (by decide) ?_
    refine lv_iload_n X.1 X.2.1 dX12_lostIn_34 rfl (lv_at hl 3 rfl) ?_
    refine lv_iadd X.1 X.2.1 dX12_lostIn_35 ?_
    refine m_ald 1 (28 + υ) 883 X hK hP hM rfl (gIx_of (gn_add (show (28 : Int32) = nI 28 from rfl) (Eq.refl (nI υ))) (by omega) (by omega)) dX12_lostIn_36 (show N1 1 (28 + υ) = nI (σ (28 + υ)) from ((hkN1 1 (28 + υ) (by unfold lS; omega)).trans (hσ (28 + υ) (by omega) (by omega)))) ?_
    refine lv_if_le (tgt := 52) X.1 X.2.1 dX12_lostIn_37 (by decide) (fun c37 => ?_) (fun c37 => ?_)
    · have n37 : σ (28 + υ) ≤ 0 := gq_le c37 (Eq.refl (nI (σ (28 + υ)))) (show (0 : Int32) = nI 0 from rfl) (by omega) (by omega)
      refine lv_iconst (v := 0) X.1 X.2.1 dX12_lostIn_52 (by decide) ?_
      refine lv_iadd X.1 X.2.1 dX12_lostIn_53 ?_
      refine lv_istore (lv' := [(4, .int ((nI ((sX fl (fF σ μ υ β)).2.2)) + 0)), (0, .ref o), (1, .int (nI μ)), (2, .int (nI υ)), (3, .int (nI β))]) X.1 X.2.1 dX12_lostIn_54 hl (by decide) rfl (fun ls hl => ?_)
      refine lv_iload X.1 X.2.1 dX12_lostIn_56 (lv_at hl 0 rfl) ?_
      refine lv_aload_n X.1 X.2.1 dX12_lostIn_58 rfl (lv_at hl 1 rfl) ?_
      refine m_getr 1 1 X hK hP hM hin rfl (by decide) k9 rfl dX12_lostIn_59 (by decide) ?_
      refine lv_bipush (v := 44) X.1 X.2.1 dX12_lostIn_62 (by decide) ?_
      refine lv_iload_n X.1 X.2.1 dX12_lostIn_64 rfl (lv_at hl 2 rfl) ?_
      refine lv_iadd X.1 X.2.1 dX12_lostIn_65 ?_
      refine m_ald 1 (44 + μ) 883 X hK hP hM rfl (gIx_of (gn_add (show (44 : Int32) = nI 44 from rfl) (Eq.refl (nI μ))) (by omega) (by omega)) dX12_lostIn_66 (show N1 1 (44 + μ) = nI (σ (44 + μ)) from ((hkN1 1 (44 + μ) (by unfold lS; omega)).trans (hσ (44 + μ) (by omega) (by omega)))) ?_
      refine lv_iconst (v := 5) X.1 X.2.1 dX12_lostIn_67 (by decide) ?_
      refine lv_icmp_ne (tgt := 88) X.1 X.2.1 dX12_lostIn_68 (by decide) (fun c68 => ?_) (fun c68 => ?_)
      · have n68 : ¬ σ (44 + μ) = 5 := gq_ne c68 (Eq.refl (nI (σ (44 + μ)))) (show (5 : Int32) = nI 5 from rfl) (by omega) (by omega)
        refine lv_iconst (v := 0) X.1 X.2.1 dX12_lostIn_88 (by decide) ?_
        refine lv_iadd X.1 X.2.1 dX12_lostIn_89 ?_
        refine lv_istore (lv' := [(4, .int (((nI ((sX fl (fF σ μ υ β)).2.2)) + 0) + 0)), (0, .ref o), (1, .int (nI μ)), (2, .int (nI υ)), (3, .int (nI β))]) X.1 X.2.1 dX12_lostIn_90 hl (by decide) rfl (fun ls hl => ?_)
        refine lv_iload X.1 X.2.1 dX12_lostIn_92 (lv_at hl 0 rfl) ?_
        refine lv_iload_n X.1 X.2.1 dX12_lostIn_94 rfl (lv_at hl 4 rfl) ?_
        refine lv_icmp_le (tgt := 102) X.1 X.2.1 dX12_lostIn_95 (by decide) (fun c95 => ?_) (fun c95 => ?_)
        · have n95 : (((sX fl (fF σ μ υ β)).2.2 + 0) + 0) ≤ β := gq_le c95 (gn_add (gn_add (Eq.refl (nI ((sX fl (fF σ μ υ β)).2.2))) (show (0 : Int32) = nI 0 from rfl)) (show (0 : Int32) = nI 0 from rfl)) (Eq.refl (nI β)) (by omega) (by omega)
          refine lv_iload X.1 X.2.1 dX12_lostIn_102 (lv_at hl 0 rfl) ?_
          exact g_iret N1 X hr hlk hK hP hS dX12_lostIn_104 ⟨((gn_add (gn_add (Eq.refl (nI ((sX fl (fF σ μ υ β)).2.2))) (show (0 : Int32) = nI 0 from rfl)) (show (0 : Int32) = nI 0 from rfl))).trans (congrArg nI (by unfold sLs; rw [if_neg (fun q => absurd q.2 (by omega)), if_neg (fun q => n68 q.1)]; omega)), τN1, hτaN1, hτbN1, hcaN1, hkN1⟩
        · have n95 : β < (((sX fl (fF σ μ υ β)).2.2 + 0) + 0) := gq_nle c95 (gn_add (gn_add (Eq.refl (nI ((sX fl (fF σ μ υ β)).2.2))) (show (0 : Int32) = nI 0 from rfl)) (show (0 : Int32) = nI 0 from rfl)) (Eq.refl (nI β)) (by omega) (by omega)
          refine lv_iload_n X.1 X.2.1 dX12_lostIn_98 rfl (lv_at hl 4 rfl) ?_
          refine lv_goto (tgt := 104) X.1 X.2.1 dX12_lostIn_99 (by decide) ?_
          exact g_iret N1 X hr hlk hK hP hS dX12_lostIn_104 ⟨((Eq.refl (nI β))).trans (congrArg nI (by unfold sLs; rw [if_neg (fun q => absurd q.2 (by omega)), if_neg (fun q => n68 q.1)]; omega)), τN1, hτaN1, hτbN1, hcaN1, hkN1⟩
      · have n68 : σ (44 + μ) = 5 := gq_eq c68 (Eq.refl (nI (σ (44 + μ)))) (show (5 : Int32) = nI 5 from rfl) (by omega) (by omega)
        refine lv_iload_n X.1 X.2.1 dX12_lostIn_71 rfl (lv_at hl 3 rfl) ?_
        refine lv_aload_n X.1 X.2.1 dX12_lostIn_72 rfl (lv_at hl 1 rfl) ?_
        refine m_getr 1 1 X hK hP hM hin rfl (by decide) k9 rfl dX12_lostIn_73 (by decide) ?_
        refine lv_bipush (v := 48) X.1 X.2.1 dX12_lostIn_76 (by decide) ?_
        refine lv_iload_n X.1 X.2.1 dX12_lostIn_78 rfl (lv_at hl 2 rfl) ?_
        refine lv_iadd X.1 X.2.1 dX12_lostIn_79 ?_
        refine m_ald 1 (48 + μ) 883 X hK hP hM rfl (gIx_of (gn_add (show (48 : Int32) = nI 48 from rfl) (Eq.refl (nI μ))) (by omega) (by omega)) dX12_lostIn_80 (show N1 1 (48 + μ) = nI (σ (48 + μ)) from ((hkN1 1 (48 + μ) (by unfold lS; omega)).trans (hσ (48 + μ) (by omega) (by omega)))) ?_
        refine lv_icmp_ne (tgt := 88) X.1 X.2.1 dX12_lostIn_81 (by decide) (fun c81 => ?_) (fun c81 => ?_)
        · have n81 : ¬ υ = σ (48 + μ) := gq_ne c81 (Eq.refl (nI υ)) (Eq.refl (nI (σ (48 + μ)))) (by omega) (by omega)
          refine lv_iconst (v := 0) X.1 X.2.1 dX12_lostIn_88 (by decide) ?_
          refine lv_iadd X.1 X.2.1 dX12_lostIn_89 ?_
          refine lv_istore (lv' := [(4, .int (((nI ((sX fl (fF σ μ υ β)).2.2)) + 0) + 0)), (0, .ref o), (1, .int (nI μ)), (2, .int (nI υ)), (3, .int (nI β))]) X.1 X.2.1 dX12_lostIn_90 hl (by decide) rfl (fun ls hl => ?_)
          refine lv_iload X.1 X.2.1 dX12_lostIn_92 (lv_at hl 0 rfl) ?_
          refine lv_iload_n X.1 X.2.1 dX12_lostIn_94 rfl (lv_at hl 4 rfl) ?_
          refine lv_icmp_le (tgt := 102) X.1 X.2.1 dX12_lostIn_95 (by decide) (fun c95 => ?_) (fun c95 => ?_)
          · have n95 : (((sX fl (fF σ μ υ β)).2.2 + 0) + 0) ≤ β := gq_le c95 (gn_add (gn_add (Eq.refl (nI ((sX fl (fF σ μ υ β)).2.2))) (show (0 : Int32) = nI 0 from rfl)) (show (0 : Int32) = nI 0 from rfl)) (Eq.refl (nI β)) (by omega) (by omega)
            refine lv_iload X.1 X.2.1 dX12_lostIn_102 (lv_at hl 0 rfl) ?_
            exact g_iret N1 X hr hlk hK hP hS dX12_lostIn_104 ⟨((gn_add (gn_add (Eq.refl (nI ((sX fl (fF σ μ υ β)).2.2))) (show (0 : Int32) = nI 0 from rfl)) (show (0 : Int32) = nI 0 from rfl))).trans (congrArg nI (by unfold sLs; rw [if_neg (fun q => absurd q.2 (by omega)), if_neg (fun q => n81 q.2)]; omega)), τN1, hτaN1, hτbN1, hcaN1, hkN1⟩
          · have n95 : β < (((sX fl (fF σ μ υ β)).2.2 + 0) + 0) := gq_nle c95 (gn_add (gn_add (Eq.refl (nI ((sX fl (fF σ μ υ β)).2.2))) (show (0 : Int32) = nI 0 from rfl)) (show (0 : Int32) = nI 0 from rfl)) (Eq.refl (nI β)) (by omega) (by omega)
            refine lv_iload_n X.1 X.2.1 dX12_lostIn_98 rfl (lv_at hl 4 rfl) ?_
            refine lv_goto (tgt := 104) X.1 X.2.1 dX12_lostIn_99 (by decide) ?_
            exact g_iret N1 X hr hlk hK hP hS dX12_lostIn_104 ⟨((Eq.refl (nI β))).trans (congrArg nI (by unfold sLs; rw [if_neg (fun q => absurd q.2 (by omega)), if_neg (fun q => n81 q.2)]; omega)), τN1, hτaN1, hτbN1, hcaN1, hkN1⟩
        · have n81 : υ = σ (48 + μ) := gq_eq c81 (Eq.refl (nI υ)) (Eq.refl (nI (σ (48 + μ)))) (by omega) (by omega)
          refine lv_iconst (v := 1) X.1 X.2.1 dX12_lostIn_84 (by decide) ?_
          refine lv_goto (tgt := 89) X.1 X.2.1 dX12_lostIn_85 (by decide) ?_
          refine lv_iadd X.1 X.2.1 dX12_lostIn_89 ?_
          refine lv_istore (lv' := [(4, .int (((nI ((sX fl (fF σ μ υ β)).2.2)) + 0) + 1)), (0, .ref o), (1, .int (nI μ)), (2, .int (nI υ)), (3, .int (nI β))]) X.1 X.2.1 dX12_lostIn_90 hl (by decide) rfl (fun ls hl => ?_)
          refine lv_iload X.1 X.2.1 dX12_lostIn_92 (lv_at hl 0 rfl) ?_
          refine lv_iload_n X.1 X.2.1 dX12_lostIn_94 rfl (lv_at hl 4 rfl) ?_
          refine lv_icmp_le (tgt := 102) X.1 X.2.1 dX12_lostIn_95 (by decide) (fun c95 => ?_) (fun c95 => ?_)
          · have n95 : (((sX fl (fF σ μ υ β)).2.2 + 0) + 1) ≤ β := gq_le c95 (gn_add (gn_add (Eq.refl (nI ((sX fl (fF σ μ υ β)).2.2))) (show (0 : Int32) = nI 0 from rfl)) (show (1 : Int32) = nI 1 from rfl)) (Eq.refl (nI β)) (by omega) (by omega)
            refine lv_iload X.1 X.2.1 dX12_lostIn_102 (lv_at hl 0 rfl) ?_
            exact g_iret N1 X hr hlk hK hP hS dX12_lostIn_104 ⟨((gn_add (gn_add (Eq.refl (nI ((sX fl (fF σ μ υ β)).2.2))) (show (0 : Int32) = nI 0 from rfl)) (show (1 : Int32) = nI 1 from rfl))).trans (congrArg nI (by unfold sLs; rw [if_neg (fun q => absurd q.2 (by omega)), if_pos ⟨n68, n81⟩]; omega)), τN1, hτaN1, hτbN1, hcaN1, hkN1⟩
          · have n95 : β < (((sX fl (fF σ μ υ β)).2.2 + 0) + 1) := gq_nle c95 (gn_add (gn_add (Eq.refl (nI ((sX fl (fF σ μ υ β)).2.2))) (show (0 : Int32) = nI 0 from rfl)) (show (1 : Int32) = nI 1 from rfl)) (Eq.refl (nI β)) (by omega) (by omega)
            refine lv_iload_n X.1 X.2.1 dX12_lostIn_98 rfl (lv_at hl 4 rfl) ?_
            refine lv_goto (tgt := 104) X.1 X.2.1 dX12_lostIn_99 (by decide) ?_
            exact g_iret N1 X hr hlk hK hP hS dX12_lostIn_104 ⟨((Eq.refl (nI β))).trans (congrArg nI (by unfold sLs; rw [if_neg (fun q => absurd q.2 (by omega)), if_pos ⟨n68, n81⟩]; omega)), τN1, hτaN1, hτbN1, hcaN1, hkN1⟩
    · have n37 : 0 < σ (28 + υ) := gq_nle c37 (Eq.refl (nI (σ (28 + υ)))) (show (0 : Int32) = nI 0 from rfl) (by omega) (by omega)
      refine lv_aload_n X.1 X.2.1 dX12_lostIn_40 rfl (lv_at hl 1 rfl) ?_
      refine m_getr 1 1 X hK hP hM hin rfl (by decide) k9 rfl dX12_lostIn_41 (by decide) ?_
      refine lv_bipush (v := 48) X.1 X.2.1 dX12_lostIn_44 (by decide) ?_
      refine lv_iload_n X.1 X.2.1 dX12_lostIn_46 rfl (lv_at hl 2 rfl) ?_
      refine lv_iadd X.1 X.2.1 dX12_lostIn_47 ?_
      refine m_ald 1 (48 + μ) 883 X hK hP hM rfl (gIx_of (gn_add (show (48 : Int32) = nI 48 from rfl) (Eq.refl (nI μ))) (by omega) (by omega)) dX12_lostIn_48 (show N1 1 (48 + μ) = nI (σ (48 + μ)) from ((hkN1 1 (48 + μ) (by unfold lS; omega)).trans (hσ (48 + μ) (by omega) (by omega)))) ?_
      refine lv_goto (tgt := 53) X.1 X.2.1 dX12_lostIn_49 (by decide) ?_
      refine lv_iadd X.1 X.2.1 dX12_lostIn_53 ?_
      refine lv_istore (lv' := [(4, .int ((nI ((sX fl (fF σ μ υ β)).2.2)) + (nI (σ (48 + μ))))), (0, .ref o), (1, .int (nI μ)), (2, .int (nI υ)), (3, .int (nI β))]) X.1 X.2.1 dX12_lostIn_54 hl (by decide) rfl (fun ls hl => ?_)
      refine lv_iload X.1 X.2.1 dX12_lostIn_56 (lv_at hl 0 rfl) ?_
      refine lv_aload_n X.1 X.2.1 dX12_lostIn_58 rfl (lv_at hl 1 rfl) ?_
      refine m_getr 1 1 X hK hP hM hin rfl (by decide) k9 rfl dX12_lostIn_59 (by decide) ?_
      refine lv_bipush (v := 44) X.1 X.2.1 dX12_lostIn_62 (by decide) ?_
      refine lv_iload_n X.1 X.2.1 dX12_lostIn_64 rfl (lv_at hl 2 rfl) ?_
      refine lv_iadd X.1 X.2.1 dX12_lostIn_65 ?_
      refine m_ald 1 (44 + μ) 883 X hK hP hM rfl (gIx_of (gn_add (show (44 : Int32) = nI 44 from rfl) (Eq.refl (nI μ))) (by omega) (by omega)) dX12_lostIn_66 (show N1 1 (44 + μ) = nI (σ (44 + μ)) from ((hkN1 1 (44 + μ) (by unfold lS; omega)).trans (hσ (44 + μ) (by omega) (by omega)))) ?_
      refine lv_iconst (v := 5) X.1 X.2.1 dX12_lostIn_67 (by decide) ?_
      refine lv_icmp_ne (tgt := 88) X.1 X.2.1 dX12_lostIn_68 (by decide) (fun c68 => ?_) (fun c68 => ?_)
      · have n68 : ¬ σ (44 + μ) = 5 := gq_ne c68 (Eq.refl (nI (σ (44 + μ)))) (show (5 : Int32) = nI 5 from rfl) (by omega) (by omega)
        refine lv_iconst (v := 0) X.1 X.2.1 dX12_lostIn_88 (by decide) ?_
        refine lv_iadd X.1 X.2.1 dX12_lostIn_89 ?_
        refine lv_istore (lv' := [(4, .int (((nI ((sX fl (fF σ μ υ β)).2.2)) + (nI (σ (48 + μ)))) + 0)), (0, .ref o), (1, .int (nI μ)), (2, .int (nI υ)), (3, .int (nI β))]) X.1 X.2.1 dX12_lostIn_90 hl (by decide) rfl (fun ls hl => ?_)
        refine lv_iload X.1 X.2.1 dX12_lostIn_92 (lv_at hl 0 rfl) ?_
        refine lv_iload_n X.1 X.2.1 dX12_lostIn_94 rfl (lv_at hl 4 rfl) ?_
        refine lv_icmp_le (tgt := 102) X.1 X.2.1 dX12_lostIn_95 (by decide) (fun c95 => ?_) (fun c95 => ?_)
        · have n95 : (((sX fl (fF σ μ υ β)).2.2 + σ (48 + μ)) + 0) ≤ β := gq_le c95 (gn_add (gn_add (Eq.refl (nI ((sX fl (fF σ μ υ β)).2.2))) (Eq.refl (nI (σ (48 + μ))))) (show (0 : Int32) = nI 0 from rfl)) (Eq.refl (nI β)) (by omega) (by omega)
          refine lv_iload X.1 X.2.1 dX12_lostIn_102 (lv_at hl 0 rfl) ?_
          exact g_iret N1 X hr hlk hK hP hS dX12_lostIn_104 ⟨((gn_add (gn_add (Eq.refl (nI ((sX fl (fF σ μ υ β)).2.2))) (Eq.refl (nI (σ (48 + μ))))) (show (0 : Int32) = nI 0 from rfl))).trans (congrArg nI (by unfold sLs; rw [if_pos ⟨n25, by omega⟩, if_neg (fun q => n68 q.1)]; omega)), τN1, hτaN1, hτbN1, hcaN1, hkN1⟩
        · have n95 : β < (((sX fl (fF σ μ υ β)).2.2 + σ (48 + μ)) + 0) := gq_nle c95 (gn_add (gn_add (Eq.refl (nI ((sX fl (fF σ μ υ β)).2.2))) (Eq.refl (nI (σ (48 + μ))))) (show (0 : Int32) = nI 0 from rfl)) (Eq.refl (nI β)) (by omega) (by omega)
          refine lv_iload_n X.1 X.2.1 dX12_lostIn_98 rfl (lv_at hl 4 rfl) ?_
          refine lv_goto (tgt := 104) X.1 X.2.1 dX12_lostIn_99 (by decide) ?_
          exact g_iret N1 X hr hlk hK hP hS dX12_lostIn_104 ⟨((Eq.refl (nI β))).trans (congrArg nI (by unfold sLs; rw [if_pos ⟨n25, by omega⟩, if_neg (fun q => n68 q.1)]; omega)), τN1, hτaN1, hτbN1, hcaN1, hkN1⟩
      · have n68 : σ (44 + μ) = 5 := gq_eq c68 (Eq.refl (nI (σ (44 + μ)))) (show (5 : Int32) = nI 5 from rfl) (by omega) (by omega)
        refine lv_iload_n X.1 X.2.1 dX12_lostIn_71 rfl (lv_at hl 3 rfl) ?_
        refine lv_aload_n X.1 X.2.1 dX12_lostIn_72 rfl (lv_at hl 1 rfl) ?_
        refine m_getr 1 1 X hK hP hM hin rfl (by decide) k9 rfl dX12_lostIn_73 (by decide) ?_
        refine lv_bipush (v := 48) X.1 X.2.1 dX12_lostIn_76 (by decide) ?_
        refine lv_iload_n X.1 X.2.1 dX12_lostIn_78 rfl (lv_at hl 2 rfl) ?_
        refine lv_iadd X.1 X.2.1 dX12_lostIn_79 ?_
        refine m_ald 1 (48 + μ) 883 X hK hP hM rfl (gIx_of (gn_add (show (48 : Int32) = nI 48 from rfl) (Eq.refl (nI μ))) (by omega) (by omega)) dX12_lostIn_80 (show N1 1 (48 + μ) = nI (σ (48 + μ)) from ((hkN1 1 (48 + μ) (by unfold lS; omega)).trans (hσ (48 + μ) (by omega) (by omega)))) ?_
        refine lv_icmp_ne (tgt := 88) X.1 X.2.1 dX12_lostIn_81 (by decide) (fun c81 => ?_) (fun c81 => ?_)
        · have n81 : ¬ υ = σ (48 + μ) := gq_ne c81 (Eq.refl (nI υ)) (Eq.refl (nI (σ (48 + μ)))) (by omega) (by omega)
          refine lv_iconst (v := 0) X.1 X.2.1 dX12_lostIn_88 (by decide) ?_
          refine lv_iadd X.1 X.2.1 dX12_lostIn_89 ?_
          refine lv_istore (lv' := [(4, .int (((nI ((sX fl (fF σ μ υ β)).2.2)) + (nI (σ (48 + μ)))) + 0)), (0, .ref o), (1, .int (nI μ)), (2, .int (nI υ)), (3, .int (nI β))]) X.1 X.2.1 dX12_lostIn_90 hl (by decide) rfl (fun ls hl => ?_)
          refine lv_iload X.1 X.2.1 dX12_lostIn_92 (lv_at hl 0 rfl) ?_
          refine lv_iload_n X.1 X.2.1 dX12_lostIn_94 rfl (lv_at hl 4 rfl) ?_
          refine lv_icmp_le (tgt := 102) X.1 X.2.1 dX12_lostIn_95 (by decide) (fun c95 => ?_) (fun c95 => ?_)
          · have n95 : (((sX fl (fF σ μ υ β)).2.2 + σ (48 + μ)) + 0) ≤ β := gq_le c95 (gn_add (gn_add (Eq.refl (nI ((sX fl (fF σ μ υ β)).2.2))) (Eq.refl (nI (σ (48 + μ))))) (show (0 : Int32) = nI 0 from rfl)) (Eq.refl (nI β)) (by omega) (by omega)
            refine lv_iload X.1 X.2.1 dX12_lostIn_102 (lv_at hl 0 rfl) ?_
            exact g_iret N1 X hr hlk hK hP hS dX12_lostIn_104 ⟨((gn_add (gn_add (Eq.refl (nI ((sX fl (fF σ μ υ β)).2.2))) (Eq.refl (nI (σ (48 + μ))))) (show (0 : Int32) = nI 0 from rfl))).trans (congrArg nI (by unfold sLs; rw [if_pos ⟨n25, by omega⟩, if_neg (fun q => n81 q.2)]; omega)), τN1, hτaN1, hτbN1, hcaN1, hkN1⟩
          · have n95 : β < (((sX fl (fF σ μ υ β)).2.2 + σ (48 + μ)) + 0) := gq_nle c95 (gn_add (gn_add (Eq.refl (nI ((sX fl (fF σ μ υ β)).2.2))) (Eq.refl (nI (σ (48 + μ))))) (show (0 : Int32) = nI 0 from rfl)) (Eq.refl (nI β)) (by omega) (by omega)
            refine lv_iload_n X.1 X.2.1 dX12_lostIn_98 rfl (lv_at hl 4 rfl) ?_
            refine lv_goto (tgt := 104) X.1 X.2.1 dX12_lostIn_99 (by decide) ?_
            exact g_iret N1 X hr hlk hK hP hS dX12_lostIn_104 ⟨((Eq.refl (nI β))).trans (congrArg nI (by unfold sLs; rw [if_pos ⟨n25, by omega⟩, if_neg (fun q => n81 q.2)]; omega)), τN1, hτaN1, hτbN1, hcaN1, hkN1⟩
        · have n81 : υ = σ (48 + μ) := gq_eq c81 (Eq.refl (nI υ)) (Eq.refl (nI (σ (48 + μ)))) (by omega) (by omega)
          refine lv_iconst (v := 1) X.1 X.2.1 dX12_lostIn_84 (by decide) ?_
          refine lv_goto (tgt := 89) X.1 X.2.1 dX12_lostIn_85 (by decide) ?_
          refine lv_iadd X.1 X.2.1 dX12_lostIn_89 ?_
          refine lv_istore (lv' := [(4, .int (((nI ((sX fl (fF σ μ υ β)).2.2)) + (nI (σ (48 + μ)))) + 1)), (0, .ref o), (1, .int (nI μ)), (2, .int (nI υ)), (3, .int (nI β))]) X.1 X.2.1 dX12_lostIn_90 hl (by decide) rfl (fun ls hl => ?_)
          refine lv_iload X.1 X.2.1 dX12_lostIn_92 (lv_at hl 0 rfl) ?_
          refine lv_iload_n X.1 X.2.1 dX12_lostIn_94 rfl (lv_at hl 4 rfl) ?_
          refine lv_icmp_le (tgt := 102) X.1 X.2.1 dX12_lostIn_95 (by decide) (fun c95 => ?_) (fun c95 => ?_)
          · have n95 : (((sX fl (fF σ μ υ β)).2.2 + σ (48 + μ)) + 1) ≤ β := gq_le c95 (gn_add (gn_add (Eq.refl (nI ((sX fl (fF σ μ υ β)).2.2))) (Eq.refl (nI (σ (48 + μ))))) (show (1 : Int32) = nI 1 from rfl)) (Eq.refl (nI β)) (by omega) (by omega)
            refine lv_iload X.1 X.2.1 dX12_lostIn_102 (lv_at hl 0 rfl) ?_
            exact g_iret N1 X hr hlk hK hP hS dX12_lostIn_104 ⟨((gn_add (gn_add (Eq.refl (nI ((sX fl (fF σ μ υ β)).2.2))) (Eq.refl (nI (σ (48 + μ))))) (show (1 : Int32) = nI 1 from rfl))).trans (congrArg nI (by unfold sLs; rw [if_pos ⟨n25, by omega⟩, if_pos ⟨n68, n81⟩]; omega)), τN1, hτaN1, hτbN1, hcaN1, hkN1⟩
          · have n95 : β < (((sX fl (fF σ μ υ β)).2.2 + σ (48 + μ)) + 1) := gq_nle c95 (gn_add (gn_add (Eq.refl (nI ((sX fl (fF σ μ υ β)).2.2))) (Eq.refl (nI (σ (48 + μ))))) (show (1 : Int32) = nI 1 from rfl)) (Eq.refl (nI β)) (by omega) (by omega)
            refine lv_iload_n X.1 X.2.1 dX12_lostIn_98 rfl (lv_at hl 4 rfl) ?_
            refine lv_goto (tgt := 104) X.1 X.2.1 dX12_lostIn_99 (by decide) ?_
            exact g_iret N1 X hr hlk hK hP hS dX12_lostIn_104 ⟨((Eq.refl (nI β))).trans (congrArg nI (by unfold sLs; rw [if_pos ⟨n25, by omega⟩, if_pos ⟨n68, n81⟩]; omega)), τN1, hτaN1, hτbN1, hcaN1, hkN1⟩

end MH
