section ME
variable {l : Launch} {s0 : State} {D : va_G} {cy : Nat → ClassId} {B o z : Nat} {T : Nat → Nat × Nat} {R : Nat → Nat → Option Nat} {I0 : Nat → Nat → Int32} {M : Nat → Nat → Int32} {σ : Nat → Nat} {fl : List Nat} {ti sh K : Nat}
/-- the row s holds σ -/
def mS (M : Nat → Nat → Int32) (σ : Nat → Nat) : Prop := ∀ i, i < 168 → i ≠ 42 → M 1 i = nI (σ i)
/-- the SITE that holds says fl, ti, sh -/
def mSite (M : Nat → Nat → Int32) (fl : List Nat) (ti sh : Nat) : Prop := tOk 20 fl 0 ∧ fl.length ≤ 140 ∧ ti ≤ 99 ∧ sh ≤ 99 ∧ ((M 1 42 = -1 ∧ fl = [] ∧ ti = 1 ∧ sh = 2) ∨ ∃ hd, hd < 5 ∧ M 1 42 = nI hd ∧ M 1 (168 + hd) = nI ti ∧ M 1 (173 + hd) = nI sh ∧ M 1 (178 + hd) = nI fl.length ∧ ∀ k, k < fl.length → M 1 (183 + 140 * hd + k) = encR (fl.getD k 0))

set_option maxHeartbeats 4000000 in
set_option maxRecDepth 100000 in
/-- tellsOf -/
theorem c_tellsOf (hM : gMod o T R) {w : Nat} (hw : w < 200) {d v : Int32} (hh : (M 1 42 = -1 ∧ v = d) ∨ ∃ hd, hd < 5 ∧ M 1 42 = nI hd ∧ M 1 (hd + w) = v) : Met l yX12_tellsOf wsX12_tellsOf ({ frames := 0, cells := 0, slots := 0, locals := 0 }) (mPre s0 D cy B o z T R I0 M [.int (nI w), .int d]) (mQi D cy B o z T R I0 (fun r u => r = v ∧ M = u)) 0 0 (gA B) := by
  refine g_met (maxL := 3) (ret := (some .int)) (by decide) rfl (Nat.le_of_ble_eq_true rfl) (fun p e s m args below meth c ls X hr hlk hnm hK hP hC hS hl => ?_)
  have hl : lv_has ls 3 [(0, .ref o), (1, .int (nI w)), (2, .int d)] := hl
  have hP : gP D cy B z T (gI o 12 M I0) R s.heap := hP
  have hB : B ≤ s.heap.size := by rw [hP.1]; exact hP.2.1
  have hin : ∀ w ∈ wsX120, w ∈ wsX12_tellsOf := fun _ h => List.mem_cons_of_mem _ (List.mem_append_right _ h)
  have k9 : Cond.fieldLink RX12 9 "BarrowPlankModel" "s" "[I" ∈ wsX12_tellsOf := by decide +kernel
  rcases hh with ⟨hh, hv⟩ | ⟨hd, hd5, hh, hv⟩
  · have hP : gP D cy B z T (gI o 12 M I0) R s.heap := hP
    refine lv_aload_n X.1 X.2.1 dX12_tellsOf_0 rfl (lv_at hl 0 rfl) ?_
    refine m_getr 1 1 X hK hP hM hin rfl (by decide) k9 rfl dX12_tellsOf_1 (by decide) ?_
    refine lv_bipush (v := 42) X.1 X.2.1 dX12_tellsOf_4 (by decide) ?_
    refine m_ald 1 42 883 X hK hP hM rfl (gIx_of (show (42 : Int32) = nI 42 from rfl) (by omega) (by omega)) dX12_tellsOf_6 (show M 1 42 = (-1) from hh) ?_
    refine lv_iconst (v := (-1)) X.1 X.2.1 dX12_tellsOf_7 (by decide) ?_
    refine lv_icmp_ne (tgt := 15) X.1 X.2.1 dX12_tellsOf_8 (by decide) (fun c8 => ?_) (fun c8 => ?_)
    · exact absurd rfl c8
    · refine lv_iload_n X.1 X.2.1 dX12_tellsOf_11 rfl (lv_at hl 2 rfl) ?_
      refine lv_goto (tgt := 29) X.1 X.2.1 dX12_tellsOf_12 (by decide) ?_
      exact g_iret M X hr hlk hK hP hS dX12_tellsOf_29 ⟨hv.symm, rfl⟩
  · have hP : gP D cy B z T (gI o 12 M I0) R s.heap := hP
    refine lv_aload_n X.1 X.2.1 dX12_tellsOf_0 rfl (lv_at hl 0 rfl) ?_
    refine m_getr 1 1 X hK hP hM hin rfl (by decide) k9 rfl dX12_tellsOf_1 (by decide) ?_
    refine lv_bipush (v := 42) X.1 X.2.1 dX12_tellsOf_4 (by decide) ?_
    refine m_ald 1 42 883 X hK hP hM rfl (gIx_of (show (42 : Int32) = nI 42 from rfl) (by omega) (by omega)) dX12_tellsOf_6 (show M 1 42 = nI hd from hh) ?_
    refine lv_iconst (v := (-1)) X.1 X.2.1 dX12_tellsOf_7 (by decide) ?_
    refine lv_icmp_ne (tgt := 15) X.1 X.2.1 dX12_tellsOf_8 (by decide) (fun c8 => ?_) (fun c8 => ?_)
    · refine lv_aload_n X.1 X.2.1 dX12_tellsOf_15 rfl (lv_at hl 0 rfl) ?_
      refine m_getr 1 1 X hK hP hM hin rfl (by decide) k9 rfl dX12_tellsOf_16 (by decide) ?_
      refine lv_iload_n X.1 X.2.1 dX12_tellsOf_19 rfl (lv_at hl 1 rfl) ?_
      refine lv_aload_n X.1 X.2.1 dX12_tellsOf_20 rfl (lv_at hl 0 rfl) ?_
      refine m_getr 1 1 X hK hP hM hin rfl (by decide) k9 rfl dX12_tellsOf_21 (by decide) ?_
      refine lv_bipush (v := 42) X.1 X.2.1 dX12_tellsOf_24 (by decide) ?_
      refine m_ald 1 42 883 X hK hP hM rfl (gIx_of (show (42 : Int32) = nI 42 from rfl) (by omega) (by omega)) dX12_tellsOf_26 (show M 1 42 = nI hd from hh) ?_
      refine lv_iadd X.1 X.2.1 dX12_tellsOf_27 ?_
      refine m_ald 1 (hd + w) 883 X hK hP hM rfl (gIx_of (gn_eq (gn_add (Eq.refl (nI w)) (Eq.refl (nI hd))) (by omega)) (by omega) (by omega)) dX12_tellsOf_28 (show M 1 (hd + w) = M 1 (hd + w) from rfl) ?_
      exact g_iret M X hr hlk hK hP hS dX12_tellsOf_29 ⟨hv, rfl⟩
    · exact absurd c8 (gn_m1 (by omega))

theorem mSite_t (hs : mSite M fl ti sh) : (M 1 42 = -1 ∧ nI ti = 1) ∨ ∃ hd, hd < 5 ∧ M 1 42 = nI hd ∧ M 1 (hd + 168) = nI ti := by
  rcases hs.2.2.2.2 with ⟨h1, -, h2, -⟩ | ⟨hd, h1, h2, h3, -⟩
  · exact Or.inl ⟨h1, by rw [h2]; rfl⟩
  · exact Or.inr ⟨hd, h1, h2, by rw [Nat.add_comm]; exact h3⟩
theorem mSite_s (hs : mSite M fl ti sh) : (M 1 42 = -1 ∧ nI sh = 2) ∨ ∃ hd, hd < 5 ∧ M 1 42 = nI hd ∧ M 1 (hd + 173) = nI sh := by
  rcases hs.2.2.2.2 with ⟨h1, -, -, h2⟩ | ⟨hd, h1, h2, -, h3, -⟩
  · exact Or.inl ⟨h1, by rw [h2]; rfl⟩
  · exact Or.inr ⟨hd, h1, h2, by rw [Nat.add_comm]; exact h3⟩
theorem mSite_n (hs : mSite M fl ti sh) : (M 1 42 = -1 ∧ nI fl.length = 0) ∨ ∃ hd, hd < 5 ∧ M 1 42 = nI hd ∧ M 1 (hd + 178) = nI fl.length := by
  rcases hs.2.2.2.2 with ⟨h1, h2, -, -⟩ | ⟨hd, h1, h2, -, -, h3, -⟩
  · exact Or.inl ⟨h1, by rw [h2]; rfl⟩
  · exact Or.inr ⟨hd, h1, h2, by rw [Nat.add_comm]; exact h3⟩
def fTold (σ : Nat → Nat) (ti sh : Nat) (q : Int32) : Int32 := if q = 4 then nI ti else if q = 5 then nI sh else if 0 ≤ q ∧ q ≤ 3 then nI (σ q.toNatClampNeg) else -1
theorem gsw2 {q : Int32} {a b : Int32} {A B o1 o2 dd : Int} (h1 : ¬ q = a) (h2 : ¬ q = b) (ha : a.toInt = A) (hb : b.toInt = B) : Op.lookupswitch.offset [(A, o1), (B, o2)] dd q.toInt = dd := by
  rw [Op.lookupswitch.offset_cons, if_neg (fun h => h1 (Int32.toInt_inj.mp (by rw [ha, h]))), Op.lookupswitch.offset_cons, if_neg (fun h => h2 (Int32.toInt_inj.mp (by rw [hb, h]))), Op.lookupswitch.offset_nil]

set_option maxHeartbeats 4000000 in
set_option maxRecDepth 100000 in
/-- told -/
theorem c_told (hM : gMod o T R) (hσ : mS M σ) (hs : mSite M fl ti sh) (q : Int32) : Met l yX12_told wsX12_told ({ frames := 1, cells := 0, slots := 0, locals := 22 }) (mPre s0 D cy B o z T R I0 M [.int q]) (mQi D cy B o z T R I0 (fun r u => r = fTold σ ti sh q ∧ M = u)) 0 0 (gA B) := by
  refine g_met (maxL := 2) (ret := (some .int)) (by decide) rfl (Nat.le_of_ble_eq_true rfl) (fun p e s m args below meth c ls X hr hlk hnm hK hP hC hS hl => ?_)
  have hl : lv_has ls 2 [(0, .ref o), (1, .int q)] := hl
  have hP : gP D cy B z T (gI o 12 M I0) R s.heap := hP
  have hB : B ≤ s.heap.size := by rw [hP.1]; exact hP.2.1
  have hin : ∀ w ∈ wsX120, w ∈ wsX12_told := fun _ h => List.mem_cons_of_mem _ (List.mem_append_right _ h)
  have k9 : Cond.fieldLink RX12 9 "BarrowPlankModel" "s" "[I" ∈ wsX12_told := by decide +kernel
  by_cases h4 : q = 4
  · subst h4
    refine lv_iload_n X.1 X.2.1 dX12_told_0 rfl (lv_at hl 1 rfl) ?_
    refine lv_lookup (off := 27) (tgt := 28) X.1 X.2.1 dX12_told_1 (by decide) (by decide) (by decide) ?_
    refine lv_aload_n X.1 X.2.1 dX12_told_28 rfl (lv_at hl 0 rfl) ?_
    refine lv_sipush (v := 168) X.1 X.2.1 dX12_told_29 (by decide) ?_
    refine lv_iconst (v := 1) X.1 X.2.1 dX12_told_32 (by decide) ?_
    refine g_run_i (g_runV (k := 14) [.int 168, .int 1] X hK hP hS hC hB (c_tellsOf hM (w := 168) (by omega) (v := nI ti) (mSite_t hs)) (cwV 2 X.2.2.2.2 gX12_told_X12_tellsOf rfl rfl rfl (by decide +kernel) ⟨Nat.le_of_ble_eq_true rfl, Nat.le_of_ble_eq_true rfl⟩) (hM.1 0 _ rfl) rfl rfl hl.1 rfl (Nat.le_of_ble_eq_true rfl) dX12_told_33 ⟨Nat.zero_le _, Nat.zero_le _⟩) hS (fun r u H locs hq hP hS => ?_)
    obtain ⟨rfl, rfl⟩ := hq
    have hP : gP D cy B z T (gI o 12 M I0) R H := hP
    exact g_iret M X hr hlk hK hP hS dX12_told_36 ⟨rfl, rfl⟩
  · by_cases h5 : q = 5
    · subst h5
      refine lv_iload_n X.1 X.2.1 dX12_told_0 rfl (lv_at hl 1 rfl) ?_
      refine lv_lookup (off := 36) (tgt := 37) X.1 X.2.1 dX12_told_1 (by decide) (by decide) (by decide) ?_
      refine lv_aload_n X.1 X.2.1 dX12_told_37 rfl (lv_at hl 0 rfl) ?_
      refine lv_sipush (v := 173) X.1 X.2.1 dX12_told_38 (by decide) ?_
      refine lv_iconst (v := 2) X.1 X.2.1 dX12_told_41 (by decide) ?_
      refine g_run_i (g_runV (k := 14) [.int 173, .int 2] X hK hP hS hC hB (c_tellsOf hM (w := 173) (by omega) (v := nI sh) (mSite_s hs)) (cwV 2 X.2.2.2.2 gX12_told_X12_tellsOf rfl rfl rfl (by decide +kernel) ⟨Nat.le_of_ble_eq_true rfl, Nat.le_of_ble_eq_true rfl⟩) (hM.1 0 _ rfl) rfl rfl hl.1 rfl (Nat.le_of_ble_eq_true rfl) dX12_told_42 ⟨Nat.zero_le _, Nat.zero_le _⟩) hS (fun r u H locs hq hP hS => ?_)
      obtain ⟨rfl, rfl⟩ := hq
      have hP : gP D cy B z T (gI o 12 M I0) R H := hP
      exact g_iret M X hr hlk hK hP hS dX12_told_45 ⟨rfl, rfl⟩
    · refine lv_iload_n X.1 X.2.1 dX12_told_0 rfl (lv_at hl 1 rfl) ?_
      refine lv_lookup (off := 45) (tgt := 46) X.1 X.2.1 dX12_told_1 (by decide) (gsw2 h4 h5 (by decide) (by decide)) (by decide) ?_
      refine lv_iload_n X.1 X.2.1 dX12_told_46 rfl (lv_at hl 1 rfl) ?_
      refine lv_iconst (v := 0) X.1 X.2.1 dX12_told_47 (by decide) ?_
      refine lv_iconst (v := 3) X.1 X.2.1 dX12_told_48 (by decide) ?_
      refine g_run_i (g_runS [.int q, .int 0, .int 3] X hK hP hS hC hB (c_in _ q 0 3) (va_cwS 3 X.2.2.2.2 gX12_told_X12_in rfl rfl rfl (by decide +kernel) ⟨Nat.le_of_ble_eq_true rfl, Nat.le_of_ble_eq_true rfl⟩) rfl hl.1 rfl (Nat.le_of_ble_eq_true rfl) dX12_told_49 ⟨Nat.zero_le _, Nat.zero_le _⟩) hS (fun r u H locs hq hP hS => ?_)
      obtain ⟨rfl, rfl⟩ := hq
      have hP : gP D cy B z T (gI o 12 M I0) R H := hP
      refine lv_if_eq (tgt := 64) X.1 X.2.1 dX12_told_52 (by decide) (fun c52 => ?_) (fun c52 => ?_)
      · refine lv_iconst (v := (-1)) X.1 X.2.1 dX12_told_64 (by decide) ?_
        exact g_iret M X hr hlk hK hP hS dX12_told_65 ⟨(by unfold fTold; rw [if_neg h4, if_neg h5, if_neg (gt_0 c52)]), rfl⟩
      · refine lv_aload_n X.1 X.2.1 dX12_told_55 rfl (lv_at hl 0 rfl) ?_
        refine m_getr 1 1 X hK hP hM hin rfl (by decide) k9 rfl dX12_told_56 (by decide) ?_
        refine lv_iload_n X.1 X.2.1 dX12_told_59 rfl (lv_at hl 1 rfl) ?_
        obtain ⟨j, hj, ej⟩ := gm_le (n := 3) (by omega) (gt_1 c52)
        refine m_ald 1 j 883 X hK hP hM rfl (gIx_of ej (by omega) (by omega)) dX12_told_60 (show M 1 j = nI (σ j) from (hσ j (by omega) (by omega))) ?_
        refine lv_goto (tgt := 65) X.1 X.2.1 dX12_told_61 (by decide) ?_
        exact g_iret M X hr hlk hK hP hS dX12_told_65 ⟨(by unfold fTold; rw [if_neg h4, if_neg h5, if_pos (gt_1 c52), ej, nI_clamp (by omega)]), rfl⟩

set_option maxHeartbeats 4000000 in
set_option maxRecDepth 100000 in
/-- isOf -/
theorem c_isOf (hM : gMod o T R) (hσ : mS M σ) {μ k1 k2 : Nat} (hμ : μ < 4) (h6 : σ (44 + μ) ≤ 6) (hk1 : k1 ≤ 9) (hk2 : k2 ≤ 9) : Met l yX12_isOf wsX12_isOf ({ frames := 0, cells := 0, slots := 0, locals := 0 }) (mPre s0 D cy B o z T R I0 M [.int (nI μ), .int (nI k1), .int (nI k2)]) (mQi D cy B o z T R I0 (fun r u => r = gt (σ (44 + μ) = k1 ∨ σ (44 + μ) = k2) ∧ M = u)) 0 0 (gA B) := by
  refine g_met (maxL := 4) (ret := (some .boolean)) (by decide) rfl (Nat.le_of_ble_eq_true rfl) (fun p e s m args below meth c ls X hr hlk hnm hK hP hC hS hl => ?_)
  have hl : lv_has ls 4 [(0, .ref o), (1, .int (nI μ)), (2, .int (nI k1)), (3, .int (nI k2))] := hl
  have hP : gP D cy B z T (gI o 12 M I0) R s.heap := hP
  have hB : B ≤ s.heap.size := by rw [hP.1]; exact hP.2.1
  have hin : ∀ w ∈ wsX120, w ∈ wsX12_isOf := fun _ h => List.mem_cons_of_mem _ (List.mem_append_right _ h)
  have k9 : Cond.fieldLink RX12 9 "BarrowPlankModel" "s" "[I" ∈ wsX12_isOf := by decide +kernel
  refine lv_aload_n X.1 X.2.1 dX12_isOf_0 rfl (lv_at hl 0 rfl) ?_
  refine m_getr 1 1 X hK hP hM hin rfl (by decide) k9 rfl dX12_isOf_1 (by decide) ?_
  refine lv_bipush (v := 44) X.1 X.2.1 dX12_isOf_4 (by decide) ?_
  refine lv_iload_n X.1 X.2.1 dX12_isOf_6 rfl (lv_at hl 1 rfl) ?_
  refine lv_iadd X.1 X.2.1 dX12_isOf_7 ?_
  refine m_ald 1 (44 + μ) 883 X hK hP hM rfl (gIx_of (gn_add (show (44 : Int32) = nI 44 from rfl) (Eq.refl (nI μ))) (by omega) (by omega)) dX12_isOf_8 (show M 1 (44 + μ) = nI (σ (44 + μ)) from (hσ (44 + μ) (by omega) (by omega))) ?_
  refine lv_iload_n X.1 X.2.1 dX12_isOf_9 rfl (lv_at hl 2 rfl) ?_
  refine lv_icmp_eq (tgt := 26) X.1 X.2.1 dX12_isOf_10 (by decide) (fun c10 => ?_) (fun c10 => ?_)
  · have n10 : σ (44 + μ) = k1 := gq_eq c10 (Eq.refl (nI (σ (44 + μ)))) (Eq.refl (nI k1)) (by omega) (by omega)
    refine lv_iconst (v := 1) X.1 X.2.1 dX12_isOf_26 (by decide) ?_
    refine lv_goto (tgt := 31) X.1 X.2.1 dX12_isOf_27 (by decide) ?_
    exact g_zret M X hr hlk hK hP hS dX12_isOf_31 rfl ⟨(gt_yes (Or.inl n10)).symm, rfl⟩
  · have n10 : ¬ σ (44 + μ) = k1 := gq_ne c10 (Eq.refl (nI (σ (44 + μ)))) (Eq.refl (nI k1)) (by omega) (by omega)
    refine lv_aload_n X.1 X.2.1 dX12_isOf_13 rfl (lv_at hl 0 rfl) ?_
    refine m_getr 1 1 X hK hP hM hin rfl (by decide) k9 rfl dX12_isOf_14 (by decide) ?_
    refine lv_bipush (v := 44) X.1 X.2.1 dX12_isOf_17 (by decide) ?_
    refine lv_iload_n X.1 X.2.1 dX12_isOf_19 rfl (lv_at hl 1 rfl) ?_
    refine lv_iadd X.1 X.2.1 dX12_isOf_20 ?_
    refine m_ald 1 (44 + μ) 883 X hK hP hM rfl (gIx_of (gn_add (show (44 : Int32) = nI 44 from rfl) (Eq.refl (nI μ))) (by omega) (by omega)) dX12_isOf_21 (show M 1 (44 + μ) = nI (σ (44 + μ)) from (hσ (44 + μ) (by omega) (by omega))) ?_
    refine lv_iload_n X.1 X.2.1 dX12_isOf_22 rfl (lv_at hl 3 rfl) ?_
    refine lv_icmp_ne (tgt := 30) X.1 X.2.1 dX12_isOf_23 (by decide) (fun c23 => ?_) (fun c23 => ?_)
    · have n23 : ¬ σ (44 + μ) = k2 := gq_ne c23 (Eq.refl (nI (σ (44 + μ)))) (Eq.refl (nI k2)) (by omega) (by omega)
      refine lv_iconst (v := 0) X.1 X.2.1 dX12_isOf_30 (by decide) ?_
      exact g_zret M X hr hlk hK hP hS dX12_isOf_31 rfl ⟨(gt_no (fun q => q.elim n10 n23)).symm, rfl⟩
    · have n23 : σ (44 + μ) = k2 := gq_eq c23 (Eq.refl (nI (σ (44 + μ)))) (Eq.refl (nI k2)) (by omega) (by omega)
      refine lv_iconst (v := 1) X.1 X.2.1 dX12_isOf_26 (by decide) ?_
      refine lv_goto (tgt := 31) X.1 X.2.1 dX12_isOf_27 (by decide) ?_
      exact g_zret M X hr hlk hK hP hS dX12_isOf_31 rfl ⟨(gt_yes (Or.inr n23)).symm, rfl⟩

set_option maxHeartbeats 4000000 in
set_option maxRecDepth 100000 in
/-- isNarrow -/
theorem c_isNarrow (hM : gMod o T R) (hσ : mS M σ) {μ υ : Nat} (hμ : μ < 4) (hυ : υ < 10) (h6 : σ (44 + μ) ≤ 6) (h9 : σ (28 + υ) ≤ 9) (hv : σ (48 + μ) ≤ 9) : Met l yX12_isNarrow wsX12_isNarrow ({ frames := 0, cells := 0, slots := 0, locals := 0 }) (mPre s0 D cy B o z T R I0 M [.int (nI μ), .int (nI υ)]) (mQi D cy B o z T R I0 (fun r u => r = gt (σ (44 + μ) = 6 ∧ 0 < σ (28 + υ) ∧ σ (28 + υ) < σ (48 + μ)) ∧ M = u)) 0 0 (gA B) := by
  refine g_met (maxL := 3) (ret := (some .boolean)) (by decide) rfl (Nat.le_of_ble_eq_true rfl) (fun p e s m args below meth c ls X hr hlk hnm hK hP hC hS hl => ?_)
  have hl : lv_has ls 3 [(0, .ref o), (1, .int (nI μ)), (2, .int (nI υ))] := hl
  have hP : gP D cy B z T (gI o 12 M I0) R s.heap := hP
  have hB : B ≤ s.heap.size := by rw [hP.1]; exact hP.2.1
  have hin : ∀ w ∈ wsX120, w ∈ wsX12_isNarrow := fun _ h => List.mem_cons_of_mem _ (List.mem_append_right _ h)
  have k9 : Cond.fieldLink RX12 9 "BarrowPlankModel" "s" "[I" ∈ wsX12_isNarrow := by decide +kernel
  refine lv_aload_n X.1 X.2.1 dX12_isNarrow_0 rfl (lv_at hl 0 rfl) ?_
  refine m_getr 1 1 X hK hP hM hin rfl (by decide) k9 rfl dX12_isNarrow_1 (by decide) ?_
  refine lv_bipush (v := 44) X.1 X.2.1 dX12_isNarrow_4 (by decide) ?_
  refine lv_iload_n X.1 X.2.1 dX12_isNarrow_6 rfl (lv_at hl 1 rfl) ?_
  refine lv_iadd X.1 X.2.1 dX12_isNarrow_7 ?_
  refine m_ald 1 (44 + μ) 883 X hK hP hM rfl (gIx_of (gn_add (show (44 : Int32) = nI 44 from rfl) (Eq.refl (nI μ))) (by omega) (by omega)) dX12_isNarrow_8 (show M 1 (44 + μ) = nI (σ (44 + μ)) from (hσ (44 + μ) (by omega) (by omega))) ?_
  refine lv_bipush (v := 6) X.1 X.2.1 dX12_isNarrow_9 (by decide) ?_
  refine lv_icmp_ne (tgt := 51) X.1 X.2.1 dX12_isNarrow_11 (by decide) (fun c11 => ?_) (fun c11 => ?_)
  · have n11 : ¬ σ (44 + μ) = 6 := gq_ne c11 (Eq.refl (nI (σ (44 + μ)))) (show (6 : Int32) = nI 6 from rfl) (by omega) (by omega)
    refine lv_iconst (v := 0) X.1 X.2.1 dX12_isNarrow_51 (by decide) ?_
    exact g_zret M X hr hlk hK hP hS dX12_isNarrow_52 rfl ⟨(gt_no (fun q => n11 q.1)).symm, rfl⟩
  · have n11 : σ (44 + μ) = 6 := gq_eq c11 (Eq.refl (nI (σ (44 + μ)))) (show (6 : Int32) = nI 6 from rfl) (by omega) (by omega)
    refine lv_aload_n X.1 X.2.1 dX12_isNarrow_14 rfl (lv_at hl 0 rfl) ?_
    refine m_getr 1 1 X hK hP hM hin rfl (by decide) k9 rfl dX12_isNarrow_15 (by decide) ?_
    refine lv_bipush (v := 28) X.1 X.2.1 dX12_isNarrow_18 (by decide) ?_
    refine lv_iload_n X.1 X.2.1 dX12_isNarrow_20 rfl (lv_at hl 2 rfl) ?_
    refine lv_iadd X.1 X.2.1 dX12_isNarrow_21 ?_
    refine m_ald 1 (28 + υ) 883 X hK hP hM rfl (gIx_of (gn_add (show (28 : Int32) = nI 28 from rfl) (Eq.refl (nI υ))) (by omega) (by omega)) dX12_isNarrow_22 (show M 1 (28 + υ) = nI (σ (28 + υ)) from (hσ (28 + υ) (by omega) (by omega))) ?_
    refine lv_if_le (tgt := 51) X.1 X.2.1 dX12_isNarrow_23 (by decide) (fun c23 => ?_) (fun c23 => ?_)
    · have n23 : σ (28 + υ) ≤ 0 := gq_le c23 (Eq.refl (nI (σ (28 + υ)))) (show (0 : Int32) = nI 0 from rfl) (by omega) (by omega)
      refine lv_iconst (v := 0) X.1 X.2.1 dX12_isNarrow_51 (by decide) ?_
      exact g_zret M X hr hlk hK hP hS dX12_isNarrow_52 rfl ⟨(gt_no (fun q => absurd q.2.1 (by omega))).symm, rfl⟩
    · have n23 : 0 < σ (28 + υ) := gq_nle c23 (Eq.refl (nI (σ (28 + υ)))) (show (0 : Int32) = nI 0 from rfl) (by omega) (by omega)
      refine lv_aload_n X.1 X.2.1 dX12_isNarrow_26 rfl (lv_at hl 0 rfl) ?_
      refine m_getr 1 1 X hK hP hM hin rfl (by decide) k9 rfl dX12_isNarrow_27 (by decide) ?_
      refine lv_bipush (v := 28) X.1 X.2.1 dX12_isNarrow_30 (by decide) ?_
      refine lv_iload_n X.1 X.2.1 dX12_isNarrow_32 rfl (lv_at hl 2 rfl) ?_
      refine lv_iadd X.1 X.2.1 dX12_isNarrow_33 ?_
      refine m_ald 1 (28 + υ) 883 X hK hP hM rfl (gIx_of (gn_add (show (28 : Int32) = nI 28 from rfl) (Eq.refl (nI υ))) (by omega) (by omega)) dX12_isNarrow_34 (show M 1 (28 + υ) = nI (σ (28 + υ)) from (hσ (28 + υ) (by omega) (by omega))) ?_
      refine lv_aload_n X.1 X.2.1 dX12_isNarrow_35 rfl (lv_at hl 0 rfl) ?_
      refine m_getr 1 1 X hK hP hM hin rfl (by decide) k9 rfl dX12_isNarrow_36 (by decide) ?_
      refine lv_bipush (v := 48) X.1 X.2.1 dX12_isNarrow_39 (by decide) ?_
      refine lv_iload_n X.1 X.2.1 dX12_isNarrow_41 rfl (lv_at hl 1 rfl) ?_
      refine lv_iadd X.1 X.2.1 dX12_isNarrow_42 ?_
      refine m_ald 1 (48 + μ) 883 X hK hP hM rfl (gIx_of (gn_add (show (48 : Int32) = nI 48 from rfl) (Eq.refl (nI μ))) (by omega) (by omega)) dX12_isNarrow_43 (show M 1 (48 + μ) = nI (σ (48 + μ)) from (hσ (48 + μ) (by omega) (by omega))) ?_
      refine lv_icmp_ge (tgt := 51) X.1 X.2.1 dX12_isNarrow_44 (by decide) (fun c44 => ?_) (fun c44 => ?_)
      · have n44 : σ (48 + μ) ≤ σ (28 + υ) := gq_le c44 (Eq.refl (nI (σ (48 + μ)))) (Eq.refl (nI (σ (28 + υ)))) (by omega) (by omega)
        refine lv_iconst (v := 0) X.1 X.2.1 dX12_isNarrow_51 (by decide) ?_
        exact g_zret M X hr hlk hK hP hS dX12_isNarrow_52 rfl ⟨(gt_no (fun q => absurd q.2.2 (by omega))).symm, rfl⟩
      · have n44 : σ (28 + υ) < σ (48 + μ) := gq_nle c44 (Eq.refl (nI (σ (48 + μ)))) (Eq.refl (nI (σ (28 + υ)))) (by omega) (by omega)
        refine lv_iconst (v := 1) X.1 X.2.1 dX12_isNarrow_47 (by decide) ?_
        refine lv_goto (tgt := 52) X.1 X.2.1 dX12_isNarrow_48 (by decide) ?_
        exact g_zret M X hr hlk hK hP hS dX12_isNarrow_52 rfl ⟨(gt_yes ⟨n11, (by omega), (by omega)⟩).symm, rfl⟩

set_option maxHeartbeats 4000000 in
set_option maxRecDepth 100000 in
/-- comes -/
theorem c_comes (hM : gMod o T R) (hσ : mS M σ) (hb : sBd σ K) {μ ld : Nat} (hμ : μ < 4) (hc : ld ≤ 20) : Met l yX12_comes wsX12_comes ({ frames := 1, cells := 0, slots := 0, locals := 23 }) (mPre s0 D cy B o z T R I0 M [.int (nI μ), .int (nI ld)]) (mQi D cy B o z T R I0 (fun r u => r = nI (sCm σ μ ld) ∧ M = u)) 0 0 (gA B) := by
  refine g_met (maxL := 4) (ret := (some .int)) (by decide) rfl (Nat.le_of_ble_eq_true rfl) (fun p e s m args below meth c ls X hr hlk hnm hK hP hC hS hl => ?_)
  have hl : lv_has ls 4 [(0, .ref o), (1, .int (nI μ)), (2, .int (nI ld))] := hl
  have hP : gP D cy B z T (gI o 12 M I0) R s.heap := hP
  have hB : B ≤ s.heap.size := by rw [hP.1]; exact hP.2.1
  have hin : ∀ w ∈ wsX120, w ∈ wsX12_comes := fun _ h => List.mem_cons_of_mem _ (List.mem_append_right _ h)
  have k9 : Cond.fieldLink RX12 9 "BarrowPlankModel" "s" "[I" ∈ wsX12_comes := by decide +kernel
  have b44 : σ (44 + μ) ≤ 6 := (hb.2.2.2.2.2.2.2.2.1 μ hμ).1
  have b48 : σ (48 + μ) ≤ 9 := (hb.2.2.2.2.2.2.2.2.1 μ hμ).2.1
  have b52 : σ (52 + μ) ≤ 20 := (hb.2.2.2.2.2.2.2.2.1 μ hμ).2.2
  have b4 : σ (4 + μ) ≤ 99 := hb.2.2.1 μ hμ
  have b0 : σ 0 ≤ 999 := hb.1
  refine lv_iload_n X.1 X.2.1 dX12_comes_0 rfl (lv_at hl 2 rfl) ?_
  refine lv_aload_n X.1 X.2.1 dX12_comes_1 rfl (lv_at hl 0 rfl) ?_
  refine lv_iload_n X.1 X.2.1 dX12_comes_2 rfl (lv_at hl 1 rfl) ?_
  refine lv_iconst (v := 1) X.1 X.2.1 dX12_comes_3 (by decide) ?_
  refine lv_iconst (v := 4) X.1 X.2.1 dX12_comes_4 (by decide) ?_
  refine g_run_i (g_runV (k := 14) [.int (nI μ), .int 1, .int 4] X hK hP hS hC hB (c_isOf hM hσ (μ := μ) (k1 := 1) (k2 := 4) (by omega) (by omega) (by omega) (by omega)) (cwV 3 X.2.2.2.2 gX12_comes_X12_isOf rfl rfl rfl (by decide +kernel) ⟨Nat.le_of_ble_eq_true rfl, Nat.le_of_ble_eq_true rfl⟩) (hM.1 0 _ rfl) rfl rfl hl.1 rfl (Nat.le_of_ble_eq_true rfl) dX12_comes_5 ⟨Nat.zero_le _, Nat.zero_le _⟩) hS (fun r u H locs hq hP hS => ?_)
  obtain ⟨rfl, rfl⟩ := hq
  have hP : gP D cy B z T (gI o 12 M I0) R H := hP
  refine lv_if_eq (tgt := 23) X.1 X.2.1 dX12_comes_8 (by decide) (fun c8 => ?_) (fun c8 => ?_)
  · refine lv_iconst (v := 0) X.1 X.2.1 dX12_comes_23 (by decide) ?_
    refine lv_iadd X.1 X.2.1 dX12_comes_24 ?_
    refine lv_istore_n (lv' := [(3, .int ((nI ld) + 0)), (0, .ref o), (1, .int (nI μ)), (2, .int (nI ld))]) X.1 X.2.1 dX12_comes_25 rfl hl (by decide) rfl (fun ls hl => ?_)
    refine lv_iload_n X.1 X.2.1 dX12_comes_26 rfl (lv_at hl 0 rfl) ?_
    refine lv_bipush (v := 20) X.1 X.2.1 dX12_comes_27 (by decide) ?_
    refine lv_icmp_le (tgt := 37) X.1 X.2.1 dX12_comes_29 (by decide) (fun c29 => ?_) (fun c29 => ?_)
    · have n29 : (ld + 0) ≤ 20 := gq_le c29 (gn_add (Eq.refl (nI ld)) (show (0 : Int32) = nI 0 from rfl)) (show (20 : Int32) = nI 20 from rfl) (by omega) (by omega)
      refine lv_iload_n X.1 X.2.1 dX12_comes_37 rfl (lv_at hl 0 rfl) ?_
      refine lv_istore_n (lv' := [(3, .int ((nI ld) + 0)), (0, .ref o), (1, .int (nI μ)), (2, .int (nI ld))]) X.1 X.2.1 dX12_comes_38 rfl hl (by decide) rfl (fun ls hl => ?_)
      refine lv_iload_n X.1 X.2.1 dX12_comes_39 rfl (lv_at hl 0 rfl) ?_
      refine lv_aload_n X.1 X.2.1 dX12_comes_40 rfl (lv_at hl 1 rfl) ?_
      refine m_getr 1 1 X hK hP hM hin rfl (by decide) k9 rfl dX12_comes_41 (by decide) ?_
      refine lv_iconst (v := 0) X.1 X.2.1 dX12_comes_44 (by decide) ?_
      refine m_ald 1 0 883 X hK hP hM rfl (gIx_of (show (0 : Int32) = nI 0 from rfl) (by omega) (by omega)) dX12_comes_45 (show M 1 0 = nI (σ 0) from (hσ 0 (by omega) (by omega))) ?_
      refine lv_icmp_le (tgt := 58) X.1 X.2.1 dX12_comes_46 (by decide) (fun c46 => ?_) (fun c46 => ?_)
      · have n46 : (ld + 0) ≤ σ 0 := gq_le c46 (gn_add (Eq.refl (nI ld)) (show (0 : Int32) = nI 0 from rfl)) (Eq.refl (nI (σ 0))) (by omega) (by omega)
        refine lv_iload_n X.1 X.2.1 dX12_comes_58 rfl (lv_at hl 0 rfl) ?_
        exact g_iret M X hr hlk hK hP hS dX12_comes_59 ⟨((gn_add (Eq.refl (nI ld)) (show (0 : Int32) = nI 0 from rfl))).trans (congrArg nI (by unfold sCm; rw [if_neg (gt_0 c8)]; omega)), rfl⟩
      · have n46 : σ 0 < (ld + 0) := gq_nle c46 (gn_add (Eq.refl (nI ld)) (show (0 : Int32) = nI 0 from rfl)) (Eq.refl (nI (σ 0))) (by omega) (by omega)
        refine lv_aload_n X.1 X.2.1 dX12_comes_49 rfl (lv_at hl 1 rfl) ?_
        refine m_getr 1 1 X hK hP hM hin rfl (by decide) k9 rfl dX12_comes_50 (by decide) ?_
        refine lv_iconst (v := 0) X.1 X.2.1 dX12_comes_53 (by decide) ?_
        refine m_ald 1 0 883 X hK hP hM rfl (gIx_of (show (0 : Int32) = nI 0 from rfl) (by omega) (by omega)) dX12_comes_54 (show M 1 0 = nI (σ 0) from (hσ 0 (by omega) (by omega))) ?_
        refine lv_goto (tgt := 59) X.1 X.2.1 dX12_comes_55 (by decide) ?_
        exact g_iret M X hr hlk hK hP hS dX12_comes_59 ⟨((Eq.refl (nI (σ 0)))).trans (congrArg nI (by unfold sCm; rw [if_neg (gt_0 c8)]; omega)), rfl⟩
    · have n29 : 20 < (ld + 0) := gq_nle c29 (gn_add (Eq.refl (nI ld)) (show (0 : Int32) = nI 0 from rfl)) (show (20 : Int32) = nI 20 from rfl) (by omega) (by omega)
      refine lv_bipush (v := 20) X.1 X.2.1 dX12_comes_32 (by decide) ?_
      refine lv_goto (tgt := 38) X.1 X.2.1 dX12_comes_34 (by decide) ?_
      refine lv_istore_n (lv' := [(3, .int 20), (0, .ref o), (1, .int (nI μ)), (2, .int (nI ld))]) X.1 X.2.1 dX12_comes_38 rfl hl (by decide) rfl (fun ls hl => ?_)
      refine lv_iload_n X.1 X.2.1 dX12_comes_39 rfl (lv_at hl 0 rfl) ?_
      refine lv_aload_n X.1 X.2.1 dX12_comes_40 rfl (lv_at hl 1 rfl) ?_
      refine m_getr 1 1 X hK hP hM hin rfl (by decide) k9 rfl dX12_comes_41 (by decide) ?_
      refine lv_iconst (v := 0) X.1 X.2.1 dX12_comes_44 (by decide) ?_
      refine m_ald 1 0 883 X hK hP hM rfl (gIx_of (show (0 : Int32) = nI 0 from rfl) (by omega) (by omega)) dX12_comes_45 (show M 1 0 = nI (σ 0) from (hσ 0 (by omega) (by omega))) ?_
      refine lv_icmp_le (tgt := 58) X.1 X.2.1 dX12_comes_46 (by decide) (fun c46 => ?_) (fun c46 => ?_)
      · have n46 : 20 ≤ σ 0 := gq_le c46 (show (20 : Int32) = nI 20 from rfl) (Eq.refl (nI (σ 0))) (by omega) (by omega)
        refine lv_iload_n X.1 X.2.1 dX12_comes_58 rfl (lv_at hl 0 rfl) ?_
        exact g_iret M X hr hlk hK hP hS dX12_comes_59 ⟨((show (20 : Int32) = nI 20 from rfl)).trans (congrArg nI (by unfold sCm; rw [if_neg (gt_0 c8)]; omega)), rfl⟩
      · have n46 : σ 0 < 20 := gq_nle c46 (show (20 : Int32) = nI 20 from rfl) (Eq.refl (nI (σ 0))) (by omega) (by omega)
        refine lv_aload_n X.1 X.2.1 dX12_comes_49 rfl (lv_at hl 1 rfl) ?_
        refine m_getr 1 1 X hK hP hM hin rfl (by decide) k9 rfl dX12_comes_50 (by decide) ?_
        refine lv_iconst (v := 0) X.1 X.2.1 dX12_comes_53 (by decide) ?_
        refine m_ald 1 0 883 X hK hP hM rfl (gIx_of (show (0 : Int32) = nI 0 from rfl) (by omega) (by omega)) dX12_comes_54 (show M 1 0 = nI (σ 0) from (hσ 0 (by omega) (by omega))) ?_
        refine lv_goto (tgt := 59) X.1 X.2.1 dX12_comes_55 (by decide) ?_
        exact g_iret M X hr hlk hK hP hS dX12_comes_59 ⟨((Eq.refl (nI (σ 0)))).trans (congrArg nI (by unfold sCm; rw [if_neg (gt_0 c8)]; omega)), rfl⟩
  · refine lv_aload_n X.1 X.2.1 dX12_comes_11 rfl (lv_at hl 0 rfl) ?_
    refine m_getr 1 1 X hK hP hM hin rfl (by decide) k9 rfl dX12_comes_12 (by decide) ?_
    refine lv_bipush (v := 48) X.1 X.2.1 dX12_comes_15 (by decide) ?_
    refine lv_iload_n X.1 X.2.1 dX12_comes_17 rfl (lv_at hl 1 rfl) ?_
    refine lv_iadd X.1 X.2.1 dX12_comes_18 ?_
    refine m_ald 1 (48 + μ) 883 X hK hP hM rfl (gIx_of (gn_add (show (48 : Int32) = nI 48 from rfl) (Eq.refl (nI μ))) (by omega) (by omega)) dX12_comes_19 (show M 1 (48 + μ) = nI (σ (48 + μ)) from (hσ (48 + μ) (by omega) (by omega))) ?_
    refine lv_goto (tgt := 24) X.1 X.2.1 dX12_comes_20 (by decide) ?_
    refine lv_iadd X.1 X.2.1 dX12_comes_24 ?_
    refine lv_istore_n (lv' := [(3, .int ((nI ld) + (nI (σ (48 + μ))))), (0, .ref o), (1, .int (nI μ)), (2, .int (nI ld))]) X.1 X.2.1 dX12_comes_25 rfl hl (by decide) rfl (fun ls hl => ?_)
    refine lv_iload_n X.1 X.2.1 dX12_comes_26 rfl (lv_at hl 0 rfl) ?_
    refine lv_bipush (v := 20) X.1 X.2.1 dX12_comes_27 (by decide) ?_
    refine lv_icmp_le (tgt := 37) X.1 X.2.1 dX12_comes_29 (by decide) (fun c29 => ?_) (fun c29 => ?_)
    · have n29 : (ld + σ (48 + μ)) ≤ 20 := gq_le c29 (gn_add (Eq.refl (nI ld)) (Eq.refl (nI (σ (48 + μ))))) (show (20 : Int32) = nI 20 from rfl) (by omega) (by omega)
      refine lv_iload_n X.1 X.2.1 dX12_comes_37 rfl (lv_at hl 0 rfl) ?_
      refine lv_istore_n (lv' := [(3, .int ((nI ld) + (nI (σ (48 + μ))))), (0, .ref o), (1, .int (nI μ)), (2, .int (nI ld))]) X.1 X.2.1 dX12_comes_38 rfl hl (by decide) rfl (fun ls hl => ?_)
      refine lv_iload_n X.1 X.2.1 dX12_comes_39 rfl (lv_at hl 0 rfl) ?_
      refine lv_aload_n X.1 X.2.1 dX12_comes_40 rfl (lv_at hl 1 rfl) ?_
      refine m_getr 1 1 X hK hP hM hin rfl (by decide) k9 rfl dX12_comes_41 (by decide) ?_
      refine lv_iconst (v := 0) X.1 X.2.1 dX12_comes_44 (by decide) ?_
      refine m_ald 1 0 883 X hK hP hM rfl (gIx_of (show (0 : Int32) = nI 0 from rfl) (by omega) (by omega)) dX12_comes_45 (show M 1 0 = nI (σ 0) from (hσ 0 (by omega) (by omega))) ?_
      refine lv_icmp_le (tgt := 58) X.1 X.2.1 dX12_comes_46 (by decide) (fun c46 => ?_) (fun c46 => ?_)
      · have n46 : (ld + σ (48 + μ)) ≤ σ 0 := gq_le c46 (gn_add (Eq.refl (nI ld)) (Eq.refl (nI (σ (48 + μ))))) (Eq.refl (nI (σ 0))) (by omega) (by omega)
        refine lv_iload_n X.1 X.2.1 dX12_comes_58 rfl (lv_at hl 0 rfl) ?_
        exact g_iret M X hr hlk hK hP hS dX12_comes_59 ⟨((gn_add (Eq.refl (nI ld)) (Eq.refl (nI (σ (48 + μ)))))).trans (congrArg nI (by unfold sCm; rw [if_pos (gt_1 c8)]; omega)), rfl⟩
      · have n46 : σ 0 < (ld + σ (48 + μ)) := gq_nle c46 (gn_add (Eq.refl (nI ld)) (Eq.refl (nI (σ (48 + μ))))) (Eq.refl (nI (σ 0))) (by omega) (by omega)
        refine lv_aload_n X.1 X.2.1 dX12_comes_49 rfl (lv_at hl 1 rfl) ?_
        refine m_getr 1 1 X hK hP hM hin rfl (by decide) k9 rfl dX12_comes_50 (by decide) ?_
        refine lv_iconst (v := 0) X.1 X.2.1 dX12_comes_53 (by decide) ?_
        refine m_ald 1 0 883 X hK hP hM rfl (gIx_of (show (0 : Int32) = nI 0 from rfl) (by omega) (by omega)) dX12_comes_54 (show M 1 0 = nI (σ 0) from (hσ 0 (by omega) (by omega))) ?_
        refine lv_goto (tgt := 59) X.1 X.2.1 dX12_comes_55 (by decide) ?_
        exact g_iret M X hr hlk hK hP hS dX12_comes_59 ⟨((Eq.refl (nI (σ 0)))).trans (congrArg nI (by unfold sCm; rw [if_pos (gt_1 c8)]; omega)), rfl⟩
    · have n29 : 20 < (ld + σ (48 + μ)) := gq_nle c29 (gn_add (Eq.refl (nI ld)) (Eq.refl (nI (σ (48 + μ))))) (show (20 : Int32) = nI 20 from rfl) (by omega) (by omega)
      refine lv_bipush (v := 20) X.1 X.2.1 dX12_comes_32 (by decide) ?_
      refine lv_goto (tgt := 38) X.1 X.2.1 dX12_comes_34 (by decide) ?_
      refine lv_istore_n (lv' := [(3, .int 20), (0, .ref o), (1, .int (nI μ)), (2, .int (nI ld))]) X.1 X.2.1 dX12_comes_38 rfl hl (by decide) rfl (fun ls hl => ?_)
      refine lv_iload_n X.1 X.2.1 dX12_comes_39 rfl (lv_at hl 0 rfl) ?_
      refine lv_aload_n X.1 X.2.1 dX12_comes_40 rfl (lv_at hl 1 rfl) ?_
      refine m_getr 1 1 X hK hP hM hin rfl (by decide) k9 rfl dX12_comes_41 (by decide) ?_
      refine lv_iconst (v := 0) X.1 X.2.1 dX12_comes_44 (by decide) ?_
      refine m_ald 1 0 883 X hK hP hM rfl (gIx_of (show (0 : Int32) = nI 0 from rfl) (by omega) (by omega)) dX12_comes_45 (show M 1 0 = nI (σ 0) from (hσ 0 (by omega) (by omega))) ?_
      refine lv_icmp_le (tgt := 58) X.1 X.2.1 dX12_comes_46 (by decide) (fun c46 => ?_) (fun c46 => ?_)
      · have n46 : 20 ≤ σ 0 := gq_le c46 (show (20 : Int32) = nI 20 from rfl) (Eq.refl (nI (σ 0))) (by omega) (by omega)
        refine lv_iload_n X.1 X.2.1 dX12_comes_58 rfl (lv_at hl 0 rfl) ?_
        exact g_iret M X hr hlk hK hP hS dX12_comes_59 ⟨((show (20 : Int32) = nI 20 from rfl)).trans (congrArg nI (by unfold sCm; rw [if_pos (gt_1 c8)]; omega)), rfl⟩
      · have n46 : σ 0 < 20 := gq_nle c46 (show (20 : Int32) = nI 20 from rfl) (Eq.refl (nI (σ 0))) (by omega) (by omega)
        refine lv_aload_n X.1 X.2.1 dX12_comes_49 rfl (lv_at hl 1 rfl) ?_
        refine m_getr 1 1 X hK hP hM hin rfl (by decide) k9 rfl dX12_comes_50 (by decide) ?_
        refine lv_iconst (v := 0) X.1 X.2.1 dX12_comes_53 (by decide) ?_
        refine m_ald 1 0 883 X hK hP hM rfl (gIx_of (show (0 : Int32) = nI 0 from rfl) (by omega) (by omega)) dX12_comes_54 (show M 1 0 = nI (σ 0) from (hσ 0 (by omega) (by omega))) ?_
        refine lv_goto (tgt := 59) X.1 X.2.1 dX12_comes_55 (by decide) ?_
        exact g_iret M X hr hlk hK hP hS dX12_comes_59 ⟨((Eq.refl (nI (σ 0)))).trans (congrArg nI (by unfold sCm; rw [if_pos (gt_1 c8)]; omega)), rfl⟩

end ME
