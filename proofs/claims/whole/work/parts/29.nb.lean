section MZ9
variable {l : Launch} {s0 : State} {D : va_G} {cy : Nat → ClassId} {B o z : Nat} {T : Nat → Nat × Nat} {R : Nat → Nat → Option Nat} {I0 : Nat → Nat → Int32} {M : Nat → Nat → Int32} {tp : Nat → Nat} {n act i op : Nat} {L : List Nat} {tx : List Nat} {a q : Nat}
theorem pFig_t : pFig tp n (true, i, L) = ((true, i, L), 0) := by
  unfold pFig
  rw [if_neg (fun q => by cases q.1)]
theorem pFig_n (h : ¬ isD (sH tp n i)) : pFig tp n (false, i, L) = ((true, i, L), 0) := by
  unfold pFig
  rw [if_neg (fun q => h q.2)]
theorem pFig_1 (h : isD (sH tp n i)) (h2 : ¬ (48 < sH tp n i ∧ isD (sH tp n (i + 1)))) : pFig tp n (false, i, L) = ((false, i + 1, L), sH tp n i - 48) := by
  unfold pFig
  rw [if_pos ⟨rfl, h⟩, if_neg h2]
theorem pFig_2 (h : isD (sH tp n i)) (h2 : 48 < sH tp n i ∧ isD (sH tp n (i + 1))) : pFig tp n (false, i, L) = ((false, i + 2, L), 10 * (sH tp n i - 48) + (sH tp n (i + 1) - 48)) := by
  unfold pFig
  rw [if_pos ⟨rfl, h⟩, if_pos h2]
theorem fg1 {x : Nat} (h : isD x) : (10 : Int32) * 0 + hI x - 48 = nI (x - 48) := by
  rw [hI_of (by unfold isD at h; omega), show (10 : Int32) * 0 = nI 0 from rfl, nI_add, Nat.zero_add]
  exact gn_sub (Eq.refl (nI x)) (show (48 : Int32) = nI 48 from rfl) h.1
theorem fg2 {x v : Nat} (h : isD x) : (10 : Int32) * nI v + hI x - 48 = nI (10 * v + (x - 48)) := by
  rw [hI_of (by unfold isD at h; omega), show (10 : Int32) = nI 10 from rfl, pk_mul, nI_add, gn_sub (Eq.refl (nI (10 * v + x))) (show (48 : Int32) = nI 48 from rfl) (by unfold isD at h; omega)]
  congr 1
  unfold isD at h
  omega
theorem bI_1 {b : Bool} (h : ¬ bI b = 0) : b = true := by cases b <;> simp [bI] at h ⊢
theorem bI_0 {b : Bool} (h : bI b = 0) : b = false := by cases b <;> simp [bI] at h ⊢
def d9 (b i : Nat) : Prop := b = 0 ∧ (i = 6 ∨ i = 8 ∨ i = 9)
def pS9 (act b i : Nat) : Prop := pS act b i ∨ (b = 0 ∧ i = 9)
theorem mPz_9 {M2 : Nat → Nat → Int32} (h : mPz M tp n act) (hk : mSame (pS9 act) M M2) : mPz M2 tp n act :=
  ⟨h.1, (hk 0 5 (by unfold pS9 pS wS; omega)).trans h.2.1, (hk 0 7 (by unfold pS9 pS wS; omega)).trans h.2.2.1, fun k g => (hk 1 (68 + k) (by unfold pS9 pS wS; omega)).trans (h.2.2.2 k g)⟩
theorem mLs_d {M2 : Nat → Nat → Int32} (h : mLs M act L) (hk : mSame d9 M M2) : mLs M2 act L :=
  ⟨(hk 1 _ (by unfold d9; omega)).trans h.1, fun k g => (hk 1 _ (by unfold d9; omega)).trans (h.2 k g)⟩
theorem d9_S {b j : Nat} (h : ¬ pS9 act b j) : ¬ d9 b j := by unfold pS9 pS wS at h; unfold d9; omega
theorem pS9_S {b j : Nat} (h : ¬ pS9 act b j) : ¬ pS act b j := fun q => h (Or.inl q)
theorem pS_w {b j : Nat} (h : ¬ pS9 act b j) : ¬ wS b j := fun q => h (Or.inl (Or.inl q))
def mPs (M : Nat → Nat → Int32) (act : Nat) (s1 : PS) : Prop := mWp M s1 ∧ mLs M act s1.2.2
theorem mLs_push {M1 M2 : Nat → Nat → Int32} {x y : Int32} {t k2 j2 : Nat} (h : mLs M act L) (ha : act < 5) (hL : L.length ≤ 100) (e1 : g2 M 1 k2 x = M1) (e2 : g2 M1 1 j2 y = M2) (hk2 : k2 = 183 + 140 * act + L.length) (hj2 : j2 = 178 + act) (hx : x = encR t) (hy : y = nI (L.length + 1)) : mLs M2 act (L ++ [t]) := by
  refine ⟨(gs_same' e2 hj2.symm).trans (by rw [hy, List.length_append]; rfl), fun k hk => ?_⟩
  rw [List.length_append] at hk
  simp only [List.length_cons, List.length_nil] at hk
  by_cases e : k = L.length
  · subst e
    refine gs_ne e2 (by omega) ((gs_same' e1 (by omega)).trans ?_)
    rw [hx]
    congr 1
    simp
  · refine gs_ne e2 (by omega) (gs_ne e1 (by omega) ((h.2 k (by omega)).trans ?_))
    congr 1
    have hk2 : k < L.length := by omega
    simp [List.getD_eq_getElem?_getD, List.getElem?_append_left hk2]

set_option maxHeartbeats 4000000 in
set_option maxRecDepth 100000 in
/-- figures -/
theorem c_figures (hM : gMod o T R) {s1 : PS} (hz : mPz M tp n act) (hp : mWp M s1) (hi3 : s1.2.1 ≤ n) : Met l yX12_figures wsX12_figures ({ frames := 1, cells := 0, slots := 0, locals := 22 }) (mPre s0 D cy B o z T R I0 M []) (mQi D cy B o z T R I0 (fun r u => r = nI (pFig tp n s1).2 ∧ mWp u (pFig tp n s1).1 ∧ mSame wS M u)) 0 0 (gA B) := by
  refine g_met (maxL := 3) (ret := (some .int)) (by decide) rfl (Nat.le_of_ble_eq_true rfl) (fun p e s m args below meth c ls X hr hlk hnm hK hP hC hS hl => ?_)
  have hl : lv_has ls 3 [(0, .ref o)] := hl
  have hP : gP D cy B z T (gI o 12 M I0) R s.heap := hP
  have hB : B ≤ s.heap.size := by rw [hP.1]; exact hP.2.1
  have hin : ∀ w ∈ wsX120, w ∈ wsX12_figures := fun _ h => List.mem_cons_of_mem _ (List.mem_append_right _ h)
  have k57 : Cond.fieldLink RX12 57 "BarrowPlankModel" "spot" "I" ∈ wsX12_figures := by decide +kernel
  have k63 : Cond.fieldLink RX12 63 "BarrowPlankModel" "isWrong" "Z" ∈ wsX12_figures := by decide +kernel
  obtain ⟨ha5, hn100, htp⟩ := hz.1
  obtain ⟨wr, i, L⟩ := s1
  obtain ⟨h6, h8⟩ := hp
  have h6 : M 0 6 = nI i := h6
  have hi3 : i ≤ n := hi3
  cases wr with
  | true =>
    have h8 : M 0 8 = 1 := h8
    refine lv_aload_n X.1 X.2.1 dX12_figures_0 rfl (lv_at hl 0 rfl) ?_
    refine lv_aload_n X.1 X.2.1 dX12_figures_1 rfl (lv_at hl 0 rfl) ?_
    refine m_geti 8 X hK hP hM hin rfl (by decide) k63 rfl dX12_figures_2 (show M 0 8 = 1 from h8) ?_
    refine lv_if_ne (tgt := 22) X.1 X.2.1 dX12_figures_5 (by decide) (fun c5 => ?_) (fun c5 => ?_)
    · have n5 : ¬ 1 = 0 := gq_ne c5 (show (1 : Int32) = nI 1 from rfl) (show (0 : Int32) = nI 0 from rfl) (by omega) (by omega)
      refine lv_iconst (v := 1) X.1 X.2.1 dX12_figures_22 (by decide) ?_
      refine lv_goto (tgt := 27) X.1 X.2.1 dX12_figures_23 (by decide) ?_
      refine m_puti 8 X hK hP hS hM hin rfl (by decide) k63 rfl rfl rfl rfl dX12_figures_27 (fun H locs hP hS => ?_)
      generalize eM1 : g2 M 0 8 1 = M1 at hP
      refine lv_iconst (v := 0) X.1 X.2.1 dX12_figures_30 (by decide) ?_
      refine lv_istore_n (lv' := [(1, .int 0), (0, .ref o)]) X.1 X.2.1 dX12_figures_31 rfl hl (by decide) rfl (fun ls hl => ?_)
      refine lv_iconst (v := 0) X.1 X.2.1 dX12_figures_32 (by decide) ?_
      refine lv_istore_n (lv' := [(2, .int 0), (1, .int 0), (0, .ref o)]) X.1 X.2.1 dX12_figures_33 rfl hl (by decide) rfl (fun ls hl => ?_)
      refine lv_iload_n X.1 X.2.1 dX12_figures_34 rfl (lv_at hl 0 rfl) ?_
      refine lv_iconst (v := 2) X.1 X.2.1 dX12_figures_35 (by decide) ?_
      refine lv_icmp_ge (tgt := 97) X.1 X.2.1 dX12_figures_36 (by decide) (fun c36 => ?_) (fun c36 => ?_)
      · exact absurd c36 (by decide)
      · have n36 : 0 < 2 := gq_nle c36 (show (2 : Int32) = nI 2 from rfl) (show (0 : Int32) = nI 0 from rfl) (by omega) (by omega)
        refine lv_aload_n X.1 X.2.1 dX12_figures_39 rfl (lv_at hl 2 rfl) ?_
        refine m_geti 8 X hK hP hM hin rfl (by decide) k63 rfl dX12_figures_40 (show M1 0 8 = 1 from (gs_same eM1)) ?_
        refine lv_if_ne (tgt := 97) X.1 X.2.1 dX12_figures_43 (by decide) (fun c43 => ?_) (fun c43 => ?_)
        · have n43 : ¬ 1 = 0 := gq_ne c43 (show (1 : Int32) = nI 1 from rfl) (show (0 : Int32) = nI 0 from rfl) (by omega) (by omega)
          refine lv_iload_n X.1 X.2.1 dX12_figures_97 rfl (lv_at hl 1 rfl) ?_
          exact g_iret M1 X hr hlk hK hP hS dX12_figures_98 (by rw [show pFig tp n (true, i, L) = _ from pFig_t]; exact ⟨rfl, ⟨((gs_ne eM1 (by omega) h6)).trans (gn_eq (x := i) ((Eq.refl (nI i))) (by rfl)), (gs_same eM1)⟩, fun b i h => by unfold wS at h; exact (gs_ne eM1 (by omega) rfl)⟩)
        · exact absurd c43 (by decide)
    · exact absurd c5 (by decide)
  | false =>
    have h8 : M 0 8 = 0 := h8
    refine lv_aload_n X.1 X.2.1 dX12_figures_0 rfl (lv_at hl 0 rfl) ?_
    refine lv_aload_n X.1 X.2.1 dX12_figures_1 rfl (lv_at hl 0 rfl) ?_
    refine m_geti 8 X hK hP hM hin rfl (by decide) k63 rfl dX12_figures_2 (show M 0 8 = 0 from h8) ?_
    refine lv_if_ne (tgt := 22) X.1 X.2.1 dX12_figures_5 (by decide) (fun c5 => ?_) (fun c5 => ?_)
    · exact absurd rfl c5
    · have n5 : 0 = 0 := gq_eq c5 (show (0 : Int32) = nI 0 from rfl) (show (0 : Int32) = nI 0 from rfl) (by omega) (by omega)
      refine lv_aload_n X.1 X.2.1 dX12_figures_8 rfl (lv_at hl 0 rfl) ?_
      have hz2 : mPz M tp n act := mPz_w hz (fun b j h => by unfold wS at h; exact rfl)
      refine g_run_i (g_runV (k := 14) [] X hK hP hS hC hB (c_here hM hz2 ((h6).trans (Eq.refl (nI i))) (by omega)) (cwV 0 X.2.2.2.2 gX12_figures_X12_here rfl rfl rfl (by decide +kernel) ⟨Nat.le_of_ble_eq_true rfl, Nat.le_of_ble_eq_true rfl⟩) (hM.1 0 _ rfl) rfl rfl hl.1 rfl (Nat.le_of_ble_eq_true rfl) dX12_figures_9 (by exact ⟨Nat.zero_le _, Nat.zero_le _⟩)) hS (fun r u H locs hq hP hS => ?_)
      obtain ⟨rfl, rfl⟩ := hq
      have hP : gP D cy B z T (gI o 12 M I0) R H := hP
      refine lv_bipush (v := 48) X.1 X.2.1 dX12_figures_12 (by decide) ?_
      refine lv_bipush (v := 57) X.1 X.2.1 dX12_figures_14 (by decide) ?_
      refine g_run_i (g_runS [.int (hI (sH tp n i)), .int 48, .int 57] X hK hP hS hC hB (c_in _ (hI (sH tp n i)) 48 57) (va_cwS 3 X.2.2.2.2 gX12_figures_X12_in rfl rfl rfl (by decide +kernel) ⟨Nat.le_of_ble_eq_true rfl, Nat.le_of_ble_eq_true rfl⟩) rfl hl.1 rfl (Nat.le_of_ble_eq_true rfl) dX12_figures_16 (by exact ⟨Nat.zero_le _, Nat.zero_le _⟩)) hS (fun r u H locs hq hP hS => ?_)
      obtain ⟨rfl, rfl⟩ := hq
      have hP : gP D cy B z T (gI o 12 M I0) R H := hP
      refine lv_if_ne (tgt := 26) X.1 X.2.1 dX12_figures_19 (by decide) (fun c19 => ?_) (fun c19 => ?_)
      · have hd1 : isD (sH tp n i) := hI_d.mp (gt_1 c19)
        have hin1 := sH_d hd1
        refine lv_iconst (v := 0) X.1 X.2.1 dX12_figures_26 (by decide) ?_
        refine m_puti 8 X hK hP hS hM hin rfl (by decide) k63 rfl rfl rfl rfl dX12_figures_27 (fun H locs hP hS => ?_)
        generalize eM3 : g2 M 0 8 0 = M3 at hP
        refine lv_iconst (v := 0) X.1 X.2.1 dX12_figures_30 (by decide) ?_
        refine lv_istore_n (lv' := [(1, .int 0), (0, .ref o)]) X.1 X.2.1 dX12_figures_31 rfl hl (by decide) rfl (fun ls hl => ?_)
        refine lv_iconst (v := 0) X.1 X.2.1 dX12_figures_32 (by decide) ?_
        refine lv_istore_n (lv' := [(2, .int 0), (1, .int 0), (0, .ref o)]) X.1 X.2.1 dX12_figures_33 rfl hl (by decide) rfl (fun ls hl => ?_)
        refine lv_iload_n X.1 X.2.1 dX12_figures_34 rfl (lv_at hl 0 rfl) ?_
        refine lv_iconst (v := 2) X.1 X.2.1 dX12_figures_35 (by decide) ?_
        refine lv_icmp_ge (tgt := 97) X.1 X.2.1 dX12_figures_36 (by decide) (fun c36 => ?_) (fun c36 => ?_)
        · exact absurd c36 (by decide)
        · have n36 : 0 < 2 := gq_nle c36 (show (2 : Int32) = nI 2 from rfl) (show (0 : Int32) = nI 0 from rfl) (by omega) (by omega)
          refine lv_aload_n X.1 X.2.1 dX12_figures_39 rfl (lv_at hl 2 rfl) ?_
          refine m_geti 8 X hK hP hM hin rfl (by decide) k63 rfl dX12_figures_40 (show M3 0 8 = 0 from (gs_same eM3)) ?_
          refine lv_if_ne (tgt := 97) X.1 X.2.1 dX12_figures_43 (by decide) (fun c43 => ?_) (fun c43 => ?_)
          · exact absurd rfl c43
          · have n43 : 0 = 0 := gq_eq c43 (show (0 : Int32) = nI 0 from rfl) (show (0 : Int32) = nI 0 from rfl) (by omega) (by omega)
            refine lv_aload_n X.1 X.2.1 dX12_figures_46 rfl (lv_at hl 2 rfl) ?_
            have hz4 : mPz M3 tp n act := mPz_w hz (fun b j h => by unfold wS at h; exact (gs_ne eM3 (by omega) rfl))
            refine g_run_i (g_runV (k := 14) [] X hK hP hS hC hB (c_here hM hz4 (((gs_ne eM3 (by omega) h6)).trans (Eq.refl (nI i))) (by omega)) (cwV 0 X.2.2.2.2 gX12_figures_X12_here rfl rfl rfl (by decide +kernel) ⟨Nat.le_of_ble_eq_true rfl, Nat.le_of_ble_eq_true rfl⟩) (hM.1 0 _ rfl) rfl rfl hl.1 rfl (Nat.le_of_ble_eq_true rfl) dX12_figures_47 (by exact ⟨Nat.zero_le _, Nat.zero_le _⟩)) hS (fun r u H locs hq hP hS => ?_)
            obtain ⟨rfl, rfl⟩ := hq
            have hP : gP D cy B z T (gI o 12 M3 I0) R H := hP
            refine lv_bipush (v := 48) X.1 X.2.1 dX12_figures_50 (by decide) ?_
            refine lv_bipush (v := 57) X.1 X.2.1 dX12_figures_52 (by decide) ?_
            refine g_run_i (g_runS [.int (hI (sH tp n i)), .int 48, .int 57] X hK hP hS hC hB (c_in _ (hI (sH tp n i)) 48 57) (va_cwS 3 X.2.2.2.2 gX12_figures_X12_in rfl rfl rfl (by decide +kernel) ⟨Nat.le_of_ble_eq_true rfl, Nat.le_of_ble_eq_true rfl⟩) rfl hl.1 rfl (Nat.le_of_ble_eq_true rfl) dX12_figures_54 (by exact ⟨Nat.zero_le _, Nat.zero_le _⟩)) hS (fun r u H locs hq hP hS => ?_)
            obtain ⟨rfl, rfl⟩ := hq
            have hP : gP D cy B z T (gI o 12 M3 I0) R H := hP
            refine lv_if_eq (tgt := 97) X.1 X.2.1 dX12_figures_57 (by decide) (fun c57 => ?_) (fun c57 => ?_)
            · exact absurd (hI_d.mpr hd1) (gt_0 c57)
            · refine lv_iload_n X.1 X.2.1 dX12_figures_60 rfl (lv_at hl 0 rfl) ?_
              refine lv_if_eq (tgt := 68) X.1 X.2.1 dX12_figures_61 (by decide) (fun c61 => ?_) (fun c61 => ?_)
              · have n61 : 0 = 0 := gq_eq c61 (show (0 : Int32) = nI 0 from rfl) (show (0 : Int32) = nI 0 from rfl) (by omega) (by omega)
                refine lv_bipush (v := 10) X.1 X.2.1 dX12_figures_68 (by decide) ?_
                refine lv_iload_n X.1 X.2.1 dX12_figures_70 rfl (lv_at hl 1 rfl) ?_
                refine lv_imul X.1 X.2.1 dX12_figures_71 ?_
                refine lv_aload_n X.1 X.2.1 dX12_figures_72 rfl (lv_at hl 2 rfl) ?_
                have hz5 : mPz M3 tp n act := mPz_w hz (fun b j h => by unfold wS at h; exact (gs_ne eM3 (by omega) rfl))
                refine g_run_i (g_runV (k := 14) [] X hK hP hS hC hB (c_here hM hz5 (((gs_ne eM3 (by omega) h6)).trans (Eq.refl (nI i))) (by omega)) (cwV 0 X.2.2.2.2 gX12_figures_X12_here rfl rfl rfl (by decide +kernel) ⟨Nat.le_of_ble_eq_true rfl, Nat.le_of_ble_eq_true rfl⟩) (hM.1 0 _ rfl) rfl rfl hl.1 rfl (Nat.le_of_ble_eq_true rfl) dX12_figures_73 (by exact ⟨Nat.zero_le _, Nat.zero_le _⟩)) hS (fun r u H locs hq hP hS => ?_)
                obtain ⟨rfl, rfl⟩ := hq
                have hP : gP D cy B z T (gI o 12 M3 I0) R H := hP
                refine lv_iadd X.1 X.2.1 dX12_figures_76 ?_
                refine lv_bipush (v := 48) X.1 X.2.1 dX12_figures_77 (by decide) ?_
                refine lv_isub X.1 X.2.1 dX12_figures_79 ?_
                refine lv_cv (fg1 hd1) ?_
                refine lv_istore_n (lv' := [(1, .int (nI (sH tp n i - 48))), (2, .int 0), (0, .ref o)]) X.1 X.2.1 dX12_figures_80 rfl hl (by decide) rfl (fun ls hl => ?_)
                refine lv_aload_n X.1 X.2.1 dX12_figures_81 rfl (lv_at hl 2 rfl) ?_
                refine lv_dup X.1 X.2.1 dX12_figures_82 rfl ?_
                refine m_geti 6 X hK hP hM hin rfl (by decide) k57 rfl dX12_figures_83 (show M3 0 6 = nI i from (gs_ne eM3 (by omega) h6)) ?_
                refine lv_iconst (v := 1) X.1 X.2.1 dX12_figures_86 (by decide) ?_
                refine lv_iadd X.1 X.2.1 dX12_figures_87 ?_
                refine m_puti 6 X hK hP hS hM hin rfl (by decide) k57 rfl rfl rfl rfl dX12_figures_88 (fun H locs hP hS => ?_)
                generalize eM6 : g2 M3 0 6 ((nI i) + 1) = M6 at hP
                refine lv_iinc (v := nI (0 + 1)) (lv' := [(2, .int (nI (0 + 1))), (1, .int (nI (sH tp n i - 48))), (0, .ref o)]) X.1 X.2.1 dX12_figures_91 hl (k := 1) rfl (gn_inc (show (0 : Int32) = nI 0 from rfl) 1) (by decide) rfl (fun ls hl => ?_)
                refine lv_goto (tgt := 34) X.1 X.2.1 dX12_figures_94 (by decide) ?_
                refine lv_iload_n X.1 X.2.1 dX12_figures_34 rfl (lv_at hl 0 rfl) ?_
                refine lv_iconst (v := 2) X.1 X.2.1 dX12_figures_35 (by decide) ?_
                refine lv_icmp_ge (tgt := 97) X.1 X.2.1 dX12_figures_36 (by decide) (fun c36_7 => ?_) (fun c36_7 => ?_)
                · exact absurd c36_7 (by decide)
                · have n36_7 : (0 + 1) < 2 := gq_nle c36_7 (show (2 : Int32) = nI 2 from rfl) (Eq.refl (nI (0 + 1))) (by omega) (by omega)
                  refine lv_aload_n X.1 X.2.1 dX12_figures_39 rfl (lv_at hl 2 rfl) ?_
                  refine m_geti 8 X hK hP hM hin rfl (by decide) k63 rfl dX12_figures_40 (show M6 0 8 = 0 from (gs_ne eM6 (by omega) (gs_same eM3))) ?_
                  refine lv_if_ne (tgt := 97) X.1 X.2.1 dX12_figures_43 (by decide) (fun c43_8 => ?_) (fun c43_8 => ?_)
                  · exact absurd rfl c43_8
                  · have n43_8 : 0 = 0 := gq_eq c43_8 (show (0 : Int32) = nI 0 from rfl) (show (0 : Int32) = nI 0 from rfl) (by omega) (by omega)
                    refine lv_aload_n X.1 X.2.1 dX12_figures_46 rfl (lv_at hl 2 rfl) ?_
                    have hz9 : mPz M6 tp n act := mPz_w hz (fun b j h => by unfold wS at h; exact (gs_ne eM6 (by omega) (gs_ne eM3 (by omega) rfl)))
                    refine g_run_i (g_runV (k := 14) [] X hK hP hS hC hB (c_here hM hz9 (((gs_same eM6)).trans (gn_add (Eq.refl (nI i)) (show (1 : Int32) = nI 1 from rfl))) (by omega)) (cwV 0 X.2.2.2.2 gX12_figures_X12_here rfl rfl rfl (by decide +kernel) ⟨Nat.le_of_ble_eq_true rfl, Nat.le_of_ble_eq_true rfl⟩) (hM.1 0 _ rfl) rfl rfl hl.1 rfl (Nat.le_of_ble_eq_true rfl) dX12_figures_47 (by exact ⟨Nat.zero_le _, Nat.zero_le _⟩)) hS (fun r u H locs hq hP hS => ?_)
                    obtain ⟨rfl, rfl⟩ := hq
                    have hP : gP D cy B z T (gI o 12 M6 I0) R H := hP
                    refine lv_bipush (v := 48) X.1 X.2.1 dX12_figures_50 (by decide) ?_
                    refine lv_bipush (v := 57) X.1 X.2.1 dX12_figures_52 (by decide) ?_
                    refine g_run_i (g_runS [.int (hI (sH tp n (i + 1))), .int 48, .int 57] X hK hP hS hC hB (c_in _ (hI (sH tp n (i + 1))) 48 57) (va_cwS 3 X.2.2.2.2 gX12_figures_X12_in rfl rfl rfl (by decide +kernel) ⟨Nat.le_of_ble_eq_true rfl, Nat.le_of_ble_eq_true rfl⟩) rfl hl.1 rfl (Nat.le_of_ble_eq_true rfl) dX12_figures_54 (by exact ⟨Nat.zero_le _, Nat.zero_le _⟩)) hS (fun r u H locs hq hP hS => ?_)
                    obtain ⟨rfl, rfl⟩ := hq
                    have hP : gP D cy B z T (gI o 12 M6 I0) R H := hP
                    refine lv_if_eq (tgt := 97) X.1 X.2.1 dX12_figures_57 (by decide) (fun c57_10 => ?_) (fun c57_10 => ?_)
                    · refine lv_iload_n X.1 X.2.1 dX12_figures_97 rfl (lv_at hl 1 rfl) ?_
                      exact g_iret M6 X hr hlk hK hP hS dX12_figures_98 (by rw [show pFig tp n (false, i, L) = _ from pFig_1 hd1 (fun q => gt_0 c57_10 (hI_d.mpr q.2))]; exact ⟨rfl, ⟨((gs_same eM6)).trans (gn_eq (x := (i + 1)) ((gn_add (Eq.refl (nI i)) (show (1 : Int32) = nI 1 from rfl))) (by rfl)), (gs_ne eM6 (by omega) (gs_same eM3))⟩, fun b i h => by unfold wS at h; exact (gs_ne eM6 (by omega) (gs_ne eM3 (by omega) rfl))⟩)
                    · refine lv_iload_n X.1 X.2.1 dX12_figures_60 rfl (lv_at hl 0 rfl) ?_
                      refine lv_if_eq (tgt := 68) X.1 X.2.1 dX12_figures_61 (by decide) (fun c61_11 => ?_) (fun c61_11 => ?_)
                      · exact absurd c61_11 (by decide)
                      · have n61_11 : ¬ (0 + 1) = 0 := gq_ne c61_11 (Eq.refl (nI (0 + 1))) (show (0 : Int32) = nI 0 from rfl) (by omega) (by omega)
                        refine lv_iload_n X.1 X.2.1 dX12_figures_64 rfl (lv_at hl 1 rfl) ?_
                        refine lv_if_le (tgt := 97) X.1 X.2.1 dX12_figures_65 (by decide) (fun c65 => ?_) (fun c65 => ?_)
                        · have n65 : (sH tp n i - 48) ≤ 0 := gq_le c65 (Eq.refl (nI (sH tp n i - 48))) (show (0 : Int32) = nI 0 from rfl) (by omega) (by omega)
                          refine lv_iload_n X.1 X.2.1 dX12_figures_97 rfl (lv_at hl 1 rfl) ?_
                          exact g_iret M6 X hr hlk hK hP hS dX12_figures_98 (by rw [show pFig tp n (false, i, L) = _ from pFig_1 hd1 (fun q => absurd q.1 (by omega))]; exact ⟨rfl, ⟨((gs_same eM6)).trans (gn_eq (x := (i + 1)) ((gn_add (Eq.refl (nI i)) (show (1 : Int32) = nI 1 from rfl))) (by rfl)), (gs_ne eM6 (by omega) (gs_same eM3))⟩, fun b i h => by unfold wS at h; exact (gs_ne eM6 (by omega) (gs_ne eM3 (by omega) rfl))⟩)
                        · have n65 : 0 < (sH tp n i - 48) := gq_nle c65 (Eq.refl (nI (sH tp n i - 48))) (show (0 : Int32) = nI 0 from rfl) (by omega) (by omega)
                          have hd2 : isD (sH tp n (i + 1)) := hI_d.mp (gt_1 c57_10)
                          refine lv_bipush (v := 10) X.1 X.2.1 dX12_figures_68 (by decide) ?_
                          refine lv_iload_n X.1 X.2.1 dX12_figures_70 rfl (lv_at hl 1 rfl) ?_
                          refine lv_imul X.1 X.2.1 dX12_figures_71 ?_
                          refine lv_aload_n X.1 X.2.1 dX12_figures_72 rfl (lv_at hl 2 rfl) ?_
                          have hz12 : mPz M6 tp n act := mPz_w hz (fun b j h => by unfold wS at h; exact (gs_ne eM6 (by omega) (gs_ne eM3 (by omega) rfl)))
                          refine g_run_i (g_runV (k := 14) [] X hK hP hS hC hB (c_here hM hz12 (((gs_same eM6)).trans (gn_add (Eq.refl (nI i)) (show (1 : Int32) = nI 1 from rfl))) (by omega)) (cwV 0 X.2.2.2.2 gX12_figures_X12_here rfl rfl rfl (by decide +kernel) ⟨Nat.le_of_ble_eq_true rfl, Nat.le_of_ble_eq_true rfl⟩) (hM.1 0 _ rfl) rfl rfl hl.1 rfl (Nat.le_of_ble_eq_true rfl) dX12_figures_73 (by exact ⟨Nat.zero_le _, Nat.zero_le _⟩)) hS (fun r u H locs hq hP hS => ?_)
                          obtain ⟨rfl, rfl⟩ := hq
                          have hP : gP D cy B z T (gI o 12 M6 I0) R H := hP
                          refine lv_iadd X.1 X.2.1 dX12_figures_76 ?_
                          refine lv_bipush (v := 48) X.1 X.2.1 dX12_figures_77 (by decide) ?_
                          refine lv_isub X.1 X.2.1 dX12_figures_79 ?_
                          refine lv_cv (fg2 hd2) ?_
                          refine lv_istore_n (lv' := [(1, .int (nI (10 * (sH tp n i - 48) + (sH tp n (i + 1) - 48)))), (2, .int (nI (0 + 1))), (0, .ref o)]) X.1 X.2.1 dX12_figures_80 rfl hl (by decide) rfl (fun ls hl => ?_)
                          refine lv_aload_n X.1 X.2.1 dX12_figures_81 rfl (lv_at hl 2 rfl) ?_
                          refine lv_dup X.1 X.2.1 dX12_figures_82 rfl ?_
                          refine m_geti 6 X hK hP hM hin rfl (by decide) k57 rfl dX12_figures_83 (show M6 0 6 = (nI i) + 1 from (gs_same eM6)) ?_
                          refine lv_iconst (v := 1) X.1 X.2.1 dX12_figures_86 (by decide) ?_
                          refine lv_iadd X.1 X.2.1 dX12_figures_87 ?_
                          refine m_puti 6 X hK hP hS hM hin rfl (by decide) k57 rfl rfl rfl rfl dX12_figures_88 (fun H locs hP hS => ?_)
                          generalize eM13 : g2 M6 0 6 (((nI i) + 1) + 1) = M13 at hP
                          refine lv_iinc (v := nI ((0 + 1) + 1)) (lv' := [(2, .int (nI ((0 + 1) + 1))), (1, .int (nI (10 * (sH tp n i - 48) + (sH tp n (i + 1) - 48)))), (0, .ref o)]) X.1 X.2.1 dX12_figures_91 hl (k := 1) rfl (gn_inc (Eq.refl (nI (0 + 1))) 1) (by decide) rfl (fun ls hl => ?_)
                          refine lv_goto (tgt := 34) X.1 X.2.1 dX12_figures_94 (by decide) ?_
                          refine lv_iload_n X.1 X.2.1 dX12_figures_34 rfl (lv_at hl 0 rfl) ?_
                          refine lv_iconst (v := 2) X.1 X.2.1 dX12_figures_35 (by decide) ?_
                          refine lv_icmp_ge (tgt := 97) X.1 X.2.1 dX12_figures_36 (by decide) (fun c36_14 => ?_) (fun c36_14 => ?_)
                          · have n36_14 : 2 ≤ ((0 + 1) + 1) := gq_le c36_14 (show (2 : Int32) = nI 2 from rfl) (Eq.refl (nI ((0 + 1) + 1))) (by omega) (by omega)
                            refine lv_iload_n X.1 X.2.1 dX12_figures_97 rfl (lv_at hl 1 rfl) ?_
                            exact g_iret M13 X hr hlk hK hP hS dX12_figures_98 (by rw [show pFig tp n (false, i, L) = _ from pFig_2 hd1 ⟨by omega, hd2⟩]; exact ⟨rfl, ⟨((gs_same eM13)).trans (gn_eq (x := ((i + 1) + 1)) ((gn_add (gn_add (Eq.refl (nI i)) (show (1 : Int32) = nI 1 from rfl)) (show (1 : Int32) = nI 1 from rfl))) (by rfl)), (gs_ne eM13 (by omega) (gs_ne eM6 (by omega) (gs_same eM3)))⟩, fun b i h => by unfold wS at h; exact (gs_ne eM13 (by omega) (gs_ne eM6 (by omega) (gs_ne eM3 (by omega) rfl)))⟩)
                          · exact absurd (by decide) c36_14
              · exact absurd rfl c61
      · refine lv_iconst (v := 1) X.1 X.2.1 dX12_figures_22 (by decide) ?_
        refine lv_goto (tgt := 27) X.1 X.2.1 dX12_figures_23 (by decide) ?_
        refine m_puti 8 X hK hP hS hM hin rfl (by decide) k63 rfl rfl rfl rfl dX12_figures_27 (fun H locs hP hS => ?_)
        generalize eM15 : g2 M 0 8 1 = M15 at hP
        refine lv_iconst (v := 0) X.1 X.2.1 dX12_figures_30 (by decide) ?_
        refine lv_istore_n (lv' := [(1, .int 0), (0, .ref o)]) X.1 X.2.1 dX12_figures_31 rfl hl (by decide) rfl (fun ls hl => ?_)
        refine lv_iconst (v := 0) X.1 X.2.1 dX12_figures_32 (by decide) ?_
        refine lv_istore_n (lv' := [(2, .int 0), (1, .int 0), (0, .ref o)]) X.1 X.2.1 dX12_figures_33 rfl hl (by decide) rfl (fun ls hl => ?_)
        refine lv_iload_n X.1 X.2.1 dX12_figures_34 rfl (lv_at hl 0 rfl) ?_
        refine lv_iconst (v := 2) X.1 X.2.1 dX12_figures_35 (by decide) ?_
        refine lv_icmp_ge (tgt := 97) X.1 X.2.1 dX12_figures_36 (by decide) (fun c36 => ?_) (fun c36 => ?_)
        · exact absurd c36 (by decide)
        · have n36 : 0 < 2 := gq_nle c36 (show (2 : Int32) = nI 2 from rfl) (show (0 : Int32) = nI 0 from rfl) (by omega) (by omega)
          refine lv_aload_n X.1 X.2.1 dX12_figures_39 rfl (lv_at hl 2 rfl) ?_
          refine m_geti 8 X hK hP hM hin rfl (by decide) k63 rfl dX12_figures_40 (show M15 0 8 = 1 from (gs_same eM15)) ?_
          refine lv_if_ne (tgt := 97) X.1 X.2.1 dX12_figures_43 (by decide) (fun c43 => ?_) (fun c43 => ?_)
          · have n43 : ¬ 1 = 0 := gq_ne c43 (show (1 : Int32) = nI 1 from rfl) (show (0 : Int32) = nI 0 from rfl) (by omega) (by omega)
            refine lv_iload_n X.1 X.2.1 dX12_figures_97 rfl (lv_at hl 1 rfl) ?_
            exact g_iret M15 X hr hlk hK hP hS dX12_figures_98 (by rw [show pFig tp n (false, i, L) = _ from pFig_n (fun q => gt_0 c19 (hI_d.mpr q))]; exact ⟨rfl, ⟨((gs_ne eM15 (by omega) h6)).trans (gn_eq (x := i) ((Eq.refl (nI i))) (by rfl)), (gs_same eM15)⟩, fun b i h => by unfold wS at h; exact (gs_ne eM15 (by omega) rfl)⟩)
          · exact absurd c43 (by decide)

set_option maxHeartbeats 4000000 in
set_option maxRecDepth 100000 in
/-- emits -/
theorem c_emits (hM : gMod o T R) {s1 : PS} {t : Nat} {v : Int32} (hz : mPz M tp n act) (hp : mPs M act s1) (hL : s1.2.2.length ≤ 100) (hv : s1.1 = false → v = encR t) : Met l yX12_emits wsX12_emits ({ frames := 0, cells := 0, slots := 0, locals := 0 }) (mPre s0 D cy B o z T R I0 M [.int v]) (mQv D cy B o z T R I0 (fun u => mPs u act (pEm t s1) ∧ mSame (pS act) M u)) 0 0 (gA B) := by
  refine g_met (maxL := 2) (ret := none) (by decide) rfl (Nat.le_of_ble_eq_true rfl) (fun p e s m args below meth c ls X hr hlk hnm hK hP hC hS hl => ?_)
  have hl : lv_has ls 2 [(0, .ref o), (1, .int v)] := hl
  have hP : gP D cy B z T (gI o 12 M I0) R s.heap := hP
  have hB : B ≤ s.heap.size := by rw [hP.1]; exact hP.2.1
  have hin : ∀ w ∈ wsX120, w ∈ wsX12_emits := fun _ h => List.mem_cons_of_mem _ (List.mem_append_right _ h)
  have k9 : Cond.fieldLink RX12 9 "BarrowPlankModel" "s" "[I" ∈ wsX12_emits := by decide +kernel
  have k63 : Cond.fieldLink RX12 63 "BarrowPlankModel" "isWrong" "Z" ∈ wsX12_emits := by decide +kernel
  have k84 : Cond.fieldLink RX12 84 "BarrowPlankModel" "act" "I" ∈ wsX12_emits := by decide +kernel
  obtain ⟨ha5, hn100, htp⟩ := hz.1
  obtain ⟨wr, i, L⟩ := s1
  obtain ⟨⟨h6, h8⟩, hls⟩ := hp
  have h6 : M 0 6 = nI i := h6
  have hls : mLs M act L := hls
  have hL : L.length ≤ 100 := hL
  cases wr with
  | true =>
    have h8 : M 0 8 = 1 := h8
    refine lv_aload_n X.1 X.2.1 dX12_emits_0 rfl (lv_at hl 0 rfl) ?_
    refine m_geti 8 X hK hP hM hin rfl (by decide) k63 rfl dX12_emits_1 (show M 0 8 = 1 from h8) ?_
    refine lv_if_ne (tgt := 56) X.1 X.2.1 dX12_emits_4 (by decide) (fun c4 => ?_) (fun c4 => ?_)
    · exact g_vret M X hr hlk hK hP hS dX12_emits_56 ⟨⟨⟨h6, h8⟩, hls⟩, fun _ _ _ => rfl⟩
    · exact absurd c4 (by decide)
  | false =>
    have h8 : M 0 8 = 0 := h8
    refine lv_aload_n X.1 X.2.1 dX12_emits_0 rfl (lv_at hl 0 rfl) ?_
    refine m_geti 8 X hK hP hM hin rfl (by decide) k63 rfl dX12_emits_1 (show M 0 8 = 0 from h8) ?_
    refine lv_if_ne (tgt := 56) X.1 X.2.1 dX12_emits_4 (by decide) (fun c4 => ?_) (fun c4 => ?_)
    · exact absurd rfl c4
    · refine lv_aload_n X.1 X.2.1 dX12_emits_7 rfl (lv_at hl 0 rfl) ?_
      refine m_getr 1 1 X hK hP hM hin rfl (by decide) k9 rfl dX12_emits_8 (by decide) ?_
      refine lv_sipush (v := 183) X.1 X.2.1 dX12_emits_11 (by decide) ?_
      refine lv_sipush (v := 140) X.1 X.2.1 dX12_emits_14 (by decide) ?_
      refine lv_aload_n X.1 X.2.1 dX12_emits_17 rfl (lv_at hl 0 rfl) ?_
      refine m_geti 5 X hK hP hM hin rfl (by decide) k84 rfl dX12_emits_18 (show M 0 5 = nI act from hz.2.1) ?_
      refine lv_imul X.1 X.2.1 dX12_emits_21 ?_
      refine lv_iadd X.1 X.2.1 dX12_emits_22 ?_
      refine lv_aload_n X.1 X.2.1 dX12_emits_23 rfl (lv_at hl 0 rfl) ?_
      refine m_getr 1 1 X hK hP hM hin rfl (by decide) k9 rfl dX12_emits_24 (by decide) ?_
      refine lv_sipush (v := 178) X.1 X.2.1 dX12_emits_27 (by decide) ?_
      refine lv_aload_n X.1 X.2.1 dX12_emits_30 rfl (lv_at hl 0 rfl) ?_
      refine m_geti 5 X hK hP hM hin rfl (by decide) k84 rfl dX12_emits_31 (show M 0 5 = nI act from hz.2.1) ?_
      refine lv_iadd X.1 X.2.1 dX12_emits_34 ?_
      refine m_ald 1 (178 + act) 883 X hK hP hM rfl (gIx_of (gn_add (show (178 : Int32) = nI 178 from rfl) (Eq.refl (nI act))) (by omega) (by omega)) dX12_emits_35 (show M 1 (178 + act) = nI L.length from hls.1) ?_
      refine lv_iadd X.1 X.2.1 dX12_emits_36 ?_
      refine lv_iload_n X.1 X.2.1 dX12_emits_37 rfl (lv_at hl 1 rfl) ?_
      refine m_ast 1 (183 + L.length + 140 * act) 883 X hK hP hS hM rfl (gIx_of (gn_eq (gn_add (gn_add (show (183 : Int32) = nI 183 from rfl) (gn_mul (show (140 : Int32) = nI 140 from rfl) (Eq.refl (nI act)))) (Eq.refl (nI L.length))) (by omega)) (by omega) (by omega)) dX12_emits_38 (fun H locs hP hS => ?_)
      generalize eM1 : g2 M 1 (183 + L.length + 140 * act) v = M1 at hP
      refine lv_aload_n X.1 X.2.1 dX12_emits_39 rfl (lv_at hl 0 rfl) ?_
      refine m_getr 1 1 X hK hP hM hin rfl (by decide) k9 rfl dX12_emits_40 (by decide) ?_
      refine lv_sipush (v := 178) X.1 X.2.1 dX12_emits_43 (by decide) ?_
      refine lv_aload_n X.1 X.2.1 dX12_emits_46 rfl (lv_at hl 0 rfl) ?_
      refine m_geti 5 X hK hP hM hin rfl (by decide) k84 rfl dX12_emits_47 (show M1 0 5 = nI act from (gs_ne eM1 (by omega) hz.2.1)) ?_
      refine lv_iadd X.1 X.2.1 dX12_emits_50 ?_
      refine lv_dup2_11 X.1 X.2.1 dX12_emits_51 rfl rfl ?_
      refine m_ald 1 (178 + act) 883 X hK hP hM rfl (gIx_of (gn_add (show (178 : Int32) = nI 178 from rfl) (Eq.refl (nI act))) (by omega) (by omega)) dX12_emits_52 (show M1 1 (178 + act) = nI L.length from (gs_ne eM1 (by omega) hls.1)) ?_
      refine lv_iconst (v := 1) X.1 X.2.1 dX12_emits_53 (by decide) ?_
      refine lv_iadd X.1 X.2.1 dX12_emits_54 ?_
      refine m_ast 1 (178 + act) 883 X hK hP hS hM rfl (gIx_of (gn_add (show (178 : Int32) = nI 178 from rfl) (Eq.refl (nI act))) (by omega) (by omega)) dX12_emits_55 (fun H locs hP hS => ?_)
      generalize eM2 : g2 M1 1 (178 + act) ((nI L.length) + 1) = M2 at hP
      exact g_vret M2 X hr hlk hK hP hS dX12_emits_56 ⟨⟨⟨gs_ne eM2 (by omega) (gs_ne eM1 (by omega) h6), gs_ne eM2 (by omega) (gs_ne eM1 (by omega) h8)⟩, mLs_push (L := L) hls ha5 hL eM1 eM2 (by omega) (by omega) (hv rfl) ((gn_add (Eq.refl (nI L.length)) (show (1 : Int32) = nI 1 from rfl)))⟩, fun b i h => by unfold pS wS at h; exact gs_ne eM2 (by omega) (gs_ne eM1 (by omega) rfl)⟩

end MZ9