section MZ8
variable {l : Launch} {s0 : State} {D : va_G} {cy : Nat → ClassId} {B o z : Nat} {T : Nat → Nat × Nat} {R : Nat → Nat → Option Nat} {I0 : Nat → Nat → Int32} {M : Nat → Nat → Int32} {tp : Nat → Nat} {n act i : Nat} {L : List Nat} {tx : List Nat} {a q : Nat}
theorem hI_of {x : Nat} (h : x ≤ 127) : hI x = nI x := if_pos (by omega)
theorem hI_128 : hI 128 = -1 := rfl
theorem hI_eq {x y : Nat} (hy : y < 128) : hI x = nI y ↔ x = y := by
  unfold hI
  by_cases h : x < 128
  · rw [if_pos h]
    exact nI_eq (by omega) (by omega)
  · rw [if_neg h]
    exact ⟨fun q => absurd q.symm (gn_m1 (by omega)), fun q => absurd q (by omega)⟩
theorem hI_d {x : Nat} : (48 ≤ hI x ∧ hI x ≤ 57) ↔ isD x := by
  unfold hI isD
  by_cases h : x < 128
  · rw [if_pos h]
    constructor
    · intro q
      refine ⟨?_, ?_⟩
      · rcases Nat.lt_or_ge x 48 with g | g
        · exact absurd q.1 (nI_ge (a := x) (b := 48) g (by omega))
        · exact g
      · rcases Nat.lt_or_ge 57 x with g | g
        · exact absurd q.2 (nI_ge (a := 57) (b := x) g (by omega))
        · exact g
    · intro q
      exact ⟨nI_le (a := 48) q.1 (by omega), nI_le (b := 57) q.2 (by omega)⟩
  · rw [if_neg h]
    exact ⟨fun q => absurd q.1 (by decide), fun q => absurd q.2 (by omega)⟩
/-- a text is read: tp, n signs, into the SITE act -/
def mPz (M : Nat → Nat → Int32) (tp : Nat → Nat) (n act : Nat) : Prop := (act < 5 ∧ n ≤ 100 ∧ ∀ k, tp k ≤ 127) ∧ M 0 5 = nI act ∧ M 0 7 = nI n ∧ ∀ k, k < 100 → M 1 (68 + k) = nI (tp k)
def mLs (M : Nat → Nat → Int32) (act : Nat) (L : List Nat) : Prop := M 1 (178 + act) = nI L.length ∧ ∀ k, k < L.length → M 1 (183 + 140 * act + k) = encR (L.getD k 0)
def wS (b i : Nat) : Prop := b = 0 ∧ (i = 6 ∨ i = 8)
def pS (act b i : Nat) : Prop := wS b i ∨ (b = 1 ∧ (i = 178 + act ∨ (183 + 140 * act ≤ i ∧ i < 323 + 140 * act)))
def mWp (M : Nat → Nat → Int32) (s : PS) : Prop := M 0 6 = nI s.2.1 ∧ M 0 8 = bI s.1
theorem mSame_tr {S : Nat → Nat → Prop} {M1 M2 M3 : Nat → Nat → Int32} (h1 : mSame S M1 M2) (h2 : mSame S M2 M3) : mSame S M1 M3 := fun b i h => (h2 b i h).trans (h1 b i h)
theorem mSame_wk {S S' : Nat → Nat → Prop} {M1 M2 : Nat → Nat → Int32} (h : mSame S M1 M2) (hS : ∀ b i, S b i → S' b i) : mSame S' M1 M2 := fun b i g => h b i (fun q => g (hS b i q))
theorem mPz_k {M2 : Nat → Nat → Int32} (h : mPz M tp n act) (hk : mSame (pS act) M M2) : mPz M2 tp n act :=
  ⟨h.1, (hk 0 5 (by unfold pS wS; omega)).trans h.2.1, (hk 0 7 (by unfold pS wS; omega)).trans h.2.2.1, fun k g => (hk 1 (68 + k) (by unfold pS wS; omega)).trans (h.2.2.2 k g)⟩
theorem mPz_w {M2 : Nat → Nat → Int32} (h : mPz M tp n act) (hk : mSame wS M M2) : mPz M2 tp n act := mPz_k h (mSame_wk hk (fun _ _ q => Or.inl q))
theorem mLs_w {M2 : Nat → Nat → Int32} (h : mLs M act L) (hk : mSame wS M M2) : mLs M2 act L :=
  ⟨(hk 1 _ (by unfold wS; omega)).trans h.1, fun k g => (hk 1 _ (by unfold wS; omega)).trans (h.2 k g)⟩
theorem pMust_t {x : Nat} : pMust tp n x (true, i, L) = (true, i, L) := by
  unfold pMust
  rw [if_neg (fun q => by cases q.1)]
theorem pMust_y {x : Nat} (h : sH tp n i = x) : pMust tp n x (false, i, L) = (false, i + 1, L) := by
  unfold pMust
  rw [if_pos ⟨rfl, h⟩]
theorem pMust_n {x : Nat} (h : ¬ sH tp n i = x) : pMust tp n x (false, i, L) = (true, i, L) := by
  unfold pMust
  rw [if_neg (fun q => h q.2)]

set_option maxHeartbeats 4000000 in
set_option maxRecDepth 100000 in
/-- here -/
theorem c_here (hM : gMod o T R) (hz : mPz M tp n act) (h6 : M 0 6 = nI i) (hi3 : i < 1000) : Met l yX12_here wsX12_here ({ frames := 0, cells := 0, slots := 0, locals := 0 }) (mPre s0 D cy B o z T R I0 M []) (mQi D cy B o z T R I0 (fun r u => r = hI (sH tp n i) ∧ M = u)) 0 0 (gA B) := by
  refine g_met (maxL := 1) (ret := (some .int)) (by decide) rfl (Nat.le_of_ble_eq_true rfl) (fun p e s m args below meth c ls X hr hlk hnm hK hP hC hS hl => ?_)
  have hl : lv_has ls 1 [(0, .ref o)] := hl
  have hP : gP D cy B z T (gI o 12 M I0) R s.heap := hP
  have hB : B ≤ s.heap.size := by rw [hP.1]; exact hP.2.1
  have hin : ∀ w ∈ wsX120, w ∈ wsX12_here := fun _ h => List.mem_cons_of_mem _ (List.mem_append_right _ h)
  have k9 : Cond.fieldLink RX12 9 "BarrowPlankModel" "s" "[I" ∈ wsX12_here := by decide +kernel
  have k57 : Cond.fieldLink RX12 57 "BarrowPlankModel" "spot" "I" ∈ wsX12_here := by decide +kernel
  have k60 : Cond.fieldLink RX12 60 "BarrowPlankModel" "end" "I" ∈ wsX12_here := by decide +kernel
  obtain ⟨ha5, hn100, -⟩ := hz.1
  refine lv_aload_n X.1 X.2.1 dX12_here_0 rfl (lv_at hl 0 rfl) ?_
  refine m_geti 6 X hK hP hM hin rfl (by decide) k57 rfl dX12_here_1 (show M 0 6 = nI i from h6) ?_
  refine lv_aload_n X.1 X.2.1 dX12_here_4 rfl (lv_at hl 0 rfl) ?_
  refine m_geti 7 X hK hP hM hin rfl (by decide) k60 rfl dX12_here_5 (show M 0 7 = nI n from hz.2.2.1) ?_
  refine lv_icmp_ge (tgt := 26) X.1 X.2.1 dX12_here_8 (by decide) (fun c8 => ?_) (fun c8 => ?_)
  · have n8 : n ≤ i := gq_le c8 (Eq.refl (nI n)) (Eq.refl (nI i)) (by omega) (by omega)
    refine lv_iconst (v := (-1)) X.1 X.2.1 dX12_here_26 (by decide) ?_
    exact g_iret M X hr hlk hK hP hS dX12_here_27 ⟨(by unfold sH; rw [if_neg (by omega)]; rfl), rfl⟩
  · have n8 : i < n := gq_nle c8 (Eq.refl (nI n)) (Eq.refl (nI i)) (by omega) (by omega)
    refine lv_aload_n X.1 X.2.1 dX12_here_11 rfl (lv_at hl 0 rfl) ?_
    refine m_getr 1 1 X hK hP hM hin rfl (by decide) k9 rfl dX12_here_12 (by decide) ?_
    refine lv_bipush (v := 68) X.1 X.2.1 dX12_here_15 (by decide) ?_
    refine lv_aload_n X.1 X.2.1 dX12_here_17 rfl (lv_at hl 0 rfl) ?_
    refine m_geti 6 X hK hP hM hin rfl (by decide) k57 rfl dX12_here_18 (show M 0 6 = nI i from h6) ?_
    refine lv_iadd X.1 X.2.1 dX12_here_21 ?_
    refine m_ald 1 (68 + i) 883 X hK hP hM rfl (gIx_of (gn_add (show (68 : Int32) = nI 68 from rfl) (Eq.refl (nI i))) (by omega) (by omega)) dX12_here_22 (show M 1 (68 + i) = nI (tp i) from (hz.2.2.2 i (by omega))) ?_
    refine lv_goto (tgt := 27) X.1 X.2.1 dX12_here_23 (by decide) ?_
    exact g_iret M X hr hlk hK hP hS dX12_here_27 ⟨(by unfold sH; rw [if_pos n8]; exact (hI_of (hz.1.2.2 i)).symm), rfl⟩

set_option maxHeartbeats 4000000 in
set_option maxRecDepth 100000 in
/-- must -/
theorem c_must (hM : gMod o T R) {s1 : PS} (hz : mPz M tp n act) (hp : mWp M s1) (hi3 : s1.2.1 < 1000) {x : Nat} (hx : x < 128) : Met l yX12_must wsX12_must ({ frames := 1, cells := 0, slots := 0, locals := 20 }) (mPre s0 D cy B o z T R I0 M [.int (nI x)]) (mQv D cy B o z T R I0 (fun u => mWp u (pMust tp n x s1) ∧ mSame wS M u)) 0 0 (gA B) := by
  refine g_met (maxL := 2) (ret := none) (by decide) rfl (Nat.le_of_ble_eq_true rfl) (fun p e s m args below meth c ls X hr hlk hnm hK hP hC hS hl => ?_)
  have hl : lv_has ls 2 [(0, .ref o), (1, .int (nI x))] := hl
  have hP : gP D cy B z T (gI o 12 M I0) R s.heap := hP
  have hB : B ≤ s.heap.size := by rw [hP.1]; exact hP.2.1
  have hin : ∀ w ∈ wsX120, w ∈ wsX12_must := fun _ h => List.mem_cons_of_mem _ (List.mem_append_right _ h)
  have k57 : Cond.fieldLink RX12 57 "BarrowPlankModel" "spot" "I" ∈ wsX12_must := by decide +kernel
  have k63 : Cond.fieldLink RX12 63 "BarrowPlankModel" "isWrong" "Z" ∈ wsX12_must := by decide +kernel
  obtain ⟨ha5, hn100, -⟩ := hz.1
  obtain ⟨wr, i, L⟩ := s1
  obtain ⟨h6, h8⟩ := hp
  have h6 : M 0 6 = nI i := h6
  have hi3 : i < 1000 := hi3
  cases wr with
  | true =>
    have h8 : M 0 8 = 1 := h8
    refine lv_aload_n X.1 X.2.1 dX12_must_0 rfl (lv_at hl 0 rfl) ?_
    refine lv_aload_n X.1 X.2.1 dX12_must_1 rfl (lv_at hl 0 rfl) ?_
    refine m_geti 8 X hK hP hM hin rfl (by decide) k63 rfl dX12_must_2 (show M 0 8 = 1 from h8) ?_
    refine lv_if_ne (tgt := 16) X.1 X.2.1 dX12_must_5 (by decide) (fun c5 => ?_) (fun c5 => ?_)
    · refine lv_iconst (v := 1) X.1 X.2.1 dX12_must_16 (by decide) ?_
      refine lv_goto (tgt := 21) X.1 X.2.1 dX12_must_17 (by decide) ?_
      refine m_puti 8 X hK hP hS hM hin rfl (by decide) k63 rfl rfl rfl rfl dX12_must_21 (fun H locs hP hS => ?_)
      generalize eM1 : g2 M 0 8 1 = M1 at hP
      refine lv_aload_n X.1 X.2.1 dX12_must_24 rfl (lv_at hl 0 rfl) ?_
      refine lv_dup X.1 X.2.1 dX12_must_25 rfl ?_
      refine m_geti 6 X hK hP hM hin rfl (by decide) k57 rfl dX12_must_26 (show M1 0 6 = nI i from (gs_ne eM1 (by omega) h6)) ?_
      refine lv_aload_n X.1 X.2.1 dX12_must_29 rfl (lv_at hl 0 rfl) ?_
      refine m_geti 8 X hK hP hM hin rfl (by decide) k63 rfl dX12_must_30 (show M1 0 8 = 1 from (gs_same eM1)) ?_
      refine lv_if_eq (tgt := 40) X.1 X.2.1 dX12_must_33 (by decide) (fun c33 => ?_) (fun c33 => ?_)
      · exact absurd c33 (by decide)
      · refine lv_iconst (v := 0) X.1 X.2.1 dX12_must_36 (by decide) ?_
        refine lv_goto (tgt := 41) X.1 X.2.1 dX12_must_37 (by decide) ?_
        refine lv_iadd X.1 X.2.1 dX12_must_41 ?_
        refine m_puti 6 X hK hP hS hM hin rfl (by decide) k57 rfl rfl rfl rfl dX12_must_42 (fun H locs hP hS => ?_)
        generalize eM2 : g2 M1 0 6 ((nI i) + 0) = M2 at hP
        exact g_vret M2 X hr hlk hK hP hS dX12_must_45 (by rw [show pMust tp n x (true, i, L) = _ from pMust_t]; exact ⟨⟨((gs_same eM2)).trans ((gn_add (Eq.refl (nI i)) (show (0 : Int32) = nI 0 from rfl))), (gs_ne eM2 (by omega) (gs_same eM1))⟩, fun b i h => by unfold wS at h; exact (gs_ne eM2 (by omega) (gs_ne eM1 (by omega) rfl))⟩)
    · exact absurd c5 (by decide)
  | false =>
    have h8 : M 0 8 = 0 := h8
    refine lv_aload_n X.1 X.2.1 dX12_must_0 rfl (lv_at hl 0 rfl) ?_
    refine lv_aload_n X.1 X.2.1 dX12_must_1 rfl (lv_at hl 0 rfl) ?_
    refine m_geti 8 X hK hP hM hin rfl (by decide) k63 rfl dX12_must_2 (show M 0 8 = 0 from h8) ?_
    refine lv_if_ne (tgt := 16) X.1 X.2.1 dX12_must_5 (by decide) (fun c5 => ?_) (fun c5 => ?_)
    · exact absurd rfl c5
    · refine lv_aload_n X.1 X.2.1 dX12_must_8 rfl (lv_at hl 0 rfl) ?_
      refine g_run_i (g_runV (k := 14) [] X hK hP hS hC hB (c_here hM hz h6 (by omega)) (cwV 0 X.2.2.2.2 gX12_must_X12_here rfl rfl rfl (by decide +kernel) ⟨Nat.le_of_ble_eq_true rfl, Nat.le_of_ble_eq_true rfl⟩) (hM.1 0 _ rfl) rfl rfl hl.1 rfl (Nat.le_of_ble_eq_true rfl) dX12_must_9 (by exact ⟨Nat.zero_le _, Nat.zero_le _⟩)) hS (fun r u H locs hq hP hS => ?_)
      obtain ⟨rfl, rfl⟩ := hq
      have hP : gP D cy B z T (gI o 12 M I0) R H := hP
      refine lv_iload_n X.1 X.2.1 dX12_must_12 rfl (lv_at hl 1 rfl) ?_
      refine lv_icmp_eq (tgt := 20) X.1 X.2.1 dX12_must_13 (by decide) (fun c13 => ?_) (fun c13 => ?_)
      · refine lv_iconst (v := 0) X.1 X.2.1 dX12_must_20 (by decide) ?_
        refine m_puti 8 X hK hP hS hM hin rfl (by decide) k63 rfl rfl rfl rfl dX12_must_21 (fun H locs hP hS => ?_)
        generalize eM3 : g2 M 0 8 0 = M3 at hP
        refine lv_aload_n X.1 X.2.1 dX12_must_24 rfl (lv_at hl 0 rfl) ?_
        refine lv_dup X.1 X.2.1 dX12_must_25 rfl ?_
        refine m_geti 6 X hK hP hM hin rfl (by decide) k57 rfl dX12_must_26 (show M3 0 6 = nI i from (gs_ne eM3 (by omega) h6)) ?_
        refine lv_aload_n X.1 X.2.1 dX12_must_29 rfl (lv_at hl 0 rfl) ?_
        refine m_geti 8 X hK hP hM hin rfl (by decide) k63 rfl dX12_must_30 (show M3 0 8 = 0 from (gs_same eM3)) ?_
        refine lv_if_eq (tgt := 40) X.1 X.2.1 dX12_must_33 (by decide) (fun c33 => ?_) (fun c33 => ?_)
        · refine lv_iconst (v := 1) X.1 X.2.1 dX12_must_40 (by decide) ?_
          refine lv_iadd X.1 X.2.1 dX12_must_41 ?_
          refine m_puti 6 X hK hP hS hM hin rfl (by decide) k57 rfl rfl rfl rfl dX12_must_42 (fun H locs hP hS => ?_)
          generalize eM4 : g2 M3 0 6 ((nI i) + 1) = M4 at hP
          exact g_vret M4 X hr hlk hK hP hS dX12_must_45 (by rw [show pMust tp n x (false, i, L) = _ from pMust_y ((hI_eq hx).mp c13)]; exact ⟨⟨((gs_same eM4)).trans ((gn_add (Eq.refl (nI i)) (show (1 : Int32) = nI 1 from rfl))), (gs_ne eM4 (by omega) (gs_same eM3))⟩, fun b i h => by unfold wS at h; exact (gs_ne eM4 (by omega) (gs_ne eM3 (by omega) rfl))⟩)
        · exact absurd rfl c33
      · refine lv_iconst (v := 1) X.1 X.2.1 dX12_must_16 (by decide) ?_
        refine lv_goto (tgt := 21) X.1 X.2.1 dX12_must_17 (by decide) ?_
        refine m_puti 8 X hK hP hS hM hin rfl (by decide) k63 rfl rfl rfl rfl dX12_must_21 (fun H locs hP hS => ?_)
        generalize eM5 : g2 M 0 8 1 = M5 at hP
        refine lv_aload_n X.1 X.2.1 dX12_must_24 rfl (lv_at hl 0 rfl) ?_
        refine lv_dup X.1 X.2.1 dX12_must_25 rfl ?_
        refine m_geti 6 X hK hP hM hin rfl (by decide) k57 rfl dX12_must_26 (show M5 0 6 = nI i from (gs_ne eM5 (by omega) h6)) ?_
        refine lv_aload_n X.1 X.2.1 dX12_must_29 rfl (lv_at hl 0 rfl) ?_
        refine m_geti 8 X hK hP hM hin rfl (by decide) k63 rfl dX12_must_30 (show M5 0 8 = 1 from (gs_same eM5)) ?_
        refine lv_if_eq (tgt := 40) X.1 X.2.1 dX12_must_33 (by decide) (fun c33 => ?_) (fun c33 => ?_)
        · exact absurd c33 (by decide)
        · refine lv_iconst (v := 0) X.1 X.2.1 dX12_must_36 (by decide) ?_
          refine lv_goto (tgt := 41) X.1 X.2.1 dX12_must_37 (by decide) ?_
          refine lv_iadd X.1 X.2.1 dX12_must_41 ?_
          refine m_puti 6 X hK hP hS hM hin rfl (by decide) k57 rfl rfl rfl rfl dX12_must_42 (fun H locs hP hS => ?_)
          generalize eM6 : g2 M5 0 6 ((nI i) + 0) = M6 at hP
          exact g_vret M6 X hr hlk hK hP hS dX12_must_45 (by rw [show pMust tp n x (false, i, L) = _ from pMust_n (fun q => c13 ((hI_eq hx).mpr q))]; exact ⟨⟨((gs_same eM6)).trans ((gn_add (Eq.refl (nI i)) (show (0 : Int32) = nI 0 from rfl))), (gs_ne eM6 (by omega) (gs_same eM5))⟩, fun b i h => by unfold wS at h; exact (gs_ne eM6 (by omega) (gs_ne eM5 (by omega) rfl))⟩)

theorem gTx_m (h : gTx tx) : ∀ x ∈ tx, x < 128 := fun x hx => by
  obtain ⟨j, hj, rfl⟩ := List.getElem_of_mem hx
  have h1 := h.2 j
  rw [List.getD_eq_getElem?_getD, List.getElem?_eq_getElem hj] at h1
  exact h1
set_option maxHeartbeats 4000000 in
set_option maxRecDepth 100000 in
/-- spells -/
theorem c_spells (hM : gMod o T R) {s1 : PS} (hz : mPz M tp n act) (hp : mWp M s1) (hi3 : s1.2.1 ≤ n) (hs : gSo s0 B tx a q) (h2 : gSt2 s0 B) (htx : gTx tx) : Met l yX12_spells wsX12_spells ({ frames := 4, cells := 0, slots := 0, locals := 85 }) (mPre s0 D cy B o z T R I0 M [.ref a]) (mQv D cy B o z T R I0 (fun u => mWp u (pSpell tp n tx s1) ∧ mSame wS M u)) 0 0 (gA B) := by
  refine g_met (maxL := 3) (ret := none) (by decide) rfl (Nat.le_of_ble_eq_true rfl) (fun p e s m args below meth c ls X hr hlk hnm hK hP hC hS hl => ?_)
  have hl : lv_has ls 3 [(0, .ref o), (1, .ref a)] := hl
  have hP : gP D cy B z T (gI o 12 M I0) R s.heap := hP
  have hB : B ≤ s.heap.size := by rw [hP.1]; exact hP.2.1
  obtain ⟨ha5, hn100, -⟩ := hz.1
  have ht1 := htx.1
  have hlt : ∀ x ∈ tx, x < 128 := gTx_m htx
  refine lv_iconst (v := 0) X.1 X.2.1 dX12_spells_0 (by decide) ?_
  refine lv_istore_n (lv' := [(2, .int 0), (0, .ref o), (1, .ref a)]) X.1 X.2.1 dX12_spells_1 rfl hl (by decide) rfl (fun ls hl => ?_)
  refine m_loop (M := M) tx.length 2 [] (fun k Q9 ls => (∃ c9 : PS, mWp Q9 c9 ∧ c9.2.1 ≤ n ∧ pSpell tp n tx s1 = pSpell tp n (tx.drop k) c9 ∧ mSame wS M Q9) ∧ lv_has ls 3 [(0, .ref o), (1, .ref a), (2, .int (nI k))]) 0 (by omega) ⟨⟨s1, hp, hi3, rfl, fun _ _ _ => rfl⟩, lv_sub hl [1, 2, 0] rfl⟩ hP hS (fun k Q9 H locs ls hk hiv hP hS ih => ?_)
  obtain ⟨⟨c9, hq1, hq2, hq3, hq4⟩, hl⟩ := hiv
  have hz9 := mPz_w hz hq4
  refine lv_iload_n X.1 X.2.1 dX12_spells_2 rfl (lv_at hl 2 rfl) ?_
  refine lv_aload_n X.1 X.2.1 dX12_spells_3 rfl (lv_at hl 1 rfl) ?_
  refine g_run_i (g_runVO [] X hK hP hS hC hB (j_len (x := mSt o z T R I0 Q9) hs h2 htx) (cwV 0 X.2.2.2.2 gX12_spells_J0_length_8abf5 rfl rfl rfl (by decide +kernel) ⟨Nat.le_of_ble_eq_true rfl, Nat.le_of_ble_eq_true rfl⟩) (hs.now hC).1 rfl hl.1 rfl (Nat.le_of_ble_eq_true rfl) dX12_spells_4 (by exact ⟨Nat.zero_le _, Nat.zero_le _⟩)) hS (fun r u H locs hq hP hS => ?_)
  obtain ⟨rfl, rfl⟩ := hq
  have hP : gP D cy B z T (gI o 12 Q9 I0) R H := hP
  refine lv_icmp_ge (tgt := 25) X.1 X.2.1 dX12_spells_7 (by decide) (fun c7 => ?_) (fun c7 => ?_)
  · have n7 : tx.length ≤ k := gq_le c7 (Eq.refl (nI tx.length)) (Eq.refl (nI k)) (by omega) (by omega)
    exact g_vret Q9 X hr hlk hK hP hS dX12_spells_25 ⟨(by rw [hq3, List.drop_eq_nil_of_le n7]; exact hq1), hq4⟩
  · have n7 : k < tx.length := gq_nle c7 (Eq.refl (nI tx.length)) (Eq.refl (nI k)) (by omega) (by omega)
    refine lv_aload_n X.1 X.2.1 dX12_spells_10 rfl (lv_at hl 0 rfl) ?_
    refine lv_aload_n X.1 X.2.1 dX12_spells_11 rfl (lv_at hl 1 rfl) ?_
    refine lv_iload_n X.1 X.2.1 dX12_spells_12 rfl (lv_at hl 2 rfl) ?_
    have hcd := htx.2 k
    refine g_run_i (g_runVO [.int (nI k)] X hK hP hS hC hB (j_ca (x := mSt o z T R I0 Q9) (k := k) hs h2 htx n7) (cwV 1 X.2.2.2.2 gX12_spells_J0_charAt_5068e rfl rfl rfl (by decide +kernel) ⟨Nat.le_of_ble_eq_true rfl, Nat.le_of_ble_eq_true rfl⟩) (hs.now hC).1 rfl hl.1 rfl (Nat.le_of_ble_eq_true rfl) dX12_spells_13 (by exact ⟨Nat.zero_le _, Nat.zero_le _⟩)) hS (fun r u H locs hq hP hS => ?_)
    obtain ⟨rfl, rfl⟩ := hq
    have hP : gP D cy B z T (gI o 12 Q9 I0) R H := hP
    refine g_run_v (g_runV (k := 14) [.int (nI (tx.getD k 0))] X hK hP hS hC hB (c_must hM (s1 := c9) hz9 hq1 (by omega) (by first | decide | exact hcd)) (cwV 1 X.2.2.2.2 gX12_spells_X12_must rfl rfl rfl (by decide +kernel) ⟨Nat.le_of_ble_eq_true rfl, Nat.le_of_ble_eq_true rfl⟩) (hM.1 0 _ rfl) rfl rfl hl.1 rfl (Nat.le_of_ble_eq_true rfl) dX12_spells_16 (by exact ⟨Nat.zero_le _, Nat.zero_le _⟩)) hS (fun u H locs hq hP hS => ?_)
    obtain ⟨hpN1, hkN1⟩ := hq
    generalize u = N1 at hP hpN1 hkN1
    have hP : gP D cy B z T (gI o 12 N1 I0) R H := hP
    refine lv_iinc (v := nI (k + 1)) (lv' := [(2, .int (nI (k + 1))), (0, .ref o), (1, .ref a)]) X.1 X.2.1 dX12_spells_19 hl (k := 2) rfl (gn_inc (Eq.refl (nI k)) 1) (by decide) rfl (fun ls hl => ?_)
    refine lv_goto (tgt := 2) X.1 X.2.1 dX12_spells_22 (by decide) ?_
    exact ih _ _ _ _ (by omega) ⟨⟨_, hpN1, (pW_must (htx.2 k) c9 hq2).2.1, (by rw [hq3, drop_c n7]; rfl), mSame_tr hq4 hkN1⟩, lv_sub hl [1, 2, 0] rfl⟩ hP hS

theorem pAm_at {k c0 : Nat} (hk : k < tx.length) (h : tx.getD k 0 = c0) (hn : ∀ j, j < k → ¬ tx.getD j 0 = c0) : pAm tx c0 = k := by
  unfold pAm
  rw [List.findIdx_eq hk]
  have g : ∀ j (hj : j < tx.length), tx.getD j 0 = tx[j] := fun j hj => by rw [List.getD_eq_getElem?_getD, List.getElem?_eq_getElem hj]; rfl
  refine ⟨by rw [← g k hk, h]; simp, fun j hj => ?_⟩
  have h1 := hn j hj
  rw [g j (by omega)] at h1
  simpa using h1
theorem pAm_no {c0 : Nat} (hn : ∀ j, j < tx.length → ¬ tx.getD j 0 = c0) : pAm tx c0 = tx.length := by
  unfold pAm
  rw [List.findIdx_eq_length]
  intro x hx
  obtain ⟨j, hj, rfl⟩ := List.getElem_of_mem hx
  have h1 := hn j hj
  rw [List.getD_eq_getElem?_getD, List.getElem?_eq_getElem hj] at h1
  simpa using h1
set_option maxHeartbeats 4000000 in
set_option maxRecDepth 100000 in
/-- among -/
theorem c_among (hM : gMod o T R) (hz : mPz M tp n act) (h6 : M 0 6 = nI i) (hi3 : i ≤ n + 1) (hs : gSo s0 B tx a q) (h2 : gSt2 s0 B) (htx : gTx tx) : Met l yX12_among wsX12_among ({ frames := 4, cells := 0, slots := 0, locals := 85 }) (mPre s0 D cy B o z T R I0 M [.ref a]) (mQi D cy B o z T R I0 (fun r u => r = (if pAm tx (sH tp n i) < tx.length then nI (pAm tx (sH tp n i)) else -1) ∧ u 0 6 = nI (if pAm tx (sH tp n i) < tx.length then i + 1 else i) ∧ ∀ b j, ¬ (b = 0 ∧ j = 6) → u b j = M b j)) 0 0 (gA B) := by
  refine g_met (maxL := 3) (ret := (some .int)) (by decide) rfl (Nat.le_of_ble_eq_true rfl) (fun p e s m args below meth c ls X hr hlk hnm hK hP hC hS hl => ?_)
  have hl : lv_has ls 3 [(0, .ref o), (1, .ref a)] := hl
  have hP : gP D cy B z T (gI o 12 M I0) R s.heap := hP
  have hB : B ≤ s.heap.size := by rw [hP.1]; exact hP.2.1
  have hin : ∀ w ∈ wsX120, w ∈ wsX12_among := fun _ h => List.mem_cons_of_mem _ (List.mem_append_right _ h)
  have k57 : Cond.fieldLink RX12 57 "BarrowPlankModel" "spot" "I" ∈ wsX12_among := by decide +kernel
  obtain ⟨ha5, hn100, -⟩ := hz.1
  have ht1 := htx.1
  refine lv_iconst (v := 0) X.1 X.2.1 dX12_among_0 (by decide) ?_
  refine lv_istore_n (lv' := [(2, .int 0), (0, .ref o), (1, .ref a)]) X.1 X.2.1 dX12_among_1 rfl hl (by decide) rfl (fun ls hl => ?_)
  refine m_loop (M := M) tx.length 2 [] (fun k Q9 ls => (M = Q9 ∧ ∀ j, j < k → ¬ tx.getD j 0 = sH tp n i) ∧ lv_has ls 3 [(0, .ref o), (1, .ref a), (2, .int (nI k))]) 0 (by omega) ⟨⟨rfl, fun _ h => absurd h (Nat.not_lt_zero _)⟩, lv_sub hl [1, 2, 0] rfl⟩ hP hS (fun k Q9 H locs ls hk hiv hP hS ih => ?_)
  obtain ⟨⟨rfl, hno⟩, hl⟩ := hiv
  skip
  refine lv_iload_n X.1 X.2.1 dX12_among_2 rfl (lv_at hl 2 rfl) ?_
  refine lv_aload_n X.1 X.2.1 dX12_among_3 rfl (lv_at hl 1 rfl) ?_
  refine g_run_i (g_runVO [] X hK hP hS hC hB (j_len (x := mSt o z T R I0 M) hs h2 htx) (cwV 0 X.2.2.2.2 gX12_among_J0_length_8abf5 rfl rfl rfl (by decide +kernel) ⟨Nat.le_of_ble_eq_true rfl, Nat.le_of_ble_eq_true rfl⟩) (hs.now hC).1 rfl hl.1 rfl (Nat.le_of_ble_eq_true rfl) dX12_among_4 (by exact ⟨Nat.zero_le _, Nat.zero_le _⟩)) hS (fun r u H locs hq hP hS => ?_)
  obtain ⟨rfl, rfl⟩ := hq
  have hP : gP D cy B z T (gI o 12 M I0) R H := hP
  refine lv_icmp_ge (tgt := 40) X.1 X.2.1 dX12_among_7 (by decide) (fun c7 => ?_) (fun c7 => ?_)
  · have n7 : tx.length ≤ k := gq_le c7 (Eq.refl (nI tx.length)) (Eq.refl (nI k)) (by omega) (by omega)
    refine lv_iconst (v := (-1)) X.1 X.2.1 dX12_among_40 (by decide) ?_
    exact g_iret M X hr hlk hK hP hS dX12_among_41 (by rw [pAm_no (fun j hj => hno j (by omega)), if_neg (Nat.lt_irrefl _), if_neg (Nat.lt_irrefl _)]; exact ⟨rfl, h6, fun _ _ _ => rfl⟩)
  · have n7 : k < tx.length := gq_nle c7 (Eq.refl (nI tx.length)) (Eq.refl (nI k)) (by omega) (by omega)
    refine lv_aload_n X.1 X.2.1 dX12_among_10 rfl (lv_at hl 0 rfl) ?_
    refine g_run_i (g_runV (k := 14) [] X hK hP hS hC hB (c_here hM hz h6 (by omega)) (cwV 0 X.2.2.2.2 gX12_among_X12_here rfl rfl rfl (by decide +kernel) ⟨Nat.le_of_ble_eq_true rfl, Nat.le_of_ble_eq_true rfl⟩) (hM.1 0 _ rfl) rfl rfl hl.1 rfl (Nat.le_of_ble_eq_true rfl) dX12_among_11 (by exact ⟨Nat.zero_le _, Nat.zero_le _⟩)) hS (fun r u H locs hq hP hS => ?_)
    obtain ⟨rfl, rfl⟩ := hq
    have hP : gP D cy B z T (gI o 12 M I0) R H := hP
    refine lv_aload_n X.1 X.2.1 dX12_among_14 rfl (lv_at hl 1 rfl) ?_
    refine lv_iload_n X.1 X.2.1 dX12_among_15 rfl (lv_at hl 2 rfl) ?_
    have hcd := htx.2 k
    refine g_run_i (g_runVO [.int (nI k)] X hK hP hS hC hB (j_ca (x := mSt o z T R I0 M) (k := k) hs h2 htx n7) (cwV 1 X.2.2.2.2 gX12_among_J0_charAt_5068e rfl rfl rfl (by decide +kernel) ⟨Nat.le_of_ble_eq_true rfl, Nat.le_of_ble_eq_true rfl⟩) (hs.now hC).1 rfl hl.1 rfl (Nat.le_of_ble_eq_true rfl) dX12_among_16 (by exact ⟨Nat.zero_le _, Nat.zero_le _⟩)) hS (fun r u H locs hq hP hS => ?_)
    obtain ⟨rfl, rfl⟩ := hq
    have hP : gP D cy B z T (gI o 12 M I0) R H := hP
    refine lv_icmp_ne (tgt := 34) X.1 X.2.1 dX12_among_19 (by decide) (fun c19 => ?_) (fun c19 => ?_)
    · refine lv_iinc (v := nI (k + 1)) (lv' := [(2, .int (nI (k + 1))), (0, .ref o), (1, .ref a)]) X.1 X.2.1 dX12_among_34 hl (k := 2) rfl (gn_inc (Eq.refl (nI k)) 1) (by decide) rfl (fun ls hl => ?_)
      refine lv_goto (tgt := 2) X.1 X.2.1 dX12_among_37 (by decide) ?_
      exact ih _ _ _ _ (by omega) ⟨⟨rfl, fun j hj => by by_cases e : j = k; (· subst e; exact fun q => c19 ((hI_eq hcd).mpr q.symm)); exact hno j (by omega)⟩, lv_sub hl [1, 2, 0] rfl⟩ hP hS
    · refine lv_aload_n X.1 X.2.1 dX12_among_22 rfl (lv_at hl 0 rfl) ?_
      refine lv_dup X.1 X.2.1 dX12_among_23 rfl ?_
      refine m_geti 6 X hK hP hM hin rfl (by decide) k57 rfl dX12_among_24 (show M 0 6 = nI i from h6) ?_
      refine lv_iconst (v := 1) X.1 X.2.1 dX12_among_27 (by decide) ?_
      refine lv_iadd X.1 X.2.1 dX12_among_28 ?_
      refine m_puti 6 X hK hP hS hM hin rfl (by decide) k57 rfl rfl rfl rfl dX12_among_29 (fun H locs hP hS => ?_)
      generalize eM1 : g2 M 0 6 ((nI i) + 1) = M1 at hP
      refine lv_iload_n X.1 X.2.1 dX12_among_32 rfl (lv_at hl 2 rfl) ?_
      exact g_iret M1 X hr hlk hK hP hS dX12_among_33 (by rw [pAm_at n7 ((hI_eq hcd).mp c19).symm hno, if_pos n7, if_pos n7]; exact ⟨rfl, ((gs_same eM1)).trans ((gn_add (Eq.refl (nI i)) (show (1 : Int32) = nI 1 from rfl))), fun b i h => gs_ne eM1 (by omega) rfl⟩)

end MZ8