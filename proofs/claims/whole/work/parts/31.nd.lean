section ND
variable {l : Launch} {s0 : State} {D : va_G} {cy : Nat → ClassId} {B o z : Nat} {T : Nat → Nat × Nat} {R : Nat → Nat → Option Nat} {I0 : Nat → Nat → Int32} {M : Nat → Nat → Int32} {tp : Nat → Nat} {n act : Nat} {tx : List Nat} {a q ti sh : Nat}
def tS9 (act b i : Nat) : Prop := pS act b i ∨ (b = 1 ∧ (i = 168 + act ∨ i = 173 + act))
theorem tS9_p {b j : Nat} (h : ¬ tS9 act b j) : ¬ pS act b j := fun g => h (Or.inl g)
theorem tS9_w {b j : Nat} (h : ¬ tS9 act b j) : ¬ wS b j := fun g => h (Or.inl (Or.inl g))
theorem mPz_t {M2 : Nat → Nat → Int32} (h : mPz M tp n act) (hk : mSame (tS9 act) M M2) : mPz M2 tp n act :=
  ⟨h.1, (hk 0 5 (by unfold tS9 pS wS; omega)).trans h.2.1, (hk 0 7 (by unfold tS9 pS wS; omega)).trans h.2.2.1, fun k g => (hk 1 (68 + k) (by have := h.1.1; unfold tS9 pS wS; omega)).trans (h.2.2.2 k g)⟩

set_option maxHeartbeats 4000000 in
set_option maxRecDepth 100000 in
/-- much -/
theorem c_much (hM : gMod o T R) (hz : mPz M tp n act) {s1 : PS} (hp : mPs M act s1) (ho : M 0 9 = nI 0) (hi3 : s1.2.1 ≤ n) (hL : s1.2.2.length ≤ s1.2.1) (hstr : gStr s0 B) (hs : gSo s0 B tx a q) (htx : gTx tx) {kv : Int32} {kn : Nat} (hkv : ∀ v, v < 100 → kv - nI v = encR (kn + v)) : Met l yX12_much wsX12_much ({ frames := 23, cells := 0, slots := 0, locals := 515 }) (mPre s0 D cy B o z T R I0 M [.int kv, .ref a]) (mQv D cy B o z T R I0 (fun u => mPs u act (pMuch tp n kn tx s1) ∧ mSame (pS act) M u)) 0 0 (gA B) := by
  refine g_met (maxL := 4) (ret := none) (by decide) rfl (Nat.le_of_ble_eq_true rfl) (fun p e s m args below meth c ls X hr hlk hnm hK hP hC hS hl => ?_)
  have hl : lv_has ls 4 [(0, .ref o), (1, .int kv), (2, .ref a)] := hl
  have hP : gP D cy B z T (gI o 12 M I0) R s.heap := hP
  have hB : B ≤ s.heap.size := by rw [hP.1]; exact hP.2.1
  obtain ⟨ha5, hn100, htp⟩ := hz.1
  have h2 := hstr.1
  have hw1 := pW_spell (tp := tp) (n := n) tx (gTx_m htx) s1 hi3
  have hw2 := pW_fig (tp := tp) (n := n) (pSpell tp n tx s1) hw1.2.1
  dsimp only at hw2
  have hw3 := pW_must (tp := tp) (n := n) (x := 32) (by decide) (pFig tp n (pSpell tp n tx s1)).1 hw2.2.1
  have hw4 := pW_some (tp := tp) (F := pFac tp n 5) (pW_fac 5) (pMust tp n 32 (pFig tp n (pSpell tp n tx s1)).1) hw3.2.1
  refine lv_aload_n X.1 X.2.1 dX12_much_0 rfl (lv_at hl 0 rfl) ?_
  refine lv_aload_n X.1 X.2.1 dX12_much_1 rfl (lv_at hl 2 rfl) ?_
  refine g_run_v (g_runV (k := 14) [.ref a] X hK hP hS hC hB (c_spells hM (s1 := s1) hz hp.1 hi3 hs h2 htx) (cwV 1 X.2.2.2.2 gX12_much_X12_spells rfl rfl rfl (by decide +kernel) ⟨Nat.le_of_ble_eq_true rfl, Nat.le_of_ble_eq_true rfl⟩) (hM.1 0 _ rfl) rfl rfl hl.1 rfl (Nat.le_of_ble_eq_true rfl) dX12_much_2 (by exact ⟨Nat.zero_le _, Nat.zero_le _⟩)) hS (fun u H locs hq hP hS => ?_)
  obtain ⟨hqN1, hkN1⟩ := hq
  generalize u = N1 at hP hqN1 hkN1
  have hlsN1 : mLs N1 act (pSpell tp n tx s1).2.2 := by rw [pSpell_l]; exact mLs_w hp.2 hkN1
  have hP : gP D cy B z T (gI o 12 N1 I0) R H := hP
  have hk9N1 : mSame (pS9 act) M N1 := fun b j h => (hkN1 b j (pS_w h)).trans ((fun _ _ _ => rfl) b j h)
  have hzN1 : mPz N1 tp n act := mPz_9 hz hk9N1
  have hoN1 : N1 0 9 = nI 0 := (hkN1 0 9 (by unfold wS; omega)).trans ho
  refine lv_aload_n X.1 X.2.1 dX12_much_5 rfl (lv_at hl 0 rfl) ?_
  refine g_run_i (g_runV (k := 14) [] X hK hP hS hC hB (c_figures hM (s1 := pSpell tp n tx s1) hzN1 hqN1 hw1.2.1) (cwV 0 X.2.2.2.2 gX12_much_X12_figures rfl rfl rfl (by decide +kernel) ⟨Nat.le_of_ble_eq_true rfl, Nat.le_of_ble_eq_true rfl⟩) (hM.1 0 _ rfl) rfl rfl hl.1 rfl (Nat.le_of_ble_eq_true rfl) dX12_much_6 (by exact ⟨Nat.zero_le _, Nat.zero_le _⟩)) hS (fun r u H locs hq hP hS => ?_)
  obtain ⟨rfl, hqN2, hkN2⟩ := hq
  generalize u = N2 at hP hqN2 hkN2
  have hlsN2 : mLs N2 act ((pFig tp n (pSpell tp n tx s1)).1).2.2 := by rw [pFig_l]; exact mLs_w hlsN1 hkN2
  have hP : gP D cy B z T (gI o 12 N2 I0) R H := hP
  have hk9N2 : mSame (pS9 act) M N2 := fun b j h => (hkN2 b j (pS_w h)).trans (hk9N1 b j h)
  have hzN2 : mPz N2 tp n act := mPz_9 hz hk9N2
  have hoN2 : N2 0 9 = nI 0 := (hkN2 0 9 (by unfold wS; omega)).trans hoN1
  refine lv_istore_n (lv' := [(3, .int (nI ((pFig tp n (pSpell tp n tx s1)).2))), (0, .ref o), (1, .int kv), (2, .ref a)]) X.1 X.2.1 dX12_much_9 rfl hl (by decide) rfl (fun ls hl => ?_)
  refine lv_aload_n X.1 X.2.1 dX12_much_10 rfl (lv_at hl 1 rfl) ?_
  refine lv_bipush (v := 32) X.1 X.2.1 dX12_much_11 (by decide) ?_
  refine g_run_v (g_runV (k := 14) [.int 32] X hK hP hS hC hB (c_must hM (s1 := (pFig tp n (pSpell tp n tx s1)).1) hzN2 hqN2 (by have := hz.1.2.1; omega) (by decide)) (cwV 1 X.2.2.2.2 gX12_much_X12_must rfl rfl rfl (by decide +kernel) ⟨Nat.le_of_ble_eq_true rfl, Nat.le_of_ble_eq_true rfl⟩) (hM.1 0 _ rfl) rfl rfl hl.1 rfl (Nat.le_of_ble_eq_true rfl) dX12_much_13 (by exact ⟨Nat.zero_le _, Nat.zero_le _⟩)) hS (fun u H locs hq hP hS => ?_)
  obtain ⟨hqN3, hkN3⟩ := hq
  generalize u = N3 at hP hqN3 hkN3
  have hlsN3 : mLs N3 act (pMust tp n 32 ((pFig tp n (pSpell tp n tx s1)).1)).2.2 := by rw [pMust_l]; exact mLs_w hlsN2 hkN3
  have hP : gP D cy B z T (gI o 12 N3 I0) R H := hP
  have hk9N3 : mSame (pS9 act) M N3 := fun b j h => (hkN3 b j (pS_w h)).trans (hk9N2 b j h)
  have hzN3 : mPz N3 tp n act := mPz_9 hz hk9N3
  have hoN3 : N3 0 9 = nI 0 := (hkN3 0 9 (by unfold wS; omega)).trans hoN2
  refine lv_aload_n X.1 X.2.1 dX12_much_16 rfl (lv_at hl 1 rfl) ?_
  refine g_run_v (g_runV (k := 14) [] X hK hP hS hC hB ((C_fac5 hM hstr) _ (pMust tp n 32 ((pFig tp n (pSpell tp n tx s1)).1)) hzN3 ⟨hqN3, hlsN3⟩ hoN3 hw3.2.1 (by omega)) (cwV 0 X.2.2.2.2 gX12_much_X12_some rfl rfl rfl (by decide +kernel) ⟨Nat.le_of_ble_eq_true rfl, Nat.le_of_ble_eq_true rfl⟩) (hM.1 0 _ rfl) rfl rfl hl.1 rfl (Nat.le_of_ble_eq_true rfl) dX12_much_17 (by exact ⟨Nat.zero_le _, Nat.zero_le _⟩)) hS (fun u H locs hq hP hS => ?_)
  obtain ⟨⟨hqN4, hlsN4⟩, hkN4⟩ := hq
  generalize u = N4 at hP hqN4 hlsN4 hkN4
  have hP : gP D cy B z T (gI o 12 N4 I0) R H := hP
  have hk9N4 : mSame (pS9 act) M N4 := fun b j h => (hkN4 b j (pS9_S h)).trans (hk9N3 b j h)
  have hzN4 : mPz N4 tp n act := mPz_9 hz hk9N4
  have hoN4 : N4 0 9 = nI 0 := (hkN4 0 9 (by unfold pS wS; omega)).trans hoN3
  refine lv_aload_n X.1 X.2.1 dX12_much_20 rfl (lv_at hl 1 rfl) ?_
  refine lv_iload_n X.1 X.2.1 dX12_much_21 rfl (lv_at hl 2 rfl) ?_
  refine lv_iload_n X.1 X.2.1 dX12_much_22 rfl (lv_at hl 0 rfl) ?_
  refine lv_isub X.1 X.2.1 dX12_much_23 ?_
  refine g_run_v (g_runV (k := 14) [.int (kv - (nI ((pFig tp n (pSpell tp n tx s1)).2)))] X hK hP hS hC hB (c_emits hM (s1 := pSome tp n (pFac tp n 5) (pMust tp n 32 ((pFig tp n (pSpell tp n tx s1)).1))) (t := kn + (pFig tp n (pSpell tp n tx s1)).2) hzN4 ⟨hqN4, hlsN4⟩ (by omega) (fun _ => hkv _ (pFig_v htp _))) (cwV 1 X.2.2.2.2 gX12_much_X12_emits rfl rfl rfl (by decide +kernel) ⟨Nat.le_of_ble_eq_true rfl, Nat.le_of_ble_eq_true rfl⟩) (hM.1 0 _ rfl) rfl rfl hl.1 rfl (Nat.le_of_ble_eq_true rfl) dX12_much_24 (by exact ⟨Nat.zero_le _, Nat.zero_le _⟩)) hS (fun u H locs hq hP hS => ?_)
  obtain ⟨⟨hqN5, hlsN5⟩, hkN5⟩ := hq
  generalize u = N5 at hP hqN5 hlsN5 hkN5
  have hP : gP D cy B z T (gI o 12 N5 I0) R H := hP
  have hk9N5 : mSame (pS9 act) M N5 := fun b j h => (hkN5 b j (pS9_S h)).trans (hk9N4 b j h)
  have hzN5 : mPz N5 tp n act := mPz_9 hz hk9N5
  have hoN5 : N5 0 9 = nI 0 := (hkN5 0 9 (by unfold pS wS; omega)).trans hoN4
  exact g_vret N5 X hr hlk hK hP hS dX12_much_27 ⟨⟨hqN5, hlsN5⟩, fun b j h => by by_cases e9 : b = 0 ∧ j = 9; (· obtain ⟨rfl, rfl⟩ := e9; exact hoN5.trans ho.symm); exact hk9N5 b j (fun g => g.elim h e9)⟩

set_option maxHeartbeats 4000000 in
set_option maxRecDepth 100000 in
/-- c_tellsT -/
theorem c_tellsT (hM : gMod o T R) (hz : mPz M tp n act) {s1 : PS} (hp : mPs M act s1) (ho : M 0 9 = nI 0) (hi3 : s1.2.1 ≤ n) (hL : s1.2.2.length ≤ s1.2.1) (hstr : gStr s0 B) (hs : gSo s0 B tx a q) (htx : gTx tx) (hts : M 1 (168 + act) = nI ti ∧ M 1 (173 + act) = nI sh) : Met l yX12_tellsHere wsX12_tellsHere ({ frames := 5, cells := 0, slots := 0, locals := 107 }) (mPre s0 D cy B o z T R I0 M [.int 168, .ref a]) (mQv D cy B o z T R I0 (fun u => mPs u act (pTell tp n true tx s1 (ti, sh)).1 ∧ (u 1 (168 + act) = nI (pTell tp n true tx s1 (ti, sh)).2.1 ∧ u 1 (173 + act) = nI (pTell tp n true tx s1 (ti, sh)).2.2) ∧ mSame (tS9 act) M u)) 0 0 (gA B) := by
  refine g_met (maxL := 4) (ret := none) (by decide) rfl (Nat.le_of_ble_eq_true rfl) (fun p e s m args below meth c ls X hr hlk hnm hK hP hC hS hl => ?_)
  have hl : lv_has ls 4 [(0, .ref o), (1, .int 168), (2, .ref a)] := hl
  have hP : gP D cy B z T (gI o 12 M I0) R s.heap := hP
  have hB : B ≤ s.heap.size := by rw [hP.1]; exact hP.2.1
  have hin : ∀ w ∈ wsX120, w ∈ wsX12_tellsHere := fun _ h => List.mem_cons_of_mem _ (List.mem_append_right _ h)
  have k9 : Cond.fieldLink RX12 9 "BarrowPlankModel" "s" "[I" ∈ wsX12_tellsHere := by decide +kernel
  have k63 : Cond.fieldLink RX12 63 "BarrowPlankModel" "isWrong" "Z" ∈ wsX12_tellsHere := by decide +kernel
  have k84 : Cond.fieldLink RX12 84 "BarrowPlankModel" "act" "I" ∈ wsX12_tellsHere := by decide +kernel
  obtain ⟨ha5, hn100, htp⟩ := hz.1
  have h2 := hstr.1
  obtain ⟨hti, hsh⟩ := hts
  have hw1 := pW_spell (tp := tp) (n := n) tx (gTx_m htx) s1 hi3
  have hw2 := pW_fig (tp := tp) (n := n) (pSpell tp n tx s1) hw1.2.1
  dsimp only at hw2
  refine lv_aload_n X.1 X.2.1 dX12_tellsHere_0 rfl (lv_at hl 0 rfl) ?_
  refine lv_aload_n X.1 X.2.1 dX12_tellsHere_1 rfl (lv_at hl 2 rfl) ?_
  refine g_run_v (g_runV (k := 14) [.ref a] X hK hP hS hC hB (c_spells hM (s1 := s1) hz hp.1 hi3 hs h2 htx) (cwV 1 X.2.2.2.2 gX12_tellsHere_X12_spells rfl rfl rfl (by decide +kernel) ⟨Nat.le_of_ble_eq_true rfl, Nat.le_of_ble_eq_true rfl⟩) (hM.1 0 _ rfl) rfl rfl hl.1 rfl (Nat.le_of_ble_eq_true rfl) dX12_tellsHere_2 (by exact ⟨Nat.zero_le _, Nat.zero_le _⟩)) hS (fun u H locs hq hP hS => ?_)
  obtain ⟨hqN1, hkN1⟩ := hq
  generalize u = N1 at hP hqN1 hkN1
  have hlsN1 : mLs N1 act (pSpell tp n tx s1).2.2 := by rw [pSpell_l]; exact mLs_w hp.2 hkN1
  have hP : gP D cy B z T (gI o 12 N1 I0) R H := hP
  have hk9N1 : mSame (pS9 act) M N1 := fun b j h => (hkN1 b j (pS_w h)).trans ((fun _ _ _ => rfl) b j h)
  have hzN1 : mPz N1 tp n act := mPz_9 hz hk9N1
  have hoN1 : N1 0 9 = nI 0 := (hkN1 0 9 (by unfold wS; omega)).trans ho
  refine lv_aload_n X.1 X.2.1 dX12_tellsHere_5 rfl (lv_at hl 0 rfl) ?_
  refine g_run_i (g_runV (k := 14) [] X hK hP hS hC hB (c_figures hM (s1 := pSpell tp n tx s1) hzN1 hqN1 hw1.2.1) (cwV 0 X.2.2.2.2 gX12_tellsHere_X12_figures rfl rfl rfl (by decide +kernel) ⟨Nat.le_of_ble_eq_true rfl, Nat.le_of_ble_eq_true rfl⟩) (hM.1 0 _ rfl) rfl rfl hl.1 rfl (Nat.le_of_ble_eq_true rfl) dX12_tellsHere_6 (by exact ⟨Nat.zero_le _, Nat.zero_le _⟩)) hS (fun r u H locs hq hP hS => ?_)
  obtain ⟨rfl, hqN2, hkN2⟩ := hq
  generalize u = N2 at hP hqN2 hkN2
  have hlsN2 : mLs N2 act ((pFig tp n (pSpell tp n tx s1)).1).2.2 := by rw [pFig_l]; exact mLs_w hlsN1 hkN2
  have hP : gP D cy B z T (gI o 12 N2 I0) R H := hP
  have hk9N2 : mSame (pS9 act) M N2 := fun b j h => (hkN2 b j (pS_w h)).trans (hk9N1 b j h)
  have hzN2 : mPz N2 tp n act := mPz_9 hz hk9N2
  have hoN2 : N2 0 9 = nI 0 := (hkN2 0 9 (by unfold wS; omega)).trans hoN1
  refine lv_istore_n (lv' := [(3, .int (nI ((pFig tp n (pSpell tp n tx s1)).2))), (0, .ref o), (1, .int 168), (2, .ref a)]) X.1 X.2.1 dX12_tellsHere_9 rfl hl (by decide) rfl (fun ls hl => ?_)
  refine lv_aload_n X.1 X.2.1 dX12_tellsHere_10 rfl (lv_at hl 1 rfl) ?_
  refine m_geti 8 X hK hP hM hin rfl (by decide) k63 rfl dX12_tellsHere_11 (show N2 0 8 = bI ((pFig tp n (pSpell tp n tx s1)).1).1 from (hqN2.2)) ?_
  refine lv_if_ne (tgt := 29) X.1 X.2.1 dX12_tellsHere_14 (by decide) (fun c14 => ?_) (fun c14 => ?_)
  · have hw9 : (pFig tp n (pSpell tp n tx s1)).1.1 = true := bI_1 c14
    have he9 : (pTell tp n true tx s1 (ti, sh)).2 = (ti, sh) := if_pos hw9
    exact g_vret N2 X hr hlk hK hP hS dX12_tellsHere_29 ⟨⟨hqN2, hlsN2⟩, (by rw [he9]; exact ⟨(hk9N2 1 _ (by unfold pS9 pS wS; omega)).trans hti, (hk9N2 1 _ (by unfold pS9 pS wS; omega)).trans hsh⟩), fun b j h => by by_cases e9 : b = 0 ∧ j = 9; (· obtain ⟨rfl, rfl⟩ := e9; exact hoN2.trans ho.symm); exact hk9N2 b j (fun g => g.elim (tS9_p h) e9)⟩
  · refine lv_aload_n X.1 X.2.1 dX12_tellsHere_17 rfl (lv_at hl 1 rfl) ?_
    refine m_getr 1 1 X hK hP hM hin rfl (by decide) k9 rfl dX12_tellsHere_18 (by decide) ?_
    refine lv_iload_n X.1 X.2.1 dX12_tellsHere_21 rfl (lv_at hl 2 rfl) ?_
    refine lv_aload_n X.1 X.2.1 dX12_tellsHere_22 rfl (lv_at hl 1 rfl) ?_
    refine m_geti 5 X hK hP hM hin rfl (by decide) k84 rfl dX12_tellsHere_23 (show N2 0 5 = nI act from hzN2.2.1) ?_
    refine lv_iadd X.1 X.2.1 dX12_tellsHere_26 ?_
    refine lv_iload_n X.1 X.2.1 dX12_tellsHere_27 rfl (lv_at hl 0 rfl) ?_
    refine m_ast 1 (168 + act) 883 X hK hP hS hM rfl (gIx_of (gn_add (show (168 : Int32) = nI 168 from rfl) (Eq.refl (nI act))) (by omega) (by omega)) dX12_tellsHere_28 (fun H locs hP hS => ?_)
    generalize eM3 : g2 N2 1 (168 + act) (nI ((pFig tp n (pSpell tp n tx s1)).2)) = M3 at hP
    have hw9 : (pFig tp n (pSpell tp n tx s1)).1.1 = false := bI_0 c14
    have he9 : (pTell tp n true tx s1 (ti, sh)).2 = ((pFig tp n (pSpell tp n tx s1)).2, sh) := (if_neg (by rw [hw9]; decide)).trans (if_pos rfl)
    exact g_vret M3 X hr hlk hK hP hS dX12_tellsHere_29 ⟨⟨⟨gs_ne eM3 (by omega) hqN2.1, gs_ne eM3 (by omega) hqN2.2⟩, ⟨gs_ne eM3 (by omega) hlsN2.1, fun k g => gs_ne eM3 (by omega) (hlsN2.2 k g)⟩⟩, (by rw [he9]; exact ⟨gs_same' eM3 (by omega), gs_ne eM3 (by omega) ((hk9N2 1 _ (by unfold pS9 pS wS; omega)).trans hsh)⟩), fun b j h => by by_cases e9 : b = 0 ∧ j = 9; (· obtain ⟨rfl, rfl⟩ := e9; exact gs_ne eM3 (by omega) (hoN2.trans ho.symm)); exact gs_ne eM3 (by unfold tS9 pS wS at h; omega) (hk9N2 b j (fun g => g.elim (tS9_p h) e9))⟩

set_option maxHeartbeats 4000000 in
set_option maxRecDepth 100000 in
/-- c_tellsS -/
theorem c_tellsS (hM : gMod o T R) (hz : mPz M tp n act) {s1 : PS} (hp : mPs M act s1) (ho : M 0 9 = nI 0) (hi3 : s1.2.1 ≤ n) (hL : s1.2.2.length ≤ s1.2.1) (hstr : gStr s0 B) (hs : gSo s0 B tx a q) (htx : gTx tx) (hts : M 1 (168 + act) = nI ti ∧ M 1 (173 + act) = nI sh) : Met l yX12_tellsHere wsX12_tellsHere ({ frames := 5, cells := 0, slots := 0, locals := 107 }) (mPre s0 D cy B o z T R I0 M [.int 173, .ref a]) (mQv D cy B o z T R I0 (fun u => mPs u act (pTell tp n false tx s1 (ti, sh)).1 ∧ (u 1 (168 + act) = nI (pTell tp n false tx s1 (ti, sh)).2.1 ∧ u 1 (173 + act) = nI (pTell tp n false tx s1 (ti, sh)).2.2) ∧ mSame (tS9 act) M u)) 0 0 (gA B) := by
  refine g_met (maxL := 4) (ret := none) (by decide) rfl (Nat.le_of_ble_eq_true rfl) (fun p e s m args below meth c ls X hr hlk hnm hK hP hC hS hl => ?_)
  have hl : lv_has ls 4 [(0, .ref o), (1, .int 173), (2, .ref a)] := hl
  have hP : gP D cy B z T (gI o 12 M I0) R s.heap := hP
  have hB : B ≤ s.heap.size := by rw [hP.1]; exact hP.2.1
  have hin : ∀ w ∈ wsX120, w ∈ wsX12_tellsHere := fun _ h => List.mem_cons_of_mem _ (List.mem_append_right _ h)
  have k9 : Cond.fieldLink RX12 9 "BarrowPlankModel" "s" "[I" ∈ wsX12_tellsHere := by decide +kernel
  have k63 : Cond.fieldLink RX12 63 "BarrowPlankModel" "isWrong" "Z" ∈ wsX12_tellsHere := by decide +kernel
  have k84 : Cond.fieldLink RX12 84 "BarrowPlankModel" "act" "I" ∈ wsX12_tellsHere := by decide +kernel
  obtain ⟨ha5, hn100, htp⟩ := hz.1
  have h2 := hstr.1
  obtain ⟨hti, hsh⟩ := hts
  have hw1 := pW_spell (tp := tp) (n := n) tx (gTx_m htx) s1 hi3
  have hw2 := pW_fig (tp := tp) (n := n) (pSpell tp n tx s1) hw1.2.1
  dsimp only at hw2
  refine lv_aload_n X.1 X.2.1 dX12_tellsHere_0 rfl (lv_at hl 0 rfl) ?_
  refine lv_aload_n X.1 X.2.1 dX12_tellsHere_1 rfl (lv_at hl 2 rfl) ?_
  refine g_run_v (g_runV (k := 14) [.ref a] X hK hP hS hC hB (c_spells hM (s1 := s1) hz hp.1 hi3 hs h2 htx) (cwV 1 X.2.2.2.2 gX12_tellsHere_X12_spells rfl rfl rfl (by decide +kernel) ⟨Nat.le_of_ble_eq_true rfl, Nat.le_of_ble_eq_true rfl⟩) (hM.1 0 _ rfl) rfl rfl hl.1 rfl (Nat.le_of_ble_eq_true rfl) dX12_tellsHere_2 (by exact ⟨Nat.zero_le _, Nat.zero_le _⟩)) hS (fun u H locs hq hP hS => ?_)
  obtain ⟨hqN1, hkN1⟩ := hq
  generalize u = N1 at hP hqN1 hkN1
  have hlsN1 : mLs N1 act (pSpell tp n tx s1).2.2 := by rw [pSpell_l]; exact mLs_w hp.2 hkN1
  have hP : gP D cy B z T (gI o 12 N1 I0) R H := hP
  have hk9N1 : mSame (pS9 act) M N1 := fun b j h => (hkN1 b j (pS_w h)).trans ((fun _ _ _ => rfl) b j h)
  have hzN1 : mPz N1 tp n act := mPz_9 hz hk9N1
  have hoN1 : N1 0 9 = nI 0 := (hkN1 0 9 (by unfold wS; omega)).trans ho
  refine lv_aload_n X.1 X.2.1 dX12_tellsHere_5 rfl (lv_at hl 0 rfl) ?_
  refine g_run_i (g_runV (k := 14) [] X hK hP hS hC hB (c_figures hM (s1 := pSpell tp n tx s1) hzN1 hqN1 hw1.2.1) (cwV 0 X.2.2.2.2 gX12_tellsHere_X12_figures rfl rfl rfl (by decide +kernel) ⟨Nat.le_of_ble_eq_true rfl, Nat.le_of_ble_eq_true rfl⟩) (hM.1 0 _ rfl) rfl rfl hl.1 rfl (Nat.le_of_ble_eq_true rfl) dX12_tellsHere_6 (by exact ⟨Nat.zero_le _, Nat.zero_le _⟩)) hS (fun r u H locs hq hP hS => ?_)
  obtain ⟨rfl, hqN2, hkN2⟩ := hq
  generalize u = N2 at hP hqN2 hkN2
  have hlsN2 : mLs N2 act ((pFig tp n (pSpell tp n tx s1)).1).2.2 := by rw [pFig_l]; exact mLs_w hlsN1 hkN2
  have hP : gP D cy B z T (gI o 12 N2 I0) R H := hP
  have hk9N2 : mSame (pS9 act) M N2 := fun b j h => (hkN2 b j (pS_w h)).trans (hk9N1 b j h)
  have hzN2 : mPz N2 tp n act := mPz_9 hz hk9N2
  have hoN2 : N2 0 9 = nI 0 := (hkN2 0 9 (by unfold wS; omega)).trans hoN1
  refine lv_istore_n (lv' := [(3, .int (nI ((pFig tp n (pSpell tp n tx s1)).2))), (0, .ref o), (1, .int 173), (2, .ref a)]) X.1 X.2.1 dX12_tellsHere_9 rfl hl (by decide) rfl (fun ls hl => ?_)
  refine lv_aload_n X.1 X.2.1 dX12_tellsHere_10 rfl (lv_at hl 1 rfl) ?_
  refine m_geti 8 X hK hP hM hin rfl (by decide) k63 rfl dX12_tellsHere_11 (show N2 0 8 = bI ((pFig tp n (pSpell tp n tx s1)).1).1 from (hqN2.2)) ?_
  refine lv_if_ne (tgt := 29) X.1 X.2.1 dX12_tellsHere_14 (by decide) (fun c14 => ?_) (fun c14 => ?_)
  · have hw9 : (pFig tp n (pSpell tp n tx s1)).1.1 = true := bI_1 c14
    have he9 : (pTell tp n false tx s1 (ti, sh)).2 = (ti, sh) := if_pos hw9
    exact g_vret N2 X hr hlk hK hP hS dX12_tellsHere_29 ⟨⟨hqN2, hlsN2⟩, (by rw [he9]; exact ⟨(hk9N2 1 _ (by unfold pS9 pS wS; omega)).trans hti, (hk9N2 1 _ (by unfold pS9 pS wS; omega)).trans hsh⟩), fun b j h => by by_cases e9 : b = 0 ∧ j = 9; (· obtain ⟨rfl, rfl⟩ := e9; exact hoN2.trans ho.symm); exact hk9N2 b j (fun g => g.elim (tS9_p h) e9)⟩
  · refine lv_aload_n X.1 X.2.1 dX12_tellsHere_17 rfl (lv_at hl 1 rfl) ?_
    refine m_getr 1 1 X hK hP hM hin rfl (by decide) k9 rfl dX12_tellsHere_18 (by decide) ?_
    refine lv_iload_n X.1 X.2.1 dX12_tellsHere_21 rfl (lv_at hl 2 rfl) ?_
    refine lv_aload_n X.1 X.2.1 dX12_tellsHere_22 rfl (lv_at hl 1 rfl) ?_
    refine m_geti 5 X hK hP hM hin rfl (by decide) k84 rfl dX12_tellsHere_23 (show N2 0 5 = nI act from hzN2.2.1) ?_
    refine lv_iadd X.1 X.2.1 dX12_tellsHere_26 ?_
    refine lv_iload_n X.1 X.2.1 dX12_tellsHere_27 rfl (lv_at hl 0 rfl) ?_
    refine m_ast 1 (173 + act) 883 X hK hP hS hM rfl (gIx_of (gn_add (show (173 : Int32) = nI 173 from rfl) (Eq.refl (nI act))) (by omega) (by omega)) dX12_tellsHere_28 (fun H locs hP hS => ?_)
    generalize eM3 : g2 N2 1 (173 + act) (nI ((pFig tp n (pSpell tp n tx s1)).2)) = M3 at hP
    have hw9 : (pFig tp n (pSpell tp n tx s1)).1.1 = false := bI_0 c14
    have he9 : (pTell tp n false tx s1 (ti, sh)).2 = (ti, (pFig tp n (pSpell tp n tx s1)).2) := (if_neg (by rw [hw9]; decide)).trans (if_neg (by decide))
    exact g_vret M3 X hr hlk hK hP hS dX12_tellsHere_29 ⟨⟨⟨gs_ne eM3 (by omega) hqN2.1, gs_ne eM3 (by omega) hqN2.2⟩, ⟨gs_ne eM3 (by omega) hlsN2.1, fun k g => gs_ne eM3 (by omega) (hlsN2.2 k g)⟩⟩, (by rw [he9]; exact ⟨gs_ne eM3 (by omega) ((hk9N2 1 _ (by unfold pS9 pS wS; omega)).trans hti), gs_same' eM3 (by omega)⟩), fun b j h => by by_cases e9 : b = 0 ∧ j = 9; (· obtain ⟨rfl, rfl⟩ := e9; exact gs_ne eM3 (by omega) (hoN2.trans ho.symm)); exact gs_ne eM3 (by unfold tS9 pS wS at h; omega) (hk9N2 b j (fun g => g.elim (tS9_p h) e9))⟩

def mRs (M : Nat → Nat → Int32) (act : Nat) (r1 : RS) : Prop := mPs M act r1.1 ∧ M 1 (168 + act) = nI r1.2.1 ∧ M 1 (173 + act) = nI r1.2.2
theorem mRs_m {s1 : PS} {y : Nat × Nat} {M2 : Nat → Nat → Int32} (ha5 : act < 5) (h : M 1 (168 + act) = nI y.1 ∧ M 1 (173 + act) = nI y.2) (hp : mPs M2 act s1) (hk : mSame (pS act) M M2) : mRs M2 act (s1, y) :=
  ⟨hp, (hk 1 _ (by unfold pS wS; omega)).trans h.1, (hk 1 _ (by unfold pS wS; omega)).trans h.2⟩
theorem kv_p : ∀ v, v < 100 → (-10 : Int32) - nI v = encR (20000 + v) := fun v h => (encR_P h).symm
theorem kv_e : ∀ v, v < 100 → (-200 : Int32) - nI v = encR (20100 + v) := fun v h => (encR_E h).symm
theorem kv_s : ∀ v, v < 100 → (-400 : Int32) - nI v = encR (20200 + v) := fun v h => (encR_S h).symm
theorem gsw4 {x : Nat} {e1 e2 e3 e4 dd : Int} (h1 : ¬ x = 101) (h2 : ¬ x = 112) (h3 : ¬ x = 115) (h4 : ¬ x = 116) : Op.lookupswitch.offset [(101, e1), (112, e2), (115, e3), (116, e4)] dd (hI x).toInt = dd := by
  have g : ∀ (a : Int32) (A : Int) (k : Nat), a = nI k → a.toInt = A → k < 128 → ¬ x = k → ¬ A = (hI x).toInt := fun a A k e1 e2 e3 e4 q => e4 ((hI_eq e3).mp (by rw [← e1]; exact Int32.toInt_inj.mp (by rw [e2, q])))
  rw [Op.lookupswitch.offset_cons, if_neg (g 101 101 101 rfl (by decide) (by decide) h1), Op.lookupswitch.offset_cons, if_neg (g 112 112 112 rfl (by decide) (by decide) h2), Op.lookupswitch.offset_cons, if_neg (g 115 115 115 rfl (by decide) (by decide) h3), Op.lookupswitch.offset_cons, if_neg (g 116 116 116 rfl (by decide) (by decide) h4), Op.lookupswitch.offset_nil]

set_option maxHeartbeats 4000000 in
set_option maxRecDepth 100000 in
/-- clauseOfS -/
theorem c_clauseOfS (hM : gMod o T R) (hz : mPz M tp n act) {r1 : RS} (hp : mRs M act r1) (ho : M 0 9 = nI 0) (hi3 : r1.1.2.1 ≤ n) (hL : r1.1.2.2.length ≤ r1.1.2.1) (hw : r1.1.1 = false) (hstr : gStr s0 B) (h115 : sH tp n r1.1.2.1 = 115) : Met l yX12_clauseOfS wsX12_clauseOfS ({ frames := 24, cells := 0, slots := 0, locals := 538 }) (mPre s0 D cy B o z T R I0 M []) (mQv D cy B o z T R I0 (fun u => mRs u act (if sH tp n (r1.1.2.1 + 1) = 112 then (pMuch tp n 20200 [112, 105, 108, 108, 32] (false, r1.1.2.1 + 1, r1.1.2.2), r1.2) else pTell tp n false [104, 111, 118, 101, 108, 32] (false, r1.1.2.1 + 1, r1.1.2.2) r1.2) ∧ mSame (tS9 act) M u)) 0 0 (gA B) := by
  refine g_met (maxL := 1) (ret := none) (by decide) rfl (Nat.le_of_ble_eq_true rfl) (fun p e s m args below meth c ls X hr hlk hnm hK hP hC hS hl => ?_)
  have hl : lv_has ls 1 [(0, .ref o)] := hl
  have hP : gP D cy B z T (gI o 12 M I0) R s.heap := hP
  have hB : B ≤ s.heap.size := by rw [hP.1]; exact hP.2.1
  obtain ⟨ha5, hn100, htp⟩ := hz.1
  obtain ⟨⟨wr, i, L⟩, ti, sh⟩ := r1
  obtain ⟨⟨hp, hls⟩, hts⟩ := hp
  obtain rfl : wr = false := hw
  have hls : mLs M act L := hls
  have hi3 : i ≤ n := hi3
  have hL : L.length ≤ i := hL
  have hts : M 1 (168 + act) = nI ti ∧ M 1 (173 + act) = nI sh := hts
  have h115 : sH tp n i = 115 := h115
  have hin9 := sH_in h115 (by decide)
  refine lv_aload_n X.1 X.2.1 dX12_clauseOfS_0 rfl (lv_at hl 0 rfl) ?_
  refine lv_bipush (v := 115) X.1 X.2.1 dX12_clauseOfS_1 (by decide) ?_
  refine g_run_v (g_runV (k := 14) [.int 115] X hK hP hS hC hB (c_must hM (s1 := (false, i, L)) hz hp (by dsimp only; omega) (by decide)) (cwV 1 X.2.2.2.2 gX12_clauseOfS_X12_must rfl rfl rfl (by decide +kernel) ⟨Nat.le_of_ble_eq_true rfl, Nat.le_of_ble_eq_true rfl⟩) (hM.1 0 _ rfl) rfl rfl hl.1 rfl (Nat.le_of_ble_eq_true rfl) dX12_clauseOfS_3 (by exact ⟨Nat.zero_le _, Nat.zero_le _⟩)) hS (fun u H locs hq hP hS => ?_)
  obtain ⟨hqN1, hkN1⟩ := hq
  generalize u = N1 at hP hqN1 hkN1
  rw [pMust_y h115] at hqN1
  have hlsN1 : mLs N1 act L := mLs_w hls hkN1
  have hP : gP D cy B z T (gI o 12 N1 I0) R H := hP
  have hk9N1 : mSame (pS9 act) M N1 := fun b j h => (hkN1 b j (pS_w h)).trans ((fun _ _ _ => rfl) b j h)
  have hzN1 : mPz N1 tp n act := mPz_9 hz hk9N1
  have hoN1 : N1 0 9 = nI 0 := (hkN1 0 9 (by unfold wS; omega)).trans ho
  refine lv_aload_n X.1 X.2.1 dX12_clauseOfS_6 rfl (lv_at hl 0 rfl) ?_
  refine g_run_i (g_runV (k := 14) [] X hK hP hS hC hB (c_here hM (i := i + 1) hzN1 hqN1.1 (by have := hz.1.2.1; omega)) (cwV 0 X.2.2.2.2 gX12_clauseOfS_X12_here rfl rfl rfl (by decide +kernel) ⟨Nat.le_of_ble_eq_true rfl, Nat.le_of_ble_eq_true rfl⟩) (hM.1 0 _ rfl) rfl rfl hl.1 rfl (Nat.le_of_ble_eq_true rfl) dX12_clauseOfS_7 (by exact ⟨Nat.zero_le _, Nat.zero_le _⟩)) hS (fun r u H locs hq hP hS => ?_)
  obtain ⟨rfl, rfl⟩ := hq
  have hP : gP D cy B z T (gI o 12 N1 I0) R H := hP
  refine lv_bipush (v := 112) X.1 X.2.1 dX12_clauseOfS_10 (by decide) ?_
  refine lv_icmp_ne (tgt := 27) X.1 X.2.1 dX12_clauseOfS_12 (by decide) (fun c12 => ?_) (fun c12 => ?_)
  · refine lv_aload_n X.1 X.2.1 dX12_clauseOfS_27 rfl (lv_at hl 0 rfl) ?_
    refine lv_sipush (v := 173) X.1 X.2.1 dX12_clauseOfS_28 (by decide) ?_
    obtain ⟨a9, q9, hR9, hs9, ht9⟩ := hstr.at 3 rfl
    refine va_ldcS X.1 X.2.1 X.2.2.2.1 (vk_R.warm hC.1 hR9) dX12_clauseOfS_31 ?_
    refine g_run_v (g_runV (k := 14) [.int 173, .ref a9] X hK hP hS hC hB (c_tellsS (ti := ti) (sh := sh) hM hzN1 ⟨hqN1, hlsN1⟩ hoN1 (by dsimp only; omega) (by dsimp only; omega) hstr hs9 ht9 ⟨(hkN1 1 _ (by unfold wS; omega)).trans hts.1, (hkN1 1 _ (by unfold wS; omega)).trans hts.2⟩) (cwV 2 X.2.2.2.2 gX12_clauseOfS_X12_tellsHere rfl rfl rfl (by decide +kernel) ⟨Nat.le_of_ble_eq_true rfl, Nat.le_of_ble_eq_true rfl⟩) (hM.1 0 _ rfl) rfl rfl hl.1 rfl (Nat.le_of_ble_eq_true rfl) dX12_clauseOfS_33 (by exact ⟨Nat.zero_le _, Nat.zero_le _⟩)) hS (fun u H locs hq hP hS => ?_)
    obtain ⟨hqN2, htN2, hkN2⟩ := hq
    generalize u = N2 at hP hqN2 htN2 hkN2
    have hP : gP D cy B z T (gI o 12 N2 I0) R H := hP
    exact g_vret N2 X hr hlk hK hP hS dX12_clauseOfS_36 (by rw [if_neg (show ¬ sH tp n (i + 1) = 112 from fun g => c12 ((hI_eq (y := 112) (by decide)).mpr g))]; exact ⟨⟨hqN2, htN2⟩, fun b j h => (hkN2 b j h).trans (hkN1 b j (tS9_w h))⟩)
  · refine lv_aload_n X.1 X.2.1 dX12_clauseOfS_15 rfl (lv_at hl 0 rfl) ?_
    refine lv_sipush (v := (-400)) X.1 X.2.1 dX12_clauseOfS_16 (by decide) ?_
    obtain ⟨a9, q9, hR9, hs9, ht9⟩ := hstr.at 2 rfl
    refine va_ldcS X.1 X.2.1 X.2.2.2.1 (vk_R.warm hC.1 hR9) dX12_clauseOfS_19 ?_
    refine g_run_v (g_runV (k := 14) [.int (-400), .ref a9] X hK hP hS hC hB (c_much hM hzN1 ⟨hqN1, hlsN1⟩ hoN1 (by dsimp only; omega) (by dsimp only; omega) hstr hs9 ht9 kv_s) (cwV 2 X.2.2.2.2 gX12_clauseOfS_X12_much rfl rfl rfl (by decide +kernel) ⟨Nat.le_of_ble_eq_true rfl, Nat.le_of_ble_eq_true rfl⟩) (hM.1 0 _ rfl) rfl rfl hl.1 rfl (Nat.le_of_ble_eq_true rfl) dX12_clauseOfS_21 (by exact ⟨Nat.zero_le _, Nat.zero_le _⟩)) hS (fun u H locs hq hP hS => ?_)
    obtain ⟨hqN3, hkN3⟩ := hq
    generalize u = N3 at hP hqN3 hkN3
    have hP : gP D cy B z T (gI o 12 N3 I0) R H := hP
    refine lv_goto (tgt := 36) X.1 X.2.1 dX12_clauseOfS_24 (by decide) ?_
    exact g_vret N3 X hr hlk hK hP hS dX12_clauseOfS_36 (by rw [if_pos (show sH tp n (i + 1) = 112 from (hI_eq (y := 112) (by decide)).mp c12)]; exact ⟨mRs_m (M := N1) (y := (ti, sh)) ha5 ⟨(hkN1 1 _ (by unfold wS; omega)).trans hts.1, (hkN1 1 _ (by unfold wS; omega)).trans hts.2⟩ hqN3 hkN3, fun b j h => (hkN3 b j (tS9_p h)).trans (hkN1 b j (tS9_w h))⟩)

set_option maxHeartbeats 4000000 in
set_option maxRecDepth 100000 in
/-- clauseHere -/
theorem c_clauseHere (hM : gMod o T R) (hz : mPz M tp n act) {r1 : RS} (hp : mRs M act r1) (ho : M 0 9 = nI 0) (hi3 : r1.1.2.1 ≤ n) (hL : r1.1.2.2.length ≤ r1.1.2.1) (hw : r1.1.1 = false) (hstr : gStr s0 B) : Met l yX12_clauseHere wsX12_clauseHere ({ frames := 25, cells := 0, slots := 0, locals := 558 }) (mPre s0 D cy B o z T R I0 M []) (mQv D cy B o z T R I0 (fun u => mRs u act (pCl tp n r1) ∧ mSame (tS9 act) M u)) 0 0 (gA B) := by
  refine g_met (maxL := 1) (ret := none) (by decide) rfl (Nat.le_of_ble_eq_true rfl) (fun p e s m args below meth c ls X hr hlk hnm hK hP hC hS hl => ?_)
  have hl : lv_has ls 1 [(0, .ref o)] := hl
  have hP : gP D cy B z T (gI o 12 M I0) R s.heap := hP
  have hB : B ≤ s.heap.size := by rw [hP.1]; exact hP.2.1
  have hin : ∀ w ∈ wsX120, w ∈ wsX12_clauseHere := fun _ h => List.mem_cons_of_mem _ (List.mem_append_right _ h)
  have k63 : Cond.fieldLink RX12 63 "BarrowPlankModel" "isWrong" "Z" ∈ wsX12_clauseHere := by decide +kernel
  obtain ⟨ha5, hn100, htp⟩ := hz.1
  obtain ⟨⟨wr, i, L⟩, ti, sh⟩ := r1
  obtain ⟨⟨hp, hls⟩, hts⟩ := hp
  obtain rfl : wr = false := hw
  have hls : mLs M act L := hls
  have hi3 : i ≤ n := hi3
  have hL : L.length ≤ i := hL
  have hts : M 1 (168 + act) = nI ti ∧ M 1 (173 + act) = nI sh := hts
  by_cases h112 : sH tp n i = 112
  · refine lv_aload_n X.1 X.2.1 dX12_clauseHere_0 rfl (lv_at hl 0 rfl) ?_
    refine g_run_i (g_runV (k := 14) [] X hK hP hS hC hB (c_here hM (i := i) hz hp.1 (by have := hz.1.2.1; omega)) (cwV 0 X.2.2.2.2 gX12_clauseHere_X12_here rfl rfl rfl (by decide +kernel) ⟨Nat.le_of_ble_eq_true rfl, Nat.le_of_ble_eq_true rfl⟩) (hM.1 0 _ rfl) rfl rfl hl.1 rfl (Nat.le_of_ble_eq_true rfl) dX12_clauseHere_1 (by exact ⟨Nat.zero_le _, Nat.zero_le _⟩)) hS (fun r u H locs hq hP hS => ?_)
    obtain ⟨rfl, rfl⟩ := hq
    have hP : gP D cy B z T (gI o 12 M I0) R H := hP
    refine lv_cv (show hI (sH tp n i) = 112 from (hI_eq (y := 112) (by decide)).mpr h112) ?_
    refine lv_lookup (off := 44) (tgt := 48) X.1 X.2.1 dX12_clauseHere_4 (by decide) (by decide) (by decide) ?_
    refine lv_aload_n X.1 X.2.1 dX12_clauseHere_48 rfl (lv_at hl 0 rfl) ?_
    refine lv_bipush (v := (-10)) X.1 X.2.1 dX12_clauseHere_49 (by decide) ?_
    obtain ⟨a9, q9, hR9, hs9, ht9⟩ := hstr.at 4 rfl
    refine va_ldcS X.1 X.2.1 X.2.2.2.1 (vk_R.warm hC.1 hR9) dX12_clauseHere_51 ?_
    refine g_run_v (g_runV (k := 14) [.int (-10), .ref a9] X hK hP hS hC hB (c_much hM hz ⟨hp, hls⟩ ho hi3 hL hstr hs9 ht9 kv_p) (cwV 2 X.2.2.2.2 gX12_clauseHere_X12_much rfl rfl rfl (by decide +kernel) ⟨Nat.le_of_ble_eq_true rfl, Nat.le_of_ble_eq_true rfl⟩) (hM.1 0 _ rfl) rfl rfl hl.1 rfl (Nat.le_of_ble_eq_true rfl) dX12_clauseHere_53 (by exact ⟨Nat.zero_le _, Nat.zero_le _⟩)) hS (fun u H locs hq hP hS => ?_)
    obtain ⟨hqN1, hkN1⟩ := hq
    generalize u = N1 at hP hqN1 hkN1
    have hP : gP D cy B z T (gI o 12 N1 I0) R H := hP
    refine lv_goto (tgt := 95) X.1 X.2.1 dX12_clauseHere_56 (by decide) ?_
    exact g_vret N1 X hr hlk hK hP hS dX12_clauseHere_95 (by unfold pCl; rw [if_pos h112]; exact ⟨mRs_m (M := M) (y := (ti, sh)) ha5 hts hqN1 hkN1, fun b j h => hkN1 b j (tS9_p h)⟩)
  · skip
    by_cases h101 : sH tp n i = 101
    · refine lv_aload_n X.1 X.2.1 dX12_clauseHere_0 rfl (lv_at hl 0 rfl) ?_
      refine g_run_i (g_runV (k := 14) [] X hK hP hS hC hB (c_here hM (i := i) hz hp.1 (by have := hz.1.2.1; omega)) (cwV 0 X.2.2.2.2 gX12_clauseHere_X12_here rfl rfl rfl (by decide +kernel) ⟨Nat.le_of_ble_eq_true rfl, Nat.le_of_ble_eq_true rfl⟩) (hM.1 0 _ rfl) rfl rfl hl.1 rfl (Nat.le_of_ble_eq_true rfl) dX12_clauseHere_1 (by exact ⟨Nat.zero_le _, Nat.zero_le _⟩)) hS (fun r u H locs hq hP hS => ?_)
      obtain ⟨rfl, rfl⟩ := hq
      have hP : gP D cy B z T (gI o 12 M I0) R H := hP
      refine lv_cv (show hI (sH tp n i) = 101 from (hI_eq (y := 101) (by decide)).mpr h101) ?_
      refine lv_lookup (off := 55) (tgt := 59) X.1 X.2.1 dX12_clauseHere_4 (by decide) (by decide) (by decide) ?_
      refine lv_aload_n X.1 X.2.1 dX12_clauseHere_59 rfl (lv_at hl 0 rfl) ?_
      refine lv_sipush (v := (-200)) X.1 X.2.1 dX12_clauseHere_60 (by decide) ?_
      obtain ⟨a9, q9, hR9, hs9, ht9⟩ := hstr.at 5 rfl
      refine va_ldcS X.1 X.2.1 X.2.2.2.1 (vk_R.warm hC.1 hR9) dX12_clauseHere_63 ?_
      refine g_run_v (g_runV (k := 14) [.int (-200), .ref a9] X hK hP hS hC hB (c_much hM hz ⟨hp, hls⟩ ho hi3 hL hstr hs9 ht9 kv_e) (cwV 2 X.2.2.2.2 gX12_clauseHere_X12_much rfl rfl rfl (by decide +kernel) ⟨Nat.le_of_ble_eq_true rfl, Nat.le_of_ble_eq_true rfl⟩) (hM.1 0 _ rfl) rfl rfl hl.1 rfl (Nat.le_of_ble_eq_true rfl) dX12_clauseHere_65 (by exact ⟨Nat.zero_le _, Nat.zero_le _⟩)) hS (fun u H locs hq hP hS => ?_)
      obtain ⟨hqN2, hkN2⟩ := hq
      generalize u = N2 at hP hqN2 hkN2
      have hP : gP D cy B z T (gI o 12 N2 I0) R H := hP
      refine lv_goto (tgt := 95) X.1 X.2.1 dX12_clauseHere_68 (by decide) ?_
      exact g_vret N2 X hr hlk hK hP hS dX12_clauseHere_95 (by unfold pCl; rw [if_neg h112, if_pos h101]; exact ⟨mRs_m (M := M) (y := (ti, sh)) ha5 hts hqN2 hkN2, fun b j h => hkN2 b j (tS9_p h)⟩)
    · skip
      by_cases h115 : sH tp n i = 115
      · refine lv_aload_n X.1 X.2.1 dX12_clauseHere_0 rfl (lv_at hl 0 rfl) ?_
        refine g_run_i (g_runV (k := 14) [] X hK hP hS hC hB (c_here hM (i := i) hz hp.1 (by have := hz.1.2.1; omega)) (cwV 0 X.2.2.2.2 gX12_clauseHere_X12_here rfl rfl rfl (by decide +kernel) ⟨Nat.le_of_ble_eq_true rfl, Nat.le_of_ble_eq_true rfl⟩) (hM.1 0 _ rfl) rfl rfl hl.1 rfl (Nat.le_of_ble_eq_true rfl) dX12_clauseHere_1 (by exact ⟨Nat.zero_le _, Nat.zero_le _⟩)) hS (fun r u H locs hq hP hS => ?_)
        obtain ⟨rfl, rfl⟩ := hq
        have hP : gP D cy B z T (gI o 12 M I0) R H := hP
        refine lv_cv (show hI (sH tp n i) = 115 from (hI_eq (y := 115) (by decide)).mpr h115) ?_
        refine lv_lookup (off := 67) (tgt := 71) X.1 X.2.1 dX12_clauseHere_4 (by decide) (by decide) (by decide) ?_
        refine lv_aload_n X.1 X.2.1 dX12_clauseHere_71 rfl (lv_at hl 0 rfl) ?_
        refine g_run_v (g_runV (k := 14) [] X hK hP hS hC hB (c_clauseOfS hM hz (r1 := ((false, i, L), ti, sh)) ⟨⟨hp, hls⟩, hts⟩ ho hi3 hL rfl hstr h115) (cwV 0 X.2.2.2.2 gX12_clauseHere_X12_clauseOfS rfl rfl rfl (by decide +kernel) ⟨Nat.le_of_ble_eq_true rfl, Nat.le_of_ble_eq_true rfl⟩) (hM.1 0 _ rfl) rfl rfl hl.1 rfl (Nat.le_of_ble_eq_true rfl) dX12_clauseHere_72 (by exact ⟨Nat.zero_le _, Nat.zero_le _⟩)) hS (fun u H locs hq hP hS => ?_)
        obtain ⟨hqN3, hkN3⟩ := hq
        generalize u = N3 at hP hqN3 hkN3
        have hP : gP D cy B z T (gI o 12 N3 I0) R H := hP
        refine lv_goto (tgt := 95) X.1 X.2.1 dX12_clauseHere_75 (by decide) ?_
        exact g_vret N3 X hr hlk hK hP hS dX12_clauseHere_95 (by unfold pCl; rw [if_neg h112, if_neg h101, if_pos h115]; exact ⟨hqN3, hkN3⟩)
      · skip
        by_cases h116 : sH tp n i = 116
        · refine lv_aload_n X.1 X.2.1 dX12_clauseHere_0 rfl (lv_at hl 0 rfl) ?_
          refine g_run_i (g_runV (k := 14) [] X hK hP hS hC hB (c_here hM (i := i) hz hp.1 (by have := hz.1.2.1; omega)) (cwV 0 X.2.2.2.2 gX12_clauseHere_X12_here rfl rfl rfl (by decide +kernel) ⟨Nat.le_of_ble_eq_true rfl, Nat.le_of_ble_eq_true rfl⟩) (hM.1 0 _ rfl) rfl rfl hl.1 rfl (Nat.le_of_ble_eq_true rfl) dX12_clauseHere_1 (by exact ⟨Nat.zero_le _, Nat.zero_le _⟩)) hS (fun r u H locs hq hP hS => ?_)
          obtain ⟨rfl, rfl⟩ := hq
          have hP : gP D cy B z T (gI o 12 M I0) R H := hP
          refine lv_cv (show hI (sH tp n i) = 116 from (hI_eq (y := 116) (by decide)).mpr h116) ?_
          refine lv_lookup (off := 74) (tgt := 78) X.1 X.2.1 dX12_clauseHere_4 (by decide) (by decide) (by decide) ?_
          refine lv_aload_n X.1 X.2.1 dX12_clauseHere_78 rfl (lv_at hl 0 rfl) ?_
          refine lv_sipush (v := 168) X.1 X.2.1 dX12_clauseHere_79 (by decide) ?_
          obtain ⟨a9, q9, hR9, hs9, ht9⟩ := hstr.at 6 rfl
          refine va_ldcS X.1 X.2.1 X.2.2.2.1 (vk_R.warm hC.1 hR9) dX12_clauseHere_82 ?_
          refine g_run_v (g_runV (k := 14) [.int 168, .ref a9] X hK hP hS hC hB (c_tellsT (ti := ti) (sh := sh) hM hz ⟨hp, hls⟩ ho hi3 hL hstr hs9 ht9 hts) (cwV 2 X.2.2.2.2 gX12_clauseHere_X12_tellsHere rfl rfl rfl (by decide +kernel) ⟨Nat.le_of_ble_eq_true rfl, Nat.le_of_ble_eq_true rfl⟩) (hM.1 0 _ rfl) rfl rfl hl.1 rfl (Nat.le_of_ble_eq_true rfl) dX12_clauseHere_84 (by exact ⟨Nat.zero_le _, Nat.zero_le _⟩)) hS (fun u H locs hq hP hS => ?_)
          obtain ⟨hqN4, htN4, hkN4⟩ := hq
          generalize u = N4 at hP hqN4 htN4 hkN4
          have hP : gP D cy B z T (gI o 12 N4 I0) R H := hP
          refine lv_goto (tgt := 95) X.1 X.2.1 dX12_clauseHere_87 (by decide) ?_
          exact g_vret N4 X hr hlk hK hP hS dX12_clauseHere_95 (by unfold pCl; rw [if_neg h112, if_neg h101, if_neg h115, if_pos h116]; exact ⟨⟨hqN4, htN4⟩, hkN4⟩)
        · skip
          refine lv_aload_n X.1 X.2.1 dX12_clauseHere_0 rfl (lv_at hl 0 rfl) ?_
          refine g_run_i (g_runV (k := 14) [] X hK hP hS hC hB (c_here hM (i := i) hz hp.1 (by have := hz.1.2.1; omega)) (cwV 0 X.2.2.2.2 gX12_clauseHere_X12_here rfl rfl rfl (by decide +kernel) ⟨Nat.le_of_ble_eq_true rfl, Nat.le_of_ble_eq_true rfl⟩) (hM.1 0 _ rfl) rfl rfl hl.1 rfl (Nat.le_of_ble_eq_true rfl) dX12_clauseHere_1 (by exact ⟨Nat.zero_le _, Nat.zero_le _⟩)) hS (fun r u H locs hq hP hS => ?_)
          obtain ⟨rfl, rfl⟩ := hq
          have hP : gP D cy B z T (gI o 12 M I0) R H := hP
          refine lv_lookup (off := 86) (tgt := 90) X.1 X.2.1 dX12_clauseHere_4 (by decide) (gsw4 h101 h112 h115 h116) (by decide) ?_
          refine lv_aload_n X.1 X.2.1 dX12_clauseHere_90 rfl (lv_at hl 0 rfl) ?_
          refine lv_iconst (v := 1) X.1 X.2.1 dX12_clauseHere_91 (by decide) ?_
          refine m_puti 8 X hK hP hS hM hin rfl (by decide) k63 rfl rfl rfl rfl dX12_clauseHere_92 (fun H locs hP hS => ?_)
          generalize eM5 : g2 M 0 8 1 = M5 at hP
          exact g_vret M5 X hr hlk hK hP hS dX12_clauseHere_95 (by unfold pCl; rw [if_neg h112, if_neg h101, if_neg h115, if_neg h116]; exact ⟨⟨⟨⟨gs_ne eM5 (by omega) hp.1, gs_same eM5⟩, ⟨gs_ne eM5 (by omega) hls.1, fun k g => gs_ne eM5 (by omega) (hls.2 k g)⟩⟩, gs_ne eM5 (by omega) hts.1, gs_ne eM5 (by omega) hts.2⟩, fun b j h => gs_ne eM5 (by unfold tS9 pS wS at h; omega) rfl⟩)

end ND