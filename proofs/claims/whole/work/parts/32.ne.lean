section NE
variable {l : Launch} {s0 : State} {D : va_G} {cy : Nat → ClassId} {B o z : Nat} {T : Nat → Nat × Nat} {R : Nat → Nat → Option Nat} {I0 : Nat → Nat → Int32} {M : Nat → Nat → Int32} {tp : Nat → Nat} {n act : Nat}
def zS (act b i : Nat) : Prop := (b = 0 ∧ 5 ≤ i ∧ i ≤ 9) ∨ (b = 1 ∧ (i = 41 ∨ i = 168 + act ∨ i = 173 + act ∨ i = 178 + act ∨ (183 + 140 * act ≤ i ∧ i < 323 + 140 * act)))
theorem zS_t {b j : Nat} (h : ¬ zS act b j) : ¬ tS9 act b j := by unfold zS at h; unfold tS9 pS wS; omega
theorem pSi_stop : ∀ {k : Nat} {r1 : RS}, ¬ (r1.1.1 = false ∧ sH tp n r1.1.2.1 = 59) → pSi tp n k r1 = r1
  | 0, _, _ => rfl
  | k + 1, _, h => if_neg h
theorem pSi_go {k : Nat} {r1 : RS} (hk : k < 9) (h : r1.1.1 = false ∧ sH tp n r1.1.2.1 = 59) : pSi tp n (9 - k) r1 = pSi tp n (9 - (k + 1)) (pCl tp n ((false, r1.1.2.1 + 1, r1.1.2.2), r1.2)) := by
  rw [show 9 - k = (9 - (k + 1)) + 1 by omega]
  exact if_pos h
def mTp (M : Nat → Nat → Int32) (tp : Nat → Nat) (n act : Nat) : Prop := (act < 5 ∧ n ≤ 100 ∧ ∀ k, tp k ≤ 127) ∧ M 1 39 = nI act ∧ M 1 41 = nI n ∧ ∀ k, k < 100 → M 1 (68 + k) = nI (tp k)

set_option maxHeartbeats 4000000 in
set_option maxRecDepth 100000 in
/-- site, five already -/
theorem c_site_f (hM : gMod o T R) (h5 : M 1 39 = 5) : Met l yX12_site wsX12_site ({ frames := 0, cells := 0, slots := 0, locals := 0 }) (mPre s0 D cy B o z T R I0 M []) (mQi D cy B o z T R I0 (fun r u => r = -4 ∧ M = u)) 0 0 (gA B) := by
  refine g_met (maxL := 2) (ret := (some .int)) (by decide) rfl (Nat.le_of_ble_eq_true rfl) (fun p e s m args below meth c ls X hr hlk hnm hK hP hC hS hl => ?_)
  have hl : lv_has ls 2 [(0, .ref o)] := hl
  have hP : gP D cy B z T (gI o 12 M I0) R s.heap := hP
  have hB : B ≤ s.heap.size := by rw [hP.1]; exact hP.2.1
  have hin : ∀ w ∈ wsX120, w ∈ wsX12_site := fun _ h => List.mem_cons_of_mem _ (List.mem_append_right _ h)
  have k9 : Cond.fieldLink RX12 9 "BarrowPlankModel" "s" "[I" ∈ wsX12_site := by decide +kernel
  have k37 : Cond.fieldLink RX12 37 "BarrowPlankModel" "times" "I" ∈ wsX12_site := by decide +kernel
  have k57 : Cond.fieldLink RX12 57 "BarrowPlankModel" "spot" "I" ∈ wsX12_site := by decide +kernel
  have k60 : Cond.fieldLink RX12 60 "BarrowPlankModel" "end" "I" ∈ wsX12_site := by decide +kernel
  have k63 : Cond.fieldLink RX12 63 "BarrowPlankModel" "isWrong" "Z" ∈ wsX12_site := by decide +kernel
  have k84 : Cond.fieldLink RX12 84 "BarrowPlankModel" "act" "I" ∈ wsX12_site := by decide +kernel
  have k87 : Cond.fieldLink RX12 87 "BarrowPlankModel" "open" "I" ∈ wsX12_site := by decide +kernel
  refine lv_aload_n X.1 X.2.1 dX12_site_0 rfl (lv_at hl 0 rfl) ?_
  refine m_getr 1 1 X hK hP hM hin rfl (by decide) k9 rfl dX12_site_1 (by decide) ?_
  refine lv_bipush (v := 39) X.1 X.2.1 dX12_site_4 (by decide) ?_
  refine m_ald 1 39 883 X hK hP hM rfl (gIx_of (show (39 : Int32) = nI 39 from rfl) (by omega) (by omega)) dX12_site_6 (show M 1 39 = M 1 39 from rfl) ?_
  refine lv_iconst (v := 5) X.1 X.2.1 dX12_site_7 (by decide) ?_
  refine lv_icmp_ne (tgt := 14) X.1 X.2.1 dX12_site_8 (by decide) (fun c8 => ?_) (fun c8 => ?_)
  · exact absurd h5 c8
  · refine lv_bipush (v := (-4)) X.1 X.2.1 dX12_site_11 (by decide) ?_
    exact g_iret M X hr hlk hK hP hS dX12_site_13 ⟨rfl, rfl⟩

theorem gq_k9 {k : Nat} (c : ¬ (10 : Int32) ≤ nI (k + 1)) (hk : k ≤ 9) : k < 9 := by
  have h := gq_nle c (show (10 : Int32) = nI 10 from rfl) (Eq.refl (nI (k + 1))) (by omega) (by omega)
  omega
theorem gq_k9b {k : Nat} (c : (10 : Int32) ≤ nI (k + 1)) (hk : k ≤ 9) : k = 9 := by
  have h := gq_le c (show (10 : Int32) = nI 10 from rfl) (Eq.refl (nI (k + 1))) (by omega) (by omega)
  omega
set_option maxHeartbeats 4000000 in
set_option maxRecDepth 100000 in
/-- c_site_x -/
theorem c_site_x (hM : gMod o T R) (hb : mTp M tp n act) (hstr : gStr s0 B) (hno : ¬ ((pSite tp n).1.1 = false ∧ (pSite tp n).1.2.1 = n)) : Met l yX12_site wsX12_site ({ frames := 26, cells := 0, slots := 0, locals := 578 }) (mPre s0 D cy B o z T R I0 M []) (mQi D cy B o z T R I0 (fun r u => r = -10 - nI (pSite tp n).1.2.1 ∧ (∀ b j, ¬ zS act b j → u b j = M b j) ∧ u 1 41 = 0)) 0 0 (gA B) := by
  refine g_met (maxL := 2) (ret := (some .int)) (by decide) rfl (Nat.le_of_ble_eq_true rfl) (fun p e s m args below meth c ls X hr hlk hnm hK hP hC hS hl => ?_)
  have hl : lv_has ls 2 [(0, .ref o)] := hl
  have hP : gP D cy B z T (gI o 12 M I0) R s.heap := hP
  have hB : B ≤ s.heap.size := by rw [hP.1]; exact hP.2.1
  have hin : ∀ w ∈ wsX120, w ∈ wsX12_site := fun _ h => List.mem_cons_of_mem _ (List.mem_append_right _ h)
  have k9 : Cond.fieldLink RX12 9 "BarrowPlankModel" "s" "[I" ∈ wsX12_site := by decide +kernel
  have k37 : Cond.fieldLink RX12 37 "BarrowPlankModel" "times" "I" ∈ wsX12_site := by decide +kernel
  have k57 : Cond.fieldLink RX12 57 "BarrowPlankModel" "spot" "I" ∈ wsX12_site := by decide +kernel
  have k60 : Cond.fieldLink RX12 60 "BarrowPlankModel" "end" "I" ∈ wsX12_site := by decide +kernel
  have k63 : Cond.fieldLink RX12 63 "BarrowPlankModel" "isWrong" "Z" ∈ wsX12_site := by decide +kernel
  have k84 : Cond.fieldLink RX12 84 "BarrowPlankModel" "act" "I" ∈ wsX12_site := by decide +kernel
  have k87 : Cond.fieldLink RX12 87 "BarrowPlankModel" "open" "I" ∈ wsX12_site := by decide +kernel
  obtain ⟨ha5, hn100, htp⟩ := hb.1
  have h39 := hb.2.1
  have h41 := hb.2.2.1
  refine lv_aload_n X.1 X.2.1 dX12_site_0 rfl (lv_at hl 0 rfl) ?_
  refine m_getr 1 1 X hK hP hM hin rfl (by decide) k9 rfl dX12_site_1 (by decide) ?_
  refine lv_bipush (v := 39) X.1 X.2.1 dX12_site_4 (by decide) ?_
  refine m_ald 1 39 883 X hK hP hM rfl (gIx_of (show (39 : Int32) = nI 39 from rfl) (by omega) (by omega)) dX12_site_6 (show M 1 39 = nI act from h39) ?_
  refine lv_iconst (v := 5) X.1 X.2.1 dX12_site_7 (by decide) ?_
  refine lv_icmp_ne (tgt := 14) X.1 X.2.1 dX12_site_8 (by decide) (fun c8 => ?_) (fun c8 => ?_)
  · refine lv_aload_n X.1 X.2.1 dX12_site_14 rfl (lv_at hl 0 rfl) ?_
    refine lv_aload_n X.1 X.2.1 dX12_site_15 rfl (lv_at hl 0 rfl) ?_
    refine m_getr 1 1 X hK hP hM hin rfl (by decide) k9 rfl dX12_site_16 (by decide) ?_
    refine lv_bipush (v := 39) X.1 X.2.1 dX12_site_19 (by decide) ?_
    refine m_ald 1 39 883 X hK hP hM rfl (gIx_of (show (39 : Int32) = nI 39 from rfl) (by omega) (by omega)) dX12_site_21 (show M 1 39 = nI act from h39) ?_
    refine m_puti 5 X hK hP hS hM hin rfl (by decide) k84 rfl rfl rfl rfl dX12_site_22 (fun H locs hP hS => ?_)
    generalize eM1 : g2 M 0 5 (nI act) = M1 at hP
    refine lv_aload_n X.1 X.2.1 dX12_site_25 rfl (lv_at hl 0 rfl) ?_
    refine lv_aload_n X.1 X.2.1 dX12_site_26 rfl (lv_at hl 0 rfl) ?_
    refine m_getr 1 1 X hK hP hM hin rfl (by decide) k9 rfl dX12_site_27 (by decide) ?_
    refine lv_bipush (v := 41) X.1 X.2.1 dX12_site_30 (by decide) ?_
    refine m_ald 1 41 883 X hK hP hM rfl (gIx_of (show (41 : Int32) = nI 41 from rfl) (by omega) (by omega)) dX12_site_32 (show M1 1 41 = nI n from (gs_ne eM1 (by omega) h41)) ?_
    refine m_puti 7 X hK hP hS hM hin rfl (by decide) k60 rfl rfl rfl rfl dX12_site_33 (fun H locs hP hS => ?_)
    generalize eM2 : g2 M1 0 7 (nI n) = M2 at hP
    refine lv_aload_n X.1 X.2.1 dX12_site_36 rfl (lv_at hl 0 rfl) ?_
    refine m_getr 1 1 X hK hP hM hin rfl (by decide) k9 rfl dX12_site_37 (by decide) ?_
    refine lv_bipush (v := 41) X.1 X.2.1 dX12_site_40 (by decide) ?_
    refine lv_iconst (v := 0) X.1 X.2.1 dX12_site_42 (by decide) ?_
    refine m_ast 1 41 883 X hK hP hS hM rfl (gIx_of (show (41 : Int32) = nI 41 from rfl) (by omega) (by omega)) dX12_site_43 (fun H locs hP hS => ?_)
    generalize eM3 : g2 M2 1 41 0 = M3 at hP
    refine lv_aload_n X.1 X.2.1 dX12_site_44 rfl (lv_at hl 0 rfl) ?_
    refine m_getr 1 1 X hK hP hM hin rfl (by decide) k9 rfl dX12_site_45 (by decide) ?_
    refine lv_sipush (v := 168) X.1 X.2.1 dX12_site_48 (by decide) ?_
    refine lv_aload_n X.1 X.2.1 dX12_site_51 rfl (lv_at hl 0 rfl) ?_
    refine m_geti 5 X hK hP hM hin rfl (by decide) k84 rfl dX12_site_52 (show M3 0 5 = nI act from (gs_ne eM3 (by omega) (gs_ne eM2 (by omega) (gs_same eM1)))) ?_
    refine lv_iadd X.1 X.2.1 dX12_site_55 ?_
    refine lv_iconst (v := 1) X.1 X.2.1 dX12_site_56 (by decide) ?_
    refine m_ast 1 (168 + act) 883 X hK hP hS hM rfl (gIx_of (gn_add (show (168 : Int32) = nI 168 from rfl) (Eq.refl (nI act))) (by omega) (by omega)) dX12_site_57 (fun H locs hP hS => ?_)
    generalize eM4 : g2 M3 1 (168 + act) 1 = M4 at hP
    refine lv_aload_n X.1 X.2.1 dX12_site_58 rfl (lv_at hl 0 rfl) ?_
    refine m_getr 1 1 X hK hP hM hin rfl (by decide) k9 rfl dX12_site_59 (by decide) ?_
    refine lv_sipush (v := 173) X.1 X.2.1 dX12_site_62 (by decide) ?_
    refine lv_aload_n X.1 X.2.1 dX12_site_65 rfl (lv_at hl 0 rfl) ?_
    refine m_geti 5 X hK hP hM hin rfl (by decide) k84 rfl dX12_site_66 (show M4 0 5 = nI act from (gs_ne eM4 (by omega) (gs_ne eM3 (by omega) (gs_ne eM2 (by omega) (gs_same eM1))))) ?_
    refine lv_iadd X.1 X.2.1 dX12_site_69 ?_
    refine lv_iconst (v := 2) X.1 X.2.1 dX12_site_70 (by decide) ?_
    refine m_ast 1 (173 + act) 883 X hK hP hS hM rfl (gIx_of (gn_add (show (173 : Int32) = nI 173 from rfl) (Eq.refl (nI act))) (by omega) (by omega)) dX12_site_71 (fun H locs hP hS => ?_)
    generalize eM5 : g2 M4 1 (173 + act) 2 = M5 at hP
    refine lv_aload_n X.1 X.2.1 dX12_site_72 rfl (lv_at hl 0 rfl) ?_
    refine m_getr 1 1 X hK hP hM hin rfl (by decide) k9 rfl dX12_site_73 (by decide) ?_
    refine lv_sipush (v := 178) X.1 X.2.1 dX12_site_76 (by decide) ?_
    refine lv_aload_n X.1 X.2.1 dX12_site_79 rfl (lv_at hl 0 rfl) ?_
    refine m_geti 5 X hK hP hM hin rfl (by decide) k84 rfl dX12_site_80 (show M5 0 5 = nI act from (gs_ne eM5 (by omega) (gs_ne eM4 (by omega) (gs_ne eM3 (by omega) (gs_ne eM2 (by omega) (gs_same eM1)))))) ?_
    refine lv_iadd X.1 X.2.1 dX12_site_83 ?_
    refine lv_iconst (v := 0) X.1 X.2.1 dX12_site_84 (by decide) ?_
    refine m_ast 1 (178 + act) 883 X hK hP hS hM rfl (gIx_of (gn_add (show (178 : Int32) = nI 178 from rfl) (Eq.refl (nI act))) (by omega) (by omega)) dX12_site_85 (fun H locs hP hS => ?_)
    generalize eM6 : g2 M5 1 (178 + act) 0 = M6 at hP
    refine lv_aload_n X.1 X.2.1 dX12_site_86 rfl (lv_at hl 0 rfl) ?_
    refine lv_iconst (v := 0) X.1 X.2.1 dX12_site_87 (by decide) ?_
    refine m_puti 6 X hK hP hS hM hin rfl (by decide) k57 rfl rfl rfl rfl dX12_site_88 (fun H locs hP hS => ?_)
    generalize eM7 : g2 M6 0 6 0 = M7 at hP
    refine lv_aload_n X.1 X.2.1 dX12_site_91 rfl (lv_at hl 0 rfl) ?_
    refine lv_iconst (v := 0) X.1 X.2.1 dX12_site_92 (by decide) ?_
    refine m_puti 8 X hK hP hS hM hin rfl (by decide) k63 rfl rfl rfl rfl dX12_site_93 (fun H locs hP hS => ?_)
    generalize eM8 : g2 M7 0 8 0 = M8 at hP
    refine lv_aload_n X.1 X.2.1 dX12_site_96 rfl (lv_at hl 0 rfl) ?_
    refine lv_iconst (v := 0) X.1 X.2.1 dX12_site_97 (by decide) ?_
    refine m_puti 9 X hK hP hS hM hin rfl (by decide) k87 rfl rfl rfl rfl dX12_site_98 (fun H locs hP hS => ?_)
    generalize eM9 : g2 M8 0 9 0 = M9 at hP
    refine lv_iconst (v := 1) X.1 X.2.1 dX12_site_101 (by decide) ?_
    refine lv_istore_n (lv' := [(1, .int 1), (0, .ref o)]) X.1 X.2.1 dX12_site_102 rfl hl (by decide) rfl (fun ls hl => ?_)
    have hz1 : mPz M9 tp n act := ⟨⟨ha5, hn100, htp⟩, (gs_ne eM9 (by omega) (gs_ne eM8 (by omega) (gs_ne eM7 (by omega) (gs_ne eM6 (by omega) (gs_ne eM5 (by omega) (gs_ne eM4 (by omega) (gs_ne eM3 (by omega) (gs_ne eM2 (by omega) (gs_same eM1))))))))), (gs_ne eM9 (by omega) (gs_ne eM8 (by omega) (gs_ne eM7 (by omega) (gs_ne eM6 (by omega) (gs_ne eM5 (by omega) (gs_ne eM4 (by omega) (gs_ne eM3 (by omega) (gs_same eM2)))))))), fun k g => (gs_ne eM9 (by omega) (gs_ne eM8 (by omega) (gs_ne eM7 (by omega) (gs_ne eM6 (by omega) (gs_ne eM5 (by omega) (gs_ne eM4 (by omega) (gs_ne eM3 (by omega) (gs_ne eM2 (by omega) (gs_ne eM1 (by omega) (hb.2.2.2 k g))))))))))⟩
    have hp1 : mRs M9 act ((false, 0, []), 1, 2) := ⟨⟨⟨(gs_ne eM9 (by omega) (gs_ne eM8 (by omega) (gs_same eM7))), (gs_ne eM9 (by omega) (gs_same eM8))⟩, ⟨(gs_ne eM9 (by omega) (gs_ne eM8 (by omega) (gs_ne eM7 (by omega) (gs_same eM6)))), fun k g => absurd g (Nat.not_lt_zero k)⟩⟩, (gs_ne eM9 (by omega) (gs_ne eM8 (by omega) (gs_ne eM7 (by omega) (gs_ne eM6 (by omega) (gs_ne eM5 (by omega) (gs_same eM4)))))), (gs_ne eM9 (by omega) (gs_ne eM8 (by omega) (gs_ne eM7 (by omega) (gs_ne eM6 (by omega) (gs_same eM5)))))⟩
    have ho1 : M9 0 9 = nI 0 := (gs_same eM9)
    have hk1 : ∀ b j, ¬ zS act b j → M9 b j = M b j := fun b j h => by unfold zS at h; exact (gs_ne eM9 (by omega) (gs_ne eM8 (by omega) (gs_ne eM7 (by omega) (gs_ne eM6 (by omega) (gs_ne eM5 (by omega) (gs_ne eM4 (by omega) (gs_ne eM3 (by omega) (gs_ne eM2 (by omega) (gs_ne eM1 (by omega) rfl)))))))))
    have h411 : M9 1 41 = 0 := (gs_ne eM9 (by omega) (gs_ne eM8 (by omega) (gs_ne eM7 (by omega) (gs_ne eM6 (by omega) (gs_ne eM5 (by omega) (gs_ne eM4 (by omega) (gs_same eM3)))))))
    refine lv_aload_n X.1 X.2.1 dX12_site_103 rfl (lv_at hl 1 rfl) ?_
    refine g_run_v (g_runV (k := 14) [] X hK hP hS hC hB (c_clauseHere hM hz1 (r1 := ((false, 0, []), 1, 2)) hp1 ho1 (Nat.zero_le _) (Nat.zero_le _) rfl hstr) (cwV 0 X.2.2.2.2 gX12_site_X12_clauseHere rfl rfl rfl (by decide +kernel) ⟨Nat.le_of_ble_eq_true rfl, Nat.le_of_ble_eq_true rfl⟩) (hM.1 0 _ rfl) rfl rfl hl.1 rfl (Nat.le_of_ble_eq_true rfl) dX12_site_104 (by exact ⟨Nat.zero_le _, Nat.zero_le _⟩)) hS (fun u H locs hq hP hS => ?_)
    obtain ⟨hqN10, hkN10⟩ := hq
    generalize u = N10 at hP hqN10 hkN10
    have hP : gP D cy B z T (gI o 12 N10 I0) R H := hP
    have hw0 := pW_cl (n := n) htp (r := ((false, 0, []), 1, 2)) (Nat.zero_le _)
    dsimp only at hw0
    simp only [List.length_nil] at hw0
    refine m_loop (M := N10) 9 107 [] (fun k Q9 ls => (∃ c9 : RS, mRs Q9 act c9 ∧ c9.1.2.1 ≤ n ∧ c9.1.2.2.length ≤ c9.1.2.1 ∧ pSite tp n = pSi tp n (9 - k) c9 ∧ mSame (tS9 act) M9 Q9) ∧ lv_has ls 2 [(0, .ref o), (1, .int (nI (k + 1)))]) 0 (by omega) ⟨⟨_, hqN10, hw0.2.1, by omega, rfl, hkN10⟩, lv_sub hl [1, 0] rfl⟩ hP hS (fun k Q9 H locs ls hk hiv hP hS ih => ?_)
    obtain ⟨⟨c9, hq1, hq3, hq4, hq6, hq7⟩, hl⟩ := hiv
    have hz9 := mPz_t hz1 hq7
    have ho9 : Q9 0 9 = nI 0 := (hq7 0 9 (by unfold tS9 pS wS; omega)).trans ho1
    have hk9 : ∀ b j, ¬ zS act b j → Q9 b j = M b j := fun b j h => (hq7 b j (zS_t h)).trans (hk1 b j h)
    have h419 : Q9 1 41 = 0 := (hq7 1 41 (by unfold tS9 pS wS; omega)).trans h411
    refine lv_aload_n X.1 X.2.1 dX12_site_107 rfl (lv_at hl 0 rfl) ?_
    refine m_geti 8 X hK hP hM hin rfl (by decide) k63 rfl dX12_site_108 (show Q9 0 8 = bI c9.1.1 from hq1.1.1.2) ?_
    refine lv_if_ne (tgt := 149) X.1 X.2.1 dX12_site_111 (by decide) (fun c111 => ?_) (fun c111 => ?_)
    · have hend : pSite tp n = c9 := hq6.trans (pSi_stop (fun g => by rw [bI_1 c111] at g; cases g.1))
      rw [hend] at hno
      refine lv_aload_n X.1 X.2.1 dX12_site_149 rfl (lv_at hl 0 rfl) ?_
      refine m_geti 8 X hK hP hM hin rfl (by decide) k63 rfl dX12_site_150 (show Q9 0 8 = bI c9.1.1 from hq1.1.1.2) ?_
      refine lv_if_ne (tgt := 167) X.1 X.2.1 dX12_site_153 (by decide) (fun c153 => ?_) (fun c153 => ?_)
      · refine lv_bipush (v := (-10)) X.1 X.2.1 dX12_site_167 (by decide) ?_
        refine lv_aload_n X.1 X.2.1 dX12_site_169 rfl (lv_at hl 0 rfl) ?_
        refine m_geti 6 X hK hP hM hin rfl (by decide) k57 rfl dX12_site_170 (show Q9 0 6 = nI c9.1.2.1 from hq1.1.1.1) ?_
        refine lv_isub X.1 X.2.1 dX12_site_173 ?_
        exact g_iret Q9 X hr hlk hK hP hS dX12_site_174 ⟨(by rw [hend]), hk9, h419⟩
      · exact absurd c153 c111
    · refine lv_iload_n X.1 X.2.1 dX12_site_114 rfl (lv_at hl 1 rfl) ?_
      refine lv_bipush (v := 10) X.1 X.2.1 dX12_site_115 (by decide) ?_
      refine lv_icmp_ge (tgt := 149) X.1 X.2.1 dX12_site_117 (by decide) (fun c117 => ?_) (fun c117 => ?_)
      · have hend : pSite tp n = c9 := by rw [hq6, show 9 - k = 0 by have := gq_k9b c117 hk; omega]; rfl
        rw [hend] at hno
        refine lv_aload_n X.1 X.2.1 dX12_site_149 rfl (lv_at hl 0 rfl) ?_
        refine m_geti 8 X hK hP hM hin rfl (by decide) k63 rfl dX12_site_150 (show Q9 0 8 = bI c9.1.1 from hq1.1.1.2) ?_
        refine lv_if_ne (tgt := 167) X.1 X.2.1 dX12_site_153 (by decide) (fun c153 => ?_) (fun c153 => ?_)
        · exact absurd c111 c153
        · refine lv_aload_n X.1 X.2.1 dX12_site_156 rfl (lv_at hl 0 rfl) ?_
          refine m_geti 6 X hK hP hM hin rfl (by decide) k57 rfl dX12_site_157 (show Q9 0 6 = nI c9.1.2.1 from hq1.1.1.1) ?_
          refine lv_aload_n X.1 X.2.1 dX12_site_160 rfl (lv_at hl 0 rfl) ?_
          refine m_geti 7 X hK hP hM hin rfl (by decide) k60 rfl dX12_site_161 (show Q9 0 7 = nI n from hz9.2.2.1) ?_
          refine lv_icmp_eq (tgt := 175) X.1 X.2.1 dX12_site_164 (by decide) (fun c164 => ?_) (fun c164 => ?_)
          · exact absurd ⟨bI_0 c111, gq_eq (c164) (Eq.refl (nI c9.1.2.1)) (Eq.refl (nI n)) (by omega) (by omega)⟩ hno
          · refine lv_bipush (v := (-10)) X.1 X.2.1 dX12_site_167 (by decide) ?_
            refine lv_aload_n X.1 X.2.1 dX12_site_169 rfl (lv_at hl 0 rfl) ?_
            refine m_geti 6 X hK hP hM hin rfl (by decide) k57 rfl dX12_site_170 (show Q9 0 6 = nI c9.1.2.1 from hq1.1.1.1) ?_
            refine lv_isub X.1 X.2.1 dX12_site_173 ?_
            exact g_iret Q9 X hr hlk hK hP hS dX12_site_174 ⟨(by rw [hend]), hk9, h419⟩
      · refine lv_aload_n X.1 X.2.1 dX12_site_120 rfl (lv_at hl 0 rfl) ?_
        refine g_run_i (g_runV (k := 14) [] X hK hP hS hC hB (c_here hM (i := c9.1.2.1) hz9 hq1.1.1.1 (by omega)) (cwV 0 X.2.2.2.2 gX12_site_X12_here rfl rfl rfl (by decide +kernel) ⟨Nat.le_of_ble_eq_true rfl, Nat.le_of_ble_eq_true rfl⟩) (hM.1 0 _ rfl) rfl rfl hl.1 rfl (Nat.le_of_ble_eq_true rfl) dX12_site_121 (by exact ⟨Nat.zero_le _, Nat.zero_le _⟩)) hS (fun r u H locs hq hP hS => ?_)
        obtain ⟨rfl, rfl⟩ := hq
        have hP : gP D cy B z T (gI o 12 Q9 I0) R H := hP
        refine lv_bipush (v := 59) X.1 X.2.1 dX12_site_124 (by decide) ?_
        refine lv_icmp_ne (tgt := 149) X.1 X.2.1 dX12_site_126 (by decide) (fun c126 => ?_) (fun c126 => ?_)
        · have hend : pSite tp n = c9 := hq6.trans (pSi_stop (fun g => c126 ((hI_eq (y := 59) (by decide)).mpr g.2)))
          rw [hend] at hno
          refine lv_aload_n X.1 X.2.1 dX12_site_149 rfl (lv_at hl 0 rfl) ?_
          refine m_geti 8 X hK hP hM hin rfl (by decide) k63 rfl dX12_site_150 (show Q9 0 8 = bI c9.1.1 from hq1.1.1.2) ?_
          refine lv_if_ne (tgt := 167) X.1 X.2.1 dX12_site_153 (by decide) (fun c153 => ?_) (fun c153 => ?_)
          · exact absurd c111 c153
          · refine lv_aload_n X.1 X.2.1 dX12_site_156 rfl (lv_at hl 0 rfl) ?_
            refine m_geti 6 X hK hP hM hin rfl (by decide) k57 rfl dX12_site_157 (show Q9 0 6 = nI c9.1.2.1 from hq1.1.1.1) ?_
            refine lv_aload_n X.1 X.2.1 dX12_site_160 rfl (lv_at hl 0 rfl) ?_
            refine m_geti 7 X hK hP hM hin rfl (by decide) k60 rfl dX12_site_161 (show Q9 0 7 = nI n from hz9.2.2.1) ?_
            refine lv_icmp_eq (tgt := 175) X.1 X.2.1 dX12_site_164 (by decide) (fun c164 => ?_) (fun c164 => ?_)
            · exact absurd ⟨bI_0 c111, gq_eq (c164) (Eq.refl (nI c9.1.2.1)) (Eq.refl (nI n)) (by omega) (by omega)⟩ hno
            · refine lv_bipush (v := (-10)) X.1 X.2.1 dX12_site_167 (by decide) ?_
              refine lv_aload_n X.1 X.2.1 dX12_site_169 rfl (lv_at hl 0 rfl) ?_
              refine m_geti 6 X hK hP hM hin rfl (by decide) k57 rfl dX12_site_170 (show Q9 0 6 = nI c9.1.2.1 from hq1.1.1.1) ?_
              refine lv_isub X.1 X.2.1 dX12_site_173 ?_
              exact g_iret Q9 X hr hlk hK hP hS dX12_site_174 ⟨(by rw [hend]), hk9, h419⟩
        · refine lv_aload_n X.1 X.2.1 dX12_site_129 rfl (lv_at hl 0 rfl) ?_
          refine lv_dup X.1 X.2.1 dX12_site_130 rfl ?_
          refine m_geti 6 X hK hP hM hin rfl (by decide) k57 rfl dX12_site_131 (show Q9 0 6 = nI c9.1.2.1 from hq1.1.1.1) ?_
          refine lv_iconst (v := 1) X.1 X.2.1 dX12_site_134 (by decide) ?_
          refine lv_iadd X.1 X.2.1 dX12_site_135 ?_
          refine m_puti 6 X hK hP hS hM hin rfl (by decide) k57 rfl rfl rfl rfl dX12_site_136 (fun H locs hP hS => ?_)
          generalize eM11 : g2 Q9 0 6 ((nI c9.1.2.1) + 1) = M11 at hP
          have hw9 : c9.1.1 = false := bI_0 c111
          have hgo : c9.1.1 = false ∧ sH tp n c9.1.2.1 = 59 := ⟨hw9, (hI_eq (y := 59) (by decide)).mp c126⟩
          have hin9 := sH_in hgo.2 (by decide)
          have hk8 : k < 9 := gq_k9 c117 hk
          have hz8 : mPz M11 tp n act := mPz_w hz9 (fun b j h => gs_ne eM11 (by unfold wS at h; omega) rfl)
          have hp8 : mRs M11 act ((false, c9.1.2.1 + 1, c9.1.2.2), c9.2) := ⟨⟨⟨((gs_same eM11)).trans ((gn_add (Eq.refl (nI c9.1.2.1)) (show (1 : Int32) = nI 1 from rfl))), gs_ne eM11 (by omega) (by rw [hq1.1.1.2, hw9])⟩, ⟨gs_ne eM11 (by omega) hq1.1.2.1, fun k g => gs_ne eM11 (by omega) (hq1.1.2.2 k g)⟩⟩, gs_ne eM11 (by omega) hq1.2.1, gs_ne eM11 (by omega) hq1.2.2⟩
          refine lv_aload_n X.1 X.2.1 dX12_site_139 rfl (lv_at hl 0 rfl) ?_
          refine g_run_v (g_runV (k := 14) [] X hK hP hS hC hB (c_clauseHere hM hz8 (r1 := ((false, c9.1.2.1 + 1, c9.1.2.2), c9.2)) hp8 (gs_ne eM11 (by omega) ho9) hin9 (by dsimp only; omega) rfl hstr) (cwV 0 X.2.2.2.2 gX12_site_X12_clauseHere rfl rfl rfl (by decide +kernel) ⟨Nat.le_of_ble_eq_true rfl, Nat.le_of_ble_eq_true rfl⟩) (hM.1 0 _ rfl) rfl rfl hl.1 rfl (Nat.le_of_ble_eq_true rfl) dX12_site_140 (by exact ⟨Nat.zero_le _, Nat.zero_le _⟩)) hS (fun u H locs hq hP hS => ?_)
          obtain ⟨hqN12, hkN12⟩ := hq
          generalize u = N12 at hP hqN12 hkN12
          have hP : gP D cy B z T (gI o 12 N12 I0) R H := hP
          refine lv_iinc (v := nI ((k + 1) + 1)) (lv' := [(1, .int (nI ((k + 1) + 1))), (0, .ref o)]) X.1 X.2.1 dX12_site_143 hl (k := 1) rfl (gn_inc (Eq.refl (nI (k + 1))) 1) (by decide) rfl (fun ls hl => ?_)
          refine lv_goto (tgt := 107) X.1 X.2.1 dX12_site_146 (by decide) ?_
          have hw1 := pW_cl htp (r := ((false, c9.1.2.1 + 1, c9.1.2.2), c9.2)) hin9
          dsimp only at hw1
          exact ih _ _ _ _ (by omega) ⟨⟨_, hqN12, hw1.2.1, by omega, hq6.trans (pSi_go (by omega) hgo), fun b j h => (hkN12 b j h).trans ((gs_ne eM11 (by unfold tS9 pS wS at h; omega) rfl).trans (hq7 b j h))⟩, lv_sub hl [1, 0] rfl⟩ hP hS
  · exact absurd (gq_eq (c8) (Eq.refl (nI act)) (show (5 : Int32) = nI 5 from rfl) (by omega) (by omega)) (by omega)

set_option maxHeartbeats 4000000 in
set_option maxRecDepth 100000 in
/-- c_site_y -/
theorem c_site_y (hM : gMod o T R) (hb : mTp M tp n act) (hstr : gStr s0 B) (hyes : (pSite tp n).1.1 = false ∧ (pSite tp n).1.2.1 = n) : Met l yX12_site wsX12_site ({ frames := 26, cells := 0, slots := 0, locals := 578 }) (mPre s0 D cy B o z T R I0 M []) (mQi D cy B o z T R I0 (fun r u => r = nI act ∧ u 0 17 = M 0 17 + 1 ∧ u 1 39 = nI (act + 1) ∧ u 1 42 = nI act ∧ u 1 41 = 0 ∧ mRs u act (pSite tp n) ∧ ∀ b j, ¬ zS act b j → ¬ (b = 0 ∧ j = 17) → ¬ (b = 1 ∧ (j = 39 ∨ j = 42)) → u b j = M b j)) 0 0 (gA B) := by
  refine g_met (maxL := 2) (ret := (some .int)) (by decide) rfl (Nat.le_of_ble_eq_true rfl) (fun p e s m args below meth c ls X hr hlk hnm hK hP hC hS hl => ?_)
  have hl : lv_has ls 2 [(0, .ref o)] := hl
  have hP : gP D cy B z T (gI o 12 M I0) R s.heap := hP
  have hB : B ≤ s.heap.size := by rw [hP.1]; exact hP.2.1
  have hin : ∀ w ∈ wsX120, w ∈ wsX12_site := fun _ h => List.mem_cons_of_mem _ (List.mem_append_right _ h)
  have k9 : Cond.fieldLink RX12 9 "BarrowPlankModel" "s" "[I" ∈ wsX12_site := by decide +kernel
  have k37 : Cond.fieldLink RX12 37 "BarrowPlankModel" "times" "I" ∈ wsX12_site := by decide +kernel
  have k57 : Cond.fieldLink RX12 57 "BarrowPlankModel" "spot" "I" ∈ wsX12_site := by decide +kernel
  have k60 : Cond.fieldLink RX12 60 "BarrowPlankModel" "end" "I" ∈ wsX12_site := by decide +kernel
  have k63 : Cond.fieldLink RX12 63 "BarrowPlankModel" "isWrong" "Z" ∈ wsX12_site := by decide +kernel
  have k84 : Cond.fieldLink RX12 84 "BarrowPlankModel" "act" "I" ∈ wsX12_site := by decide +kernel
  have k87 : Cond.fieldLink RX12 87 "BarrowPlankModel" "open" "I" ∈ wsX12_site := by decide +kernel
  obtain ⟨ha5, hn100, htp⟩ := hb.1
  have h39 := hb.2.1
  have h41 := hb.2.2.1
  refine lv_aload_n X.1 X.2.1 dX12_site_0 rfl (lv_at hl 0 rfl) ?_
  refine m_getr 1 1 X hK hP hM hin rfl (by decide) k9 rfl dX12_site_1 (by decide) ?_
  refine lv_bipush (v := 39) X.1 X.2.1 dX12_site_4 (by decide) ?_
  refine m_ald 1 39 883 X hK hP hM rfl (gIx_of (show (39 : Int32) = nI 39 from rfl) (by omega) (by omega)) dX12_site_6 (show M 1 39 = nI act from h39) ?_
  refine lv_iconst (v := 5) X.1 X.2.1 dX12_site_7 (by decide) ?_
  refine lv_icmp_ne (tgt := 14) X.1 X.2.1 dX12_site_8 (by decide) (fun c8 => ?_) (fun c8 => ?_)
  · refine lv_aload_n X.1 X.2.1 dX12_site_14 rfl (lv_at hl 0 rfl) ?_
    refine lv_aload_n X.1 X.2.1 dX12_site_15 rfl (lv_at hl 0 rfl) ?_
    refine m_getr 1 1 X hK hP hM hin rfl (by decide) k9 rfl dX12_site_16 (by decide) ?_
    refine lv_bipush (v := 39) X.1 X.2.1 dX12_site_19 (by decide) ?_
    refine m_ald 1 39 883 X hK hP hM rfl (gIx_of (show (39 : Int32) = nI 39 from rfl) (by omega) (by omega)) dX12_site_21 (show M 1 39 = nI act from h39) ?_
    refine m_puti 5 X hK hP hS hM hin rfl (by decide) k84 rfl rfl rfl rfl dX12_site_22 (fun H locs hP hS => ?_)
    generalize eM1 : g2 M 0 5 (nI act) = M1 at hP
    refine lv_aload_n X.1 X.2.1 dX12_site_25 rfl (lv_at hl 0 rfl) ?_
    refine lv_aload_n X.1 X.2.1 dX12_site_26 rfl (lv_at hl 0 rfl) ?_
    refine m_getr 1 1 X hK hP hM hin rfl (by decide) k9 rfl dX12_site_27 (by decide) ?_
    refine lv_bipush (v := 41) X.1 X.2.1 dX12_site_30 (by decide) ?_
    refine m_ald 1 41 883 X hK hP hM rfl (gIx_of (show (41 : Int32) = nI 41 from rfl) (by omega) (by omega)) dX12_site_32 (show M1 1 41 = nI n from (gs_ne eM1 (by omega) h41)) ?_
    refine m_puti 7 X hK hP hS hM hin rfl (by decide) k60 rfl rfl rfl rfl dX12_site_33 (fun H locs hP hS => ?_)
    generalize eM2 : g2 M1 0 7 (nI n) = M2 at hP
    refine lv_aload_n X.1 X.2.1 dX12_site_36 rfl (lv_at hl 0 rfl) ?_
    refine m_getr 1 1 X hK hP hM hin rfl (by decide) k9 rfl dX12_site_37 (by decide) ?_
    refine lv_bipush (v := 41) X.1 X.2.1 dX12_site_40 (by decide) ?_
    refine lv_iconst (v := 0) X.1 X.2.1 dX12_site_42 (by decide) ?_
    refine m_ast 1 41 883 X hK hP hS hM rfl (gIx_of (show (41 : Int32) = nI 41 from rfl) (by omega) (by omega)) dX12_site_43 (fun H locs hP hS => ?_)
    generalize eM3 : g2 M2 1 41 0 = M3 at hP
    refine lv_aload_n X.1 X.2.1 dX12_site_44 rfl (lv_at hl 0 rfl) ?_
    refine m_getr 1 1 X hK hP hM hin rfl (by decide) k9 rfl dX12_site_45 (by decide) ?_
    refine lv_sipush (v := 168) X.1 X.2.1 dX12_site_48 (by decide) ?_
    refine lv_aload_n X.1 X.2.1 dX12_site_51 rfl (lv_at hl 0 rfl) ?_
    refine m_geti 5 X hK hP hM hin rfl (by decide) k84 rfl dX12_site_52 (show M3 0 5 = nI act from (gs_ne eM3 (by omega) (gs_ne eM2 (by omega) (gs_same eM1)))) ?_
    refine lv_iadd X.1 X.2.1 dX12_site_55 ?_
    refine lv_iconst (v := 1) X.1 X.2.1 dX12_site_56 (by decide) ?_
    refine m_ast 1 (168 + act) 883 X hK hP hS hM rfl (gIx_of (gn_add (show (168 : Int32) = nI 168 from rfl) (Eq.refl (nI act))) (by omega) (by omega)) dX12_site_57 (fun H locs hP hS => ?_)
    generalize eM4 : g2 M3 1 (168 + act) 1 = M4 at hP
    refine lv_aload_n X.1 X.2.1 dX12_site_58 rfl (lv_at hl 0 rfl) ?_
    refine m_getr 1 1 X hK hP hM hin rfl (by decide) k9 rfl dX12_site_59 (by decide) ?_
    refine lv_sipush (v := 173) X.1 X.2.1 dX12_site_62 (by decide) ?_
    refine lv_aload_n X.1 X.2.1 dX12_site_65 rfl (lv_at hl 0 rfl) ?_
    refine m_geti 5 X hK hP hM hin rfl (by decide) k84 rfl dX12_site_66 (show M4 0 5 = nI act from (gs_ne eM4 (by omega) (gs_ne eM3 (by omega) (gs_ne eM2 (by omega) (gs_same eM1))))) ?_
    refine lv_iadd X.1 X.2.1 dX12_site_69 ?_
    refine lv_iconst (v := 2) X.1 X.2.1 dX12_site_70 (by decide) ?_
    refine m_ast 1 (173 + act) 883 X hK hP hS hM rfl (gIx_of (gn_add (show (173 : Int32) = nI 173 from rfl) (Eq.refl (nI act))) (by omega) (by omega)) dX12_site_71 (fun H locs hP hS => ?_)
    generalize eM5 : g2 M4 1 (173 + act) 2 = M5 at hP
    refine lv_aload_n X.1 X.2.1 dX12_site_72 rfl (lv_at hl 0 rfl) ?_
    refine m_getr 1 1 X hK hP hM hin rfl (by decide) k9 rfl dX12_site_73 (by decide) ?_
    refine lv_sipush (v := 178) X.1 X.2.1 dX12_site_76 (by decide) ?_
    refine lv_aload_n X.1 X.2.1 dX12_site_79 rfl (lv_at hl 0 rfl) ?_
    refine m_geti 5 X hK hP hM hin rfl (by decide) k84 rfl dX12_site_80 (show M5 0 5 = nI act from (gs_ne eM5 (by omega) (gs_ne eM4 (by omega) (gs_ne eM3 (by omega) (gs_ne eM2 (by omega) (gs_same eM1)))))) ?_
    refine lv_iadd X.1 X.2.1 dX12_site_83 ?_
    refine lv_iconst (v := 0) X.1 X.2.1 dX12_site_84 (by decide) ?_
    refine m_ast 1 (178 + act) 883 X hK hP hS hM rfl (gIx_of (gn_add (show (178 : Int32) = nI 178 from rfl) (Eq.refl (nI act))) (by omega) (by omega)) dX12_site_85 (fun H locs hP hS => ?_)
    generalize eM6 : g2 M5 1 (178 + act) 0 = M6 at hP
    refine lv_aload_n X.1 X.2.1 dX12_site_86 rfl (lv_at hl 0 rfl) ?_
    refine lv_iconst (v := 0) X.1 X.2.1 dX12_site_87 (by decide) ?_
    refine m_puti 6 X hK hP hS hM hin rfl (by decide) k57 rfl rfl rfl rfl dX12_site_88 (fun H locs hP hS => ?_)
    generalize eM7 : g2 M6 0 6 0 = M7 at hP
    refine lv_aload_n X.1 X.2.1 dX12_site_91 rfl (lv_at hl 0 rfl) ?_
    refine lv_iconst (v := 0) X.1 X.2.1 dX12_site_92 (by decide) ?_
    refine m_puti 8 X hK hP hS hM hin rfl (by decide) k63 rfl rfl rfl rfl dX12_site_93 (fun H locs hP hS => ?_)
    generalize eM8 : g2 M7 0 8 0 = M8 at hP
    refine lv_aload_n X.1 X.2.1 dX12_site_96 rfl (lv_at hl 0 rfl) ?_
    refine lv_iconst (v := 0) X.1 X.2.1 dX12_site_97 (by decide) ?_
    refine m_puti 9 X hK hP hS hM hin rfl (by decide) k87 rfl rfl rfl rfl dX12_site_98 (fun H locs hP hS => ?_)
    generalize eM9 : g2 M8 0 9 0 = M9 at hP
    refine lv_iconst (v := 1) X.1 X.2.1 dX12_site_101 (by decide) ?_
    refine lv_istore_n (lv' := [(1, .int 1), (0, .ref o)]) X.1 X.2.1 dX12_site_102 rfl hl (by decide) rfl (fun ls hl => ?_)
    have hz1 : mPz M9 tp n act := ⟨⟨ha5, hn100, htp⟩, (gs_ne eM9 (by omega) (gs_ne eM8 (by omega) (gs_ne eM7 (by omega) (gs_ne eM6 (by omega) (gs_ne eM5 (by omega) (gs_ne eM4 (by omega) (gs_ne eM3 (by omega) (gs_ne eM2 (by omega) (gs_same eM1))))))))), (gs_ne eM9 (by omega) (gs_ne eM8 (by omega) (gs_ne eM7 (by omega) (gs_ne eM6 (by omega) (gs_ne eM5 (by omega) (gs_ne eM4 (by omega) (gs_ne eM3 (by omega) (gs_same eM2)))))))), fun k g => (gs_ne eM9 (by omega) (gs_ne eM8 (by omega) (gs_ne eM7 (by omega) (gs_ne eM6 (by omega) (gs_ne eM5 (by omega) (gs_ne eM4 (by omega) (gs_ne eM3 (by omega) (gs_ne eM2 (by omega) (gs_ne eM1 (by omega) (hb.2.2.2 k g))))))))))⟩
    have hp1 : mRs M9 act ((false, 0, []), 1, 2) := ⟨⟨⟨(gs_ne eM9 (by omega) (gs_ne eM8 (by omega) (gs_same eM7))), (gs_ne eM9 (by omega) (gs_same eM8))⟩, ⟨(gs_ne eM9 (by omega) (gs_ne eM8 (by omega) (gs_ne eM7 (by omega) (gs_same eM6)))), fun k g => absurd g (Nat.not_lt_zero k)⟩⟩, (gs_ne eM9 (by omega) (gs_ne eM8 (by omega) (gs_ne eM7 (by omega) (gs_ne eM6 (by omega) (gs_ne eM5 (by omega) (gs_same eM4)))))), (gs_ne eM9 (by omega) (gs_ne eM8 (by omega) (gs_ne eM7 (by omega) (gs_ne eM6 (by omega) (gs_same eM5)))))⟩
    have ho1 : M9 0 9 = nI 0 := (gs_same eM9)
    have hk1 : ∀ b j, ¬ zS act b j → M9 b j = M b j := fun b j h => by unfold zS at h; exact (gs_ne eM9 (by omega) (gs_ne eM8 (by omega) (gs_ne eM7 (by omega) (gs_ne eM6 (by omega) (gs_ne eM5 (by omega) (gs_ne eM4 (by omega) (gs_ne eM3 (by omega) (gs_ne eM2 (by omega) (gs_ne eM1 (by omega) rfl)))))))))
    have h411 : M9 1 41 = 0 := (gs_ne eM9 (by omega) (gs_ne eM8 (by omega) (gs_ne eM7 (by omega) (gs_ne eM6 (by omega) (gs_ne eM5 (by omega) (gs_ne eM4 (by omega) (gs_same eM3)))))))
    refine lv_aload_n X.1 X.2.1 dX12_site_103 rfl (lv_at hl 1 rfl) ?_
    refine g_run_v (g_runV (k := 14) [] X hK hP hS hC hB (c_clauseHere hM hz1 (r1 := ((false, 0, []), 1, 2)) hp1 ho1 (Nat.zero_le _) (Nat.zero_le _) rfl hstr) (cwV 0 X.2.2.2.2 gX12_site_X12_clauseHere rfl rfl rfl (by decide +kernel) ⟨Nat.le_of_ble_eq_true rfl, Nat.le_of_ble_eq_true rfl⟩) (hM.1 0 _ rfl) rfl rfl hl.1 rfl (Nat.le_of_ble_eq_true rfl) dX12_site_104 (by exact ⟨Nat.zero_le _, Nat.zero_le _⟩)) hS (fun u H locs hq hP hS => ?_)
    obtain ⟨hqN10, hkN10⟩ := hq
    generalize u = N10 at hP hqN10 hkN10
    have hP : gP D cy B z T (gI o 12 N10 I0) R H := hP
    have hw0 := pW_cl (n := n) htp (r := ((false, 0, []), 1, 2)) (Nat.zero_le _)
    dsimp only at hw0
    simp only [List.length_nil] at hw0
    refine m_loop (M := N10) 9 107 [] (fun k Q9 ls => (∃ c9 : RS, mRs Q9 act c9 ∧ c9.1.2.1 ≤ n ∧ c9.1.2.2.length ≤ c9.1.2.1 ∧ pSite tp n = pSi tp n (9 - k) c9 ∧ mSame (tS9 act) M9 Q9) ∧ lv_has ls 2 [(0, .ref o), (1, .int (nI (k + 1)))]) 0 (by omega) ⟨⟨_, hqN10, hw0.2.1, by omega, rfl, hkN10⟩, lv_sub hl [1, 0] rfl⟩ hP hS (fun k Q9 H locs ls hk hiv hP hS ih => ?_)
    obtain ⟨⟨c9, hq1, hq3, hq4, hq6, hq7⟩, hl⟩ := hiv
    have hz9 := mPz_t hz1 hq7
    have ho9 : Q9 0 9 = nI 0 := (hq7 0 9 (by unfold tS9 pS wS; omega)).trans ho1
    have hk9 : ∀ b j, ¬ zS act b j → Q9 b j = M b j := fun b j h => (hq7 b j (zS_t h)).trans (hk1 b j h)
    have h419 : Q9 1 41 = 0 := (hq7 1 41 (by unfold tS9 pS wS; omega)).trans h411
    refine lv_aload_n X.1 X.2.1 dX12_site_107 rfl (lv_at hl 0 rfl) ?_
    refine m_geti 8 X hK hP hM hin rfl (by decide) k63 rfl dX12_site_108 (show Q9 0 8 = bI c9.1.1 from hq1.1.1.2) ?_
    refine lv_if_ne (tgt := 149) X.1 X.2.1 dX12_site_111 (by decide) (fun c111 => ?_) (fun c111 => ?_)
    · have hend : pSite tp n = c9 := hq6.trans (pSi_stop (fun g => by rw [bI_1 c111] at g; cases g.1))
      rw [hend] at hyes
      exact absurd hyes.1 (by rw [bI_1 c111]; decide)
    · refine lv_iload_n X.1 X.2.1 dX12_site_114 rfl (lv_at hl 1 rfl) ?_
      refine lv_bipush (v := 10) X.1 X.2.1 dX12_site_115 (by decide) ?_
      refine lv_icmp_ge (tgt := 149) X.1 X.2.1 dX12_site_117 (by decide) (fun c117 => ?_) (fun c117 => ?_)
      · have hend : pSite tp n = c9 := by rw [hq6, show 9 - k = 0 by have := gq_k9b c117 hk; omega]; rfl
        rw [hend] at hyes
        refine lv_aload_n X.1 X.2.1 dX12_site_149 rfl (lv_at hl 0 rfl) ?_
        refine m_geti 8 X hK hP hM hin rfl (by decide) k63 rfl dX12_site_150 (show Q9 0 8 = bI c9.1.1 from hq1.1.1.2) ?_
        refine lv_if_ne (tgt := 167) X.1 X.2.1 dX12_site_153 (by decide) (fun c153 => ?_) (fun c153 => ?_)
        · exact absurd c111 c153
        · refine lv_aload_n X.1 X.2.1 dX12_site_156 rfl (lv_at hl 0 rfl) ?_
          refine m_geti 6 X hK hP hM hin rfl (by decide) k57 rfl dX12_site_157 (show Q9 0 6 = nI c9.1.2.1 from hq1.1.1.1) ?_
          refine lv_aload_n X.1 X.2.1 dX12_site_160 rfl (lv_at hl 0 rfl) ?_
          refine m_geti 7 X hK hP hM hin rfl (by decide) k60 rfl dX12_site_161 (show Q9 0 7 = nI n from hz9.2.2.1) ?_
          refine lv_icmp_eq (tgt := 175) X.1 X.2.1 dX12_site_164 (by decide) (fun c164 => ?_) (fun c164 => ?_)
          · refine lv_aload_n X.1 X.2.1 dX12_site_175 rfl (lv_at hl 0 rfl) ?_
            refine lv_dup X.1 X.2.1 dX12_site_176 rfl ?_
            refine m_geti 17 X hK hP hM hin rfl (by decide) k37 rfl dX12_site_177 (show Q9 0 17 = M 0 17 from (hk9 0 17 (by unfold zS; omega))) ?_
            refine lv_iconst (v := 1) X.1 X.2.1 dX12_site_180 (by decide) ?_
            refine lv_iadd X.1 X.2.1 dX12_site_181 ?_
            refine m_puti 17 X hK hP hS hM hin rfl (by decide) k37 rfl rfl rfl rfl dX12_site_182 (fun H locs hP hS => ?_)
            generalize eM11 : g2 Q9 0 17 ((M 0 17) + 1) = M11 at hP
            refine lv_aload_n X.1 X.2.1 dX12_site_185 rfl (lv_at hl 0 rfl) ?_
            refine m_getr 1 1 X hK hP hM hin rfl (by decide) k9 rfl dX12_site_186 (by decide) ?_
            refine lv_bipush (v := 39) X.1 X.2.1 dX12_site_189 (by decide) ?_
            refine lv_dup2_11 X.1 X.2.1 dX12_site_191 rfl rfl ?_
            refine m_ald 1 39 883 X hK hP hM rfl (gIx_of (show (39 : Int32) = nI 39 from rfl) (by omega) (by omega)) dX12_site_192 (show M11 1 39 = nI act from (gs_ne eM11 (by omega) ((hk9 1 39 (by unfold zS; omega)).trans h39))) ?_
            refine lv_iconst (v := 1) X.1 X.2.1 dX12_site_193 (by decide) ?_
            refine lv_iadd X.1 X.2.1 dX12_site_194 ?_
            refine m_ast 1 39 883 X hK hP hS hM rfl (gIx_of (show (39 : Int32) = nI 39 from rfl) (by omega) (by omega)) dX12_site_195 (fun H locs hP hS => ?_)
            generalize eM12 : g2 M11 1 39 ((nI act) + 1) = M12 at hP
            refine lv_aload_n X.1 X.2.1 dX12_site_196 rfl (lv_at hl 0 rfl) ?_
            refine m_getr 1 1 X hK hP hM hin rfl (by decide) k9 rfl dX12_site_197 (by decide) ?_
            refine lv_bipush (v := 42) X.1 X.2.1 dX12_site_200 (by decide) ?_
            refine lv_aload_n X.1 X.2.1 dX12_site_202 rfl (lv_at hl 0 rfl) ?_
            refine m_geti 5 X hK hP hM hin rfl (by decide) k84 rfl dX12_site_203 (show M12 0 5 = nI act from (gs_ne eM12 (by omega) (gs_ne eM11 (by omega) hz9.2.1))) ?_
            refine m_ast 1 42 883 X hK hP hS hM rfl (gIx_of (show (42 : Int32) = nI 42 from rfl) (by omega) (by omega)) dX12_site_206 (fun H locs hP hS => ?_)
            generalize eM13 : g2 M12 1 42 (nI act) = M13 at hP
            refine lv_aload_n X.1 X.2.1 dX12_site_207 rfl (lv_at hl 0 rfl) ?_
            refine m_geti 5 X hK hP hM hin rfl (by decide) k84 rfl dX12_site_208 (show M13 0 5 = nI act from (gs_ne eM13 (by omega) (gs_ne eM12 (by omega) (gs_ne eM11 (by omega) hz9.2.1)))) ?_
            exact g_iret M13 X hr hlk hK hP hS dX12_site_211 ⟨rfl, (gs_ne eM13 (by omega) (gs_ne eM12 (by omega) (gs_same eM11))), ((gs_ne eM13 (by omega) (gs_same eM12))).trans ((gn_add (Eq.refl (nI act)) (show (1 : Int32) = nI 1 from rfl))), (gs_same eM13), (gs_ne eM13 (by omega) (gs_ne eM12 (by omega) (gs_ne eM11 (by omega) h419))), (by rw [hend]; exact ⟨⟨⟨(gs_ne eM13 (by omega) (gs_ne eM12 (by omega) (gs_ne eM11 (by omega) hq1.1.1.1))), (gs_ne eM13 (by omega) (gs_ne eM12 (by omega) (gs_ne eM11 (by omega) hq1.1.1.2)))⟩, ⟨(gs_ne eM13 (by omega) (gs_ne eM12 (by omega) (gs_ne eM11 (by omega) hq1.1.2.1))), fun k g => (gs_ne eM13 (by omega) (gs_ne eM12 (by omega) (gs_ne eM11 (by omega) (hq1.1.2.2 k g))))⟩⟩, (gs_ne eM13 (by omega) (gs_ne eM12 (by omega) (gs_ne eM11 (by omega) hq1.2.1))), (gs_ne eM13 (by omega) (gs_ne eM12 (by omega) (gs_ne eM11 (by omega) hq1.2.2)))⟩), fun b j h1 h2 h3 => (gs_ne eM13 (by omega) (gs_ne eM12 (by omega) (gs_ne eM11 (by omega) (hk9 b j h1))))⟩
          · exact absurd (by rw [hyes.2]) c164
      · refine lv_aload_n X.1 X.2.1 dX12_site_120 rfl (lv_at hl 0 rfl) ?_
        refine g_run_i (g_runV (k := 14) [] X hK hP hS hC hB (c_here hM (i := c9.1.2.1) hz9 hq1.1.1.1 (by omega)) (cwV 0 X.2.2.2.2 gX12_site_X12_here rfl rfl rfl (by decide +kernel) ⟨Nat.le_of_ble_eq_true rfl, Nat.le_of_ble_eq_true rfl⟩) (hM.1 0 _ rfl) rfl rfl hl.1 rfl (Nat.le_of_ble_eq_true rfl) dX12_site_121 (by exact ⟨Nat.zero_le _, Nat.zero_le _⟩)) hS (fun r u H locs hq hP hS => ?_)
        obtain ⟨rfl, rfl⟩ := hq
        have hP : gP D cy B z T (gI o 12 Q9 I0) R H := hP
        refine lv_bipush (v := 59) X.1 X.2.1 dX12_site_124 (by decide) ?_
        refine lv_icmp_ne (tgt := 149) X.1 X.2.1 dX12_site_126 (by decide) (fun c126 => ?_) (fun c126 => ?_)
        · have hend : pSite tp n = c9 := hq6.trans (pSi_stop (fun g => c126 ((hI_eq (y := 59) (by decide)).mpr g.2)))
          rw [hend] at hyes
          refine lv_aload_n X.1 X.2.1 dX12_site_149 rfl (lv_at hl 0 rfl) ?_
          refine m_geti 8 X hK hP hM hin rfl (by decide) k63 rfl dX12_site_150 (show Q9 0 8 = bI c9.1.1 from hq1.1.1.2) ?_
          refine lv_if_ne (tgt := 167) X.1 X.2.1 dX12_site_153 (by decide) (fun c153 => ?_) (fun c153 => ?_)
          · exact absurd c111 c153
          · refine lv_aload_n X.1 X.2.1 dX12_site_156 rfl (lv_at hl 0 rfl) ?_
            refine m_geti 6 X hK hP hM hin rfl (by decide) k57 rfl dX12_site_157 (show Q9 0 6 = nI c9.1.2.1 from hq1.1.1.1) ?_
            refine lv_aload_n X.1 X.2.1 dX12_site_160 rfl (lv_at hl 0 rfl) ?_
            refine m_geti 7 X hK hP hM hin rfl (by decide) k60 rfl dX12_site_161 (show Q9 0 7 = nI n from hz9.2.2.1) ?_
            refine lv_icmp_eq (tgt := 175) X.1 X.2.1 dX12_site_164 (by decide) (fun c164 => ?_) (fun c164 => ?_)
            · refine lv_aload_n X.1 X.2.1 dX12_site_175 rfl (lv_at hl 0 rfl) ?_
              refine lv_dup X.1 X.2.1 dX12_site_176 rfl ?_
              refine m_geti 17 X hK hP hM hin rfl (by decide) k37 rfl dX12_site_177 (show Q9 0 17 = M 0 17 from (hk9 0 17 (by unfold zS; omega))) ?_
              refine lv_iconst (v := 1) X.1 X.2.1 dX12_site_180 (by decide) ?_
              refine lv_iadd X.1 X.2.1 dX12_site_181 ?_
              refine m_puti 17 X hK hP hS hM hin rfl (by decide) k37 rfl rfl rfl rfl dX12_site_182 (fun H locs hP hS => ?_)
              generalize eM14 : g2 Q9 0 17 ((M 0 17) + 1) = M14 at hP
              refine lv_aload_n X.1 X.2.1 dX12_site_185 rfl (lv_at hl 0 rfl) ?_
              refine m_getr 1 1 X hK hP hM hin rfl (by decide) k9 rfl dX12_site_186 (by decide) ?_
              refine lv_bipush (v := 39) X.1 X.2.1 dX12_site_189 (by decide) ?_
              refine lv_dup2_11 X.1 X.2.1 dX12_site_191 rfl rfl ?_
              refine m_ald 1 39 883 X hK hP hM rfl (gIx_of (show (39 : Int32) = nI 39 from rfl) (by omega) (by omega)) dX12_site_192 (show M14 1 39 = nI act from (gs_ne eM14 (by omega) ((hk9 1 39 (by unfold zS; omega)).trans h39))) ?_
              refine lv_iconst (v := 1) X.1 X.2.1 dX12_site_193 (by decide) ?_
              refine lv_iadd X.1 X.2.1 dX12_site_194 ?_
              refine m_ast 1 39 883 X hK hP hS hM rfl (gIx_of (show (39 : Int32) = nI 39 from rfl) (by omega) (by omega)) dX12_site_195 (fun H locs hP hS => ?_)
              generalize eM15 : g2 M14 1 39 ((nI act) + 1) = M15 at hP
              refine lv_aload_n X.1 X.2.1 dX12_site_196 rfl (lv_at hl 0 rfl) ?_
              refine m_getr 1 1 X hK hP hM hin rfl (by decide) k9 rfl dX12_site_197 (by decide) ?_
              refine lv_bipush (v := 42) X.1 X.2.1 dX12_site_200 (by decide) ?_
              refine lv_aload_n X.1 X.2.1 dX12_site_202 rfl (lv_at hl 0 rfl) ?_
              refine m_geti 5 X hK hP hM hin rfl (by decide) k84 rfl dX12_site_203 (show M15 0 5 = nI act from (gs_ne eM15 (by omega) (gs_ne eM14 (by omega) hz9.2.1))) ?_
              refine m_ast 1 42 883 X hK hP hS hM rfl (gIx_of (show (42 : Int32) = nI 42 from rfl) (by omega) (by omega)) dX12_site_206 (fun H locs hP hS => ?_)
              generalize eM16 : g2 M15 1 42 (nI act) = M16 at hP
              refine lv_aload_n X.1 X.2.1 dX12_site_207 rfl (lv_at hl 0 rfl) ?_
              refine m_geti 5 X hK hP hM hin rfl (by decide) k84 rfl dX12_site_208 (show M16 0 5 = nI act from (gs_ne eM16 (by omega) (gs_ne eM15 (by omega) (gs_ne eM14 (by omega) hz9.2.1)))) ?_
              exact g_iret M16 X hr hlk hK hP hS dX12_site_211 ⟨rfl, (gs_ne eM16 (by omega) (gs_ne eM15 (by omega) (gs_same eM14))), ((gs_ne eM16 (by omega) (gs_same eM15))).trans ((gn_add (Eq.refl (nI act)) (show (1 : Int32) = nI 1 from rfl))), (gs_same eM16), (gs_ne eM16 (by omega) (gs_ne eM15 (by omega) (gs_ne eM14 (by omega) h419))), (by rw [hend]; exact ⟨⟨⟨(gs_ne eM16 (by omega) (gs_ne eM15 (by omega) (gs_ne eM14 (by omega) hq1.1.1.1))), (gs_ne eM16 (by omega) (gs_ne eM15 (by omega) (gs_ne eM14 (by omega) hq1.1.1.2)))⟩, ⟨(gs_ne eM16 (by omega) (gs_ne eM15 (by omega) (gs_ne eM14 (by omega) hq1.1.2.1))), fun k g => (gs_ne eM16 (by omega) (gs_ne eM15 (by omega) (gs_ne eM14 (by omega) (hq1.1.2.2 k g))))⟩⟩, (gs_ne eM16 (by omega) (gs_ne eM15 (by omega) (gs_ne eM14 (by omega) hq1.2.1))), (gs_ne eM16 (by omega) (gs_ne eM15 (by omega) (gs_ne eM14 (by omega) hq1.2.2)))⟩), fun b j h1 h2 h3 => (gs_ne eM16 (by omega) (gs_ne eM15 (by omega) (gs_ne eM14 (by omega) (hk9 b j h1))))⟩
            · exact absurd (by rw [hyes.2]) c164
        · refine lv_aload_n X.1 X.2.1 dX12_site_129 rfl (lv_at hl 0 rfl) ?_
          refine lv_dup X.1 X.2.1 dX12_site_130 rfl ?_
          refine m_geti 6 X hK hP hM hin rfl (by decide) k57 rfl dX12_site_131 (show Q9 0 6 = nI c9.1.2.1 from hq1.1.1.1) ?_
          refine lv_iconst (v := 1) X.1 X.2.1 dX12_site_134 (by decide) ?_
          refine lv_iadd X.1 X.2.1 dX12_site_135 ?_
          refine m_puti 6 X hK hP hS hM hin rfl (by decide) k57 rfl rfl rfl rfl dX12_site_136 (fun H locs hP hS => ?_)
          generalize eM17 : g2 Q9 0 6 ((nI c9.1.2.1) + 1) = M17 at hP
          have hw9 : c9.1.1 = false := bI_0 c111
          have hgo : c9.1.1 = false ∧ sH tp n c9.1.2.1 = 59 := ⟨hw9, (hI_eq (y := 59) (by decide)).mp c126⟩
          have hin9 := sH_in hgo.2 (by decide)
          have hk8 : k < 9 := gq_k9 c117 hk
          have hz8 : mPz M17 tp n act := mPz_w hz9 (fun b j h => gs_ne eM17 (by unfold wS at h; omega) rfl)
          have hp8 : mRs M17 act ((false, c9.1.2.1 + 1, c9.1.2.2), c9.2) := ⟨⟨⟨((gs_same eM17)).trans ((gn_add (Eq.refl (nI c9.1.2.1)) (show (1 : Int32) = nI 1 from rfl))), gs_ne eM17 (by omega) (by rw [hq1.1.1.2, hw9])⟩, ⟨gs_ne eM17 (by omega) hq1.1.2.1, fun k g => gs_ne eM17 (by omega) (hq1.1.2.2 k g)⟩⟩, gs_ne eM17 (by omega) hq1.2.1, gs_ne eM17 (by omega) hq1.2.2⟩
          refine lv_aload_n X.1 X.2.1 dX12_site_139 rfl (lv_at hl 0 rfl) ?_
          refine g_run_v (g_runV (k := 14) [] X hK hP hS hC hB (c_clauseHere hM hz8 (r1 := ((false, c9.1.2.1 + 1, c9.1.2.2), c9.2)) hp8 (gs_ne eM17 (by omega) ho9) hin9 (by dsimp only; omega) rfl hstr) (cwV 0 X.2.2.2.2 gX12_site_X12_clauseHere rfl rfl rfl (by decide +kernel) ⟨Nat.le_of_ble_eq_true rfl, Nat.le_of_ble_eq_true rfl⟩) (hM.1 0 _ rfl) rfl rfl hl.1 rfl (Nat.le_of_ble_eq_true rfl) dX12_site_140 (by exact ⟨Nat.zero_le _, Nat.zero_le _⟩)) hS (fun u H locs hq hP hS => ?_)
          obtain ⟨hqN18, hkN18⟩ := hq
          generalize u = N18 at hP hqN18 hkN18
          have hP : gP D cy B z T (gI o 12 N18 I0) R H := hP
          refine lv_iinc (v := nI ((k + 1) + 1)) (lv' := [(1, .int (nI ((k + 1) + 1))), (0, .ref o)]) X.1 X.2.1 dX12_site_143 hl (k := 1) rfl (gn_inc (Eq.refl (nI (k + 1))) 1) (by decide) rfl (fun ls hl => ?_)
          refine lv_goto (tgt := 107) X.1 X.2.1 dX12_site_146 (by decide) ?_
          have hw1 := pW_cl htp (r := ((false, c9.1.2.1 + 1, c9.1.2.2), c9.2)) hin9
          dsimp only at hw1
          exact ih _ _ _ _ (by omega) ⟨⟨_, hqN18, hw1.2.1, by omega, hq6.trans (pSi_go (by omega) hgo), fun b j h => (hkN18 b j h).trans ((gs_ne eM17 (by unfold tS9 pS wS at h; omega) rfl).trans (hq7 b j h))⟩, lv_sub hl [1, 0] rfl⟩ hP hS
  · exact absurd (gq_eq (c8) (Eq.refl (nI act)) (show (5 : Int32) = nI 5 from rfl) (by omega) (by omega)) (by omega)

end NE