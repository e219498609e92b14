section QB
variable {l : Launch} {s0 : State} {D : va_G} {cy : Nat → ClassId} {B z : Nat} {T : Nat → Nat × Nat} {I : Nat → Nat → Int32} {R : Nat → Nat → Option Nat} {rd tc a : Nat} {tp : Nat → Nat} {n pl : Nat} {cs : Cls} {pd : List Nat}
theorem sH_in2 {tx : List Nat} (htx : gTx tx) (h : pAm tx (sH tp n pl) < tx.length) : pl < n := Classical.byContradiction fun g => by
  rw [sH_ge g] at h
  exact pAm_128 (gTx_m htx) h
set_option maxHeartbeats 4000000 in
set_option maxRecDepth 100000 in
/-- o_reads_y -/
theorem o_reads_y (hRd : cRd rd tc a T I R tp n pl) {x9 sa sq : Nat} (hs : gSo s0 B [x9] sa sq) (h2 : gSt2 s0 B) (htx : gTx [x9]) (hx : sH tp n pl = x9) : Met l yX5_reads wsX5_reads ({ frames := 5, cells := 0, slots := 0, locals := 113 }) (va_Pc [.ref rd, .ref sa] (gW0 s0 D cy B (z, T, I, R))) (va_Qi (fun r u => r = 1 ∧ u = (z, T, g2 I rd 0 (nI pl + 1), R)) (fun u t => gW1 D cy B u t) (gA B)) 0 0 (gA B) := by
  refine g_met (maxL := 2) (ret := (some .boolean)) (by decide) rfl (Nat.le_of_ble_eq_true rfl) (fun p e s m args below meth c ls X hr hlk hnm hK hP hC hS hl => ?_)
  have hl : lv_has ls 2 [(0, .ref rd), (1, .ref sa)] := hl
  have hP : gP D cy B z T I R s.heap := hP
  have hB : B ≤ s.heap.size := by rw [hP.1]; exact hP.2.1
  have hn100 := hRd.2.2.1.1
  have hpn := hRd.2.2.1.2.1
  have htp := hRd.2.2.1.2.2
  have hrda := hRd.2.1.1
  have htca := hRd.2.1.2.1
  have hrdt := hRd.2.1.2.2
  have ham : pAm [x9] (sH tp n pl) < [x9].length := one_am.mpr hx
  have hle9 : pAm [x9] (sH tp n pl) ≤ 1 := pAm_le [x9] _
  refine lv_aload_n X.1 X.2.1 dX5_reads_0 rfl (lv_at hl 0 rfl) ?_
  refine lv_aload_n X.1 X.2.1 dX5_reads_1 rfl (lv_at hl 1 rfl) ?_
  refine g_run_i (f := fun u => u) (g_runV (k := 7) [.ref sa] X hK hP hS hC hB (o_oneOf_y hRd hs h2 htx ham) (cwV 1 X.2.2.2.2 gX5_reads_X5_oneOf rfl rfl rfl (by decide +kernel) ⟨Nat.le_of_ble_eq_true rfl, Nat.le_of_ble_eq_true rfl⟩) hRd.1.1 rfl rfl hl.1 rfl (Nat.le_of_ble_eq_true rfl) dX5_reads_2 (by exact ⟨Nat.zero_le _, Nat.zero_le _⟩)) hS (fun r u H locs hq hP hS => ?_)
  obtain ⟨rfl, rfl⟩ := hq
  generalize eJ1 : g2 I rd 0 (nI pl + 1) = J1 at hP
  have hP : gP D cy B z T J1 R H := hP
  refine lv_if_lt (tgt := 12) X.1 X.2.1 dX5_reads_5 (by decide) (fun c5 => ?_) (fun c5 => ?_)
  · exact absurd c5 (nI_pos (by omega))
  · have n5 : 0 ≤ (pAm [x9] (sH tp n pl)) := gq_nlt c5 (Eq.refl (nI (pAm [x9] (sH tp n pl)))) (show (0 : Int32) = nI 0 from rfl) (by omega) (by omega)
    refine lv_iconst (v := 1) X.1 X.2.1 dX5_reads_8 (by decide) ?_
    refine lv_goto (tgt := 13) X.1 X.2.1 dX5_reads_9 (by decide) ?_
    exact g_zret (f := fun u => u) (z, T, J1, R) X hr hlk hK hP hS dX5_reads_13 rfl ⟨rfl, eJ1 ▸ rfl⟩

set_option maxHeartbeats 4000000 in
set_option maxRecDepth 100000 in
/-- o_reads_n -/
theorem o_reads_n (hRd : cRd rd tc a T I R tp n pl) {x9 sa sq : Nat} (hs : gSo s0 B [x9] sa sq) (h2 : gSt2 s0 B) (htx : gTx [x9]) (hx : ¬ sH tp n pl = x9) : Met l yX5_reads wsX5_reads ({ frames := 5, cells := 0, slots := 0, locals := 113 }) (va_Pc [.ref rd, .ref sa] (gW0 s0 D cy B (z, T, I, R))) (va_Qi (fun r u => r = 0 ∧ (z, T, I, R) = u) (fun u t => gW1 D cy B u t) (gA B)) 0 0 (gA B) := by
  refine g_met (maxL := 2) (ret := (some .boolean)) (by decide) rfl (Nat.le_of_ble_eq_true rfl) (fun p e s m args below meth c ls X hr hlk hnm hK hP hC hS hl => ?_)
  have hl : lv_has ls 2 [(0, .ref rd), (1, .ref sa)] := hl
  have hP : gP D cy B z T I R s.heap := hP
  have hB : B ≤ s.heap.size := by rw [hP.1]; exact hP.2.1
  have hn100 := hRd.2.2.1.1
  have hpn := hRd.2.2.1.2.1
  have htp := hRd.2.2.1.2.2
  have hrda := hRd.2.1.1
  have htca := hRd.2.1.2.1
  have hrdt := hRd.2.1.2.2
  have ham : ¬ pAm [x9] (sH tp n pl) < [x9].length := fun g => hx (one_am.mp g)
  have hle9 : pAm [x9] (sH tp n pl) ≤ 1 := pAm_le [x9] _
  refine lv_aload_n X.1 X.2.1 dX5_reads_0 rfl (lv_at hl 0 rfl) ?_
  refine lv_aload_n X.1 X.2.1 dX5_reads_1 rfl (lv_at hl 1 rfl) ?_
  refine g_run_i (f := fun u => u) (g_runV (k := 7) [.ref sa] X hK hP hS hC hB (o_oneOf_n hRd hs h2 htx ham) (cwV 1 X.2.2.2.2 gX5_reads_X5_oneOf rfl rfl rfl (by decide +kernel) ⟨Nat.le_of_ble_eq_true rfl, Nat.le_of_ble_eq_true rfl⟩) hRd.1.1 rfl rfl hl.1 rfl (Nat.le_of_ble_eq_true rfl) dX5_reads_2 (by exact ⟨Nat.zero_le _, Nat.zero_le _⟩)) hS (fun r u H locs hq hP hS => ?_)
  obtain ⟨rfl, rfl⟩ := hq
  have hP : gP D cy B z T I R H := hP
  refine lv_if_lt (tgt := 12) X.1 X.2.1 dX5_reads_5 (by decide) (fun c5 => ?_) (fun c5 => ?_)
  · refine lv_iconst (v := 0) X.1 X.2.1 dX5_reads_12 (by decide) ?_
    exact g_zret (f := fun u => u) (z, T, I, R) X hr hlk hK hP hS dX5_reads_13 rfl ⟨rfl, rfl⟩
  · exact absurd (show (-1 : Int32) < 0 by decide) c5

theorem nI_ge0 {x : Nat} (h : x < 2 ^ 31) : (0 : Int32) ≤ nI x := Int32.not_lt.mp (nI_pos h)
set_option maxHeartbeats 4000000 in
set_option maxRecDepth 100000 in
/-- o_num -/
theorem o_num (hRd : cRd rd tc a T I R tp n pl) (hstr : gStr s0 B) : Met l yX5_readNumber wsX5_readNumber ({ frames := 5, cells := 0, slots := 0, locals := 113 }) (va_Pc [.ref rd] (gW0 s0 D cy B (z, T, I, R))) (va_Qi (fun r u => ∃ I' p', u = (z, T, I', R) ∧ I' rd 0 = nI p' ∧ (∀ c j, ¬ (c = rd ∧ j = 0) → I' c j = I c j) ∧ ((∃ v, r = nI v ∧ v < 100 ∧ ∀ L, pFig tp n (false, pl, L) = ((false, p', L), v)) ∨ (r = -1 ∧ ∀ L, pFig tp n (false, pl, L) = ((true, p', L), 0)))) (fun u t => gW1 D cy B u t) (gA B)) 0 0 (gA B) := by
  refine g_met (maxL := 3) (ret := (some .int)) (by decide) rfl (Nat.le_of_ble_eq_true rfl) (fun p e s m args below meth c ls X hr hlk hnm hK hP hC hS hl => ?_)
  have hl : lv_has ls 3 [(0, .ref rd)] := hl
  have hP : gP D cy B z T I R s.heap := hP
  have hB : B ≤ s.heap.size := by rw [hP.1]; exact hP.2.1
  have hn100 := hRd.2.2.1.1
  have hpn := hRd.2.2.1.2.1
  have htp := hRd.2.2.1.2.2
  have hrda := hRd.2.1.1
  have htca := hRd.2.1.2.1
  have hrdt := hRd.2.1.2.2
  have h2 : gSt2 s0 B := hstr.1
  obtain ⟨s85, q85, hR85, hs85, ht85⟩ := hstr.at 19 rfl
  have hs85 : gSo s0 B [48, 49, 50, 51, 52, 53, 54, 55, 56, 57] s85 q85 := hs85
  have ht85 : gTx [48, 49, 50, 51, 52, 53, 54, 55, 56, 57] := ht85
  have hFt : rFr rd a I I := rFr.rf
  have hfa : ∀ c j, ¬ (c = rd ∧ j = 0) → I c j = I c j := fun _ _ _ => rfl
  by_cases hd1 : isD (sH tp n pl)
  · have hdg := hd1.2
    have hdh := hd1.1
    by_cases hd2 : 48 < sH tp n pl ∧ isD (sH tp n (pl + 1))
    · have hdk := hd2.2.2
      have hdl := hd2.2.1
      have hdm := hd2.1
      refine lv_aload_n X.1 X.2.1 dX5_readNumber_0 rfl (lv_at hl 0 rfl) ?_
      refine va_ldcS X.1 X.2.1 X.2.2.2.1 (vk_R.warm hC.1 hR85) dX5_readNumber_1 ?_
      refine g_run_i (f := fun u => u) (g_runV (k := 7) [.ref s85] X hK hP hS hC hB (o_oneOf_y hRd hs85 h2 ht85 (dg_am.mpr hd1)) (cwV 1 X.2.2.2.2 gX5_readNumber_X5_oneOf rfl rfl rfl (by decide +kernel) ⟨Nat.le_of_ble_eq_true rfl, Nat.le_of_ble_eq_true rfl⟩) hRd.1.1 rfl rfl hl.1 rfl (Nat.le_of_ble_eq_true rfl) dX5_readNumber_3 (by exact ⟨Nat.zero_le _, Nat.zero_le _⟩)) hS (fun r u H locs hq hP hS => ?_)
      obtain ⟨rfl, rfl⟩ := hq
      generalize eJ1 : g2 I rd 0 (nI pl + 1) = J1 at hP
      have hP : gP D cy B z T J1 R H := hP
      have hfJ1 : ∀ c j, ¬ (c = rd ∧ j = 0) → J1 c j = I c j := fun c j h => gs_ne eJ1 h rfl
      have hpnJ1 := sH_in2 ht85 (dg_am.mpr hd1)
      have hFt := hFt.trs (fun c j h1 _ => hfJ1 c j h1)
      have hRd : cRd rd tc a T J1 R tp n (pl + 1) := hRd.mv (fun c j h1 _ => hfJ1 c j h1) ((gs_same eJ1).trans (nI_add _ 1)) (by omega)
      refine lv_cv (congrArg nI (dg_v hd1)) ?_
      refine lv_istore_n (lv' := [(1, .int (nI (sH tp n pl - 48))), (0, .ref rd)]) X.1 X.2.1 dX5_readNumber_6 rfl hl (by decide) rfl (fun ls hl => ?_)
      refine lv_iload_n X.1 X.2.1 dX5_readNumber_7 rfl (lv_at hl 0 rfl) ?_
      refine lv_if_le (tgt := 33) X.1 X.2.1 dX5_readNumber_8 (by decide) (fun c8 => ?_) (fun c8 => ?_)
      · exact absurd (gq_le c8 (Eq.refl (nI (sH tp n pl - 48))) (show (0 : Int32) = nI 0 from rfl) (by omega) (by omega)) (by omega)
      · have n8 : 0 < (sH tp n pl - 48) := gq_nle c8 (Eq.refl (nI (sH tp n pl - 48))) (show (0 : Int32) = nI 0 from rfl) (by omega) (by omega)
        refine lv_aload_n X.1 X.2.1 dX5_readNumber_11 rfl (lv_at hl 1 rfl) ?_
        refine va_ldcS X.1 X.2.1 X.2.2.2.1 (vk_R.warm hC.1 hR85) dX5_readNumber_12 ?_
        refine g_run_i (f := fun u => u) (g_runV (k := 7) [.ref s85] X hK hP hS hC hB (o_oneOf_y hRd hs85 h2 ht85 (dg_am.mpr hd2.2)) (cwV 1 X.2.2.2.2 gX5_readNumber_X5_oneOf rfl rfl rfl (by decide +kernel) ⟨Nat.le_of_ble_eq_true rfl, Nat.le_of_ble_eq_true rfl⟩) hRd.1.1 rfl rfl hl.1 rfl (Nat.le_of_ble_eq_true rfl) dX5_readNumber_14 (by exact ⟨Nat.zero_le _, Nat.zero_le _⟩)) hS (fun r u H locs hq hP hS => ?_)
        obtain ⟨rfl, rfl⟩ := hq
        generalize eJ2 : g2 J1 rd 0 (nI (pl + 1) + 1) = J2 at hP
        have hP : gP D cy B z T J2 R H := hP
        have hfJ2 : ∀ c j, ¬ (c = rd ∧ j = 0) → J2 c j = J1 c j := fun c j h => gs_ne eJ2 h rfl
        have hpnJ2 := sH_in2 ht85 (dg_am.mpr hd2.2)
        have hFt := hFt.trs (fun c j h1 _ => hfJ2 c j h1)
        have hRd : cRd rd tc a T J2 R tp n (pl + 2) := hRd.mv (fun c j h1 _ => hfJ2 c j h1) ((gs_same eJ2).trans (nI_add _ 1)) (by omega)
        refine lv_cv (congrArg nI (dg_v hd2.2)) ?_
        refine lv_istore_n (lv' := [(2, .int (nI (sH tp n (pl + 1) - 48))), (1, .int (nI (sH tp n pl - 48))), (0, .ref rd)]) X.1 X.2.1 dX5_readNumber_17 rfl hl (by decide) rfl (fun ls hl => ?_)
        refine lv_iload_n X.1 X.2.1 dX5_readNumber_18 rfl (lv_at hl 0 rfl) ?_
        refine lv_if_ge (tgt := 26) X.1 X.2.1 dX5_readNumber_19 (by decide) (fun c19 => ?_) (fun c19 => ?_)
        · have n19 : 0 ≤ (sH tp n (pl + 1) - 48) := gq_le c19 (show (0 : Int32) = nI 0 from rfl) (Eq.refl (nI (sH tp n (pl + 1) - 48))) (by omega) (by omega)
          refine lv_iload_n X.1 X.2.1 dX5_readNumber_26 rfl (lv_at hl 1 rfl) ?_
          refine lv_bipush (v := 10) X.1 X.2.1 dX5_readNumber_27 (by decide) ?_
          refine lv_imul X.1 X.2.1 dX5_readNumber_29 ?_
          refine lv_iload_n X.1 X.2.1 dX5_readNumber_30 rfl (lv_at hl 0 rfl) ?_
          refine lv_iadd X.1 X.2.1 dX5_readNumber_31 ?_
          refine lv_istore_n (lv' := [(1, .int (((nI (sH tp n pl - 48)) * 10) + (nI (sH tp n (pl + 1) - 48)))), (2, .int (nI (sH tp n (pl + 1) - 48))), (0, .ref rd)]) X.1 X.2.1 dX5_readNumber_32 rfl hl (by decide) rfl (fun ls hl => ?_)
          refine lv_iload_n X.1 X.2.1 dX5_readNumber_33 rfl (lv_at hl 0 rfl) ?_
          exact g_iret (f := fun u => u) (z, T, J2, R) X hr hlk hK hP hS dX5_readNumber_34 ⟨J2, pl + 2, rfl, hRd.2.2.2.1, (fun c j h => (hfJ2 c j h).trans (hfJ1 c j h)), Or.inl ⟨_, (gn_add (gn_mul (Eq.refl (nI (sH tp n pl - 48))) (show (10 : Int32) = nI 10 from rfl)) (Eq.refl (nI (sH tp n (pl + 1) - 48)))), (by omega), fun L => (pFig_2 hd1 hd2).trans (by rw [Nat.mul_comm])⟩⟩
        · exact absurd (nI_ge0 (by omega)) c19
    · refine lv_aload_n X.1 X.2.1 dX5_readNumber_0 rfl (lv_at hl 0 rfl) ?_
      refine va_ldcS X.1 X.2.1 X.2.2.2.1 (vk_R.warm hC.1 hR85) dX5_readNumber_1 ?_
      refine g_run_i (f := fun u => u) (g_runV (k := 7) [.ref s85] X hK hP hS hC hB (o_oneOf_y hRd hs85 h2 ht85 (dg_am.mpr hd1)) (cwV 1 X.2.2.2.2 gX5_readNumber_X5_oneOf rfl rfl rfl (by decide +kernel) ⟨Nat.le_of_ble_eq_true rfl, Nat.le_of_ble_eq_true rfl⟩) hRd.1.1 rfl rfl hl.1 rfl (Nat.le_of_ble_eq_true rfl) dX5_readNumber_3 (by exact ⟨Nat.zero_le _, Nat.zero_le _⟩)) hS (fun r u H locs hq hP hS => ?_)
      obtain ⟨rfl, rfl⟩ := hq
      generalize eJ3 : g2 I rd 0 (nI pl + 1) = J3 at hP
      have hP : gP D cy B z T J3 R H := hP
      have hfJ3 : ∀ c j, ¬ (c = rd ∧ j = 0) → J3 c j = I c j := fun c j h => gs_ne eJ3 h rfl
      have hpnJ3 := sH_in2 ht85 (dg_am.mpr hd1)
      have hFt := hFt.trs (fun c j h1 _ => hfJ3 c j h1)
      have hRd : cRd rd tc a T J3 R tp n (pl + 1) := hRd.mv (fun c j h1 _ => hfJ3 c j h1) ((gs_same eJ3).trans (nI_add _ 1)) (by omega)
      refine lv_cv (congrArg nI (dg_v hd1)) ?_
      refine lv_istore_n (lv' := [(1, .int (nI (sH tp n pl - 48))), (0, .ref rd)]) X.1 X.2.1 dX5_readNumber_6 rfl hl (by decide) rfl (fun ls hl => ?_)
      refine lv_iload_n X.1 X.2.1 dX5_readNumber_7 rfl (lv_at hl 0 rfl) ?_
      refine lv_if_le (tgt := 33) X.1 X.2.1 dX5_readNumber_8 (by decide) (fun c8 => ?_) (fun c8 => ?_)
      · have n8 : (sH tp n pl - 48) ≤ 0 := gq_le c8 (Eq.refl (nI (sH tp n pl - 48))) (show (0 : Int32) = nI 0 from rfl) (by omega) (by omega)
        refine lv_iload_n X.1 X.2.1 dX5_readNumber_33 rfl (lv_at hl 0 rfl) ?_
        exact g_iret (f := fun u => u) (z, T, J3, R) X hr hlk hK hP hS dX5_readNumber_34 ⟨J3, pl + 1, rfl, hRd.2.2.2.1, hfJ3, Or.inl ⟨_, rfl, (by omega), fun L => pFig_1 hd1 hd2⟩⟩
      · have n8 : 0 < (sH tp n pl - 48) := gq_nle c8 (Eq.refl (nI (sH tp n pl - 48))) (show (0 : Int32) = nI 0 from rfl) (by omega) (by omega)
        refine lv_aload_n X.1 X.2.1 dX5_readNumber_11 rfl (lv_at hl 1 rfl) ?_
        refine va_ldcS X.1 X.2.1 X.2.2.2.1 (vk_R.warm hC.1 hR85) dX5_readNumber_12 ?_
        refine g_run_i (f := fun u => u) (g_runV (k := 7) [.ref s85] X hK hP hS hC hB (o_oneOf_n hRd hs85 h2 ht85 (fun g => hd2 ⟨by omega, dg_am.mp g⟩)) (cwV 1 X.2.2.2.2 gX5_readNumber_X5_oneOf rfl rfl rfl (by decide +kernel) ⟨Nat.le_of_ble_eq_true rfl, Nat.le_of_ble_eq_true rfl⟩) hRd.1.1 rfl rfl hl.1 rfl (Nat.le_of_ble_eq_true rfl) dX5_readNumber_14 (by exact ⟨Nat.zero_le _, Nat.zero_le _⟩)) hS (fun r u H locs hq hP hS => ?_)
        obtain ⟨rfl, rfl⟩ := hq
        have hP : gP D cy B z T J3 R H := hP
        refine lv_istore_n (lv' := [(2, .int (-1)), (1, .int (nI (sH tp n pl - 48))), (0, .ref rd)]) X.1 X.2.1 dX5_readNumber_17 rfl hl (by decide) rfl (fun ls hl => ?_)
        refine lv_iload_n X.1 X.2.1 dX5_readNumber_18 rfl (lv_at hl 0 rfl) ?_
        refine lv_if_ge (tgt := 26) X.1 X.2.1 dX5_readNumber_19 (by decide) (fun c19 => ?_) (fun c19 => ?_)
        · exact absurd c19 (by decide)
        · refine lv_iload_n X.1 X.2.1 dX5_readNumber_22 rfl (lv_at hl 1 rfl) ?_
          refine lv_goto (tgt := 32) X.1 X.2.1 dX5_readNumber_23 (by decide) ?_
          refine lv_istore_n (lv' := [(1, .int (nI (sH tp n pl - 48))), (2, .int (-1)), (0, .ref rd)]) X.1 X.2.1 dX5_readNumber_32 rfl hl (by decide) rfl (fun ls hl => ?_)
          refine lv_iload_n X.1 X.2.1 dX5_readNumber_33 rfl (lv_at hl 0 rfl) ?_
          exact g_iret (f := fun u => u) (z, T, J3, R) X hr hlk hK hP hS dX5_readNumber_34 ⟨J3, pl + 1, rfl, hRd.2.2.2.1, hfJ3, Or.inl ⟨_, rfl, (by omega), fun L => pFig_1 hd1 hd2⟩⟩
  · refine lv_aload_n X.1 X.2.1 dX5_readNumber_0 rfl (lv_at hl 0 rfl) ?_
    refine va_ldcS X.1 X.2.1 X.2.2.2.1 (vk_R.warm hC.1 hR85) dX5_readNumber_1 ?_
    refine g_run_i (f := fun u => u) (g_runV (k := 7) [.ref s85] X hK hP hS hC hB (o_oneOf_n hRd hs85 h2 ht85 (fun g => hd1 (dg_am.mp g))) (cwV 1 X.2.2.2.2 gX5_readNumber_X5_oneOf rfl rfl rfl (by decide +kernel) ⟨Nat.le_of_ble_eq_true rfl, Nat.le_of_ble_eq_true rfl⟩) hRd.1.1 rfl rfl hl.1 rfl (Nat.le_of_ble_eq_true rfl) dX5_readNumber_3 (by exact ⟨Nat.zero_le _, Nat.zero_le _⟩)) hS (fun r u H locs hq hP hS => ?_)
    obtain ⟨rfl, rfl⟩ := hq
    have hP : gP D cy B z T I R H := hP
    refine lv_istore_n (lv' := [(1, .int (-1)), (0, .ref rd)]) X.1 X.2.1 dX5_readNumber_6 rfl hl (by decide) rfl (fun ls hl => ?_)
    refine lv_iload_n X.1 X.2.1 dX5_readNumber_7 rfl (lv_at hl 0 rfl) ?_
    refine lv_if_le (tgt := 33) X.1 X.2.1 dX5_readNumber_8 (by decide) (fun c8 => ?_) (fun c8 => ?_)
    · refine lv_iload_n X.1 X.2.1 dX5_readNumber_33 rfl (lv_at hl 0 rfl) ?_
      exact g_iret (f := fun u => u) (z, T, I, R) X hr hlk hK hP hS dX5_readNumber_34 ⟨I, pl, rfl, hRd.2.2.2.1, hfa, Or.inr ⟨rfl, fun L => pFig_n hd1⟩⟩
    · exact absurd (show (-1 : Int32) ≤ 0 by decide) c8

set_option maxHeartbeats 4000000 in
set_option maxRecDepth 100000 in
/-- o_test -/
theorem o_test (hRd : cRd rd tc a T I R tp n pl) (hstr : gStr s0 B) (hSr : cSr a I cs pd) (hLp : (flC cs ++ pd).length ≤ pl) : Met l yX5_readTest wsX5_readTest ({ frames := 6, cells := 0, slots := 0, locals := 135 }) (va_Pc [.ref rd] (gW0 s0 D cy B (z, T, I, R))) (va_Qi (fun r u => ∃ I' p', u = (z, T, I', R) ∧ rFr rd a I I' ∧ I' rd 0 = nI p' ∧ ((r = 1 ∧ ∃ pd', pAtom tp n (false, pl, flC cs ++ pd) = (false, p', flC cs ++ pd') ∧ cSr a I' cs pd') ∨ (r = 0 ∧ ∃ L', pAtom tp n (false, pl, flC cs ++ pd) = (true, p', L')))) (fun u t => gW1 D cy B u t) (gA B)) 0 0 (gA B) := by
  refine g_met (maxL := 4) (ret := (some .boolean)) (by decide) rfl (Nat.le_of_ble_eq_true rfl) (fun p e s m args below meth c ls X hr hlk hnm hK hP hC hS hl => ?_)
  have hl : lv_has ls 4 [(0, .ref rd)] := hl
  have hP : gP D cy B z T I R s.heap := hP
  have hB : B ≤ s.heap.size := by rw [hP.1]; exact hP.2.1
  have hinRX5 : ∀ w ∈ wsX50, w ∈ wsX5_readTest := fun _ h => List.mem_cons_of_mem _ (List.mem_append_left _ (List.mem_append_right _ h))
  have k31 : Cond.fieldLink RX5 31 "BarrowPlank$SiteReader" "draft" "LBarrowPlank$Site;" ∈ wsX5_readTest := by decide +kernel
  have hn100 := hRd.2.2.1.1
  have hpn := hRd.2.2.1.2.1
  have htp := hRd.2.2.1.2.2
  have hrda := hRd.2.1.1
  have htca := hRd.2.1.2.1
  have hrdt := hRd.2.1.2.2
  have h2 : gSt2 s0 B := hstr.1
  obtain ⟨s110, q110, hR110, hs110, ht110⟩ := hstr.at 15 rfl
  have hs110 : gSo s0 B tA s110 q110 := hs110
  have ht110 : gTx tA := ht110
  obtain ⟨s112, q112, hR112, hs112, ht112⟩ := hstr.at 16 rfl
  have hs112 : gSo s0 B tC s112 q112 := hs112
  have ht112 : gTx tC := ht112
  have hFt : rFr rd a I I := rFr.rf
  have hco := co_le (cs := cs) (pd := pd)
  by_cases hA6 : pAm tA (sH tp n pl) < 6
  · by_cases hC3 : pAm tC (sH tp n (pl + 1)) < 3
    · refine lv_aload_n X.1 X.2.1 dX5_readTest_0 rfl (lv_at hl 0 rfl) ?_
      refine va_ldcS X.1 X.2.1 X.2.2.2.1 (vk_R.warm hC.1 hR110) dX5_readTest_1 ?_
      refine g_run_i (f := fun u => u) (g_runV (k := 7) [.ref s110] X hK hP hS hC hB (o_oneOf_y hRd hs110 h2 ht110 hA6) (cwV 1 X.2.2.2.2 gX5_readTest_X5_oneOf rfl rfl rfl (by decide +kernel) ⟨Nat.le_of_ble_eq_true rfl, Nat.le_of_ble_eq_true rfl⟩) hRd.1.1 rfl rfl hl.1 rfl (Nat.le_of_ble_eq_true rfl) dX5_readTest_3 (by exact ⟨Nat.zero_le _, Nat.zero_le _⟩)) hS (fun r u H locs hq hP hS => ?_)
      obtain ⟨rfl, rfl⟩ := hq
      generalize eJ1 : g2 I rd 0 (nI pl + 1) = J1 at hP
      have hP : gP D cy B z T J1 R H := hP
      have hfJ1 : ∀ c j, ¬ (c = rd ∧ j = 0) → J1 c j = I c j := fun c j h => gs_ne eJ1 h rfl
      have hpnJ1 := sH_in2 ht110 hA6
      have hFt := hFt.trs (fun c j h1 _ => hfJ1 c j h1)
      have hRd : cRd rd tc a T J1 R tp n (pl + 1) := hRd.mv (fun c j h1 _ => hfJ1 c j h1) ((gs_same eJ1).trans (nI_add _ 1)) (by omega)
      have hSr : cSr a J1 cs pd := hSr.k (fun c j g1 g2 => hfJ1 c j (by omega))
      refine lv_istore_n (lv' := [(1, .int (nI (pAm tA (sH tp n pl)))), (0, .ref rd)]) X.1 X.2.1 dX5_readTest_6 rfl hl (by decide) rfl (fun ls hl => ?_)
      refine lv_iload_n X.1 X.2.1 dX5_readTest_7 rfl (lv_at hl 0 rfl) ?_
      refine lv_if_ge (tgt := 13) X.1 X.2.1 dX5_readTest_8 (by decide) (fun c8 => ?_) (fun c8 => ?_)
      · have n8 : 0 ≤ (pAm tA (sH tp n pl)) := gq_le c8 (show (0 : Int32) = nI 0 from rfl) (Eq.refl (nI (pAm tA (sH tp n pl)))) (by omega) (by omega)
        refine lv_aload_n X.1 X.2.1 dX5_readTest_13 rfl (lv_at hl 1 rfl) ?_
        refine va_ldcS X.1 X.2.1 X.2.2.2.1 (vk_R.warm hC.1 hR112) dX5_readTest_14 ?_
        refine g_run_i (f := fun u => u) (g_runV (k := 7) [.ref s112] X hK hP hS hC hB (o_oneOf_y hRd hs112 h2 ht112 hC3) (cwV 1 X.2.2.2.2 gX5_readTest_X5_oneOf rfl rfl rfl (by decide +kernel) ⟨Nat.le_of_ble_eq_true rfl, Nat.le_of_ble_eq_true rfl⟩) hRd.1.1 rfl rfl hl.1 rfl (Nat.le_of_ble_eq_true rfl) dX5_readTest_16 (by exact ⟨Nat.zero_le _, Nat.zero_le _⟩)) hS (fun r u H locs hq hP hS => ?_)
        obtain ⟨rfl, rfl⟩ := hq
        generalize eJ2 : g2 J1 rd 0 (nI (pl + 1) + 1) = J2 at hP
        have hP : gP D cy B z T J2 R H := hP
        have hfJ2 : ∀ c j, ¬ (c = rd ∧ j = 0) → J2 c j = J1 c j := fun c j h => gs_ne eJ2 h rfl
        have hpnJ2 := sH_in2 ht112 hC3
        have hFt := hFt.trs (fun c j h1 _ => hfJ2 c j h1)
        have hRd : cRd rd tc a T J2 R tp n (pl + 2) := hRd.mv (fun c j h1 _ => hfJ2 c j h1) ((gs_same eJ2).trans (nI_add _ 1)) (by omega)
        have hSr : cSr a J2 cs pd := hSr.k (fun c j g1 g2 => hfJ2 c j (by omega))
        refine lv_istore_n (lv' := [(2, .int (nI (pAm tC (sH tp n (pl + 1))))), (1, .int (nI (pAm tA (sH tp n pl)))), (0, .ref rd)]) X.1 X.2.1 dX5_readTest_19 rfl hl (by decide) rfl (fun ls hl => ?_)
        refine lv_iload_n X.1 X.2.1 dX5_readTest_20 rfl (lv_at hl 0 rfl) ?_
        refine lv_if_ge (tgt := 26) X.1 X.2.1 dX5_readTest_21 (by decide) (fun c21 => ?_) (fun c21 => ?_)
        · have n21 : 0 ≤ (pAm tC (sH tp n (pl + 1))) := gq_le c21 (show (0 : Int32) = nI 0 from rfl) (Eq.refl (nI (pAm tC (sH tp n (pl + 1))))) (by omega) (by omega)
          refine lv_aload_n X.1 X.2.1 dX5_readTest_26 rfl (lv_at hl 2 rfl) ?_
          refine g_run_i (f := fun u => u) (g_runV (k := 7) [] X hK hP hS hC hB (o_num hRd hstr) (cwV 0 X.2.2.2.2 gX5_readTest_X5_readNumber rfl rfl rfl (by decide +kernel) ⟨Nat.le_of_ble_eq_true rfl, Nat.le_of_ble_eq_true rfl⟩) hRd.1.1 rfl rfl hl.1 rfl (Nat.le_of_ble_eq_true rfl) dX5_readTest_27 (by exact ⟨Nat.zero_le _, Nat.zero_le _⟩)) hS (fun r u H locs hq hP hS => ?_)
          obtain ⟨IN3, pN3, rfl, hpN3, hfN3, hq⟩ := hq
          have hP : gP D cy B z T IN3 R H := hP
          have hwN3 := pW_fig (tp := tp) (n := n) (false, (pl + 2), []) (by show (pl + 2) ≤ n; omega)
          rcases hq with ⟨vN3, rfl, hvN3, hEN3⟩ | ⟨rfl, hEN3⟩
          · simp only [hEN3 []] at hwN3
            have hwN3 : (pl + 2) ≤ pN3 ∧ pN3 ≤ n := ⟨hwN3.1, hwN3.2.1⟩
            have hFt := hFt.trs (fun c j h1 _ => hfN3 c j h1)
            have hRd : cRd rd tc a T IN3 R tp n pN3 := hRd.mv (fun c j h1 _ => hfN3 c j h1) hpN3 (by omega)
            have hSr : cSr a IN3 cs pd := hSr.k (fun c j g1 g2 => hfN3 c j (by omega))
            refine lv_istore_n (lv' := [(3, .int (nI vN3)), (2, .int (nI (pAm tC (sH tp n (pl + 1))))), (1, .int (nI (pAm tA (sH tp n pl)))), (0, .ref rd)]) X.1 X.2.1 dX5_readTest_30 rfl hl (by decide) rfl (fun ls hl => ?_)
            refine lv_iload_n X.1 X.2.1 dX5_readTest_31 rfl (lv_at hl 0 rfl) ?_
            refine lv_if_ge (tgt := 37) X.1 X.2.1 dX5_readTest_32 (by decide) (fun c32 => ?_) (fun c32 => ?_)
            · have n32 : 0 ≤ vN3 := gq_le c32 (show (0 : Int32) = nI 0 from rfl) (Eq.refl (nI vN3)) (by omega) (by omega)
              refine lv_aload_n X.1 X.2.1 dX5_readTest_37 rfl (lv_at hl 3 rfl) ?_
              refine g_getr 7 3 X hK hP hRd.1.1 rfl hinRX5 rfl (by decide) k31 (fun _ h => h) dX5_readTest_38 (show va_rf (R rd 3) = .ref a from by rw [hRd.1.2.2.1]; rfl) ?_
              refine lv_iload_n X.1 X.2.1 dX5_readTest_41 rfl (lv_at hl 2 rfl) ?_
              refine lv_iload_n X.1 X.2.1 dX5_readTest_42 rfl (lv_at hl 1 rfl) ?_
              refine lv_iload_n X.1 X.2.1 dX5_readTest_43 rfl (lv_at hl 0 rfl) ?_
              refine g_run_v (f := fun u => u) (g_runV (k := 6) [.int (nI (pAm tA (sH tp n pl))), .int (nI (pAm tC (sH tp n (pl + 1)))), .int (nI vN3)] X hK hP hS hC hB (o_putTest hRd.1.2.2.2.2 hSr.2.2.2.1 (by omega)) (cwV 3 X.2.2.2.2 gX5_readTest_X4_putTest rfl rfl rfl (by decide +kernel) ⟨Nat.le_of_ble_eq_true rfl, Nat.le_of_ble_eq_true rfl⟩) hRd.1.2.2.2.2.1 rfl rfl hl.1 rfl (Nat.le_of_ble_eq_true rfl) dX5_readTest_44 (by exact ⟨Nat.zero_le _, Nat.zero_le _⟩)) hS (fun u H locs hq hP hS => ?_)
              subst hq
              generalize eJ4 : g2 IN3 (a + 4) ((coC cs ++ pd).length) (nI ((pAm tA (sH tp n pl) * 3 + pAm tC (sH tp n (pl + 1))) * 100 + vN3)) = J4 at hP
              generalize eJ5 : g2 J4 a 7 (nI ((coC cs ++ pd).length) + 1) = J5 at hP
              have hP : gP D cy B z T J5 R H := hP
              refine lv_iconst (v := 1) X.1 X.2.1 dX5_readTest_47 (by decide) ?_
              have henc := enc_T (s := pAm tA (sH tp n pl)) (c := pAm tC (sH tp n (pl + 1))) (v := vN3) hA6 hC3 (by omega)
              have hS2 : cSr a J5 cs (pd ++ [(pAm tA (sH tp n pl) + 8 * pAm tC (sH tp n (pl + 1)) + 32 * vN3)]) := hSr.push (by omega) henc.2 henc.1.symm eJ4 eJ5
              exact g_zret (f := fun u => u) (z, T, J5, R) X hr hlk hK hP hS dX5_readTest_48 rfl ⟨J5, pN3, rfl, hFt.trs (fun c j h1 h2 => gs_ne eJ5 (by omega) (gs_ne eJ4 (by omega) rfl)), gs_ne eJ5 (by omega) (gs_ne eJ4 (by omega) hRd.2.2.2.1), Or.inl ⟨rfl, pd ++ [(pAm tA (sH tp n pl) + 8 * pAm tC (sH tp n (pl + 1)) + 32 * vN3)], (by rw [pAtom_y hA6 hC3, hEN3, pEm_f, List.append_assoc]), hS2⟩⟩
            · exact absurd (nI_ge0 (by omega)) c32
          · simp only [hEN3 []] at hwN3
            have hwN3 : (pl + 2) ≤ pN3 ∧ pN3 ≤ n := ⟨hwN3.1, hwN3.2.1⟩
            have hFt := hFt.trs (fun c j h1 _ => hfN3 c j h1)
            have hRd : cRd rd tc a T IN3 R tp n pN3 := hRd.mv (fun c j h1 _ => hfN3 c j h1) hpN3 (by omega)
            have hSr : cSr a IN3 cs pd := hSr.k (fun c j g1 g2 => hfN3 c j (by omega))
            refine lv_istore_n (lv' := [(3, .int (-1)), (2, .int (nI (pAm tC (sH tp n (pl + 1))))), (1, .int (nI (pAm tA (sH tp n pl)))), (0, .ref rd)]) X.1 X.2.1 dX5_readTest_30 rfl hl (by decide) rfl (fun ls hl => ?_)
            refine lv_iload_n X.1 X.2.1 dX5_readTest_31 rfl (lv_at hl 0 rfl) ?_
            refine lv_if_ge (tgt := 37) X.1 X.2.1 dX5_readTest_32 (by decide) (fun c32 => ?_) (fun c32 => ?_)
            · exact absurd c32 (by decide)
            · refine lv_iconst (v := 0) X.1 X.2.1 dX5_readTest_35 (by decide) ?_
              exact g_zret (f := fun u => u) (z, T, IN3, R) X hr hlk hK hP hS dX5_readTest_36 rfl ⟨IN3, pN3, rfl, hFt, hRd.2.2.2.1, Or.inr ⟨rfl, _, (by rw [pAtom_y hA6 hC3, hEN3, pEm_tr])⟩⟩
        · exact absurd (nI_ge0 (by omega)) c21
      · exact absurd (nI_ge0 (by omega)) c8
    · refine lv_aload_n X.1 X.2.1 dX5_readTest_0 rfl (lv_at hl 0 rfl) ?_
      refine va_ldcS X.1 X.2.1 X.2.2.2.1 (vk_R.warm hC.1 hR110) dX5_readTest_1 ?_
      refine g_run_i (f := fun u => u) (g_runV (k := 7) [.ref s110] X hK hP hS hC hB (o_oneOf_y hRd hs110 h2 ht110 hA6) (cwV 1 X.2.2.2.2 gX5_readTest_X5_oneOf rfl rfl rfl (by decide +kernel) ⟨Nat.le_of_ble_eq_true rfl, Nat.le_of_ble_eq_true rfl⟩) hRd.1.1 rfl rfl hl.1 rfl (Nat.le_of_ble_eq_true rfl) dX5_readTest_3 (by exact ⟨Nat.zero_le _, Nat.zero_le _⟩)) hS (fun r u H locs hq hP hS => ?_)
      obtain ⟨rfl, rfl⟩ := hq
      generalize eJ6 : g2 I rd 0 (nI pl + 1) = J6 at hP
      have hP : gP D cy B z T J6 R H := hP
      have hfJ6 : ∀ c j, ¬ (c = rd ∧ j = 0) → J6 c j = I c j := fun c j h => gs_ne eJ6 h rfl
      have hpnJ6 := sH_in2 ht110 hA6
      have hFt := hFt.trs (fun c j h1 _ => hfJ6 c j h1)
      have hRd : cRd rd tc a T J6 R tp n (pl + 1) := hRd.mv (fun c j h1 _ => hfJ6 c j h1) ((gs_same eJ6).trans (nI_add _ 1)) (by omega)
      have hSr : cSr a J6 cs pd := hSr.k (fun c j g1 g2 => hfJ6 c j (by omega))
      refine lv_istore_n (lv' := [(1, .int (nI (pAm tA (sH tp n pl)))), (0, .ref rd)]) X.1 X.2.1 dX5_readTest_6 rfl hl (by decide) rfl (fun ls hl => ?_)
      refine lv_iload_n X.1 X.2.1 dX5_readTest_7 rfl (lv_at hl 0 rfl) ?_
      refine lv_if_ge (tgt := 13) X.1 X.2.1 dX5_readTest_8 (by decide) (fun c8 => ?_) (fun c8 => ?_)
      · have n8 : 0 ≤ (pAm tA (sH tp n pl)) := gq_le c8 (show (0 : Int32) = nI 0 from rfl) (Eq.refl (nI (pAm tA (sH tp n pl)))) (by omega) (by omega)
        refine lv_aload_n X.1 X.2.1 dX5_readTest_13 rfl (lv_at hl 1 rfl) ?_
        refine va_ldcS X.1 X.2.1 X.2.2.2.1 (vk_R.warm hC.1 hR112) dX5_readTest_14 ?_
        refine g_run_i (f := fun u => u) (g_runV (k := 7) [.ref s112] X hK hP hS hC hB (o_oneOf_n hRd hs112 h2 ht112 hC3) (cwV 1 X.2.2.2.2 gX5_readTest_X5_oneOf rfl rfl rfl (by decide +kernel) ⟨Nat.le_of_ble_eq_true rfl, Nat.le_of_ble_eq_true rfl⟩) hRd.1.1 rfl rfl hl.1 rfl (Nat.le_of_ble_eq_true rfl) dX5_readTest_16 (by exact ⟨Nat.zero_le _, Nat.zero_le _⟩)) hS (fun r u H locs hq hP hS => ?_)
        obtain ⟨rfl, rfl⟩ := hq
        have hP : gP D cy B z T J6 R H := hP
        refine lv_istore_n (lv' := [(2, .int (-1)), (1, .int (nI (pAm tA (sH tp n pl)))), (0, .ref rd)]) X.1 X.2.1 dX5_readTest_19 rfl hl (by decide) rfl (fun ls hl => ?_)
        refine lv_iload_n X.1 X.2.1 dX5_readTest_20 rfl (lv_at hl 0 rfl) ?_
        refine lv_if_ge (tgt := 26) X.1 X.2.1 dX5_readTest_21 (by decide) (fun c21 => ?_) (fun c21 => ?_)
        · exact absurd c21 (by decide)
        · refine lv_iconst (v := 0) X.1 X.2.1 dX5_readTest_24 (by decide) ?_
          exact g_zret (f := fun u => u) (z, T, J6, R) X hr hlk hK hP hS dX5_readTest_25 rfl ⟨J6, (pl + 1), rfl, hFt, hRd.2.2.2.1, Or.inr ⟨rfl, _, (pAtom_c hA6 hC3)⟩⟩
      · exact absurd (nI_ge0 (by omega)) c8
  · refine lv_aload_n X.1 X.2.1 dX5_readTest_0 rfl (lv_at hl 0 rfl) ?_
    refine va_ldcS X.1 X.2.1 X.2.2.2.1 (vk_R.warm hC.1 hR110) dX5_readTest_1 ?_
    refine g_run_i (f := fun u => u) (g_runV (k := 7) [.ref s110] X hK hP hS hC hB (o_oneOf_n hRd hs110 h2 ht110 hA6) (cwV 1 X.2.2.2.2 gX5_readTest_X5_oneOf rfl rfl rfl (by decide +kernel) ⟨Nat.le_of_ble_eq_true rfl, Nat.le_of_ble_eq_true rfl⟩) hRd.1.1 rfl rfl hl.1 rfl (Nat.le_of_ble_eq_true rfl) dX5_readTest_3 (by exact ⟨Nat.zero_le _, Nat.zero_le _⟩)) hS (fun r u H locs hq hP hS => ?_)
    obtain ⟨rfl, rfl⟩ := hq
    have hP : gP D cy B z T I R H := hP
    refine lv_istore_n (lv' := [(1, .int (-1)), (0, .ref rd)]) X.1 X.2.1 dX5_readTest_6 rfl hl (by decide) rfl (fun ls hl => ?_)
    refine lv_iload_n X.1 X.2.1 dX5_readTest_7 rfl (lv_at hl 0 rfl) ?_
    refine lv_if_ge (tgt := 13) X.1 X.2.1 dX5_readTest_8 (by decide) (fun c8 => ?_) (fun c8 => ?_)
    · exact absurd c8 (by decide)
    · refine lv_iconst (v := 0) X.1 X.2.1 dX5_readTest_11 (by decide) ?_
      exact g_zret (f := fun u => u) (z, T, I, R) X hr hlk hK hP hS dX5_readTest_12 rfl ⟨I, pl, rfl, hFt, hRd.2.2.2.1, Or.inr ⟨rfl, _, (pAtom_a hA6)⟩⟩

end QB