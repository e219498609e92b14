section QC
variable {l : Launch} {s0 : State} {D : va_G} {cy : Nat → ClassId} {B z : Nat} {T : Nat → Nat × Nat} {I : Nat → Nat → Int32} {R : Nat → Nat → Option Nat} {rd tc a : Nat} {tp : Nat → Nat} {n pl : Nat} {cs : Cls} {pd : List Nat}
def pEk (k t : Nat) (s : PS) : PS := if k = 0 then s else pEm t s
theorem pEk_0 {k t : Nat} {s : PS} (h : k = 0) : pEk k t s = s := if_pos h
theorem pEk_s {k t : Nat} {s : PS} (h : ¬ k = 0) : pEk k t s = pEm t s := if_neg h
theorem pEk_t {k t i : Nat} {L : List Nat} : pEk k t (true, i, L) = (true, i, L) := by unfold pEk; split <;> rfl
theorem pFac_at0 {i : Nat} {L : List Nat} : pFac tp n 0 (false, i, L) = pAtom tp n (false, i, L) := by
  by_cases h : sH tp n i = 33 ∨ sH tp n i = 40
  · rw [pFac_0 h, pAtom_a]
    rcases h with h | h <;> (rw [h]; decide)
  · exact pFac_a (fun g => h (Or.inl g)) (fun g => h (Or.inr g)) 0
theorem fl1 {t : Nat} : (flC cs ++ (pd ++ [t])).length = (flC cs ++ pd).length + 1 := by simp only [List.length_append, List.length_cons, List.length_nil]; omega
set_option maxHeartbeats 4000000 in
set_option maxRecDepth 100000 in
/-- o_part_0 -/
theorem o_part_0 (hRd : cRd rd tc a T I R tp n pl) (hstr : gStr s0 B) (hSr : cSr a I cs pd) (hLp : (flC cs ++ pd).length ≤ pl) (hp2 : 2 ≤ pl) : Met l yX5_readPart wsX5_readPart ({ frames := 7, cells := 0, slots := 0, locals := 158 }) (va_Pc [.ref rd, .int 5] (gW0 s0 D cy B (z, T, I, R))) (va_Qi (fun r u => ∃ I' p', u = (z, T, I', R) ∧ rFr rd a I I' ∧ I' rd 0 = nI p' ∧ ((r = 1 ∧ ∃ pd', pFac tp n 0 (false, pl, flC cs ++ pd) = (false, p', flC cs ++ pd') ∧ cSr a I' cs pd') ∨ (r = 0 ∧ ∃ L', pFac tp n 0 (false, pl, flC cs ++ pd) = (true, p', L')))) (fun u t => gW1 D cy B u t) (gA B)) 0 0 (gA B) := by
  refine g_met (maxL := 2) (ret := (some .boolean)) (by decide) rfl (Nat.le_of_ble_eq_true rfl) (fun p e s m args below meth c ls X hr hlk hnm hK hP hC hS hl => ?_)
  have hl : lv_has ls 2 [(0, .ref rd), (1, .int 5)] := hl
  have hP : gP D cy B z T I R s.heap := hP
  have hB : B ≤ s.heap.size := by rw [hP.1]; exact hP.2.1
  have k31 : Cond.fieldLink RX5 31 "BarrowPlank$SiteReader" "draft" "LBarrowPlank$Site;" ∈ wsX5_readPart := by decide +kernel
  have hn100 := hRd.2.2.1.1
  have hpn := hRd.2.2.1.2.1
  have htp := hRd.2.2.1.2.2
  have hrda := hRd.2.1.1
  have htca := hRd.2.1.2.1
  have hrdt := hRd.2.1.2.2
  have h2 : gSt2 s0 B := hstr.1
  obtain ⟨s101, q101, hR101, hs101, ht101⟩ := hstr.at 12 rfl
  have hs101 : gSo s0 B [33] s101 q101 := hs101
  have ht101 : gTx [33] := ht101
  obtain ⟨s103, q103, hR103, hs103, ht103⟩ := hstr.at 13 rfl
  have hs103 : gSo s0 B [40] s103 q103 := hs103
  have ht103 : gTx [40] := ht103
  obtain ⟨s105, q105, hR105, hs105, ht105⟩ := hstr.at 14 rfl
  have hs105 : gSo s0 B [41] s105 q105 := hs105
  have ht105 : gTx [41] := ht105
  have hFt : rFr rd a I I := rFr.rf
  have hco := co_le (cs := cs) (pd := pd)
  refine lv_iload_n X.1 X.2.1 dX5_readPart_0 rfl (lv_at hl 1 rfl) ?_
  refine lv_iconst (v := 5) X.1 X.2.1 dX5_readPart_1 (by decide) ?_
  refine lv_icmp_ge (tgt := 36) X.1 X.2.1 dX5_readPart_2 (by decide) (fun c2 => ?_) (fun c2 => ?_)
  · have n2 : 5 ≤ 5 := gq_le c2 (show (5 : Int32) = nI 5 from rfl) (show (5 : Int32) = nI 5 from rfl) (by omega) (by omega)
    refine lv_iload_n X.1 X.2.1 dX5_readPart_36 rfl (lv_at hl 1 rfl) ?_
    refine lv_iconst (v := 5) X.1 X.2.1 dX5_readPart_37 (by decide) ?_
    refine lv_icmp_ge (tgt := 75) X.1 X.2.1 dX5_readPart_38 (by decide) (fun c38 => ?_) (fun c38 => ?_)
    · have n38 : 5 ≤ 5 := gq_le c38 (show (5 : Int32) = nI 5 from rfl) (show (5 : Int32) = nI 5 from rfl) (by omega) (by omega)
      refine lv_aload_n X.1 X.2.1 dX5_readPart_75 rfl (lv_at hl 0 rfl) ?_
      refine g_run_i (f := fun u => u) (g_runV (k := 7) [] X hK hP hS hC hB (o_test hRd hstr hSr (by omega)) (cwV 0 X.2.2.2.2 gX5_readPart_X5_readTest rfl rfl rfl (by decide +kernel) ⟨Nat.le_of_ble_eq_true rfl, Nat.le_of_ble_eq_true rfl⟩) hRd.1.1 rfl rfl hl.1 rfl (Nat.le_of_ble_eq_true rfl) dX5_readPart_76 (by exact ⟨Nat.zero_le _, Nat.zero_le _⟩)) hS (fun r u H locs hq hP hS => ?_)
      obtain ⟨IN1, pN1, rfl, hfN1, hpN1, hq⟩ := hq
      have hP : gP D cy B z T IN1 R H := hP
      have hwN1 := pW_atom (tp := tp) (n := n) (false, pl, flC cs ++ pd) (by show pl ≤ n; omega)
      rcases hq with ⟨rfl, pdN1, hEN1, hSN1⟩ | ⟨rfl, LN1, hEN1⟩
      · rw [hEN1] at hwN1
        have hwN1 : pl ≤ pN1 ∧ pN1 ≤ n ∧ (flC cs ++ pdN1).length + pl ≤ pN1 + (flC cs ++ pd).length := hwN1
        have hcoN1 := co_le (cs := cs) (pd := pdN1)
        have hFt := hFt.trs hfN1
        have hRd : cRd rd tc a T IN1 R tp n pN1 := hRd.mv hfN1 hpN1 hwN1.2.1
        have hSr : cSr a IN1 cs pdN1 := hSN1
        exact g_zret (f := fun u => u) (z, T, IN1, R) X hr hlk hK hP hS dX5_readPart_79 rfl ⟨IN1, pN1, rfl, hFt, hRd.2.2.2.1, Or.inl ⟨rfl, _, (pFac_at0.trans hEN1), hSr⟩⟩
      · rw [hEN1] at hwN1
        have hwN1 : pl ≤ pN1 ∧ pN1 ≤ n := ⟨hwN1.1, hwN1.2.1⟩
        have hFt := hFt.trs hfN1
        exact g_zret (f := fun u => u) (z, T, IN1, R) X hr hlk hK hP hS dX5_readPart_79 rfl ⟨IN1, pN1, rfl, hFt, hpN1, Or.inr ⟨rfl, LN1, (pFac_at0.trans hEN1)⟩⟩
    · exact absurd (Int32.le_refl _) c38
  · exact absurd (Int32.le_refl _) c2

set_option maxHeartbeats 4000000 in
set_option maxRecDepth 100000 in
/-- o_either_0 -/
theorem o_either_0 (hRd : cRd rd tc a T I R tp n pl) (hstr : gStr s0 B) (hSr : cSr a I cs pd) (hLp : (flC cs ++ pd).length ≤ pl) (hp2 : 2 ≤ pl) : Met l yX5_readEither wsX5_readEither ({ frames := 8, cells := 0, slots := 0, locals := 179 }) (va_Pc [.ref rd, .int 5] (gW0 s0 D cy B (z, T, I, R))) (va_Qi (fun r u => ∃ I' p', u = (z, T, I', R) ∧ rFr rd a I I' ∧ I' rd 0 = nI p' ∧ ((r = 1 ∧ ∃ pd', pSome tp n (pFac tp n 0) (false, pl, flC cs ++ pd) = (false, p', flC cs ++ pd') ∧ cSr a I' cs pd') ∨ (r = 0 ∧ ∃ L', pSome tp n (pFac tp n 0) (false, pl, flC cs ++ pd) = (true, p', L')))) (fun u t => gW1 D cy B u t) (gA B)) 0 0 (gA B) := by
  refine g_met (maxL := 4) (ret := (some .boolean)) (by decide) rfl (Nat.le_of_ble_eq_true rfl) (fun p e s m args below meth c ls X hr hlk hnm hK hP hC hS hl => ?_)
  have hl : lv_has ls 4 [(0, .ref rd), (1, .int 5)] := hl
  have hP : gP D cy B z T I R s.heap := hP
  have hB : B ≤ s.heap.size := by rw [hP.1]; exact hP.2.1
  have hinRX5 : ∀ w ∈ wsX50, w ∈ wsX5_readEither := fun _ h => List.mem_cons_of_mem _ (List.mem_append_left _ (List.mem_append_right _ h))
  have k31 : Cond.fieldLink RX5 31 "BarrowPlank$SiteReader" "draft" "LBarrowPlank$Site;" ∈ wsX5_readEither := by decide +kernel
  have hn100 := hRd.2.2.1.1
  have hpn := hRd.2.2.1.2.1
  have htp := hRd.2.2.1.2.2
  have hrda := hRd.2.1.1
  have htca := hRd.2.1.2.1
  have hrdt := hRd.2.1.2.2
  have h2 : gSt2 s0 B := hstr.1
  obtain ⟨s97, q97, hR97, hs97, ht97⟩ := hstr.at 20 rfl
  have hs97 : gSo s0 B [38] s97 q97 := hs97
  have ht97 : gTx [38] := ht97
  obtain ⟨s99, q99, hR99, hs99, ht99⟩ := hstr.at 21 rfl
  have hs99 : gSo s0 B [124] s99 q99 := hs99
  have ht99 : gTx [124] := ht99
  have hFt : rFr rd a I I := rFr.rf
  refine lv_iconst (v := 0) X.1 X.2.1 dX5_readEither_0 (by decide) ?_
  refine lv_istore_n (lv' := [(2, .int 0), (0, .ref rd), (1, .int 5)]) X.1 X.2.1 dX5_readEither_1 rfl hl (by decide) rfl (fun ls hl => ?_)
  refine i_loop (I := I) 100 2 [] (fun k Q9 ls => (∃ pk pdk, rFr rd a I Q9 ∧ cRd rd tc a T Q9 R tp n pk ∧ cSr a Q9 cs pdk ∧ ((flC cs ++ pdk).length + min k 1 ≤ pk ∧ 2 + k ≤ pk) ∧ pSome tp n (pFac tp n 0) (false, pl, flC cs ++ pd) = pLoop tp n 124 10002 (pEvery tp n (pFac tp n 0)) (101 - k) (pEk k 10002 (pEvery tp n (pFac tp n 0) (false, pk, flC cs ++ pdk)))) ∧ lv_has ls 4 [(0, .ref rd), (1, .int 5), (2, .int (nI k))]) 0 (by omega) ⟨⟨pl, pd, rFr.rf, hRd, hSr, ⟨by omega, by omega⟩, (by rw [pEk_0 rfl]; rfl)⟩, lv_sub hl [1, 2, 0] rfl⟩ hP hS (fun k Q9 H locs ls hk hiv hP hS ih => ?_)
  obtain ⟨⟨pk, pdk, hFt, hRd, hSr, ⟨hLk, hpk⟩, hSo⟩, hl⟩ := hiv
  have hpkn := hRd.2.2.1.2.1
  refine lv_iconst (v := 0) X.1 X.2.1 dX5_readEither_2 (by decide) ?_
  refine lv_istore_n (lv' := [(3, .int 0), (0, .ref rd), (1, .int 5), (2, .int (nI k))]) X.1 X.2.1 dX5_readEither_3 rfl hl (by decide) rfl (fun ls hl => ?_)
  refine i_loop (I := Q9) 100 4 [] (fun j Q8 ls => (∃ pj pdj, rFr rd a I Q8 ∧ cRd rd tc a T Q8 R tp n pj ∧ cSr a Q8 cs pdj ∧ ((flC cs ++ pdj).length + min k 1 + min j 1 ≤ pj ∧ 2 + k + j ≤ pj) ∧ pEvery tp n (pFac tp n 0) (false, pk, flC cs ++ pdk) = pLoop tp n 38 10001 (pFac tp n 0) (101 - j) (pEk j 10001 ((pFac tp n 0) (false, pj, flC cs ++ pdj)))) ∧ lv_has ls 4 [(0, .ref rd), (1, .int 5), (2, .int (nI k)), (3, .int (nI j))]) 0 (by omega) ⟨⟨pk, pdk, hFt, hRd, hSr, ⟨by omega, by omega⟩, (by rw [pEk_0 rfl]; rfl)⟩, lv_sub hl [1, 2, 3, 0] rfl⟩ hP hS (fun j Q8 H locs ls hj hij hP hS ih2 => ?_)
  obtain ⟨⟨pj, pdj, hFt, hRd, hSr, ⟨hLj, hpj⟩, hEv⟩, hl⟩ := hij
  have hpjn := hRd.2.2.1.2.1
  refine lv_aload_n X.1 X.2.1 dX5_readEither_4 rfl (lv_at hl 0 rfl) ?_
  refine lv_iload_n X.1 X.2.1 dX5_readEither_5 rfl (lv_at hl 1 rfl) ?_
  refine g_run_i (f := fun u => u) (g_runV (k := 7) [.int 5] X hK hP hS hC hB (o_part_0 hRd hstr hSr (by omega) (by omega)) (cwV 1 X.2.2.2.2 gX5_readEither_X5_readPart rfl rfl rfl (by decide +kernel) ⟨Nat.le_of_ble_eq_true rfl, Nat.le_of_ble_eq_true rfl⟩) hRd.1.1 rfl rfl hl.1 rfl (Nat.le_of_ble_eq_true rfl) dX5_readEither_6 (by exact ⟨Nat.zero_le _, Nat.zero_le _⟩)) hS (fun r u H locs hq hP hS => ?_)
  obtain ⟨IN1, pN1, rfl, hfN1, hpN1, hq⟩ := hq
  have hP : gP D cy B z T IN1 R H := hP
  have hwN1 := (pW_fac (tp := tp) (n := n) 0) (false, pj, flC cs ++ pdj) (by show pj ≤ n; omega)
  rcases hq with ⟨rfl, pdN1, hEN1, hSN1⟩ | ⟨rfl, LN1, hEN1⟩
  · rw [hEN1] at hwN1
    have hwN1 : pj ≤ pN1 ∧ pN1 ≤ n ∧ (flC cs ++ pdN1).length + pj ≤ pN1 + (flC cs ++ pdj).length := hwN1
    have hcoN1 := co_le (cs := cs) (pd := pdN1)
    have hFt := hFt.trs hfN1
    have hRd : cRd rd tc a T IN1 R tp n pN1 := hRd.mv hfN1 hpN1 hwN1.2.1
    have hSr : cSr a IN1 cs pdN1 := hSN1
    refine lv_if_ne (tgt := 14) X.1 X.2.1 dX5_readEither_9 (by decide) (fun c9 => ?_) (fun c9 => ?_)
    · have n9 : ¬ 1 = 0 := gq_ne c9 (show (1 : Int32) = nI 1 from rfl) (show (0 : Int32) = nI 0 from rfl) (by omega) (by omega)
      refine lv_iload_n X.1 X.2.1 dX5_readEither_14 rfl (lv_at hl 3 rfl) ?_
      refine lv_if_le (tgt := 27) X.1 X.2.1 dX5_readEither_15 (by decide) (fun c15 => ?_) (fun c15 => ?_)
      · have n15 : j ≤ 0 := gq_le c15 (Eq.refl (nI j)) (show (0 : Int32) = nI 0 from rfl) (by omega) (by omega)
        refine lv_iinc (v := nI (j + 1)) (lv' := [(3, .int (nI (j + 1))), (0, .ref rd), (1, .int 5), (2, .int (nI k))]) X.1 X.2.1 dX5_readEither_27 hl (k := 3) rfl (gn_inc (Eq.refl (nI j)) 1) (by decide) rfl (fun ls hl => ?_)
        refine lv_iload_n X.1 X.2.1 dX5_readEither_30 rfl (lv_at hl 0 rfl) ?_
        refine lv_bipush (v := 100) X.1 X.2.1 dX5_readEither_31 (by decide) ?_
        refine lv_icmp_ge (tgt := 45) X.1 X.2.1 dX5_readEither_33 (by decide) (fun c33 => ?_) (fun c33 => ?_)
        · exact absurd (gq_le c33 (show (100 : Int32) = nI 100 from rfl) (Eq.refl (nI (j + 1))) (by omega) (by omega)) (by omega)
        · have n33 : (j + 1) < 100 := gq_nle c33 (show (100 : Int32) = nI 100 from rfl) (Eq.refl (nI (j + 1))) (by omega) (by omega)
          refine lv_aload_n X.1 X.2.1 dX5_readEither_36 rfl (lv_at hl 1 rfl) ?_
          refine va_ldcS X.1 X.2.1 X.2.2.2.1 (vk_R.warm hC.1 hR97) dX5_readEither_37 ?_
          have hX : pEk j 10001 ((pFac tp n 0) (false, pj, flC cs ++ pdj)) = (false, pN1, flC cs ++ pdN1) := (pEk_0 (by omega)).trans hEN1
          have hEv2 : pEvery tp n (pFac tp n 0) (false, pk, flC cs ++ pdk) = pLoop tp n 38 10001 (pFac tp n 0) (101 - j) (false, pN1, flC cs ++ pdN1) := by rw [hEv, hX]
          by_cases h38 : sH tp n pN1 = 38
          · refine g_run_i (f := fun u => u) (g_runV (k := 7) [.ref s97] X hK hP hS hC hB (o_reads_y hRd hs97 h2 ht97 h38) (cwV 1 X.2.2.2.2 gX5_readEither_X5_reads rfl rfl rfl (by decide +kernel) ⟨Nat.le_of_ble_eq_true rfl, Nat.le_of_ble_eq_true rfl⟩) hRd.1.1 rfl rfl hl.1 rfl (Nat.le_of_ble_eq_true rfl) dX5_readEither_39 (by exact ⟨Nat.zero_le _, Nat.zero_le _⟩)) hS (fun r u H locs hq hP hS => ?_)
            obtain ⟨rfl, rfl⟩ := hq
            generalize eJ2 : g2 IN1 rd 0 (nI pN1 + 1) = J2 at hP
            have hP : gP D cy B z T J2 R H := hP
            have hfJ2 : ∀ c j, ¬ (c = rd ∧ j = 0) → J2 c j = IN1 c j := fun c j h => gs_ne eJ2 h rfl
            have hpnJ2 := sH_in h38 (by decide)
            have hFt := hFt.trs (fun c j h1 _ => hfJ2 c j h1)
            have hRd : cRd rd tc a T J2 R tp n (pN1 + 1) := hRd.mv (fun c j h1 _ => hfJ2 c j h1) ((gs_same eJ2).trans (nI_add _ 1)) (by omega)
            have hSr : cSr a J2 cs pdN1 := hSr.k (fun c j g1 g2 => hfJ2 c j (by omega))
            refine lv_if_ne (tgt := 4) X.1 X.2.1 dX5_readEither_42 (by decide) (fun c42 => ?_) (fun c42 => ?_)
            · have n42 : ¬ 1 = 0 := gq_ne c42 (show (1 : Int32) = nI 1 from rfl) (show (0 : Int32) = nI 0 from rfl) (by omega) (by omega)
              exact ih2 _ _ _ _ (by omega) ⟨⟨(pN1 + 1), pdN1, hFt, hRd, hSr, ⟨by omega, by omega⟩, hEv2.trans ((pLoop_go (by omega) ⟨rfl, h38⟩).trans (by rw [pEk_s (by omega)]))⟩, lv_sub hl [1, 2, 3, 0] rfl⟩ hP hS
            · exact absurd c42 (by decide)
          · have hEv3 : pEvery tp n (pFac tp n 0) (false, pk, flC cs ++ pdk) = (false, pN1, flC cs ++ pdN1) := hEv2.trans (pLoop_stop (fun h => h38 h.2))
            have hco9 := co_le (cs := cs) (pd := pdN1)
            refine g_run_i (f := fun u => u) (g_runV (k := 7) [.ref s97] X hK hP hS hC hB (o_reads_n hRd hs97 h2 ht97 h38) (cwV 1 X.2.2.2.2 gX5_readEither_X5_reads rfl rfl rfl (by decide +kernel) ⟨Nat.le_of_ble_eq_true rfl, Nat.le_of_ble_eq_true rfl⟩) hRd.1.1 rfl rfl hl.1 rfl (Nat.le_of_ble_eq_true rfl) dX5_readEither_39 (by exact ⟨Nat.zero_le _, Nat.zero_le _⟩)) hS (fun r u H locs hq hP hS => ?_)
            obtain ⟨rfl, rfl⟩ := hq
            have hP : gP D cy B z T IN1 R H := hP
            refine lv_if_ne (tgt := 4) X.1 X.2.1 dX5_readEither_42 (by decide) (fun c42 => ?_) (fun c42 => ?_)
            · exact absurd rfl c42
            · have n42 : 0 = 0 := gq_eq c42 (show (0 : Int32) = nI 0 from rfl) (show (0 : Int32) = nI 0 from rfl) (by omega) (by omega)
              refine lv_iload_n X.1 X.2.1 dX5_readEither_45 rfl (lv_at hl 3 rfl) ?_
              refine lv_if_le (tgt := 58) X.1 X.2.1 dX5_readEither_46 (by decide) (fun c46 => ?_) (fun c46 => ?_)
              · have n46 : k ≤ 0 := gq_le c46 (Eq.refl (nI k)) (show (0 : Int32) = nI 0 from rfl) (by omega) (by omega)
                refine lv_iinc (v := nI (k + 1)) (lv' := [(2, .int (nI (k + 1))), (3, .int (nI (j + 1))), (0, .ref rd), (1, .int 5)]) X.1 X.2.1 dX5_readEither_58 hl (k := 3) rfl (gn_inc (Eq.refl (nI k)) 1) (by decide) rfl (fun ls hl => ?_)
                refine lv_iload_n X.1 X.2.1 dX5_readEither_61 rfl (lv_at hl 0 rfl) ?_
                refine lv_bipush (v := 100) X.1 X.2.1 dX5_readEither_62 (by decide) ?_
                refine lv_icmp_ge (tgt := 76) X.1 X.2.1 dX5_readEither_64 (by decide) (fun c64 => ?_) (fun c64 => ?_)
                · exact absurd (gq_le c64 (show (100 : Int32) = nI 100 from rfl) (Eq.refl (nI (k + 1))) (by omega) (by omega)) (by omega)
                · have n64 : (k + 1) < 100 := gq_nle c64 (show (100 : Int32) = nI 100 from rfl) (Eq.refl (nI (k + 1))) (by omega) (by omega)
                  refine lv_aload_n X.1 X.2.1 dX5_readEither_67 rfl (lv_at hl 2 rfl) ?_
                  refine va_ldcS X.1 X.2.1 X.2.2.2.1 (vk_R.warm hC.1 hR99) dX5_readEither_68 ?_
                  have hY : pEk k 10002 (pEvery tp n (pFac tp n 0) (false, pk, flC cs ++ pdk)) = (false, pN1, flC cs ++ pdN1) := (pEk_0 (by omega)).trans hEv3
                  have hSo2 : pSome tp n (pFac tp n 0) (false, pl, flC cs ++ pd) = pLoop tp n 124 10002 (pEvery tp n (pFac tp n 0)) (101 - k) (false, pN1, flC cs ++ pdN1) := by rw [hSo, hY]
                  by_cases h124 : sH tp n pN1 = 124
                  · refine g_run_i (f := fun u => u) (g_runV (k := 7) [.ref s99] X hK hP hS hC hB (o_reads_y hRd hs99 h2 ht99 h124) (cwV 1 X.2.2.2.2 gX5_readEither_X5_reads rfl rfl rfl (by decide +kernel) ⟨Nat.le_of_ble_eq_true rfl, Nat.le_of_ble_eq_true rfl⟩) hRd.1.1 rfl rfl hl.1 rfl (Nat.le_of_ble_eq_true rfl) dX5_readEither_70 (by exact ⟨Nat.zero_le _, Nat.zero_le _⟩)) hS (fun r u H locs hq hP hS => ?_)
                    obtain ⟨rfl, rfl⟩ := hq
                    generalize eJ3 : g2 IN1 rd 0 (nI pN1 + 1) = J3 at hP
                    have hP : gP D cy B z T J3 R H := hP
                    have hfJ3 : ∀ c j, ¬ (c = rd ∧ j = 0) → J3 c j = IN1 c j := fun c j h => gs_ne eJ3 h rfl
                    have hpnJ3 := sH_in h124 (by decide)
                    have hFt := hFt.trs (fun c j h1 _ => hfJ3 c j h1)
                    have hRd : cRd rd tc a T J3 R tp n (pN1 + 1) := hRd.mv (fun c j h1 _ => hfJ3 c j h1) ((gs_same eJ3).trans (nI_add _ 1)) (by omega)
                    have hSr : cSr a J3 cs pdN1 := hSr.k (fun c j g1 g2 => hfJ3 c j (by omega))
                    refine lv_if_ne (tgt := 2) X.1 X.2.1 dX5_readEither_73 (by decide) (fun c73 => ?_) (fun c73 => ?_)
                    · have n73 : ¬ 1 = 0 := gq_ne c73 (show (1 : Int32) = nI 1 from rfl) (show (0 : Int32) = nI 0 from rfl) (by omega) (by omega)
                      exact ih _ _ _ _ (by omega) ⟨⟨(pN1 + 1), pdN1, hFt, hRd, hSr, ⟨by omega, by omega⟩, hSo2.trans ((pLoop_go (by omega) ⟨rfl, h124⟩).trans (by rw [pEk_s (by omega)]))⟩, lv_sub hl [2, 3, 0] rfl⟩ hP hS
                    · exact absurd c73 (by decide)
                  · refine g_run_i (f := fun u => u) (g_runV (k := 7) [.ref s99] X hK hP hS hC hB (o_reads_n hRd hs99 h2 ht99 h124) (cwV 1 X.2.2.2.2 gX5_readEither_X5_reads rfl rfl rfl (by decide +kernel) ⟨Nat.le_of_ble_eq_true rfl, Nat.le_of_ble_eq_true rfl⟩) hRd.1.1 rfl rfl hl.1 rfl (Nat.le_of_ble_eq_true rfl) dX5_readEither_70 (by exact ⟨Nat.zero_le _, Nat.zero_le _⟩)) hS (fun r u H locs hq hP hS => ?_)
                    obtain ⟨rfl, rfl⟩ := hq
                    have hP : gP D cy B z T IN1 R H := hP
                    refine lv_if_ne (tgt := 2) X.1 X.2.1 dX5_readEither_73 (by decide) (fun c73 => ?_) (fun c73 => ?_)
                    · exact absurd rfl c73
                    · have n73 : 0 = 0 := gq_eq c73 (show (0 : Int32) = nI 0 from rfl) (show (0 : Int32) = nI 0 from rfl) (by omega) (by omega)
                      refine lv_iconst (v := 1) X.1 X.2.1 dX5_readEither_76 (by decide) ?_
                      exact g_zret (f := fun u => u) (z, T, IN1, R) X hr hlk hK hP hS dX5_readEither_77 rfl ⟨IN1, pN1, rfl, hFt, hRd.2.2.2.1, Or.inl ⟨rfl, _, (hSo2.trans (pLoop_stop (fun h => h124 h.2))), hSr⟩⟩
              · have n46 : 0 < k := gq_nle c46 (Eq.refl (nI k)) (show (0 : Int32) = nI 0 from rfl) (by omega) (by omega)
                refine lv_aload_n X.1 X.2.1 dX5_readEither_49 rfl (lv_at hl 1 rfl) ?_
                refine g_getr 7 3 X hK hP hRd.1.1 rfl hinRX5 rfl (by decide) k31 (fun _ h => h) dX5_readEither_50 (show va_rf (R rd 3) = .ref a from by rw [hRd.1.2.2.1]; rfl) ?_
                refine lv_bipush (v := (-3)) X.1 X.2.1 dX5_readEither_53 (by decide) ?_
                refine g_run_v (f := fun u => u) (g_runV (k := 6) [.int (-3)] X hK hP hS hC hB (o_put hRd.1.2.2.2.2 hSr.2.2.2.1 (by omega)) (cwV 1 X.2.2.2.2 gX5_readEither_X4_put rfl rfl rfl (by decide +kernel) ⟨Nat.le_of_ble_eq_true rfl, Nat.le_of_ble_eq_true rfl⟩) hRd.1.2.2.2.2.1 rfl rfl hl.1 rfl (Nat.le_of_ble_eq_true rfl) dX5_readEither_55 (by exact ⟨Nat.zero_le _, Nat.zero_le _⟩)) hS (fun u H locs hq hP hS => ?_)
                subst hq
                generalize eJ4 : g2 IN1 (a + 4) ((coC cs ++ pdN1).length) (-3) = J4 at hP
                generalize eJ5 : g2 J4 a 7 (nI ((coC cs ++ pdN1).length) + 1) = J5 at hP
                have hP : gP D cy B z T J5 R H := hP
                have hFt := hFt.trs (fun c j h1 h2 => gs_ne eJ5 (by omega) (gs_ne eJ4 (by omega) rfl))
                have hRd : cRd rd tc a T J5 R tp n pN1 := hRd.mv (fun c j h1 h2 => gs_ne eJ5 (by omega) (gs_ne eJ4 (by omega) rfl)) (gs_ne eJ5 (by omega) (gs_ne eJ4 (by omega) hRd.2.2.2.1)) (by omega)
                have hSr : cSr a J5 cs (pdN1 ++ [10002]) := hSr.push (by omega) (by omega) rfl eJ4 eJ5
                have hflJ5 := fl1 (cs := cs) (pd := pdN1) (t := 10002)
                refine lv_iinc (v := nI (k + 1)) (lv' := [(2, .int (nI (k + 1))), (3, .int (nI (j + 1))), (0, .ref rd), (1, .int 5)]) X.1 X.2.1 dX5_readEither_58 hl (k := 3) rfl (gn_inc (Eq.refl (nI k)) 1) (by decide) rfl (fun ls hl => ?_)
                refine lv_iload_n X.1 X.2.1 dX5_readEither_61 rfl (lv_at hl 0 rfl) ?_
                refine lv_bipush (v := 100) X.1 X.2.1 dX5_readEither_62 (by decide) ?_
                refine lv_icmp_ge (tgt := 76) X.1 X.2.1 dX5_readEither_64 (by decide) (fun c64 => ?_) (fun c64 => ?_)
                · exact absurd (gq_le c64 (show (100 : Int32) = nI 100 from rfl) (Eq.refl (nI (k + 1))) (by omega) (by omega)) (by omega)
                · have n64 : (k + 1) < 100 := gq_nle c64 (show (100 : Int32) = nI 100 from rfl) (Eq.refl (nI (k + 1))) (by omega) (by omega)
                  refine lv_aload_n X.1 X.2.1 dX5_readEither_67 rfl (lv_at hl 2 rfl) ?_
                  refine va_ldcS X.1 X.2.1 X.2.2.2.1 (vk_R.warm hC.1 hR99) dX5_readEither_68 ?_
                  have hY : pEk k 10002 (pEvery tp n (pFac tp n 0) (false, pk, flC cs ++ pdk)) = (false, pN1, flC cs ++ (pdN1 ++ [10002])) := by rw [pEk_s (by omega), hEv3, pEm_f, List.append_assoc]
                  have hSo2 : pSome tp n (pFac tp n 0) (false, pl, flC cs ++ pd) = pLoop tp n 124 10002 (pEvery tp n (pFac tp n 0)) (101 - k) (false, pN1, flC cs ++ (pdN1 ++ [10002])) := by rw [hSo, hY]
                  by_cases h124 : sH tp n pN1 = 124
                  · refine g_run_i (f := fun u => u) (g_runV (k := 7) [.ref s99] X hK hP hS hC hB (o_reads_y hRd hs99 h2 ht99 h124) (cwV 1 X.2.2.2.2 gX5_readEither_X5_reads rfl rfl rfl (by decide +kernel) ⟨Nat.le_of_ble_eq_true rfl, Nat.le_of_ble_eq_true rfl⟩) hRd.1.1 rfl rfl hl.1 rfl (Nat.le_of_ble_eq_true rfl) dX5_readEither_70 (by exact ⟨Nat.zero_le _, Nat.zero_le _⟩)) hS (fun r u H locs hq hP hS => ?_)
                    obtain ⟨rfl, rfl⟩ := hq
                    generalize eJ6 : g2 J5 rd 0 (nI pN1 + 1) = J6 at hP
                    have hP : gP D cy B z T J6 R H := hP
                    have hfJ6 : ∀ c j, ¬ (c = rd ∧ j = 0) → J6 c j = J5 c j := fun c j h => gs_ne eJ6 h rfl
                    have hpnJ6 := sH_in h124 (by decide)
                    have hFt := hFt.trs (fun c j h1 _ => hfJ6 c j h1)
                    have hRd : cRd rd tc a T J6 R tp n (pN1 + 1) := hRd.mv (fun c j h1 _ => hfJ6 c j h1) ((gs_same eJ6).trans (nI_add _ 1)) (by omega)
                    have hSr : cSr a J6 cs (pdN1 ++ [10002]) := hSr.k (fun c j g1 g2 => hfJ6 c j (by omega))
                    refine lv_if_ne (tgt := 2) X.1 X.2.1 dX5_readEither_73 (by decide) (fun c73 => ?_) (fun c73 => ?_)
                    · have n73 : ¬ 1 = 0 := gq_ne c73 (show (1 : Int32) = nI 1 from rfl) (show (0 : Int32) = nI 0 from rfl) (by omega) (by omega)
                      exact ih _ _ _ _ (by omega) ⟨⟨(pN1 + 1), (pdN1 ++ [10002]), hFt, hRd, hSr, ⟨by omega, by omega⟩, hSo2.trans ((pLoop_go (by omega) ⟨rfl, h124⟩).trans (by rw [pEk_s (by omega)]))⟩, lv_sub hl [2, 3, 0] rfl⟩ hP hS
                    · exact absurd c73 (by decide)
                  · refine g_run_i (f := fun u => u) (g_runV (k := 7) [.ref s99] X hK hP hS hC hB (o_reads_n hRd hs99 h2 ht99 h124) (cwV 1 X.2.2.2.2 gX5_readEither_X5_reads rfl rfl rfl (by decide +kernel) ⟨Nat.le_of_ble_eq_true rfl, Nat.le_of_ble_eq_true rfl⟩) hRd.1.1 rfl rfl hl.1 rfl (Nat.le_of_ble_eq_true rfl) dX5_readEither_70 (by exact ⟨Nat.zero_le _, Nat.zero_le _⟩)) hS (fun r u H locs hq hP hS => ?_)
                    obtain ⟨rfl, rfl⟩ := hq
                    have hP : gP D cy B z T J5 R H := hP
                    refine lv_if_ne (tgt := 2) X.1 X.2.1 dX5_readEither_73 (by decide) (fun c73 => ?_) (fun c73 => ?_)
                    · exact absurd rfl c73
                    · have n73 : 0 = 0 := gq_eq c73 (show (0 : Int32) = nI 0 from rfl) (show (0 : Int32) = nI 0 from rfl) (by omega) (by omega)
                      refine lv_iconst (v := 1) X.1 X.2.1 dX5_readEither_76 (by decide) ?_
                      exact g_zret (f := fun u => u) (z, T, J5, R) X hr hlk hK hP hS dX5_readEither_77 rfl ⟨J5, pN1, rfl, hFt, hRd.2.2.2.1, Or.inl ⟨rfl, _, (hSo2.trans (pLoop_stop (fun h => h124 h.2))), hSr⟩⟩
      · have n15 : 0 < j := gq_nle c15 (Eq.refl (nI j)) (show (0 : Int32) = nI 0 from rfl) (by omega) (by omega)
        refine lv_aload_n X.1 X.2.1 dX5_readEither_18 rfl (lv_at hl 0 rfl) ?_
        refine g_getr 7 3 X hK hP hRd.1.1 rfl hinRX5 rfl (by decide) k31 (fun _ h => h) dX5_readEither_19 (show va_rf (R rd 3) = .ref a from by rw [hRd.1.2.2.1]; rfl) ?_
        refine lv_bipush (v := (-2)) X.1 X.2.1 dX5_readEither_22 (by decide) ?_
        refine g_run_v (f := fun u => u) (g_runV (k := 6) [.int (-2)] X hK hP hS hC hB (o_put hRd.1.2.2.2.2 hSr.2.2.2.1 (by omega)) (cwV 1 X.2.2.2.2 gX5_readEither_X4_put rfl rfl rfl (by decide +kernel) ⟨Nat.le_of_ble_eq_true rfl, Nat.le_of_ble_eq_true rfl⟩) hRd.1.2.2.2.2.1 rfl rfl hl.1 rfl (Nat.le_of_ble_eq_true rfl) dX5_readEither_24 (by exact ⟨Nat.zero_le _, Nat.zero_le _⟩)) hS (fun u H locs hq hP hS => ?_)
        subst hq
        generalize eJ7 : g2 IN1 (a + 4) ((coC cs ++ pdN1).length) (-2) = J7 at hP
        generalize eJ8 : g2 J7 a 7 (nI ((coC cs ++ pdN1).length) + 1) = J8 at hP
        have hP : gP D cy B z T J8 R H := hP
        have hFt := hFt.trs (fun c j h1 h2 => gs_ne eJ8 (by omega) (gs_ne eJ7 (by omega) rfl))
        have hRd : cRd rd tc a T J8 R tp n pN1 := hRd.mv (fun c j h1 h2 => gs_ne eJ8 (by omega) (gs_ne eJ7 (by omega) rfl)) (gs_ne eJ8 (by omega) (gs_ne eJ7 (by omega) hRd.2.2.2.1)) (by omega)
        have hSr : cSr a J8 cs (pdN1 ++ [10001]) := hSr.push (by omega) (by omega) rfl eJ7 eJ8
        have hflJ8 := fl1 (cs := cs) (pd := pdN1) (t := 10001)
        refine lv_iinc (v := nI (j + 1)) (lv' := [(3, .int (nI (j + 1))), (0, .ref rd), (1, .int 5), (2, .int (nI k))]) X.1 X.2.1 dX5_readEither_27 hl (k := 3) rfl (gn_inc (Eq.refl (nI j)) 1) (by decide) rfl (fun ls hl => ?_)
        refine lv_iload_n X.1 X.2.1 dX5_readEither_30 rfl (lv_at hl 0 rfl) ?_
        refine lv_bipush (v := 100) X.1 X.2.1 dX5_readEither_31 (by decide) ?_
        refine lv_icmp_ge (tgt := 45) X.1 X.2.1 dX5_readEither_33 (by decide) (fun c33 => ?_) (fun c33 => ?_)
        · exact absurd (gq_le c33 (show (100 : Int32) = nI 100 from rfl) (Eq.refl (nI (j + 1))) (by omega) (by omega)) (by omega)
        · have n33 : (j + 1) < 100 := gq_nle c33 (show (100 : Int32) = nI 100 from rfl) (Eq.refl (nI (j + 1))) (by omega) (by omega)
          refine lv_aload_n X.1 X.2.1 dX5_readEither_36 rfl (lv_at hl 1 rfl) ?_
          refine va_ldcS X.1 X.2.1 X.2.2.2.1 (vk_R.warm hC.1 hR97) dX5_readEither_37 ?_
          have hX : pEk j 10001 ((pFac tp n 0) (false, pj, flC cs ++ pdj)) = (false, pN1, flC cs ++ (pdN1 ++ [10001])) := by rw [pEk_s (by omega), hEN1, pEm_f, List.append_assoc]
          have hEv2 : pEvery tp n (pFac tp n 0) (false, pk, flC cs ++ pdk) = pLoop tp n 38 10001 (pFac tp n 0) (101 - j) (false, pN1, flC cs ++ (pdN1 ++ [10001])) := by rw [hEv, hX]
          by_cases h38 : sH tp n pN1 = 38
          · refine g_run_i (f := fun u => u) (g_runV (k := 7) [.ref s97] X hK hP hS hC hB (o_reads_y hRd hs97 h2 ht97 h38) (cwV 1 X.2.2.2.2 gX5_readEither_X5_reads rfl rfl rfl (by decide +kernel) ⟨Nat.le_of_ble_eq_true rfl, Nat.le_of_ble_eq_true rfl⟩) hRd.1.1 rfl rfl hl.1 rfl (Nat.le_of_ble_eq_true rfl) dX5_readEither_39 (by exact ⟨Nat.zero_le _, Nat.zero_le _⟩)) hS (fun r u H locs hq hP hS => ?_)
            obtain ⟨rfl, rfl⟩ := hq
            generalize eJ9 : g2 J8 rd 0 (nI pN1 + 1) = J9 at hP
            have hP : gP D cy B z T J9 R H := hP
            have hfJ9 : ∀ c j, ¬ (c = rd ∧ j = 0) → J9 c j = J8 c j := fun c j h => gs_ne eJ9 h rfl
            have hpnJ9 := sH_in h38 (by decide)
            have hFt := hFt.trs (fun c j h1 _ => hfJ9 c j h1)
            have hRd : cRd rd tc a T J9 R tp n (pN1 + 1) := hRd.mv (fun c j h1 _ => hfJ9 c j h1) ((gs_same eJ9).trans (nI_add _ 1)) (by omega)
            have hSr : cSr a J9 cs (pdN1 ++ [10001]) := hSr.k (fun c j g1 g2 => hfJ9 c j (by omega))
            refine lv_if_ne (tgt := 4) X.1 X.2.1 dX5_readEither_42 (by decide) (fun c42 => ?_) (fun c42 => ?_)
            · have n42 : ¬ 1 = 0 := gq_ne c42 (show (1 : Int32) = nI 1 from rfl) (show (0 : Int32) = nI 0 from rfl) (by omega) (by omega)
              exact ih2 _ _ _ _ (by omega) ⟨⟨(pN1 + 1), (pdN1 ++ [10001]), hFt, hRd, hSr, ⟨by omega, by omega⟩, hEv2.trans ((pLoop_go (by omega) ⟨rfl, h38⟩).trans (by rw [pEk_s (by omega)]))⟩, lv_sub hl [1, 2, 3, 0] rfl⟩ hP hS
            · exact absurd c42 (by decide)
          · have hEv3 : pEvery tp n (pFac tp n 0) (false, pk, flC cs ++ pdk) = (false, pN1, flC cs ++ (pdN1 ++ [10001])) := hEv2.trans (pLoop_stop (fun h => h38 h.2))
            have hco9 := co_le (cs := cs) (pd := (pdN1 ++ [10001]))
            refine g_run_i (f := fun u => u) (g_runV (k := 7) [.ref s97] X hK hP hS hC hB (o_reads_n hRd hs97 h2 ht97 h38) (cwV 1 X.2.2.2.2 gX5_readEither_X5_reads rfl rfl rfl (by decide +kernel) ⟨Nat.le_of_ble_eq_true rfl, Nat.le_of_ble_eq_true rfl⟩) hRd.1.1 rfl rfl hl.1 rfl (Nat.le_of_ble_eq_true rfl) dX5_readEither_39 (by exact ⟨Nat.zero_le _, Nat.zero_le _⟩)) hS (fun r u H locs hq hP hS => ?_)
            obtain ⟨rfl, rfl⟩ := hq
            have hP : gP D cy B z T J8 R H := hP
            refine lv_if_ne (tgt := 4) X.1 X.2.1 dX5_readEither_42 (by decide) (fun c42 => ?_) (fun c42 => ?_)
            · exact absurd rfl c42
            · have n42 : 0 = 0 := gq_eq c42 (show (0 : Int32) = nI 0 from rfl) (show (0 : Int32) = nI 0 from rfl) (by omega) (by omega)
              refine lv_iload_n X.1 X.2.1 dX5_readEither_45 rfl (lv_at hl 3 rfl) ?_
              refine lv_if_le (tgt := 58) X.1 X.2.1 dX5_readEither_46 (by decide) (fun c46 => ?_) (fun c46 => ?_)
              · have n46 : k ≤ 0 := gq_le c46 (Eq.refl (nI k)) (show (0 : Int32) = nI 0 from rfl) (by omega) (by omega)
                refine lv_iinc (v := nI (k + 1)) (lv' := [(2, .int (nI (k + 1))), (3, .int (nI (j + 1))), (0, .ref rd), (1, .int 5)]) X.1 X.2.1 dX5_readEither_58 hl (k := 3) rfl (gn_inc (Eq.refl (nI k)) 1) (by decide) rfl (fun ls hl => ?_)
                refine lv_iload_n X.1 X.2.1 dX5_readEither_61 rfl (lv_at hl 0 rfl) ?_
                refine lv_bipush (v := 100) X.1 X.2.1 dX5_readEither_62 (by decide) ?_
                refine lv_icmp_ge (tgt := 76) X.1 X.2.1 dX5_readEither_64 (by decide) (fun c64 => ?_) (fun c64 => ?_)
                · exact absurd (gq_le c64 (show (100 : Int32) = nI 100 from rfl) (Eq.refl (nI (k + 1))) (by omega) (by omega)) (by omega)
                · have n64 : (k + 1) < 100 := gq_nle c64 (show (100 : Int32) = nI 100 from rfl) (Eq.refl (nI (k + 1))) (by omega) (by omega)
                  refine lv_aload_n X.1 X.2.1 dX5_readEither_67 rfl (lv_at hl 2 rfl) ?_
                  refine va_ldcS X.1 X.2.1 X.2.2.2.1 (vk_R.warm hC.1 hR99) dX5_readEither_68 ?_
                  have hY : pEk k 10002 (pEvery tp n (pFac tp n 0) (false, pk, flC cs ++ pdk)) = (false, pN1, flC cs ++ (pdN1 ++ [10001])) := (pEk_0 (by omega)).trans hEv3
                  have hSo2 : pSome tp n (pFac tp n 0) (false, pl, flC cs ++ pd) = pLoop tp n 124 10002 (pEvery tp n (pFac tp n 0)) (101 - k) (false, pN1, flC cs ++ (pdN1 ++ [10001])) := by rw [hSo, hY]
                  by_cases h124 : sH tp n pN1 = 124
                  · refine g_run_i (f := fun u => u) (g_runV (k := 7) [.ref s99] X hK hP hS hC hB (o_reads_y hRd hs99 h2 ht99 h124) (cwV 1 X.2.2.2.2 gX5_readEither_X5_reads rfl rfl rfl (by decide +kernel) ⟨Nat.le_of_ble_eq_true rfl, Nat.le_of_ble_eq_true rfl⟩) hRd.1.1 rfl rfl hl.1 rfl (Nat.le_of_ble_eq_true rfl) dX5_readEither_70 (by exact ⟨Nat.zero_le _, Nat.zero_le _⟩)) hS (fun r u H locs hq hP hS => ?_)
                    obtain ⟨rfl, rfl⟩ := hq
                    generalize eJ10 : g2 J8 rd 0 (nI pN1 + 1) = J10 at hP
                    have hP : gP D cy B z T J10 R H := hP
                    have hfJ10 : ∀ c j, ¬ (c = rd ∧ j = 0) → J10 c j = J8 c j := fun c j h => gs_ne eJ10 h rfl
                    have hpnJ10 := sH_in h124 (by decide)
                    have hFt := hFt.trs (fun c j h1 _ => hfJ10 c j h1)
                    have hRd : cRd rd tc a T J10 R tp n (pN1 + 1) := hRd.mv (fun c j h1 _ => hfJ10 c j h1) ((gs_same eJ10).trans (nI_add _ 1)) (by omega)
                    have hSr : cSr a J10 cs (pdN1 ++ [10001]) := hSr.k (fun c j g1 g2 => hfJ10 c j (by omega))
                    refine lv_if_ne (tgt := 2) X.1 X.2.1 dX5_readEither_73 (by decide) (fun c73 => ?_) (fun c73 => ?_)
                    · have n73 : ¬ 1 = 0 := gq_ne c73 (show (1 : Int32) = nI 1 from rfl) (show (0 : Int32) = nI 0 from rfl) (by omega) (by omega)
                      exact ih _ _ _ _ (by omega) ⟨⟨(pN1 + 1), (pdN1 ++ [10001]), hFt, hRd, hSr, ⟨by omega, by omega⟩, hSo2.trans ((pLoop_go (by omega) ⟨rfl, h124⟩).trans (by rw [pEk_s (by omega)]))⟩, lv_sub hl [2, 3, 0] rfl⟩ hP hS
                    · exact absurd c73 (by decide)
                  · refine g_run_i (f := fun u => u) (g_runV (k := 7) [.ref s99] X hK hP hS hC hB (o_reads_n hRd hs99 h2 ht99 h124) (cwV 1 X.2.2.2.2 gX5_readEither_X5_reads rfl rfl rfl (by decide +kernel) ⟨Nat.le_of_ble_eq_true rfl, Nat.le_of_ble_eq_true rfl⟩) hRd.1.1 rfl rfl hl.1 rfl (Nat.le_of_ble_eq_true rfl) dX5_readEither_70 (by exact ⟨Nat.zero_le _, Nat.zero_le _⟩)) hS (fun r u H locs hq hP hS => ?_)
                    obtain ⟨rfl, rfl⟩ := hq
                    have hP : gP D cy B z T J8 R H := hP
                    refine lv_if_ne (tgt := 2) X.1 X.2.1 dX5_readEither_73 (by decide) (fun c73 => ?_) (fun c73 => ?_)
                    · exact absurd rfl c73
                    · have n73 : 0 = 0 := gq_eq c73 (show (0 : Int32) = nI 0 from rfl) (show (0 : Int32) = nI 0 from rfl) (by omega) (by omega)
                      refine lv_iconst (v := 1) X.1 X.2.1 dX5_readEither_76 (by decide) ?_
                      exact g_zret (f := fun u => u) (z, T, J8, R) X hr hlk hK hP hS dX5_readEither_77 rfl ⟨J8, pN1, rfl, hFt, hRd.2.2.2.1, Or.inl ⟨rfl, _, (hSo2.trans (pLoop_stop (fun h => h124 h.2))), hSr⟩⟩
              · have n46 : 0 < k := gq_nle c46 (Eq.refl (nI k)) (show (0 : Int32) = nI 0 from rfl) (by omega) (by omega)
                refine lv_aload_n X.1 X.2.1 dX5_readEither_49 rfl (lv_at hl 1 rfl) ?_
                refine g_getr 7 3 X hK hP hRd.1.1 rfl hinRX5 rfl (by decide) k31 (fun _ h => h) dX5_readEither_50 (show va_rf (R rd 3) = .ref a from by rw [hRd.1.2.2.1]; rfl) ?_
                refine lv_bipush (v := (-3)) X.1 X.2.1 dX5_readEither_53 (by decide) ?_
                refine g_run_v (f := fun u => u) (g_runV (k := 6) [.int (-3)] X hK hP hS hC hB (o_put hRd.1.2.2.2.2 hSr.2.2.2.1 (by omega)) (cwV 1 X.2.2.2.2 gX5_readEither_X4_put rfl rfl rfl (by decide +kernel) ⟨Nat.le_of_ble_eq_true rfl, Nat.le_of_ble_eq_true rfl⟩) hRd.1.2.2.2.2.1 rfl rfl hl.1 rfl (Nat.le_of_ble_eq_true rfl) dX5_readEither_55 (by exact ⟨Nat.zero_le _, Nat.zero_le _⟩)) hS (fun u H locs hq hP hS => ?_)
                subst hq
                generalize eJ11 : g2 J8 (a + 4) ((coC cs ++ (pdN1 ++ [10001])).length) (-3) = J11 at hP
                generalize eJ12 : g2 J11 a 7 (nI ((coC cs ++ (pdN1 ++ [10001])).length) + 1) = J12 at hP
                have hP : gP D cy B z T J12 R H := hP
                have hFt := hFt.trs (fun c j h1 h2 => gs_ne eJ12 (by omega) (gs_ne eJ11 (by omega) rfl))
                have hRd : cRd rd tc a T J12 R tp n pN1 := hRd.mv (fun c j h1 h2 => gs_ne eJ12 (by omega) (gs_ne eJ11 (by omega) rfl)) (gs_ne eJ12 (by omega) (gs_ne eJ11 (by omega) hRd.2.2.2.1)) (by omega)
                have hSr : cSr a J12 cs ((pdN1 ++ [10001]) ++ [10002]) := hSr.push (by omega) (by omega) rfl eJ11 eJ12
                have hflJ12 := fl1 (cs := cs) (pd := (pdN1 ++ [10001])) (t := 10002)
                refine lv_iinc (v := nI (k + 1)) (lv' := [(2, .int (nI (k + 1))), (3, .int (nI (j + 1))), (0, .ref rd), (1, .int 5)]) X.1 X.2.1 dX5_readEither_58 hl (k := 3) rfl (gn_inc (Eq.refl (nI k)) 1) (by decide) rfl (fun ls hl => ?_)
                refine lv_iload_n X.1 X.2.1 dX5_readEither_61 rfl (lv_at hl 0 rfl) ?_
                refine lv_bipush (v := 100) X.1 X.2.1 dX5_readEither_62 (by decide) ?_
                refine lv_icmp_ge (tgt := 76) X.1 X.2.1 dX5_readEither_64 (by decide) (fun c64 => ?_) (fun c64 => ?_)
                · exact absurd (gq_le c64 (show (100 : Int32) = nI 100 from rfl) (Eq.refl (nI (k + 1))) (by omega) (by omega)) (by omega)
                · have n64 : (k + 1) < 100 := gq_nle c64 (show (100 : Int32) = nI 100 from rfl) (Eq.refl (nI (k + 1))) (by omega) (by omega)
                  refine lv_aload_n X.1 X.2.1 dX5_readEither_67 rfl (lv_at hl 2 rfl) ?_
                  refine va_ldcS X.1 X.2.1 X.2.2.2.1 (vk_R.warm hC.1 hR99) dX5_readEither_68 ?_
                  have hY : pEk k 10002 (pEvery tp n (pFac tp n 0) (false, pk, flC cs ++ pdk)) = (false, pN1, flC cs ++ ((pdN1 ++ [10001]) ++ [10002])) := by rw [pEk_s (by omega), hEv3, pEm_f, List.append_assoc]
                  have hSo2 : pSome tp n (pFac tp n 0) (false, pl, flC cs ++ pd) = pLoop tp n 124 10002 (pEvery tp n (pFac tp n 0)) (101 - k) (false, pN1, flC cs ++ ((pdN1 ++ [10001]) ++ [10002])) := by rw [hSo, hY]
                  by_cases h124 : sH tp n pN1 = 124
                  · refine g_run_i (f := fun u => u) (g_runV (k := 7) [.ref s99] X hK hP hS hC hB (o_reads_y hRd hs99 h2 ht99 h124) (cwV 1 X.2.2.2.2 gX5_readEither_X5_reads rfl rfl rfl (by decide +kernel) ⟨Nat.le_of_ble_eq_true rfl, Nat.le_of_ble_eq_true rfl⟩) hRd.1.1 rfl rfl hl.1 rfl (Nat.le_of_ble_eq_true rfl) dX5_readEither_70 (by exact ⟨Nat.zero_le _, Nat.zero_le _⟩)) hS (fun r u H locs hq hP hS => ?_)
                    obtain ⟨rfl, rfl⟩ := hq
                    generalize eJ13 : g2 J12 rd 0 (nI pN1 + 1) = J13 at hP
                    have hP : gP D cy B z T J13 R H := hP
                    have hfJ13 : ∀ c j, ¬ (c = rd ∧ j = 0) → J13 c j = J12 c j := fun c j h => gs_ne eJ13 h rfl
                    have hpnJ13 := sH_in h124 (by decide)
                    have hFt := hFt.trs (fun c j h1 _ => hfJ13 c j h1)
                    have hRd : cRd rd tc a T J13 R tp n (pN1 + 1) := hRd.mv (fun c j h1 _ => hfJ13 c j h1) ((gs_same eJ13).trans (nI_add _ 1)) (by omega)
                    have hSr : cSr a J13 cs ((pdN1 ++ [10001]) ++ [10002]) := hSr.k (fun c j g1 g2 => hfJ13 c j (by omega))
                    refine lv_if_ne (tgt := 2) X.1 X.2.1 dX5_readEither_73 (by decide) (fun c73 => ?_) (fun c73 => ?_)
                    · have n73 : ¬ 1 = 0 := gq_ne c73 (show (1 : Int32) = nI 1 from rfl) (show (0 : Int32) = nI 0 from rfl) (by omega) (by omega)
                      exact ih _ _ _ _ (by omega) ⟨⟨(pN1 + 1), ((pdN1 ++ [10001]) ++ [10002]), hFt, hRd, hSr, ⟨by omega, by omega⟩, hSo2.trans ((pLoop_go (by omega) ⟨rfl, h124⟩).trans (by rw [pEk_s (by omega)]))⟩, lv_sub hl [2, 3, 0] rfl⟩ hP hS
                    · exact absurd c73 (by decide)
                  · refine g_run_i (f := fun u => u) (g_runV (k := 7) [.ref s99] X hK hP hS hC hB (o_reads_n hRd hs99 h2 ht99 h124) (cwV 1 X.2.2.2.2 gX5_readEither_X5_reads rfl rfl rfl (by decide +kernel) ⟨Nat.le_of_ble_eq_true rfl, Nat.le_of_ble_eq_true rfl⟩) hRd.1.1 rfl rfl hl.1 rfl (Nat.le_of_ble_eq_true rfl) dX5_readEither_70 (by exact ⟨Nat.zero_le _, Nat.zero_le _⟩)) hS (fun r u H locs hq hP hS => ?_)
                    obtain ⟨rfl, rfl⟩ := hq
                    have hP : gP D cy B z T J12 R H := hP
                    refine lv_if_ne (tgt := 2) X.1 X.2.1 dX5_readEither_73 (by decide) (fun c73 => ?_) (fun c73 => ?_)
                    · exact absurd rfl c73
                    · have n73 : 0 = 0 := gq_eq c73 (show (0 : Int32) = nI 0 from rfl) (show (0 : Int32) = nI 0 from rfl) (by omega) (by omega)
                      refine lv_iconst (v := 1) X.1 X.2.1 dX5_readEither_76 (by decide) ?_
                      exact g_zret (f := fun u => u) (z, T, J12, R) X hr hlk hK hP hS dX5_readEither_77 rfl ⟨J12, pN1, rfl, hFt, hRd.2.2.2.1, Or.inl ⟨rfl, _, (hSo2.trans (pLoop_stop (fun h => h124 h.2))), hSr⟩⟩
    · exact absurd c9 (by decide)
  · rw [hEN1] at hwN1
    have hwN1 : pj ≤ pN1 ∧ pN1 ≤ n := ⟨hwN1.1, hwN1.2.1⟩
    have hFt := hFt.trs hfN1
    have hEv3 : pEvery tp n (pFac tp n 0) (false, pk, flC cs ++ pdk) = (true, pN1, LN1) := by rw [hEv, hEN1, pEk_t]; exact pLoop_stop (fun h => Bool.noConfusion h.1)
    refine lv_if_ne (tgt := 14) X.1 X.2.1 dX5_readEither_9 (by decide) (fun c9 => ?_) (fun c9 => ?_)
    · exact absurd rfl c9
    · have n9 : 0 = 0 := gq_eq c9 (show (0 : Int32) = nI 0 from rfl) (show (0 : Int32) = nI 0 from rfl) (by omega) (by omega)
      refine lv_iconst (v := 0) X.1 X.2.1 dX5_readEither_12 (by decide) ?_
      exact g_zret (f := fun u => u) (z, T, IN1, R) X hr hlk hK hP hS dX5_readEither_13 rfl ⟨IN1, pN1, rfl, hFt, hpN1, Or.inr ⟨rfl, LN1, (by rw [hSo, hEv3, pEk_t]; exact pLoop_stop (fun h => Bool.noConfusion h.1))⟩⟩

set_option maxHeartbeats 4000000 in
set_option maxRecDepth 100000 in
/-- o_part_1 -/
theorem o_part_1 (hRd : cRd rd tc a T I R tp n pl) (hstr : gStr s0 B) (hSr : cSr a I cs pd) (hLp : (flC cs ++ pd).length ≤ pl) (hp2 : 2 ≤ pl) : Met l yX5_readPart wsX5_readPart ({ frames := 9, cells := 0, slots := 0, locals := 202 }) (va_Pc [.ref rd, .int 4] (gW0 s0 D cy B (z, T, I, R))) (va_Qi (fun r u => ∃ I' p', u = (z, T, I', R) ∧ rFr rd a I I' ∧ I' rd 0 = nI p' ∧ ((r = 1 ∧ ∃ pd', pFac tp n 1 (false, pl, flC cs ++ pd) = (false, p', flC cs ++ pd') ∧ cSr a I' cs pd') ∨ (r = 0 ∧ ∃ L', pFac tp n 1 (false, pl, flC cs ++ pd) = (true, p', L')))) (fun u t => gW1 D cy B u t) (gA B)) 0 0 (gA B) := by
  refine g_met (maxL := 2) (ret := (some .boolean)) (by decide) rfl (Nat.le_of_ble_eq_true rfl) (fun p e s m args below meth c ls X hr hlk hnm hK hP hC hS hl => ?_)
  have hl : lv_has ls 2 [(0, .ref rd), (1, .int 4)] := hl
  have hP : gP D cy B z T I R s.heap := hP
  have hB : B ≤ s.heap.size := by rw [hP.1]; exact hP.2.1
  have hinRX5 : ∀ w ∈ wsX50, w ∈ wsX5_readPart := fun _ h => List.mem_cons_of_mem _ (List.mem_append_left _ (List.mem_append_right _ h))
  have k31 : Cond.fieldLink RX5 31 "BarrowPlank$SiteReader" "draft" "LBarrowPlank$Site;" ∈ wsX5_readPart := by decide +kernel
  have hn100 := hRd.2.2.1.1
  have hpn := hRd.2.2.1.2.1
  have htp := hRd.2.2.1.2.2
  have hrda := hRd.2.1.1
  have htca := hRd.2.1.2.1
  have hrdt := hRd.2.1.2.2
  have h2 : gSt2 s0 B := hstr.1
  obtain ⟨s101, q101, hR101, hs101, ht101⟩ := hstr.at 12 rfl
  have hs101 : gSo s0 B [33] s101 q101 := hs101
  have ht101 : gTx [33] := ht101
  obtain ⟨s103, q103, hR103, hs103, ht103⟩ := hstr.at 13 rfl
  have hs103 : gSo s0 B [40] s103 q103 := hs103
  have ht103 : gTx [40] := ht103
  obtain ⟨s105, q105, hR105, hs105, ht105⟩ := hstr.at 14 rfl
  have hs105 : gSo s0 B [41] s105 q105 := hs105
  have ht105 : gTx [41] := ht105
  have hFt : rFr rd a I I := rFr.rf
  have hco := co_le (cs := cs) (pd := pd)
  by_cases hb1 : sH tp n pl = 33
  · refine lv_iload_n X.1 X.2.1 dX5_readPart_0 rfl (lv_at hl 1 rfl) ?_
    refine lv_iconst (v := 5) X.1 X.2.1 dX5_readPart_1 (by decide) ?_
    refine lv_icmp_ge (tgt := 36) X.1 X.2.1 dX5_readPart_2 (by decide) (fun c2 => ?_) (fun c2 => ?_)
    · exact absurd c2 (by decide)
    · have n2 : 4 < 5 := gq_nle c2 (show (5 : Int32) = nI 5 from rfl) (show (4 : Int32) = nI 4 from rfl) (by omega) (by omega)
      refine lv_aload_n X.1 X.2.1 dX5_readPart_5 rfl (lv_at hl 0 rfl) ?_
      refine va_ldcS X.1 X.2.1 X.2.2.2.1 (vk_R.warm hC.1 hR101) dX5_readPart_6 ?_
      refine g_run_i (f := fun u => u) (g_runV (k := 7) [.ref s101] X hK hP hS hC hB (o_reads_y hRd hs101 h2 ht101 hb1) (cwV 1 X.2.2.2.2 gX5_readPart_X5_reads rfl rfl rfl (by decide +kernel) ⟨Nat.le_of_ble_eq_true rfl, Nat.le_of_ble_eq_true rfl⟩) hRd.1.1 rfl rfl hl.1 rfl (Nat.le_of_ble_eq_true rfl) dX5_readPart_8 (by exact ⟨Nat.zero_le _, Nat.zero_le _⟩)) hS (fun r u H locs hq hP hS => ?_)
      obtain ⟨rfl, rfl⟩ := hq
      generalize eJ1 : g2 I rd 0 (nI pl + 1) = J1 at hP
      have hP : gP D cy B z T J1 R H := hP
      have hfJ1 : ∀ c j, ¬ (c = rd ∧ j = 0) → J1 c j = I c j := fun c j h => gs_ne eJ1 h rfl
      have hpnJ1 := sH_in hb1 (by decide)
      have hFt := hFt.trs (fun c j h1 _ => hfJ1 c j h1)
      have hRd : cRd rd tc a T J1 R tp n (pl + 1) := hRd.mv (fun c j h1 _ => hfJ1 c j h1) ((gs_same eJ1).trans (nI_add _ 1)) (by omega)
      have hSr : cSr a J1 cs pd := hSr.k (fun c j g1 g2 => hfJ1 c j (by omega))
      refine lv_if_eq (tgt := 36) X.1 X.2.1 dX5_readPart_11 (by decide) (fun c11 => ?_) (fun c11 => ?_)
      · exact absurd c11 (by decide)
      · have n11 : ¬ 1 = 0 := gq_ne c11 (show (1 : Int32) = nI 1 from rfl) (show (0 : Int32) = nI 0 from rfl) (by omega) (by omega)
        refine lv_aload_n X.1 X.2.1 dX5_readPart_14 rfl (lv_at hl 0 rfl) ?_
        refine lv_iload_n X.1 X.2.1 dX5_readPart_15 rfl (lv_at hl 1 rfl) ?_
        refine lv_iconst (v := 1) X.1 X.2.1 dX5_readPart_16 (by decide) ?_
        refine lv_iadd X.1 X.2.1 dX5_readPart_17 ?_
        refine g_run_i (f := fun u => u) (g_runV (k := 7) [.int (4 + 1)] X hK hP hS hC hB (o_part_0 hRd hstr hSr (by omega) (by omega)) (cwV 1 X.2.2.2.2 gX5_readPart_X5_readPart rfl rfl rfl (by decide +kernel) ⟨Nat.le_of_ble_eq_true rfl, Nat.le_of_ble_eq_true rfl⟩) hRd.1.1 rfl rfl hl.1 rfl (Nat.le_of_ble_eq_true rfl) dX5_readPart_18 (by exact ⟨Nat.zero_le _, Nat.zero_le _⟩)) hS (fun r u H locs hq hP hS => ?_)
        obtain ⟨IN2, pN2, rfl, hfN2, hpN2, hq⟩ := hq
        have hP : gP D cy B z T IN2 R H := hP
        have hwN2 := (pW_fac (tp := tp) (n := n) 0) (false, (pl + 1), flC cs ++ pd) (by show (pl + 1) ≤ n; omega)
        rcases hq with ⟨rfl, pdN2, hEN2, hSN2⟩ | ⟨rfl, LN2, hEN2⟩
        · rw [hEN2] at hwN2
          have hwN2 : (pl + 1) ≤ pN2 ∧ pN2 ≤ n ∧ (flC cs ++ pdN2).length + (pl + 1) ≤ pN2 + (flC cs ++ pd).length := hwN2
          have hcoN2 := co_le (cs := cs) (pd := pdN2)
          have hFt := hFt.trs hfN2
          have hRd : cRd rd tc a T IN2 R tp n pN2 := hRd.mv hfN2 hpN2 hwN2.2.1
          have hSr : cSr a IN2 cs pdN2 := hSN2
          refine lv_if_ne (tgt := 26) X.1 X.2.1 dX5_readPart_21 (by decide) (fun c21 => ?_) (fun c21 => ?_)
          · have n21 : ¬ 1 = 0 := gq_ne c21 (show (1 : Int32) = nI 1 from rfl) (show (0 : Int32) = nI 0 from rfl) (by omega) (by omega)
            refine lv_aload_n X.1 X.2.1 dX5_readPart_26 rfl (lv_at hl 0 rfl) ?_
            refine g_getr 7 3 X hK hP hRd.1.1 rfl hinRX5 rfl (by decide) k31 (fun _ h => h) dX5_readPart_27 (show va_rf (R rd 3) = .ref a from by rw [hRd.1.2.2.1]; rfl) ?_
            refine lv_iconst (v := (-1)) X.1 X.2.1 dX5_readPart_30 (by decide) ?_
            refine g_run_v (f := fun u => u) (g_runV (k := 6) [.int (-1)] X hK hP hS hC hB (o_put hRd.1.2.2.2.2 hSr.2.2.2.1 (by omega)) (cwV 1 X.2.2.2.2 gX5_readPart_X4_put rfl rfl rfl (by decide +kernel) ⟨Nat.le_of_ble_eq_true rfl, Nat.le_of_ble_eq_true rfl⟩) hRd.1.2.2.2.2.1 rfl rfl hl.1 rfl (Nat.le_of_ble_eq_true rfl) dX5_readPart_31 (by exact ⟨Nat.zero_le _, Nat.zero_le _⟩)) hS (fun u H locs hq hP hS => ?_)
            subst hq
            generalize eJ3 : g2 IN2 (a + 4) ((coC cs ++ pdN2).length) (-1) = J3 at hP
            generalize eJ4 : g2 J3 a 7 (nI ((coC cs ++ pdN2).length) + 1) = J4 at hP
            have hP : gP D cy B z T J4 R H := hP
            have hFt := hFt.trs (fun c j h1 h2 => gs_ne eJ4 (by omega) (gs_ne eJ3 (by omega) rfl))
            have hRd : cRd rd tc a T J4 R tp n pN2 := hRd.mv (fun c j h1 h2 => gs_ne eJ4 (by omega) (gs_ne eJ3 (by omega) rfl)) (gs_ne eJ4 (by omega) (gs_ne eJ3 (by omega) hRd.2.2.2.1)) (by omega)
            have hSr : cSr a J4 cs (pdN2 ++ [10000]) := hSr.push (by omega) (by omega) rfl eJ3 eJ4
            have hflJ4 := fl1 (cs := cs) (pd := pdN2) (t := 10000)
            refine lv_iconst (v := 1) X.1 X.2.1 dX5_readPart_34 (by decide) ?_
            exact g_zret (f := fun u => u) (z, T, J4, R) X hr hlk hK hP hS dX5_readPart_35 rfl ⟨J4, pN2, rfl, hFt, hRd.2.2.2.1, Or.inl ⟨rfl, _, ((pFac_n (d := 0) hb1).trans (by rw [hEN2, pEm_f, List.append_assoc])), hSr⟩⟩
          · exact absurd c21 (by decide)
        · rw [hEN2] at hwN2
          have hwN2 : (pl + 1) ≤ pN2 ∧ pN2 ≤ n := ⟨hwN2.1, hwN2.2.1⟩
          have hFt := hFt.trs hfN2
          refine lv_if_ne (tgt := 26) X.1 X.2.1 dX5_readPart_21 (by decide) (fun c21 => ?_) (fun c21 => ?_)
          · exact absurd rfl c21
          · have n21 : 0 = 0 := gq_eq c21 (show (0 : Int32) = nI 0 from rfl) (show (0 : Int32) = nI 0 from rfl) (by omega) (by omega)
            refine lv_iconst (v := 0) X.1 X.2.1 dX5_readPart_24 (by decide) ?_
            exact g_zret (f := fun u => u) (z, T, IN2, R) X hr hlk hK hP hS dX5_readPart_25 rfl ⟨IN2, pN2, rfl, hFt, hpN2, Or.inr ⟨rfl, LN2, ((pFac_n (d := 0) hb1).trans (by rw [hEN2, pEm_tr]))⟩⟩
  · by_cases hb2 : sH tp n pl = 40
    · refine lv_iload_n X.1 X.2.1 dX5_readPart_0 rfl (lv_at hl 1 rfl) ?_
      refine lv_iconst (v := 5) X.1 X.2.1 dX5_readPart_1 (by decide) ?_
      refine lv_icmp_ge (tgt := 36) X.1 X.2.1 dX5_readPart_2 (by decide) (fun c2 => ?_) (fun c2 => ?_)
      · exact absurd c2 (by decide)
      · have n2 : 4 < 5 := gq_nle c2 (show (5 : Int32) = nI 5 from rfl) (show (4 : Int32) = nI 4 from rfl) (by omega) (by omega)
        refine lv_aload_n X.1 X.2.1 dX5_readPart_5 rfl (lv_at hl 0 rfl) ?_
        refine va_ldcS X.1 X.2.1 X.2.2.2.1 (vk_R.warm hC.1 hR101) dX5_readPart_6 ?_
        refine g_run_i (f := fun u => u) (g_runV (k := 7) [.ref s101] X hK hP hS hC hB (o_reads_n hRd hs101 h2 ht101 hb1) (cwV 1 X.2.2.2.2 gX5_readPart_X5_reads rfl rfl rfl (by decide +kernel) ⟨Nat.le_of_ble_eq_true rfl, Nat.le_of_ble_eq_true rfl⟩) hRd.1.1 rfl rfl hl.1 rfl (Nat.le_of_ble_eq_true rfl) dX5_readPart_8 (by exact ⟨Nat.zero_le _, Nat.zero_le _⟩)) hS (fun r u H locs hq hP hS => ?_)
        obtain ⟨rfl, rfl⟩ := hq
        have hP : gP D cy B z T I R H := hP
        refine lv_if_eq (tgt := 36) X.1 X.2.1 dX5_readPart_11 (by decide) (fun c11 => ?_) (fun c11 => ?_)
        · have n11 : 0 = 0 := gq_eq c11 (show (0 : Int32) = nI 0 from rfl) (show (0 : Int32) = nI 0 from rfl) (by omega) (by omega)
          refine lv_iload_n X.1 X.2.1 dX5_readPart_36 rfl (lv_at hl 1 rfl) ?_
          refine lv_iconst (v := 5) X.1 X.2.1 dX5_readPart_37 (by decide) ?_
          refine lv_icmp_ge (tgt := 75) X.1 X.2.1 dX5_readPart_38 (by decide) (fun c38 => ?_) (fun c38 => ?_)
          · exact absurd c38 (by decide)
          · have n38 : 4 < 5 := gq_nle c38 (show (5 : Int32) = nI 5 from rfl) (show (4 : Int32) = nI 4 from rfl) (by omega) (by omega)
            refine lv_aload_n X.1 X.2.1 dX5_readPart_41 rfl (lv_at hl 0 rfl) ?_
            refine va_ldcS X.1 X.2.1 X.2.2.2.1 (vk_R.warm hC.1 hR103) dX5_readPart_42 ?_
            refine g_run_i (f := fun u => u) (g_runV (k := 7) [.ref s103] X hK hP hS hC hB (o_reads_y hRd hs103 h2 ht103 hb2) (cwV 1 X.2.2.2.2 gX5_readPart_X5_reads rfl rfl rfl (by decide +kernel) ⟨Nat.le_of_ble_eq_true rfl, Nat.le_of_ble_eq_true rfl⟩) hRd.1.1 rfl rfl hl.1 rfl (Nat.le_of_ble_eq_true rfl) dX5_readPart_44 (by exact ⟨Nat.zero_le _, Nat.zero_le _⟩)) hS (fun r u H locs hq hP hS => ?_)
            obtain ⟨rfl, rfl⟩ := hq
            generalize eJ5 : g2 I rd 0 (nI pl + 1) = J5 at hP
            have hP : gP D cy B z T J5 R H := hP
            have hfJ5 : ∀ c j, ¬ (c = rd ∧ j = 0) → J5 c j = I c j := fun c j h => gs_ne eJ5 h rfl
            have hpnJ5 := sH_in hb2 (by decide)
            have hFt := hFt.trs (fun c j h1 _ => hfJ5 c j h1)
            have hRd : cRd rd tc a T J5 R tp n (pl + 1) := hRd.mv (fun c j h1 _ => hfJ5 c j h1) ((gs_same eJ5).trans (nI_add _ 1)) (by omega)
            have hSr : cSr a J5 cs pd := hSr.k (fun c j g1 g2 => hfJ5 c j (by omega))
            refine lv_if_eq (tgt := 75) X.1 X.2.1 dX5_readPart_47 (by decide) (fun c47 => ?_) (fun c47 => ?_)
            · exact absurd c47 (by decide)
            · have n47 : ¬ 1 = 0 := gq_ne c47 (show (1 : Int32) = nI 1 from rfl) (show (0 : Int32) = nI 0 from rfl) (by omega) (by omega)
              refine lv_aload_n X.1 X.2.1 dX5_readPart_50 rfl (lv_at hl 0 rfl) ?_
              refine lv_iload_n X.1 X.2.1 dX5_readPart_51 rfl (lv_at hl 1 rfl) ?_
              refine lv_iconst (v := 1) X.1 X.2.1 dX5_readPart_52 (by decide) ?_
              refine lv_iadd X.1 X.2.1 dX5_readPart_53 ?_
              refine g_run_i (f := fun u => u) (g_runV (k := 7) [.int (4 + 1)] X hK hP hS hC hB (o_either_0 hRd hstr hSr (by omega) (by omega)) (cwV 1 X.2.2.2.2 gX5_readPart_X5_readEither rfl rfl rfl (by decide +kernel) ⟨Nat.le_of_ble_eq_true rfl, Nat.le_of_ble_eq_true rfl⟩) hRd.1.1 rfl rfl hl.1 rfl (Nat.le_of_ble_eq_true rfl) dX5_readPart_54 (by exact ⟨Nat.zero_le _, Nat.zero_le _⟩)) hS (fun r u H locs hq hP hS => ?_)
              obtain ⟨IN6, pN6, rfl, hfN6, hpN6, hq⟩ := hq
              have hP : gP D cy B z T IN6 R H := hP
              have hwN6 := (pW_some (tp := tp) (pW_fac (tp := tp) (n := n) 0)) (false, (pl + 1), flC cs ++ pd) (by show (pl + 1) ≤ n; omega)
              rcases hq with ⟨rfl, pdN6, hEN6, hSN6⟩ | ⟨rfl, LN6, hEN6⟩
              · rw [hEN6] at hwN6
                have hwN6 : (pl + 1) ≤ pN6 ∧ pN6 ≤ n ∧ (flC cs ++ pdN6).length + (pl + 1) ≤ pN6 + (flC cs ++ pd).length := hwN6
                have hcoN6 := co_le (cs := cs) (pd := pdN6)
                have hFt := hFt.trs hfN6
                have hRd : cRd rd tc a T IN6 R tp n pN6 := hRd.mv hfN6 hpN6 hwN6.2.1
                have hSr : cSr a IN6 cs pdN6 := hSN6
                by_cases hb3 : sH tp n pN6 = 41
                · refine lv_if_eq (tgt := 73) X.1 X.2.1 dX5_readPart_57 (by decide) (fun c57 => ?_) (fun c57 => ?_)
                  · exact absurd c57 (by decide)
                  · have n57 : ¬ 1 = 0 := gq_ne c57 (show (1 : Int32) = nI 1 from rfl) (show (0 : Int32) = nI 0 from rfl) (by omega) (by omega)
                    refine lv_aload_n X.1 X.2.1 dX5_readPart_60 rfl (lv_at hl 0 rfl) ?_
                    refine va_ldcS X.1 X.2.1 X.2.2.2.1 (vk_R.warm hC.1 hR105) dX5_readPart_61 ?_
                    refine g_run_i (f := fun u => u) (g_runV (k := 7) [.ref s105] X hK hP hS hC hB (o_reads_y hRd hs105 h2 ht105 hb3) (cwV 1 X.2.2.2.2 gX5_readPart_X5_reads rfl rfl rfl (by decide +kernel) ⟨Nat.le_of_ble_eq_true rfl, Nat.le_of_ble_eq_true rfl⟩) hRd.1.1 rfl rfl hl.1 rfl (Nat.le_of_ble_eq_true rfl) dX5_readPart_63 (by exact ⟨Nat.zero_le _, Nat.zero_le _⟩)) hS (fun r u H locs hq hP hS => ?_)
                    obtain ⟨rfl, rfl⟩ := hq
                    generalize eJ7 : g2 IN6 rd 0 (nI pN6 + 1) = J7 at hP
                    have hP : gP D cy B z T J7 R H := hP
                    have hfJ7 : ∀ c j, ¬ (c = rd ∧ j = 0) → J7 c j = IN6 c j := fun c j h => gs_ne eJ7 h rfl
                    have hpnJ7 := sH_in hb3 (by decide)
                    have hFt := hFt.trs (fun c j h1 _ => hfJ7 c j h1)
                    have hRd : cRd rd tc a T J7 R tp n (pN6 + 1) := hRd.mv (fun c j h1 _ => hfJ7 c j h1) ((gs_same eJ7).trans (nI_add _ 1)) (by omega)
                    have hSr : cSr a J7 cs pdN6 := hSr.k (fun c j g1 g2 => hfJ7 c j (by omega))
                    refine lv_if_eq (tgt := 73) X.1 X.2.1 dX5_readPart_66 (by decide) (fun c66 => ?_) (fun c66 => ?_)
                    · exact absurd c66 (by decide)
                    · have n66 : ¬ 1 = 0 := gq_ne c66 (show (1 : Int32) = nI 1 from rfl) (show (0 : Int32) = nI 0 from rfl) (by omega) (by omega)
                      refine lv_iconst (v := 1) X.1 X.2.1 dX5_readPart_69 (by decide) ?_
                      refine lv_goto (tgt := 74) X.1 X.2.1 dX5_readPart_70 (by decide) ?_
                      exact g_zret (f := fun u => u) (z, T, J7, R) X hr hlk hK hP hS dX5_readPart_74 rfl ⟨J7, (pN6 + 1), rfl, hFt, hRd.2.2.2.1, Or.inl ⟨rfl, _, ((pFac_p (d := 0) hb2).trans (by rw [hEN6]; exact pMust_y hb3)), hSr⟩⟩
                · refine lv_if_eq (tgt := 73) X.1 X.2.1 dX5_readPart_57 (by decide) (fun c57 => ?_) (fun c57 => ?_)
                  · exact absurd c57 (by decide)
                  · have n57 : ¬ 1 = 0 := gq_ne c57 (show (1 : Int32) = nI 1 from rfl) (show (0 : Int32) = nI 0 from rfl) (by omega) (by omega)
                    refine lv_aload_n X.1 X.2.1 dX5_readPart_60 rfl (lv_at hl 0 rfl) ?_
                    refine va_ldcS X.1 X.2.1 X.2.2.2.1 (vk_R.warm hC.1 hR105) dX5_readPart_61 ?_
                    refine g_run_i (f := fun u => u) (g_runV (k := 7) [.ref s105] X hK hP hS hC hB (o_reads_n hRd hs105 h2 ht105 hb3) (cwV 1 X.2.2.2.2 gX5_readPart_X5_reads rfl rfl rfl (by decide +kernel) ⟨Nat.le_of_ble_eq_true rfl, Nat.le_of_ble_eq_true rfl⟩) hRd.1.1 rfl rfl hl.1 rfl (Nat.le_of_ble_eq_true rfl) dX5_readPart_63 (by exact ⟨Nat.zero_le _, Nat.zero_le _⟩)) hS (fun r u H locs hq hP hS => ?_)
                    obtain ⟨rfl, rfl⟩ := hq
                    have hP : gP D cy B z T IN6 R H := hP
                    refine lv_if_eq (tgt := 73) X.1 X.2.1 dX5_readPart_66 (by decide) (fun c66 => ?_) (fun c66 => ?_)
                    · have n66 : 0 = 0 := gq_eq c66 (show (0 : Int32) = nI 0 from rfl) (show (0 : Int32) = nI 0 from rfl) (by omega) (by omega)
                      refine lv_iconst (v := 0) X.1 X.2.1 dX5_readPart_73 (by decide) ?_
                      exact g_zret (f := fun u => u) (z, T, IN6, R) X hr hlk hK hP hS dX5_readPart_74 rfl ⟨IN6, pN6, rfl, hFt, hRd.2.2.2.1, Or.inr ⟨rfl, _, ((pFac_p (d := 0) hb2).trans (by rw [hEN6]; exact pMust_n hb3))⟩⟩
                    · exact absurd rfl c66
              · rw [hEN6] at hwN6
                have hwN6 : (pl + 1) ≤ pN6 ∧ pN6 ≤ n := ⟨hwN6.1, hwN6.2.1⟩
                have hFt := hFt.trs hfN6
                refine lv_if_eq (tgt := 73) X.1 X.2.1 dX5_readPart_57 (by decide) (fun c57 => ?_) (fun c57 => ?_)
                · have n57 : 0 = 0 := gq_eq c57 (show (0 : Int32) = nI 0 from rfl) (show (0 : Int32) = nI 0 from rfl) (by omega) (by omega)
                  refine lv_iconst (v := 0) X.1 X.2.1 dX5_readPart_73 (by decide) ?_
                  exact g_zret (f := fun u => u) (z, T, IN6, R) X hr hlk hK hP hS dX5_readPart_74 rfl ⟨IN6, pN6, rfl, hFt, hpN6, Or.inr ⟨rfl, LN6, ((pFac_p (d := 0) hb2).trans (by rw [hEN6]; exact pMust_t))⟩⟩
                · exact absurd rfl c57
        · exact absurd rfl c11
    · refine lv_iload_n X.1 X.2.1 dX5_readPart_0 rfl (lv_at hl 1 rfl) ?_
      refine lv_iconst (v := 5) X.1 X.2.1 dX5_readPart_1 (by decide) ?_
      refine lv_icmp_ge (tgt := 36) X.1 X.2.1 dX5_readPart_2 (by decide) (fun c2 => ?_) (fun c2 => ?_)
      · exact absurd c2 (by decide)
      · have n2 : 4 < 5 := gq_nle c2 (show (5 : Int32) = nI 5 from rfl) (show (4 : Int32) = nI 4 from rfl) (by omega) (by omega)
        refine lv_aload_n X.1 X.2.1 dX5_readPart_5 rfl (lv_at hl 0 rfl) ?_
        refine va_ldcS X.1 X.2.1 X.2.2.2.1 (vk_R.warm hC.1 hR101) dX5_readPart_6 ?_
        refine g_run_i (f := fun u => u) (g_runV (k := 7) [.ref s101] X hK hP hS hC hB (o_reads_n hRd hs101 h2 ht101 hb1) (cwV 1 X.2.2.2.2 gX5_readPart_X5_reads rfl rfl rfl (by decide +kernel) ⟨Nat.le_of_ble_eq_true rfl, Nat.le_of_ble_eq_true rfl⟩) hRd.1.1 rfl rfl hl.1 rfl (Nat.le_of_ble_eq_true rfl) dX5_readPart_8 (by exact ⟨Nat.zero_le _, Nat.zero_le _⟩)) hS (fun r u H locs hq hP hS => ?_)
        obtain ⟨rfl, rfl⟩ := hq
        have hP : gP D cy B z T I R H := hP
        refine lv_if_eq (tgt := 36) X.1 X.2.1 dX5_readPart_11 (by decide) (fun c11 => ?_) (fun c11 => ?_)
        · have n11 : 0 = 0 := gq_eq c11 (show (0 : Int32) = nI 0 from rfl) (show (0 : Int32) = nI 0 from rfl) (by omega) (by omega)
          refine lv_iload_n X.1 X.2.1 dX5_readPart_36 rfl (lv_at hl 1 rfl) ?_
          refine lv_iconst (v := 5) X.1 X.2.1 dX5_readPart_37 (by decide) ?_
          refine lv_icmp_ge (tgt := 75) X.1 X.2.1 dX5_readPart_38 (by decide) (fun c38 => ?_) (fun c38 => ?_)
          · exact absurd c38 (by decide)
          · have n38 : 4 < 5 := gq_nle c38 (show (5 : Int32) = nI 5 from rfl) (show (4 : Int32) = nI 4 from rfl) (by omega) (by omega)
            refine lv_aload_n X.1 X.2.1 dX5_readPart_41 rfl (lv_at hl 0 rfl) ?_
            refine va_ldcS X.1 X.2.1 X.2.2.2.1 (vk_R.warm hC.1 hR103) dX5_readPart_42 ?_
            refine g_run_i (f := fun u => u) (g_runV (k := 7) [.ref s103] X hK hP hS hC hB (o_reads_n hRd hs103 h2 ht103 hb2) (cwV 1 X.2.2.2.2 gX5_readPart_X5_reads rfl rfl rfl (by decide +kernel) ⟨Nat.le_of_ble_eq_true rfl, Nat.le_of_ble_eq_true rfl⟩) hRd.1.1 rfl rfl hl.1 rfl (Nat.le_of_ble_eq_true rfl) dX5_readPart_44 (by exact ⟨Nat.zero_le _, Nat.zero_le _⟩)) hS (fun r u H locs hq hP hS => ?_)
            obtain ⟨rfl, rfl⟩ := hq
            have hP : gP D cy B z T I R H := hP
            refine lv_if_eq (tgt := 75) X.1 X.2.1 dX5_readPart_47 (by decide) (fun c47 => ?_) (fun c47 => ?_)
            · have n47 : 0 = 0 := gq_eq c47 (show (0 : Int32) = nI 0 from rfl) (show (0 : Int32) = nI 0 from rfl) (by omega) (by omega)
              refine lv_aload_n X.1 X.2.1 dX5_readPart_75 rfl (lv_at hl 0 rfl) ?_
              refine g_run_i (f := fun u => u) (g_runV (k := 7) [] X hK hP hS hC hB (o_test hRd hstr hSr (by omega)) (cwV 0 X.2.2.2.2 gX5_readPart_X5_readTest rfl rfl rfl (by decide +kernel) ⟨Nat.le_of_ble_eq_true rfl, Nat.le_of_ble_eq_true rfl⟩) hRd.1.1 rfl rfl hl.1 rfl (Nat.le_of_ble_eq_true rfl) dX5_readPart_76 (by exact ⟨Nat.zero_le _, Nat.zero_le _⟩)) hS (fun r u H locs hq hP hS => ?_)
              obtain ⟨IN8, pN8, rfl, hfN8, hpN8, hq⟩ := hq
              have hP : gP D cy B z T IN8 R H := hP
              have hwN8 := pW_atom (tp := tp) (n := n) (false, pl, flC cs ++ pd) (by show pl ≤ n; omega)
              rcases hq with ⟨rfl, pdN8, hEN8, hSN8⟩ | ⟨rfl, LN8, hEN8⟩
              · rw [hEN8] at hwN8
                have hwN8 : pl ≤ pN8 ∧ pN8 ≤ n ∧ (flC cs ++ pdN8).length + pl ≤ pN8 + (flC cs ++ pd).length := hwN8
                have hcoN8 := co_le (cs := cs) (pd := pdN8)
                have hFt := hFt.trs hfN8
                have hRd : cRd rd tc a T IN8 R tp n pN8 := hRd.mv hfN8 hpN8 hwN8.2.1
                have hSr : cSr a IN8 cs pdN8 := hSN8
                exact g_zret (f := fun u => u) (z, T, IN8, R) X hr hlk hK hP hS dX5_readPart_79 rfl ⟨IN8, pN8, rfl, hFt, hRd.2.2.2.1, Or.inl ⟨rfl, _, ((pFac_a hb1 hb2 1).trans hEN8), hSr⟩⟩
              · rw [hEN8] at hwN8
                have hwN8 : pl ≤ pN8 ∧ pN8 ≤ n := ⟨hwN8.1, hwN8.2.1⟩
                have hFt := hFt.trs hfN8
                exact g_zret (f := fun u => u) (z, T, IN8, R) X hr hlk hK hP hS dX5_readPart_79 rfl ⟨IN8, pN8, rfl, hFt, hpN8, Or.inr ⟨rfl, LN8, ((pFac_a hb1 hb2 1).trans hEN8)⟩⟩
            · exact absurd rfl c47
        · exact absurd rfl c11

set_option maxHeartbeats 4000000 in
set_option maxRecDepth 100000 in
/-- o_either_1 -/
theorem o_either_1 (hRd : cRd rd tc a T I R tp n pl) (hstr : gStr s0 B) (hSr : cSr a I cs pd) (hLp : (flC cs ++ pd).length ≤ pl) (hp2 : 2 ≤ pl) : Met l yX5_readEither wsX5_readEither ({ frames := 10, cells := 0, slots := 0, locals := 223 }) (va_Pc [.ref rd, .int 4] (gW0 s0 D cy B (z, T, I, R))) (va_Qi (fun r u => ∃ I' p', u = (z, T, I', R) ∧ rFr rd a I I' ∧ I' rd 0 = nI p' ∧ ((r = 1 ∧ ∃ pd', pSome tp n (pFac tp n 1) (false, pl, flC cs ++ pd) = (false, p', flC cs ++ pd') ∧ cSr a I' cs pd') ∨ (r = 0 ∧ ∃ L', pSome tp n (pFac tp n 1) (false, pl, flC cs ++ pd) = (true, p', L')))) (fun u t => gW1 D cy B u t) (gA B)) 0 0 (gA B) := by
  refine g_met (maxL := 4) (ret := (some .boolean)) (by decide) rfl (Nat.le_of_ble_eq_true rfl) (fun p e s m args below meth c ls X hr hlk hnm hK hP hC hS hl => ?_)
  have hl : lv_has ls 4 [(0, .ref rd), (1, .int 4)] := hl
  have hP : gP D cy B z T I R s.heap := hP
  have hB : B ≤ s.heap.size := by rw [hP.1]; exact hP.2.1
  have hinRX5 : ∀ w ∈ wsX50, w ∈ wsX5_readEither := fun _ h => List.mem_cons_of_mem _ (List.mem_append_left _ (List.mem_append_right _ h))
  have k31 : Cond.fieldLink RX5 31 "BarrowPlank$SiteReader" "draft" "LBarrowPlank$Site;" ∈ wsX5_readEither := by decide +kernel
  have hn100 := hRd.2.2.1.1
  have hpn := hRd.2.2.1.2.1
  have htp := hRd.2.2.1.2.2
  have hrda := hRd.2.1.1
  have htca := hRd.2.1.2.1
  have hrdt := hRd.2.1.2.2
  have h2 : gSt2 s0 B := hstr.1
  obtain ⟨s97, q97, hR97, hs97, ht97⟩ := hstr.at 20 rfl
  have hs97 : gSo s0 B [38] s97 q97 := hs97
  have ht97 : gTx [38] := ht97
  obtain ⟨s99, q99, hR99, hs99, ht99⟩ := hstr.at 21 rfl
  have hs99 : gSo s0 B [124] s99 q99 := hs99
  have ht99 : gTx [124] := ht99
  have hFt : rFr rd a I I := rFr.rf
  refine lv_iconst (v := 0) X.1 X.2.1 dX5_readEither_0 (by decide) ?_
  refine lv_istore_n (lv' := [(2, .int 0), (0, .ref rd), (1, .int 4)]) X.1 X.2.1 dX5_readEither_1 rfl hl (by decide) rfl (fun ls hl => ?_)
  refine i_loop (I := I) 100 2 [] (fun k Q9 ls => (∃ pk pdk, rFr rd a I Q9 ∧ cRd rd tc a T Q9 R tp n pk ∧ cSr a Q9 cs pdk ∧ ((flC cs ++ pdk).length + min k 1 ≤ pk ∧ 2 + k ≤ pk) ∧ pSome tp n (pFac tp n 1) (false, pl, flC cs ++ pd) = pLoop tp n 124 10002 (pEvery tp n (pFac tp n 1)) (101 - k) (pEk k 10002 (pEvery tp n (pFac tp n 1) (false, pk, flC cs ++ pdk)))) ∧ lv_has ls 4 [(0, .ref rd), (1, .int 4), (2, .int (nI k))]) 0 (by omega) ⟨⟨pl, pd, rFr.rf, hRd, hSr, ⟨by omega, by omega⟩, (by rw [pEk_0 rfl]; rfl)⟩, lv_sub hl [1, 2, 0] rfl⟩ hP hS (fun k Q9 H locs ls hk hiv hP hS ih => ?_)
  obtain ⟨⟨pk, pdk, hFt, hRd, hSr, ⟨hLk, hpk⟩, hSo⟩, hl⟩ := hiv
  have hpkn := hRd.2.2.1.2.1
  refine lv_iconst (v := 0) X.1 X.2.1 dX5_readEither_2 (by decide) ?_
  refine lv_istore_n (lv' := [(3, .int 0), (0, .ref rd), (1, .int 4), (2, .int (nI k))]) X.1 X.2.1 dX5_readEither_3 rfl hl (by decide) rfl (fun ls hl => ?_)
  refine i_loop (I := Q9) 100 4 [] (fun j Q8 ls => (∃ pj pdj, rFr rd a I Q8 ∧ cRd rd tc a T Q8 R tp n pj ∧ cSr a Q8 cs pdj ∧ ((flC cs ++ pdj).length + min k 1 + min j 1 ≤ pj ∧ 2 + k + j ≤ pj) ∧ pEvery tp n (pFac tp n 1) (false, pk, flC cs ++ pdk) = pLoop tp n 38 10001 (pFac tp n 1) (101 - j) (pEk j 10001 ((pFac tp n 1) (false, pj, flC cs ++ pdj)))) ∧ lv_has ls 4 [(0, .ref rd), (1, .int 4), (2, .int (nI k)), (3, .int (nI j))]) 0 (by omega) ⟨⟨pk, pdk, hFt, hRd, hSr, ⟨by omega, by omega⟩, (by rw [pEk_0 rfl]; rfl)⟩, lv_sub hl [1, 2, 3, 0] rfl⟩ hP hS (fun j Q8 H locs ls hj hij hP hS ih2 => ?_)
  obtain ⟨⟨pj, pdj, hFt, hRd, hSr, ⟨hLj, hpj⟩, hEv⟩, hl⟩ := hij
  have hpjn := hRd.2.2.1.2.1
  refine lv_aload_n X.1 X.2.1 dX5_readEither_4 rfl (lv_at hl 0 rfl) ?_
  refine lv_iload_n X.1 X.2.1 dX5_readEither_5 rfl (lv_at hl 1 rfl) ?_
  refine g_run_i (f := fun u => u) (g_runV (k := 7) [.int 4] X hK hP hS hC hB (o_part_1 hRd hstr hSr (by omega) (by omega)) (cwV 1 X.2.2.2.2 gX5_readEither_X5_readPart rfl rfl rfl (by decide +kernel) ⟨Nat.le_of_ble_eq_true rfl, Nat.le_of_ble_eq_true rfl⟩) hRd.1.1 rfl rfl hl.1 rfl (Nat.le_of_ble_eq_true rfl) dX5_readEither_6 (by exact ⟨Nat.zero_le _, Nat.zero_le _⟩)) hS (fun r u H locs hq hP hS => ?_)
  obtain ⟨IN1, pN1, rfl, hfN1, hpN1, hq⟩ := hq
  have hP : gP D cy B z T IN1 R H := hP
  have hwN1 := (pW_fac (tp := tp) (n := n) 1) (false, pj, flC cs ++ pdj) (by show pj ≤ n; omega)
  rcases hq with ⟨rfl, pdN1, hEN1, hSN1⟩ | ⟨rfl, LN1, hEN1⟩
  · rw [hEN1] at hwN1
    have hwN1 : pj ≤ pN1 ∧ pN1 ≤ n ∧ (flC cs ++ pdN1).length + pj ≤ pN1 + (flC cs ++ pdj).length := hwN1
    have hcoN1 := co_le (cs := cs) (pd := pdN1)
    have hFt := hFt.trs hfN1
    have hRd : cRd rd tc a T IN1 R tp n pN1 := hRd.mv hfN1 hpN1 hwN1.2.1
    have hSr : cSr a IN1 cs pdN1 := hSN1
    refine lv_if_ne (tgt := 14) X.1 X.2.1 dX5_readEither_9 (by decide) (fun c9 => ?_) (fun c9 => ?_)
    · have n9 : ¬ 1 = 0 := gq_ne c9 (show (1 : Int32) = nI 1 from rfl) (show (0 : Int32) = nI 0 from rfl) (by omega) (by omega)
      refine lv_iload_n X.1 X.2.1 dX5_readEither_14 rfl (lv_at hl 3 rfl) ?_
      refine lv_if_le (tgt := 27) X.1 X.2.1 dX5_readEither_15 (by decide) (fun c15 => ?_) (fun c15 => ?_)
      · have n15 : j ≤ 0 := gq_le c15 (Eq.refl (nI j)) (show (0 : Int32) = nI 0 from rfl) (by omega) (by omega)
        refine lv_iinc (v := nI (j + 1)) (lv' := [(3, .int (nI (j + 1))), (0, .ref rd), (1, .int 4), (2, .int (nI k))]) X.1 X.2.1 dX5_readEither_27 hl (k := 3) rfl (gn_inc (Eq.refl (nI j)) 1) (by decide) rfl (fun ls hl => ?_)
        refine lv_iload_n X.1 X.2.1 dX5_readEither_30 rfl (lv_at hl 0 rfl) ?_
        refine lv_bipush (v := 100) X.1 X.2.1 dX5_readEither_31 (by decide) ?_
        refine lv_icmp_ge (tgt := 45) X.1 X.2.1 dX5_readEither_33 (by decide) (fun c33 => ?_) (fun c33 => ?_)
        · exact absurd (gq_le c33 (show (100 : Int32) = nI 100 from rfl) (Eq.refl (nI (j + 1))) (by omega) (by omega)) (by omega)
        · have n33 : (j + 1) < 100 := gq_nle c33 (show (100 : Int32) = nI 100 from rfl) (Eq.refl (nI (j + 1))) (by omega) (by omega)
          refine lv_aload_n X.1 X.2.1 dX5_readEither_36 rfl (lv_at hl 1 rfl) ?_
          refine va_ldcS X.1 X.2.1 X.2.2.2.1 (vk_R.warm hC.1 hR97) dX5_readEither_37 ?_
          have hX : pEk j 10001 ((pFac tp n 1) (false, pj, flC cs ++ pdj)) = (false, pN1, flC cs ++ pdN1) := (pEk_0 (by omega)).trans hEN1
          have hEv2 : pEvery tp n (pFac tp n 1) (false, pk, flC cs ++ pdk) = pLoop tp n 38 10001 (pFac tp n 1) (101 - j) (false, pN1, flC cs ++ pdN1) := by rw [hEv, hX]
          by_cases h38 : sH tp n pN1 = 38
          · refine g_run_i (f := fun u => u) (g_runV (k := 7) [.ref s97] X hK hP hS hC hB (o_reads_y hRd hs97 h2 ht97 h38) (cwV 1 X.2.2.2.2 gX5_readEither_X5_reads rfl rfl rfl (by decide +kernel) ⟨Nat.le_of_ble_eq_true rfl, Nat.le_of_ble_eq_true rfl⟩) hRd.1.1 rfl rfl hl.1 rfl (Nat.le_of_ble_eq_true rfl) dX5_readEither_39 (by exact ⟨Nat.zero_le _, Nat.zero_le _⟩)) hS (fun r u H locs hq hP hS => ?_)
            obtain ⟨rfl, rfl⟩ := hq
            generalize eJ2 : g2 IN1 rd 0 (nI pN1 + 1) = J2 at hP
            have hP : gP D cy B z T J2 R H := hP
            have hfJ2 : ∀ c j, ¬ (c = rd ∧ j = 0) → J2 c j = IN1 c j := fun c j h => gs_ne eJ2 h rfl
            have hpnJ2 := sH_in h38 (by decide)
            have hFt := hFt.trs (fun c j h1 _ => hfJ2 c j h1)
            have hRd : cRd rd tc a T J2 R tp n (pN1 + 1) := hRd.mv (fun c j h1 _ => hfJ2 c j h1) ((gs_same eJ2).trans (nI_add _ 1)) (by omega)
            have hSr : cSr a J2 cs pdN1 := hSr.k (fun c j g1 g2 => hfJ2 c j (by omega))
            refine lv_if_ne (tgt := 4) X.1 X.2.1 dX5_readEither_42 (by decide) (fun c42 => ?_) (fun c42 => ?_)
            · have n42 : ¬ 1 = 0 := gq_ne c42 (show (1 : Int32) = nI 1 from rfl) (show (0 : Int32) = nI 0 from rfl) (by omega) (by omega)
              exact ih2 _ _ _ _ (by omega) ⟨⟨(pN1 + 1), pdN1, hFt, hRd, hSr, ⟨by omega, by omega⟩, hEv2.trans ((pLoop_go (by omega) ⟨rfl, h38⟩).trans (by rw [pEk_s (by omega)]))⟩, lv_sub hl [1, 2, 3, 0] rfl⟩ hP hS
            · exact absurd c42 (by decide)
          · have hEv3 : pEvery tp n (pFac tp n 1) (false, pk, flC cs ++ pdk) = (false, pN1, flC cs ++ pdN1) := hEv2.trans (pLoop_stop (fun h => h38 h.2))
            have hco9 := co_le (cs := cs) (pd := pdN1)
            refine g_run_i (f := fun u => u) (g_runV (k := 7) [.ref s97] X hK hP hS hC hB (o_reads_n hRd hs97 h2 ht97 h38) (cwV 1 X.2.2.2.2 gX5_readEither_X5_reads rfl rfl rfl (by decide +kernel) ⟨Nat.le_of_ble_eq_true rfl, Nat.le_of_ble_eq_true rfl⟩) hRd.1.1 rfl rfl hl.1 rfl (Nat.le_of_ble_eq_true rfl) dX5_readEither_39 (by exact ⟨Nat.zero_le _, Nat.zero_le _⟩)) hS (fun r u H locs hq hP hS => ?_)
            obtain ⟨rfl, rfl⟩ := hq
            have hP : gP D cy B z T IN1 R H := hP
            refine lv_if_ne (tgt := 4) X.1 X.2.1 dX5_readEither_42 (by decide) (fun c42 => ?_) (fun c42 => ?_)
            · exact absurd rfl c42
            · have n42 : 0 = 0 := gq_eq c42 (show (0 : Int32) = nI 0 from rfl) (show (0 : Int32) = nI 0 from rfl) (by omega) (by omega)
              refine lv_iload_n X.1 X.2.1 dX5_readEither_45 rfl (lv_at hl 3 rfl) ?_
              refine lv_if_le (tgt := 58) X.1 X.2.1 dX5_readEither_46 (by decide) (fun c46 => ?_) (fun c46 => ?_)
              · have n46 : k ≤ 0 := gq_le c46 (Eq.refl (nI k)) (show (0 : Int32) = nI 0 from rfl) (by omega) (by omega)
                refine lv_iinc (v := nI (k + 1)) (lv' := [(2, .int (nI (k + 1))), (3, .int (nI (j + 1))), (0, .ref rd), (1, .int 4)]) X.1 X.2.1 dX5_readEither_58 hl (k := 3) rfl (gn_inc (Eq.refl (nI k)) 1) (by decide) rfl (fun ls hl => ?_)
                refine lv_iload_n X.1 X.2.1 dX5_readEither_61 rfl (lv_at hl 0 rfl) ?_
                refine lv_bipush (v := 100) X.1 X.2.1 dX5_readEither_62 (by decide) ?_
                refine lv_icmp_ge (tgt := 76) X.1 X.2.1 dX5_readEither_64 (by decide) (fun c64 => ?_) (fun c64 => ?_)
                · exact absurd (gq_le c64 (show (100 : Int32) = nI 100 from rfl) (Eq.refl (nI (k + 1))) (by omega) (by omega)) (by omega)
                · have n64 : (k + 1) < 100 := gq_nle c64 (show (100 : Int32) = nI 100 from rfl) (Eq.refl (nI (k + 1))) (by omega) (by omega)
                  refine lv_aload_n X.1 X.2.1 dX5_readEither_67 rfl (lv_at hl 2 rfl) ?_
                  refine va_ldcS X.1 X.2.1 X.2.2.2.1 (vk_R.warm hC.1 hR99) dX5_readEither_68 ?_
                  have hY : pEk k 10002 (pEvery tp n (pFac tp n 1) (false, pk, flC cs ++ pdk)) = (false, pN1, flC cs ++ pdN1) := (pEk_0 (by omega)).trans hEv3
                  have hSo2 : pSome tp n (pFac tp n 1) (false, pl, flC cs ++ pd) = pLoop tp n 124 10002 (pEvery tp n (pFac tp n 1)) (101 - k) (false, pN1, flC cs ++ pdN1) := by rw [hSo, hY]
                  by_cases h124 : sH tp n pN1 = 124
                  · refine g_run_i (f := fun u => u) (g_runV (k := 7) [.ref s99] X hK hP hS hC hB (o_reads_y hRd hs99 h2 ht99 h124) (cwV 1 X.2.2.2.2 gX5_readEither_X5_reads rfl rfl rfl (by decide +kernel) ⟨Nat.le_of_ble_eq_true rfl, Nat.le_of_ble_eq_true rfl⟩) hRd.1.1 rfl rfl hl.1 rfl (Nat.le_of_ble_eq_true rfl) dX5_readEither_70 (by exact ⟨Nat.zero_le _, Nat.zero_le _⟩)) hS (fun r u H locs hq hP hS => ?_)
                    obtain ⟨rfl, rfl⟩ := hq
                    generalize eJ3 : g2 IN1 rd 0 (nI pN1 + 1) = J3 at hP
                    have hP : gP D cy B z T J3 R H := hP
                    have hfJ3 : ∀ c j, ¬ (c = rd ∧ j = 0) → J3 c j = IN1 c j := fun c j h => gs_ne eJ3 h rfl
                    have hpnJ3 := sH_in h124 (by decide)
                    have hFt := hFt.trs (fun c j h1 _ => hfJ3 c j h1)
                    have hRd : cRd rd tc a T J3 R tp n (pN1 + 1) := hRd.mv (fun c j h1 _ => hfJ3 c j h1) ((gs_same eJ3).trans (nI_add _ 1)) (by omega)
                    have hSr : cSr a J3 cs pdN1 := hSr.k (fun c j g1 g2 => hfJ3 c j (by omega))
                    refine lv_if_ne (tgt := 2) X.1 X.2.1 dX5_readEither_73 (by decide) (fun c73 => ?_) (fun c73 => ?_)
                    · have n73 : ¬ 1 = 0 := gq_ne c73 (show (1 : Int32) = nI 1 from rfl) (show (0 : Int32) = nI 0 from rfl) (by omega) (by omega)
                      exact ih _ _ _ _ (by omega) ⟨⟨(pN1 + 1), pdN1, hFt, hRd, hSr, ⟨by omega, by omega⟩, hSo2.trans ((pLoop_go (by omega) ⟨rfl, h124⟩).trans (by rw [pEk_s (by omega)]))⟩, lv_sub hl [2, 3, 0] rfl⟩ hP hS
                    · exact absurd c73 (by decide)
                  · refine g_run_i (f := fun u => u) (g_runV (k := 7) [.ref s99] X hK hP hS hC hB (o_reads_n hRd hs99 h2 ht99 h124) (cwV 1 X.2.2.2.2 gX5_readEither_X5_reads rfl rfl rfl (by decide +kernel) ⟨Nat.le_of_ble_eq_true rfl, Nat.le_of_ble_eq_true rfl⟩) hRd.1.1 rfl rfl hl.1 rfl (Nat.le_of_ble_eq_true rfl) dX5_readEither_70 (by exact ⟨Nat.zero_le _, Nat.zero_le _⟩)) hS (fun r u H locs hq hP hS => ?_)
                    obtain ⟨rfl, rfl⟩ := hq
                    have hP : gP D cy B z T IN1 R H := hP
                    refine lv_if_ne (tgt := 2) X.1 X.2.1 dX5_readEither_73 (by decide) (fun c73 => ?_) (fun c73 => ?_)
                    · exact absurd rfl c73
                    · have n73 : 0 = 0 := gq_eq c73 (show (0 : Int32) = nI 0 from rfl) (show (0 : Int32) = nI 0 from rfl) (by omega) (by omega)
                      refine lv_iconst (v := 1) X.1 X.2.1 dX5_readEither_76 (by decide) ?_
                      exact g_zret (f := fun u => u) (z, T, IN1, R) X hr hlk hK hP hS dX5_readEither_77 rfl ⟨IN1, pN1, rfl, hFt, hRd.2.2.2.1, Or.inl ⟨rfl, _, (hSo2.trans (pLoop_stop (fun h => h124 h.2))), hSr⟩⟩
              · have n46 : 0 < k := gq_nle c46 (Eq.refl (nI k)) (show (0 : Int32) = nI 0 from rfl) (by omega) (by omega)
                refine lv_aload_n X.1 X.2.1 dX5_readEither_49 rfl (lv_at hl 1 rfl) ?_
                refine g_getr 7 3 X hK hP hRd.1.1 rfl hinRX5 rfl (by decide) k31 (fun _ h => h) dX5_readEither_50 (show va_rf (R rd 3) = .ref a from by rw [hRd.1.2.2.1]; rfl) ?_
                refine lv_bipush (v := (-3)) X.1 X.2.1 dX5_readEither_53 (by decide) ?_
                refine g_run_v (f := fun u => u) (g_runV (k := 6) [.int (-3)] X hK hP hS hC hB (o_put hRd.1.2.2.2.2 hSr.2.2.2.1 (by omega)) (cwV 1 X.2.2.2.2 gX5_readEither_X4_put rfl rfl rfl (by decide +kernel) ⟨Nat.le_of_ble_eq_true rfl, Nat.le_of_ble_eq_true rfl⟩) hRd.1.2.2.2.2.1 rfl rfl hl.1 rfl (Nat.le_of_ble_eq_true rfl) dX5_readEither_55 (by exact ⟨Nat.zero_le _, Nat.zero_le _⟩)) hS (fun u H locs hq hP hS => ?_)
                subst hq
                generalize eJ4 : g2 IN1 (a + 4) ((coC cs ++ pdN1).length) (-3) = J4 at hP
                generalize eJ5 : g2 J4 a 7 (nI ((coC cs ++ pdN1).length) + 1) = J5 at hP
                have hP : gP D cy B z T J5 R H := hP
                have hFt := hFt.trs (fun c j h1 h2 => gs_ne eJ5 (by omega) (gs_ne eJ4 (by omega) rfl))
                have hRd : cRd rd tc a T J5 R tp n pN1 := hRd.mv (fun c j h1 h2 => gs_ne eJ5 (by omega) (gs_ne eJ4 (by omega) rfl)) (gs_ne eJ5 (by omega) (gs_ne eJ4 (by omega) hRd.2.2.2.1)) (by omega)
                have hSr : cSr a J5 cs (pdN1 ++ [10002]) := hSr.push (by omega) (by omega) rfl eJ4 eJ5
                have hflJ5 := fl1 (cs := cs) (pd := pdN1) (t := 10002)
                refine lv_iinc (v := nI (k + 1)) (lv' := [(2, .int (nI (k + 1))), (3, .int (nI (j + 1))), (0, .ref rd), (1, .int 4)]) X.1 X.2.1 dX5_readEither_58 hl (k := 3) rfl (gn_inc (Eq.refl (nI k)) 1) (by decide) rfl (fun ls hl => ?_)
                refine lv_iload_n X.1 X.2.1 dX5_readEither_61 rfl (lv_at hl 0 rfl) ?_
                refine lv_bipush (v := 100) X.1 X.2.1 dX5_readEither_62 (by decide) ?_
                refine lv_icmp_ge (tgt := 76) X.1 X.2.1 dX5_readEither_64 (by decide) (fun c64 => ?_) (fun c64 => ?_)
                · exact absurd (gq_le c64 (show (100 : Int32) = nI 100 from rfl) (Eq.refl (nI (k + 1))) (by omega) (by omega)) (by omega)
                · have n64 : (k + 1) < 100 := gq_nle c64 (show (100 : Int32) = nI 100 from rfl) (Eq.refl (nI (k + 1))) (by omega) (by omega)
                  refine lv_aload_n X.1 X.2.1 dX5_readEither_67 rfl (lv_at hl 2 rfl) ?_
                  refine va_ldcS X.1 X.2.1 X.2.2.2.1 (vk_R.warm hC.1 hR99) dX5_readEither_68 ?_
                  have hY : pEk k 10002 (pEvery tp n (pFac tp n 1) (false, pk, flC cs ++ pdk)) = (false, pN1, flC cs ++ (pdN1 ++ [10002])) := by rw [pEk_s (by omega), hEv3, pEm_f, List.append_assoc]
                  have hSo2 : pSome tp n (pFac tp n 1) (false, pl, flC cs ++ pd) = pLoop tp n 124 10002 (pEvery tp n (pFac tp n 1)) (101 - k) (false, pN1, flC cs ++ (pdN1 ++ [10002])) := by rw [hSo, hY]
                  by_cases h124 : sH tp n pN1 = 124
                  · refine g_run_i (f := fun u => u) (g_runV (k := 7) [.ref s99] X hK hP hS hC hB (o_reads_y hRd hs99 h2 ht99 h124) (cwV 1 X.2.2.2.2 gX5_readEither_X5_reads rfl rfl rfl (by decide +kernel) ⟨Nat.le_of_ble_eq_true rfl, Nat.le_of_ble_eq_true rfl⟩) hRd.1.1 rfl rfl hl.1 rfl (Nat.le_of_ble_eq_true rfl) dX5_readEither_70 (by exact ⟨Nat.zero_le _, Nat.zero_le _⟩)) hS (fun r u H locs hq hP hS => ?_)
                    obtain ⟨rfl, rfl⟩ := hq
                    generalize eJ6 : g2 J5 rd 0 (nI pN1 + 1) = J6 at hP
                    have hP : gP D cy B z T J6 R H := hP
                    have hfJ6 : ∀ c j, ¬ (c = rd ∧ j = 0) → J6 c j = J5 c j := fun c j h => gs_ne eJ6 h rfl
                    have hpnJ6 := sH_in h124 (by decide)
                    have hFt := hFt.trs (fun c j h1 _ => hfJ6 c j h1)
                    have hRd : cRd rd tc a T J6 R tp n (pN1 + 1) := hRd.mv (fun c j h1 _ => hfJ6 c j h1) ((gs_same eJ6).trans (nI_add _ 1)) (by omega)
                    have hSr : cSr a J6 cs (pdN1 ++ [10002]) := hSr.k (fun c j g1 g2 => hfJ6 c j (by omega))
                    refine lv_if_ne (tgt := 2) X.1 X.2.1 dX5_readEither_73 (by decide) (fun c73 => ?_) (fun c73 => ?_)
                    · have n73 : ¬ 1 = 0 := gq_ne c73 (show (1 : Int32) = nI 1 from rfl) (show (0 : Int32) = nI 0 from rfl) (by omega) (by omega)
                      exact ih _ _ _ _ (by omega) ⟨⟨(pN1 + 1), (pdN1 ++ [10002]), hFt, hRd, hSr, ⟨by omega, by omega⟩, hSo2.trans ((pLoop_go (by omega) ⟨rfl, h124⟩).trans (by rw [pEk_s (by omega)]))⟩, lv_sub hl [2, 3, 0] rfl⟩ hP hS
                    · exact absurd c73 (by decide)
                  · refine g_run_i (f := fun u => u) (g_runV (k := 7) [.ref s99] X hK hP hS hC hB (o_reads_n hRd hs99 h2 ht99 h124) (cwV 1 X.2.2.2.2 gX5_readEither_X5_reads rfl rfl rfl (by decide +kernel) ⟨Nat.le_of_ble_eq_true rfl, Nat.le_of_ble_eq_true rfl⟩) hRd.1.1 rfl rfl hl.1 rfl (Nat.le_of_ble_eq_true rfl) dX5_readEither_70 (by exact ⟨Nat.zero_le _, Nat.zero_le _⟩)) hS (fun r u H locs hq hP hS => ?_)
                    obtain ⟨rfl, rfl⟩ := hq
                    have hP : gP D cy B z T J5 R H := hP
                    refine lv_if_ne (tgt := 2) X.1 X.2.1 dX5_readEither_73 (by decide) (fun c73 => ?_) (fun c73 => ?_)
                    · exact absurd rfl c73
                    · have n73 : 0 = 0 := gq_eq c73 (show (0 : Int32) = nI 0 from rfl) (show (0 : Int32) = nI 0 from rfl) (by omega) (by omega)
                      refine lv_iconst (v := 1) X.1 X.2.1 dX5_readEither_76 (by decide) ?_
                      exact g_zret (f := fun u => u) (z, T, J5, R) X hr hlk hK hP hS dX5_readEither_77 rfl ⟨J5, pN1, rfl, hFt, hRd.2.2.2.1, Or.inl ⟨rfl, _, (hSo2.trans (pLoop_stop (fun h => h124 h.2))), hSr⟩⟩
      · have n15 : 0 < j := gq_nle c15 (Eq.refl (nI j)) (show (0 : Int32) = nI 0 from rfl) (by omega) (by omega)
        refine lv_aload_n X.1 X.2.1 dX5_readEither_18 rfl (lv_at hl 0 rfl) ?_
        refine g_getr 7 3 X hK hP hRd.1.1 rfl hinRX5 rfl (by decide) k31 (fun _ h => h) dX5_readEither_19 (show va_rf (R rd 3) = .ref a from by rw [hRd.1.2.2.1]; rfl) ?_
        refine lv_bipush (v := (-2)) X.1 X.2.1 dX5_readEither_22 (by decide) ?_
        refine g_run_v (f := fun u => u) (g_runV (k := 6) [.int (-2)] X hK hP hS hC hB (o_put hRd.1.2.2.2.2 hSr.2.2.2.1 (by omega)) (cwV 1 X.2.2.2.2 gX5_readEither_X4_put rfl rfl rfl (by decide +kernel) ⟨Nat.le_of_ble_eq_true rfl, Nat.le_of_ble_eq_true rfl⟩) hRd.1.2.2.2.2.1 rfl rfl hl.1 rfl (Nat.le_of_ble_eq_true rfl) dX5_readEither_24 (by exact ⟨Nat.zero_le _, Nat.zero_le _⟩)) hS (fun u H locs hq hP hS => ?_)
        subst hq
        generalize eJ7 : g2 IN1 (a + 4) ((coC cs ++ pdN1).length) (-2) = J7 at hP
        generalize eJ8 : g2 J7 a 7 (nI ((coC cs ++ pdN1).length) + 1) = J8 at hP
        have hP : gP D cy B z T J8 R H := hP
        have hFt := hFt.trs (fun c j h1 h2 => gs_ne eJ8 (by omega) (gs_ne eJ7 (by omega) rfl))
        have hRd : cRd rd tc a T J8 R tp n pN1 := hRd.mv (fun c j h1 h2 => gs_ne eJ8 (by omega) (gs_ne eJ7 (by omega) rfl)) (gs_ne eJ8 (by omega) (gs_ne eJ7 (by omega) hRd.2.2.2.1)) (by omega)
        have hSr : cSr a J8 cs (pdN1 ++ [10001]) := hSr.push (by omega) (by omega) rfl eJ7 eJ8
        have hflJ8 := fl1 (cs := cs) (pd := pdN1) (t := 10001)
        refine lv_iinc (v := nI (j + 1)) (lv' := [(3, .int (nI (j + 1))), (0, .ref rd), (1, .int 4), (2, .int (nI k))]) X.1 X.2.1 dX5_readEither_27 hl (k := 3) rfl (gn_inc (Eq.refl (nI j)) 1) (by decide) rfl (fun ls hl => ?_)
        refine lv_iload_n X.1 X.2.1 dX5_readEither_30 rfl (lv_at hl 0 rfl) ?_
        refine lv_bipush (v := 100) X.1 X.2.1 dX5_readEither_31 (by decide) ?_
        refine lv_icmp_ge (tgt := 45) X.1 X.2.1 dX5_readEither_33 (by decide) (fun c33 => ?_) (fun c33 => ?_)
        · exact absurd (gq_le c33 (show (100 : Int32) = nI 100 from rfl) (Eq.refl (nI (j + 1))) (by omega) (by omega)) (by omega)
        · have n33 : (j + 1) < 100 := gq_nle c33 (show (100 : Int32) = nI 100 from rfl) (Eq.refl (nI (j + 1))) (by omega) (by omega)
          refine lv_aload_n X.1 X.2.1 dX5_readEither_36 rfl (lv_at hl 1 rfl) ?_
          refine va_ldcS X.1 X.2.1 X.2.2.2.1 (vk_R.warm hC.1 hR97) dX5_readEither_37 ?_
          have hX : pEk j 10001 ((pFac tp n 1) (false, pj, flC cs ++ pdj)) = (false, pN1, flC cs ++ (pdN1 ++ [10001])) := by rw [pEk_s (by omega), hEN1, pEm_f, List.append_assoc]
          have hEv2 : pEvery tp n (pFac tp n 1) (false, pk, flC cs ++ pdk) = pLoop tp n 38 10001 (pFac tp n 1) (101 - j) (false, pN1, flC cs ++ (pdN1 ++ [10001])) := by rw [hEv, hX]
          by_cases h38 : sH tp n pN1 = 38
          · refine g_run_i (f := fun u => u) (g_runV (k := 7) [.ref s97] X hK hP hS hC hB (o_reads_y hRd hs97 h2 ht97 h38) (cwV 1 X.2.2.2.2 gX5_readEither_X5_reads rfl rfl rfl (by decide +kernel) ⟨Nat.le_of_ble_eq_true rfl, Nat.le_of_ble_eq_true rfl⟩) hRd.1.1 rfl rfl hl.1 rfl (Nat.le_of_ble_eq_true rfl) dX5_readEither_39 (by exact ⟨Nat.zero_le _, Nat.zero_le _⟩)) hS (fun r u H locs hq hP hS => ?_)
            obtain ⟨rfl, rfl⟩ := hq
            generalize eJ9 : g2 J8 rd 0 (nI pN1 + 1) = J9 at hP
            have hP : gP D cy B z T J9 R H := hP
            have hfJ9 : ∀ c j, ¬ (c = rd ∧ j = 0) → J9 c j = J8 c j := fun c j h => gs_ne eJ9 h rfl
            have hpnJ9 := sH_in h38 (by decide)
            have hFt := hFt.trs (fun c j h1 _ => hfJ9 c j h1)
            have hRd : cRd rd tc a T J9 R tp n (pN1 + 1) := hRd.mv (fun c j h1 _ => hfJ9 c j h1) ((gs_same eJ9).trans (nI_add _ 1)) (by omega)
            have hSr : cSr a J9 cs (pdN1 ++ [10001]) := hSr.k (fun c j g1 g2 => hfJ9 c j (by omega))
            refine lv_if_ne (tgt := 4) X.1 X.2.1 dX5_readEither_42 (by decide) (fun c42 => ?_) (fun c42 => ?_)
            · have n42 : ¬ 1 = 0 := gq_ne c42 (show (1 : Int32) = nI 1 from rfl) (show (0 : Int32) = nI 0 from rfl) (by omega) (by omega)
              exact ih2 _ _ _ _ (by omega) ⟨⟨(pN1 + 1), (pdN1 ++ [10001]), hFt, hRd, hSr, ⟨by omega, by omega⟩, hEv2.trans ((pLoop_go (by omega) ⟨rfl, h38⟩).trans (by rw [pEk_s (by omega)]))⟩, lv_sub hl [1, 2, 3, 0] rfl⟩ hP hS
            · exact absurd c42 (by decide)
          · have hEv3 : pEvery tp n (pFac tp n 1) (false, pk, flC cs ++ pdk) = (false, pN1, flC cs ++ (pdN1 ++ [10001])) := hEv2.trans (pLoop_stop (fun h => h38 h.2))
            have hco9 := co_le (cs := cs) (pd := (pdN1 ++ [10001]))
            refine g_run_i (f := fun u => u) (g_runV (k := 7) [.ref s97] X hK hP hS hC hB (o_reads_n hRd hs97 h2 ht97 h38) (cwV 1 X.2.2.2.2 gX5_readEither_X5_reads rfl rfl rfl (by decide +kernel) ⟨Nat.le_of_ble_eq_true rfl, Nat.le_of_ble_eq_true rfl⟩) hRd.1.1 rfl rfl hl.1 rfl (Nat.le_of_ble_eq_true rfl) dX5_readEither_39 (by exact ⟨Nat.zero_le _, Nat.zero_le _⟩)) hS (fun r u H locs hq hP hS => ?_)
            obtain ⟨rfl, rfl⟩ := hq
            have hP : gP D cy B z T J8 R H := hP
            refine lv_if_ne (tgt := 4) X.1 X.2.1 dX5_readEither_42 (by decide) (fun c42 => ?_) (fun c42 => ?_)
            · exact absurd rfl c42
            · have n42 : 0 = 0 := gq_eq c42 (show (0 : Int32) = nI 0 from rfl) (show (0 : Int32) = nI 0 from rfl) (by omega) (by omega)
              refine lv_iload_n X.1 X.2.1 dX5_readEither_45 rfl (lv_at hl 3 rfl) ?_
              refine lv_if_le (tgt := 58) X.1 X.2.1 dX5_readEither_46 (by decide) (fun c46 => ?_) (fun c46 => ?_)
              · have n46 : k ≤ 0 := gq_le c46 (Eq.refl (nI k)) (show (0 : Int32) = nI 0 from rfl) (by omega) (by omega)
                refine lv_iinc (v := nI (k + 1)) (lv' := [(2, .int (nI (k + 1))), (3, .int (nI (j + 1))), (0, .ref rd), (1, .int 4)]) X.1 X.2.1 dX5_readEither_58 hl (k := 3) rfl (gn_inc (Eq.refl (nI k)) 1) (by decide) rfl (fun ls hl => ?_)
                refine lv_iload_n X.1 X.2.1 dX5_readEither_61 rfl (lv_at hl 0 rfl) ?_
                refine lv_bipush (v := 100) X.1 X.2.1 dX5_readEither_62 (by decide) ?_
                refine lv_icmp_ge (tgt := 76) X.1 X.2.1 dX5_readEither_64 (by decide) (fun c64 => ?_) (fun c64 => ?_)
                · exact absurd (gq_le c64 (show (100 : Int32) = nI 100 from rfl) (Eq.refl (nI (k + 1))) (by omega) (by omega)) (by omega)
                · have n64 : (k + 1) < 100 := gq_nle c64 (show (100 : Int32) = nI 100 from rfl) (Eq.refl (nI (k + 1))) (by omega) (by omega)
                  refine lv_aload_n X.1 X.2.1 dX5_readEither_67 rfl (lv_at hl 2 rfl) ?_
                  refine va_ldcS X.1 X.2.1 X.2.2.2.1 (vk_R.warm hC.1 hR99) dX5_readEither_68 ?_
                  have hY : pEk k 10002 (pEvery tp n (pFac tp n 1) (false, pk, flC cs ++ pdk)) = (false, pN1, flC cs ++ (pdN1 ++ [10001])) := (pEk_0 (by omega)).trans hEv3
                  have hSo2 : pSome tp n (pFac tp n 1) (false, pl, flC cs ++ pd) = pLoop tp n 124 10002 (pEvery tp n (pFac tp n 1)) (101 - k) (false, pN1, flC cs ++ (pdN1 ++ [10001])) := by rw [hSo, hY]
                  by_cases h124 : sH tp n pN1 = 124
                  · refine g_run_i (f := fun u => u) (g_runV (k := 7) [.ref s99] X hK hP hS hC hB (o_reads_y hRd hs99 h2 ht99 h124) (cwV 1 X.2.2.2.2 gX5_readEither_X5_reads rfl rfl rfl (by decide +kernel) ⟨Nat.le_of_ble_eq_true rfl, Nat.le_of_ble_eq_true rfl⟩) hRd.1.1 rfl rfl hl.1 rfl (Nat.le_of_ble_eq_true rfl) dX5_readEither_70 (by exact ⟨Nat.zero_le _, Nat.zero_le _⟩)) hS (fun r u H locs hq hP hS => ?_)
                    obtain ⟨rfl, rfl⟩ := hq
                    generalize eJ10 : g2 J8 rd 0 (nI pN1 + 1) = J10 at hP
                    have hP : gP D cy B z T J10 R H := hP
                    have hfJ10 : ∀ c j, ¬ (c = rd ∧ j = 0) → J10 c j = J8 c j := fun c j h => gs_ne eJ10 h rfl
                    have hpnJ10 := sH_in h124 (by decide)
                    have hFt := hFt.trs (fun c j h1 _ => hfJ10 c j h1)
                    have hRd : cRd rd tc a T J10 R tp n (pN1 + 1) := hRd.mv (fun c j h1 _ => hfJ10 c j h1) ((gs_same eJ10).trans (nI_add _ 1)) (by omega)
                    have hSr : cSr a J10 cs (pdN1 ++ [10001]) := hSr.k (fun c j g1 g2 => hfJ10 c j (by omega))
                    refine lv_if_ne (tgt := 2) X.1 X.2.1 dX5_readEither_73 (by decide) (fun c73 => ?_) (fun c73 => ?_)
                    · have n73 : ¬ 1 = 0 := gq_ne c73 (show (1 : Int32) = nI 1 from rfl) (show (0 : Int32) = nI 0 from rfl) (by omega) (by omega)
                      exact ih _ _ _ _ (by omega) ⟨⟨(pN1 + 1), (pdN1 ++ [10001]), hFt, hRd, hSr, ⟨by omega, by omega⟩, hSo2.trans ((pLoop_go (by omega) ⟨rfl, h124⟩).trans (by rw [pEk_s (by omega)]))⟩, lv_sub hl [2, 3, 0] rfl⟩ hP hS
                    · exact absurd c73 (by decide)
                  · refine g_run_i (f := fun u => u) (g_runV (k := 7) [.ref s99] X hK hP hS hC hB (o_reads_n hRd hs99 h2 ht99 h124) (cwV 1 X.2.2.2.2 gX5_readEither_X5_reads rfl rfl rfl (by decide +kernel) ⟨Nat.le_of_ble_eq_true rfl, Nat.le_of_ble_eq_true rfl⟩) hRd.1.1 rfl rfl hl.1 rfl (Nat.le_of_ble_eq_true rfl) dX5_readEither_70 (by exact ⟨Nat.zero_le _, Nat.zero_le _⟩)) hS (fun r u H locs hq hP hS => ?_)
                    obtain ⟨rfl, rfl⟩ := hq
                    have hP : gP D cy B z T J8 R H := hP
                    refine lv_if_ne (tgt := 2) X.1 X.2.1 dX5_readEither_73 (by decide) (fun c73 => ?_) (fun c73 => ?_)
                    · exact absurd rfl c73
                    · have n73 : 0 = 0 := gq_eq c73 (show (0 : Int32) = nI 0 from rfl) (show (0 : Int32) = nI 0 from rfl) (by omega) (by omega)
                      refine lv_iconst (v := 1) X.1 X.2.1 dX5_readEither_76 (by decide) ?_
                      exact g_zret (f := fun u => u) (z, T, J8, R) X hr hlk hK hP hS dX5_readEither_77 rfl ⟨J8, pN1, rfl, hFt, hRd.2.2.2.1, Or.inl ⟨rfl, _, (hSo2.trans (pLoop_stop (fun h => h124 h.2))), hSr⟩⟩
              · have n46 : 0 < k := gq_nle c46 (Eq.refl (nI k)) (show (0 : Int32) = nI 0 from rfl) (by omega) (by omega)
                refine lv_aload_n X.1 X.2.1 dX5_readEither_49 rfl (lv_at hl 1 rfl) ?_
                refine g_getr 7 3 X hK hP hRd.1.1 rfl hinRX5 rfl (by decide) k31 (fun _ h => h) dX5_readEither_50 (show va_rf (R rd 3) = .ref a from by rw [hRd.1.2.2.1]; rfl) ?_
                refine lv_bipush (v := (-3)) X.1 X.2.1 dX5_readEither_53 (by decide) ?_
                refine g_run_v (f := fun u => u) (g_runV (k := 6) [.int (-3)] X hK hP hS hC hB (o_put hRd.1.2.2.2.2 hSr.2.2.2.1 (by omega)) (cwV 1 X.2.2.2.2 gX5_readEither_X4_put rfl rfl rfl (by decide +kernel) ⟨Nat.le_of_ble_eq_true rfl, Nat.le_of_ble_eq_true rfl⟩) hRd.1.2.2.2.2.1 rfl rfl hl.1 rfl (Nat.le_of_ble_eq_true rfl) dX5_readEither_55 (by exact ⟨Nat.zero_le _, Nat.zero_le _⟩)) hS (fun u H locs hq hP hS => ?_)
                subst hq
                generalize eJ11 : g2 J8 (a + 4) ((coC cs ++ (pdN1 ++ [10001])).length) (-3) = J11 at hP
                generalize eJ12 : g2 J11 a 7 (nI ((coC cs ++ (pdN1 ++ [10001])).length) + 1) = J12 at hP
                have hP : gP D cy B z T J12 R H := hP
                have hFt := hFt.trs (fun c j h1 h2 => gs_ne eJ12 (by omega) (gs_ne eJ11 (by omega) rfl))
                have hRd : cRd rd tc a T J12 R tp n pN1 := hRd.mv (fun c j h1 h2 => gs_ne eJ12 (by omega) (gs_ne eJ11 (by omega) rfl)) (gs_ne eJ12 (by omega) (gs_ne eJ11 (by omega) hRd.2.2.2.1)) (by omega)
                have hSr : cSr a J12 cs ((pdN1 ++ [10001]) ++ [10002]) := hSr.push (by omega) (by omega) rfl eJ11 eJ12
                have hflJ12 := fl1 (cs := cs) (pd := (pdN1 ++ [10001])) (t := 10002)
                refine lv_iinc (v := nI (k + 1)) (lv' := [(2, .int (nI (k + 1))), (3, .int (nI (j + 1))), (0, .ref rd), (1, .int 4)]) X.1 X.2.1 dX5_readEither_58 hl (k := 3) rfl (gn_inc (Eq.refl (nI k)) 1) (by decide) rfl (fun ls hl => ?_)
                refine lv_iload_n X.1 X.2.1 dX5_readEither_61 rfl (lv_at hl 0 rfl) ?_
                refine lv_bipush (v := 100) X.1 X.2.1 dX5_readEither_62 (by decide) ?_
                refine lv_icmp_ge (tgt := 76) X.1 X.2.1 dX5_readEither_64 (by decide) (fun c64 => ?_) (fun c64 => ?_)
                · exact absurd (gq_le c64 (show (100 : Int32) = nI 100 from rfl) (Eq.refl (nI (k + 1))) (by omega) (by omega)) (by omega)
                · have n64 : (k + 1) < 100 := gq_nle c64 (show (100 : Int32) = nI 100 from rfl) (Eq.refl (nI (k + 1))) (by omega) (by omega)
                  refine lv_aload_n X.1 X.2.1 dX5_readEither_67 rfl (lv_at hl 2 rfl) ?_
                  refine va_ldcS X.1 X.2.1 X.2.2.2.1 (vk_R.warm hC.1 hR99) dX5_readEither_68 ?_
                  have hY : pEk k 10002 (pEvery tp n (pFac tp n 1) (false, pk, flC cs ++ pdk)) = (false, pN1, flC cs ++ ((pdN1 ++ [10001]) ++ [10002])) := by rw [pEk_s (by omega), hEv3, pEm_f, List.append_assoc]
                  have hSo2 : pSome tp n (pFac tp n 1) (false, pl, flC cs ++ pd) = pLoop tp n 124 10002 (pEvery tp n (pFac tp n 1)) (101 - k) (false, pN1, flC cs ++ ((pdN1 ++ [10001]) ++ [10002])) := by rw [hSo, hY]
                  by_cases h124 : sH tp n pN1 = 124
                  · refine g_run_i (f := fun u => u) (g_runV (k := 7) [.ref s99] X hK hP hS hC hB (o_reads_y hRd hs99 h2 ht99 h124) (cwV 1 X.2.2.2.2 gX5_readEither_X5_reads rfl rfl rfl (by decide +kernel) ⟨Nat.le_of_ble_eq_true rfl, Nat.le_of_ble_eq_true rfl⟩) hRd.1.1 rfl rfl hl.1 rfl (Nat.le_of_ble_eq_true rfl) dX5_readEither_70 (by exact ⟨Nat.zero_le _, Nat.zero_le _⟩)) hS (fun r u H locs hq hP hS => ?_)
                    obtain ⟨rfl, rfl⟩ := hq
                    generalize eJ13 : g2 J12 rd 0 (nI pN1 + 1) = J13 at hP
                    have hP : gP D cy B z T J13 R H := hP
                    have hfJ13 : ∀ c j, ¬ (c = rd ∧ j = 0) → J13 c j = J12 c j := fun c j h => gs_ne eJ13 h rfl
                    have hpnJ13 := sH_in h124 (by decide)
                    have hFt := hFt.trs (fun c j h1 _ => hfJ13 c j h1)
                    have hRd : cRd rd tc a T J13 R tp n (pN1 + 1) := hRd.mv (fun c j h1 _ => hfJ13 c j h1) ((gs_same eJ13).trans (nI_add _ 1)) (by omega)
                    have hSr : cSr a J13 cs ((pdN1 ++ [10001]) ++ [10002]) := hSr.k (fun c j g1 g2 => hfJ13 c j (by omega))
                    refine lv_if_ne (tgt := 2) X.1 X.2.1 dX5_readEither_73 (by decide) (fun c73 => ?_) (fun c73 => ?_)
                    · have n73 : ¬ 1 = 0 := gq_ne c73 (show (1 : Int32) = nI 1 from rfl) (show (0 : Int32) = nI 0 from rfl) (by omega) (by omega)
                      exact ih _ _ _ _ (by omega) ⟨⟨(pN1 + 1), ((pdN1 ++ [10001]) ++ [10002]), hFt, hRd, hSr, ⟨by omega, by omega⟩, hSo2.trans ((pLoop_go (by omega) ⟨rfl, h124⟩).trans (by rw [pEk_s (by omega)]))⟩, lv_sub hl [2, 3, 0] rfl⟩ hP hS
                    · exact absurd c73 (by decide)
                  · refine g_run_i (f := fun u => u) (g_runV (k := 7) [.ref s99] X hK hP hS hC hB (o_reads_n hRd hs99 h2 ht99 h124) (cwV 1 X.2.2.2.2 gX5_readEither_X5_reads rfl rfl rfl (by decide +kernel) ⟨Nat.le_of_ble_eq_true rfl, Nat.le_of_ble_eq_true rfl⟩) hRd.1.1 rfl rfl hl.1 rfl (Nat.le_of_ble_eq_true rfl) dX5_readEither_70 (by exact ⟨Nat.zero_le _, Nat.zero_le _⟩)) hS (fun r u H locs hq hP hS => ?_)
                    obtain ⟨rfl, rfl⟩ := hq
                    have hP : gP D cy B z T J12 R H := hP
                    refine lv_if_ne (tgt := 2) X.1 X.2.1 dX5_readEither_73 (by decide) (fun c73 => ?_) (fun c73 => ?_)
                    · exact absurd rfl c73
                    · have n73 : 0 = 0 := gq_eq c73 (show (0 : Int32) = nI 0 from rfl) (show (0 : Int32) = nI 0 from rfl) (by omega) (by omega)
                      refine lv_iconst (v := 1) X.1 X.2.1 dX5_readEither_76 (by decide) ?_
                      exact g_zret (f := fun u => u) (z, T, J12, R) X hr hlk hK hP hS dX5_readEither_77 rfl ⟨J12, pN1, rfl, hFt, hRd.2.2.2.1, Or.inl ⟨rfl, _, (hSo2.trans (pLoop_stop (fun h => h124 h.2))), hSr⟩⟩
    · exact absurd c9 (by decide)
  · rw [hEN1] at hwN1
    have hwN1 : pj ≤ pN1 ∧ pN1 ≤ n := ⟨hwN1.1, hwN1.2.1⟩
    have hFt := hFt.trs hfN1
    have hEv3 : pEvery tp n (pFac tp n 1) (false, pk, flC cs ++ pdk) = (true, pN1, LN1) := by rw [hEv, hEN1, pEk_t]; exact pLoop_stop (fun h => Bool.noConfusion h.1)
    refine lv_if_ne (tgt := 14) X.1 X.2.1 dX5_readEither_9 (by decide) (fun c9 => ?_) (fun c9 => ?_)
    · exact absurd rfl c9
    · have n9 : 0 = 0 := gq_eq c9 (show (0 : Int32) = nI 0 from rfl) (show (0 : Int32) = nI 0 from rfl) (by omega) (by omega)
      refine lv_iconst (v := 0) X.1 X.2.1 dX5_readEither_12 (by decide) ?_
      exact g_zret (f := fun u => u) (z, T, IN1, R) X hr hlk hK hP hS dX5_readEither_13 rfl ⟨IN1, pN1, rfl, hFt, hpN1, Or.inr ⟨rfl, LN1, (by rw [hSo, hEv3, pEk_t]; exact pLoop_stop (fun h => Bool.noConfusion h.1))⟩⟩

set_option maxHeartbeats 4000000 in
set_option maxRecDepth 100000 in
/-- o_part_2 -/
theorem o_part_2 (hRd : cRd rd tc a T I R tp n pl) (hstr : gStr s0 B) (hSr : cSr a I cs pd) (hLp : (flC cs ++ pd).length ≤ pl) (hp2 : 2 ≤ pl) : Met l yX5_readPart wsX5_readPart ({ frames := 11, cells := 0, slots := 0, locals := 246 }) (va_Pc [.ref rd, .int 3] (gW0 s0 D cy B (z, T, I, R))) (va_Qi (fun r u => ∃ I' p', u = (z, T, I', R) ∧ rFr rd a I I' ∧ I' rd 0 = nI p' ∧ ((r = 1 ∧ ∃ pd', pFac tp n 2 (false, pl, flC cs ++ pd) = (false, p', flC cs ++ pd') ∧ cSr a I' cs pd') ∨ (r = 0 ∧ ∃ L', pFac tp n 2 (false, pl, flC cs ++ pd) = (true, p', L')))) (fun u t => gW1 D cy B u t) (gA B)) 0 0 (gA B) := by
  refine g_met (maxL := 2) (ret := (some .boolean)) (by decide) rfl (Nat.le_of_ble_eq_true rfl) (fun p e s m args below meth c ls X hr hlk hnm hK hP hC hS hl => ?_)
  have hl : lv_has ls 2 [(0, .ref rd), (1, .int 3)] := hl
  have hP : gP D cy B z T I R s.heap := hP
  have hB : B ≤ s.heap.size := by rw [hP.1]; exact hP.2.1
  have hinRX5 : ∀ w ∈ wsX50, w ∈ wsX5_readPart := fun _ h => List.mem_cons_of_mem _ (List.mem_append_left _ (List.mem_append_right _ h))
  have k31 : Cond.fieldLink RX5 31 "BarrowPlank$SiteReader" "draft" "LBarrowPlank$Site;" ∈ wsX5_readPart := by decide +kernel
  have hn100 := hRd.2.2.1.1
  have hpn := hRd.2.2.1.2.1
  have htp := hRd.2.2.1.2.2
  have hrda := hRd.2.1.1
  have htca := hRd.2.1.2.1
  have hrdt := hRd.2.1.2.2
  have h2 : gSt2 s0 B := hstr.1
  obtain ⟨s101, q101, hR101, hs101, ht101⟩ := hstr.at 12 rfl
  have hs101 : gSo s0 B [33] s101 q101 := hs101
  have ht101 : gTx [33] := ht101
  obtain ⟨s103, q103, hR103, hs103, ht103⟩ := hstr.at 13 rfl
  have hs103 : gSo s0 B [40] s103 q103 := hs103
  have ht103 : gTx [40] := ht103
  obtain ⟨s105, q105, hR105, hs105, ht105⟩ := hstr.at 14 rfl
  have hs105 : gSo s0 B [41] s105 q105 := hs105
  have ht105 : gTx [41] := ht105
  have hFt : rFr rd a I I := rFr.rf
  have hco := co_le (cs := cs) (pd := pd)
  by_cases hb1 : sH tp n pl = 33
  · refine lv_iload_n X.1 X.2.1 dX5_readPart_0 rfl (lv_at hl 1 rfl) ?_
    refine lv_iconst (v := 5) X.1 X.2.1 dX5_readPart_1 (by decide) ?_
    refine lv_icmp_ge (tgt := 36) X.1 X.2.1 dX5_readPart_2 (by decide) (fun c2 => ?_) (fun c2 => ?_)
    · exact absurd c2 (by decide)
    · have n2 : 3 < 5 := gq_nle c2 (show (5 : Int32) = nI 5 from rfl) (show (3 : Int32) = nI 3 from rfl) (by omega) (by omega)
      refine lv_aload_n X.1 X.2.1 dX5_readPart_5 rfl (lv_at hl 0 rfl) ?_
      refine va_ldcS X.1 X.2.1 X.2.2.2.1 (vk_R.warm hC.1 hR101) dX5_readPart_6 ?_
      refine g_run_i (f := fun u => u) (g_runV (k := 7) [.ref s101] X hK hP hS hC hB (o_reads_y hRd hs101 h2 ht101 hb1) (cwV 1 X.2.2.2.2 gX5_readPart_X5_reads rfl rfl rfl (by decide +kernel) ⟨Nat.le_of_ble_eq_true rfl, Nat.le_of_ble_eq_true rfl⟩) hRd.1.1 rfl rfl hl.1 rfl (Nat.le_of_ble_eq_true rfl) dX5_readPart_8 (by exact ⟨Nat.zero_le _, Nat.zero_le _⟩)) hS (fun r u H locs hq hP hS => ?_)
      obtain ⟨rfl, rfl⟩ := hq
      generalize eJ1 : g2 I rd 0 (nI pl + 1) = J1 at hP
      have hP : gP D cy B z T J1 R H := hP
      have hfJ1 : ∀ c j, ¬ (c = rd ∧ j = 0) → J1 c j = I c j := fun c j h => gs_ne eJ1 h rfl
      have hpnJ1 := sH_in hb1 (by decide)
      have hFt := hFt.trs (fun c j h1 _ => hfJ1 c j h1)
      have hRd : cRd rd tc a T J1 R tp n (pl + 1) := hRd.mv (fun c j h1 _ => hfJ1 c j h1) ((gs_same eJ1).trans (nI_add _ 1)) (by omega)
      have hSr : cSr a J1 cs pd := hSr.k (fun c j g1 g2 => hfJ1 c j (by omega))
      refine lv_if_eq (tgt := 36) X.1 X.2.1 dX5_readPart_11 (by decide) (fun c11 => ?_) (fun c11 => ?_)
      · exact absurd c11 (by decide)
      · have n11 : ¬ 1 = 0 := gq_ne c11 (show (1 : Int32) = nI 1 from rfl) (show (0 : Int32) = nI 0 from rfl) (by omega) (by omega)
        refine lv_aload_n X.1 X.2.1 dX5_readPart_14 rfl (lv_at hl 0 rfl) ?_
        refine lv_iload_n X.1 X.2.1 dX5_readPart_15 rfl (lv_at hl 1 rfl) ?_
        refine lv_iconst (v := 1) X.1 X.2.1 dX5_readPart_16 (by decide) ?_
        refine lv_iadd X.1 X.2.1 dX5_readPart_17 ?_
        refine g_run_i (f := fun u => u) (g_runV (k := 7) [.int (3 + 1)] X hK hP hS hC hB (o_part_1 hRd hstr hSr (by omega) (by omega)) (cwV 1 X.2.2.2.2 gX5_readPart_X5_readPart rfl rfl rfl (by decide +kernel) ⟨Nat.le_of_ble_eq_true rfl, Nat.le_of_ble_eq_true rfl⟩) hRd.1.1 rfl rfl hl.1 rfl (Nat.le_of_ble_eq_true rfl) dX5_readPart_18 (by exact ⟨Nat.zero_le _, Nat.zero_le _⟩)) hS (fun r u H locs hq hP hS => ?_)
        obtain ⟨IN2, pN2, rfl, hfN2, hpN2, hq⟩ := hq
        have hP : gP D cy B z T IN2 R H := hP
        have hwN2 := (pW_fac (tp := tp) (n := n) 1) (false, (pl + 1), flC cs ++ pd) (by show (pl + 1) ≤ n; omega)
        rcases hq with ⟨rfl, pdN2, hEN2, hSN2⟩ | ⟨rfl, LN2, hEN2⟩
        · rw [hEN2] at hwN2
          have hwN2 : (pl + 1) ≤ pN2 ∧ pN2 ≤ n ∧ (flC cs ++ pdN2).length + (pl + 1) ≤ pN2 + (flC cs ++ pd).length := hwN2
          have hcoN2 := co_le (cs := cs) (pd := pdN2)
          have hFt := hFt.trs hfN2
          have hRd : cRd rd tc a T IN2 R tp n pN2 := hRd.mv hfN2 hpN2 hwN2.2.1
          have hSr : cSr a IN2 cs pdN2 := hSN2
          refine lv_if_ne (tgt := 26) X.1 X.2.1 dX5_readPart_21 (by decide) (fun c21 => ?_) (fun c21 => ?_)
          · have n21 : ¬ 1 = 0 := gq_ne c21 (show (1 : Int32) = nI 1 from rfl) (show (0 : Int32) = nI 0 from rfl) (by omega) (by omega)
            refine lv_aload_n X.1 X.2.1 dX5_readPart_26 rfl (lv_at hl 0 rfl) ?_
            refine g_getr 7 3 X hK hP hRd.1.1 rfl hinRX5 rfl (by decide) k31 (fun _ h => h) dX5_readPart_27 (show va_rf (R rd 3) = .ref a from by rw [hRd.1.2.2.1]; rfl) ?_
            refine lv_iconst (v := (-1)) X.1 X.2.1 dX5_readPart_30 (by decide) ?_
            refine g_run_v (f := fun u => u) (g_runV (k := 6) [.int (-1)] X hK hP hS hC hB (o_put hRd.1.2.2.2.2 hSr.2.2.2.1 (by omega)) (cwV 1 X.2.2.2.2 gX5_readPart_X4_put rfl rfl rfl (by decide +kernel) ⟨Nat.le_of_ble_eq_true rfl, Nat.le_of_ble_eq_true rfl⟩) hRd.1.2.2.2.2.1 rfl rfl hl.1 rfl (Nat.le_of_ble_eq_true rfl) dX5_readPart_31 (by exact ⟨Nat.zero_le _, Nat.zero_le _⟩)) hS (fun u H locs hq hP hS => ?_)
            subst hq
            generalize eJ3 : g2 IN2 (a + 4) ((coC cs ++ pdN2).length) (-1) = J3 at hP
            generalize eJ4 : g2 J3 a 7 (nI ((coC cs ++ pdN2).length) + 1) = J4 at hP
            have hP : gP D cy B z T J4 R H := hP
            have hFt := hFt.trs (fun c j h1 h2 => gs_ne eJ4 (by omega) (gs_ne eJ3 (by omega) rfl))
            have hRd : cRd rd tc a T J4 R tp n pN2 := hRd.mv (fun c j h1 h2 => gs_ne eJ4 (by omega) (gs_ne eJ3 (by omega) rfl)) (gs_ne eJ4 (by omega) (gs_ne eJ3 (by omega) hRd.2.2.2.1)) (by omega)
            have hSr : cSr a J4 cs (pdN2 ++ [10000]) := hSr.push (by omega) (by omega) rfl eJ3 eJ4
            have hflJ4 := fl1 (cs := cs) (pd := pdN2) (t := 10000)
            refine lv_iconst (v := 1) X.1 X.2.1 dX5_readPart_34 (by decide) ?_
            exact g_zret (f := fun u => u) (z, T, J4, R) X hr hlk hK hP hS dX5_readPart_35 rfl ⟨J4, pN2, rfl, hFt, hRd.2.2.2.1, Or.inl ⟨rfl, _, ((pFac_n (d := 1) hb1).trans (by rw [hEN2, pEm_f, List.append_assoc])), hSr⟩⟩
          · exact absurd c21 (by decide)
        · rw [hEN2] at hwN2
          have hwN2 : (pl + 1) ≤ pN2 ∧ pN2 ≤ n := ⟨hwN2.1, hwN2.2.1⟩
          have hFt := hFt.trs hfN2
          refine lv_if_ne (tgt := 26) X.1 X.2.1 dX5_readPart_21 (by decide) (fun c21 => ?_) (fun c21 => ?_)
          · exact absurd rfl c21
          · have n21 : 0 = 0 := gq_eq c21 (show (0 : Int32) = nI 0 from rfl) (show (0 : Int32) = nI 0 from rfl) (by omega) (by omega)
            refine lv_iconst (v := 0) X.1 X.2.1 dX5_readPart_24 (by decide) ?_
            exact g_zret (f := fun u => u) (z, T, IN2, R) X hr hlk hK hP hS dX5_readPart_25 rfl ⟨IN2, pN2, rfl, hFt, hpN2, Or.inr ⟨rfl, LN2, ((pFac_n (d := 1) hb1).trans (by rw [hEN2, pEm_tr]))⟩⟩
  · by_cases hb2 : sH tp n pl = 40
    · refine lv_iload_n X.1 X.2.1 dX5_readPart_0 rfl (lv_at hl 1 rfl) ?_
      refine lv_iconst (v := 5) X.1 X.2.1 dX5_readPart_1 (by decide) ?_
      refine lv_icmp_ge (tgt := 36) X.1 X.2.1 dX5_readPart_2 (by decide) (fun c2 => ?_) (fun c2 => ?_)
      · exact absurd c2 (by decide)
      · have n2 : 3 < 5 := gq_nle c2 (show (5 : Int32) = nI 5 from rfl) (show (3 : Int32) = nI 3 from rfl) (by omega) (by omega)
        refine lv_aload_n X.1 X.2.1 dX5_readPart_5 rfl (lv_at hl 0 rfl) ?_
        refine va_ldcS X.1 X.2.1 X.2.2.2.1 (vk_R.warm hC.1 hR101) dX5_readPart_6 ?_
        refine g_run_i (f := fun u => u) (g_runV (k := 7) [.ref s101] X hK hP hS hC hB (o_reads_n hRd hs101 h2 ht101 hb1) (cwV 1 X.2.2.2.2 gX5_readPart_X5_reads rfl rfl rfl (by decide +kernel) ⟨Nat.le_of_ble_eq_true rfl, Nat.le_of_ble_eq_true rfl⟩) hRd.1.1 rfl rfl hl.1 rfl (Nat.le_of_ble_eq_true rfl) dX5_readPart_8 (by exact ⟨Nat.zero_le _, Nat.zero_le _⟩)) hS (fun r u H locs hq hP hS => ?_)
        obtain ⟨rfl, rfl⟩ := hq
        have hP : gP D cy B z T I R H := hP
        refine lv_if_eq (tgt := 36) X.1 X.2.1 dX5_readPart_11 (by decide) (fun c11 => ?_) (fun c11 => ?_)
        · have n11 : 0 = 0 := gq_eq c11 (show (0 : Int32) = nI 0 from rfl) (show (0 : Int32) = nI 0 from rfl) (by omega) (by omega)
          refine lv_iload_n X.1 X.2.1 dX5_readPart_36 rfl (lv_at hl 1 rfl) ?_
          refine lv_iconst (v := 5) X.1 X.2.1 dX5_readPart_37 (by decide) ?_
          refine lv_icmp_ge (tgt := 75) X.1 X.2.1 dX5_readPart_38 (by decide) (fun c38 => ?_) (fun c38 => ?_)
          · exact absurd c38 (by decide)
          · have n38 : 3 < 5 := gq_nle c38 (show (5 : Int32) = nI 5 from rfl) (show (3 : Int32) = nI 3 from rfl) (by omega) (by omega)
            refine lv_aload_n X.1 X.2.1 dX5_readPart_41 rfl (lv_at hl 0 rfl) ?_
            refine va_ldcS X.1 X.2.1 X.2.2.2.1 (vk_R.warm hC.1 hR103) dX5_readPart_42 ?_
            refine g_run_i (f := fun u => u) (g_runV (k := 7) [.ref s103] X hK hP hS hC hB (o_reads_y hRd hs103 h2 ht103 hb2) (cwV 1 X.2.2.2.2 gX5_readPart_X5_reads rfl rfl rfl (by decide +kernel) ⟨Nat.le_of_ble_eq_true rfl, Nat.le_of_ble_eq_true rfl⟩) hRd.1.1 rfl rfl hl.1 rfl (Nat.le_of_ble_eq_true rfl) dX5_readPart_44 (by exact ⟨Nat.zero_le _, Nat.zero_le _⟩)) hS (fun r u H locs hq hP hS => ?_)
            obtain ⟨rfl, rfl⟩ := hq
            generalize eJ5 : g2 I rd 0 (nI pl + 1) = J5 at hP
            have hP : gP D cy B z T J5 R H := hP
            have hfJ5 : ∀ c j, ¬ (c = rd ∧ j = 0) → J5 c j = I c j := fun c j h => gs_ne eJ5 h rfl
            have hpnJ5 := sH_in hb2 (by decide)
            have hFt := hFt.trs (fun c j h1 _ => hfJ5 c j h1)
            have hRd : cRd rd tc a T J5 R tp n (pl + 1) := hRd.mv (fun c j h1 _ => hfJ5 c j h1) ((gs_same eJ5).trans (nI_add _ 1)) (by omega)
            have hSr : cSr a J5 cs pd := hSr.k (fun c j g1 g2 => hfJ5 c j (by omega))
            refine lv_if_eq (tgt := 75) X.1 X.2.1 dX5_readPart_47 (by decide) (fun c47 => ?_) (fun c47 => ?_)
            · exact absurd c47 (by decide)
            · have n47 : ¬ 1 = 0 := gq_ne c47 (show (1 : Int32) = nI 1 from rfl) (show (0 : Int32) = nI 0 from rfl) (by omega) (by omega)
              refine lv_aload_n X.1 X.2.1 dX5_readPart_50 rfl (lv_at hl 0 rfl) ?_
              refine lv_iload_n X.1 X.2.1 dX5_readPart_51 rfl (lv_at hl 1 rfl) ?_
              refine lv_iconst (v := 1) X.1 X.2.1 dX5_readPart_52 (by decide) ?_
              refine lv_iadd X.1 X.2.1 dX5_readPart_53 ?_
              refine g_run_i (f := fun u => u) (g_runV (k := 7) [.int (3 + 1)] X hK hP hS hC hB (o_either_1 hRd hstr hSr (by omega) (by omega)) (cwV 1 X.2.2.2.2 gX5_readPart_X5_readEither rfl rfl rfl (by decide +kernel) ⟨Nat.le_of_ble_eq_true rfl, Nat.le_of_ble_eq_true rfl⟩) hRd.1.1 rfl rfl hl.1 rfl (Nat.le_of_ble_eq_true rfl) dX5_readPart_54 (by exact ⟨Nat.zero_le _, Nat.zero_le _⟩)) hS (fun r u H locs hq hP hS => ?_)
              obtain ⟨IN6, pN6, rfl, hfN6, hpN6, hq⟩ := hq
              have hP : gP D cy B z T IN6 R H := hP
              have hwN6 := (pW_some (tp := tp) (pW_fac (tp := tp) (n := n) 1)) (false, (pl + 1), flC cs ++ pd) (by show (pl + 1) ≤ n; omega)
              rcases hq with ⟨rfl, pdN6, hEN6, hSN6⟩ | ⟨rfl, LN6, hEN6⟩
              · rw [hEN6] at hwN6
                have hwN6 : (pl + 1) ≤ pN6 ∧ pN6 ≤ n ∧ (flC cs ++ pdN6).length + (pl + 1) ≤ pN6 + (flC cs ++ pd).length := hwN6
                have hcoN6 := co_le (cs := cs) (pd := pdN6)
                have hFt := hFt.trs hfN6
                have hRd : cRd rd tc a T IN6 R tp n pN6 := hRd.mv hfN6 hpN6 hwN6.2.1
                have hSr : cSr a IN6 cs pdN6 := hSN6
                by_cases hb3 : sH tp n pN6 = 41
                · refine lv_if_eq (tgt := 73) X.1 X.2.1 dX5_readPart_57 (by decide) (fun c57 => ?_) (fun c57 => ?_)
                  · exact absurd c57 (by decide)
                  · have n57 : ¬ 1 = 0 := gq_ne c57 (show (1 : Int32) = nI 1 from rfl) (show (0 : Int32) = nI 0 from rfl) (by omega) (by omega)
                    refine lv_aload_n X.1 X.2.1 dX5_readPart_60 rfl (lv_at hl 0 rfl) ?_
                    refine va_ldcS X.1 X.2.1 X.2.2.2.1 (vk_R.warm hC.1 hR105) dX5_readPart_61 ?_
                    refine g_run_i (f := fun u => u) (g_runV (k := 7) [.ref s105] X hK hP hS hC hB (o_reads_y hRd hs105 h2 ht105 hb3) (cwV 1 X.2.2.2.2 gX5_readPart_X5_reads rfl rfl rfl (by decide +kernel) ⟨Nat.le_of_ble_eq_true rfl, Nat.le_of_ble_eq_true rfl⟩) hRd.1.1 rfl rfl hl.1 rfl (Nat.le_of_ble_eq_true rfl) dX5_readPart_63 (by exact ⟨Nat.zero_le _, Nat.zero_le _⟩)) hS (fun r u H locs hq hP hS => ?_)
                    obtain ⟨rfl, rfl⟩ := hq
                    generalize eJ7 : g2 IN6 rd 0 (nI pN6 + 1) = J7 at hP
                    have hP : gP D cy B z T J7 R H := hP
                    have hfJ7 : ∀ c j, ¬ (c = rd ∧ j = 0) → J7 c j = IN6 c j := fun c j h => gs_ne eJ7 h rfl
                    have hpnJ7 := sH_in hb3 (by decide)
                    have hFt := hFt.trs (fun c j h1 _ => hfJ7 c j h1)
                    have hRd : cRd rd tc a T J7 R tp n (pN6 + 1) := hRd.mv (fun c j h1 _ => hfJ7 c j h1) ((gs_same eJ7).trans (nI_add _ 1)) (by omega)
                    have hSr : cSr a J7 cs pdN6 := hSr.k (fun c j g1 g2 => hfJ7 c j (by omega))
                    refine lv_if_eq (tgt := 73) X.1 X.2.1 dX5_readPart_66 (by decide) (fun c66 => ?_) (fun c66 => ?_)
                    · exact absurd c66 (by decide)
                    · have n66 : ¬ 1 = 0 := gq_ne c66 (show (1 : Int32) = nI 1 from rfl) (show (0 : Int32) = nI 0 from rfl) (by omega) (by omega)
                      refine lv_iconst (v := 1) X.1 X.2.1 dX5_readPart_69 (by decide) ?_
                      refine lv_goto (tgt := 74) X.1 X.2.1 dX5_readPart_70 (by decide) ?_
                      exact g_zret (f := fun u => u) (z, T, J7, R) X hr hlk hK hP hS dX5_readPart_74 rfl ⟨J7, (pN6 + 1), rfl, hFt, hRd.2.2.2.1, Or.inl ⟨rfl, _, ((pFac_p (d := 1) hb2).trans (by rw [hEN6]; exact pMust_y hb3)), hSr⟩⟩
                · refine lv_if_eq (tgt := 73) X.1 X.2.1 dX5_readPart_57 (by decide) (fun c57 => ?_) (fun c57 => ?_)
                  · exact absurd c57 (by decide)
                  · have n57 : ¬ 1 = 0 := gq_ne c57 (show (1 : Int32) = nI 1 from rfl) (show (0 : Int32) = nI 0 from rfl) (by omega) (by omega)
                    refine lv_aload_n X.1 X.2.1 dX5_readPart_60 rfl (lv_at hl 0 rfl) ?_
                    refine va_ldcS X.1 X.2.1 X.2.2.2.1 (vk_R.warm hC.1 hR105) dX5_readPart_61 ?_
                    refine g_run_i (f := fun u => u) (g_runV (k := 7) [.ref s105] X hK hP hS hC hB (o_reads_n hRd hs105 h2 ht105 hb3) (cwV 1 X.2.2.2.2 gX5_readPart_X5_reads rfl rfl rfl (by decide +kernel) ⟨Nat.le_of_ble_eq_true rfl, Nat.le_of_ble_eq_true rfl⟩) hRd.1.1 rfl rfl hl.1 rfl (Nat.le_of_ble_eq_true rfl) dX5_readPart_63 (by exact ⟨Nat.zero_le _, Nat.zero_le _⟩)) hS (fun r u H locs hq hP hS => ?_)
                    obtain ⟨rfl, rfl⟩ := hq
                    have hP : gP D cy B z T IN6 R H := hP
                    refine lv_if_eq (tgt := 73) X.1 X.2.1 dX5_readPart_66 (by decide) (fun c66 => ?_) (fun c66 => ?_)
                    · have n66 : 0 = 0 := gq_eq c66 (show (0 : Int32) = nI 0 from rfl) (show (0 : Int32) = nI 0 from rfl) (by omega) (by omega)
                      refine lv_iconst (v := 0) X.1 X.2.1 dX5_readPart_73 (by decide) ?_
                      exact g_zret (f := fun u => u) (z, T, IN6, R) X hr hlk hK hP hS dX5_readPart_74 rfl ⟨IN6, pN6, rfl, hFt, hRd.2.2.2.1, Or.inr ⟨rfl, _, ((pFac_p (d := 1) hb2).trans (by rw [hEN6]; exact pMust_n hb3))⟩⟩
                    · exact absurd rfl c66
              · rw [hEN6] at hwN6
                have hwN6 : (pl + 1) ≤ pN6 ∧ pN6 ≤ n := ⟨hwN6.1, hwN6.2.1⟩
                have hFt := hFt.trs hfN6
                refine lv_if_eq (tgt := 73) X.1 X.2.1 dX5_readPart_57 (by decide) (fun c57 => ?_) (fun c57 => ?_)
                · have n57 : 0 = 0 := gq_eq c57 (show (0 : Int32) = nI 0 from rfl) (show (0 : Int32) = nI 0 from rfl) (by omega) (by omega)
                  refine lv_iconst (v := 0) X.1 X.2.1 dX5_readPart_73 (by decide) ?_
                  exact g_zret (f := fun u => u) (z, T, IN6, R) X hr hlk hK hP hS dX5_readPart_74 rfl ⟨IN6, pN6, rfl, hFt, hpN6, Or.inr ⟨rfl, LN6, ((pFac_p (d := 1) hb2).trans (by rw [hEN6]; exact pMust_t))⟩⟩
                · exact absurd rfl c57
        · exact absurd rfl c11
    · refine lv_iload_n X.1 X.2.1 dX5_readPart_0 rfl (lv_at hl 1 rfl) ?_
      refine lv_iconst (v := 5) X.1 X.2.1 dX5_readPart_1 (by decide) ?_
      refine lv_icmp_ge (tgt := 36) X.1 X.2.1 dX5_readPart_2 (by decide) (fun c2 => ?_) (fun c2 => ?_)
      · exact absurd c2 (by decide)
      · have n2 : 3 < 5 := gq_nle c2 (show (5 : Int32) = nI 5 from rfl) (show (3 : Int32) = nI 3 from rfl) (by omega) (by omega)
        refine lv_aload_n X.1 X.2.1 dX5_readPart_5 rfl (lv_at hl 0 rfl) ?_
        refine va_ldcS X.1 X.2.1 X.2.2.2.1 (vk_R.warm hC.1 hR101) dX5_readPart_6 ?_
        refine g_run_i (f := fun u => u) (g_runV (k := 7) [.ref s101] X hK hP hS hC hB (o_reads_n hRd hs101 h2 ht101 hb1) (cwV 1 X.2.2.2.2 gX5_readPart_X5_reads rfl rfl rfl (by decide +kernel) ⟨Nat.le_of_ble_eq_true rfl, Nat.le_of_ble_eq_true rfl⟩) hRd.1.1 rfl rfl hl.1 rfl (Nat.le_of_ble_eq_true rfl) dX5_readPart_8 (by exact ⟨Nat.zero_le _, Nat.zero_le _⟩)) hS (fun r u H locs hq hP hS => ?_)
        obtain ⟨rfl, rfl⟩ := hq
        have hP : gP D cy B z T I R H := hP
        refine lv_if_eq (tgt := 36) X.1 X.2.1 dX5_readPart_11 (by decide) (fun c11 => ?_) (fun c11 => ?_)
        · have n11 : 0 = 0 := gq_eq c11 (show (0 : Int32) = nI 0 from rfl) (show (0 : Int32) = nI 0 from rfl) (by omega) (by omega)
          refine lv_iload_n X.1 X.2.1 dX5_readPart_36 rfl (lv_at hl 1 rfl) ?_
          refine lv_iconst (v := 5) X.1 X.2.1 dX5_readPart_37 (by decide) ?_
          refine lv_icmp_ge (tgt := 75) X.1 X.2.1 dX5_readPart_38 (by decide) (fun c38 => ?_) (fun c38 => ?_)
          · exact absurd c38 (by decide)
          · have n38 : 3 < 5 := gq_nle c38 (show (5 : Int32) = nI 5 from rfl) (show (3 : Int32) = nI 3 from rfl) (by omega) (by omega)
            refine lv_aload_n X.1 X.2.1 dX5_readPart_41 rfl (lv_at hl 0 rfl) ?_
            refine va_ldcS X.1 X.2.1 X.2.2.2.1 (vk_R.warm hC.1 hR103) dX5_readPart_42 ?_
            refine g_run_i (f := fun u => u) (g_runV (k := 7) [.ref s103] X hK hP hS hC hB (o_reads_n hRd hs103 h2 ht103 hb2) (cwV 1 X.2.2.2.2 gX5_readPart_X5_reads rfl rfl rfl (by decide +kernel) ⟨Nat.le_of_ble_eq_true rfl, Nat.le_of_ble_eq_true rfl⟩) hRd.1.1 rfl rfl hl.1 rfl (Nat.le_of_ble_eq_true rfl) dX5_readPart_44 (by exact ⟨Nat.zero_le _, Nat.zero_le _⟩)) hS (fun r u H locs hq hP hS => ?_)
            obtain ⟨rfl, rfl⟩ := hq
            have hP : gP D cy B z T I R H := hP
            refine lv_if_eq (tgt := 75) X.1 X.2.1 dX5_readPart_47 (by decide) (fun c47 => ?_) (fun c47 => ?_)
            · have n47 : 0 = 0 := gq_eq c47 (show (0 : Int32) = nI 0 from rfl) (show (0 : Int32) = nI 0 from rfl) (by omega) (by omega)
              refine lv_aload_n X.1 X.2.1 dX5_readPart_75 rfl (lv_at hl 0 rfl) ?_
              refine g_run_i (f := fun u => u) (g_runV (k := 7) [] X hK hP hS hC hB (o_test hRd hstr hSr (by omega)) (cwV 0 X.2.2.2.2 gX5_readPart_X5_readTest rfl rfl rfl (by decide +kernel) ⟨Nat.le_of_ble_eq_true rfl, Nat.le_of_ble_eq_true rfl⟩) hRd.1.1 rfl rfl hl.1 rfl (Nat.le_of_ble_eq_true rfl) dX5_readPart_76 (by exact ⟨Nat.zero_le _, Nat.zero_le _⟩)) hS (fun r u H locs hq hP hS => ?_)
              obtain ⟨IN8, pN8, rfl, hfN8, hpN8, hq⟩ := hq
              have hP : gP D cy B z T IN8 R H := hP
              have hwN8 := pW_atom (tp := tp) (n := n) (false, pl, flC cs ++ pd) (by show pl ≤ n; omega)
              rcases hq with ⟨rfl, pdN8, hEN8, hSN8⟩ | ⟨rfl, LN8, hEN8⟩
              · rw [hEN8] at hwN8
                have hwN8 : pl ≤ pN8 ∧ pN8 ≤ n ∧ (flC cs ++ pdN8).length + pl ≤ pN8 + (flC cs ++ pd).length := hwN8
                have hcoN8 := co_le (cs := cs) (pd := pdN8)
                have hFt := hFt.trs hfN8
                have hRd : cRd rd tc a T IN8 R tp n pN8 := hRd.mv hfN8 hpN8 hwN8.2.1
                have hSr : cSr a IN8 cs pdN8 := hSN8
                exact g_zret (f := fun u => u) (z, T, IN8, R) X hr hlk hK hP hS dX5_readPart_79 rfl ⟨IN8, pN8, rfl, hFt, hRd.2.2.2.1, Or.inl ⟨rfl, _, ((pFac_a hb1 hb2 2).trans hEN8), hSr⟩⟩
              · rw [hEN8] at hwN8
                have hwN8 : pl ≤ pN8 ∧ pN8 ≤ n := ⟨hwN8.1, hwN8.2.1⟩
                have hFt := hFt.trs hfN8
                exact g_zret (f := fun u => u) (z, T, IN8, R) X hr hlk hK hP hS dX5_readPart_79 rfl ⟨IN8, pN8, rfl, hFt, hpN8, Or.inr ⟨rfl, LN8, ((pFac_a hb1 hb2 2).trans hEN8)⟩⟩
            · exact absurd rfl c47
        · exact absurd rfl c11

set_option maxHeartbeats 4000000 in
set_option maxRecDepth 100000 in
/-- o_either_2 -/
theorem o_either_2 (hRd : cRd rd tc a T I R tp n pl) (hstr : gStr s0 B) (hSr : cSr a I cs pd) (hLp : (flC cs ++ pd).length ≤ pl) (hp2 : 2 ≤ pl) : Met l yX5_readEither wsX5_readEither ({ frames := 12, cells := 0, slots := 0, locals := 267 }) (va_Pc [.ref rd, .int 3] (gW0 s0 D cy B (z, T, I, R))) (va_Qi (fun r u => ∃ I' p', u = (z, T, I', R) ∧ rFr rd a I I' ∧ I' rd 0 = nI p' ∧ ((r = 1 ∧ ∃ pd', pSome tp n (pFac tp n 2) (false, pl, flC cs ++ pd) = (false, p', flC cs ++ pd') ∧ cSr a I' cs pd') ∨ (r = 0 ∧ ∃ L', pSome tp n (pFac tp n 2) (false, pl, flC cs ++ pd) = (true, p', L')))) (fun u t => gW1 D cy B u t) (gA B)) 0 0 (gA B) := by
  refine g_met (maxL := 4) (ret := (some .boolean)) (by decide) rfl (Nat.le_of_ble_eq_true rfl) (fun p e s m args below meth c ls X hr hlk hnm hK hP hC hS hl => ?_)
  have hl : lv_has ls 4 [(0, .ref rd), (1, .int 3)] := hl
  have hP : gP D cy B z T I R s.heap := hP
  have hB : B ≤ s.heap.size := by rw [hP.1]; exact hP.2.1
  have hinRX5 : ∀ w ∈ wsX50, w ∈ wsX5_readEither := fun _ h => List.mem_cons_of_mem _ (List.mem_append_left _ (List.mem_append_right _ h))
  have k31 : Cond.fieldLink RX5 31 "BarrowPlank$SiteReader" "draft" "LBarrowPlank$Site;" ∈ wsX5_readEither := by decide +kernel
  have hn100 := hRd.2.2.1.1
  have hpn := hRd.2.2.1.2.1
  have htp := hRd.2.2.1.2.2
  have hrda := hRd.2.1.1
  have htca := hRd.2.1.2.1
  have hrdt := hRd.2.1.2.2
  have h2 : gSt2 s0 B := hstr.1
  obtain ⟨s97, q97, hR97, hs97, ht97⟩ := hstr.at 20 rfl
  have hs97 : gSo s0 B [38] s97 q97 := hs97
  have ht97 : gTx [38] := ht97
  obtain ⟨s99, q99, hR99, hs99, ht99⟩ := hstr.at 21 rfl
  have hs99 : gSo s0 B [124] s99 q99 := hs99
  have ht99 : gTx [124] := ht99
  have hFt : rFr rd a I I := rFr.rf
  refine lv_iconst (v := 0) X.1 X.2.1 dX5_readEither_0 (by decide) ?_
  refine lv_istore_n (lv' := [(2, .int 0), (0, .ref rd), (1, .int 3)]) X.1 X.2.1 dX5_readEither_1 rfl hl (by decide) rfl (fun ls hl => ?_)
  refine i_loop (I := I) 100 2 [] (fun k Q9 ls => (∃ pk pdk, rFr rd a I Q9 ∧ cRd rd tc a T Q9 R tp n pk ∧ cSr a Q9 cs pdk ∧ ((flC cs ++ pdk).length + min k 1 ≤ pk ∧ 2 + k ≤ pk) ∧ pSome tp n (pFac tp n 2) (false, pl, flC cs ++ pd) = pLoop tp n 124 10002 (pEvery tp n (pFac tp n 2)) (101 - k) (pEk k 10002 (pEvery tp n (pFac tp n 2) (false, pk, flC cs ++ pdk)))) ∧ lv_has ls 4 [(0, .ref rd), (1, .int 3), (2, .int (nI k))]) 0 (by omega) ⟨⟨pl, pd, rFr.rf, hRd, hSr, ⟨by omega, by omega⟩, (by rw [pEk_0 rfl]; rfl)⟩, lv_sub hl [1, 2, 0] rfl⟩ hP hS (fun k Q9 H locs ls hk hiv hP hS ih => ?_)
  obtain ⟨⟨pk, pdk, hFt, hRd, hSr, ⟨hLk, hpk⟩, hSo⟩, hl⟩ := hiv
  have hpkn := hRd.2.2.1.2.1
  refine lv_iconst (v := 0) X.1 X.2.1 dX5_readEither_2 (by decide) ?_
  refine lv_istore_n (lv' := [(3, .int 0), (0, .ref rd), (1, .int 3), (2, .int (nI k))]) X.1 X.2.1 dX5_readEither_3 rfl hl (by decide) rfl (fun ls hl => ?_)
  refine i_loop (I := Q9) 100 4 [] (fun j Q8 ls => (∃ pj pdj, rFr rd a I Q8 ∧ cRd rd tc a T Q8 R tp n pj ∧ cSr a Q8 cs pdj ∧ ((flC cs ++ pdj).length + min k 1 + min j 1 ≤ pj ∧ 2 + k + j ≤ pj) ∧ pEvery tp n (pFac tp n 2) (false, pk, flC cs ++ pdk) = pLoop tp n 38 10001 (pFac tp n 2) (101 - j) (pEk j 10001 ((pFac tp n 2) (false, pj, flC cs ++ pdj)))) ∧ lv_has ls 4 [(0, .ref rd), (1, .int 3), (2, .int (nI k)), (3, .int (nI j))]) 0 (by omega) ⟨⟨pk, pdk, hFt, hRd, hSr, ⟨by omega, by omega⟩, (by rw [pEk_0 rfl]; rfl)⟩, lv_sub hl [1, 2, 3, 0] rfl⟩ hP hS (fun j Q8 H locs ls hj hij hP hS ih2 => ?_)
  obtain ⟨⟨pj, pdj, hFt, hRd, hSr, ⟨hLj, hpj⟩, hEv⟩, hl⟩ := hij
  have hpjn := hRd.2.2.1.2.1
  refine lv_aload_n X.1 X.2.1 dX5_readEither_4 rfl (lv_at hl 0 rfl) ?_
  refine lv_iload_n X.1 X.2.1 dX5_readEither_5 rfl (lv_at hl 1 rfl) ?_
  refine g_run_i (f := fun u => u) (g_runV (k := 7) [.int 3] X hK hP hS hC hB (o_part_2 hRd hstr hSr (by omega) (by omega)) (cwV 1 X.2.2.2.2 gX5_readEither_X5_readPart rfl rfl rfl (by decide +kernel) ⟨Nat.le_of_ble_eq_true rfl, Nat.le_of_ble_eq_true rfl⟩) hRd.1.1 rfl rfl hl.1 rfl (Nat.le_of_ble_eq_true rfl) dX5_readEither_6 (by exact ⟨Nat.zero_le _, Nat.zero_le _⟩)) hS (fun r u H locs hq hP hS => ?_)
  obtain ⟨IN1, pN1, rfl, hfN1, hpN1, hq⟩ := hq
  have hP : gP D cy B z T IN1 R H := hP
  have hwN1 := (pW_fac (tp := tp) (n := n) 2) (false, pj, flC cs ++ pdj) (by show pj ≤ n; omega)
  rcases hq with ⟨rfl, pdN1, hEN1, hSN1⟩ | ⟨rfl, LN1, hEN1⟩
  · rw [hEN1] at hwN1
    have hwN1 : pj ≤ pN1 ∧ pN1 ≤ n ∧ (flC cs ++ pdN1).length + pj ≤ pN1 + (flC cs ++ pdj).length := hwN1
    have hcoN1 := co_le (cs := cs) (pd := pdN1)
    have hFt := hFt.trs hfN1
    have hRd : cRd rd tc a T IN1 R tp n pN1 := hRd.mv hfN1 hpN1 hwN1.2.1
    have hSr : cSr a IN1 cs pdN1 := hSN1
    refine lv_if_ne (tgt := 14) X.1 X.2.1 dX5_readEither_9 (by decide) (fun c9 => ?_) (fun c9 => ?_)
    · have n9 : ¬ 1 = 0 := gq_ne c9 (show (1 : Int32) = nI 1 from rfl) (show (0 : Int32) = nI 0 from rfl) (by omega) (by omega)
      refine lv_iload_n X.1 X.2.1 dX5_readEither_14 rfl (lv_at hl 3 rfl) ?_
      refine lv_if_le (tgt := 27) X.1 X.2.1 dX5_readEither_15 (by decide) (fun c15 => ?_) (fun c15 => ?_)
      · have n15 : j ≤ 0 := gq_le c15 (Eq.refl (nI j)) (show (0 : Int32) = nI 0 from rfl) (by omega) (by omega)
        refine lv_iinc (v := nI (j + 1)) (lv' := [(3, .int (nI (j + 1))), (0, .ref rd), (1, .int 3), (2, .int (nI k))]) X.1 X.2.1 dX5_readEither_27 hl (k := 3) rfl (gn_inc (Eq.refl (nI j)) 1) (by decide) rfl (fun ls hl => ?_)
        refine lv_iload_n X.1 X.2.1 dX5_readEither_30 rfl (lv_at hl 0 rfl) ?_
        refine lv_bipush (v := 100) X.1 X.2.1 dX5_readEither_31 (by decide) ?_
        refine lv_icmp_ge (tgt := 45) X.1 X.2.1 dX5_readEither_33 (by decide) (fun c33 => ?_) (fun c33 => ?_)
        · exact absurd (gq_le c33 (show (100 : Int32) = nI 100 from rfl) (Eq.refl (nI (j + 1))) (by omega) (by omega)) (by omega)
        · have n33 : (j + 1) < 100 := gq_nle c33 (show (100 : Int32) = nI 100 from rfl) (Eq.refl (nI (j + 1))) (by omega) (by omega)
          refine lv_aload_n X.1 X.2.1 dX5_readEither_36 rfl (lv_at hl 1 rfl) ?_
          refine va_ldcS X.1 X.2.1 X.2.2.2.1 (vk_R.warm hC.1 hR97) dX5_readEither_37 ?_
          have hX : pEk j 10001 ((pFac tp n 2) (false, pj, flC cs ++ pdj)) = (false, pN1, flC cs ++ pdN1) := (pEk_0 (by omega)).trans hEN1
          have hEv2 : pEvery tp n (pFac tp n 2) (false, pk, flC cs ++ pdk) = pLoop tp n 38 10001 (pFac tp n 2) (101 - j) (false, pN1, flC cs ++ pdN1) := by rw [hEv, hX]
          by_cases h38 : sH tp n pN1 = 38
          · refine g_run_i (f := fun u => u) (g_runV (k := 7) [.ref s97] X hK hP hS hC hB (o_reads_y hRd hs97 h2 ht97 h38) (cwV 1 X.2.2.2.2 gX5_readEither_X5_reads rfl rfl rfl (by decide +kernel) ⟨Nat.le_of_ble_eq_true rfl, Nat.le_of_ble_eq_true rfl⟩) hRd.1.1 rfl rfl hl.1 rfl (Nat.le_of_ble_eq_true rfl) dX5_readEither_39 (by exact ⟨Nat.zero_le _, Nat.zero_le _⟩)) hS (fun r u H locs hq hP hS => ?_)
            obtain ⟨rfl, rfl⟩ := hq
            generalize eJ2 : g2 IN1 rd 0 (nI pN1 + 1) = J2 at hP
            have hP : gP D cy B z T J2 R H := hP
            have hfJ2 : ∀ c j, ¬ (c = rd ∧ j = 0) → J2 c j = IN1 c j := fun c j h => gs_ne eJ2 h rfl
            have hpnJ2 := sH_in h38 (by decide)
            have hFt := hFt.trs (fun c j h1 _ => hfJ2 c j h1)
            have hRd : cRd rd tc a T J2 R tp n (pN1 + 1) := hRd.mv (fun c j h1 _ => hfJ2 c j h1) ((gs_same eJ2).trans (nI_add _ 1)) (by omega)
            have hSr : cSr a J2 cs pdN1 := hSr.k (fun c j g1 g2 => hfJ2 c j (by omega))
            refine lv_if_ne (tgt := 4) X.1 X.2.1 dX5_readEither_42 (by decide) (fun c42 => ?_) (fun c42 => ?_)
            · have n42 : ¬ 1 = 0 := gq_ne c42 (show (1 : Int32) = nI 1 from rfl) (show (0 : Int32) = nI 0 from rfl) (by omega) (by omega)
              exact ih2 _ _ _ _ (by omega) ⟨⟨(pN1 + 1), pdN1, hFt, hRd, hSr, ⟨by omega, by omega⟩, hEv2.trans ((pLoop_go (by omega) ⟨rfl, h38⟩).trans (by rw [pEk_s (by omega)]))⟩, lv_sub hl [1, 2, 3, 0] rfl⟩ hP hS
            · exact absurd c42 (by decide)
          · have hEv3 : pEvery tp n (pFac tp n 2) (false, pk, flC cs ++ pdk) = (false, pN1, flC cs ++ pdN1) := hEv2.trans (pLoop_stop (fun h => h38 h.2))
            have hco9 := co_le (cs := cs) (pd := pdN1)
            refine g_run_i (f := fun u => u) (g_runV (k := 7) [.ref s97] X hK hP hS hC hB (o_reads_n hRd hs97 h2 ht97 h38) (cwV 1 X.2.2.2.2 gX5_readEither_X5_reads rfl rfl rfl (by decide +kernel) ⟨Nat.le_of_ble_eq_true rfl, Nat.le_of_ble_eq_true rfl⟩) hRd.1.1 rfl rfl hl.1 rfl (Nat.le_of_ble_eq_true rfl) dX5_readEither_39 (by exact ⟨Nat.zero_le _, Nat.zero_le _⟩)) hS (fun r u H locs hq hP hS => ?_)
            obtain ⟨rfl, rfl⟩ := hq
            have hP : gP D cy B z T IN1 R H := hP
            refine lv_if_ne (tgt := 4) X.1 X.2.1 dX5_readEither_42 (by decide) (fun c42 => ?_) (fun c42 => ?_)
            · exact absurd rfl c42
            · have n42 : 0 = 0 := gq_eq c42 (show (0 : Int32) = nI 0 from rfl) (show (0 : Int32) = nI 0 from rfl) (by omega) (by omega)
              refine lv_iload_n X.1 X.2.1 dX5_readEither_45 rfl (lv_at hl 3 rfl) ?_
              refine lv_if_le (tgt := 58) X.1 X.2.1 dX5_readEither_46 (by decide) (fun c46 => ?_) (fun c46 => ?_)
              · have n46 : k ≤ 0 := gq_le c46 (Eq.refl (nI k)) (show (0 : Int32) = nI 0 from rfl) (by omega) (by omega)
                refine lv_iinc (v := nI (k + 1)) (lv' := [(2, .int (nI (k + 1))), (3, .int (nI (j + 1))), (0, .ref rd), (1, .int 3)]) X.1 X.2.1 dX5_readEither_58 hl (k := 3) rfl (gn_inc (Eq.refl (nI k)) 1) (by decide) rfl (fun ls hl => ?_)
                refine lv_iload_n X.1 X.2.1 dX5_readEither_61 rfl (lv_at hl 0 rfl) ?_
                refine lv_bipush (v := 100) X.1 X.2.1 dX5_readEither_62 (by decide) ?_
                refine lv_icmp_ge (tgt := 76) X.1 X.2.1 dX5_readEither_64 (by decide) (fun c64 => ?_) (fun c64 => ?_)
                · exact absurd (gq_le c64 (show (100 : Int32) = nI 100 from rfl) (Eq.refl (nI (k + 1))) (by omega) (by omega)) (by omega)
                · have n64 : (k + 1) < 100 := gq_nle c64 (show (100 : Int32) = nI 100 from rfl) (Eq.refl (nI (k + 1))) (by omega) (by omega)
                  refine lv_aload_n X.1 X.2.1 dX5_readEither_67 rfl (lv_at hl 2 rfl) ?_
                  refine va_ldcS X.1 X.2.1 X.2.2.2.1 (vk_R.warm hC.1 hR99) dX5_readEither_68 ?_
                  have hY : pEk k 10002 (pEvery tp n (pFac tp n 2) (false, pk, flC cs ++ pdk)) = (false, pN1, flC cs ++ pdN1) := (pEk_0 (by omega)).trans hEv3
                  have hSo2 : pSome tp n (pFac tp n 2) (false, pl, flC cs ++ pd) = pLoop tp n 124 10002 (pEvery tp n (pFac tp n 2)) (101 - k) (false, pN1, flC cs ++ pdN1) := by rw [hSo, hY]
                  by_cases h124 : sH tp n pN1 = 124
                  · refine g_run_i (f := fun u => u) (g_runV (k := 7) [.ref s99] X hK hP hS hC hB (o_reads_y hRd hs99 h2 ht99 h124) (cwV 1 X.2.2.2.2 gX5_readEither_X5_reads rfl rfl rfl (by decide +kernel) ⟨Nat.le_of_ble_eq_true rfl, Nat.le_of_ble_eq_true rfl⟩) hRd.1.1 rfl rfl hl.1 rfl (Nat.le_of_ble_eq_true rfl) dX5_readEither_70 (by exact ⟨Nat.zero_le _, Nat.zero_le _⟩)) hS (fun r u H locs hq hP hS => ?_)
                    obtain ⟨rfl, rfl⟩ := hq
                    generalize eJ3 : g2 IN1 rd 0 (nI pN1 + 1) = J3 at hP
                    have hP : gP D cy B z T J3 R H := hP
                    have hfJ3 : ∀ c j, ¬ (c = rd ∧ j = 0) → J3 c j = IN1 c j := fun c j h => gs_ne eJ3 h rfl
                    have hpnJ3 := sH_in h124 (by decide)
                    have hFt := hFt.trs (fun c j h1 _ => hfJ3 c j h1)
                    have hRd : cRd rd tc a T J3 R tp n (pN1 + 1) := hRd.mv (fun c j h1 _ => hfJ3 c j h1) ((gs_same eJ3).trans (nI_add _ 1)) (by omega)
                    have hSr : cSr a J3 cs pdN1 := hSr.k (fun c j g1 g2 => hfJ3 c j (by omega))
                    refine lv_if_ne (tgt := 2) X.1 X.2.1 dX5_readEither_73 (by decide) (fun c73 => ?_) (fun c73 => ?_)
                    · have n73 : ¬ 1 = 0 := gq_ne c73 (show (1 : Int32) = nI 1 from rfl) (show (0 : Int32) = nI 0 from rfl) (by omega) (by omega)
                      exact ih _ _ _ _ (by omega) ⟨⟨(pN1 + 1), pdN1, hFt, hRd, hSr, ⟨by omega, by omega⟩, hSo2.trans ((pLoop_go (by omega) ⟨rfl, h124⟩).trans (by rw [pEk_s (by omega)]))⟩, lv_sub hl [2, 3, 0] rfl⟩ hP hS
                    · exact absurd c73 (by decide)
                  · refine g_run_i (f := fun u => u) (g_runV (k := 7) [.ref s99] X hK hP hS hC hB (o_reads_n hRd hs99 h2 ht99 h124) (cwV 1 X.2.2.2.2 gX5_readEither_X5_reads rfl rfl rfl (by decide +kernel) ⟨Nat.le_of_ble_eq_true rfl, Nat.le_of_ble_eq_true rfl⟩) hRd.1.1 rfl rfl hl.1 rfl (Nat.le_of_ble_eq_true rfl) dX5_readEither_70 (by exact ⟨Nat.zero_le _, Nat.zero_le _⟩)) hS (fun r u H locs hq hP hS => ?_)
                    obtain ⟨rfl, rfl⟩ := hq
                    have hP : gP D cy B z T IN1 R H := hP
                    refine lv_if_ne (tgt := 2) X.1 X.2.1 dX5_readEither_73 (by decide) (fun c73 => ?_) (fun c73 => ?_)
                    · exact absurd rfl c73
                    · have n73 : 0 = 0 := gq_eq c73 (show (0 : Int32) = nI 0 from rfl) (show (0 : Int32) = nI 0 from rfl) (by omega) (by omega)
                      refine lv_iconst (v := 1) X.1 X.2.1 dX5_readEither_76 (by decide) ?_
                      exact g_zret (f := fun u => u) (z, T, IN1, R) X hr hlk hK hP hS dX5_readEither_77 rfl ⟨IN1, pN1, rfl, hFt, hRd.2.2.2.1, Or.inl ⟨rfl, _, (hSo2.trans (pLoop_stop (fun h => h124 h.2))), hSr⟩⟩
              · have n46 : 0 < k := gq_nle c46 (Eq.refl (nI k)) (show (0 : Int32) = nI 0 from rfl) (by omega) (by omega)
                refine lv_aload_n X.1 X.2.1 dX5_readEither_49 rfl (lv_at hl 1 rfl) ?_
                refine g_getr 7 3 X hK hP hRd.1.1 rfl hinRX5 rfl (by decide) k31 (fun _ h => h) dX5_readEither_50 (show va_rf (R rd 3) = .ref a from by rw [hRd.1.2.2.1]; rfl) ?_
                refine lv_bipush (v := (-3)) X.1 X.2.1 dX5_readEither_53 (by decide) ?_
                refine g_run_v (f := fun u => u) (g_runV (k := 6) [.int (-3)] X hK hP hS hC hB (o_put hRd.1.2.2.2.2 hSr.2.2.2.1 (by omega)) (cwV 1 X.2.2.2.2 gX5_readEither_X4_put rfl rfl rfl (by decide +kernel) ⟨Nat.le_of_ble_eq_true rfl, Nat.le_of_ble_eq_true rfl⟩) hRd.1.2.2.2.2.1 rfl rfl hl.1 rfl (Nat.le_of_ble_eq_true rfl) dX5_readEither_55 (by exact ⟨Nat.zero_le _, Nat.zero_le _⟩)) hS (fun u H locs hq hP hS => ?_)
                subst hq
                generalize eJ4 : g2 IN1 (a + 4) ((coC cs ++ pdN1).length) (-3) = J4 at hP
                generalize eJ5 : g2 J4 a 7 (nI ((coC cs ++ pdN1).length) + 1) = J5 at hP
                have hP : gP D cy B z T J5 R H := hP
                have hFt := hFt.trs (fun c j h1 h2 => gs_ne eJ5 (by omega) (gs_ne eJ4 (by omega) rfl))
                have hRd : cRd rd tc a T J5 R tp n pN1 := hRd.mv (fun c j h1 h2 => gs_ne eJ5 (by omega) (gs_ne eJ4 (by omega) rfl)) (gs_ne eJ5 (by omega) (gs_ne eJ4 (by omega) hRd.2.2.2.1)) (by omega)
                have hSr : cSr a J5 cs (pdN1 ++ [10002]) := hSr.push (by omega) (by omega) rfl eJ4 eJ5
                have hflJ5 := fl1 (cs := cs) (pd := pdN1) (t := 10002)
                refine lv_iinc (v := nI (k + 1)) (lv' := [(2, .int (nI (k + 1))), (3, .int (nI (j + 1))), (0, .ref rd), (1, .int 3)]) X.1 X.2.1 dX5_readEither_58 hl (k := 3) rfl (gn_inc (Eq.refl (nI k)) 1) (by decide) rfl (fun ls hl => ?_)
                refine lv_iload_n X.1 X.2.1 dX5_readEither_61 rfl (lv_at hl 0 rfl) ?_
                refine lv_bipush (v := 100) X.1 X.2.1 dX5_readEither_62 (by decide) ?_
                refine lv_icmp_ge (tgt := 76) X.1 X.2.1 dX5_readEither_64 (by decide) (fun c64 => ?_) (fun c64 => ?_)
                · exact absurd (gq_le c64 (show (100 : Int32) = nI 100 from rfl) (Eq.refl (nI (k + 1))) (by omega) (by omega)) (by omega)
                · have n64 : (k + 1) < 100 := gq_nle c64 (show (100 : Int32) = nI 100 from rfl) (Eq.refl (nI (k + 1))) (by omega) (by omega)
                  refine lv_aload_n X.1 X.2.1 dX5_readEither_67 rfl (lv_at hl 2 rfl) ?_
                  refine va_ldcS X.1 X.2.1 X.2.2.2.1 (vk_R.warm hC.1 hR99) dX5_readEither_68 ?_
                  have hY : pEk k 10002 (pEvery tp n (pFac tp n 2) (false, pk, flC cs ++ pdk)) = (false, pN1, flC cs ++ (pdN1 ++ [10002])) := by rw [pEk_s (by omega), hEv3, pEm_f, List.append_assoc]
                  have hSo2 : pSome tp n (pFac tp n 2) (false, pl, flC cs ++ pd) = pLoop tp n 124 10002 (pEvery tp n (pFac tp n 2)) (101 - k) (false, pN1, flC cs ++ (pdN1 ++ [10002])) := by rw [hSo, hY]
                  by_cases h124 : sH tp n pN1 = 124
                  · refine g_run_i (f := fun u => u) (g_runV (k := 7) [.ref s99] X hK hP hS hC hB (o_reads_y hRd hs99 h2 ht99 h124) (cwV 1 X.2.2.2.2 gX5_readEither_X5_reads rfl rfl rfl (by decide +kernel) ⟨Nat.le_of_ble_eq_true rfl, Nat.le_of_ble_eq_true rfl⟩) hRd.1.1 rfl rfl hl.1 rfl (Nat.le_of_ble_eq_true rfl) dX5_readEither_70 (by exact ⟨Nat.zero_le _, Nat.zero_le _⟩)) hS (fun r u H locs hq hP hS => ?_)
                    obtain ⟨rfl, rfl⟩ := hq
                    generalize eJ6 : g2 J5 rd 0 (nI pN1 + 1) = J6 at hP
                    have hP : gP D cy B z T J6 R H := hP
                    have hfJ6 : ∀ c j, ¬ (c = rd ∧ j = 0) → J6 c j = J5 c j := fun c j h => gs_ne eJ6 h rfl
                    have hpnJ6 := sH_in h124 (by decide)
                    have hFt := hFt.trs (fun c j h1 _ => hfJ6 c j h1)
                    have hRd : cRd rd tc a T J6 R tp n (pN1 + 1) := hRd.mv (fun c j h1 _ => hfJ6 c j h1) ((gs_same eJ6).trans (nI_add _ 1)) (by omega)
                    have hSr : cSr a J6 cs (pdN1 ++ [10002]) := hSr.k (fun c j g1 g2 => hfJ6 c j (by omega))
                    refine lv_if_ne (tgt := 2) X.1 X.2.1 dX5_readEither_73 (by decide) (fun c73 => ?_) (fun c73 => ?_)
                    · have n73 : ¬ 1 = 0 := gq_ne c73 (show (1 : Int32) = nI 1 from rfl) (show (0 : Int32) = nI 0 from rfl) (by omega) (by omega)
                      exact ih _ _ _ _ (by omega) ⟨⟨(pN1 + 1), (pdN1 ++ [10002]), hFt, hRd, hSr, ⟨by omega, by omega⟩, hSo2.trans ((pLoop_go (by omega) ⟨rfl, h124⟩).trans (by rw [pEk_s (by omega)]))⟩, lv_sub hl [2, 3, 0] rfl⟩ hP hS
                    · exact absurd c73 (by decide)
                  · refine g_run_i (f := fun u => u) (g_runV (k := 7) [.ref s99] X hK hP hS hC hB (o_reads_n hRd hs99 h2 ht99 h124) (cwV 1 X.2.2.2.2 gX5_readEither_X5_reads rfl rfl rfl (by decide +kernel) ⟨Nat.le_of_ble_eq_true rfl, Nat.le_of_ble_eq_true rfl⟩) hRd.1.1 rfl rfl hl.1 rfl (Nat.le_of_ble_eq_true rfl) dX5_readEither_70 (by exact ⟨Nat.zero_le _, Nat.zero_le _⟩)) hS (fun r u H locs hq hP hS => ?_)
                    obtain ⟨rfl, rfl⟩ := hq
                    have hP : gP D cy B z T J5 R H := hP
                    refine lv_if_ne (tgt := 2) X.1 X.2.1 dX5_readEither_73 (by decide) (fun c73 => ?_) (fun c73 => ?_)
                    · exact absurd rfl c73
                    · have n73 : 0 = 0 := gq_eq c73 (show (0 : Int32) = nI 0 from rfl) (show (0 : Int32) = nI 0 from rfl) (by omega) (by omega)
                      refine lv_iconst (v := 1) X.1 X.2.1 dX5_readEither_76 (by decide) ?_
                      exact g_zret (f := fun u => u) (z, T, J5, R) X hr hlk hK hP hS dX5_readEither_77 rfl ⟨J5, pN1, rfl, hFt, hRd.2.2.2.1, Or.inl ⟨rfl, _, (hSo2.trans (pLoop_stop (fun h => h124 h.2))), hSr⟩⟩
      · have n15 : 0 < j := gq_nle c15 (Eq.refl (nI j)) (show (0 : Int32) = nI 0 from rfl) (by omega) (by omega)
        refine lv_aload_n X.1 X.2.1 dX5_readEither_18 rfl (lv_at hl 0 rfl) ?_
        refine g_getr 7 3 X hK hP hRd.1.1 rfl hinRX5 rfl (by decide) k31 (fun _ h => h) dX5_readEither_19 (show va_rf (R rd 3) = .ref a from by rw [hRd.1.2.2.1]; rfl) ?_
        refine lv_bipush (v := (-2)) X.1 X.2.1 dX5_readEither_22 (by decide) ?_
        refine g_run_v (f := fun u => u) (g_runV (k := 6) [.int (-2)] X hK hP hS hC hB (o_put hRd.1.2.2.2.2 hSr.2.2.2.1 (by omega)) (cwV 1 X.2.2.2.2 gX5_readEither_X4_put rfl rfl rfl (by decide +kernel) ⟨Nat.le_of_ble_eq_true rfl, Nat.le_of_ble_eq_true rfl⟩) hRd.1.2.2.2.2.1 rfl rfl hl.1 rfl (Nat.le_of_ble_eq_true rfl) dX5_readEither_24 (by exact ⟨Nat.zero_le _, Nat.zero_le _⟩)) hS (fun u H locs hq hP hS => ?_)
        subst hq
        generalize eJ7 : g2 IN1 (a + 4) ((coC cs ++ pdN1).length) (-2) = J7 at hP
        generalize eJ8 : g2 J7 a 7 (nI ((coC cs ++ pdN1).length) + 1) = J8 at hP
        have hP : gP D cy B z T J8 R H := hP
        have hFt := hFt.trs (fun c j h1 h2 => gs_ne eJ8 (by omega) (gs_ne eJ7 (by omega) rfl))
        have hRd : cRd rd tc a T J8 R tp n pN1 := hRd.mv (fun c j h1 h2 => gs_ne eJ8 (by omega) (gs_ne eJ7 (by omega) rfl)) (gs_ne eJ8 (by omega) (gs_ne eJ7 (by omega) hRd.2.2.2.1)) (by omega)
        have hSr : cSr a J8 cs (pdN1 ++ [10001]) := hSr.push (by omega) (by omega) rfl eJ7 eJ8
        have hflJ8 := fl1 (cs := cs) (pd := pdN1) (t := 10001)
        refine lv_iinc (v := nI (j + 1)) (lv' := [(3, .int (nI (j + 1))), (0, .ref rd), (1, .int 3), (2, .int (nI k))]) X.1 X.2.1 dX5_readEither_27 hl (k := 3) rfl (gn_inc (Eq.refl (nI j)) 1) (by decide) rfl (fun ls hl => ?_)
        refine lv_iload_n X.1 X.2.1 dX5_readEither_30 rfl (lv_at hl 0 rfl) ?_
        refine lv_bipush (v := 100) X.1 X.2.1 dX5_readEither_31 (by decide) ?_
        refine lv_icmp_ge (tgt := 45) X.1 X.2.1 dX5_readEither_33 (by decide) (fun c33 => ?_) (fun c33 => ?_)
        · exact absurd (gq_le c33 (show (100 : Int32) = nI 100 from rfl) (Eq.refl (nI (j + 1))) (by omega) (by omega)) (by omega)
        · have n33 : (j + 1) < 100 := gq_nle c33 (show (100 : Int32) = nI 100 from rfl) (Eq.refl (nI (j + 1))) (by omega) (by omega)
          refine lv_aload_n X.1 X.2.1 dX5_readEither_36 rfl (lv_at hl 1 rfl) ?_
          refine va_ldcS X.1 X.2.1 X.2.2.2.1 (vk_R.warm hC.1 hR97) dX5_readEither_37 ?_
          have hX : pEk j 10001 ((pFac tp n 2) (false, pj, flC cs ++ pdj)) = (false, pN1, flC cs ++ (pdN1 ++ [10001])) := by rw [pEk_s (by omega), hEN1, pEm_f, List.append_assoc]
          have hEv2 : pEvery tp n (pFac tp n 2) (false, pk, flC cs ++ pdk) = pLoop tp n 38 10001 (pFac tp n 2) (101 - j) (false, pN1, flC cs ++ (pdN1 ++ [10001])) := by rw [hEv, hX]
          by_cases h38 : sH tp n pN1 = 38
          · refine g_run_i (f := fun u => u) (g_runV (k := 7) [.ref s97] X hK hP hS hC hB (o_reads_y hRd hs97 h2 ht97 h38) (cwV 1 X.2.2.2.2 gX5_readEither_X5_reads rfl rfl rfl (by decide +kernel) ⟨Nat.le_of_ble_eq_true rfl, Nat.le_of_ble_eq_true rfl⟩) hRd.1.1 rfl rfl hl.1 rfl (Nat.le_of_ble_eq_true rfl) dX5_readEither_39 (by exact ⟨Nat.zero_le _, Nat.zero_le _⟩)) hS (fun r u H locs hq hP hS => ?_)
            obtain ⟨rfl, rfl⟩ := hq
            generalize eJ9 : g2 J8 rd 0 (nI pN1 + 1) = J9 at hP
            have hP : gP D cy B z T J9 R H := hP
            have hfJ9 : ∀ c j, ¬ (c = rd ∧ j = 0) → J9 c j = J8 c j := fun c j h => gs_ne eJ9 h rfl
            have hpnJ9 := sH_in h38 (by decide)
            have hFt := hFt.trs (fun c j h1 _ => hfJ9 c j h1)
            have hRd : cRd rd tc a T J9 R tp n (pN1 + 1) := hRd.mv (fun c j h1 _ => hfJ9 c j h1) ((gs_same eJ9).trans (nI_add _ 1)) (by omega)
            have hSr : cSr a J9 cs (pdN1 ++ [10001]) := hSr.k (fun c j g1 g2 => hfJ9 c j (by omega))
            refine lv_if_ne (tgt := 4) X.1 X.2.1 dX5_readEither_42 (by decide) (fun c42 => ?_) (fun c42 => ?_)
            · have n42 : ¬ 1 = 0 := gq_ne c42 (show (1 : Int32) = nI 1 from rfl) (show (0 : Int32) = nI 0 from rfl) (by omega) (by omega)
              exact ih2 _ _ _ _ (by omega) ⟨⟨(pN1 + 1), (pdN1 ++ [10001]), hFt, hRd, hSr, ⟨by omega, by omega⟩, hEv2.trans ((pLoop_go (by omega) ⟨rfl, h38⟩).trans (by rw [pEk_s (by omega)]))⟩, lv_sub hl [1, 2, 3, 0] rfl⟩ hP hS
            · exact absurd c42 (by decide)
          · have hEv3 : pEvery tp n (pFac tp n 2) (false, pk, flC cs ++ pdk) = (false, pN1, flC cs ++ (pdN1 ++ [10001])) := hEv2.trans (pLoop_stop (fun h => h38 h.2))
            have hco9 := co_le (cs := cs) (pd := (pdN1 ++ [10001]))
            refine g_run_i (f := fun u => u) (g_runV (k := 7) [.ref s97] X hK hP hS hC hB (o_reads_n hRd hs97 h2 ht97 h38) (cwV 1 X.2.2.2.2 gX5_readEither_X5_reads rfl rfl rfl (by decide +kernel) ⟨Nat.le_of_ble_eq_true rfl, Nat.le_of_ble_eq_true rfl⟩) hRd.1.1 rfl rfl hl.1 rfl (Nat.le_of_ble_eq_true rfl) dX5_readEither_39 (by exact ⟨Nat.zero_le _, Nat.zero_le _⟩)) hS (fun r u H locs hq hP hS => ?_)
            obtain ⟨rfl, rfl⟩ := hq
            have hP : gP D cy B z T J8 R H := hP
            refine lv_if_ne (tgt := 4) X.1 X.2.1 dX5_readEither_42 (by decide) (fun c42 => ?_) (fun c42 => ?_)
            · exact absurd rfl c42
            · have n42 : 0 = 0 := gq_eq c42 (show (0 : Int32) = nI 0 from rfl) (show (0 : Int32) = nI 0 from rfl) (by omega) (by omega)
              refine lv_iload_n X.1 X.2.1 dX5_readEither_45 rfl (lv_at hl 3 rfl) ?_
              refine lv_if_le (tgt := 58) X.1 X.2.1 dX5_readEither_46 (by decide) (fun c46 => ?_) (fun c46 => ?_)
              · have n46 : k ≤ 0 := gq_le c46 (Eq.refl (nI k)) (show (0 : Int32) = nI 0 from rfl) (by omega) (by omega)
                refine lv_iinc (v := nI (k + 1)) (lv' := [(2, .int (nI (k + 1))), (3, .int (nI (j + 1))), (0, .ref rd), (1, .int 3)]) X.1 X.2.1 dX5_readEither_58 hl (k := 3) rfl (gn_inc (Eq.refl (nI k)) 1) (by decide) rfl (fun ls hl => ?_)
                refine lv_iload_n X.1 X.2.1 dX5_readEither_61 rfl (lv_at hl 0 rfl) ?_
                refine lv_bipush (v := 100) X.1 X.2.1 dX5_readEither_62 (by decide) ?_
                refine lv_icmp_ge (tgt := 76) X.1 X.2.1 dX5_readEither_64 (by decide) (fun c64 => ?_) (fun c64 => ?_)
                · exact absurd (gq_le c64 (show (100 : Int32) = nI 100 from rfl) (Eq.refl (nI (k + 1))) (by omega) (by omega)) (by omega)
                · have n64 : (k + 1) < 100 := gq_nle c64 (show (100 : Int32) = nI 100 from rfl) (Eq.refl (nI (k + 1))) (by omega) (by omega)
                  refine lv_aload_n X.1 X.2.1 dX5_readEither_67 rfl (lv_at hl 2 rfl) ?_
                  refine va_ldcS X.1 X.2.1 X.2.2.2.1 (vk_R.warm hC.1 hR99) dX5_readEither_68 ?_
                  have hY : pEk k 10002 (pEvery tp n (pFac tp n 2) (false, pk, flC cs ++ pdk)) = (false, pN1, flC cs ++ (pdN1 ++ [10001])) := (pEk_0 (by omega)).trans hEv3
                  have hSo2 : pSome tp n (pFac tp n 2) (false, pl, flC cs ++ pd) = pLoop tp n 124 10002 (pEvery tp n (pFac tp n 2)) (101 - k) (false, pN1, flC cs ++ (pdN1 ++ [10001])) := by rw [hSo, hY]
                  by_cases h124 : sH tp n pN1 = 124
                  · refine g_run_i (f := fun u => u) (g_runV (k := 7) [.ref s99] X hK hP hS hC hB (o_reads_y hRd hs99 h2 ht99 h124) (cwV 1 X.2.2.2.2 gX5_readEither_X5_reads rfl rfl rfl (by decide +kernel) ⟨Nat.le_of_ble_eq_true rfl, Nat.le_of_ble_eq_true rfl⟩) hRd.1.1 rfl rfl hl.1 rfl (Nat.le_of_ble_eq_true rfl) dX5_readEither_70 (by exact ⟨Nat.zero_le _, Nat.zero_le _⟩)) hS (fun r u H locs hq hP hS => ?_)
                    obtain ⟨rfl, rfl⟩ := hq
                    generalize eJ10 : g2 J8 rd 0 (nI pN1 + 1) = J10 at hP
                    have hP : gP D cy B z T J10 R H := hP
                    have hfJ10 : ∀ c j, ¬ (c = rd ∧ j = 0) → J10 c j = J8 c j := fun c j h => gs_ne eJ10 h rfl
                    have hpnJ10 := sH_in h124 (by decide)
                    have hFt := hFt.trs (fun c j h1 _ => hfJ10 c j h1)
                    have hRd : cRd rd tc a T J10 R tp n (pN1 + 1) := hRd.mv (fun c j h1 _ => hfJ10 c j h1) ((gs_same eJ10).trans (nI_add _ 1)) (by omega)
                    have hSr : cSr a J10 cs (pdN1 ++ [10001]) := hSr.k (fun c j g1 g2 => hfJ10 c j (by omega))
                    refine lv_if_ne (tgt := 2) X.1 X.2.1 dX5_readEither_73 (by decide) (fun c73 => ?_) (fun c73 => ?_)
                    · have n73 : ¬ 1 = 0 := gq_ne c73 (show (1 : Int32) = nI 1 from rfl) (show (0 : Int32) = nI 0 from rfl) (by omega) (by omega)
                      exact ih _ _ _ _ (by omega) ⟨⟨(pN1 + 1), (pdN1 ++ [10001]), hFt, hRd, hSr, ⟨by omega, by omega⟩, hSo2.trans ((pLoop_go (by omega) ⟨rfl, h124⟩).trans (by rw [pEk_s (by omega)]))⟩, lv_sub hl [2, 3, 0] rfl⟩ hP hS
                    · exact absurd c73 (by decide)
                  · refine g_run_i (f := fun u => u) (g_runV (k := 7) [.ref s99] X hK hP hS hC hB (o_reads_n hRd hs99 h2 ht99 h124) (cwV 1 X.2.2.2.2 gX5_readEither_X5_reads rfl rfl rfl (by decide +kernel) ⟨Nat.le_of_ble_eq_true rfl, Nat.le_of_ble_eq_true rfl⟩) hRd.1.1 rfl rfl hl.1 rfl (Nat.le_of_ble_eq_true rfl) dX5_readEither_70 (by exact ⟨Nat.zero_le _, Nat.zero_le _⟩)) hS (fun r u H locs hq hP hS => ?_)
                    obtain ⟨rfl, rfl⟩ := hq
                    have hP : gP D cy B z T J8 R H := hP
                    refine lv_if_ne (tgt := 2) X.1 X.2.1 dX5_readEither_73 (by decide) (fun c73 => ?_) (fun c73 => ?_)
                    · exact absurd rfl c73
                    · have n73 : 0 = 0 := gq_eq c73 (show (0 : Int32) = nI 0 from rfl) (show (0 : Int32) = nI 0 from rfl) (by omega) (by omega)
                      refine lv_iconst (v := 1) X.1 X.2.1 dX5_readEither_76 (by decide) ?_
                      exact g_zret (f := fun u => u) (z, T, J8, R) X hr hlk hK hP hS dX5_readEither_77 rfl ⟨J8, pN1, rfl, hFt, hRd.2.2.2.1, Or.inl ⟨rfl, _, (hSo2.trans (pLoop_stop (fun h => h124 h.2))), hSr⟩⟩
              · have n46 : 0 < k := gq_nle c46 (Eq.refl (nI k)) (show (0 : Int32) = nI 0 from rfl) (by omega) (by omega)
                refine lv_aload_n X.1 X.2.1 dX5_readEither_49 rfl (lv_at hl 1 rfl) ?_
                refine g_getr 7 3 X hK hP hRd.1.1 rfl hinRX5 rfl (by decide) k31 (fun _ h => h) dX5_readEither_50 (show va_rf (R rd 3) = .ref a from by rw [hRd.1.2.2.1]; rfl) ?_
                refine lv_bipush (v := (-3)) X.1 X.2.1 dX5_readEither_53 (by decide) ?_
                refine g_run_v (f := fun u => u) (g_runV (k := 6) [.int (-3)] X hK hP hS hC hB (o_put hRd.1.2.2.2.2 hSr.2.2.2.1 (by omega)) (cwV 1 X.2.2.2.2 gX5_readEither_X4_put rfl rfl rfl (by decide +kernel) ⟨Nat.le_of_ble_eq_true rfl, Nat.le_of_ble_eq_true rfl⟩) hRd.1.2.2.2.2.1 rfl rfl hl.1 rfl (Nat.le_of_ble_eq_true rfl) dX5_readEither_55 (by exact ⟨Nat.zero_le _, Nat.zero_le _⟩)) hS (fun u H locs hq hP hS => ?_)
                subst hq
                generalize eJ11 : g2 J8 (a + 4) ((coC cs ++ (pdN1 ++ [10001])).length) (-3) = J11 at hP
                generalize eJ12 : g2 J11 a 7 (nI ((coC cs ++ (pdN1 ++ [10001])).length) + 1) = J12 at hP
                have hP : gP D cy B z T J12 R H := hP
                have hFt := hFt.trs (fun c j h1 h2 => gs_ne eJ12 (by omega) (gs_ne eJ11 (by omega) rfl))
                have hRd : cRd rd tc a T J12 R tp n pN1 := hRd.mv (fun c j h1 h2 => gs_ne eJ12 (by omega) (gs_ne eJ11 (by omega) rfl)) (gs_ne eJ12 (by omega) (gs_ne eJ11 (by omega) hRd.2.2.2.1)) (by omega)
                have hSr : cSr a J12 cs ((pdN1 ++ [10001]) ++ [10002]) := hSr.push (by omega) (by omega) rfl eJ11 eJ12
                have hflJ12 := fl1 (cs := cs) (pd := (pdN1 ++ [10001])) (t := 10002)
                refine lv_iinc (v := nI (k + 1)) (lv' := [(2, .int (nI (k + 1))), (3, .int (nI (j + 1))), (0, .ref rd), (1, .int 3)]) X.1 X.2.1 dX5_readEither_58 hl (k := 3) rfl (gn_inc (Eq.refl (nI k)) 1) (by decide) rfl (fun ls hl => ?_)
                refine lv_iload_n X.1 X.2.1 dX5_readEither_61 rfl (lv_at hl 0 rfl) ?_
                refine lv_bipush (v := 100) X.1 X.2.1 dX5_readEither_62 (by decide) ?_
                refine lv_icmp_ge (tgt := 76) X.1 X.2.1 dX5_readEither_64 (by decide) (fun c64 => ?_) (fun c64 => ?_)
                · exact absurd (gq_le c64 (show (100 : Int32) = nI 100 from rfl) (Eq.refl (nI (k + 1))) (by omega) (by omega)) (by omega)
                · have n64 : (k + 1) < 100 := gq_nle c64 (show (100 : Int32) = nI 100 from rfl) (Eq.refl (nI (k + 1))) (by omega) (by omega)
                  refine lv_aload_n X.1 X.2.1 dX5_readEither_67 rfl (lv_at hl 2 rfl) ?_
                  refine va_ldcS X.1 X.2.1 X.2.2.2.1 (vk_R.warm hC.1 hR99) dX5_readEither_68 ?_
                  have hY : pEk k 10002 (pEvery tp n (pFac tp n 2) (false, pk, flC cs ++ pdk)) = (false, pN1, flC cs ++ ((pdN1 ++ [10001]) ++ [10002])) := by rw [pEk_s (by omega), hEv3, pEm_f, List.append_assoc]
                  have hSo2 : pSome tp n (pFac tp n 2) (false, pl, flC cs ++ pd) = pLoop tp n 124 10002 (pEvery tp n (pFac tp n 2)) (101 - k) (false, pN1, flC cs ++ ((pdN1 ++ [10001]) ++ [10002])) := by rw [hSo, hY]
                  by_cases h124 : sH tp n pN1 = 124
                  · refine g_run_i (f := fun u => u) (g_runV (k := 7) [.ref s99] X hK hP hS hC hB (o_reads_y hRd hs99 h2 ht99 h124) (cwV 1 X.2.2.2.2 gX5_readEither_X5_reads rfl rfl rfl (by decide +kernel) ⟨Nat.le_of_ble_eq_true rfl, Nat.le_of_ble_eq_true rfl⟩) hRd.1.1 rfl rfl hl.1 rfl (Nat.le_of_ble_eq_true rfl) dX5_readEither_70 (by exact ⟨Nat.zero_le _, Nat.zero_le _⟩)) hS (fun r u H locs hq hP hS => ?_)
                    obtain ⟨rfl, rfl⟩ := hq
                    generalize eJ13 : g2 J12 rd 0 (nI pN1 + 1) = J13 at hP
                    have hP : gP D cy B z T J13 R H := hP
                    have hfJ13 : ∀ c j, ¬ (c = rd ∧ j = 0) → J13 c j = J12 c j := fun c j h => gs_ne eJ13 h rfl
                    have hpnJ13 := sH_in h124 (by decide)
                    have hFt := hFt.trs (fun c j h1 _ => hfJ13 c j h1)
                    have hRd : cRd rd tc a T J13 R tp n (pN1 + 1) := hRd.mv (fun c j h1 _ => hfJ13 c j h1) ((gs_same eJ13).trans (nI_add _ 1)) (by omega)
                    have hSr : cSr a J13 cs ((pdN1 ++ [10001]) ++ [10002]) := hSr.k (fun c j g1 g2 => hfJ13 c j (by omega))
                    refine lv_if_ne (tgt := 2) X.1 X.2.1 dX5_readEither_73 (by decide) (fun c73 => ?_) (fun c73 => ?_)
                    · have n73 : ¬ 1 = 0 := gq_ne c73 (show (1 : Int32) = nI 1 from rfl) (show (0 : Int32) = nI 0 from rfl) (by omega) (by omega)
                      exact ih _ _ _ _ (by omega) ⟨⟨(pN1 + 1), ((pdN1 ++ [10001]) ++ [10002]), hFt, hRd, hSr, ⟨by omega, by omega⟩, hSo2.trans ((pLoop_go (by omega) ⟨rfl, h124⟩).trans (by rw [pEk_s (by omega)]))⟩, lv_sub hl [2, 3, 0] rfl⟩ hP hS
                    · exact absurd c73 (by decide)
                  · refine g_run_i (f := fun u => u) (g_runV (k := 7) [.ref s99] X hK hP hS hC hB (o_reads_n hRd hs99 h2 ht99 h124) (cwV 1 X.2.2.2.2 gX5_readEither_X5_reads rfl rfl rfl (by decide +kernel) ⟨Nat.le_of_ble_eq_true rfl, Nat.le_of_ble_eq_true rfl⟩) hRd.1.1 rfl rfl hl.1 rfl (Nat.le_of_ble_eq_true rfl) dX5_readEither_70 (by exact ⟨Nat.zero_le _, Nat.zero_le _⟩)) hS (fun r u H locs hq hP hS => ?_)
                    obtain ⟨rfl, rfl⟩ := hq
                    have hP : gP D cy B z T J12 R H := hP
                    refine lv_if_ne (tgt := 2) X.1 X.2.1 dX5_readEither_73 (by decide) (fun c73 => ?_) (fun c73 => ?_)
                    · exact absurd rfl c73
                    · have n73 : 0 = 0 := gq_eq c73 (show (0 : Int32) = nI 0 from rfl) (show (0 : Int32) = nI 0 from rfl) (by omega) (by omega)
                      refine lv_iconst (v := 1) X.1 X.2.1 dX5_readEither_76 (by decide) ?_
                      exact g_zret (f := fun u => u) (z, T, J12, R) X hr hlk hK hP hS dX5_readEither_77 rfl ⟨J12, pN1, rfl, hFt, hRd.2.2.2.1, Or.inl ⟨rfl, _, (hSo2.trans (pLoop_stop (fun h => h124 h.2))), hSr⟩⟩
    · exact absurd c9 (by decide)
  · rw [hEN1] at hwN1
    have hwN1 : pj ≤ pN1 ∧ pN1 ≤ n := ⟨hwN1.1, hwN1.2.1⟩
    have hFt := hFt.trs hfN1
    have hEv3 : pEvery tp n (pFac tp n 2) (false, pk, flC cs ++ pdk) = (true, pN1, LN1) := by rw [hEv, hEN1, pEk_t]; exact pLoop_stop (fun h => Bool.noConfusion h.1)
    refine lv_if_ne (tgt := 14) X.1 X.2.1 dX5_readEither_9 (by decide) (fun c9 => ?_) (fun c9 => ?_)
    · exact absurd rfl c9
    · have n9 : 0 = 0 := gq_eq c9 (show (0 : Int32) = nI 0 from rfl) (show (0 : Int32) = nI 0 from rfl) (by omega) (by omega)
      refine lv_iconst (v := 0) X.1 X.2.1 dX5_readEither_12 (by decide) ?_
      exact g_zret (f := fun u => u) (z, T, IN1, R) X hr hlk hK hP hS dX5_readEither_13 rfl ⟨IN1, pN1, rfl, hFt, hpN1, Or.inr ⟨rfl, LN1, (by rw [hSo, hEv3, pEk_t]; exact pLoop_stop (fun h => Bool.noConfusion h.1))⟩⟩

set_option maxHeartbeats 4000000 in
set_option maxRecDepth 100000 in
/-- o_part_3 -/
theorem o_part_3 (hRd : cRd rd tc a T I R tp n pl) (hstr : gStr s0 B) (hSr : cSr a I cs pd) (hLp : (flC cs ++ pd).length ≤ pl) (hp2 : 2 ≤ pl) : Met l yX5_readPart wsX5_readPart ({ frames := 13, cells := 0, slots := 0, locals := 290 }) (va_Pc [.ref rd, .int 2] (gW0 s0 D cy B (z, T, I, R))) (va_Qi (fun r u => ∃ I' p', u = (z, T, I', R) ∧ rFr rd a I I' ∧ I' rd 0 = nI p' ∧ ((r = 1 ∧ ∃ pd', pFac tp n 3 (false, pl, flC cs ++ pd) = (false, p', flC cs ++ pd') ∧ cSr a I' cs pd') ∨ (r = 0 ∧ ∃ L', pFac tp n 3 (false, pl, flC cs ++ pd) = (true, p', L')))) (fun u t => gW1 D cy B u t) (gA B)) 0 0 (gA B) := by
  refine g_met (maxL := 2) (ret := (some .boolean)) (by decide) rfl (Nat.le_of_ble_eq_true rfl) (fun p e s m args below meth c ls X hr hlk hnm hK hP hC hS hl => ?_)
  have hl : lv_has ls 2 [(0, .ref rd), (1, .int 2)] := hl
  have hP : gP D cy B z T I R s.heap := hP
  have hB : B ≤ s.heap.size := by rw [hP.1]; exact hP.2.1
  have hinRX5 : ∀ w ∈ wsX50, w ∈ wsX5_readPart := fun _ h => List.mem_cons_of_mem _ (List.mem_append_left _ (List.mem_append_right _ h))
  have k31 : Cond.fieldLink RX5 31 "BarrowPlank$SiteReader" "draft" "LBarrowPlank$Site;" ∈ wsX5_readPart := by decide +kernel
  have hn100 := hRd.2.2.1.1
  have hpn := hRd.2.2.1.2.1
  have htp := hRd.2.2.1.2.2
  have hrda := hRd.2.1.1
  have htca := hRd.2.1.2.1
  have hrdt := hRd.2.1.2.2
  have h2 : gSt2 s0 B := hstr.1
  obtain ⟨s101, q101, hR101, hs101, ht101⟩ := hstr.at 12 rfl
  have hs101 : gSo s0 B [33] s101 q101 := hs101
  have ht101 : gTx [33] := ht101
  obtain ⟨s103, q103, hR103, hs103, ht103⟩ := hstr.at 13 rfl
  have hs103 : gSo s0 B [40] s103 q103 := hs103
  have ht103 : gTx [40] := ht103
  obtain ⟨s105, q105, hR105, hs105, ht105⟩ := hstr.at 14 rfl
  have hs105 : gSo s0 B [41] s105 q105 := hs105
  have ht105 : gTx [41] := ht105
  have hFt : rFr rd a I I := rFr.rf
  have hco := co_le (cs := cs) (pd := pd)
  by_cases hb1 : sH tp n pl = 33
  · refine lv_iload_n X.1 X.2.1 dX5_readPart_0 rfl (lv_at hl 1 rfl) ?_
    refine lv_iconst (v := 5) X.1 X.2.1 dX5_readPart_1 (by decide) ?_
    refine lv_icmp_ge (tgt := 36) X.1 X.2.1 dX5_readPart_2 (by decide) (fun c2 => ?_) (fun c2 => ?_)
    · exact absurd c2 (by decide)
    · have n2 : 2 < 5 := gq_nle c2 (show (5 : Int32) = nI 5 from rfl) (show (2 : Int32) = nI 2 from rfl) (by omega) (by omega)
      refine lv_aload_n X.1 X.2.1 dX5_readPart_5 rfl (lv_at hl 0 rfl) ?_
      refine va_ldcS X.1 X.2.1 X.2.2.2.1 (vk_R.warm hC.1 hR101) dX5_readPart_6 ?_
      refine g_run_i (f := fun u => u) (g_runV (k := 7) [.ref s101] X hK hP hS hC hB (o_reads_y hRd hs101 h2 ht101 hb1) (cwV 1 X.2.2.2.2 gX5_readPart_X5_reads rfl rfl rfl (by decide +kernel) ⟨Nat.le_of_ble_eq_true rfl, Nat.le_of_ble_eq_true rfl⟩) hRd.1.1 rfl rfl hl.1 rfl (Nat.le_of_ble_eq_true rfl) dX5_readPart_8 (by exact ⟨Nat.zero_le _, Nat.zero_le _⟩)) hS (fun r u H locs hq hP hS => ?_)
      obtain ⟨rfl, rfl⟩ := hq
      generalize eJ1 : g2 I rd 0 (nI pl + 1) = J1 at hP
      have hP : gP D cy B z T J1 R H := hP
      have hfJ1 : ∀ c j, ¬ (c = rd ∧ j = 0) → J1 c j = I c j := fun c j h => gs_ne eJ1 h rfl
      have hpnJ1 := sH_in hb1 (by decide)
      have hFt := hFt.trs (fun c j h1 _ => hfJ1 c j h1)
      have hRd : cRd rd tc a T J1 R tp n (pl + 1) := hRd.mv (fun c j h1 _ => hfJ1 c j h1) ((gs_same eJ1).trans (nI_add _ 1)) (by omega)
      have hSr : cSr a J1 cs pd := hSr.k (fun c j g1 g2 => hfJ1 c j (by omega))
      refine lv_if_eq (tgt := 36) X.1 X.2.1 dX5_readPart_11 (by decide) (fun c11 => ?_) (fun c11 => ?_)
      · exact absurd c11 (by decide)
      · have n11 : ¬ 1 = 0 := gq_ne c11 (show (1 : Int32) = nI 1 from rfl) (show (0 : Int32) = nI 0 from rfl) (by omega) (by omega)
        refine lv_aload_n X.1 X.2.1 dX5_readPart_14 rfl (lv_at hl 0 rfl) ?_
        refine lv_iload_n X.1 X.2.1 dX5_readPart_15 rfl (lv_at hl 1 rfl) ?_
        refine lv_iconst (v := 1) X.1 X.2.1 dX5_readPart_16 (by decide) ?_
        refine lv_iadd X.1 X.2.1 dX5_readPart_17 ?_
        refine g_run_i (f := fun u => u) (g_runV (k := 7) [.int (2 + 1)] X hK hP hS hC hB (o_part_2 hRd hstr hSr (by omega) (by omega)) (cwV 1 X.2.2.2.2 gX5_readPart_X5_readPart rfl rfl rfl (by decide +kernel) ⟨Nat.le_of_ble_eq_true rfl, Nat.le_of_ble_eq_true rfl⟩) hRd.1.1 rfl rfl hl.1 rfl (Nat.le_of_ble_eq_true rfl) dX5_readPart_18 (by exact ⟨Nat.zero_le _, Nat.zero_le _⟩)) hS (fun r u H locs hq hP hS => ?_)
        obtain ⟨IN2, pN2, rfl, hfN2, hpN2, hq⟩ := hq
        have hP : gP D cy B z T IN2 R H := hP
        have hwN2 := (pW_fac (tp := tp) (n := n) 2) (false, (pl + 1), flC cs ++ pd) (by show (pl + 1) ≤ n; omega)
        rcases hq with ⟨rfl, pdN2, hEN2, hSN2⟩ | ⟨rfl, LN2, hEN2⟩
        · rw [hEN2] at hwN2
          have hwN2 : (pl + 1) ≤ pN2 ∧ pN2 ≤ n ∧ (flC cs ++ pdN2).length + (pl + 1) ≤ pN2 + (flC cs ++ pd).length := hwN2
          have hcoN2 := co_le (cs := cs) (pd := pdN2)
          have hFt := hFt.trs hfN2
          have hRd : cRd rd tc a T IN2 R tp n pN2 := hRd.mv hfN2 hpN2 hwN2.2.1
          have hSr : cSr a IN2 cs pdN2 := hSN2
          refine lv_if_ne (tgt := 26) X.1 X.2.1 dX5_readPart_21 (by decide) (fun c21 => ?_) (fun c21 => ?_)
          · have n21 : ¬ 1 = 0 := gq_ne c21 (show (1 : Int32) = nI 1 from rfl) (show (0 : Int32) = nI 0 from rfl) (by omega) (by omega)
            refine lv_aload_n X.1 X.2.1 dX5_readPart_26 rfl (lv_at hl 0 rfl) ?_
            refine g_getr 7 3 X hK hP hRd.1.1 rfl hinRX5 rfl (by decide) k31 (fun _ h => h) dX5_readPart_27 (show va_rf (R rd 3) = .ref a from by rw [hRd.1.2.2.1]; rfl) ?_
            refine lv_iconst (v := (-1)) X.1 X.2.1 dX5_readPart_30 (by decide) ?_
            refine g_run_v (f := fun u => u) (g_runV (k := 6) [.int (-1)] X hK hP hS hC hB (o_put hRd.1.2.2.2.2 hSr.2.2.2.1 (by omega)) (cwV 1 X.2.2.2.2 gX5_readPart_X4_put rfl rfl rfl (by decide +kernel) ⟨Nat.le_of_ble_eq_true rfl, Nat.le_of_ble_eq_true rfl⟩) hRd.1.2.2.2.2.1 rfl rfl hl.1 rfl (Nat.le_of_ble_eq_true rfl) dX5_readPart_31 (by exact ⟨Nat.zero_le _, Nat.zero_le _⟩)) hS (fun u H locs hq hP hS => ?_)
            subst hq
            generalize eJ3 : g2 IN2 (a + 4) ((coC cs ++ pdN2).length) (-1) = J3 at hP
            generalize eJ4 : g2 J3 a 7 (nI ((coC cs ++ pdN2).length) + 1) = J4 at hP
            have hP : gP D cy B z T J4 R H := hP
            have hFt := hFt.trs (fun c j h1 h2 => gs_ne eJ4 (by omega) (gs_ne eJ3 (by omega) rfl))
            have hRd : cRd rd tc a T J4 R tp n pN2 := hRd.mv (fun c j h1 h2 => gs_ne eJ4 (by omega) (gs_ne eJ3 (by omega) rfl)) (gs_ne eJ4 (by omega) (gs_ne eJ3 (by omega) hRd.2.2.2.1)) (by omega)
            have hSr : cSr a J4 cs (pdN2 ++ [10000]) := hSr.push (by omega) (by omega) rfl eJ3 eJ4
            have hflJ4 := fl1 (cs := cs) (pd := pdN2) (t := 10000)
            refine lv_iconst (v := 1) X.1 X.2.1 dX5_readPart_34 (by decide) ?_
            exact g_zret (f := fun u => u) (z, T, J4, R) X hr hlk hK hP hS dX5_readPart_35 rfl ⟨J4, pN2, rfl, hFt, hRd.2.2.2.1, Or.inl ⟨rfl, _, ((pFac_n (d := 2) hb1).trans (by rw [hEN2, pEm_f, List.append_assoc])), hSr⟩⟩
          · exact absurd c21 (by decide)
        · rw [hEN2] at hwN2
          have hwN2 : (pl + 1) ≤ pN2 ∧ pN2 ≤ n := ⟨hwN2.1, hwN2.2.1⟩
          have hFt := hFt.trs hfN2
          refine lv_if_ne (tgt := 26) X.1 X.2.1 dX5_readPart_21 (by decide) (fun c21 => ?_) (fun c21 => ?_)
          · exact absurd rfl c21
          · have n21 : 0 = 0 := gq_eq c21 (show (0 : Int32) = nI 0 from rfl) (show (0 : Int32) = nI 0 from rfl) (by omega) (by omega)
            refine lv_iconst (v := 0) X.1 X.2.1 dX5_readPart_24 (by decide) ?_
            exact g_zret (f := fun u => u) (z, T, IN2, R) X hr hlk hK hP hS dX5_readPart_25 rfl ⟨IN2, pN2, rfl, hFt, hpN2, Or.inr ⟨rfl, LN2, ((pFac_n (d := 2) hb1).trans (by rw [hEN2, pEm_tr]))⟩⟩
  · by_cases hb2 : sH tp n pl = 40
    · refine lv_iload_n X.1 X.2.1 dX5_readPart_0 rfl (lv_at hl 1 rfl) ?_
      refine lv_iconst (v := 5) X.1 X.2.1 dX5_readPart_1 (by decide) ?_
      refine lv_icmp_ge (tgt := 36) X.1 X.2.1 dX5_readPart_2 (by decide) (fun c2 => ?_) (fun c2 => ?_)
      · exact absurd c2 (by decide)
      · have n2 : 2 < 5 := gq_nle c2 (show (5 : Int32) = nI 5 from rfl) (show (2 : Int32) = nI 2 from rfl) (by omega) (by omega)
        refine lv_aload_n X.1 X.2.1 dX5_readPart_5 rfl (lv_at hl 0 rfl) ?_
        refine va_ldcS X.1 X.2.1 X.2.2.2.1 (vk_R.warm hC.1 hR101) dX5_readPart_6 ?_
        refine g_run_i (f := fun u => u) (g_runV (k := 7) [.ref s101] X hK hP hS hC hB (o_reads_n hRd hs101 h2 ht101 hb1) (cwV 1 X.2.2.2.2 gX5_readPart_X5_reads rfl rfl rfl (by decide +kernel) ⟨Nat.le_of_ble_eq_true rfl, Nat.le_of_ble_eq_true rfl⟩) hRd.1.1 rfl rfl hl.1 rfl (Nat.le_of_ble_eq_true rfl) dX5_readPart_8 (by exact ⟨Nat.zero_le _, Nat.zero_le _⟩)) hS (fun r u H locs hq hP hS => ?_)
        obtain ⟨rfl, rfl⟩ := hq
        have hP : gP D cy B z T I R H := hP
        refine lv_if_eq (tgt := 36) X.1 X.2.1 dX5_readPart_11 (by decide) (fun c11 => ?_) (fun c11 => ?_)
        · have n11 : 0 = 0 := gq_eq c11 (show (0 : Int32) = nI 0 from rfl) (show (0 : Int32) = nI 0 from rfl) (by omega) (by omega)
          refine lv_iload_n X.1 X.2.1 dX5_readPart_36 rfl (lv_at hl 1 rfl) ?_
          refine lv_iconst (v := 5) X.1 X.2.1 dX5_readPart_37 (by decide) ?_
          refine lv_icmp_ge (tgt := 75) X.1 X.2.1 dX5_readPart_38 (by decide) (fun c38 => ?_) (fun c38 => ?_)
          · exact absurd c38 (by decide)
          · have n38 : 2 < 5 := gq_nle c38 (show (5 : Int32) = nI 5 from rfl) (show (2 : Int32) = nI 2 from rfl) (by omega) (by omega)
            refine lv_aload_n X.1 X.2.1 dX5_readPart_41 rfl (lv_at hl 0 rfl) ?_
            refine va_ldcS X.1 X.2.1 X.2.2.2.1 (vk_R.warm hC.1 hR103) dX5_readPart_42 ?_
            refine g_run_i (f := fun u => u) (g_runV (k := 7) [.ref s103] X hK hP hS hC hB (o_reads_y hRd hs103 h2 ht103 hb2) (cwV 1 X.2.2.2.2 gX5_readPart_X5_reads rfl rfl rfl (by decide +kernel) ⟨Nat.le_of_ble_eq_true rfl, Nat.le_of_ble_eq_true rfl⟩) hRd.1.1 rfl rfl hl.1 rfl (Nat.le_of_ble_eq_true rfl) dX5_readPart_44 (by exact ⟨Nat.zero_le _, Nat.zero_le _⟩)) hS (fun r u H locs hq hP hS => ?_)
            obtain ⟨rfl, rfl⟩ := hq
            generalize eJ5 : g2 I rd 0 (nI pl + 1) = J5 at hP
            have hP : gP D cy B z T J5 R H := hP
            have hfJ5 : ∀ c j, ¬ (c = rd ∧ j = 0) → J5 c j = I c j := fun c j h => gs_ne eJ5 h rfl
            have hpnJ5 := sH_in hb2 (by decide)
            have hFt := hFt.trs (fun c j h1 _ => hfJ5 c j h1)
            have hRd : cRd rd tc a T J5 R tp n (pl + 1) := hRd.mv (fun c j h1 _ => hfJ5 c j h1) ((gs_same eJ5).trans (nI_add _ 1)) (by omega)
            have hSr : cSr a J5 cs pd := hSr.k (fun c j g1 g2 => hfJ5 c j (by omega))
            refine lv_if_eq (tgt := 75) X.1 X.2.1 dX5_readPart_47 (by decide) (fun c47 => ?_) (fun c47 => ?_)
            · exact absurd c47 (by decide)
            · have n47 : ¬ 1 = 0 := gq_ne c47 (show (1 : Int32) = nI 1 from rfl) (show (0 : Int32) = nI 0 from rfl) (by omega) (by omega)
              refine lv_aload_n X.1 X.2.1 dX5_readPart_50 rfl (lv_at hl 0 rfl) ?_
              refine lv_iload_n X.1 X.2.1 dX5_readPart_51 rfl (lv_at hl 1 rfl) ?_
              refine lv_iconst (v := 1) X.1 X.2.1 dX5_readPart_52 (by decide) ?_
              refine lv_iadd X.1 X.2.1 dX5_readPart_53 ?_
              refine g_run_i (f := fun u => u) (g_runV (k := 7) [.int (2 + 1)] X hK hP hS hC hB (o_either_2 hRd hstr hSr (by omega) (by omega)) (cwV 1 X.2.2.2.2 gX5_readPart_X5_readEither rfl rfl rfl (by decide +kernel) ⟨Nat.le_of_ble_eq_true rfl, Nat.le_of_ble_eq_true rfl⟩) hRd.1.1 rfl rfl hl.1 rfl (Nat.le_of_ble_eq_true rfl) dX5_readPart_54 (by exact ⟨Nat.zero_le _, Nat.zero_le _⟩)) hS (fun r u H locs hq hP hS => ?_)
              obtain ⟨IN6, pN6, rfl, hfN6, hpN6, hq⟩ := hq
              have hP : gP D cy B z T IN6 R H := hP
              have hwN6 := (pW_some (tp := tp) (pW_fac (tp := tp) (n := n) 2)) (false, (pl + 1), flC cs ++ pd) (by show (pl + 1) ≤ n; omega)
              rcases hq with ⟨rfl, pdN6, hEN6, hSN6⟩ | ⟨rfl, LN6, hEN6⟩
              · rw [hEN6] at hwN6
                have hwN6 : (pl + 1) ≤ pN6 ∧ pN6 ≤ n ∧ (flC cs ++ pdN6).length + (pl + 1) ≤ pN6 + (flC cs ++ pd).length := hwN6
                have hcoN6 := co_le (cs := cs) (pd := pdN6)
                have hFt := hFt.trs hfN6
                have hRd : cRd rd tc a T IN6 R tp n pN6 := hRd.mv hfN6 hpN6 hwN6.2.1
                have hSr : cSr a IN6 cs pdN6 := hSN6
                by_cases hb3 : sH tp n pN6 = 41
                · refine lv_if_eq (tgt := 73) X.1 X.2.1 dX5_readPart_57 (by decide) (fun c57 => ?_) (fun c57 => ?_)
                  · exact absurd c57 (by decide)
                  · have n57 : ¬ 1 = 0 := gq_ne c57 (show (1 : Int32) = nI 1 from rfl) (show (0 : Int32) = nI 0 from rfl) (by omega) (by omega)
                    refine lv_aload_n X.1 X.2.1 dX5_readPart_60 rfl (lv_at hl 0 rfl) ?_
                    refine va_ldcS X.1 X.2.1 X.2.2.2.1 (vk_R.warm hC.1 hR105) dX5_readPart_61 ?_
                    refine g_run_i (f := fun u => u) (g_runV (k := 7) [.ref s105] X hK hP hS hC hB (o_reads_y hRd hs105 h2 ht105 hb3) (cwV 1 X.2.2.2.2 gX5_readPart_X5_reads rfl rfl rfl (by decide +kernel) ⟨Nat.le_of_ble_eq_true rfl, Nat.le_of_ble_eq_true rfl⟩) hRd.1.1 rfl rfl hl.1 rfl (Nat.le_of_ble_eq_true rfl) dX5_readPart_63 (by exact ⟨Nat.zero_le _, Nat.zero_le _⟩)) hS (fun r u H locs hq hP hS => ?_)
                    obtain ⟨rfl, rfl⟩ := hq
                    generalize eJ7 : g2 IN6 rd 0 (nI pN6 + 1) = J7 at hP
                    have hP : gP D cy B z T J7 R H := hP
                    have hfJ7 : ∀ c j, ¬ (c = rd ∧ j = 0) → J7 c j = IN6 c j := fun c j h => gs_ne eJ7 h rfl
                    have hpnJ7 := sH_in hb3 (by decide)
                    have hFt := hFt.trs (fun c j h1 _ => hfJ7 c j h1)
                    have hRd : cRd rd tc a T J7 R tp n (pN6 + 1) := hRd.mv (fun c j h1 _ => hfJ7 c j h1) ((gs_same eJ7).trans (nI_add _ 1)) (by omega)
                    have hSr : cSr a J7 cs pdN6 := hSr.k (fun c j g1 g2 => hfJ7 c j (by omega))
                    refine lv_if_eq (tgt := 73) X.1 X.2.1 dX5_readPart_66 (by decide) (fun c66 => ?_) (fun c66 => ?_)
                    · exact absurd c66 (by decide)
                    · have n66 : ¬ 1 = 0 := gq_ne c66 (show (1 : Int32) = nI 1 from rfl) (show (0 : Int32) = nI 0 from rfl) (by omega) (by omega)
                      refine lv_iconst (v := 1) X.1 X.2.1 dX5_readPart_69 (by decide) ?_
                      refine lv_goto (tgt := 74) X.1 X.2.1 dX5_readPart_70 (by decide) ?_
                      exact g_zret (f := fun u => u) (z, T, J7, R) X hr hlk hK hP hS dX5_readPart_74 rfl ⟨J7, (pN6 + 1), rfl, hFt, hRd.2.2.2.1, Or.inl ⟨rfl, _, ((pFac_p (d := 2) hb2).trans (by rw [hEN6]; exact pMust_y hb3)), hSr⟩⟩
                · refine lv_if_eq (tgt := 73) X.1 X.2.1 dX5_readPart_57 (by decide) (fun c57 => ?_) (fun c57 => ?_)
                  · exact absurd c57 (by decide)
                  · have n57 : ¬ 1 = 0 := gq_ne c57 (show (1 : Int32) = nI 1 from rfl) (show (0 : Int32) = nI 0 from rfl) (by omega) (by omega)
                    refine lv_aload_n X.1 X.2.1 dX5_readPart_60 rfl (lv_at hl 0 rfl) ?_
                    refine va_ldcS X.1 X.2.1 X.2.2.2.1 (vk_R.warm hC.1 hR105) dX5_readPart_61 ?_
                    refine g_run_i (f := fun u => u) (g_runV (k := 7) [.ref s105] X hK hP hS hC hB (o_reads_n hRd hs105 h2 ht105 hb3) (cwV 1 X.2.2.2.2 gX5_readPart_X5_reads rfl rfl rfl (by decide +kernel) ⟨Nat.le_of_ble_eq_true rfl, Nat.le_of_ble_eq_true rfl⟩) hRd.1.1 rfl rfl hl.1 rfl (Nat.le_of_ble_eq_true rfl) dX5_readPart_63 (by exact ⟨Nat.zero_le _, Nat.zero_le _⟩)) hS (fun r u H locs hq hP hS => ?_)
                    obtain ⟨rfl, rfl⟩ := hq
                    have hP : gP D cy B z T IN6 R H := hP
                    refine lv_if_eq (tgt := 73) X.1 X.2.1 dX5_readPart_66 (by decide) (fun c66 => ?_) (fun c66 => ?_)
                    · have n66 : 0 = 0 := gq_eq c66 (show (0 : Int32) = nI 0 from rfl) (show (0 : Int32) = nI 0 from rfl) (by omega) (by omega)
                      refine lv_iconst (v := 0) X.1 X.2.1 dX5_readPart_73 (by decide) ?_
                      exact g_zret (f := fun u => u) (z, T, IN6, R) X hr hlk hK hP hS dX5_readPart_74 rfl ⟨IN6, pN6, rfl, hFt, hRd.2.2.2.1, Or.inr ⟨rfl, _, ((pFac_p (d := 2) hb2).trans (by rw [hEN6]; exact pMust_n hb3))⟩⟩
                    · exact absurd rfl c66
              · rw [hEN6] at hwN6
                have hwN6 : (pl + 1) ≤ pN6 ∧ pN6 ≤ n := ⟨hwN6.1, hwN6.2.1⟩
                have hFt := hFt.trs hfN6
                refine lv_if_eq (tgt := 73) X.1 X.2.1 dX5_readPart_57 (by decide) (fun c57 => ?_) (fun c57 => ?_)
                · have n57 : 0 = 0 := gq_eq c57 (show (0 : Int32) = nI 0 from rfl) (show (0 : Int32) = nI 0 from rfl) (by omega) (by omega)
                  refine lv_iconst (v := 0) X.1 X.2.1 dX5_readPart_73 (by decide) ?_
                  exact g_zret (f := fun u => u) (z, T, IN6, R) X hr hlk hK hP hS dX5_readPart_74 rfl ⟨IN6, pN6, rfl, hFt, hpN6, Or.inr ⟨rfl, LN6, ((pFac_p (d := 2) hb2).trans (by rw [hEN6]; exact pMust_t))⟩⟩
                · exact absurd rfl c57
        · exact absurd rfl c11
    · refine lv_iload_n X.1 X.2.1 dX5_readPart_0 rfl (lv_at hl 1 rfl) ?_
      refine lv_iconst (v := 5) X.1 X.2.1 dX5_readPart_1 (by decide) ?_
      refine lv_icmp_ge (tgt := 36) X.1 X.2.1 dX5_readPart_2 (by decide) (fun c2 => ?_) (fun c2 => ?_)
      · exact absurd c2 (by decide)
      · have n2 : 2 < 5 := gq_nle c2 (show (5 : Int32) = nI 5 from rfl) (show (2 : Int32) = nI 2 from rfl) (by omega) (by omega)
        refine lv_aload_n X.1 X.2.1 dX5_readPart_5 rfl (lv_at hl 0 rfl) ?_
        refine va_ldcS X.1 X.2.1 X.2.2.2.1 (vk_R.warm hC.1 hR101) dX5_readPart_6 ?_
        refine g_run_i (f := fun u => u) (g_runV (k := 7) [.ref s101] X hK hP hS hC hB (o_reads_n hRd hs101 h2 ht101 hb1) (cwV 1 X.2.2.2.2 gX5_readPart_X5_reads rfl rfl rfl (by decide +kernel) ⟨Nat.le_of_ble_eq_true rfl, Nat.le_of_ble_eq_true rfl⟩) hRd.1.1 rfl rfl hl.1 rfl (Nat.le_of_ble_eq_true rfl) dX5_readPart_8 (by exact ⟨Nat.zero_le _, Nat.zero_le _⟩)) hS (fun r u H locs hq hP hS => ?_)
        obtain ⟨rfl, rfl⟩ := hq
        have hP : gP D cy B z T I R H := hP
        refine lv_if_eq (tgt := 36) X.1 X.2.1 dX5_readPart_11 (by decide) (fun c11 => ?_) (fun c11 => ?_)
        · have n11 : 0 = 0 := gq_eq c11 (show (0 : Int32) = nI 0 from rfl) (show (0 : Int32) = nI 0 from rfl) (by omega) (by omega)
          refine lv_iload_n X.1 X.2.1 dX5_readPart_36 rfl (lv_at hl 1 rfl) ?_
          refine lv_iconst (v := 5) X.1 X.2.1 dX5_readPart_37 (by decide) ?_
          refine lv_icmp_ge (tgt := 75) X.1 X.2.1 dX5_readPart_38 (by decide) (fun c38 => ?_) (fun c38 => ?_)
          · exact absurd c38 (by decide)
          · have n38 : 2 < 5 := gq_nle c38 (show (5 : Int32) = nI 5 from rfl) (show (2 : Int32) = nI 2 from rfl) (by omega) (by omega)
            refine lv_aload_n X.1 X.2.1 dX5_readPart_41 rfl (lv_at hl 0 rfl) ?_
            refine va_ldcS X.1 X.2.1 X.2.2.2.1 (vk_R.warm hC.1 hR103) dX5_readPart_42 ?_
            refine g_run_i (f := fun u => u) (g_runV (k := 7) [.ref s103] X hK hP hS hC hB (o_reads_n hRd hs103 h2 ht103 hb2) (cwV 1 X.2.2.2.2 gX5_readPart_X5_reads rfl rfl rfl (by decide +kernel) ⟨Nat.le_of_ble_eq_true rfl, Nat.le_of_ble_eq_true rfl⟩) hRd.1.1 rfl rfl hl.1 rfl (Nat.le_of_ble_eq_true rfl) dX5_readPart_44 (by exact ⟨Nat.zero_le _, Nat.zero_le _⟩)) hS (fun r u H locs hq hP hS => ?_)
            obtain ⟨rfl, rfl⟩ := hq
            have hP : gP D cy B z T I R H := hP
            refine lv_if_eq (tgt := 75) X.1 X.2.1 dX5_readPart_47 (by decide) (fun c47 => ?_) (fun c47 => ?_)
            · have n47 : 0 = 0 := gq_eq c47 (show (0 : Int32) = nI 0 from rfl) (show (0 : Int32) = nI 0 from rfl) (by omega) (by omega)
              refine lv_aload_n X.1 X.2.1 dX5_readPart_75 rfl (lv_at hl 0 rfl) ?_
              refine g_run_i (f := fun u => u) (g_runV (k := 7) [] X hK hP hS hC hB (o_test hRd hstr hSr (by omega)) (cwV 0 X.2.2.2.2 gX5_readPart_X5_readTest rfl rfl rfl (by decide +kernel) ⟨Nat.le_of_ble_eq_true rfl, Nat.le_of_ble_eq_true rfl⟩) hRd.1.1 rfl rfl hl.1 rfl (Nat.le_of_ble_eq_true rfl) dX5_readPart_76 (by exact ⟨Nat.zero_le _, Nat.zero_le _⟩)) hS (fun r u H locs hq hP hS => ?_)
              obtain ⟨IN8, pN8, rfl, hfN8, hpN8, hq⟩ := hq
              have hP : gP D cy B z T IN8 R H := hP
              have hwN8 := pW_atom (tp := tp) (n := n) (false, pl, flC cs ++ pd) (by show pl ≤ n; omega)
              rcases hq with ⟨rfl, pdN8, hEN8, hSN8⟩ | ⟨rfl, LN8, hEN8⟩
              · rw [hEN8] at hwN8
                have hwN8 : pl ≤ pN8 ∧ pN8 ≤ n ∧ (flC cs ++ pdN8).length + pl ≤ pN8 + (flC cs ++ pd).length := hwN8
                have hcoN8 := co_le (cs := cs) (pd := pdN8)
                have hFt := hFt.trs hfN8
                have hRd : cRd rd tc a T IN8 R tp n pN8 := hRd.mv hfN8 hpN8 hwN8.2.1
                have hSr : cSr a IN8 cs pdN8 := hSN8
                exact g_zret (f := fun u => u) (z, T, IN8, R) X hr hlk hK hP hS dX5_readPart_79 rfl ⟨IN8, pN8, rfl, hFt, hRd.2.2.2.1, Or.inl ⟨rfl, _, ((pFac_a hb1 hb2 3).trans hEN8), hSr⟩⟩
              · rw [hEN8] at hwN8
                have hwN8 : pl ≤ pN8 ∧ pN8 ≤ n := ⟨hwN8.1, hwN8.2.1⟩
                have hFt := hFt.trs hfN8
                exact g_zret (f := fun u => u) (z, T, IN8, R) X hr hlk hK hP hS dX5_readPart_79 rfl ⟨IN8, pN8, rfl, hFt, hpN8, Or.inr ⟨rfl, LN8, ((pFac_a hb1 hb2 3).trans hEN8)⟩⟩
            · exact absurd rfl c47
        · exact absurd rfl c11

set_option maxHeartbeats 4000000 in
set_option maxRecDepth 100000 in
/-- o_either_3 -/
theorem o_either_3 (hRd : cRd rd tc a T I R tp n pl) (hstr : gStr s0 B) (hSr : cSr a I cs pd) (hLp : (flC cs ++ pd).length ≤ pl) (hp2 : 2 ≤ pl) : Met l yX5_readEither wsX5_readEither ({ frames := 14, cells := 0, slots := 0, locals := 311 }) (va_Pc [.ref rd, .int 2] (gW0 s0 D cy B (z, T, I, R))) (va_Qi (fun r u => ∃ I' p', u = (z, T, I', R) ∧ rFr rd a I I' ∧ I' rd 0 = nI p' ∧ ((r = 1 ∧ ∃ pd', pSome tp n (pFac tp n 3) (false, pl, flC cs ++ pd) = (false, p', flC cs ++ pd') ∧ cSr a I' cs pd') ∨ (r = 0 ∧ ∃ L', pSome tp n (pFac tp n 3) (false, pl, flC cs ++ pd) = (true, p', L')))) (fun u t => gW1 D cy B u t) (gA B)) 0 0 (gA B) := by
  refine g_met (maxL := 4) (ret := (some .boolean)) (by decide) rfl (Nat.le_of_ble_eq_true rfl) (fun p e s m args below meth c ls X hr hlk hnm hK hP hC hS hl => ?_)
  have hl : lv_has ls 4 [(0, .ref rd), (1, .int 2)] := hl
  have hP : gP D cy B z T I R s.heap := hP
  have hB : B ≤ s.heap.size := by rw [hP.1]; exact hP.2.1
  have hinRX5 : ∀ w ∈ wsX50, w ∈ wsX5_readEither := fun _ h => List.mem_cons_of_mem _ (List.mem_append_left _ (List.mem_append_right _ h))
  have k31 : Cond.fieldLink RX5 31 "BarrowPlank$SiteReader" "draft" "LBarrowPlank$Site;" ∈ wsX5_readEither := by decide +kernel
  have hn100 := hRd.2.2.1.1
  have hpn := hRd.2.2.1.2.1
  have htp := hRd.2.2.1.2.2
  have hrda := hRd.2.1.1
  have htca := hRd.2.1.2.1
  have hrdt := hRd.2.1.2.2
  have h2 : gSt2 s0 B := hstr.1
  obtain ⟨s97, q97, hR97, hs97, ht97⟩ := hstr.at 20 rfl
  have hs97 : gSo s0 B [38] s97 q97 := hs97
  have ht97 : gTx [38] := ht97
  obtain ⟨s99, q99, hR99, hs99, ht99⟩ := hstr.at 21 rfl
  have hs99 : gSo s0 B [124] s99 q99 := hs99
  have ht99 : gTx [124] := ht99
  have hFt : rFr rd a I I := rFr.rf
  refine lv_iconst (v := 0) X.1 X.2.1 dX5_readEither_0 (by decide) ?_
  refine lv_istore_n (lv' := [(2, .int 0), (0, .ref rd), (1, .int 2)]) X.1 X.2.1 dX5_readEither_1 rfl hl (by decide) rfl (fun ls hl => ?_)
  refine i_loop (I := I) 100 2 [] (fun k Q9 ls => (∃ pk pdk, rFr rd a I Q9 ∧ cRd rd tc a T Q9 R tp n pk ∧ cSr a Q9 cs pdk ∧ ((flC cs ++ pdk).length + min k 1 ≤ pk ∧ 2 + k ≤ pk) ∧ pSome tp n (pFac tp n 3) (false, pl, flC cs ++ pd) = pLoop tp n 124 10002 (pEvery tp n (pFac tp n 3)) (101 - k) (pEk k 10002 (pEvery tp n (pFac tp n 3) (false, pk, flC cs ++ pdk)))) ∧ lv_has ls 4 [(0, .ref rd), (1, .int 2), (2, .int (nI k))]) 0 (by omega) ⟨⟨pl, pd, rFr.rf, hRd, hSr, ⟨by omega, by omega⟩, (by rw [pEk_0 rfl]; rfl)⟩, lv_sub hl [1, 2, 0] rfl⟩ hP hS (fun k Q9 H locs ls hk hiv hP hS ih => ?_)
  obtain ⟨⟨pk, pdk, hFt, hRd, hSr, ⟨hLk, hpk⟩, hSo⟩, hl⟩ := hiv
  have hpkn := hRd.2.2.1.2.1
  refine lv_iconst (v := 0) X.1 X.2.1 dX5_readEither_2 (by decide) ?_
  refine lv_istore_n (lv' := [(3, .int 0), (0, .ref rd), (1, .int 2), (2, .int (nI k))]) X.1 X.2.1 dX5_readEither_3 rfl hl (by decide) rfl (fun ls hl => ?_)
  refine i_loop (I := Q9) 100 4 [] (fun j Q8 ls => (∃ pj pdj, rFr rd a I Q8 ∧ cRd rd tc a T Q8 R tp n pj ∧ cSr a Q8 cs pdj ∧ ((flC cs ++ pdj).length + min k 1 + min j 1 ≤ pj ∧ 2 + k + j ≤ pj) ∧ pEvery tp n (pFac tp n 3) (false, pk, flC cs ++ pdk) = pLoop tp n 38 10001 (pFac tp n 3) (101 - j) (pEk j 10001 ((pFac tp n 3) (false, pj, flC cs ++ pdj)))) ∧ lv_has ls 4 [(0, .ref rd), (1, .int 2), (2, .int (nI k)), (3, .int (nI j))]) 0 (by omega) ⟨⟨pk, pdk, hFt, hRd, hSr, ⟨by omega, by omega⟩, (by rw [pEk_0 rfl]; rfl)⟩, lv_sub hl [1, 2, 3, 0] rfl⟩ hP hS (fun j Q8 H locs ls hj hij hP hS ih2 => ?_)
  obtain ⟨⟨pj, pdj, hFt, hRd, hSr, ⟨hLj, hpj⟩, hEv⟩, hl⟩ := hij
  have hpjn := hRd.2.2.1.2.1
  refine lv_aload_n X.1 X.2.1 dX5_readEither_4 rfl (lv_at hl 0 rfl) ?_
  refine lv_iload_n X.1 X.2.1 dX5_readEither_5 rfl (lv_at hl 1 rfl) ?_
  refine g_run_i (f := fun u => u) (g_runV (k := 7) [.int 2] X hK hP hS hC hB (o_part_3 hRd hstr hSr (by omega) (by omega)) (cwV 1 X.2.2.2.2 gX5_readEither_X5_readPart rfl rfl rfl (by decide +kernel) ⟨Nat.le_of_ble_eq_true rfl, Nat.le_of_ble_eq_true rfl⟩) hRd.1.1 rfl rfl hl.1 rfl (Nat.le_of_ble_eq_true rfl) dX5_readEither_6 (by exact ⟨Nat.zero_le _, Nat.zero_le _⟩)) hS (fun r u H locs hq hP hS => ?_)
  obtain ⟨IN1, pN1, rfl, hfN1, hpN1, hq⟩ := hq
  have hP : gP D cy B z T IN1 R H := hP
  have hwN1 := (pW_fac (tp := tp) (n := n) 3) (false, pj, flC cs ++ pdj) (by show pj ≤ n; omega)
  rcases hq with ⟨rfl, pdN1, hEN1, hSN1⟩ | ⟨rfl, LN1, hEN1⟩
  · rw [hEN1] at hwN1
    have hwN1 : pj ≤ pN1 ∧ pN1 ≤ n ∧ (flC cs ++ pdN1).length + pj ≤ pN1 + (flC cs ++ pdj).length := hwN1
    have hcoN1 := co_le (cs := cs) (pd := pdN1)
    have hFt := hFt.trs hfN1
    have hRd : cRd rd tc a T IN1 R tp n pN1 := hRd.mv hfN1 hpN1 hwN1.2.1
    have hSr : cSr a IN1 cs pdN1 := hSN1
    refine lv_if_ne (tgt := 14) X.1 X.2.1 dX5_readEither_9 (by decide) (fun c9 => ?_) (fun c9 => ?_)
    · have n9 : ¬ 1 = 0 := gq_ne c9 (show (1 : Int32) = nI 1 from rfl) (show (0 : Int32) = nI 0 from rfl) (by omega) (by omega)
      refine lv_iload_n X.1 X.2.1 dX5_readEither_14 rfl (lv_at hl 3 rfl) ?_
      refine lv_if_le (tgt := 27) X.1 X.2.1 dX5_readEither_15 (by decide) (fun c15 => ?_) (fun c15 => ?_)
      · have n15 : j ≤ 0 := gq_le c15 (Eq.refl (nI j)) (show (0 : Int32) = nI 0 from rfl) (by omega) (by omega)
        refine lv_iinc (v := nI (j + 1)) (lv' := [(3, .int (nI (j + 1))), (0, .ref rd), (1, .int 2), (2, .int (nI k))]) X.1 X.2.1 dX5_readEither_27 hl (k := 3) rfl (gn_inc (Eq.refl (nI j)) 1) (by decide) rfl (fun ls hl => ?_)
        refine lv_iload_n X.1 X.2.1 dX5_readEither_30 rfl (lv_at hl 0 rfl) ?_
        refine lv_bipush (v := 100) X.1 X.2.1 dX5_readEither_31 (by decide) ?_
        refine lv_icmp_ge (tgt := 45) X.1 X.2.1 dX5_readEither_33 (by decide) (fun c33 => ?_) (fun c33 => ?_)
        · exact absurd (gq_le c33 (show (100 : Int32) = nI 100 from rfl) (Eq.refl (nI (j + 1))) (by omega) (by omega)) (by omega)
        · have n33 : (j + 1) < 100 := gq_nle c33 (show (100 : Int32) = nI 100 from rfl) (Eq.refl (nI (j + 1))) (by omega) (by omega)
          refine lv_aload_n X.1 X.2.1 dX5_readEither_36 rfl (lv_at hl 1 rfl) ?_
          refine va_ldcS X.1 X.2.1 X.2.2.2.1 (vk_R.warm hC.1 hR97) dX5_readEither_37 ?_
          have hX : pEk j 10001 ((pFac tp n 3) (false, pj, flC cs ++ pdj)) = (false, pN1, flC cs ++ pdN1) := (pEk_0 (by omega)).trans hEN1
          have hEv2 : pEvery tp n (pFac tp n 3) (false, pk, flC cs ++ pdk) = pLoop tp n 38 10001 (pFac tp n 3) (101 - j) (false, pN1, flC cs ++ pdN1) := by rw [hEv, hX]
          by_cases h38 : sH tp n pN1 = 38
          · refine g_run_i (f := fun u => u) (g_runV (k := 7) [.ref s97] X hK hP hS hC hB (o_reads_y hRd hs97 h2 ht97 h38) (cwV 1 X.2.2.2.2 gX5_readEither_X5_reads rfl rfl rfl (by decide +kernel) ⟨Nat.le_of_ble_eq_true rfl, Nat.le_of_ble_eq_true rfl⟩) hRd.1.1 rfl rfl hl.1 rfl (Nat.le_of_ble_eq_true rfl) dX5_readEither_39 (by exact ⟨Nat.zero_le _, Nat.zero_le _⟩)) hS (fun r u H locs hq hP hS => ?_)
            obtain ⟨rfl, rfl⟩ := hq
            generalize eJ2 : g2 IN1 rd 0 (nI pN1 + 1) = J2 at hP
            have hP : gP D cy B z T J2 R H := hP
            have hfJ2 : ∀ c j, ¬ (c = rd ∧ j = 0) → J2 c j = IN1 c j := fun c j h => gs_ne eJ2 h rfl
            have hpnJ2 := sH_in h38 (by decide)
            have hFt := hFt.trs (fun c j h1 _ => hfJ2 c j h1)
            have hRd : cRd rd tc a T J2 R tp n (pN1 + 1) := hRd.mv (fun c j h1 _ => hfJ2 c j h1) ((gs_same eJ2).trans (nI_add _ 1)) (by omega)
            have hSr : cSr a J2 cs pdN1 := hSr.k (fun c j g1 g2 => hfJ2 c j (by omega))
            refine lv_if_ne (tgt := 4) X.1 X.2.1 dX5_readEither_42 (by decide) (fun c42 => ?_) (fun c42 => ?_)
            · have n42 : ¬ 1 = 0 := gq_ne c42 (show (1 : Int32) = nI 1 from rfl) (show (0 : Int32) = nI 0 from rfl) (by omega) (by omega)
              exact ih2 _ _ _ _ (by omega) ⟨⟨(pN1 + 1), pdN1, hFt, hRd, hSr, ⟨by omega, by omega⟩, hEv2.trans ((pLoop_go (by omega) ⟨rfl, h38⟩).trans (by rw [pEk_s (by omega)]))⟩, lv_sub hl [1, 2, 3, 0] rfl⟩ hP hS
            · exact absurd c42 (by decide)
          · have hEv3 : pEvery tp n (pFac tp n 3) (false, pk, flC cs ++ pdk) = (false, pN1, flC cs ++ pdN1) := hEv2.trans (pLoop_stop (fun h => h38 h.2))
            have hco9 := co_le (cs := cs) (pd := pdN1)
            refine g_run_i (f := fun u => u) (g_runV (k := 7) [.ref s97] X hK hP hS hC hB (o_reads_n hRd hs97 h2 ht97 h38) (cwV 1 X.2.2.2.2 gX5_readEither_X5_reads rfl rfl rfl (by decide +kernel) ⟨Nat.le_of_ble_eq_true rfl, Nat.le_of_ble_eq_true rfl⟩) hRd.1.1 rfl rfl hl.1 rfl (Nat.le_of_ble_eq_true rfl) dX5_readEither_39 (by exact ⟨Nat.zero_le _, Nat.zero_le _⟩)) hS (fun r u H locs hq hP hS => ?_)
            obtain ⟨rfl, rfl⟩ := hq
            have hP : gP D cy B z T IN1 R H := hP
            refine lv_if_ne (tgt := 4) X.1 X.2.1 dX5_readEither_42 (by decide) (fun c42 => ?_) (fun c42 => ?_)
            · exact absurd rfl c42
            · have n42 : 0 = 0 := gq_eq c42 (show (0 : Int32) = nI 0 from rfl) (show (0 : Int32) = nI 0 from rfl) (by omega) (by omega)
              refine lv_iload_n X.1 X.2.1 dX5_readEither_45 rfl (lv_at hl 3 rfl) ?_
              refine lv_if_le (tgt := 58) X.1 X.2.1 dX5_readEither_46 (by decide) (fun c46 => ?_) (fun c46 => ?_)
              · have n46 : k ≤ 0 := gq_le c46 (Eq.refl (nI k)) (show (0 : Int32) = nI 0 from rfl) (by omega) (by omega)
                refine lv_iinc (v := nI (k + 1)) (lv' := [(2, .int (nI (k + 1))), (3, .int (nI (j + 1))), (0, .ref rd), (1, .int 2)]) X.1 X.2.1 dX5_readEither_58 hl (k := 3) rfl (gn_inc (Eq.refl (nI k)) 1) (by decide) rfl (fun ls hl => ?_)
                refine lv_iload_n X.1 X.2.1 dX5_readEither_61 rfl (lv_at hl 0 rfl) ?_
                refine lv_bipush (v := 100) X.1 X.2.1 dX5_readEither_62 (by decide) ?_
                refine lv_icmp_ge (tgt := 76) X.1 X.2.1 dX5_readEither_64 (by decide) (fun c64 => ?_) (fun c64 => ?_)
                · exact absurd (gq_le c64 (show (100 : Int32) = nI 100 from rfl) (Eq.refl (nI (k + 1))) (by omega) (by omega)) (by omega)
                · have n64 : (k + 1) < 100 := gq_nle c64 (show (100 : Int32) = nI 100 from rfl) (Eq.refl (nI (k + 1))) (by omega) (by omega)
                  refine lv_aload_n X.1 X.2.1 dX5_readEither_67 rfl (lv_at hl 2 rfl) ?_
                  refine va_ldcS X.1 X.2.1 X.2.2.2.1 (vk_R.warm hC.1 hR99) dX5_readEither_68 ?_
                  have hY : pEk k 10002 (pEvery tp n (pFac tp n 3) (false, pk, flC cs ++ pdk)) = (false, pN1, flC cs ++ pdN1) := (pEk_0 (by omega)).trans hEv3
                  have hSo2 : pSome tp n (pFac tp n 3) (false, pl, flC cs ++ pd) = pLoop tp n 124 10002 (pEvery tp n (pFac tp n 3)) (101 - k) (false, pN1, flC cs ++ pdN1) := by rw [hSo, hY]
                  by_cases h124 : sH tp n pN1 = 124
                  · refine g_run_i (f := fun u => u) (g_runV (k := 7) [.ref s99] X hK hP hS hC hB (o_reads_y hRd hs99 h2 ht99 h124) (cwV 1 X.2.2.2.2 gX5_readEither_X5_reads rfl rfl rfl (by decide +kernel) ⟨Nat.le_of_ble_eq_true rfl, Nat.le_of_ble_eq_true rfl⟩) hRd.1.1 rfl rfl hl.1 rfl (Nat.le_of_ble_eq_true rfl) dX5_readEither_70 (by exact ⟨Nat.zero_le _, Nat.zero_le _⟩)) hS (fun r u H locs hq hP hS => ?_)
                    obtain ⟨rfl, rfl⟩ := hq
                    generalize eJ3 : g2 IN1 rd 0 (nI pN1 + 1) = J3 at hP
                    have hP : gP D cy B z T J3 R H := hP
                    have hfJ3 : ∀ c j, ¬ (c = rd ∧ j = 0) → J3 c j = IN1 c j := fun c j h => gs_ne eJ3 h rfl
                    have hpnJ3 := sH_in h124 (by decide)
                    have hFt := hFt.trs (fun c j h1 _ => hfJ3 c j h1)
                    have hRd : cRd rd tc a T J3 R tp n (pN1 + 1) := hRd.mv (fun c j h1 _ => hfJ3 c j h1) ((gs_same eJ3).trans (nI_add _ 1)) (by omega)
                    have hSr : cSr a J3 cs pdN1 := hSr.k (fun c j g1 g2 => hfJ3 c j (by omega))
                    refine lv_if_ne (tgt := 2) X.1 X.2.1 dX5_readEither_73 (by decide) (fun c73 => ?_) (fun c73 => ?_)
                    · have n73 : ¬ 1 = 0 := gq_ne c73 (show (1 : Int32) = nI 1 from rfl) (show (0 : Int32) = nI 0 from rfl) (by omega) (by omega)
                      exact ih _ _ _ _ (by omega) ⟨⟨(pN1 + 1), pdN1, hFt, hRd, hSr, ⟨by omega, by omega⟩, hSo2.trans ((pLoop_go (by omega) ⟨rfl, h124⟩).trans (by rw [pEk_s (by omega)]))⟩, lv_sub hl [2, 3, 0] rfl⟩ hP hS
                    · exact absurd c73 (by decide)
                  · refine g_run_i (f := fun u => u) (g_runV (k := 7) [.ref s99] X hK hP hS hC hB (o_reads_n hRd hs99 h2 ht99 h124) (cwV 1 X.2.2.2.2 gX5_readEither_X5_reads rfl rfl rfl (by decide +kernel) ⟨Nat.le_of_ble_eq_true rfl, Nat.le_of_ble_eq_true rfl⟩) hRd.1.1 rfl rfl hl.1 rfl (Nat.le_of_ble_eq_true rfl) dX5_readEither_70 (by exact ⟨Nat.zero_le _, Nat.zero_le _⟩)) hS (fun r u H locs hq hP hS => ?_)
                    obtain ⟨rfl, rfl⟩ := hq
                    have hP : gP D cy B z T IN1 R H := hP
                    refine lv_if_ne (tgt := 2) X.1 X.2.1 dX5_readEither_73 (by decide) (fun c73 => ?_) (fun c73 => ?_)
                    · exact absurd rfl c73
                    · have n73 : 0 = 0 := gq_eq c73 (show (0 : Int32) = nI 0 from rfl) (show (0 : Int32) = nI 0 from rfl) (by omega) (by omega)
                      refine lv_iconst (v := 1) X.1 X.2.1 dX5_readEither_76 (by decide) ?_
                      exact g_zret (f := fun u => u) (z, T, IN1, R) X hr hlk hK hP hS dX5_readEither_77 rfl ⟨IN1, pN1, rfl, hFt, hRd.2.2.2.1, Or.inl ⟨rfl, _, (hSo2.trans (pLoop_stop (fun h => h124 h.2))), hSr⟩⟩
              · have n46 : 0 < k := gq_nle c46 (Eq.refl (nI k)) (show (0 : Int32) = nI 0 from rfl) (by omega) (by omega)
                refine lv_aload_n X.1 X.2.1 dX5_readEither_49 rfl (lv_at hl 1 rfl) ?_
                refine g_getr 7 3 X hK hP hRd.1.1 rfl hinRX5 rfl (by decide) k31 (fun _ h => h) dX5_readEither_50 (show va_rf (R rd 3) = .ref a from by rw [hRd.1.2.2.1]; rfl) ?_
                refine lv_bipush (v := (-3)) X.1 X.2.1 dX5_readEither_53 (by decide) ?_
                refine g_run_v (f := fun u => u) (g_runV (k := 6) [.int (-3)] X hK hP hS hC hB (o_put hRd.1.2.2.2.2 hSr.2.2.2.1 (by omega)) (cwV 1 X.2.2.2.2 gX5_readEither_X4_put rfl rfl rfl (by decide +kernel) ⟨Nat.le_of_ble_eq_true rfl, Nat.le_of_ble_eq_true rfl⟩) hRd.1.2.2.2.2.1 rfl rfl hl.1 rfl (Nat.le_of_ble_eq_true rfl) dX5_readEither_55 (by exact ⟨Nat.zero_le _, Nat.zero_le _⟩)) hS (fun u H locs hq hP hS => ?_)
                subst hq
                generalize eJ4 : g2 IN1 (a + 4) ((coC cs ++ pdN1).length) (-3) = J4 at hP
                generalize eJ5 : g2 J4 a 7 (nI ((coC cs ++ pdN1).length) + 1) = J5 at hP
                have hP : gP D cy B z T J5 R H := hP
                have hFt := hFt.trs (fun c j h1 h2 => gs_ne eJ5 (by omega) (gs_ne eJ4 (by omega) rfl))
                have hRd : cRd rd tc a T J5 R tp n pN1 := hRd.mv (fun c j h1 h2 => gs_ne eJ5 (by omega) (gs_ne eJ4 (by omega) rfl)) (gs_ne eJ5 (by omega) (gs_ne eJ4 (by omega) hRd.2.2.2.1)) (by omega)
                have hSr : cSr a J5 cs (pdN1 ++ [10002]) := hSr.push (by omega) (by omega) rfl eJ4 eJ5
                have hflJ5 := fl1 (cs := cs) (pd := pdN1) (t := 10002)
                refine lv_iinc (v := nI (k + 1)) (lv' := [(2, .int (nI (k + 1))), (3, .int (nI (j + 1))), (0, .ref rd), (1, .int 2)]) X.1 X.2.1 dX5_readEither_58 hl (k := 3) rfl (gn_inc (Eq.refl (nI k)) 1) (by decide) rfl (fun ls hl => ?_)
                refine lv_iload_n X.1 X.2.1 dX5_readEither_61 rfl (lv_at hl 0 rfl) ?_
                refine lv_bipush (v := 100) X.1 X.2.1 dX5_readEither_62 (by decide) ?_
                refine lv_icmp_ge (tgt := 76) X.1 X.2.1 dX5_readEither_64 (by decide) (fun c64 => ?_) (fun c64 => ?_)
                · exact absurd (gq_le c64 (show (100 : Int32) = nI 100 from rfl) (Eq.refl (nI (k + 1))) (by omega) (by omega)) (by omega)
                · have n64 : (k + 1) < 100 := gq_nle c64 (show (100 : Int32) = nI 100 from rfl) (Eq.refl (nI (k + 1))) (by omega) (by omega)
                  refine lv_aload_n X.1 X.2.1 dX5_readEither_67 rfl (lv_at hl 2 rfl) ?_
                  refine va_ldcS X.1 X.2.1 X.2.2.2.1 (vk_R.warm hC.1 hR99) dX5_readEither_68 ?_
                  have hY : pEk k 10002 (pEvery tp n (pFac tp n 3) (false, pk, flC cs ++ pdk)) = (false, pN1, flC cs ++ (pdN1 ++ [10002])) := by rw [pEk_s (by omega), hEv3, pEm_f, List.append_assoc]
                  have hSo2 : pSome tp n (pFac tp n 3) (false, pl, flC cs ++ pd) = pLoop tp n 124 10002 (pEvery tp n (pFac tp n 3)) (101 - k) (false, pN1, flC cs ++ (pdN1 ++ [10002])) := by rw [hSo, hY]
                  by_cases h124 : sH tp n pN1 = 124
                  · refine g_run_i (f := fun u => u) (g_runV (k := 7) [.ref s99] X hK hP hS hC hB (o_reads_y hRd hs99 h2 ht99 h124) (cwV 1 X.2.2.2.2 gX5_readEither_X5_reads rfl rfl rfl (by decide +kernel) ⟨Nat.le_of_ble_eq_true rfl, Nat.le_of_ble_eq_true rfl⟩) hRd.1.1 rfl rfl hl.1 rfl (Nat.le_of_ble_eq_true rfl) dX5_readEither_70 (by exact ⟨Nat.zero_le _, Nat.zero_le _⟩)) hS (fun r u H locs hq hP hS => ?_)
                    obtain ⟨rfl, rfl⟩ := hq
                    generalize eJ6 : g2 J5 rd 0 (nI pN1 + 1) = J6 at hP
                    have hP : gP D cy B z T J6 R H := hP
                    have hfJ6 : ∀ c j, ¬ (c = rd ∧ j = 0) → J6 c j = J5 c j := fun c j h => gs_ne eJ6 h rfl
                    have hpnJ6 := sH_in h124 (by decide)
                    have hFt := hFt.trs (fun c j h1 _ => hfJ6 c j h1)
                    have hRd : cRd rd tc a T J6 R tp n (pN1 + 1) := hRd.mv (fun c j h1 _ => hfJ6 c j h1) ((gs_same eJ6).trans (nI_add _ 1)) (by omega)
                    have hSr : cSr a J6 cs (pdN1 ++ [10002]) := hSr.k (fun c j g1 g2 => hfJ6 c j (by omega))
                    refine lv_if_ne (tgt := 2) X.1 X.2.1 dX5_readEither_73 (by decide) (fun c73 => ?_) (fun c73 => ?_)
                    · have n73 : ¬ 1 = 0 := gq_ne c73 (show (1 : Int32) = nI 1 from rfl) (show (0 : Int32) = nI 0 from rfl) (by omega) (by omega)
                      exact ih _ _ _ _ (by omega) ⟨⟨(pN1 + 1), (pdN1 ++ [10002]), hFt, hRd, hSr, ⟨by omega, by omega⟩, hSo2.trans ((pLoop_go (by omega) ⟨rfl, h124⟩).trans (by rw [pEk_s (by omega)]))⟩, lv_sub hl [2, 3, 0] rfl⟩ hP hS
                    · exact absurd c73 (by decide)
                  · refine g_run_i (f := fun u => u) (g_runV (k := 7) [.ref s99] X hK hP hS hC hB (o_reads_n hRd hs99 h2 ht99 h124) (cwV 1 X.2.2.2.2 gX5_readEither_X5_reads rfl rfl rfl (by decide +kernel) ⟨Nat.le_of_ble_eq_true rfl, Nat.le_of_ble_eq_true rfl⟩) hRd.1.1 rfl rfl hl.1 rfl (Nat.le_of_ble_eq_true rfl) dX5_readEither_70 (by exact ⟨Nat.zero_le _, Nat.zero_le _⟩)) hS (fun r u H locs hq hP hS => ?_)
                    obtain ⟨rfl, rfl⟩ := hq
                    have hP : gP D cy B z T J5 R H := hP
                    refine lv_if_ne (tgt := 2) X.1 X.2.1 dX5_readEither_73 (by decide) (fun c73 => ?_) (fun c73 => ?_)
                    · exact absurd rfl c73
                    · have n73 : 0 = 0 := gq_eq c73 (show (0 : Int32) = nI 0 from rfl) (show (0 : Int32) = nI 0 from rfl) (by omega) (by omega)
                      refine lv_iconst (v := 1) X.1 X.2.1 dX5_readEither_76 (by decide) ?_
                      exact g_zret (f := fun u => u) (z, T, J5, R) X hr hlk hK hP hS dX5_readEither_77 rfl ⟨J5, pN1, rfl, hFt, hRd.2.2.2.1, Or.inl ⟨rfl, _, (hSo2.trans (pLoop_stop (fun h => h124 h.2))), hSr⟩⟩
      · have n15 : 0 < j := gq_nle c15 (Eq.refl (nI j)) (show (0 : Int32) = nI 0 from rfl) (by omega) (by omega)
        refine lv_aload_n X.1 X.2.1 dX5_readEither_18 rfl (lv_at hl 0 rfl) ?_
        refine g_getr 7 3 X hK hP hRd.1.1 rfl hinRX5 rfl (by decide) k31 (fun _ h => h) dX5_readEither_19 (show va_rf (R rd 3) = .ref a from by rw [hRd.1.2.2.1]; rfl) ?_
        refine lv_bipush (v := (-2)) X.1 X.2.1 dX5_readEither_22 (by decide) ?_
        refine g_run_v (f := fun u => u) (g_runV (k := 6) [.int (-2)] X hK hP hS hC hB (o_put hRd.1.2.2.2.2 hSr.2.2.2.1 (by omega)) (cwV 1 X.2.2.2.2 gX5_readEither_X4_put rfl rfl rfl (by decide +kernel) ⟨Nat.le_of_ble_eq_true rfl, Nat.le_of_ble_eq_true rfl⟩) hRd.1.2.2.2.2.1 rfl rfl hl.1 rfl (Nat.le_of_ble_eq_true rfl) dX5_readEither_24 (by exact ⟨Nat.zero_le _, Nat.zero_le _⟩)) hS (fun u H locs hq hP hS => ?_)
        subst hq
        generalize eJ7 : g2 IN1 (a + 4) ((coC cs ++ pdN1).length) (-2) = J7 at hP
        generalize eJ8 : g2 J7 a 7 (nI ((coC cs ++ pdN1).length) + 1) = J8 at hP
        have hP : gP D cy B z T J8 R H := hP
        have hFt := hFt.trs (fun c j h1 h2 => gs_ne eJ8 (by omega) (gs_ne eJ7 (by omega) rfl))
        have hRd : cRd rd tc a T J8 R tp n pN1 := hRd.mv (fun c j h1 h2 => gs_ne eJ8 (by omega) (gs_ne eJ7 (by omega) rfl)) (gs_ne eJ8 (by omega) (gs_ne eJ7 (by omega) hRd.2.2.2.1)) (by omega)
        have hSr : cSr a J8 cs (pdN1 ++ [10001]) := hSr.push (by omega) (by omega) rfl eJ7 eJ8
        have hflJ8 := fl1 (cs := cs) (pd := pdN1) (t := 10001)
        refine lv_iinc (v := nI (j + 1)) (lv' := [(3, .int (nI (j + 1))), (0, .ref rd), (1, .int 2), (2, .int (nI k))]) X.1 X.2.1 dX5_readEither_27 hl (k := 3) rfl (gn_inc (Eq.refl (nI j)) 1) (by decide) rfl (fun ls hl => ?_)
        refine lv_iload_n X.1 X.2.1 dX5_readEither_30 rfl (lv_at hl 0 rfl) ?_
        refine lv_bipush (v := 100) X.1 X.2.1 dX5_readEither_31 (by decide) ?_
        refine lv_icmp_ge (tgt := 45) X.1 X.2.1 dX5_readEither_33 (by decide) (fun c33 => ?_) (fun c33 => ?_)
        · exact absurd (gq_le c33 (show (100 : Int32) = nI 100 from rfl) (Eq.refl (nI (j + 1))) (by omega) (by omega)) (by omega)
        · have n33 : (j + 1) < 100 := gq_nle c33 (show (100 : Int32) = nI 100 from rfl) (Eq.refl (nI (j + 1))) (by omega) (by omega)
          refine lv_aload_n X.1 X.2.1 dX5_readEither_36 rfl (lv_at hl 1 rfl) ?_
          refine va_ldcS X.1 X.2.1 X.2.2.2.1 (vk_R.warm hC.1 hR97) dX5_readEither_37 ?_
          have hX : pEk j 10001 ((pFac tp n 3) (false, pj, flC cs ++ pdj)) = (false, pN1, flC cs ++ (pdN1 ++ [10001])) := by rw [pEk_s (by omega), hEN1, pEm_f, List.append_assoc]
          have hEv2 : pEvery tp n (pFac tp n 3) (false, pk, flC cs ++ pdk) = pLoop tp n 38 10001 (pFac tp n 3) (101 - j) (false, pN1, flC cs ++ (pdN1 ++ [10001])) := by rw [hEv, hX]
          by_cases h38 : sH tp n pN1 = 38
          · refine g_run_i (f := fun u => u) (g_runV (k := 7) [.ref s97] X hK hP hS hC hB (o_reads_y hRd hs97 h2 ht97 h38) (cwV 1 X.2.2.2.2 gX5_readEither_X5_reads rfl rfl rfl (by decide +kernel) ⟨Nat.le_of_ble_eq_true rfl, Nat.le_of_ble_eq_true rfl⟩) hRd.1.1 rfl rfl hl.1 rfl (Nat.le_of_ble_eq_true rfl) dX5_readEither_39 (by exact ⟨Nat.zero_le _, Nat.zero_le _⟩)) hS (fun r u H locs hq hP hS => ?_)
            obtain ⟨rfl, rfl⟩ := hq
            generalize eJ9 : g2 J8 rd 0 (nI pN1 + 1) = J9 at hP
            have hP : gP D cy B z T J9 R H := hP
            have hfJ9 : ∀ c j, ¬ (c = rd ∧ j = 0) → J9 c j = J8 c j := fun c j h => gs_ne eJ9 h rfl
            have hpnJ9 := sH_in h38 (by decide)
            have hFt := hFt.trs (fun c j h1 _ => hfJ9 c j h1)
            have hRd : cRd rd tc a T J9 R tp n (pN1 + 1) := hRd.mv (fun c j h1 _ => hfJ9 c j h1) ((gs_same eJ9).trans (nI_add _ 1)) (by omega)
            have hSr : cSr a J9 cs (pdN1 ++ [10001]) := hSr.k (fun c j g1 g2 => hfJ9 c j (by omega))
            refine lv_if_ne (tgt := 4) X.1 X.2.1 dX5_readEither_42 (by decide) (fun c42 => ?_) (fun c42 => ?_)
            · have n42 : ¬ 1 = 0 := gq_ne c42 (show (1 : Int32) = nI 1 from rfl) (show (0 : Int32) = nI 0 from rfl) (by omega) (by omega)
              exact ih2 _ _ _ _ (by omega) ⟨⟨(pN1 + 1), (pdN1 ++ [10001]), hFt, hRd, hSr, ⟨by omega, by omega⟩, hEv2.trans ((pLoop_go (by omega) ⟨rfl, h38⟩).trans (by rw [pEk_s (by omega)]))⟩, lv_sub hl [1, 2, 3, 0] rfl⟩ hP hS
            · exact absurd c42 (by decide)
          · have hEv3 : pEvery tp n (pFac tp n 3) (false, pk, flC cs ++ pdk) = (false, pN1, flC cs ++ (pdN1 ++ [10001])) := hEv2.trans (pLoop_stop (fun h => h38 h.2))
            have hco9 := co_le (cs := cs) (pd := (pdN1 ++ [10001]))
            refine g_run_i (f := fun u => u) (g_runV (k := 7) [.ref s97] X hK hP hS hC hB (o_reads_n hRd hs97 h2 ht97 h38) (cwV 1 X.2.2.2.2 gX5_readEither_X5_reads rfl rfl rfl (by decide +kernel) ⟨Nat.le_of_ble_eq_true rfl, Nat.le_of_ble_eq_true rfl⟩) hRd.1.1 rfl rfl hl.1 rfl (Nat.le_of_ble_eq_true rfl) dX5_readEither_39 (by exact ⟨Nat.zero_le _, Nat.zero_le _⟩)) hS (fun r u H locs hq hP hS => ?_)
            obtain ⟨rfl, rfl⟩ := hq
            have hP : gP D cy B z T J8 R H := hP
            refine lv_if_ne (tgt := 4) X.1 X.2.1 dX5_readEither_42 (by decide) (fun c42 => ?_) (fun c42 => ?_)
            · exact absurd rfl c42
            · have n42 : 0 = 0 := gq_eq c42 (show (0 : Int32) = nI 0 from rfl) (show (0 : Int32) = nI 0 from rfl) (by omega) (by omega)
              refine lv_iload_n X.1 X.2.1 dX5_readEither_45 rfl (lv_at hl 3 rfl) ?_
              refine lv_if_le (tgt := 58) X.1 X.2.1 dX5_readEither_46 (by decide) (fun c46 => ?_) (fun c46 => ?_)
              · have n46 : k ≤ 0 := gq_le c46 (Eq.refl (nI k)) (show (0 : Int32) = nI 0 from rfl) (by omega) (by omega)
                refine lv_iinc (v := nI (k + 1)) (lv' := [(2, .int (nI (k + 1))), (3, .int (nI (j + 1))), (0, .ref rd), (1, .int 2)]) X.1 X.2.1 dX5_readEither_58 hl (k := 3) rfl (gn_inc (Eq.refl (nI k)) 1) (by decide) rfl (fun ls hl => ?_)
                refine lv_iload_n X.1 X.2.1 dX5_readEither_61 rfl (lv_at hl 0 rfl) ?_
                refine lv_bipush (v := 100) X.1 X.2.1 dX5_readEither_62 (by decide) ?_
                refine lv_icmp_ge (tgt := 76) X.1 X.2.1 dX5_readEither_64 (by decide) (fun c64 => ?_) (fun c64 => ?_)
                · exact absurd (gq_le c64 (show (100 : Int32) = nI 100 from rfl) (Eq.refl (nI (k + 1))) (by omega) (by omega)) (by omega)
                · have n64 : (k + 1) < 100 := gq_nle c64 (show (100 : Int32) = nI 100 from rfl) (Eq.refl (nI (k + 1))) (by omega) (by omega)
                  refine lv_aload_n X.1 X.2.1 dX5_readEither_67 rfl (lv_at hl 2 rfl) ?_
                  refine va_ldcS X.1 X.2.1 X.2.2.2.1 (vk_R.warm hC.1 hR99) dX5_readEither_68 ?_
                  have hY : pEk k 10002 (pEvery tp n (pFac tp n 3) (false, pk, flC cs ++ pdk)) = (false, pN1, flC cs ++ (pdN1 ++ [10001])) := (pEk_0 (by omega)).trans hEv3
                  have hSo2 : pSome tp n (pFac tp n 3) (false, pl, flC cs ++ pd) = pLoop tp n 124 10002 (pEvery tp n (pFac tp n 3)) (101 - k) (false, pN1, flC cs ++ (pdN1 ++ [10001])) := by rw [hSo, hY]
                  by_cases h124 : sH tp n pN1 = 124
                  · refine g_run_i (f := fun u => u) (g_runV (k := 7) [.ref s99] X hK hP hS hC hB (o_reads_y hRd hs99 h2 ht99 h124) (cwV 1 X.2.2.2.2 gX5_readEither_X5_reads rfl rfl rfl (by decide +kernel) ⟨Nat.le_of_ble_eq_true rfl, Nat.le_of_ble_eq_true rfl⟩) hRd.1.1 rfl rfl hl.1 rfl (Nat.le_of_ble_eq_true rfl) dX5_readEither_70 (by exact ⟨Nat.zero_le _, Nat.zero_le _⟩)) hS (fun r u H locs hq hP hS => ?_)
                    obtain ⟨rfl, rfl⟩ := hq
                    generalize eJ10 : g2 J8 rd 0 (nI pN1 + 1) = J10 at hP
                    have hP : gP D cy B z T J10 R H := hP
                    have hfJ10 : ∀ c j, ¬ (c = rd ∧ j = 0) → J10 c j = J8 c j := fun c j h => gs_ne eJ10 h rfl
                    have hpnJ10 := sH_in h124 (by decide)
                    have hFt := hFt.trs (fun c j h1 _ => hfJ10 c j h1)
                    have hRd : cRd rd tc a T J10 R tp n (pN1 + 1) := hRd.mv (fun c j h1 _ => hfJ10 c j h1) ((gs_same eJ10).trans (nI_add _ 1)) (by omega)
                    have hSr : cSr a J10 cs (pdN1 ++ [10001]) := hSr.k (fun c j g1 g2 => hfJ10 c j (by omega))
                    refine lv_if_ne (tgt := 2) X.1 X.2.1 dX5_readEither_73 (by decide) (fun c73 => ?_) (fun c73 => ?_)
                    · have n73 : ¬ 1 = 0 := gq_ne c73 (show (1 : Int32) = nI 1 from rfl) (show (0 : Int32) = nI 0 from rfl) (by omega) (by omega)
                      exact ih _ _ _ _ (by omega) ⟨⟨(pN1 + 1), (pdN1 ++ [10001]), hFt, hRd, hSr, ⟨by omega, by omega⟩, hSo2.trans ((pLoop_go (by omega) ⟨rfl, h124⟩).trans (by rw [pEk_s (by omega)]))⟩, lv_sub hl [2, 3, 0] rfl⟩ hP hS
                    · exact absurd c73 (by decide)
                  · refine g_run_i (f := fun u => u) (g_runV (k := 7) [.ref s99] X hK hP hS hC hB (o_reads_n hRd hs99 h2 ht99 h124) (cwV 1 X.2.2.2.2 gX5_readEither_X5_reads rfl rfl rfl (by decide +kernel) ⟨Nat.le_of_ble_eq_true rfl, Nat.le_of_ble_eq_true rfl⟩) hRd.1.1 rfl rfl hl.1 rfl (Nat.le_of_ble_eq_true rfl) dX5_readEither_70 (by exact ⟨Nat.zero_le _, Nat.zero_le _⟩)) hS (fun r u H locs hq hP hS => ?_)
                    obtain ⟨rfl, rfl⟩ := hq
                    have hP : gP D cy B z T J8 R H := hP
                    refine lv_if_ne (tgt := 2) X.1 X.2.1 dX5_readEither_73 (by decide) (fun c73 => ?_) (fun c73 => ?_)
                    · exact absurd rfl c73
                    · have n73 : 0 = 0 := gq_eq c73 (show (0 : Int32) = nI 0 from rfl) (show (0 : Int32) = nI 0 from rfl) (by omega) (by omega)
                      refine lv_iconst (v := 1) X.1 X.2.1 dX5_readEither_76 (by decide) ?_
                      exact g_zret (f := fun u => u) (z, T, J8, R) X hr hlk hK hP hS dX5_readEither_77 rfl ⟨J8, pN1, rfl, hFt, hRd.2.2.2.1, Or.inl ⟨rfl, _, (hSo2.trans (pLoop_stop (fun h => h124 h.2))), hSr⟩⟩
              · have n46 : 0 < k := gq_nle c46 (Eq.refl (nI k)) (show (0 : Int32) = nI 0 from rfl) (by omega) (by omega)
                refine lv_aload_n X.1 X.2.1 dX5_readEither_49 rfl (lv_at hl 1 rfl) ?_
                refine g_getr 7 3 X hK hP hRd.1.1 rfl hinRX5 rfl (by decide) k31 (fun _ h => h) dX5_readEither_50 (show va_rf (R rd 3) = .ref a from by rw [hRd.1.2.2.1]; rfl) ?_
                refine lv_bipush (v := (-3)) X.1 X.2.1 dX5_readEither_53 (by decide) ?_
                refine g_run_v (f := fun u => u) (g_runV (k := 6) [.int (-3)] X hK hP hS hC hB (o_put hRd.1.2.2.2.2 hSr.2.2.2.1 (by omega)) (cwV 1 X.2.2.2.2 gX5_readEither_X4_put rfl rfl rfl (by decide +kernel) ⟨Nat.le_of_ble_eq_true rfl, Nat.le_of_ble_eq_true rfl⟩) hRd.1.2.2.2.2.1 rfl rfl hl.1 rfl (Nat.le_of_ble_eq_true rfl) dX5_readEither_55 (by exact ⟨Nat.zero_le _, Nat.zero_le _⟩)) hS (fun u H locs hq hP hS => ?_)
                subst hq
                generalize eJ11 : g2 J8 (a + 4) ((coC cs ++ (pdN1 ++ [10001])).length) (-3) = J11 at hP
                generalize eJ12 : g2 J11 a 7 (nI ((coC cs ++ (pdN1 ++ [10001])).length) + 1) = J12 at hP
                have hP : gP D cy B z T J12 R H := hP
                have hFt := hFt.trs (fun c j h1 h2 => gs_ne eJ12 (by omega) (gs_ne eJ11 (by omega) rfl))
                have hRd : cRd rd tc a T J12 R tp n pN1 := hRd.mv (fun c j h1 h2 => gs_ne eJ12 (by omega) (gs_ne eJ11 (by omega) rfl)) (gs_ne eJ12 (by omega) (gs_ne eJ11 (by omega) hRd.2.2.2.1)) (by omega)
                have hSr : cSr a J12 cs ((pdN1 ++ [10001]) ++ [10002]) := hSr.push (by omega) (by omega) rfl eJ11 eJ12
                have hflJ12 := fl1 (cs := cs) (pd := (pdN1 ++ [10001])) (t := 10002)
                refine lv_iinc (v := nI (k + 1)) (lv' := [(2, .int (nI (k + 1))), (3, .int (nI (j + 1))), (0, .ref rd), (1, .int 2)]) X.1 X.2.1 dX5_readEither_58 hl (k := 3) rfl (gn_inc (Eq.refl (nI k)) 1) (by decide) rfl (fun ls hl => ?_)
                refine lv_iload_n X.1 X.2.1 dX5_readEither_61 rfl (lv_at hl 0 rfl) ?_
                refine lv_bipush (v := 100) X.1 X.2.1 dX5_readEither_62 (by decide) ?_
                refine lv_icmp_ge (tgt := 76) X.1 X.2.1 dX5_readEither_64 (by decide) (fun c64 => ?_) (fun c64 => ?_)
                · exact absurd (gq_le c64 (show (100 : Int32) = nI 100 from rfl) (Eq.refl (nI (k + 1))) (by omega) (by omega)) (by omega)
                · have n64 : (k + 1) < 100 := gq_nle c64 (show (100 : Int32) = nI 100 from rfl) (Eq.refl (nI (k + 1))) (by omega) (by omega)
                  refine lv_aload_n X.1 X.2.1 dX5_readEither_67 rfl (lv_at hl 2 rfl) ?_
                  refine va_ldcS X.1 X.2.1 X.2.2.2.1 (vk_R.warm hC.1 hR99) dX5_readEither_68 ?_
                  have hY : pEk k 10002 (pEvery tp n (pFac tp n 3) (false, pk, flC cs ++ pdk)) = (false, pN1, flC cs ++ ((pdN1 ++ [10001]) ++ [10002])) := by rw [pEk_s (by omega), hEv3, pEm_f, List.append_assoc]
                  have hSo2 : pSome tp n (pFac tp n 3) (false, pl, flC cs ++ pd) = pLoop tp n 124 10002 (pEvery tp n (pFac tp n 3)) (101 - k) (false, pN1, flC cs ++ ((pdN1 ++ [10001]) ++ [10002])) := by rw [hSo, hY]
                  by_cases h124 : sH tp n pN1 = 124
                  · refine g_run_i (f := fun u => u) (g_runV (k := 7) [.ref s99] X hK hP hS hC hB (o_reads_y hRd hs99 h2 ht99 h124) (cwV 1 X.2.2.2.2 gX5_readEither_X5_reads rfl rfl rfl (by decide +kernel) ⟨Nat.le_of_ble_eq_true rfl, Nat.le_of_ble_eq_true rfl⟩) hRd.1.1 rfl rfl hl.1 rfl (Nat.le_of_ble_eq_true rfl) dX5_readEither_70 (by exact ⟨Nat.zero_le _, Nat.zero_le _⟩)) hS (fun r u H locs hq hP hS => ?_)
                    obtain ⟨rfl, rfl⟩ := hq
                    generalize eJ13 : g2 J12 rd 0 (nI pN1 + 1) = J13 at hP
                    have hP : gP D cy B z T J13 R H := hP
                    have hfJ13 : ∀ c j, ¬ (c = rd ∧ j = 0) → J13 c j = J12 c j := fun c j h => gs_ne eJ13 h rfl
                    have hpnJ13 := sH_in h124 (by decide)
                    have hFt := hFt.trs (fun c j h1 _ => hfJ13 c j h1)
                    have hRd : cRd rd tc a T J13 R tp n (pN1 + 1) := hRd.mv (fun c j h1 _ => hfJ13 c j h1) ((gs_same eJ13).trans (nI_add _ 1)) (by omega)
                    have hSr : cSr a J13 cs ((pdN1 ++ [10001]) ++ [10002]) := hSr.k (fun c j g1 g2 => hfJ13 c j (by omega))
                    refine lv_if_ne (tgt := 2) X.1 X.2.1 dX5_readEither_73 (by decide) (fun c73 => ?_) (fun c73 => ?_)
                    · have n73 : ¬ 1 = 0 := gq_ne c73 (show (1 : Int32) = nI 1 from rfl) (show (0 : Int32) = nI 0 from rfl) (by omega) (by omega)
                      exact ih _ _ _ _ (by omega) ⟨⟨(pN1 + 1), ((pdN1 ++ [10001]) ++ [10002]), hFt, hRd, hSr, ⟨by omega, by omega⟩, hSo2.trans ((pLoop_go (by omega) ⟨rfl, h124⟩).trans (by rw [pEk_s (by omega)]))⟩, lv_sub hl [2, 3, 0] rfl⟩ hP hS
                    · exact absurd c73 (by decide)
                  · refine g_run_i (f := fun u => u) (g_runV (k := 7) [.ref s99] X hK hP hS hC hB (o_reads_n hRd hs99 h2 ht99 h124) (cwV 1 X.2.2.2.2 gX5_readEither_X5_reads rfl rfl rfl (by decide +kernel) ⟨Nat.le_of_ble_eq_true rfl, Nat.le_of_ble_eq_true rfl⟩) hRd.1.1 rfl rfl hl.1 rfl (Nat.le_of_ble_eq_true rfl) dX5_readEither_70 (by exact ⟨Nat.zero_le _, Nat.zero_le _⟩)) hS (fun r u H locs hq hP hS => ?_)
                    obtain ⟨rfl, rfl⟩ := hq
                    have hP : gP D cy B z T J12 R H := hP
                    refine lv_if_ne (tgt := 2) X.1 X.2.1 dX5_readEither_73 (by decide) (fun c73 => ?_) (fun c73 => ?_)
                    · exact absurd rfl c73
                    · have n73 : 0 = 0 := gq_eq c73 (show (0 : Int32) = nI 0 from rfl) (show (0 : Int32) = nI 0 from rfl) (by omega) (by omega)
                      refine lv_iconst (v := 1) X.1 X.2.1 dX5_readEither_76 (by decide) ?_
                      exact g_zret (f := fun u => u) (z, T, J12, R) X hr hlk hK hP hS dX5_readEither_77 rfl ⟨J12, pN1, rfl, hFt, hRd.2.2.2.1, Or.inl ⟨rfl, _, (hSo2.trans (pLoop_stop (fun h => h124 h.2))), hSr⟩⟩
    · exact absurd c9 (by decide)
  · rw [hEN1] at hwN1
    have hwN1 : pj ≤ pN1 ∧ pN1 ≤ n := ⟨hwN1.1, hwN1.2.1⟩
    have hFt := hFt.trs hfN1
    have hEv3 : pEvery tp n (pFac tp n 3) (false, pk, flC cs ++ pdk) = (true, pN1, LN1) := by rw [hEv, hEN1, pEk_t]; exact pLoop_stop (fun h => Bool.noConfusion h.1)
    refine lv_if_ne (tgt := 14) X.1 X.2.1 dX5_readEither_9 (by decide) (fun c9 => ?_) (fun c9 => ?_)
    · exact absurd rfl c9
    · have n9 : 0 = 0 := gq_eq c9 (show (0 : Int32) = nI 0 from rfl) (show (0 : Int32) = nI 0 from rfl) (by omega) (by omega)
      refine lv_iconst (v := 0) X.1 X.2.1 dX5_readEither_12 (by decide) ?_
      exact g_zret (f := fun u => u) (z, T, IN1, R) X hr hlk hK hP hS dX5_readEither_13 rfl ⟨IN1, pN1, rfl, hFt, hpN1, Or.inr ⟨rfl, LN1, (by rw [hSo, hEv3, pEk_t]; exact pLoop_stop (fun h => Bool.noConfusion h.1))⟩⟩

set_option maxHeartbeats 4000000 in
set_option maxRecDepth 100000 in
/-- o_part_4 -/
theorem o_part_4 (hRd : cRd rd tc a T I R tp n pl) (hstr : gStr s0 B) (hSr : cSr a I cs pd) (hLp : (flC cs ++ pd).length ≤ pl) (hp2 : 2 ≤ pl) : Met l yX5_readPart wsX5_readPart ({ frames := 15, cells := 0, slots := 0, locals := 334 }) (va_Pc [.ref rd, .int 1] (gW0 s0 D cy B (z, T, I, R))) (va_Qi (fun r u => ∃ I' p', u = (z, T, I', R) ∧ rFr rd a I I' ∧ I' rd 0 = nI p' ∧ ((r = 1 ∧ ∃ pd', pFac tp n 4 (false, pl, flC cs ++ pd) = (false, p', flC cs ++ pd') ∧ cSr a I' cs pd') ∨ (r = 0 ∧ ∃ L', pFac tp n 4 (false, pl, flC cs ++ pd) = (true, p', L')))) (fun u t => gW1 D cy B u t) (gA B)) 0 0 (gA B) := by
  refine g_met (maxL := 2) (ret := (some .boolean)) (by decide) rfl (Nat.le_of_ble_eq_true rfl) (fun p e s m args below meth c ls X hr hlk hnm hK hP hC hS hl => ?_)
  have hl : lv_has ls 2 [(0, .ref rd), (1, .int 1)] := hl
  have hP : gP D cy B z T I R s.heap := hP
  have hB : B ≤ s.heap.size := by rw [hP.1]; exact hP.2.1
  have hinRX5 : ∀ w ∈ wsX50, w ∈ wsX5_readPart := fun _ h => List.mem_cons_of_mem _ (List.mem_append_left _ (List.mem_append_right _ h))
  have k31 : Cond.fieldLink RX5 31 "BarrowPlank$SiteReader" "draft" "LBarrowPlank$Site;" ∈ wsX5_readPart := by decide +kernel
  have hn100 := hRd.2.2.1.1
  have hpn := hRd.2.2.1.2.1
  have htp := hRd.2.2.1.2.2
  have hrda := hRd.2.1.1
  have htca := hRd.2.1.2.1
  have hrdt := hRd.2.1.2.2
  have h2 : gSt2 s0 B := hstr.1
  obtain ⟨s101, q101, hR101, hs101, ht101⟩ := hstr.at 12 rfl
  have hs101 : gSo s0 B [33] s101 q101 := hs101
  have ht101 : gTx [33] := ht101
  obtain ⟨s103, q103, hR103, hs103, ht103⟩ := hstr.at 13 rfl
  have hs103 : gSo s0 B [40] s103 q103 := hs103
  have ht103 : gTx [40] := ht103
  obtain ⟨s105, q105, hR105, hs105, ht105⟩ := hstr.at 14 rfl
  have hs105 : gSo s0 B [41] s105 q105 := hs105
  have ht105 : gTx [41] := ht105
  have hFt : rFr rd a I I := rFr.rf
  have hco := co_le (cs := cs) (pd := pd)
  by_cases hb1 : sH tp n pl = 33
  · refine lv_iload_n X.1 X.2.1 dX5_readPart_0 rfl (lv_at hl 1 rfl) ?_
    refine lv_iconst (v := 5) X.1 X.2.1 dX5_readPart_1 (by decide) ?_
    refine lv_icmp_ge (tgt := 36) X.1 X.2.1 dX5_readPart_2 (by decide) (fun c2 => ?_) (fun c2 => ?_)
    · exact absurd c2 (by decide)
    · have n2 : 1 < 5 := gq_nle c2 (show (5 : Int32) = nI 5 from rfl) (show (1 : Int32) = nI 1 from rfl) (by omega) (by omega)
      refine lv_aload_n X.1 X.2.1 dX5_readPart_5 rfl (lv_at hl 0 rfl) ?_
      refine va_ldcS X.1 X.2.1 X.2.2.2.1 (vk_R.warm hC.1 hR101) dX5_readPart_6 ?_
      refine g_run_i (f := fun u => u) (g_runV (k := 7) [.ref s101] X hK hP hS hC hB (o_reads_y hRd hs101 h2 ht101 hb1) (cwV 1 X.2.2.2.2 gX5_readPart_X5_reads rfl rfl rfl (by decide +kernel) ⟨Nat.le_of_ble_eq_true rfl, Nat.le_of_ble_eq_true rfl⟩) hRd.1.1 rfl rfl hl.1 rfl (Nat.le_of_ble_eq_true rfl) dX5_readPart_8 (by exact ⟨Nat.zero_le _, Nat.zero_le _⟩)) hS (fun r u H locs hq hP hS => ?_)
      obtain ⟨rfl, rfl⟩ := hq
      generalize eJ1 : g2 I rd 0 (nI pl + 1) = J1 at hP
      have hP : gP D cy B z T J1 R H := hP
      have hfJ1 : ∀ c j, ¬ (c = rd ∧ j = 0) → J1 c j = I c j := fun c j h => gs_ne eJ1 h rfl
      have hpnJ1 := sH_in hb1 (by decide)
      have hFt := hFt.trs (fun c j h1 _ => hfJ1 c j h1)
      have hRd : cRd rd tc a T J1 R tp n (pl + 1) := hRd.mv (fun c j h1 _ => hfJ1 c j h1) ((gs_same eJ1).trans (nI_add _ 1)) (by omega)
      have hSr : cSr a J1 cs pd := hSr.k (fun c j g1 g2 => hfJ1 c j (by omega))
      refine lv_if_eq (tgt := 36) X.1 X.2.1 dX5_readPart_11 (by decide) (fun c11 => ?_) (fun c11 => ?_)
      · exact absurd c11 (by decide)
      · have n11 : ¬ 1 = 0 := gq_ne c11 (show (1 : Int32) = nI 1 from rfl) (show (0 : Int32) = nI 0 from rfl) (by omega) (by omega)
        refine lv_aload_n X.1 X.2.1 dX5_readPart_14 rfl (lv_at hl 0 rfl) ?_
        refine lv_iload_n X.1 X.2.1 dX5_readPart_15 rfl (lv_at hl 1 rfl) ?_
        refine lv_iconst (v := 1) X.1 X.2.1 dX5_readPart_16 (by decide) ?_
        refine lv_iadd X.1 X.2.1 dX5_readPart_17 ?_
        refine g_run_i (f := fun u => u) (g_runV (k := 7) [.int (1 + 1)] X hK hP hS hC hB (o_part_3 hRd hstr hSr (by omega) (by omega)) (cwV 1 X.2.2.2.2 gX5_readPart_X5_readPart rfl rfl rfl (by decide +kernel) ⟨Nat.le_of_ble_eq_true rfl, Nat.le_of_ble_eq_true rfl⟩) hRd.1.1 rfl rfl hl.1 rfl (Nat.le_of_ble_eq_true rfl) dX5_readPart_18 (by exact ⟨Nat.zero_le _, Nat.zero_le _⟩)) hS (fun r u H locs hq hP hS => ?_)
        obtain ⟨IN2, pN2, rfl, hfN2, hpN2, hq⟩ := hq
        have hP : gP D cy B z T IN2 R H := hP
        have hwN2 := (pW_fac (tp := tp) (n := n) 3) (false, (pl + 1), flC cs ++ pd) (by show (pl + 1) ≤ n; omega)
        rcases hq with ⟨rfl, pdN2, hEN2, hSN2⟩ | ⟨rfl, LN2, hEN2⟩
        · rw [hEN2] at hwN2
          have hwN2 : (pl + 1) ≤ pN2 ∧ pN2 ≤ n ∧ (flC cs ++ pdN2).length + (pl + 1) ≤ pN2 + (flC cs ++ pd).length := hwN2
          have hcoN2 := co_le (cs := cs) (pd := pdN2)
          have hFt := hFt.trs hfN2
          have hRd : cRd rd tc a T IN2 R tp n pN2 := hRd.mv hfN2 hpN2 hwN2.2.1
          have hSr : cSr a IN2 cs pdN2 := hSN2
          refine lv_if_ne (tgt := 26) X.1 X.2.1 dX5_readPart_21 (by decide) (fun c21 => ?_) (fun c21 => ?_)
          · have n21 : ¬ 1 = 0 := gq_ne c21 (show (1 : Int32) = nI 1 from rfl) (show (0 : Int32) = nI 0 from rfl) (by omega) (by omega)
            refine lv_aload_n X.1 X.2.1 dX5_readPart_26 rfl (lv_at hl 0 rfl) ?_
            refine g_getr 7 3 X hK hP hRd.1.1 rfl hinRX5 rfl (by decide) k31 (fun _ h => h) dX5_readPart_27 (show va_rf (R rd 3) = .ref a from by rw [hRd.1.2.2.1]; rfl) ?_
            refine lv_iconst (v := (-1)) X.1 X.2.1 dX5_readPart_30 (by decide) ?_
            refine g_run_v (f := fun u => u) (g_runV (k := 6) [.int (-1)] X hK hP hS hC hB (o_put hRd.1.2.2.2.2 hSr.2.2.2.1 (by omega)) (cwV 1 X.2.2.2.2 gX5_readPart_X4_put rfl rfl rfl (by decide +kernel) ⟨Nat.le_of_ble_eq_true rfl, Nat.le_of_ble_eq_true rfl⟩) hRd.1.2.2.2.2.1 rfl rfl hl.1 rfl (Nat.le_of_ble_eq_true rfl) dX5_readPart_31 (by exact ⟨Nat.zero_le _, Nat.zero_le _⟩)) hS (fun u H locs hq hP hS => ?_)
            subst hq
            generalize eJ3 : g2 IN2 (a + 4) ((coC cs ++ pdN2).length) (-1) = J3 at hP
            generalize eJ4 : g2 J3 a 7 (nI ((coC cs ++ pdN2).length) + 1) = J4 at hP
            have hP : gP D cy B z T J4 R H := hP
            have hFt := hFt.trs (fun c j h1 h2 => gs_ne eJ4 (by omega) (gs_ne eJ3 (by omega) rfl))
            have hRd : cRd rd tc a T J4 R tp n pN2 := hRd.mv (fun c j h1 h2 => gs_ne eJ4 (by omega) (gs_ne eJ3 (by omega) rfl)) (gs_ne eJ4 (by omega) (gs_ne eJ3 (by omega) hRd.2.2.2.1)) (by omega)
            have hSr : cSr a J4 cs (pdN2 ++ [10000]) := hSr.push (by omega) (by omega) rfl eJ3 eJ4
            have hflJ4 := fl1 (cs := cs) (pd := pdN2) (t := 10000)
            refine lv_iconst (v := 1) X.1 X.2.1 dX5_readPart_34 (by decide) ?_
            exact g_zret (f := fun u => u) (z, T, J4, R) X hr hlk hK hP hS dX5_readPart_35 rfl ⟨J4, pN2, rfl, hFt, hRd.2.2.2.1, Or.inl ⟨rfl, _, ((pFac_n (d := 3) hb1).trans (by rw [hEN2, pEm_f, List.append_assoc])), hSr⟩⟩
          · exact absurd c21 (by decide)
        · rw [hEN2] at hwN2
          have hwN2 : (pl + 1) ≤ pN2 ∧ pN2 ≤ n := ⟨hwN2.1, hwN2.2.1⟩
          have hFt := hFt.trs hfN2
          refine lv_if_ne (tgt := 26) X.1 X.2.1 dX5_readPart_21 (by decide) (fun c21 => ?_) (fun c21 => ?_)
          · exact absurd rfl c21
          · have n21 : 0 = 0 := gq_eq c21 (show (0 : Int32) = nI 0 from rfl) (show (0 : Int32) = nI 0 from rfl) (by omega) (by omega)
            refine lv_iconst (v := 0) X.1 X.2.1 dX5_readPart_24 (by decide) ?_
            exact g_zret (f := fun u => u) (z, T, IN2, R) X hr hlk hK hP hS dX5_readPart_25 rfl ⟨IN2, pN2, rfl, hFt, hpN2, Or.inr ⟨rfl, LN2, ((pFac_n (d := 3) hb1).trans (by rw [hEN2, pEm_tr]))⟩⟩
  · by_cases hb2 : sH tp n pl = 40
    · refine lv_iload_n X.1 X.2.1 dX5_readPart_0 rfl (lv_at hl 1 rfl) ?_
      refine lv_iconst (v := 5) X.1 X.2.1 dX5_readPart_1 (by decide) ?_
      refine lv_icmp_ge (tgt := 36) X.1 X.2.1 dX5_readPart_2 (by decide) (fun c2 => ?_) (fun c2 => ?_)
      · exact absurd c2 (by decide)
      · have n2 : 1 < 5 := gq_nle c2 (show (5 : Int32) = nI 5 from rfl) (show (1 : Int32) = nI 1 from rfl) (by omega) (by omega)
        refine lv_aload_n X.1 X.2.1 dX5_readPart_5 rfl (lv_at hl 0 rfl) ?_
        refine va_ldcS X.1 X.2.1 X.2.2.2.1 (vk_R.warm hC.1 hR101) dX5_readPart_6 ?_
        refine g_run_i (f := fun u => u) (g_runV (k := 7) [.ref s101] X hK hP hS hC hB (o_reads_n hRd hs101 h2 ht101 hb1) (cwV 1 X.2.2.2.2 gX5_readPart_X5_reads rfl rfl rfl (by decide +kernel) ⟨Nat.le_of_ble_eq_true rfl, Nat.le_of_ble_eq_true rfl⟩) hRd.1.1 rfl rfl hl.1 rfl (Nat.le_of_ble_eq_true rfl) dX5_readPart_8 (by exact ⟨Nat.zero_le _, Nat.zero_le _⟩)) hS (fun r u H locs hq hP hS => ?_)
        obtain ⟨rfl, rfl⟩ := hq
        have hP : gP D cy B z T I R H := hP
        refine lv_if_eq (tgt := 36) X.1 X.2.1 dX5_readPart_11 (by decide) (fun c11 => ?_) (fun c11 => ?_)
        · have n11 : 0 = 0 := gq_eq c11 (show (0 : Int32) = nI 0 from rfl) (show (0 : Int32) = nI 0 from rfl) (by omega) (by omega)
          refine lv_iload_n X.1 X.2.1 dX5_readPart_36 rfl (lv_at hl 1 rfl) ?_
          refine lv_iconst (v := 5) X.1 X.2.1 dX5_readPart_37 (by decide) ?_
          refine lv_icmp_ge (tgt := 75) X.1 X.2.1 dX5_readPart_38 (by decide) (fun c38 => ?_) (fun c38 => ?_)
          · exact absurd c38 (by decide)
          · have n38 : 1 < 5 := gq_nle c38 (show (5 : Int32) = nI 5 from rfl) (show (1 : Int32) = nI 1 from rfl) (by omega) (by omega)
            refine lv_aload_n X.1 X.2.1 dX5_readPart_41 rfl (lv_at hl 0 rfl) ?_
            refine va_ldcS X.1 X.2.1 X.2.2.2.1 (vk_R.warm hC.1 hR103) dX5_readPart_42 ?_
            refine g_run_i (f := fun u => u) (g_runV (k := 7) [.ref s103] X hK hP hS hC hB (o_reads_y hRd hs103 h2 ht103 hb2) (cwV 1 X.2.2.2.2 gX5_readPart_X5_reads rfl rfl rfl (by decide +kernel) ⟨Nat.le_of_ble_eq_true rfl, Nat.le_of_ble_eq_true rfl⟩) hRd.1.1 rfl rfl hl.1 rfl (Nat.le_of_ble_eq_true rfl) dX5_readPart_44 (by exact ⟨Nat.zero_le _, Nat.zero_le _⟩)) hS (fun r u H locs hq hP hS => ?_)
            obtain ⟨rfl, rfl⟩ := hq
            generalize eJ5 : g2 I rd 0 (nI pl + 1) = J5 at hP
            have hP : gP D cy B z T J5 R H := hP
            have hfJ5 : ∀ c j, ¬ (c = rd ∧ j = 0) → J5 c j = I c j := fun c j h => gs_ne eJ5 h rfl
            have hpnJ5 := sH_in hb2 (by decide)
            have hFt := hFt.trs (fun c j h1 _ => hfJ5 c j h1)
            have hRd : cRd rd tc a T J5 R tp n (pl + 1) := hRd.mv (fun c j h1 _ => hfJ5 c j h1) ((gs_same eJ5).trans (nI_add _ 1)) (by omega)
            have hSr : cSr a J5 cs pd := hSr.k (fun c j g1 g2 => hfJ5 c j (by omega))
            refine lv_if_eq (tgt := 75) X.1 X.2.1 dX5_readPart_47 (by decide) (fun c47 => ?_) (fun c47 => ?_)
            · exact absurd c47 (by decide)
            · have n47 : ¬ 1 = 0 := gq_ne c47 (show (1 : Int32) = nI 1 from rfl) (show (0 : Int32) = nI 0 from rfl) (by omega) (by omega)
              refine lv_aload_n X.1 X.2.1 dX5_readPart_50 rfl (lv_at hl 0 rfl) ?_
              refine lv_iload_n X.1 X.2.1 dX5_readPart_51 rfl (lv_at hl 1 rfl) ?_
              refine lv_iconst (v := 1) X.1 X.2.1 dX5_readPart_52 (by decide) ?_
              refine lv_iadd X.1 X.2.1 dX5_readPart_53 ?_
              refine g_run_i (f := fun u => u) (g_runV (k := 7) [.int (1 + 1)] X hK hP hS hC hB (o_either_3 hRd hstr hSr (by omega) (by omega)) (cwV 1 X.2.2.2.2 gX5_readPart_X5_readEither rfl rfl rfl (by decide +kernel) ⟨Nat.le_of_ble_eq_true rfl, Nat.le_of_ble_eq_true rfl⟩) hRd.1.1 rfl rfl hl.1 rfl (Nat.le_of_ble_eq_true rfl) dX5_readPart_54 (by exact ⟨Nat.zero_le _, Nat.zero_le _⟩)) hS (fun r u H locs hq hP hS => ?_)
              obtain ⟨IN6, pN6, rfl, hfN6, hpN6, hq⟩ := hq
              have hP : gP D cy B z T IN6 R H := hP
              have hwN6 := (pW_some (tp := tp) (pW_fac (tp := tp) (n := n) 3)) (false, (pl + 1), flC cs ++ pd) (by show (pl + 1) ≤ n; omega)
              rcases hq with ⟨rfl, pdN6, hEN6, hSN6⟩ | ⟨rfl, LN6, hEN6⟩
              · rw [hEN6] at hwN6
                have hwN6 : (pl + 1) ≤ pN6 ∧ pN6 ≤ n ∧ (flC cs ++ pdN6).length + (pl + 1) ≤ pN6 + (flC cs ++ pd).length := hwN6
                have hcoN6 := co_le (cs := cs) (pd := pdN6)
                have hFt := hFt.trs hfN6
                have hRd : cRd rd tc a T IN6 R tp n pN6 := hRd.mv hfN6 hpN6 hwN6.2.1
                have hSr : cSr a IN6 cs pdN6 := hSN6
                by_cases hb3 : sH tp n pN6 = 41
                · refine lv_if_eq (tgt := 73) X.1 X.2.1 dX5_readPart_57 (by decide) (fun c57 => ?_) (fun c57 => ?_)
                  · exact absurd c57 (by decide)
                  · have n57 : ¬ 1 = 0 := gq_ne c57 (show (1 : Int32) = nI 1 from rfl) (show (0 : Int32) = nI 0 from rfl) (by omega) (by omega)
                    refine lv_aload_n X.1 X.2.1 dX5_readPart_60 rfl (lv_at hl 0 rfl) ?_
                    refine va_ldcS X.1 X.2.1 X.2.2.2.1 (vk_R.warm hC.1 hR105) dX5_readPart_61 ?_
                    refine g_run_i (f := fun u => u) (g_runV (k := 7) [.ref s105] X hK hP hS hC hB (o_reads_y hRd hs105 h2 ht105 hb3) (cwV 1 X.2.2.2.2 gX5_readPart_X5_reads rfl rfl rfl (by decide +kernel) ⟨Nat.le_of_ble_eq_true rfl, Nat.le_of_ble_eq_true rfl⟩) hRd.1.1 rfl rfl hl.1 rfl (Nat.le_of_ble_eq_true rfl) dX5_readPart_63 (by exact ⟨Nat.zero_le _, Nat.zero_le _⟩)) hS (fun r u H locs hq hP hS => ?_)
                    obtain ⟨rfl, rfl⟩ := hq
                    generalize eJ7 : g2 IN6 rd 0 (nI pN6 + 1) = J7 at hP
                    have hP : gP D cy B z T J7 R H := hP
                    have hfJ7 : ∀ c j, ¬ (c = rd ∧ j = 0) → J7 c j = IN6 c j := fun c j h => gs_ne eJ7 h rfl
                    have hpnJ7 := sH_in hb3 (by decide)
                    have hFt := hFt.trs (fun c j h1 _ => hfJ7 c j h1)
                    have hRd : cRd rd tc a T J7 R tp n (pN6 + 1) := hRd.mv (fun c j h1 _ => hfJ7 c j h1) ((gs_same eJ7).trans (nI_add _ 1)) (by omega)
                    have hSr : cSr a J7 cs pdN6 := hSr.k (fun c j g1 g2 => hfJ7 c j (by omega))
                    refine lv_if_eq (tgt := 73) X.1 X.2.1 dX5_readPart_66 (by decide) (fun c66 => ?_) (fun c66 => ?_)
                    · exact absurd c66 (by decide)
                    · have n66 : ¬ 1 = 0 := gq_ne c66 (show (1 : Int32) = nI 1 from rfl) (show (0 : Int32) = nI 0 from rfl) (by omega) (by omega)
                      refine lv_iconst (v := 1) X.1 X.2.1 dX5_readPart_69 (by decide) ?_
                      refine lv_goto (tgt := 74) X.1 X.2.1 dX5_readPart_70 (by decide) ?_
                      exact g_zret (f := fun u => u) (z, T, J7, R) X hr hlk hK hP hS dX5_readPart_74 rfl ⟨J7, (pN6 + 1), rfl, hFt, hRd.2.2.2.1, Or.inl ⟨rfl, _, ((pFac_p (d := 3) hb2).trans (by rw [hEN6]; exact pMust_y hb3)), hSr⟩⟩
                · refine lv_if_eq (tgt := 73) X.1 X.2.1 dX5_readPart_57 (by decide) (fun c57 => ?_) (fun c57 => ?_)
                  · exact absurd c57 (by decide)
                  · have n57 : ¬ 1 = 0 := gq_ne c57 (show (1 : Int32) = nI 1 from rfl) (show (0 : Int32) = nI 0 from rfl) (by omega) (by omega)
                    refine lv_aload_n X.1 X.2.1 dX5_readPart_60 rfl (lv_at hl 0 rfl) ?_
                    refine va_ldcS X.1 X.2.1 X.2.2.2.1 (vk_R.warm hC.1 hR105) dX5_readPart_61 ?_
                    refine g_run_i (f := fun u => u) (g_runV (k := 7) [.ref s105] X hK hP hS hC hB (o_reads_n hRd hs105 h2 ht105 hb3) (cwV 1 X.2.2.2.2 gX5_readPart_X5_reads rfl rfl rfl (by decide +kernel) ⟨Nat.le_of_ble_eq_true rfl, Nat.le_of_ble_eq_true rfl⟩) hRd.1.1 rfl rfl hl.1 rfl (Nat.le_of_ble_eq_true rfl) dX5_readPart_63 (by exact ⟨Nat.zero_le _, Nat.zero_le _⟩)) hS (fun r u H locs hq hP hS => ?_)
                    obtain ⟨rfl, rfl⟩ := hq
                    have hP : gP D cy B z T IN6 R H := hP
                    refine lv_if_eq (tgt := 73) X.1 X.2.1 dX5_readPart_66 (by decide) (fun c66 => ?_) (fun c66 => ?_)
                    · have n66 : 0 = 0 := gq_eq c66 (show (0 : Int32) = nI 0 from rfl) (show (0 : Int32) = nI 0 from rfl) (by omega) (by omega)
                      refine lv_iconst (v := 0) X.1 X.2.1 dX5_readPart_73 (by decide) ?_
                      exact g_zret (f := fun u => u) (z, T, IN6, R) X hr hlk hK hP hS dX5_readPart_74 rfl ⟨IN6, pN6, rfl, hFt, hRd.2.2.2.1, Or.inr ⟨rfl, _, ((pFac_p (d := 3) hb2).trans (by rw [hEN6]; exact pMust_n hb3))⟩⟩
                    · exact absurd rfl c66
              · rw [hEN6] at hwN6
                have hwN6 : (pl + 1) ≤ pN6 ∧ pN6 ≤ n := ⟨hwN6.1, hwN6.2.1⟩
                have hFt := hFt.trs hfN6
                refine lv_if_eq (tgt := 73) X.1 X.2.1 dX5_readPart_57 (by decide) (fun c57 => ?_) (fun c57 => ?_)
                · have n57 : 0 = 0 := gq_eq c57 (show (0 : Int32) = nI 0 from rfl) (show (0 : Int32) = nI 0 from rfl) (by omega) (by omega)
                  refine lv_iconst (v := 0) X.1 X.2.1 dX5_readPart_73 (by decide) ?_
                  exact g_zret (f := fun u => u) (z, T, IN6, R) X hr hlk hK hP hS dX5_readPart_74 rfl ⟨IN6, pN6, rfl, hFt, hpN6, Or.inr ⟨rfl, LN6, ((pFac_p (d := 3) hb2).trans (by rw [hEN6]; exact pMust_t))⟩⟩
                · exact absurd rfl c57
        · exact absurd rfl c11
    · refine lv_iload_n X.1 X.2.1 dX5_readPart_0 rfl (lv_at hl 1 rfl) ?_
      refine lv_iconst (v := 5) X.1 X.2.1 dX5_readPart_1 (by decide) ?_
      refine lv_icmp_ge (tgt := 36) X.1 X.2.1 dX5_readPart_2 (by decide) (fun c2 => ?_) (fun c2 => ?_)
      · exact absurd c2 (by decide)
      · have n2 : 1 < 5 := gq_nle c2 (show (5 : Int32) = nI 5 from rfl) (show (1 : Int32) = nI 1 from rfl) (by omega) (by omega)
        refine lv_aload_n X.1 X.2.1 dX5_readPart_5 rfl (lv_at hl 0 rfl) ?_
        refine va_ldcS X.1 X.2.1 X.2.2.2.1 (vk_R.warm hC.1 hR101) dX5_readPart_6 ?_
        refine g_run_i (f := fun u => u) (g_runV (k := 7) [.ref s101] X hK hP hS hC hB (o_reads_n hRd hs101 h2 ht101 hb1) (cwV 1 X.2.2.2.2 gX5_readPart_X5_reads rfl rfl rfl (by decide +kernel) ⟨Nat.le_of_ble_eq_true rfl, Nat.le_of_ble_eq_true rfl⟩) hRd.1.1 rfl rfl hl.1 rfl (Nat.le_of_ble_eq_true rfl) dX5_readPart_8 (by exact ⟨Nat.zero_le _, Nat.zero_le _⟩)) hS (fun r u H locs hq hP hS => ?_)
        obtain ⟨rfl, rfl⟩ := hq
        have hP : gP D cy B z T I R H := hP
        refine lv_if_eq (tgt := 36) X.1 X.2.1 dX5_readPart_11 (by decide) (fun c11 => ?_) (fun c11 => ?_)
        · have n11 : 0 = 0 := gq_eq c11 (show (0 : Int32) = nI 0 from rfl) (show (0 : Int32) = nI 0 from rfl) (by omega) (by omega)
          refine lv_iload_n X.1 X.2.1 dX5_readPart_36 rfl (lv_at hl 1 rfl) ?_
          refine lv_iconst (v := 5) X.1 X.2.1 dX5_readPart_37 (by decide) ?_
          refine lv_icmp_ge (tgt := 75) X.1 X.2.1 dX5_readPart_38 (by decide) (fun c38 => ?_) (fun c38 => ?_)
          · exact absurd c38 (by decide)
          · have n38 : 1 < 5 := gq_nle c38 (show (5 : Int32) = nI 5 from rfl) (show (1 : Int32) = nI 1 from rfl) (by omega) (by omega)
            refine lv_aload_n X.1 X.2.1 dX5_readPart_41 rfl (lv_at hl 0 rfl) ?_
            refine va_ldcS X.1 X.2.1 X.2.2.2.1 (vk_R.warm hC.1 hR103) dX5_readPart_42 ?_
            refine g_run_i (f := fun u => u) (g_runV (k := 7) [.ref s103] X hK hP hS hC hB (o_reads_n hRd hs103 h2 ht103 hb2) (cwV 1 X.2.2.2.2 gX5_readPart_X5_reads rfl rfl rfl (by decide +kernel) ⟨Nat.le_of_ble_eq_true rfl, Nat.le_of_ble_eq_true rfl⟩) hRd.1.1 rfl rfl hl.1 rfl (Nat.le_of_ble_eq_true rfl) dX5_readPart_44 (by exact ⟨Nat.zero_le _, Nat.zero_le _⟩)) hS (fun r u H locs hq hP hS => ?_)
            obtain ⟨rfl, rfl⟩ := hq
            have hP : gP D cy B z T I R H := hP
            refine lv_if_eq (tgt := 75) X.1 X.2.1 dX5_readPart_47 (by decide) (fun c47 => ?_) (fun c47 => ?_)
            · have n47 : 0 = 0 := gq_eq c47 (show (0 : Int32) = nI 0 from rfl) (show (0 : Int32) = nI 0 from rfl) (by omega) (by omega)
              refine lv_aload_n X.1 X.2.1 dX5_readPart_75 rfl (lv_at hl 0 rfl) ?_
              refine g_run_i (f := fun u => u) (g_runV (k := 7) [] X hK hP hS hC hB (o_test hRd hstr hSr (by omega)) (cwV 0 X.2.2.2.2 gX5_readPart_X5_readTest rfl rfl rfl (by decide +kernel) ⟨Nat.le_of_ble_eq_true rfl, Nat.le_of_ble_eq_true rfl⟩) hRd.1.1 rfl rfl hl.1 rfl (Nat.le_of_ble_eq_true rfl) dX5_readPart_76 (by exact ⟨Nat.zero_le _, Nat.zero_le _⟩)) hS (fun r u H locs hq hP hS => ?_)
              obtain ⟨IN8, pN8, rfl, hfN8, hpN8, hq⟩ := hq
              have hP : gP D cy B z T IN8 R H := hP
              have hwN8 := pW_atom (tp := tp) (n := n) (false, pl, flC cs ++ pd) (by show pl ≤ n; omega)
              rcases hq with ⟨rfl, pdN8, hEN8, hSN8⟩ | ⟨rfl, LN8, hEN8⟩
              · rw [hEN8] at hwN8
                have hwN8 : pl ≤ pN8 ∧ pN8 ≤ n ∧ (flC cs ++ pdN8).length + pl ≤ pN8 + (flC cs ++ pd).length := hwN8
                have hcoN8 := co_le (cs := cs) (pd := pdN8)
                have hFt := hFt.trs hfN8
                have hRd : cRd rd tc a T IN8 R tp n pN8 := hRd.mv hfN8 hpN8 hwN8.2.1
                have hSr : cSr a IN8 cs pdN8 := hSN8
                exact g_zret (f := fun u => u) (z, T, IN8, R) X hr hlk hK hP hS dX5_readPart_79 rfl ⟨IN8, pN8, rfl, hFt, hRd.2.2.2.1, Or.inl ⟨rfl, _, ((pFac_a hb1 hb2 4).trans hEN8), hSr⟩⟩
              · rw [hEN8] at hwN8
                have hwN8 : pl ≤ pN8 ∧ pN8 ≤ n := ⟨hwN8.1, hwN8.2.1⟩
                have hFt := hFt.trs hfN8
                exact g_zret (f := fun u => u) (z, T, IN8, R) X hr hlk hK hP hS dX5_readPart_79 rfl ⟨IN8, pN8, rfl, hFt, hpN8, Or.inr ⟨rfl, LN8, ((pFac_a hb1 hb2 4).trans hEN8)⟩⟩
            · exact absurd rfl c47
        · exact absurd rfl c11

set_option maxHeartbeats 4000000 in
set_option maxRecDepth 100000 in
/-- o_either_4 -/
theorem o_either_4 (hRd : cRd rd tc a T I R tp n pl) (hstr : gStr s0 B) (hSr : cSr a I cs pd) (hLp : (flC cs ++ pd).length ≤ pl) (hp2 : 2 ≤ pl) : Met l yX5_readEither wsX5_readEither ({ frames := 16, cells := 0, slots := 0, locals := 355 }) (va_Pc [.ref rd, .int 1] (gW0 s0 D cy B (z, T, I, R))) (va_Qi (fun r u => ∃ I' p', u = (z, T, I', R) ∧ rFr rd a I I' ∧ I' rd 0 = nI p' ∧ ((r = 1 ∧ ∃ pd', pSome tp n (pFac tp n 4) (false, pl, flC cs ++ pd) = (false, p', flC cs ++ pd') ∧ cSr a I' cs pd') ∨ (r = 0 ∧ ∃ L', pSome tp n (pFac tp n 4) (false, pl, flC cs ++ pd) = (true, p', L')))) (fun u t => gW1 D cy B u t) (gA B)) 0 0 (gA B) := by
  refine g_met (maxL := 4) (ret := (some .boolean)) (by decide) rfl (Nat.le_of_ble_eq_true rfl) (fun p e s m args below meth c ls X hr hlk hnm hK hP hC hS hl => ?_)
  have hl : lv_has ls 4 [(0, .ref rd), (1, .int 1)] := hl
  have hP : gP D cy B z T I R s.heap := hP
  have hB : B ≤ s.heap.size := by rw [hP.1]; exact hP.2.1
  have hinRX5 : ∀ w ∈ wsX50, w ∈ wsX5_readEither := fun _ h => List.mem_cons_of_mem _ (List.mem_append_left _ (List.mem_append_right _ h))
  have k31 : Cond.fieldLink RX5 31 "BarrowPlank$SiteReader" "draft" "LBarrowPlank$Site;" ∈ wsX5_readEither := by decide +kernel
  have hn100 := hRd.2.2.1.1
  have hpn := hRd.2.2.1.2.1
  have htp := hRd.2.2.1.2.2
  have hrda := hRd.2.1.1
  have htca := hRd.2.1.2.1
  have hrdt := hRd.2.1.2.2
  have h2 : gSt2 s0 B := hstr.1
  obtain ⟨s97, q97, hR97, hs97, ht97⟩ := hstr.at 20 rfl
  have hs97 : gSo s0 B [38] s97 q97 := hs97
  have ht97 : gTx [38] := ht97
  obtain ⟨s99, q99, hR99, hs99, ht99⟩ := hstr.at 21 rfl
  have hs99 : gSo s0 B [124] s99 q99 := hs99
  have ht99 : gTx [124] := ht99
  have hFt : rFr rd a I I := rFr.rf
  refine lv_iconst (v := 0) X.1 X.2.1 dX5_readEither_0 (by decide) ?_
  refine lv_istore_n (lv' := [(2, .int 0), (0, .ref rd), (1, .int 1)]) X.1 X.2.1 dX5_readEither_1 rfl hl (by decide) rfl (fun ls hl => ?_)
  refine i_loop (I := I) 100 2 [] (fun k Q9 ls => (∃ pk pdk, rFr rd a I Q9 ∧ cRd rd tc a T Q9 R tp n pk ∧ cSr a Q9 cs pdk ∧ ((flC cs ++ pdk).length + min k 1 ≤ pk ∧ 2 + k ≤ pk) ∧ pSome tp n (pFac tp n 4) (false, pl, flC cs ++ pd) = pLoop tp n 124 10002 (pEvery tp n (pFac tp n 4)) (101 - k) (pEk k 10002 (pEvery tp n (pFac tp n 4) (false, pk, flC cs ++ pdk)))) ∧ lv_has ls 4 [(0, .ref rd), (1, .int 1), (2, .int (nI k))]) 0 (by omega) ⟨⟨pl, pd, rFr.rf, hRd, hSr, ⟨by omega, by omega⟩, (by rw [pEk_0 rfl]; rfl)⟩, lv_sub hl [1, 2, 0] rfl⟩ hP hS (fun k Q9 H locs ls hk hiv hP hS ih => ?_)
  obtain ⟨⟨pk, pdk, hFt, hRd, hSr, ⟨hLk, hpk⟩, hSo⟩, hl⟩ := hiv
  have hpkn := hRd.2.2.1.2.1
  refine lv_iconst (v := 0) X.1 X.2.1 dX5_readEither_2 (by decide) ?_
  refine lv_istore_n (lv' := [(3, .int 0), (0, .ref rd), (1, .int 1), (2, .int (nI k))]) X.1 X.2.1 dX5_readEither_3 rfl hl (by decide) rfl (fun ls hl => ?_)
  refine i_loop (I := Q9) 100 4 [] (fun j Q8 ls => (∃ pj pdj, rFr rd a I Q8 ∧ cRd rd tc a T Q8 R tp n pj ∧ cSr a Q8 cs pdj ∧ ((flC cs ++ pdj).length + min k 1 + min j 1 ≤ pj ∧ 2 + k + j ≤ pj) ∧ pEvery tp n (pFac tp n 4) (false, pk, flC cs ++ pdk) = pLoop tp n 38 10001 (pFac tp n 4) (101 - j) (pEk j 10001 ((pFac tp n 4) (false, pj, flC cs ++ pdj)))) ∧ lv_has ls 4 [(0, .ref rd), (1, .int 1), (2, .int (nI k)), (3, .int (nI j))]) 0 (by omega) ⟨⟨pk, pdk, hFt, hRd, hSr, ⟨by omega, by omega⟩, (by rw [pEk_0 rfl]; rfl)⟩, lv_sub hl [1, 2, 3, 0] rfl⟩ hP hS (fun j Q8 H locs ls hj hij hP hS ih2 => ?_)
  obtain ⟨⟨pj, pdj, hFt, hRd, hSr, ⟨hLj, hpj⟩, hEv⟩, hl⟩ := hij
  have hpjn := hRd.2.2.1.2.1
  refine lv_aload_n X.1 X.2.1 dX5_readEither_4 rfl (lv_at hl 0 rfl) ?_
  refine lv_iload_n X.1 X.2.1 dX5_readEither_5 rfl (lv_at hl 1 rfl) ?_
  refine g_run_i (f := fun u => u) (g_runV (k := 7) [.int 1] X hK hP hS hC hB (o_part_4 hRd hstr hSr (by omega) (by omega)) (cwV 1 X.2.2.2.2 gX5_readEither_X5_readPart rfl rfl rfl (by decide +kernel) ⟨Nat.le_of_ble_eq_true rfl, Nat.le_of_ble_eq_true rfl⟩) hRd.1.1 rfl rfl hl.1 rfl (Nat.le_of_ble_eq_true rfl) dX5_readEither_6 (by exact ⟨Nat.zero_le _, Nat.zero_le _⟩)) hS (fun r u H locs hq hP hS => ?_)
  obtain ⟨IN1, pN1, rfl, hfN1, hpN1, hq⟩ := hq
  have hP : gP D cy B z T IN1 R H := hP
  have hwN1 := (pW_fac (tp := tp) (n := n) 4) (false, pj, flC cs ++ pdj) (by show pj ≤ n; omega)
  rcases hq with ⟨rfl, pdN1, hEN1, hSN1⟩ | ⟨rfl, LN1, hEN1⟩
  · rw [hEN1] at hwN1
    have hwN1 : pj ≤ pN1 ∧ pN1 ≤ n ∧ (flC cs ++ pdN1).length + pj ≤ pN1 + (flC cs ++ pdj).length := hwN1
    have hcoN1 := co_le (cs := cs) (pd := pdN1)
    have hFt := hFt.trs hfN1
    have hRd : cRd rd tc a T IN1 R tp n pN1 := hRd.mv hfN1 hpN1 hwN1.2.1
    have hSr : cSr a IN1 cs pdN1 := hSN1
    refine lv_if_ne (tgt := 14) X.1 X.2.1 dX5_readEither_9 (by decide) (fun c9 => ?_) (fun c9 => ?_)
    · have n9 : ¬ 1 = 0 := gq_ne c9 (show (1 : Int32) = nI 1 from rfl) (show (0 : Int32) = nI 0 from rfl) (by omega) (by omega)
      refine lv_iload_n X.1 X.2.1 dX5_readEither_14 rfl (lv_at hl 3 rfl) ?_
      refine lv_if_le (tgt := 27) X.1 X.2.1 dX5_readEither_15 (by decide) (fun c15 => ?_) (fun c15 => ?_)
      · have n15 : j ≤ 0 := gq_le c15 (Eq.refl (nI j)) (show (0 : Int32) = nI 0 from rfl) (by omega) (by omega)
        refine lv_iinc (v := nI (j + 1)) (lv' := [(3, .int (nI (j + 1))), (0, .ref rd), (1, .int 1), (2, .int (nI k))]) X.1 X.2.1 dX5_readEither_27 hl (k := 3) rfl (gn_inc (Eq.refl (nI j)) 1) (by decide) rfl (fun ls hl => ?_)
        refine lv_iload_n X.1 X.2.1 dX5_readEither_30 rfl (lv_at hl 0 rfl) ?_
        refine lv_bipush (v := 100) X.1 X.2.1 dX5_readEither_31 (by decide) ?_
        refine lv_icmp_ge (tgt := 45) X.1 X.2.1 dX5_readEither_33 (by decide) (fun c33 => ?_) (fun c33 => ?_)
        · exact absurd (gq_le c33 (show (100 : Int32) = nI 100 from rfl) (Eq.refl (nI (j + 1))) (by omega) (by omega)) (by omega)
        · have n33 : (j + 1) < 100 := gq_nle c33 (show (100 : Int32) = nI 100 from rfl) (Eq.refl (nI (j + 1))) (by omega) (by omega)
          refine lv_aload_n X.1 X.2.1 dX5_readEither_36 rfl (lv_at hl 1 rfl) ?_
          refine va_ldcS X.1 X.2.1 X.2.2.2.1 (vk_R.warm hC.1 hR97) dX5_readEither_37 ?_
          have hX : pEk j 10001 ((pFac tp n 4) (false, pj, flC cs ++ pdj)) = (false, pN1, flC cs ++ pdN1) := (pEk_0 (by omega)).trans hEN1
          have hEv2 : pEvery tp n (pFac tp n 4) (false, pk, flC cs ++ pdk) = pLoop tp n 38 10001 (pFac tp n 4) (101 - j) (false, pN1, flC cs ++ pdN1) := by rw [hEv, hX]
          by_cases h38 : sH tp n pN1 = 38
          · refine g_run_i (f := fun u => u) (g_runV (k := 7) [.ref s97] X hK hP hS hC hB (o_reads_y hRd hs97 h2 ht97 h38) (cwV 1 X.2.2.2.2 gX5_readEither_X5_reads rfl rfl rfl (by decide +kernel) ⟨Nat.le_of_ble_eq_true rfl, Nat.le_of_ble_eq_true rfl⟩) hRd.1.1 rfl rfl hl.1 rfl (Nat.le_of_ble_eq_true rfl) dX5_readEither_39 (by exact ⟨Nat.zero_le _, Nat.zero_le _⟩)) hS (fun r u H locs hq hP hS => ?_)
            obtain ⟨rfl, rfl⟩ := hq
            generalize eJ2 : g2 IN1 rd 0 (nI pN1 + 1) = J2 at hP
            have hP : gP D cy B z T J2 R H := hP
            have hfJ2 : ∀ c j, ¬ (c = rd ∧ j = 0) → J2 c j = IN1 c j := fun c j h => gs_ne eJ2 h rfl
            have hpnJ2 := sH_in h38 (by decide)
            have hFt := hFt.trs (fun c j h1 _ => hfJ2 c j h1)
            have hRd : cRd rd tc a T J2 R tp n (pN1 + 1) := hRd.mv (fun c j h1 _ => hfJ2 c j h1) ((gs_same eJ2).trans (nI_add _ 1)) (by omega)
            have hSr : cSr a J2 cs pdN1 := hSr.k (fun c j g1 g2 => hfJ2 c j (by omega))
            refine lv_if_ne (tgt := 4) X.1 X.2.1 dX5_readEither_42 (by decide) (fun c42 => ?_) (fun c42 => ?_)
            · have n42 : ¬ 1 = 0 := gq_ne c42 (show (1 : Int32) = nI 1 from rfl) (show (0 : Int32) = nI 0 from rfl) (by omega) (by omega)
              exact ih2 _ _ _ _ (by omega) ⟨⟨(pN1 + 1), pdN1, hFt, hRd, hSr, ⟨by omega, by omega⟩, hEv2.trans ((pLoop_go (by omega) ⟨rfl, h38⟩).trans (by rw [pEk_s (by omega)]))⟩, lv_sub hl [1, 2, 3, 0] rfl⟩ hP hS
            · exact absurd c42 (by decide)
          · have hEv3 : pEvery tp n (pFac tp n 4) (false, pk, flC cs ++ pdk) = (false, pN1, flC cs ++ pdN1) := hEv2.trans (pLoop_stop (fun h => h38 h.2))
            have hco9 := co_le (cs := cs) (pd := pdN1)
            refine g_run_i (f := fun u => u) (g_runV (k := 7) [.ref s97] X hK hP hS hC hB (o_reads_n hRd hs97 h2 ht97 h38) (cwV 1 X.2.2.2.2 gX5_readEither_X5_reads rfl rfl rfl (by decide +kernel) ⟨Nat.le_of_ble_eq_true rfl, Nat.le_of_ble_eq_true rfl⟩) hRd.1.1 rfl rfl hl.1 rfl (Nat.le_of_ble_eq_true rfl) dX5_readEither_39 (by exact ⟨Nat.zero_le _, Nat.zero_le _⟩)) hS (fun r u H locs hq hP hS => ?_)
            obtain ⟨rfl, rfl⟩ := hq
            have hP : gP D cy B z T IN1 R H := hP
            refine lv_if_ne (tgt := 4) X.1 X.2.1 dX5_readEither_42 (by decide) (fun c42 => ?_) (fun c42 => ?_)
            · exact absurd rfl c42
            · have n42 : 0 = 0 := gq_eq c42 (show (0 : Int32) = nI 0 from rfl) (show (0 : Int32) = nI 0 from rfl) (by omega) (by omega)
              refine lv_iload_n X.1 X.2.1 dX5_readEither_45 rfl (lv_at hl 3 rfl) ?_
              refine lv_if_le (tgt := 58) X.1 X.2.1 dX5_readEither_46 (by decide) (fun c46 => ?_) (fun c46 => ?_)
              · have n46 : k ≤ 0 := gq_le c46 (Eq.refl (nI k)) (show (0 : Int32) = nI 0 from rfl) (by omega) (by omega)
                refine lv_iinc (v := nI (k + 1)) (lv' := [(2, .int (nI (k + 1))), (3, .int (nI (j + 1))), (0, .ref rd), (1, .int 1)]) X.1 X.2.1 dX5_readEither_58 hl (k := 3) rfl (gn_inc (Eq.refl (nI k)) 1) (by decide) rfl (fun ls hl => ?_)
                refine lv_iload_n X.1 X.2.1 dX5_readEither_61 rfl (lv_at hl 0 rfl) ?_
                refine lv_bipush (v := 100) X.1 X.2.1 dX5_readEither_62 (by decide) ?_
                refine lv_icmp_ge (tgt := 76) X.1 X.2.1 dX5_readEither_64 (by decide) (fun c64 => ?_) (fun c64 => ?_)
                · exact absurd (gq_le c64 (show (100 : Int32) = nI 100 from rfl) (Eq.refl (nI (k + 1))) (by omega) (by omega)) (by omega)
                · have n64 : (k + 1) < 100 := gq_nle c64 (show (100 : Int32) = nI 100 from rfl) (Eq.refl (nI (k + 1))) (by omega) (by omega)
                  refine lv_aload_n X.1 X.2.1 dX5_readEither_67 rfl (lv_at hl 2 rfl) ?_
                  refine va_ldcS X.1 X.2.1 X.2.2.2.1 (vk_R.warm hC.1 hR99) dX5_readEither_68 ?_
                  have hY : pEk k 10002 (pEvery tp n (pFac tp n 4) (false, pk, flC cs ++ pdk)) = (false, pN1, flC cs ++ pdN1) := (pEk_0 (by omega)).trans hEv3
                  have hSo2 : pSome tp n (pFac tp n 4) (false, pl, flC cs ++ pd) = pLoop tp n 124 10002 (pEvery tp n (pFac tp n 4)) (101 - k) (false, pN1, flC cs ++ pdN1) := by rw [hSo, hY]
                  by_cases h124 : sH tp n pN1 = 124
                  · refine g_run_i (f := fun u => u) (g_runV (k := 7) [.ref s99] X hK hP hS hC hB (o_reads_y hRd hs99 h2 ht99 h124) (cwV 1 X.2.2.2.2 gX5_readEither_X5_reads rfl rfl rfl (by decide +kernel) ⟨Nat.le_of_ble_eq_true rfl, Nat.le_of_ble_eq_true rfl⟩) hRd.1.1 rfl rfl hl.1 rfl (Nat.le_of_ble_eq_true rfl) dX5_readEither_70 (by exact ⟨Nat.zero_le _, Nat.zero_le _⟩)) hS (fun r u H locs hq hP hS => ?_)
                    obtain ⟨rfl, rfl⟩ := hq
                    generalize eJ3 : g2 IN1 rd 0 (nI pN1 + 1) = J3 at hP
                    have hP : gP D cy B z T J3 R H := hP
                    have hfJ3 : ∀ c j, ¬ (c = rd ∧ j = 0) → J3 c j = IN1 c j := fun c j h => gs_ne eJ3 h rfl
                    have hpnJ3 := sH_in h124 (by decide)
                    have hFt := hFt.trs (fun c j h1 _ => hfJ3 c j h1)
                    have hRd : cRd rd tc a T J3 R tp n (pN1 + 1) := hRd.mv (fun c j h1 _ => hfJ3 c j h1) ((gs_same eJ3).trans (nI_add _ 1)) (by omega)
                    have hSr : cSr a J3 cs pdN1 := hSr.k (fun c j g1 g2 => hfJ3 c j (by omega))
                    refine lv_if_ne (tgt := 2) X.1 X.2.1 dX5_readEither_73 (by decide) (fun c73 => ?_) (fun c73 => ?_)
                    · have n73 : ¬ 1 = 0 := gq_ne c73 (show (1 : Int32) = nI 1 from rfl) (show (0 : Int32) = nI 0 from rfl) (by omega) (by omega)
                      exact ih _ _ _ _ (by omega) ⟨⟨(pN1 + 1), pdN1, hFt, hRd, hSr, ⟨by omega, by omega⟩, hSo2.trans ((pLoop_go (by omega) ⟨rfl, h124⟩).trans (by rw [pEk_s (by omega)]))⟩, lv_sub hl [2, 3, 0] rfl⟩ hP hS
                    · exact absurd c73 (by decide)
                  · refine g_run_i (f := fun u => u) (g_runV (k := 7) [.ref s99] X hK hP hS hC hB (o_reads_n hRd hs99 h2 ht99 h124) (cwV 1 X.2.2.2.2 gX5_readEither_X5_reads rfl rfl rfl (by decide +kernel) ⟨Nat.le_of_ble_eq_true rfl, Nat.le_of_ble_eq_true rfl⟩) hRd.1.1 rfl rfl hl.1 rfl (Nat.le_of_ble_eq_true rfl) dX5_readEither_70 (by exact ⟨Nat.zero_le _, Nat.zero_le _⟩)) hS (fun r u H locs hq hP hS => ?_)
                    obtain ⟨rfl, rfl⟩ := hq
                    have hP : gP D cy B z T IN1 R H := hP
                    refine lv_if_ne (tgt := 2) X.1 X.2.1 dX5_readEither_73 (by decide) (fun c73 => ?_) (fun c73 => ?_)
                    · exact absurd rfl c73
                    · have n73 : 0 = 0 := gq_eq c73 (show (0 : Int32) = nI 0 from rfl) (show (0 : Int32) = nI 0 from rfl) (by omega) (by omega)
                      refine lv_iconst (v := 1) X.1 X.2.1 dX5_readEither_76 (by decide) ?_
                      exact g_zret (f := fun u => u) (z, T, IN1, R) X hr hlk hK hP hS dX5_readEither_77 rfl ⟨IN1, pN1, rfl, hFt, hRd.2.2.2.1, Or.inl ⟨rfl, _, (hSo2.trans (pLoop_stop (fun h => h124 h.2))), hSr⟩⟩
              · have n46 : 0 < k := gq_nle c46 (Eq.refl (nI k)) (show (0 : Int32) = nI 0 from rfl) (by omega) (by omega)
                refine lv_aload_n X.1 X.2.1 dX5_readEither_49 rfl (lv_at hl 1 rfl) ?_
                refine g_getr 7 3 X hK hP hRd.1.1 rfl hinRX5 rfl (by decide) k31 (fun _ h => h) dX5_readEither_50 (show va_rf (R rd 3) = .ref a from by rw [hRd.1.2.2.1]; rfl) ?_
                refine lv_bipush (v := (-3)) X.1 X.2.1 dX5_readEither_53 (by decide) ?_
                refine g_run_v (f := fun u => u) (g_runV (k := 6) [.int (-3)] X hK hP hS hC hB (o_put hRd.1.2.2.2.2 hSr.2.2.2.1 (by omega)) (cwV 1 X.2.2.2.2 gX5_readEither_X4_put rfl rfl rfl (by decide +kernel) ⟨Nat.le_of_ble_eq_true rfl, Nat.le_of_ble_eq_true rfl⟩) hRd.1.2.2.2.2.1 rfl rfl hl.1 rfl (Nat.le_of_ble_eq_true rfl) dX5_readEither_55 (by exact ⟨Nat.zero_le _, Nat.zero_le _⟩)) hS (fun u H locs hq hP hS => ?_)
                subst hq
                generalize eJ4 : g2 IN1 (a + 4) ((coC cs ++ pdN1).length) (-3) = J4 at hP
                generalize eJ5 : g2 J4 a 7 (nI ((coC cs ++ pdN1).length) + 1) = J5 at hP
                have hP : gP D cy B z T J5 R H := hP
                have hFt := hFt.trs (fun c j h1 h2 => gs_ne eJ5 (by omega) (gs_ne eJ4 (by omega) rfl))
                have hRd : cRd rd tc a T J5 R tp n pN1 := hRd.mv (fun c j h1 h2 => gs_ne eJ5 (by omega) (gs_ne eJ4 (by omega) rfl)) (gs_ne eJ5 (by omega) (gs_ne eJ4 (by omega) hRd.2.2.2.1)) (by omega)
                have hSr : cSr a J5 cs (pdN1 ++ [10002]) := hSr.push (by omega) (by omega) rfl eJ4 eJ5
                have hflJ5 := fl1 (cs := cs) (pd := pdN1) (t := 10002)
                refine lv_iinc (v := nI (k + 1)) (lv' := [(2, .int (nI (k + 1))), (3, .int (nI (j + 1))), (0, .ref rd), (1, .int 1)]) X.1 X.2.1 dX5_readEither_58 hl (k := 3) rfl (gn_inc (Eq.refl (nI k)) 1) (by decide) rfl (fun ls hl => ?_)
                refine lv_iload_n X.1 X.2.1 dX5_readEither_61 rfl (lv_at hl 0 rfl) ?_
                refine lv_bipush (v := 100) X.1 X.2.1 dX5_readEither_62 (by decide) ?_
                refine lv_icmp_ge (tgt := 76) X.1 X.2.1 dX5_readEither_64 (by decide) (fun c64 => ?_) (fun c64 => ?_)
                · exact absurd (gq_le c64 (show (100 : Int32) = nI 100 from rfl) (Eq.refl (nI (k + 1))) (by omega) (by omega)) (by omega)
                · have n64 : (k + 1) < 100 := gq_nle c64 (show (100 : Int32) = nI 100 from rfl) (Eq.refl (nI (k + 1))) (by omega) (by omega)
                  refine lv_aload_n X.1 X.2.1 dX5_readEither_67 rfl (lv_at hl 2 rfl) ?_
                  refine va_ldcS X.1 X.2.1 X.2.2.2.1 (vk_R.warm hC.1 hR99) dX5_readEither_68 ?_
                  have hY : pEk k 10002 (pEvery tp n (pFac tp n 4) (false, pk, flC cs ++ pdk)) = (false, pN1, flC cs ++ (pdN1 ++ [10002])) := by rw [pEk_s (by omega), hEv3, pEm_f, List.append_assoc]
                  have hSo2 : pSome tp n (pFac tp n 4) (false, pl, flC cs ++ pd) = pLoop tp n 124 10002 (pEvery tp n (pFac tp n 4)) (101 - k) (false, pN1, flC cs ++ (pdN1 ++ [10002])) := by rw [hSo, hY]
                  by_cases h124 : sH tp n pN1 = 124
                  · refine g_run_i (f := fun u => u) (g_runV (k := 7) [.ref s99] X hK hP hS hC hB (o_reads_y hRd hs99 h2 ht99 h124) (cwV 1 X.2.2.2.2 gX5_readEither_X5_reads rfl rfl rfl (by decide +kernel) ⟨Nat.le_of_ble_eq_true rfl, Nat.le_of_ble_eq_true rfl⟩) hRd.1.1 rfl rfl hl.1 rfl (Nat.le_of_ble_eq_true rfl) dX5_readEither_70 (by exact ⟨Nat.zero_le _, Nat.zero_le _⟩)) hS (fun r u H locs hq hP hS => ?_)
                    obtain ⟨rfl, rfl⟩ := hq
                    generalize eJ6 : g2 J5 rd 0 (nI pN1 + 1) = J6 at hP
                    have hP : gP D cy B z T J6 R H := hP
                    have hfJ6 : ∀ c j, ¬ (c = rd ∧ j = 0) → J6 c j = J5 c j := fun c j h => gs_ne eJ6 h rfl
                    have hpnJ6 := sH_in h124 (by decide)
                    have hFt := hFt.trs (fun c j h1 _ => hfJ6 c j h1)
                    have hRd : cRd rd tc a T J6 R tp n (pN1 + 1) := hRd.mv (fun c j h1 _ => hfJ6 c j h1) ((gs_same eJ6).trans (nI_add _ 1)) (by omega)
                    have hSr : cSr a J6 cs (pdN1 ++ [10002]) := hSr.k (fun c j g1 g2 => hfJ6 c j (by omega))
                    refine lv_if_ne (tgt := 2) X.1 X.2.1 dX5_readEither_73 (by decide) (fun c73 => ?_) (fun c73 => ?_)
                    · have n73 : ¬ 1 = 0 := gq_ne c73 (show (1 : Int32) = nI 1 from rfl) (show (0 : Int32) = nI 0 from rfl) (by omega) (by omega)
                      exact ih _ _ _ _ (by omega) ⟨⟨(pN1 + 1), (pdN1 ++ [10002]), hFt, hRd, hSr, ⟨by omega, by omega⟩, hSo2.trans ((pLoop_go (by omega) ⟨rfl, h124⟩).trans (by rw [pEk_s (by omega)]))⟩, lv_sub hl [2, 3, 0] rfl⟩ hP hS
                    · exact absurd c73 (by decide)
                  · refine g_run_i (f := fun u => u) (g_runV (k := 7) [.ref s99] X hK hP hS hC hB (o_reads_n hRd hs99 h2 ht99 h124) (cwV 1 X.2.2.2.2 gX5_readEither_X5_reads rfl rfl rfl (by decide +kernel) ⟨Nat.le_of_ble_eq_true rfl, Nat.le_of_ble_eq_true rfl⟩) hRd.1.1 rfl rfl hl.1 rfl (Nat.le_of_ble_eq_true rfl) dX5_readEither_70 (by exact ⟨Nat.zero_le _, Nat.zero_le _⟩)) hS (fun r u H locs hq hP hS => ?_)
                    obtain ⟨rfl, rfl⟩ := hq
                    have hP : gP D cy B z T J5 R H := hP
                    refine lv_if_ne (tgt := 2) X.1 X.2.1 dX5_readEither_73 (by decide) (fun c73 => ?_) (fun c73 => ?_)
                    · exact absurd rfl c73
                    · have n73 : 0 = 0 := gq_eq c73 (show (0 : Int32) = nI 0 from rfl) (show (0 : Int32) = nI 0 from rfl) (by omega) (by omega)
                      refine lv_iconst (v := 1) X.1 X.2.1 dX5_readEither_76 (by decide) ?_
                      exact g_zret (f := fun u => u) (z, T, J5, R) X hr hlk hK hP hS dX5_readEither_77 rfl ⟨J5, pN1, rfl, hFt, hRd.2.2.2.1, Or.inl ⟨rfl, _, (hSo2.trans (pLoop_stop (fun h => h124 h.2))), hSr⟩⟩
      · have n15 : 0 < j := gq_nle c15 (Eq.refl (nI j)) (show (0 : Int32) = nI 0 from rfl) (by omega) (by omega)
        refine lv_aload_n X.1 X.2.1 dX5_readEither_18 rfl (lv_at hl 0 rfl) ?_
        refine g_getr 7 3 X hK hP hRd.1.1 rfl hinRX5 rfl (by decide) k31 (fun _ h => h) dX5_readEither_19 (show va_rf (R rd 3) = .ref a from by rw [hRd.1.2.2.1]; rfl) ?_
        refine lv_bipush (v := (-2)) X.1 X.2.1 dX5_readEither_22 (by decide) ?_
        refine g_run_v (f := fun u => u) (g_runV (k := 6) [.int (-2)] X hK hP hS hC hB (o_put hRd.1.2.2.2.2 hSr.2.2.2.1 (by omega)) (cwV 1 X.2.2.2.2 gX5_readEither_X4_put rfl rfl rfl (by decide +kernel) ⟨Nat.le_of_ble_eq_true rfl, Nat.le_of_ble_eq_true rfl⟩) hRd.1.2.2.2.2.1 rfl rfl hl.1 rfl (Nat.le_of_ble_eq_true rfl) dX5_readEither_24 (by exact ⟨Nat.zero_le _, Nat.zero_le _⟩)) hS (fun u H locs hq hP hS => ?_)
        subst hq
        generalize eJ7 : g2 IN1 (a + 4) ((coC cs ++ pdN1).length) (-2) = J7 at hP
        generalize eJ8 : g2 J7 a 7 (nI ((coC cs ++ pdN1).length) + 1) = J8 at hP
        have hP : gP D cy B z T J8 R H := hP
        have hFt := hFt.trs (fun c j h1 h2 => gs_ne eJ8 (by omega) (gs_ne eJ7 (by omega) rfl))
        have hRd : cRd rd tc a T J8 R tp n pN1 := hRd.mv (fun c j h1 h2 => gs_ne eJ8 (by omega) (gs_ne eJ7 (by omega) rfl)) (gs_ne eJ8 (by omega) (gs_ne eJ7 (by omega) hRd.2.2.2.1)) (by omega)
        have hSr : cSr a J8 cs (pdN1 ++ [10001]) := hSr.push (by omega) (by omega) rfl eJ7 eJ8
        have hflJ8 := fl1 (cs := cs) (pd := pdN1) (t := 10001)
        refine lv_iinc (v := nI (j + 1)) (lv' := [(3, .int (nI (j + 1))), (0, .ref rd), (1, .int 1), (2, .int (nI k))]) X.1 X.2.1 dX5_readEither_27 hl (k := 3) rfl (gn_inc (Eq.refl (nI j)) 1) (by decide) rfl (fun ls hl => ?_)
        refine lv_iload_n X.1 X.2.1 dX5_readEither_30 rfl (lv_at hl 0 rfl) ?_
        refine lv_bipush (v := 100) X.1 X.2.1 dX5_readEither_31 (by decide) ?_
        refine lv_icmp_ge (tgt := 45) X.1 X.2.1 dX5_readEither_33 (by decide) (fun c33 => ?_) (fun c33 => ?_)
        · exact absurd (gq_le c33 (show (100 : Int32) = nI 100 from rfl) (Eq.refl (nI (j + 1))) (by omega) (by omega)) (by omega)
        · have n33 : (j + 1) < 100 := gq_nle c33 (show (100 : Int32) = nI 100 from rfl) (Eq.refl (nI (j + 1))) (by omega) (by omega)
          refine lv_aload_n X.1 X.2.1 dX5_readEither_36 rfl (lv_at hl 1 rfl) ?_
          refine va_ldcS X.1 X.2.1 X.2.2.2.1 (vk_R.warm hC.1 hR97) dX5_readEither_37 ?_
          have hX : pEk j 10001 ((pFac tp n 4) (false, pj, flC cs ++ pdj)) = (false, pN1, flC cs ++ (pdN1 ++ [10001])) := by rw [pEk_s (by omega), hEN1, pEm_f, List.append_assoc]
          have hEv2 : pEvery tp n (pFac tp n 4) (false, pk, flC cs ++ pdk) = pLoop tp n 38 10001 (pFac tp n 4) (101 - j) (false, pN1, flC cs ++ (pdN1 ++ [10001])) := by rw [hEv, hX]
          by_cases h38 : sH tp n pN1 = 38
          · refine g_run_i (f := fun u => u) (g_runV (k := 7) [.ref s97] X hK hP hS hC hB (o_reads_y hRd hs97 h2 ht97 h38) (cwV 1 X.2.2.2.2 gX5_readEither_X5_reads rfl rfl rfl (by decide +kernel) ⟨Nat.le_of_ble_eq_true rfl, Nat.le_of_ble_eq_true rfl⟩) hRd.1.1 rfl rfl hl.1 rfl (Nat.le_of_ble_eq_true rfl) dX5_readEither_39 (by exact ⟨Nat.zero_le _, Nat.zero_le _⟩)) hS (fun r u H locs hq hP hS => ?_)
            obtain ⟨rfl, rfl⟩ := hq
            generalize eJ9 : g2 J8 rd 0 (nI pN1 + 1) = J9 at hP
            have hP : gP D cy B z T J9 R H := hP
            have hfJ9 : ∀ c j, ¬ (c = rd ∧ j = 0) → J9 c j = J8 c j := fun c j h => gs_ne eJ9 h rfl
            have hpnJ9 := sH_in h38 (by decide)
            have hFt := hFt.trs (fun c j h1 _ => hfJ9 c j h1)
            have hRd : cRd rd tc a T J9 R tp n (pN1 + 1) := hRd.mv (fun c j h1 _ => hfJ9 c j h1) ((gs_same eJ9).trans (nI_add _ 1)) (by omega)
            have hSr : cSr a J9 cs (pdN1 ++ [10001]) := hSr.k (fun c j g1 g2 => hfJ9 c j (by omega))
            refine lv_if_ne (tgt := 4) X.1 X.2.1 dX5_readEither_42 (by decide) (fun c42 => ?_) (fun c42 => ?_)
            · have n42 : ¬ 1 = 0 := gq_ne c42 (show (1 : Int32) = nI 1 from rfl) (show (0 : Int32) = nI 0 from rfl) (by omega) (by omega)
              exact ih2 _ _ _ _ (by omega) ⟨⟨(pN1 + 1), (pdN1 ++ [10001]), hFt, hRd, hSr, ⟨by omega, by omega⟩, hEv2.trans ((pLoop_go (by omega) ⟨rfl, h38⟩).trans (by rw [pEk_s (by omega)]))⟩, lv_sub hl [1, 2, 3, 0] rfl⟩ hP hS
            · exact absurd c42 (by decide)
          · have hEv3 : pEvery tp n (pFac tp n 4) (false, pk, flC cs ++ pdk) = (false, pN1, flC cs ++ (pdN1 ++ [10001])) := hEv2.trans (pLoop_stop (fun h => h38 h.2))
            have hco9 := co_le (cs := cs) (pd := (pdN1 ++ [10001]))
            refine g_run_i (f := fun u => u) (g_runV (k := 7) [.ref s97] X hK hP hS hC hB (o_reads_n hRd hs97 h2 ht97 h38) (cwV 1 X.2.2.2.2 gX5_readEither_X5_reads rfl rfl rfl (by decide +kernel) ⟨Nat.le_of_ble_eq_true rfl, Nat.le_of_ble_eq_true rfl⟩) hRd.1.1 rfl rfl hl.1 rfl (Nat.le_of_ble_eq_true rfl) dX5_readEither_39 (by exact ⟨Nat.zero_le _, Nat.zero_le _⟩)) hS (fun r u H locs hq hP hS => ?_)
            obtain ⟨rfl, rfl⟩ := hq
            have hP : gP D cy B z T J8 R H := hP
            refine lv_if_ne (tgt := 4) X.1 X.2.1 dX5_readEither_42 (by decide) (fun c42 => ?_) (fun c42 => ?_)
            · exact absurd rfl c42
            · have n42 : 0 = 0 := gq_eq c42 (show (0 : Int32) = nI 0 from rfl) (show (0 : Int32) = nI 0 from rfl) (by omega) (by omega)
              refine lv_iload_n X.1 X.2.1 dX5_readEither_45 rfl (lv_at hl 3 rfl) ?_
              refine lv_if_le (tgt := 58) X.1 X.2.1 dX5_readEither_46 (by decide) (fun c46 => ?_) (fun c46 => ?_)
              · have n46 : k ≤ 0 := gq_le c46 (Eq.refl (nI k)) (show (0 : Int32) = nI 0 from rfl) (by omega) (by omega)
                refine lv_iinc (v := nI (k + 1)) (lv' := [(2, .int (nI (k + 1))), (3, .int (nI (j + 1))), (0, .ref rd), (1, .int 1)]) X.1 X.2.1 dX5_readEither_58 hl (k := 3) rfl (gn_inc (Eq.refl (nI k)) 1) (by decide) rfl (fun ls hl => ?_)
                refine lv_iload_n X.1 X.2.1 dX5_readEither_61 rfl (lv_at hl 0 rfl) ?_
                refine lv_bipush (v := 100) X.1 X.2.1 dX5_readEither_62 (by decide) ?_
                refine lv_icmp_ge (tgt := 76) X.1 X.2.1 dX5_readEither_64 (by decide) (fun c64 => ?_) (fun c64 => ?_)
                · exact absurd (gq_le c64 (show (100 : Int32) = nI 100 from rfl) (Eq.refl (nI (k + 1))) (by omega) (by omega)) (by omega)
                · have n64 : (k + 1) < 100 := gq_nle c64 (show (100 : Int32) = nI 100 from rfl) (Eq.refl (nI (k + 1))) (by omega) (by omega)
                  refine lv_aload_n X.1 X.2.1 dX5_readEither_67 rfl (lv_at hl 2 rfl) ?_
                  refine va_ldcS X.1 X.2.1 X.2.2.2.1 (vk_R.warm hC.1 hR99) dX5_readEither_68 ?_
                  have hY : pEk k 10002 (pEvery tp n (pFac tp n 4) (false, pk, flC cs ++ pdk)) = (false, pN1, flC cs ++ (pdN1 ++ [10001])) := (pEk_0 (by omega)).trans hEv3
                  have hSo2 : pSome tp n (pFac tp n 4) (false, pl, flC cs ++ pd) = pLoop tp n 124 10002 (pEvery tp n (pFac tp n 4)) (101 - k) (false, pN1, flC cs ++ (pdN1 ++ [10001])) := by rw [hSo, hY]
                  by_cases h124 : sH tp n pN1 = 124
                  · refine g_run_i (f := fun u => u) (g_runV (k := 7) [.ref s99] X hK hP hS hC hB (o_reads_y hRd hs99 h2 ht99 h124) (cwV 1 X.2.2.2.2 gX5_readEither_X5_reads rfl rfl rfl (by decide +kernel) ⟨Nat.le_of_ble_eq_true rfl, Nat.le_of_ble_eq_true rfl⟩) hRd.1.1 rfl rfl hl.1 rfl (Nat.le_of_ble_eq_true rfl) dX5_readEither_70 (by exact ⟨Nat.zero_le _, Nat.zero_le _⟩)) hS (fun r u H locs hq hP hS => ?_)
                    obtain ⟨rfl, rfl⟩ := hq
                    generalize eJ10 : g2 J8 rd 0 (nI pN1 + 1) = J10 at hP
                    have hP : gP D cy B z T J10 R H := hP
                    have hfJ10 : ∀ c j, ¬ (c = rd ∧ j = 0) → J10 c j = J8 c j := fun c j h => gs_ne eJ10 h rfl
                    have hpnJ10 := sH_in h124 (by decide)
                    have hFt := hFt.trs (fun c j h1 _ => hfJ10 c j h1)
                    have hRd : cRd rd tc a T J10 R tp n (pN1 + 1) := hRd.mv (fun c j h1 _ => hfJ10 c j h1) ((gs_same eJ10).trans (nI_add _ 1)) (by omega)
                    have hSr : cSr a J10 cs (pdN1 ++ [10001]) := hSr.k (fun c j g1 g2 => hfJ10 c j (by omega))
                    refine lv_if_ne (tgt := 2) X.1 X.2.1 dX5_readEither_73 (by decide) (fun c73 => ?_) (fun c73 => ?_)
                    · have n73 : ¬ 1 = 0 := gq_ne c73 (show (1 : Int32) = nI 1 from rfl) (show (0 : Int32) = nI 0 from rfl) (by omega) (by omega)
                      exact ih _ _ _ _ (by omega) ⟨⟨(pN1 + 1), (pdN1 ++ [10001]), hFt, hRd, hSr, ⟨by omega, by omega⟩, hSo2.trans ((pLoop_go (by omega) ⟨rfl, h124⟩).trans (by rw [pEk_s (by omega)]))⟩, lv_sub hl [2, 3, 0] rfl⟩ hP hS
                    · exact absurd c73 (by decide)
                  · refine g_run_i (f := fun u => u) (g_runV (k := 7) [.ref s99] X hK hP hS hC hB (o_reads_n hRd hs99 h2 ht99 h124) (cwV 1 X.2.2.2.2 gX5_readEither_X5_reads rfl rfl rfl (by decide +kernel) ⟨Nat.le_of_ble_eq_true rfl, Nat.le_of_ble_eq_true rfl⟩) hRd.1.1 rfl rfl hl.1 rfl (Nat.le_of_ble_eq_true rfl) dX5_readEither_70 (by exact ⟨Nat.zero_le _, Nat.zero_le _⟩)) hS (fun r u H locs hq hP hS => ?_)
                    obtain ⟨rfl, rfl⟩ := hq
                    have hP : gP D cy B z T J8 R H := hP
                    refine lv_if_ne (tgt := 2) X.1 X.2.1 dX5_readEither_73 (by decide) (fun c73 => ?_) (fun c73 => ?_)
                    · exact absurd rfl c73
                    · have n73 : 0 = 0 := gq_eq c73 (show (0 : Int32) = nI 0 from rfl) (show (0 : Int32) = nI 0 from rfl) (by omega) (by omega)
                      refine lv_iconst (v := 1) X.1 X.2.1 dX5_readEither_76 (by decide) ?_
                      exact g_zret (f := fun u => u) (z, T, J8, R) X hr hlk hK hP hS dX5_readEither_77 rfl ⟨J8, pN1, rfl, hFt, hRd.2.2.2.1, Or.inl ⟨rfl, _, (hSo2.trans (pLoop_stop (fun h => h124 h.2))), hSr⟩⟩
              · have n46 : 0 < k := gq_nle c46 (Eq.refl (nI k)) (show (0 : Int32) = nI 0 from rfl) (by omega) (by omega)
                refine lv_aload_n X.1 X.2.1 dX5_readEither_49 rfl (lv_at hl 1 rfl) ?_
                refine g_getr 7 3 X hK hP hRd.1.1 rfl hinRX5 rfl (by decide) k31 (fun _ h => h) dX5_readEither_50 (show va_rf (R rd 3) = .ref a from by rw [hRd.1.2.2.1]; rfl) ?_
                refine lv_bipush (v := (-3)) X.1 X.2.1 dX5_readEither_53 (by decide) ?_
                refine g_run_v (f := fun u => u) (g_runV (k := 6) [.int (-3)] X hK hP hS hC hB (o_put hRd.1.2.2.2.2 hSr.2.2.2.1 (by omega)) (cwV 1 X.2.2.2.2 gX5_readEither_X4_put rfl rfl rfl (by decide +kernel) ⟨Nat.le_of_ble_eq_true rfl, Nat.le_of_ble_eq_true rfl⟩) hRd.1.2.2.2.2.1 rfl rfl hl.1 rfl (Nat.le_of_ble_eq_true rfl) dX5_readEither_55 (by exact ⟨Nat.zero_le _, Nat.zero_le _⟩)) hS (fun u H locs hq hP hS => ?_)
                subst hq
                generalize eJ11 : g2 J8 (a + 4) ((coC cs ++ (pdN1 ++ [10001])).length) (-3) = J11 at hP
                generalize eJ12 : g2 J11 a 7 (nI ((coC cs ++ (pdN1 ++ [10001])).length) + 1) = J12 at hP
                have hP : gP D cy B z T J12 R H := hP
                have hFt := hFt.trs (fun c j h1 h2 => gs_ne eJ12 (by omega) (gs_ne eJ11 (by omega) rfl))
                have hRd : cRd rd tc a T J12 R tp n pN1 := hRd.mv (fun c j h1 h2 => gs_ne eJ12 (by omega) (gs_ne eJ11 (by omega) rfl)) (gs_ne eJ12 (by omega) (gs_ne eJ11 (by omega) hRd.2.2.2.1)) (by omega)
                have hSr : cSr a J12 cs ((pdN1 ++ [10001]) ++ [10002]) := hSr.push (by omega) (by omega) rfl eJ11 eJ12
                have hflJ12 := fl1 (cs := cs) (pd := (pdN1 ++ [10001])) (t := 10002)
                refine lv_iinc (v := nI (k + 1)) (lv' := [(2, .int (nI (k + 1))), (3, .int (nI (j + 1))), (0, .ref rd), (1, .int 1)]) X.1 X.2.1 dX5_readEither_58 hl (k := 3) rfl (gn_inc (Eq.refl (nI k)) 1) (by decide) rfl (fun ls hl => ?_)
                refine lv_iload_n X.1 X.2.1 dX5_readEither_61 rfl (lv_at hl 0 rfl) ?_
                refine lv_bipush (v := 100) X.1 X.2.1 dX5_readEither_62 (by decide) ?_
                refine lv_icmp_ge (tgt := 76) X.1 X.2.1 dX5_readEither_64 (by decide) (fun c64 => ?_) (fun c64 => ?_)
                · exact absurd (gq_le c64 (show (100 : Int32) = nI 100 from rfl) (Eq.refl (nI (k + 1))) (by omega) (by omega)) (by omega)
                · have n64 : (k + 1) < 100 := gq_nle c64 (show (100 : Int32) = nI 100 from rfl) (Eq.refl (nI (k + 1))) (by omega) (by omega)
                  refine lv_aload_n X.1 X.2.1 dX5_readEither_67 rfl (lv_at hl 2 rfl) ?_
                  refine va_ldcS X.1 X.2.1 X.2.2.2.1 (vk_R.warm hC.1 hR99) dX5_readEither_68 ?_
                  have hY : pEk k 10002 (pEvery tp n (pFac tp n 4) (false, pk, flC cs ++ pdk)) = (false, pN1, flC cs ++ ((pdN1 ++ [10001]) ++ [10002])) := by rw [pEk_s (by omega), hEv3, pEm_f, List.append_assoc]
                  have hSo2 : pSome tp n (pFac tp n 4) (false, pl, flC cs ++ pd) = pLoop tp n 124 10002 (pEvery tp n (pFac tp n 4)) (101 - k) (false, pN1, flC cs ++ ((pdN1 ++ [10001]) ++ [10002])) := by rw [hSo, hY]
                  by_cases h124 : sH tp n pN1 = 124
                  · refine g_run_i (f := fun u => u) (g_runV (k := 7) [.ref s99] X hK hP hS hC hB (o_reads_y hRd hs99 h2 ht99 h124) (cwV 1 X.2.2.2.2 gX5_readEither_X5_reads rfl rfl rfl (by decide +kernel) ⟨Nat.le_of_ble_eq_true rfl, Nat.le_of_ble_eq_true rfl⟩) hRd.1.1 rfl rfl hl.1 rfl (Nat.le_of_ble_eq_true rfl) dX5_readEither_70 (by exact ⟨Nat.zero_le _, Nat.zero_le _⟩)) hS (fun r u H locs hq hP hS => ?_)
                    obtain ⟨rfl, rfl⟩ := hq
                    generalize eJ13 : g2 J12 rd 0 (nI pN1 + 1) = J13 at hP
                    have hP : gP D cy B z T J13 R H := hP
                    have hfJ13 : ∀ c j, ¬ (c = rd ∧ j = 0) → J13 c j = J12 c j := fun c j h => gs_ne eJ13 h rfl
                    have hpnJ13 := sH_in h124 (by decide)
                    have hFt := hFt.trs (fun c j h1 _ => hfJ13 c j h1)
                    have hRd : cRd rd tc a T J13 R tp n (pN1 + 1) := hRd.mv (fun c j h1 _ => hfJ13 c j h1) ((gs_same eJ13).trans (nI_add _ 1)) (by omega)
                    have hSr : cSr a J13 cs ((pdN1 ++ [10001]) ++ [10002]) := hSr.k (fun c j g1 g2 => hfJ13 c j (by omega))
                    refine lv_if_ne (tgt := 2) X.1 X.2.1 dX5_readEither_73 (by decide) (fun c73 => ?_) (fun c73 => ?_)
                    · have n73 : ¬ 1 = 0 := gq_ne c73 (show (1 : Int32) = nI 1 from rfl) (show (0 : Int32) = nI 0 from rfl) (by omega) (by omega)
                      exact ih _ _ _ _ (by omega) ⟨⟨(pN1 + 1), ((pdN1 ++ [10001]) ++ [10002]), hFt, hRd, hSr, ⟨by omega, by omega⟩, hSo2.trans ((pLoop_go (by omega) ⟨rfl, h124⟩).trans (by rw [pEk_s (by omega)]))⟩, lv_sub hl [2, 3, 0] rfl⟩ hP hS
                    · exact absurd c73 (by decide)
                  · refine g_run_i (f := fun u => u) (g_runV (k := 7) [.ref s99] X hK hP hS hC hB (o_reads_n hRd hs99 h2 ht99 h124) (cwV 1 X.2.2.2.2 gX5_readEither_X5_reads rfl rfl rfl (by decide +kernel) ⟨Nat.le_of_ble_eq_true rfl, Nat.le_of_ble_eq_true rfl⟩) hRd.1.1 rfl rfl hl.1 rfl (Nat.le_of_ble_eq_true rfl) dX5_readEither_70 (by exact ⟨Nat.zero_le _, Nat.zero_le _⟩)) hS (fun r u H locs hq hP hS => ?_)
                    obtain ⟨rfl, rfl⟩ := hq
                    have hP : gP D cy B z T J12 R H := hP
                    refine lv_if_ne (tgt := 2) X.1 X.2.1 dX5_readEither_73 (by decide) (fun c73 => ?_) (fun c73 => ?_)
                    · exact absurd rfl c73
                    · have n73 : 0 = 0 := gq_eq c73 (show (0 : Int32) = nI 0 from rfl) (show (0 : Int32) = nI 0 from rfl) (by omega) (by omega)
                      refine lv_iconst (v := 1) X.1 X.2.1 dX5_readEither_76 (by decide) ?_
                      exact g_zret (f := fun u => u) (z, T, J12, R) X hr hlk hK hP hS dX5_readEither_77 rfl ⟨J12, pN1, rfl, hFt, hRd.2.2.2.1, Or.inl ⟨rfl, _, (hSo2.trans (pLoop_stop (fun h => h124 h.2))), hSr⟩⟩
    · exact absurd c9 (by decide)
  · rw [hEN1] at hwN1
    have hwN1 : pj ≤ pN1 ∧ pN1 ≤ n := ⟨hwN1.1, hwN1.2.1⟩
    have hFt := hFt.trs hfN1
    have hEv3 : pEvery tp n (pFac tp n 4) (false, pk, flC cs ++ pdk) = (true, pN1, LN1) := by rw [hEv, hEN1, pEk_t]; exact pLoop_stop (fun h => Bool.noConfusion h.1)
    refine lv_if_ne (tgt := 14) X.1 X.2.1 dX5_readEither_9 (by decide) (fun c9 => ?_) (fun c9 => ?_)
    · exact absurd rfl c9
    · have n9 : 0 = 0 := gq_eq c9 (show (0 : Int32) = nI 0 from rfl) (show (0 : Int32) = nI 0 from rfl) (by omega) (by omega)
      refine lv_iconst (v := 0) X.1 X.2.1 dX5_readEither_12 (by decide) ?_
      exact g_zret (f := fun u => u) (z, T, IN1, R) X hr hlk hK hP hS dX5_readEither_13 rfl ⟨IN1, pN1, rfl, hFt, hpN1, Or.inr ⟨rfl, LN1, (by rw [hSo, hEv3, pEk_t]; exact pLoop_stop (fun h => Bool.noConfusion h.1))⟩⟩

set_option maxHeartbeats 4000000 in
set_option maxRecDepth 100000 in
/-- o_part_5 -/
theorem o_part_5 (hRd : cRd rd tc a T I R tp n pl) (hstr : gStr s0 B) (hSr : cSr a I cs pd) (hLp : (flC cs ++ pd).length ≤ pl) (hp2 : 2 ≤ pl) : Met l yX5_readPart wsX5_readPart ({ frames := 17, cells := 0, slots := 0, locals := 378 }) (va_Pc [.ref rd, .int 0] (gW0 s0 D cy B (z, T, I, R))) (va_Qi (fun r u => ∃ I' p', u = (z, T, I', R) ∧ rFr rd a I I' ∧ I' rd 0 = nI p' ∧ ((r = 1 ∧ ∃ pd', pFac tp n 5 (false, pl, flC cs ++ pd) = (false, p', flC cs ++ pd') ∧ cSr a I' cs pd') ∨ (r = 0 ∧ ∃ L', pFac tp n 5 (false, pl, flC cs ++ pd) = (true, p', L')))) (fun u t => gW1 D cy B u t) (gA B)) 0 0 (gA B) := by
  refine g_met (maxL := 2) (ret := (some .boolean)) (by decide) rfl (Nat.le_of_ble_eq_true rfl) (fun p e s m args below meth c ls X hr hlk hnm hK hP hC hS hl => ?_)
  have hl : lv_has ls 2 [(0, .ref rd), (1, .int 0)] := hl
  have hP : gP D cy B z T I R s.heap := hP
  have hB : B ≤ s.heap.size := by rw [hP.1]; exact hP.2.1
  have hinRX5 : ∀ w ∈ wsX50, w ∈ wsX5_readPart := fun _ h => List.mem_cons_of_mem _ (List.mem_append_left _ (List.mem_append_right _ h))
  have k31 : Cond.fieldLink RX5 31 "BarrowPlank$SiteReader" "draft" "LBarrowPlank$Site;" ∈ wsX5_readPart := by decide +kernel
  have hn100 := hRd.2.2.1.1
  have hpn := hRd.2.2.1.2.1
  have htp := hRd.2.2.1.2.2
  have hrda := hRd.2.1.1
  have htca := hRd.2.1.2.1
  have hrdt := hRd.2.1.2.2
  have h2 : gSt2 s0 B := hstr.1
  obtain ⟨s101, q101, hR101, hs101, ht101⟩ := hstr.at 12 rfl
  have hs101 : gSo s0 B [33] s101 q101 := hs101
  have ht101 : gTx [33] := ht101
  obtain ⟨s103, q103, hR103, hs103, ht103⟩ := hstr.at 13 rfl
  have hs103 : gSo s0 B [40] s103 q103 := hs103
  have ht103 : gTx [40] := ht103
  obtain ⟨s105, q105, hR105, hs105, ht105⟩ := hstr.at 14 rfl
  have hs105 : gSo s0 B [41] s105 q105 := hs105
  have ht105 : gTx [41] := ht105
  have hFt : rFr rd a I I := rFr.rf
  have hco := co_le (cs := cs) (pd := pd)
  by_cases hb1 : sH tp n pl = 33
  · refine lv_iload_n X.1 X.2.1 dX5_readPart_0 rfl (lv_at hl 1 rfl) ?_
    refine lv_iconst (v := 5) X.1 X.2.1 dX5_readPart_1 (by decide) ?_
    refine lv_icmp_ge (tgt := 36) X.1 X.2.1 dX5_readPart_2 (by decide) (fun c2 => ?_) (fun c2 => ?_)
    · exact absurd c2 (by decide)
    · have n2 : 0 < 5 := gq_nle c2 (show (5 : Int32) = nI 5 from rfl) (show (0 : Int32) = nI 0 from rfl) (by omega) (by omega)
      refine lv_aload_n X.1 X.2.1 dX5_readPart_5 rfl (lv_at hl 0 rfl) ?_
      refine va_ldcS X.1 X.2.1 X.2.2.2.1 (vk_R.warm hC.1 hR101) dX5_readPart_6 ?_
      refine g_run_i (f := fun u => u) (g_runV (k := 7) [.ref s101] X hK hP hS hC hB (o_reads_y hRd hs101 h2 ht101 hb1) (cwV 1 X.2.2.2.2 gX5_readPart_X5_reads rfl rfl rfl (by decide +kernel) ⟨Nat.le_of_ble_eq_true rfl, Nat.le_of_ble_eq_true rfl⟩) hRd.1.1 rfl rfl hl.1 rfl (Nat.le_of_ble_eq_true rfl) dX5_readPart_8 (by exact ⟨Nat.zero_le _, Nat.zero_le _⟩)) hS (fun r u H locs hq hP hS => ?_)
      obtain ⟨rfl, rfl⟩ := hq
      generalize eJ1 : g2 I rd 0 (nI pl + 1) = J1 at hP
      have hP : gP D cy B z T J1 R H := hP
      have hfJ1 : ∀ c j, ¬ (c = rd ∧ j = 0) → J1 c j = I c j := fun c j h => gs_ne eJ1 h rfl
      have hpnJ1 := sH_in hb1 (by decide)
      have hFt := hFt.trs (fun c j h1 _ => hfJ1 c j h1)
      have hRd : cRd rd tc a T J1 R tp n (pl + 1) := hRd.mv (fun c j h1 _ => hfJ1 c j h1) ((gs_same eJ1).trans (nI_add _ 1)) (by omega)
      have hSr : cSr a J1 cs pd := hSr.k (fun c j g1 g2 => hfJ1 c j (by omega))
      refine lv_if_eq (tgt := 36) X.1 X.2.1 dX5_readPart_11 (by decide) (fun c11 => ?_) (fun c11 => ?_)
      · exact absurd c11 (by decide)
      · have n11 : ¬ 1 = 0 := gq_ne c11 (show (1 : Int32) = nI 1 from rfl) (show (0 : Int32) = nI 0 from rfl) (by omega) (by omega)
        refine lv_aload_n X.1 X.2.1 dX5_readPart_14 rfl (lv_at hl 0 rfl) ?_
        refine lv_iload_n X.1 X.2.1 dX5_readPart_15 rfl (lv_at hl 1 rfl) ?_
        refine lv_iconst (v := 1) X.1 X.2.1 dX5_readPart_16 (by decide) ?_
        refine lv_iadd X.1 X.2.1 dX5_readPart_17 ?_
        refine g_run_i (f := fun u => u) (g_runV (k := 7) [.int (0 + 1)] X hK hP hS hC hB (o_part_4 hRd hstr hSr (by omega) (by omega)) (cwV 1 X.2.2.2.2 gX5_readPart_X5_readPart rfl rfl rfl (by decide +kernel) ⟨Nat.le_of_ble_eq_true rfl, Nat.le_of_ble_eq_true rfl⟩) hRd.1.1 rfl rfl hl.1 rfl (Nat.le_of_ble_eq_true rfl) dX5_readPart_18 (by exact ⟨Nat.zero_le _, Nat.zero_le _⟩)) hS (fun r u H locs hq hP hS => ?_)
        obtain ⟨IN2, pN2, rfl, hfN2, hpN2, hq⟩ := hq
        have hP : gP D cy B z T IN2 R H := hP
        have hwN2 := (pW_fac (tp := tp) (n := n) 4) (false, (pl + 1), flC cs ++ pd) (by show (pl + 1) ≤ n; omega)
        rcases hq with ⟨rfl, pdN2, hEN2, hSN2⟩ | ⟨rfl, LN2, hEN2⟩
        · rw [hEN2] at hwN2
          have hwN2 : (pl + 1) ≤ pN2 ∧ pN2 ≤ n ∧ (flC cs ++ pdN2).length + (pl + 1) ≤ pN2 + (flC cs ++ pd).length := hwN2
          have hcoN2 := co_le (cs := cs) (pd := pdN2)
          have hFt := hFt.trs hfN2
          have hRd : cRd rd tc a T IN2 R tp n pN2 := hRd.mv hfN2 hpN2 hwN2.2.1
          have hSr : cSr a IN2 cs pdN2 := hSN2
          refine lv_if_ne (tgt := 26) X.1 X.2.1 dX5_readPart_21 (by decide) (fun c21 => ?_) (fun c21 => ?_)
          · have n21 : ¬ 1 = 0 := gq_ne c21 (show (1 : Int32) = nI 1 from rfl) (show (0 : Int32) = nI 0 from rfl) (by omega) (by omega)
            refine lv_aload_n X.1 X.2.1 dX5_readPart_26 rfl (lv_at hl 0 rfl) ?_
            refine g_getr 7 3 X hK hP hRd.1.1 rfl hinRX5 rfl (by decide) k31 (fun _ h => h) dX5_readPart_27 (show va_rf (R rd 3) = .ref a from by rw [hRd.1.2.2.1]; rfl) ?_
            refine lv_iconst (v := (-1)) X.1 X.2.1 dX5_readPart_30 (by decide) ?_
            refine g_run_v (f := fun u => u) (g_runV (k := 6) [.int (-1)] X hK hP hS hC hB (o_put hRd.1.2.2.2.2 hSr.2.2.2.1 (by omega)) (cwV 1 X.2.2.2.2 gX5_readPart_X4_put rfl rfl rfl (by decide +kernel) ⟨Nat.le_of_ble_eq_true rfl, Nat.le_of_ble_eq_true rfl⟩) hRd.1.2.2.2.2.1 rfl rfl hl.1 rfl (Nat.le_of_ble_eq_true rfl) dX5_readPart_31 (by exact ⟨Nat.zero_le _, Nat.zero_le _⟩)) hS (fun u H locs hq hP hS => ?_)
            subst hq
            generalize eJ3 : g2 IN2 (a + 4) ((coC cs ++ pdN2).length) (-1) = J3 at hP
            generalize eJ4 : g2 J3 a 7 (nI ((coC cs ++ pdN2).length) + 1) = J4 at hP
            have hP : gP D cy B z T J4 R H := hP
            have hFt := hFt.trs (fun c j h1 h2 => gs_ne eJ4 (by omega) (gs_ne eJ3 (by omega) rfl))
            have hRd : cRd rd tc a T J4 R tp n pN2 := hRd.mv (fun c j h1 h2 => gs_ne eJ4 (by omega) (gs_ne eJ3 (by omega) rfl)) (gs_ne eJ4 (by omega) (gs_ne eJ3 (by omega) hRd.2.2.2.1)) (by omega)
            have hSr : cSr a J4 cs (pdN2 ++ [10000]) := hSr.push (by omega) (by omega) rfl eJ3 eJ4
            have hflJ4 := fl1 (cs := cs) (pd := pdN2) (t := 10000)
            refine lv_iconst (v := 1) X.1 X.2.1 dX5_readPart_34 (by decide) ?_
            exact g_zret (f := fun u => u) (z, T, J4, R) X hr hlk hK hP hS dX5_readPart_35 rfl ⟨J4, pN2, rfl, hFt, hRd.2.2.2.1, Or.inl ⟨rfl, _, ((pFac_n (d := 4) hb1).trans (by rw [hEN2, pEm_f, List.append_assoc])), hSr⟩⟩
          · exact absurd c21 (by decide)
        · rw [hEN2] at hwN2
          have hwN2 : (pl + 1) ≤ pN2 ∧ pN2 ≤ n := ⟨hwN2.1, hwN2.2.1⟩
          have hFt := hFt.trs hfN2
          refine lv_if_ne (tgt := 26) X.1 X.2.1 dX5_readPart_21 (by decide) (fun c21 => ?_) (fun c21 => ?_)
          · exact absurd rfl c21
          · have n21 : 0 = 0 := gq_eq c21 (show (0 : Int32) = nI 0 from rfl) (show (0 : Int32) = nI 0 from rfl) (by omega) (by omega)
            refine lv_iconst (v := 0) X.1 X.2.1 dX5_readPart_24 (by decide) ?_
            exact g_zret (f := fun u => u) (z, T, IN2, R) X hr hlk hK hP hS dX5_readPart_25 rfl ⟨IN2, pN2, rfl, hFt, hpN2, Or.inr ⟨rfl, LN2, ((pFac_n (d := 4) hb1).trans (by rw [hEN2, pEm_tr]))⟩⟩
  · by_cases hb2 : sH tp n pl = 40
    · refine lv_iload_n X.1 X.2.1 dX5_readPart_0 rfl (lv_at hl 1 rfl) ?_
      refine lv_iconst (v := 5) X.1 X.2.1 dX5_readPart_1 (by decide) ?_
      refine lv_icmp_ge (tgt := 36) X.1 X.2.1 dX5_readPart_2 (by decide) (fun c2 => ?_) (fun c2 => ?_)
      · exact absurd c2 (by decide)
      · have n2 : 0 < 5 := gq_nle c2 (show (5 : Int32) = nI 5 from rfl) (show (0 : Int32) = nI 0 from rfl) (by omega) (by omega)
        refine lv_aload_n X.1 X.2.1 dX5_readPart_5 rfl (lv_at hl 0 rfl) ?_
        refine va_ldcS X.1 X.2.1 X.2.2.2.1 (vk_R.warm hC.1 hR101) dX5_readPart_6 ?_
        refine g_run_i (f := fun u => u) (g_runV (k := 7) [.ref s101] X hK hP hS hC hB (o_reads_n hRd hs101 h2 ht101 hb1) (cwV 1 X.2.2.2.2 gX5_readPart_X5_reads rfl rfl rfl (by decide +kernel) ⟨Nat.le_of_ble_eq_true rfl, Nat.le_of_ble_eq_true rfl⟩) hRd.1.1 rfl rfl hl.1 rfl (Nat.le_of_ble_eq_true rfl) dX5_readPart_8 (by exact ⟨Nat.zero_le _, Nat.zero_le _⟩)) hS (fun r u H locs hq hP hS => ?_)
        obtain ⟨rfl, rfl⟩ := hq
        have hP : gP D cy B z T I R H := hP
        refine lv_if_eq (tgt := 36) X.1 X.2.1 dX5_readPart_11 (by decide) (fun c11 => ?_) (fun c11 => ?_)
        · have n11 : 0 = 0 := gq_eq c11 (show (0 : Int32) = nI 0 from rfl) (show (0 : Int32) = nI 0 from rfl) (by omega) (by omega)
          refine lv_iload_n X.1 X.2.1 dX5_readPart_36 rfl (lv_at hl 1 rfl) ?_
          refine lv_iconst (v := 5) X.1 X.2.1 dX5_readPart_37 (by decide) ?_
          refine lv_icmp_ge (tgt := 75) X.1 X.2.1 dX5_readPart_38 (by decide) (fun c38 => ?_) (fun c38 => ?_)
          · exact absurd c38 (by decide)
          · have n38 : 0 < 5 := gq_nle c38 (show (5 : Int32) = nI 5 from rfl) (show (0 : Int32) = nI 0 from rfl) (by omega) (by omega)
            refine lv_aload_n X.1 X.2.1 dX5_readPart_41 rfl (lv_at hl 0 rfl) ?_
            refine va_ldcS X.1 X.2.1 X.2.2.2.1 (vk_R.warm hC.1 hR103) dX5_readPart_42 ?_
            refine g_run_i (f := fun u => u) (g_runV (k := 7) [.ref s103] X hK hP hS hC hB (o_reads_y hRd hs103 h2 ht103 hb2) (cwV 1 X.2.2.2.2 gX5_readPart_X5_reads rfl rfl rfl (by decide +kernel) ⟨Nat.le_of_ble_eq_true rfl, Nat.le_of_ble_eq_true rfl⟩) hRd.1.1 rfl rfl hl.1 rfl (Nat.le_of_ble_eq_true rfl) dX5_readPart_44 (by exact ⟨Nat.zero_le _, Nat.zero_le _⟩)) hS (fun r u H locs hq hP hS => ?_)
            obtain ⟨rfl, rfl⟩ := hq
            generalize eJ5 : g2 I rd 0 (nI pl + 1) = J5 at hP
            have hP : gP D cy B z T J5 R H := hP
            have hfJ5 : ∀ c j, ¬ (c = rd ∧ j = 0) → J5 c j = I c j := fun c j h => gs_ne eJ5 h rfl
            have hpnJ5 := sH_in hb2 (by decide)
            have hFt := hFt.trs (fun c j h1 _ => hfJ5 c j h1)
            have hRd : cRd rd tc a T J5 R tp n (pl + 1) := hRd.mv (fun c j h1 _ => hfJ5 c j h1) ((gs_same eJ5).trans (nI_add _ 1)) (by omega)
            have hSr : cSr a J5 cs pd := hSr.k (fun c j g1 g2 => hfJ5 c j (by omega))
            refine lv_if_eq (tgt := 75) X.1 X.2.1 dX5_readPart_47 (by decide) (fun c47 => ?_) (fun c47 => ?_)
            · exact absurd c47 (by decide)
            · have n47 : ¬ 1 = 0 := gq_ne c47 (show (1 : Int32) = nI 1 from rfl) (show (0 : Int32) = nI 0 from rfl) (by omega) (by omega)
              refine lv_aload_n X.1 X.2.1 dX5_readPart_50 rfl (lv_at hl 0 rfl) ?_
              refine lv_iload_n X.1 X.2.1 dX5_readPart_51 rfl (lv_at hl 1 rfl) ?_
              refine lv_iconst (v := 1) X.1 X.2.1 dX5_readPart_52 (by decide) ?_
              refine lv_iadd X.1 X.2.1 dX5_readPart_53 ?_
              refine g_run_i (f := fun u => u) (g_runV (k := 7) [.int (0 + 1)] X hK hP hS hC hB (o_either_4 hRd hstr hSr (by omega) (by omega)) (cwV 1 X.2.2.2.2 gX5_readPart_X5_readEither rfl rfl rfl (by decide +kernel) ⟨Nat.le_of_ble_eq_true rfl, Nat.le_of_ble_eq_true rfl⟩) hRd.1.1 rfl rfl hl.1 rfl (Nat.le_of_ble_eq_true rfl) dX5_readPart_54 (by exact ⟨Nat.zero_le _, Nat.zero_le _⟩)) hS (fun r u H locs hq hP hS => ?_)
              obtain ⟨IN6, pN6, rfl, hfN6, hpN6, hq⟩ := hq
              have hP : gP D cy B z T IN6 R H := hP
              have hwN6 := (pW_some (tp := tp) (pW_fac (tp := tp) (n := n) 4)) (false, (pl + 1), flC cs ++ pd) (by show (pl + 1) ≤ n; omega)
              rcases hq with ⟨rfl, pdN6, hEN6, hSN6⟩ | ⟨rfl, LN6, hEN6⟩
              · rw [hEN6] at hwN6
                have hwN6 : (pl + 1) ≤ pN6 ∧ pN6 ≤ n ∧ (flC cs ++ pdN6).length + (pl + 1) ≤ pN6 + (flC cs ++ pd).length := hwN6
                have hcoN6 := co_le (cs := cs) (pd := pdN6)
                have hFt := hFt.trs hfN6
                have hRd : cRd rd tc a T IN6 R tp n pN6 := hRd.mv hfN6 hpN6 hwN6.2.1
                have hSr : cSr a IN6 cs pdN6 := hSN6
                by_cases hb3 : sH tp n pN6 = 41
                · refine lv_if_eq (tgt := 73) X.1 X.2.1 dX5_readPart_57 (by decide) (fun c57 => ?_) (fun c57 => ?_)
                  · exact absurd c57 (by decide)
                  · have n57 : ¬ 1 = 0 := gq_ne c57 (show (1 : Int32) = nI 1 from rfl) (show (0 : Int32) = nI 0 from rfl) (by omega) (by omega)
                    refine lv_aload_n X.1 X.2.1 dX5_readPart_60 rfl (lv_at hl 0 rfl) ?_
                    refine va_ldcS X.1 X.2.1 X.2.2.2.1 (vk_R.warm hC.1 hR105) dX5_readPart_61 ?_
                    refine g_run_i (f := fun u => u) (g_runV (k := 7) [.ref s105] X hK hP hS hC hB (o_reads_y hRd hs105 h2 ht105 hb3) (cwV 1 X.2.2.2.2 gX5_readPart_X5_reads rfl rfl rfl (by decide +kernel) ⟨Nat.le_of_ble_eq_true rfl, Nat.le_of_ble_eq_true rfl⟩) hRd.1.1 rfl rfl hl.1 rfl (Nat.le_of_ble_eq_true rfl) dX5_readPart_63 (by exact ⟨Nat.zero_le _, Nat.zero_le _⟩)) hS (fun r u H locs hq hP hS => ?_)
                    obtain ⟨rfl, rfl⟩ := hq
                    generalize eJ7 : g2 IN6 rd 0 (nI pN6 + 1) = J7 at hP
                    have hP : gP D cy B z T J7 R H := hP
                    have hfJ7 : ∀ c j, ¬ (c = rd ∧ j = 0) → J7 c j = IN6 c j := fun c j h => gs_ne eJ7 h rfl
                    have hpnJ7 := sH_in hb3 (by decide)
                    have hFt := hFt.trs (fun c j h1 _ => hfJ7 c j h1)
                    have hRd : cRd rd tc a T J7 R tp n (pN6 + 1) := hRd.mv (fun c j h1 _ => hfJ7 c j h1) ((gs_same eJ7).trans (nI_add _ 1)) (by omega)
                    have hSr : cSr a J7 cs pdN6 := hSr.k (fun c j g1 g2 => hfJ7 c j (by omega))
                    refine lv_if_eq (tgt := 73) X.1 X.2.1 dX5_readPart_66 (by decide) (fun c66 => ?_) (fun c66 => ?_)
                    · exact absurd c66 (by decide)
                    · have n66 : ¬ 1 = 0 := gq_ne c66 (show (1 : Int32) = nI 1 from rfl) (show (0 : Int32) = nI 0 from rfl) (by omega) (by omega)
                      refine lv_iconst (v := 1) X.1 X.2.1 dX5_readPart_69 (by decide) ?_
                      refine lv_goto (tgt := 74) X.1 X.2.1 dX5_readPart_70 (by decide) ?_
                      exact g_zret (f := fun u => u) (z, T, J7, R) X hr hlk hK hP hS dX5_readPart_74 rfl ⟨J7, (pN6 + 1), rfl, hFt, hRd.2.2.2.1, Or.inl ⟨rfl, _, ((pFac_p (d := 4) hb2).trans (by rw [hEN6]; exact pMust_y hb3)), hSr⟩⟩
                · refine lv_if_eq (tgt := 73) X.1 X.2.1 dX5_readPart_57 (by decide) (fun c57 => ?_) (fun c57 => ?_)
                  · exact absurd c57 (by decide)
                  · have n57 : ¬ 1 = 0 := gq_ne c57 (show (1 : Int32) = nI 1 from rfl) (show (0 : Int32) = nI 0 from rfl) (by omega) (by omega)
                    refine lv_aload_n X.1 X.2.1 dX5_readPart_60 rfl (lv_at hl 0 rfl) ?_
                    refine va_ldcS X.1 X.2.1 X.2.2.2.1 (vk_R.warm hC.1 hR105) dX5_readPart_61 ?_
                    refine g_run_i (f := fun u => u) (g_runV (k := 7) [.ref s105] X hK hP hS hC hB (o_reads_n hRd hs105 h2 ht105 hb3) (cwV 1 X.2.2.2.2 gX5_readPart_X5_reads rfl rfl rfl (by decide +kernel) ⟨Nat.le_of_ble_eq_true rfl, Nat.le_of_ble_eq_true rfl⟩) hRd.1.1 rfl rfl hl.1 rfl (Nat.le_of_ble_eq_true rfl) dX5_readPart_63 (by exact ⟨Nat.zero_le _, Nat.zero_le _⟩)) hS (fun r u H locs hq hP hS => ?_)
                    obtain ⟨rfl, rfl⟩ := hq
                    have hP : gP D cy B z T IN6 R H := hP
                    refine lv_if_eq (tgt := 73) X.1 X.2.1 dX5_readPart_66 (by decide) (fun c66 => ?_) (fun c66 => ?_)
                    · have n66 : 0 = 0 := gq_eq c66 (show (0 : Int32) = nI 0 from rfl) (show (0 : Int32) = nI 0 from rfl) (by omega) (by omega)
                      refine lv_iconst (v := 0) X.1 X.2.1 dX5_readPart_73 (by decide) ?_
                      exact g_zret (f := fun u => u) (z, T, IN6, R) X hr hlk hK hP hS dX5_readPart_74 rfl ⟨IN6, pN6, rfl, hFt, hRd.2.2.2.1, Or.inr ⟨rfl, _, ((pFac_p (d := 4) hb2).trans (by rw [hEN6]; exact pMust_n hb3))⟩⟩
                    · exact absurd rfl c66
              · rw [hEN6] at hwN6
                have hwN6 : (pl + 1) ≤ pN6 ∧ pN6 ≤ n := ⟨hwN6.1, hwN6.2.1⟩
                have hFt := hFt.trs hfN6
                refine lv_if_eq (tgt := 73) X.1 X.2.1 dX5_readPart_57 (by decide) (fun c57 => ?_) (fun c57 => ?_)
                · have n57 : 0 = 0 := gq_eq c57 (show (0 : Int32) = nI 0 from rfl) (show (0 : Int32) = nI 0 from rfl) (by omega) (by omega)
                  refine lv_iconst (v := 0) X.1 X.2.1 dX5_readPart_73 (by decide) ?_
                  exact g_zret (f := fun u => u) (z, T, IN6, R) X hr hlk hK hP hS dX5_readPart_74 rfl ⟨IN6, pN6, rfl, hFt, hpN6, Or.inr ⟨rfl, LN6, ((pFac_p (d := 4) hb2).trans (by rw [hEN6]; exact pMust_t))⟩⟩
                · exact absurd rfl c57
        · exact absurd rfl c11
    · refine lv_iload_n X.1 X.2.1 dX5_readPart_0 rfl (lv_at hl 1 rfl) ?_
      refine lv_iconst (v := 5) X.1 X.2.1 dX5_readPart_1 (by decide) ?_
      refine lv_icmp_ge (tgt := 36) X.1 X.2.1 dX5_readPart_2 (by decide) (fun c2 => ?_) (fun c2 => ?_)
      · exact absurd c2 (by decide)
      · have n2 : 0 < 5 := gq_nle c2 (show (5 : Int32) = nI 5 from rfl) (show (0 : Int32) = nI 0 from rfl) (by omega) (by omega)
        refine lv_aload_n X.1 X.2.1 dX5_readPart_5 rfl (lv_at hl 0 rfl) ?_
        refine va_ldcS X.1 X.2.1 X.2.2.2.1 (vk_R.warm hC.1 hR101) dX5_readPart_6 ?_
        refine g_run_i (f := fun u => u) (g_runV (k := 7) [.ref s101] X hK hP hS hC hB (o_reads_n hRd hs101 h2 ht101 hb1) (cwV 1 X.2.2.2.2 gX5_readPart_X5_reads rfl rfl rfl (by decide +kernel) ⟨Nat.le_of_ble_eq_true rfl, Nat.le_of_ble_eq_true rfl⟩) hRd.1.1 rfl rfl hl.1 rfl (Nat.le_of_ble_eq_true rfl) dX5_readPart_8 (by exact ⟨Nat.zero_le _, Nat.zero_le _⟩)) hS (fun r u H locs hq hP hS => ?_)
        obtain ⟨rfl, rfl⟩ := hq
        have hP : gP D cy B z T I R H := hP
        refine lv_if_eq (tgt := 36) X.1 X.2.1 dX5_readPart_11 (by decide) (fun c11 => ?_) (fun c11 => ?_)
        · have n11 : 0 = 0 := gq_eq c11 (show (0 : Int32) = nI 0 from rfl) (show (0 : Int32) = nI 0 from rfl) (by omega) (by omega)
          refine lv_iload_n X.1 X.2.1 dX5_readPart_36 rfl (lv_at hl 1 rfl) ?_
          refine lv_iconst (v := 5) X.1 X.2.1 dX5_readPart_37 (by decide) ?_
          refine lv_icmp_ge (tgt := 75) X.1 X.2.1 dX5_readPart_38 (by decide) (fun c38 => ?_) (fun c38 => ?_)
          · exact absurd c38 (by decide)
          · have n38 : 0 < 5 := gq_nle c38 (show (5 : Int32) = nI 5 from rfl) (show (0 : Int32) = nI 0 from rfl) (by omega) (by omega)
            refine lv_aload_n X.1 X.2.1 dX5_readPart_41 rfl (lv_at hl 0 rfl) ?_
            refine va_ldcS X.1 X.2.1 X.2.2.2.1 (vk_R.warm hC.1 hR103) dX5_readPart_42 ?_
            refine g_run_i (f := fun u => u) (g_runV (k := 7) [.ref s103] X hK hP hS hC hB (o_reads_n hRd hs103 h2 ht103 hb2) (cwV 1 X.2.2.2.2 gX5_readPart_X5_reads rfl rfl rfl (by decide +kernel) ⟨Nat.le_of_ble_eq_true rfl, Nat.le_of_ble_eq_true rfl⟩) hRd.1.1 rfl rfl hl.1 rfl (Nat.le_of_ble_eq_true rfl) dX5_readPart_44 (by exact ⟨Nat.zero_le _, Nat.zero_le _⟩)) hS (fun r u H locs hq hP hS => ?_)
            obtain ⟨rfl, rfl⟩ := hq
            have hP : gP D cy B z T I R H := hP
            refine lv_if_eq (tgt := 75) X.1 X.2.1 dX5_readPart_47 (by decide) (fun c47 => ?_) (fun c47 => ?_)
            · have n47 : 0 = 0 := gq_eq c47 (show (0 : Int32) = nI 0 from rfl) (show (0 : Int32) = nI 0 from rfl) (by omega) (by omega)
              refine lv_aload_n X.1 X.2.1 dX5_readPart_75 rfl (lv_at hl 0 rfl) ?_
              refine g_run_i (f := fun u => u) (g_runV (k := 7) [] X hK hP hS hC hB (o_test hRd hstr hSr (by omega)) (cwV 0 X.2.2.2.2 gX5_readPart_X5_readTest rfl rfl rfl (by decide +kernel) ⟨Nat.le_of_ble_eq_true rfl, Nat.le_of_ble_eq_true rfl⟩) hRd.1.1 rfl rfl hl.1 rfl (Nat.le_of_ble_eq_true rfl) dX5_readPart_76 (by exact ⟨Nat.zero_le _, Nat.zero_le _⟩)) hS (fun r u H locs hq hP hS => ?_)
              obtain ⟨IN8, pN8, rfl, hfN8, hpN8, hq⟩ := hq
              have hP : gP D cy B z T IN8 R H := hP
              have hwN8 := pW_atom (tp := tp) (n := n) (false, pl, flC cs ++ pd) (by show pl ≤ n; omega)
              rcases hq with ⟨rfl, pdN8, hEN8, hSN8⟩ | ⟨rfl, LN8, hEN8⟩
              · rw [hEN8] at hwN8
                have hwN8 : pl ≤ pN8 ∧ pN8 ≤ n ∧ (flC cs ++ pdN8).length + pl ≤ pN8 + (flC cs ++ pd).length := hwN8
                have hcoN8 := co_le (cs := cs) (pd := pdN8)
                have hFt := hFt.trs hfN8
                have hRd : cRd rd tc a T IN8 R tp n pN8 := hRd.mv hfN8 hpN8 hwN8.2.1
                have hSr : cSr a IN8 cs pdN8 := hSN8
                exact g_zret (f := fun u => u) (z, T, IN8, R) X hr hlk hK hP hS dX5_readPart_79 rfl ⟨IN8, pN8, rfl, hFt, hRd.2.2.2.1, Or.inl ⟨rfl, _, ((pFac_a hb1 hb2 5).trans hEN8), hSr⟩⟩
              · rw [hEN8] at hwN8
                have hwN8 : pl ≤ pN8 ∧ pN8 ≤ n := ⟨hwN8.1, hwN8.2.1⟩
                have hFt := hFt.trs hfN8
                exact g_zret (f := fun u => u) (z, T, IN8, R) X hr hlk hK hP hS dX5_readPart_79 rfl ⟨IN8, pN8, rfl, hFt, hpN8, Or.inr ⟨rfl, LN8, ((pFac_a hb1 hb2 5).trans hEN8)⟩⟩
            · exact absurd rfl c47
        · exact absurd rfl c11

set_option maxHeartbeats 4000000 in
set_option maxRecDepth 100000 in
/-- o_either_5 -/
theorem o_either_5 (hRd : cRd rd tc a T I R tp n pl) (hstr : gStr s0 B) (hSr : cSr a I cs pd) (hLp : (flC cs ++ pd).length ≤ pl) (hp2 : 2 ≤ pl) : Met l yX5_readEither wsX5_readEither ({ frames := 18, cells := 0, slots := 0, locals := 399 }) (va_Pc [.ref rd, .int 0] (gW0 s0 D cy B (z, T, I, R))) (va_Qi (fun r u => ∃ I' p', u = (z, T, I', R) ∧ rFr rd a I I' ∧ I' rd 0 = nI p' ∧ ((r = 1 ∧ ∃ pd', pSome tp n (pFac tp n 5) (false, pl, flC cs ++ pd) = (false, p', flC cs ++ pd') ∧ cSr a I' cs pd') ∨ (r = 0 ∧ ∃ L', pSome tp n (pFac tp n 5) (false, pl, flC cs ++ pd) = (true, p', L')))) (fun u t => gW1 D cy B u t) (gA B)) 0 0 (gA B) := by
  refine g_met (maxL := 4) (ret := (some .boolean)) (by decide) rfl (Nat.le_of_ble_eq_true rfl) (fun p e s m args below meth c ls X hr hlk hnm hK hP hC hS hl => ?_)
  have hl : lv_has ls 4 [(0, .ref rd), (1, .int 0)] := hl
  have hP : gP D cy B z T I R s.heap := hP
  have hB : B ≤ s.heap.size := by rw [hP.1]; exact hP.2.1
  have hinRX5 : ∀ w ∈ wsX50, w ∈ wsX5_readEither := fun _ h => List.mem_cons_of_mem _ (List.mem_append_left _ (List.mem_append_right _ h))
  have k31 : Cond.fieldLink RX5 31 "BarrowPlank$SiteReader" "draft" "LBarrowPlank$Site;" ∈ wsX5_readEither := by decide +kernel
  have hn100 := hRd.2.2.1.1
  have hpn := hRd.2.2.1.2.1
  have htp := hRd.2.2.1.2.2
  have hrda := hRd.2.1.1
  have htca := hRd.2.1.2.1
  have hrdt := hRd.2.1.2.2
  have h2 : gSt2 s0 B := hstr.1
  obtain ⟨s97, q97, hR97, hs97, ht97⟩ := hstr.at 20 rfl
  have hs97 : gSo s0 B [38] s97 q97 := hs97
  have ht97 : gTx [38] := ht97
  obtain ⟨s99, q99, hR99, hs99, ht99⟩ := hstr.at 21 rfl
  have hs99 : gSo s0 B [124] s99 q99 := hs99
  have ht99 : gTx [124] := ht99
  have hFt : rFr rd a I I := rFr.rf
  refine lv_iconst (v := 0) X.1 X.2.1 dX5_readEither_0 (by decide) ?_
  refine lv_istore_n (lv' := [(2, .int 0), (0, .ref rd), (1, .int 0)]) X.1 X.2.1 dX5_readEither_1 rfl hl (by decide) rfl (fun ls hl => ?_)
  refine i_loop (I := I) 100 2 [] (fun k Q9 ls => (∃ pk pdk, rFr rd a I Q9 ∧ cRd rd tc a T Q9 R tp n pk ∧ cSr a Q9 cs pdk ∧ ((flC cs ++ pdk).length + min k 1 ≤ pk ∧ 2 + k ≤ pk) ∧ pSome tp n (pFac tp n 5) (false, pl, flC cs ++ pd) = pLoop tp n 124 10002 (pEvery tp n (pFac tp n 5)) (101 - k) (pEk k 10002 (pEvery tp n (pFac tp n 5) (false, pk, flC cs ++ pdk)))) ∧ lv_has ls 4 [(0, .ref rd), (1, .int 0), (2, .int (nI k))]) 0 (by omega) ⟨⟨pl, pd, rFr.rf, hRd, hSr, ⟨by omega, by omega⟩, (by rw [pEk_0 rfl]; rfl)⟩, lv_sub hl [1, 2, 0] rfl⟩ hP hS (fun k Q9 H locs ls hk hiv hP hS ih => ?_)
  obtain ⟨⟨pk, pdk, hFt, hRd, hSr, ⟨hLk, hpk⟩, hSo⟩, hl⟩ := hiv
  have hpkn := hRd.2.2.1.2.1
  refine lv_iconst (v := 0) X.1 X.2.1 dX5_readEither_2 (by decide) ?_
  refine lv_istore_n (lv' := [(3, .int 0), (0, .ref rd), (1, .int 0), (2, .int (nI k))]) X.1 X.2.1 dX5_readEither_3 rfl hl (by decide) rfl (fun ls hl => ?_)
  refine i_loop (I := Q9) 100 4 [] (fun j Q8 ls => (∃ pj pdj, rFr rd a I Q8 ∧ cRd rd tc a T Q8 R tp n pj ∧ cSr a Q8 cs pdj ∧ ((flC cs ++ pdj).length + min k 1 + min j 1 ≤ pj ∧ 2 + k + j ≤ pj) ∧ pEvery tp n (pFac tp n 5) (false, pk, flC cs ++ pdk) = pLoop tp n 38 10001 (pFac tp n 5) (101 - j) (pEk j 10001 ((pFac tp n 5) (false, pj, flC cs ++ pdj)))) ∧ lv_has ls 4 [(0, .ref rd), (1, .int 0), (2, .int (nI k)), (3, .int (nI j))]) 0 (by omega) ⟨⟨pk, pdk, hFt, hRd, hSr, ⟨by omega, by omega⟩, (by rw [pEk_0 rfl]; rfl)⟩, lv_sub hl [1, 2, 3, 0] rfl⟩ hP hS (fun j Q8 H locs ls hj hij hP hS ih2 => ?_)
  obtain ⟨⟨pj, pdj, hFt, hRd, hSr, ⟨hLj, hpj⟩, hEv⟩, hl⟩ := hij
  have hpjn := hRd.2.2.1.2.1
  refine lv_aload_n X.1 X.2.1 dX5_readEither_4 rfl (lv_at hl 0 rfl) ?_
  refine lv_iload_n X.1 X.2.1 dX5_readEither_5 rfl (lv_at hl 1 rfl) ?_
  refine g_run_i (f := fun u => u) (g_runV (k := 7) [.int 0] X hK hP hS hC hB (o_part_5 hRd hstr hSr (by omega) (by omega)) (cwV 1 X.2.2.2.2 gX5_readEither_X5_readPart rfl rfl rfl (by decide +kernel) ⟨Nat.le_of_ble_eq_true rfl, Nat.le_of_ble_eq_true rfl⟩) hRd.1.1 rfl rfl hl.1 rfl (Nat.le_of_ble_eq_true rfl) dX5_readEither_6 (by exact ⟨Nat.zero_le _, Nat.zero_le _⟩)) hS (fun r u H locs hq hP hS => ?_)
  obtain ⟨IN1, pN1, rfl, hfN1, hpN1, hq⟩ := hq
  have hP : gP D cy B z T IN1 R H := hP
  have hwN1 := (pW_fac (tp := tp) (n := n) 5) (false, pj, flC cs ++ pdj) (by show pj ≤ n; omega)
  rcases hq with ⟨rfl, pdN1, hEN1, hSN1⟩ | ⟨rfl, LN1, hEN1⟩
  · rw [hEN1] at hwN1
    have hwN1 : pj ≤ pN1 ∧ pN1 ≤ n ∧ (flC cs ++ pdN1).length + pj ≤ pN1 + (flC cs ++ pdj).length := hwN1
    have hcoN1 := co_le (cs := cs) (pd := pdN1)
    have hFt := hFt.trs hfN1
    have hRd : cRd rd tc a T IN1 R tp n pN1 := hRd.mv hfN1 hpN1 hwN1.2.1
    have hSr : cSr a IN1 cs pdN1 := hSN1
    refine lv_if_ne (tgt := 14) X.1 X.2.1 dX5_readEither_9 (by decide) (fun c9 => ?_) (fun c9 => ?_)
    · have n9 : ¬ 1 = 0 := gq_ne c9 (show (1 : Int32) = nI 1 from rfl) (show (0 : Int32) = nI 0 from rfl) (by omega) (by omega)
      refine lv_iload_n X.1 X.2.1 dX5_readEither_14 rfl (lv_at hl 3 rfl) ?_
      refine lv_if_le (tgt := 27) X.1 X.2.1 dX5_readEither_15 (by decide) (fun c15 => ?_) (fun c15 => ?_)
      · have n15 : j ≤ 0 := gq_le c15 (Eq.refl (nI j)) (show (0 : Int32) = nI 0 from rfl) (by omega) (by omega)
        refine lv_iinc (v := nI (j + 1)) (lv' := [(3, .int (nI (j + 1))), (0, .ref rd), (1, .int 0), (2, .int (nI k))]) X.1 X.2.1 dX5_readEither_27 hl (k := 3) rfl (gn_inc (Eq.refl (nI j)) 1) (by decide) rfl (fun ls hl => ?_)
        refine lv_iload_n X.1 X.2.1 dX5_readEither_30 rfl (lv_at hl 0 rfl) ?_
        refine lv_bipush (v := 100) X.1 X.2.1 dX5_readEither_31 (by decide) ?_
        refine lv_icmp_ge (tgt := 45) X.1 X.2.1 dX5_readEither_33 (by decide) (fun c33 => ?_) (fun c33 => ?_)
        · exact absurd (gq_le c33 (show (100 : Int32) = nI 100 from rfl) (Eq.refl (nI (j + 1))) (by omega) (by omega)) (by omega)
        · have n33 : (j + 1) < 100 := gq_nle c33 (show (100 : Int32) = nI 100 from rfl) (Eq.refl (nI (j + 1))) (by omega) (by omega)
          refine lv_aload_n X.1 X.2.1 dX5_readEither_36 rfl (lv_at hl 1 rfl) ?_
          refine va_ldcS X.1 X.2.1 X.2.2.2.1 (vk_R.warm hC.1 hR97) dX5_readEither_37 ?_
          have hX : pEk j 10001 ((pFac tp n 5) (false, pj, flC cs ++ pdj)) = (false, pN1, flC cs ++ pdN1) := (pEk_0 (by omega)).trans hEN1
          have hEv2 : pEvery tp n (pFac tp n 5) (false, pk, flC cs ++ pdk) = pLoop tp n 38 10001 (pFac tp n 5) (101 - j) (false, pN1, flC cs ++ pdN1) := by rw [hEv, hX]
          by_cases h38 : sH tp n pN1 = 38
          · refine g_run_i (f := fun u => u) (g_runV (k := 7) [.ref s97] X hK hP hS hC hB (o_reads_y hRd hs97 h2 ht97 h38) (cwV 1 X.2.2.2.2 gX5_readEither_X5_reads rfl rfl rfl (by decide +kernel) ⟨Nat.le_of_ble_eq_true rfl, Nat.le_of_ble_eq_true rfl⟩) hRd.1.1 rfl rfl hl.1 rfl (Nat.le_of_ble_eq_true rfl) dX5_readEither_39 (by exact ⟨Nat.zero_le _, Nat.zero_le _⟩)) hS (fun r u H locs hq hP hS => ?_)
            obtain ⟨rfl, rfl⟩ := hq
            generalize eJ2 : g2 IN1 rd 0 (nI pN1 + 1) = J2 at hP
            have hP : gP D cy B z T J2 R H := hP
            have hfJ2 : ∀ c j, ¬ (c = rd ∧ j = 0) → J2 c j = IN1 c j := fun c j h => gs_ne eJ2 h rfl
            have hpnJ2 := sH_in h38 (by decide)
            have hFt := hFt.trs (fun c j h1 _ => hfJ2 c j h1)
            have hRd : cRd rd tc a T J2 R tp n (pN1 + 1) := hRd.mv (fun c j h1 _ => hfJ2 c j h1) ((gs_same eJ2).trans (nI_add _ 1)) (by omega)
            have hSr : cSr a J2 cs pdN1 := hSr.k (fun c j g1 g2 => hfJ2 c j (by omega))
            refine lv_if_ne (tgt := 4) X.1 X.2.1 dX5_readEither_42 (by decide) (fun c42 => ?_) (fun c42 => ?_)
            · have n42 : ¬ 1 = 0 := gq_ne c42 (show (1 : Int32) = nI 1 from rfl) (show (0 : Int32) = nI 0 from rfl) (by omega) (by omega)
              exact ih2 _ _ _ _ (by omega) ⟨⟨(pN1 + 1), pdN1, hFt, hRd, hSr, ⟨by omega, by omega⟩, hEv2.trans ((pLoop_go (by omega) ⟨rfl, h38⟩).trans (by rw [pEk_s (by omega)]))⟩, lv_sub hl [1, 2, 3, 0] rfl⟩ hP hS
            · exact absurd c42 (by decide)
          · have hEv3 : pEvery tp n (pFac tp n 5) (false, pk, flC cs ++ pdk) = (false, pN1, flC cs ++ pdN1) := hEv2.trans (pLoop_stop (fun h => h38 h.2))
            have hco9 := co_le (cs := cs) (pd := pdN1)
            refine g_run_i (f := fun u => u) (g_runV (k := 7) [.ref s97] X hK hP hS hC hB (o_reads_n hRd hs97 h2 ht97 h38) (cwV 1 X.2.2.2.2 gX5_readEither_X5_reads rfl rfl rfl (by decide +kernel) ⟨Nat.le_of_ble_eq_true rfl, Nat.le_of_ble_eq_true rfl⟩) hRd.1.1 rfl rfl hl.1 rfl (Nat.le_of_ble_eq_true rfl) dX5_readEither_39 (by exact ⟨Nat.zero_le _, Nat.zero_le _⟩)) hS (fun r u H locs hq hP hS => ?_)
            obtain ⟨rfl, rfl⟩ := hq
            have hP : gP D cy B z T IN1 R H := hP
            refine lv_if_ne (tgt := 4) X.1 X.2.1 dX5_readEither_42 (by decide) (fun c42 => ?_) (fun c42 => ?_)
            · exact absurd rfl c42
            · have n42 : 0 = 0 := gq_eq c42 (show (0 : Int32) = nI 0 from rfl) (show (0 : Int32) = nI 0 from rfl) (by omega) (by omega)
              refine lv_iload_n X.1 X.2.1 dX5_readEither_45 rfl (lv_at hl 3 rfl) ?_
              refine lv_if_le (tgt := 58) X.1 X.2.1 dX5_readEither_46 (by decide) (fun c46 => ?_) (fun c46 => ?_)
              · have n46 : k ≤ 0 := gq_le c46 (Eq.refl (nI k)) (show (0 : Int32) = nI 0 from rfl) (by omega) (by omega)
                refine lv_iinc (v := nI (k + 1)) (lv' := [(2, .int (nI (k + 1))), (3, .int (nI (j + 1))), (0, .ref rd), (1, .int 0)]) X.1 X.2.1 dX5_readEither_58 hl (k := 3) rfl (gn_inc (Eq.refl (nI k)) 1) (by decide) rfl (fun ls hl => ?_)
                refine lv_iload_n X.1 X.2.1 dX5_readEither_61 rfl (lv_at hl 0 rfl) ?_
                refine lv_bipush (v := 100) X.1 X.2.1 dX5_readEither_62 (by decide) ?_
                refine lv_icmp_ge (tgt := 76) X.1 X.2.1 dX5_readEither_64 (by decide) (fun c64 => ?_) (fun c64 => ?_)
                · exact absurd (gq_le c64 (show (100 : Int32) = nI 100 from rfl) (Eq.refl (nI (k + 1))) (by omega) (by omega)) (by omega)
                · have n64 : (k + 1) < 100 := gq_nle c64 (show (100 : Int32) = nI 100 from rfl) (Eq.refl (nI (k + 1))) (by omega) (by omega)
                  refine lv_aload_n X.1 X.2.1 dX5_readEither_67 rfl (lv_at hl 2 rfl) ?_
                  refine va_ldcS X.1 X.2.1 X.2.2.2.1 (vk_R.warm hC.1 hR99) dX5_readEither_68 ?_
                  have hY : pEk k 10002 (pEvery tp n (pFac tp n 5) (false, pk, flC cs ++ pdk)) = (false, pN1, flC cs ++ pdN1) := (pEk_0 (by omega)).trans hEv3
                  have hSo2 : pSome tp n (pFac tp n 5) (false, pl, flC cs ++ pd) = pLoop tp n 124 10002 (pEvery tp n (pFac tp n 5)) (101 - k) (false, pN1, flC cs ++ pdN1) := by rw [hSo, hY]
                  by_cases h124 : sH tp n pN1 = 124
                  · refine g_run_i (f := fun u => u) (g_runV (k := 7) [.ref s99] X hK hP hS hC hB (o_reads_y hRd hs99 h2 ht99 h124) (cwV 1 X.2.2.2.2 gX5_readEither_X5_reads rfl rfl rfl (by decide +kernel) ⟨Nat.le_of_ble_eq_true rfl, Nat.le_of_ble_eq_true rfl⟩) hRd.1.1 rfl rfl hl.1 rfl (Nat.le_of_ble_eq_true rfl) dX5_readEither_70 (by exact ⟨Nat.zero_le _, Nat.zero_le _⟩)) hS (fun r u H locs hq hP hS => ?_)
                    obtain ⟨rfl, rfl⟩ := hq
                    generalize eJ3 : g2 IN1 rd 0 (nI pN1 + 1) = J3 at hP
                    have hP : gP D cy B z T J3 R H := hP
                    have hfJ3 : ∀ c j, ¬ (c = rd ∧ j = 0) → J3 c j = IN1 c j := fun c j h => gs_ne eJ3 h rfl
                    have hpnJ3 := sH_in h124 (by decide)
                    have hFt := hFt.trs (fun c j h1 _ => hfJ3 c j h1)
                    have hRd : cRd rd tc a T J3 R tp n (pN1 + 1) := hRd.mv (fun c j h1 _ => hfJ3 c j h1) ((gs_same eJ3).trans (nI_add _ 1)) (by omega)
                    have hSr : cSr a J3 cs pdN1 := hSr.k (fun c j g1 g2 => hfJ3 c j (by omega))
                    refine lv_if_ne (tgt := 2) X.1 X.2.1 dX5_readEither_73 (by decide) (fun c73 => ?_) (fun c73 => ?_)
                    · have n73 : ¬ 1 = 0 := gq_ne c73 (show (1 : Int32) = nI 1 from rfl) (show (0 : Int32) = nI 0 from rfl) (by omega) (by omega)
                      exact ih _ _ _ _ (by omega) ⟨⟨(pN1 + 1), pdN1, hFt, hRd, hSr, ⟨by omega, by omega⟩, hSo2.trans ((pLoop_go (by omega) ⟨rfl, h124⟩).trans (by rw [pEk_s (by omega)]))⟩, lv_sub hl [2, 3, 0] rfl⟩ hP hS
                    · exact absurd c73 (by decide)
                  · refine g_run_i (f := fun u => u) (g_runV (k := 7) [.ref s99] X hK hP hS hC hB (o_reads_n hRd hs99 h2 ht99 h124) (cwV 1 X.2.2.2.2 gX5_readEither_X5_reads rfl rfl rfl (by decide +kernel) ⟨Nat.le_of_ble_eq_true rfl, Nat.le_of_ble_eq_true rfl⟩) hRd.1.1 rfl rfl hl.1 rfl (Nat.le_of_ble_eq_true rfl) dX5_readEither_70 (by exact ⟨Nat.zero_le _, Nat.zero_le _⟩)) hS (fun r u H locs hq hP hS => ?_)
                    obtain ⟨rfl, rfl⟩ := hq
                    have hP : gP D cy B z T IN1 R H := hP
                    refine lv_if_ne (tgt := 2) X.1 X.2.1 dX5_readEither_73 (by decide) (fun c73 => ?_) (fun c73 => ?_)
                    · exact absurd rfl c73
                    · have n73 : 0 = 0 := gq_eq c73 (show (0 : Int32) = nI 0 from rfl) (show (0 : Int32) = nI 0 from rfl) (by omega) (by omega)
                      refine lv_iconst (v := 1) X.1 X.2.1 dX5_readEither_76 (by decide) ?_
                      exact g_zret (f := fun u => u) (z, T, IN1, R) X hr hlk hK hP hS dX5_readEither_77 rfl ⟨IN1, pN1, rfl, hFt, hRd.2.2.2.1, Or.inl ⟨rfl, _, (hSo2.trans (pLoop_stop (fun h => h124 h.2))), hSr⟩⟩
              · have n46 : 0 < k := gq_nle c46 (Eq.refl (nI k)) (show (0 : Int32) = nI 0 from rfl) (by omega) (by omega)
                refine lv_aload_n X.1 X.2.1 dX5_readEither_49 rfl (lv_at hl 1 rfl) ?_
                refine g_getr 7 3 X hK hP hRd.1.1 rfl hinRX5 rfl (by decide) k31 (fun _ h => h) dX5_readEither_50 (show va_rf (R rd 3) = .ref a from by rw [hRd.1.2.2.1]; rfl) ?_
                refine lv_bipush (v := (-3)) X.1 X.2.1 dX5_readEither_53 (by decide) ?_
                refine g_run_v (f := fun u => u) (g_runV (k := 6) [.int (-3)] X hK hP hS hC hB (o_put hRd.1.2.2.2.2 hSr.2.2.2.1 (by omega)) (cwV 1 X.2.2.2.2 gX5_readEither_X4_put rfl rfl rfl (by decide +kernel) ⟨Nat.le_of_ble_eq_true rfl, Nat.le_of_ble_eq_true rfl⟩) hRd.1.2.2.2.2.1 rfl rfl hl.1 rfl (Nat.le_of_ble_eq_true rfl) dX5_readEither_55 (by exact ⟨Nat.zero_le _, Nat.zero_le _⟩)) hS (fun u H locs hq hP hS => ?_)
                subst hq
                generalize eJ4 : g2 IN1 (a + 4) ((coC cs ++ pdN1).length) (-3) = J4 at hP
                generalize eJ5 : g2 J4 a 7 (nI ((coC cs ++ pdN1).length) + 1) = J5 at hP
                have hP : gP D cy B z T J5 R H := hP
                have hFt := hFt.trs (fun c j h1 h2 => gs_ne eJ5 (by omega) (gs_ne eJ4 (by omega) rfl))
                have hRd : cRd rd tc a T J5 R tp n pN1 := hRd.mv (fun c j h1 h2 => gs_ne eJ5 (by omega) (gs_ne eJ4 (by omega) rfl)) (gs_ne eJ5 (by omega) (gs_ne eJ4 (by omega) hRd.2.2.2.1)) (by omega)
                have hSr : cSr a J5 cs (pdN1 ++ [10002]) := hSr.push (by omega) (by omega) rfl eJ4 eJ5
                have hflJ5 := fl1 (cs := cs) (pd := pdN1) (t := 10002)
                refine lv_iinc (v := nI (k + 1)) (lv' := [(2, .int (nI (k + 1))), (3, .int (nI (j + 1))), (0, .ref rd), (1, .int 0)]) X.1 X.2.1 dX5_readEither_58 hl (k := 3) rfl (gn_inc (Eq.refl (nI k)) 1) (by decide) rfl (fun ls hl => ?_)
                refine lv_iload_n X.1 X.2.1 dX5_readEither_61 rfl (lv_at hl 0 rfl) ?_
                refine lv_bipush (v := 100) X.1 X.2.1 dX5_readEither_62 (by decide) ?_
                refine lv_icmp_ge (tgt := 76) X.1 X.2.1 dX5_readEither_64 (by decide) (fun c64 => ?_) (fun c64 => ?_)
                · exact absurd (gq_le c64 (show (100 : Int32) = nI 100 from rfl) (Eq.refl (nI (k + 1))) (by omega) (by omega)) (by omega)
                · have n64 : (k + 1) < 100 := gq_nle c64 (show (100 : Int32) = nI 100 from rfl) (Eq.refl (nI (k + 1))) (by omega) (by omega)
                  refine lv_aload_n X.1 X.2.1 dX5_readEither_67 rfl (lv_at hl 2 rfl) ?_
                  refine va_ldcS X.1 X.2.1 X.2.2.2.1 (vk_R.warm hC.1 hR99) dX5_readEither_68 ?_
                  have hY : pEk k 10002 (pEvery tp n (pFac tp n 5) (false, pk, flC cs ++ pdk)) = (false, pN1, flC cs ++ (pdN1 ++ [10002])) := by rw [pEk_s (by omega), hEv3, pEm_f, List.append_assoc]
                  have hSo2 : pSome tp n (pFac tp n 5) (false, pl, flC cs ++ pd) = pLoop tp n 124 10002 (pEvery tp n (pFac tp n 5)) (101 - k) (false, pN1, flC cs ++ (pdN1 ++ [10002])) := by rw [hSo, hY]
                  by_cases h124 : sH tp n pN1 = 124
                  · refine g_run_i (f := fun u => u) (g_runV (k := 7) [.ref s99] X hK hP hS hC hB (o_reads_y hRd hs99 h2 ht99 h124) (cwV 1 X.2.2.2.2 gX5_readEither_X5_reads rfl rfl rfl (by decide +kernel) ⟨Nat.le_of_ble_eq_true rfl, Nat.le_of_ble_eq_true rfl⟩) hRd.1.1 rfl rfl hl.1 rfl (Nat.le_of_ble_eq_true rfl) dX5_readEither_70 (by exact ⟨Nat.zero_le _, Nat.zero_le _⟩)) hS (fun r u H locs hq hP hS => ?_)
                    obtain ⟨rfl, rfl⟩ := hq
                    generalize eJ6 : g2 J5 rd 0 (nI pN1 + 1) = J6 at hP
                    have hP : gP D cy B z T J6 R H := hP
                    have hfJ6 : ∀ c j, ¬ (c = rd ∧ j = 0) → J6 c j = J5 c j := fun c j h => gs_ne eJ6 h rfl
                    have hpnJ6 := sH_in h124 (by decide)
                    have hFt := hFt.trs (fun c j h1 _ => hfJ6 c j h1)
                    have hRd : cRd rd tc a T J6 R tp n (pN1 + 1) := hRd.mv (fun c j h1 _ => hfJ6 c j h1) ((gs_same eJ6).trans (nI_add _ 1)) (by omega)
                    have hSr : cSr a J6 cs (pdN1 ++ [10002]) := hSr.k (fun c j g1 g2 => hfJ6 c j (by omega))
                    refine lv_if_ne (tgt := 2) X.1 X.2.1 dX5_readEither_73 (by decide) (fun c73 => ?_) (fun c73 => ?_)
                    · have n73 : ¬ 1 = 0 := gq_ne c73 (show (1 : Int32) = nI 1 from rfl) (show (0 : Int32) = nI 0 from rfl) (by omega) (by omega)
                      exact ih _ _ _ _ (by omega) ⟨⟨(pN1 + 1), (pdN1 ++ [10002]), hFt, hRd, hSr, ⟨by omega, by omega⟩, hSo2.trans ((pLoop_go (by omega) ⟨rfl, h124⟩).trans (by rw [pEk_s (by omega)]))⟩, lv_sub hl [2, 3, 0] rfl⟩ hP hS
                    · exact absurd c73 (by decide)
                  · refine g_run_i (f := fun u => u) (g_runV (k := 7) [.ref s99] X hK hP hS hC hB (o_reads_n hRd hs99 h2 ht99 h124) (cwV 1 X.2.2.2.2 gX5_readEither_X5_reads rfl rfl rfl (by decide +kernel) ⟨Nat.le_of_ble_eq_true rfl, Nat.le_of_ble_eq_true rfl⟩) hRd.1.1 rfl rfl hl.1 rfl (Nat.le_of_ble_eq_true rfl) dX5_readEither_70 (by exact ⟨Nat.zero_le _, Nat.zero_le _⟩)) hS (fun r u H locs hq hP hS => ?_)
                    obtain ⟨rfl, rfl⟩ := hq
                    have hP : gP D cy B z T J5 R H := hP
                    refine lv_if_ne (tgt := 2) X.1 X.2.1 dX5_readEither_73 (by decide) (fun c73 => ?_) (fun c73 => ?_)
                    · exact absurd rfl c73
                    · have n73 : 0 = 0 := gq_eq c73 (show (0 : Int32) = nI 0 from rfl) (show (0 : Int32) = nI 0 from rfl) (by omega) (by omega)
                      refine lv_iconst (v := 1) X.1 X.2.1 dX5_readEither_76 (by decide) ?_
                      exact g_zret (f := fun u => u) (z, T, J5, R) X hr hlk hK hP hS dX5_readEither_77 rfl ⟨J5, pN1, rfl, hFt, hRd.2.2.2.1, Or.inl ⟨rfl, _, (hSo2.trans (pLoop_stop (fun h => h124 h.2))), hSr⟩⟩
      · have n15 : 0 < j := gq_nle c15 (Eq.refl (nI j)) (show (0 : Int32) = nI 0 from rfl) (by omega) (by omega)
        refine lv_aload_n X.1 X.2.1 dX5_readEither_18 rfl (lv_at hl 0 rfl) ?_
        refine g_getr 7 3 X hK hP hRd.1.1 rfl hinRX5 rfl (by decide) k31 (fun _ h => h) dX5_readEither_19 (show va_rf (R rd 3) = .ref a from by rw [hRd.1.2.2.1]; rfl) ?_
        refine lv_bipush (v := (-2)) X.1 X.2.1 dX5_readEither_22 (by decide) ?_
        refine g_run_v (f := fun u => u) (g_runV (k := 6) [.int (-2)] X hK hP hS hC hB (o_put hRd.1.2.2.2.2 hSr.2.2.2.1 (by omega)) (cwV 1 X.2.2.2.2 gX5_readEither_X4_put rfl rfl rfl (by decide +kernel) ⟨Nat.le_of_ble_eq_true rfl, Nat.le_of_ble_eq_true rfl⟩) hRd.1.2.2.2.2.1 rfl rfl hl.1 rfl (Nat.le_of_ble_eq_true rfl) dX5_readEither_24 (by exact ⟨Nat.zero_le _, Nat.zero_le _⟩)) hS (fun u H locs hq hP hS => ?_)
        subst hq
        generalize eJ7 : g2 IN1 (a + 4) ((coC cs ++ pdN1).length) (-2) = J7 at hP
        generalize eJ8 : g2 J7 a 7 (nI ((coC cs ++ pdN1).length) + 1) = J8 at hP
        have hP : gP D cy B z T J8 R H := hP
        have hFt := hFt.trs (fun c j h1 h2 => gs_ne eJ8 (by omega) (gs_ne eJ7 (by omega) rfl))
        have hRd : cRd rd tc a T J8 R tp n pN1 := hRd.mv (fun c j h1 h2 => gs_ne eJ8 (by omega) (gs_ne eJ7 (by omega) rfl)) (gs_ne eJ8 (by omega) (gs_ne eJ7 (by omega) hRd.2.2.2.1)) (by omega)
        have hSr : cSr a J8 cs (pdN1 ++ [10001]) := hSr.push (by omega) (by omega) rfl eJ7 eJ8
        have hflJ8 := fl1 (cs := cs) (pd := pdN1) (t := 10001)
        refine lv_iinc (v := nI (j + 1)) (lv' := [(3, .int (nI (j + 1))), (0, .ref rd), (1, .int 0), (2, .int (nI k))]) X.1 X.2.1 dX5_readEither_27 hl (k := 3) rfl (gn_inc (Eq.refl (nI j)) 1) (by decide) rfl (fun ls hl => ?_)
        refine lv_iload_n X.1 X.2.1 dX5_readEither_30 rfl (lv_at hl 0 rfl) ?_
        refine lv_bipush (v := 100) X.1 X.2.1 dX5_readEither_31 (by decide) ?_
        refine lv_icmp_ge (tgt := 45) X.1 X.2.1 dX5_readEither_33 (by decide) (fun c33 => ?_) (fun c33 => ?_)
        · exact absurd (gq_le c33 (show (100 : Int32) = nI 100 from rfl) (Eq.refl (nI (j + 1))) (by omega) (by omega)) (by omega)
        · have n33 : (j + 1) < 100 := gq_nle c33 (show (100 : Int32) = nI 100 from rfl) (Eq.refl (nI (j + 1))) (by omega) (by omega)
          refine lv_aload_n X.1 X.2.1 dX5_readEither_36 rfl (lv_at hl 1 rfl) ?_
          refine va_ldcS X.1 X.2.1 X.2.2.2.1 (vk_R.warm hC.1 hR97) dX5_readEither_37 ?_
          have hX : pEk j 10001 ((pFac tp n 5) (false, pj, flC cs ++ pdj)) = (false, pN1, flC cs ++ (pdN1 ++ [10001])) := by rw [pEk_s (by omega), hEN1, pEm_f, List.append_assoc]
          have hEv2 : pEvery tp n (pFac tp n 5) (false, pk, flC cs ++ pdk) = pLoop tp n 38 10001 (pFac tp n 5) (101 - j) (false, pN1, flC cs ++ (pdN1 ++ [10001])) := by rw [hEv, hX]
          by_cases h38 : sH tp n pN1 = 38
          · refine g_run_i (f := fun u => u) (g_runV (k := 7) [.ref s97] X hK hP hS hC hB (o_reads_y hRd hs97 h2 ht97 h38) (cwV 1 X.2.2.2.2 gX5_readEither_X5_reads rfl rfl rfl (by decide +kernel) ⟨Nat.le_of_ble_eq_true rfl, Nat.le_of_ble_eq_true rfl⟩) hRd.1.1 rfl rfl hl.1 rfl (Nat.le_of_ble_eq_true rfl) dX5_readEither_39 (by exact ⟨Nat.zero_le _, Nat.zero_le _⟩)) hS (fun r u H locs hq hP hS => ?_)
            obtain ⟨rfl, rfl⟩ := hq
            generalize eJ9 : g2 J8 rd 0 (nI pN1 + 1) = J9 at hP
            have hP : gP D cy B z T J9 R H := hP
            have hfJ9 : ∀ c j, ¬ (c = rd ∧ j = 0) → J9 c j = J8 c j := fun c j h => gs_ne eJ9 h rfl
            have hpnJ9 := sH_in h38 (by decide)
            have hFt := hFt.trs (fun c j h1 _ => hfJ9 c j h1)
            have hRd : cRd rd tc a T J9 R tp n (pN1 + 1) := hRd.mv (fun c j h1 _ => hfJ9 c j h1) ((gs_same eJ9).trans (nI_add _ 1)) (by omega)
            have hSr : cSr a J9 cs (pdN1 ++ [10001]) := hSr.k (fun c j g1 g2 => hfJ9 c j (by omega))
            refine lv_if_ne (tgt := 4) X.1 X.2.1 dX5_readEither_42 (by decide) (fun c42 => ?_) (fun c42 => ?_)
            · have n42 : ¬ 1 = 0 := gq_ne c42 (show (1 : Int32) = nI 1 from rfl) (show (0 : Int32) = nI 0 from rfl) (by omega) (by omega)
              exact ih2 _ _ _ _ (by omega) ⟨⟨(pN1 + 1), (pdN1 ++ [10001]), hFt, hRd, hSr, ⟨by omega, by omega⟩, hEv2.trans ((pLoop_go (by omega) ⟨rfl, h38⟩).trans (by rw [pEk_s (by omega)]))⟩, lv_sub hl [1, 2, 3, 0] rfl⟩ hP hS
            · exact absurd c42 (by decide)
          · have hEv3 : pEvery tp n (pFac tp n 5) (false, pk, flC cs ++ pdk) = (false, pN1, flC cs ++ (pdN1 ++ [10001])) := hEv2.trans (pLoop_stop (fun h => h38 h.2))
            have hco9 := co_le (cs := cs) (pd := (pdN1 ++ [10001]))
            refine g_run_i (f := fun u => u) (g_runV (k := 7) [.ref s97] X hK hP hS hC hB (o_reads_n hRd hs97 h2 ht97 h38) (cwV 1 X.2.2.2.2 gX5_readEither_X5_reads rfl rfl rfl (by decide +kernel) ⟨Nat.le_of_ble_eq_true rfl, Nat.le_of_ble_eq_true rfl⟩) hRd.1.1 rfl rfl hl.1 rfl (Nat.le_of_ble_eq_true rfl) dX5_readEither_39 (by exact ⟨Nat.zero_le _, Nat.zero_le _⟩)) hS (fun r u H locs hq hP hS => ?_)
            obtain ⟨rfl, rfl⟩ := hq
            have hP : gP D cy B z T J8 R H := hP
            refine lv_if_ne (tgt := 4) X.1 X.2.1 dX5_readEither_42 (by decide) (fun c42 => ?_) (fun c42 => ?_)
            · exact absurd rfl c42
            · have n42 : 0 = 0 := gq_eq c42 (show (0 : Int32) = nI 0 from rfl) (show (0 : Int32) = nI 0 from rfl) (by omega) (by omega)
              refine lv_iload_n X.1 X.2.1 dX5_readEither_45 rfl (lv_at hl 3 rfl) ?_
              refine lv_if_le (tgt := 58) X.1 X.2.1 dX5_readEither_46 (by decide) (fun c46 => ?_) (fun c46 => ?_)
              · have n46 : k ≤ 0 := gq_le c46 (Eq.refl (nI k)) (show (0 : Int32) = nI 0 from rfl) (by omega) (by omega)
                refine lv_iinc (v := nI (k + 1)) (lv' := [(2, .int (nI (k + 1))), (3, .int (nI (j + 1))), (0, .ref rd), (1, .int 0)]) X.1 X.2.1 dX5_readEither_58 hl (k := 3) rfl (gn_inc (Eq.refl (nI k)) 1) (by decide) rfl (fun ls hl => ?_)
                refine lv_iload_n X.1 X.2.1 dX5_readEither_61 rfl (lv_at hl 0 rfl) ?_
                refine lv_bipush (v := 100) X.1 X.2.1 dX5_readEither_62 (by decide) ?_
                refine lv_icmp_ge (tgt := 76) X.1 X.2.1 dX5_readEither_64 (by decide) (fun c64 => ?_) (fun c64 => ?_)
                · exact absurd (gq_le c64 (show (100 : Int32) = nI 100 from rfl) (Eq.refl (nI (k + 1))) (by omega) (by omega)) (by omega)
                · have n64 : (k + 1) < 100 := gq_nle c64 (show (100 : Int32) = nI 100 from rfl) (Eq.refl (nI (k + 1))) (by omega) (by omega)
                  refine lv_aload_n X.1 X.2.1 dX5_readEither_67 rfl (lv_at hl 2 rfl) ?_
                  refine va_ldcS X.1 X.2.1 X.2.2.2.1 (vk_R.warm hC.1 hR99) dX5_readEither_68 ?_
                  have hY : pEk k 10002 (pEvery tp n (pFac tp n 5) (false, pk, flC cs ++ pdk)) = (false, pN1, flC cs ++ (pdN1 ++ [10001])) := (pEk_0 (by omega)).trans hEv3
                  have hSo2 : pSome tp n (pFac tp n 5) (false, pl, flC cs ++ pd) = pLoop tp n 124 10002 (pEvery tp n (pFac tp n 5)) (101 - k) (false, pN1, flC cs ++ (pdN1 ++ [10001])) := by rw [hSo, hY]
                  by_cases h124 : sH tp n pN1 = 124
                  · refine g_run_i (f := fun u => u) (g_runV (k := 7) [.ref s99] X hK hP hS hC hB (o_reads_y hRd hs99 h2 ht99 h124) (cwV 1 X.2.2.2.2 gX5_readEither_X5_reads rfl rfl rfl (by decide +kernel) ⟨Nat.le_of_ble_eq_true rfl, Nat.le_of_ble_eq_true rfl⟩) hRd.1.1 rfl rfl hl.1 rfl (Nat.le_of_ble_eq_true rfl) dX5_readEither_70 (by exact ⟨Nat.zero_le _, Nat.zero_le _⟩)) hS (fun r u H locs hq hP hS => ?_)
                    obtain ⟨rfl, rfl⟩ := hq
                    generalize eJ10 : g2 J8 rd 0 (nI pN1 + 1) = J10 at hP
                    have hP : gP D cy B z T J10 R H := hP
                    have hfJ10 : ∀ c j, ¬ (c = rd ∧ j = 0) → J10 c j = J8 c j := fun c j h => gs_ne eJ10 h rfl
                    have hpnJ10 := sH_in h124 (by decide)
                    have hFt := hFt.trs (fun c j h1 _ => hfJ10 c j h1)
                    have hRd : cRd rd tc a T J10 R tp n (pN1 + 1) := hRd.mv (fun c j h1 _ => hfJ10 c j h1) ((gs_same eJ10).trans (nI_add _ 1)) (by omega)
                    have hSr : cSr a J10 cs (pdN1 ++ [10001]) := hSr.k (fun c j g1 g2 => hfJ10 c j (by omega))
                    refine lv_if_ne (tgt := 2) X.1 X.2.1 dX5_readEither_73 (by decide) (fun c73 => ?_) (fun c73 => ?_)
                    · have n73 : ¬ 1 = 0 := gq_ne c73 (show (1 : Int32) = nI 1 from rfl) (show (0 : Int32) = nI 0 from rfl) (by omega) (by omega)
                      exact ih _ _ _ _ (by omega) ⟨⟨(pN1 + 1), (pdN1 ++ [10001]), hFt, hRd, hSr, ⟨by omega, by omega⟩, hSo2.trans ((pLoop_go (by omega) ⟨rfl, h124⟩).trans (by rw [pEk_s (by omega)]))⟩, lv_sub hl [2, 3, 0] rfl⟩ hP hS
                    · exact absurd c73 (by decide)
                  · refine g_run_i (f := fun u => u) (g_runV (k := 7) [.ref s99] X hK hP hS hC hB (o_reads_n hRd hs99 h2 ht99 h124) (cwV 1 X.2.2.2.2 gX5_readEither_X5_reads rfl rfl rfl (by decide +kernel) ⟨Nat.le_of_ble_eq_true rfl, Nat.le_of_ble_eq_true rfl⟩) hRd.1.1 rfl rfl hl.1 rfl (Nat.le_of_ble_eq_true rfl) dX5_readEither_70 (by exact ⟨Nat.zero_le _, Nat.zero_le _⟩)) hS (fun r u H locs hq hP hS => ?_)
                    obtain ⟨rfl, rfl⟩ := hq
                    have hP : gP D cy B z T J8 R H := hP
                    refine lv_if_ne (tgt := 2) X.1 X.2.1 dX5_readEither_73 (by decide) (fun c73 => ?_) (fun c73 => ?_)
                    · exact absurd rfl c73
                    · have n73 : 0 = 0 := gq_eq c73 (show (0 : Int32) = nI 0 from rfl) (show (0 : Int32) = nI 0 from rfl) (by omega) (by omega)
                      refine lv_iconst (v := 1) X.1 X.2.1 dX5_readEither_76 (by decide) ?_
                      exact g_zret (f := fun u => u) (z, T, J8, R) X hr hlk hK hP hS dX5_readEither_77 rfl ⟨J8, pN1, rfl, hFt, hRd.2.2.2.1, Or.inl ⟨rfl, _, (hSo2.trans (pLoop_stop (fun h => h124 h.2))), hSr⟩⟩
              · have n46 : 0 < k := gq_nle c46 (Eq.refl (nI k)) (show (0 : Int32) = nI 0 from rfl) (by omega) (by omega)
                refine lv_aload_n X.1 X.2.1 dX5_readEither_49 rfl (lv_at hl 1 rfl) ?_
                refine g_getr 7 3 X hK hP hRd.1.1 rfl hinRX5 rfl (by decide) k31 (fun _ h => h) dX5_readEither_50 (show va_rf (R rd 3) = .ref a from by rw [hRd.1.2.2.1]; rfl) ?_
                refine lv_bipush (v := (-3)) X.1 X.2.1 dX5_readEither_53 (by decide) ?_
                refine g_run_v (f := fun u => u) (g_runV (k := 6) [.int (-3)] X hK hP hS hC hB (o_put hRd.1.2.2.2.2 hSr.2.2.2.1 (by omega)) (cwV 1 X.2.2.2.2 gX5_readEither_X4_put rfl rfl rfl (by decide +kernel) ⟨Nat.le_of_ble_eq_true rfl, Nat.le_of_ble_eq_true rfl⟩) hRd.1.2.2.2.2.1 rfl rfl hl.1 rfl (Nat.le_of_ble_eq_true rfl) dX5_readEither_55 (by exact ⟨Nat.zero_le _, Nat.zero_le _⟩)) hS (fun u H locs hq hP hS => ?_)
                subst hq
                generalize eJ11 : g2 J8 (a + 4) ((coC cs ++ (pdN1 ++ [10001])).length) (-3) = J11 at hP
                generalize eJ12 : g2 J11 a 7 (nI ((coC cs ++ (pdN1 ++ [10001])).length) + 1) = J12 at hP
                have hP : gP D cy B z T J12 R H := hP
                have hFt := hFt.trs (fun c j h1 h2 => gs_ne eJ12 (by omega) (gs_ne eJ11 (by omega) rfl))
                have hRd : cRd rd tc a T J12 R tp n pN1 := hRd.mv (fun c j h1 h2 => gs_ne eJ12 (by omega) (gs_ne eJ11 (by omega) rfl)) (gs_ne eJ12 (by omega) (gs_ne eJ11 (by omega) hRd.2.2.2.1)) (by omega)
                have hSr : cSr a J12 cs ((pdN1 ++ [10001]) ++ [10002]) := hSr.push (by omega) (by omega) rfl eJ11 eJ12
                have hflJ12 := fl1 (cs := cs) (pd := (pdN1 ++ [10001])) (t := 10002)
                refine lv_iinc (v := nI (k + 1)) (lv' := [(2, .int (nI (k + 1))), (3, .int (nI (j + 1))), (0, .ref rd), (1, .int 0)]) X.1 X.2.1 dX5_readEither_58 hl (k := 3) rfl (gn_inc (Eq.refl (nI k)) 1) (by decide) rfl (fun ls hl => ?_)
                refine lv_iload_n X.1 X.2.1 dX5_readEither_61 rfl (lv_at hl 0 rfl) ?_
                refine lv_bipush (v := 100) X.1 X.2.1 dX5_readEither_62 (by decide) ?_
                refine lv_icmp_ge (tgt := 76) X.1 X.2.1 dX5_readEither_64 (by decide) (fun c64 => ?_) (fun c64 => ?_)
                · exact absurd (gq_le c64 (show (100 : Int32) = nI 100 from rfl) (Eq.refl (nI (k + 1))) (by omega) (by omega)) (by omega)
                · have n64 : (k + 1) < 100 := gq_nle c64 (show (100 : Int32) = nI 100 from rfl) (Eq.refl (nI (k + 1))) (by omega) (by omega)
                  refine lv_aload_n X.1 X.2.1 dX5_readEither_67 rfl (lv_at hl 2 rfl) ?_
                  refine va_ldcS X.1 X.2.1 X.2.2.2.1 (vk_R.warm hC.1 hR99) dX5_readEither_68 ?_
                  have hY : pEk k 10002 (pEvery tp n (pFac tp n 5) (false, pk, flC cs ++ pdk)) = (false, pN1, flC cs ++ ((pdN1 ++ [10001]) ++ [10002])) := by rw [pEk_s (by omega), hEv3, pEm_f, List.append_assoc]
                  have hSo2 : pSome tp n (pFac tp n 5) (false, pl, flC cs ++ pd) = pLoop tp n 124 10002 (pEvery tp n (pFac tp n 5)) (101 - k) (false, pN1, flC cs ++ ((pdN1 ++ [10001]) ++ [10002])) := by rw [hSo, hY]
                  by_cases h124 : sH tp n pN1 = 124
                  · refine g_run_i (f := fun u => u) (g_runV (k := 7) [.ref s99] X hK hP hS hC hB (o_reads_y hRd hs99 h2 ht99 h124) (cwV 1 X.2.2.2.2 gX5_readEither_X5_reads rfl rfl rfl (by decide +kernel) ⟨Nat.le_of_ble_eq_true rfl, Nat.le_of_ble_eq_true rfl⟩) hRd.1.1 rfl rfl hl.1 rfl (Nat.le_of_ble_eq_true rfl) dX5_readEither_70 (by exact ⟨Nat.zero_le _, Nat.zero_le _⟩)) hS (fun r u H locs hq hP hS => ?_)
                    obtain ⟨rfl, rfl⟩ := hq
                    generalize eJ13 : g2 J12 rd 0 (nI pN1 + 1) = J13 at hP
                    have hP : gP D cy B z T J13 R H := hP
                    have hfJ13 : ∀ c j, ¬ (c = rd ∧ j = 0) → J13 c j = J12 c j := fun c j h => gs_ne eJ13 h rfl
                    have hpnJ13 := sH_in h124 (by decide)
                    have hFt := hFt.trs (fun c j h1 _ => hfJ13 c j h1)
                    have hRd : cRd rd tc a T J13 R tp n (pN1 + 1) := hRd.mv (fun c j h1 _ => hfJ13 c j h1) ((gs_same eJ13).trans (nI_add _ 1)) (by omega)
                    have hSr : cSr a J13 cs ((pdN1 ++ [10001]) ++ [10002]) := hSr.k (fun c j g1 g2 => hfJ13 c j (by omega))
                    refine lv_if_ne (tgt := 2) X.1 X.2.1 dX5_readEither_73 (by decide) (fun c73 => ?_) (fun c73 => ?_)
                    · have n73 : ¬ 1 = 0 := gq_ne c73 (show (1 : Int32) = nI 1 from rfl) (show (0 : Int32) = nI 0 from rfl) (by omega) (by omega)
                      exact ih _ _ _ _ (by omega) ⟨⟨(pN1 + 1), ((pdN1 ++ [10001]) ++ [10002]), hFt, hRd, hSr, ⟨by omega, by omega⟩, hSo2.trans ((pLoop_go (by omega) ⟨rfl, h124⟩).trans (by rw [pEk_s (by omega)]))⟩, lv_sub hl [2, 3, 0] rfl⟩ hP hS
                    · exact absurd c73 (by decide)
                  · refine g_run_i (f := fun u => u) (g_runV (k := 7) [.ref s99] X hK hP hS hC hB (o_reads_n hRd hs99 h2 ht99 h124) (cwV 1 X.2.2.2.2 gX5_readEither_X5_reads rfl rfl rfl (by decide +kernel) ⟨Nat.le_of_ble_eq_true rfl, Nat.le_of_ble_eq_true rfl⟩) hRd.1.1 rfl rfl hl.1 rfl (Nat.le_of_ble_eq_true rfl) dX5_readEither_70 (by exact ⟨Nat.zero_le _, Nat.zero_le _⟩)) hS (fun r u H locs hq hP hS => ?_)
                    obtain ⟨rfl, rfl⟩ := hq
                    have hP : gP D cy B z T J12 R H := hP
                    refine lv_if_ne (tgt := 2) X.1 X.2.1 dX5_readEither_73 (by decide) (fun c73 => ?_) (fun c73 => ?_)
                    · exact absurd rfl c73
                    · have n73 : 0 = 0 := gq_eq c73 (show (0 : Int32) = nI 0 from rfl) (show (0 : Int32) = nI 0 from rfl) (by omega) (by omega)
                      refine lv_iconst (v := 1) X.1 X.2.1 dX5_readEither_76 (by decide) ?_
                      exact g_zret (f := fun u => u) (z, T, J12, R) X hr hlk hK hP hS dX5_readEither_77 rfl ⟨J12, pN1, rfl, hFt, hRd.2.2.2.1, Or.inl ⟨rfl, _, (hSo2.trans (pLoop_stop (fun h => h124 h.2))), hSr⟩⟩
    · exact absurd c9 (by decide)
  · rw [hEN1] at hwN1
    have hwN1 : pj ≤ pN1 ∧ pN1 ≤ n := ⟨hwN1.1, hwN1.2.1⟩
    have hFt := hFt.trs hfN1
    have hEv3 : pEvery tp n (pFac tp n 5) (false, pk, flC cs ++ pdk) = (true, pN1, LN1) := by rw [hEv, hEN1, pEk_t]; exact pLoop_stop (fun h => Bool.noConfusion h.1)
    refine lv_if_ne (tgt := 14) X.1 X.2.1 dX5_readEither_9 (by decide) (fun c9 => ?_) (fun c9 => ?_)
    · exact absurd rfl c9
    · have n9 : 0 = 0 := gq_eq c9 (show (0 : Int32) = nI 0 from rfl) (show (0 : Int32) = nI 0 from rfl) (by omega) (by omega)
      refine lv_iconst (v := 0) X.1 X.2.1 dX5_readEither_12 (by decide) ?_
      exact g_zret (f := fun u => u) (z, T, IN1, R) X hr hlk hK hP hS dX5_readEither_13 rfl ⟨IN1, pN1, rfl, hFt, hpN1, Or.inr ⟨rfl, LN1, (by rw [hSo, hEv3, pEk_t]; exact pLoop_stop (fun h => Bool.noConfusion h.1))⟩⟩

end QC