section QE
variable {l : Launch} {s0 : State} {D : va_G} {cy : Nat → ClassId} {B z : Nat} {T : Nat → Nat × Nat} {I : Nat → Nat → Int32} {R : Nat → Nat → Option Nat} {rd tc a : Nat} {tp : Nat → Nat} {n pl : Nat} {cs : Cls} {pd : List Nat}
theorem pTail_f {k i : Nat} {L : List Nat} {s : PS} (h : pFig tp n s = ((true, i, L), 0)) : pTail tp n k s = (true, i, L) := by
  unfold pTail
  rw [h]
  dsimp only
  rw [pMust_t, pSome_t (pFac_t 5)]
  rfl
theorem pTail_m {k i v : Nat} {L : List Nat} {s : PS} (h : pFig tp n s = ((false, i, L), v)) (hb : ¬ sH tp n i = 32) : pTail tp n k s = (true, i, L) := by
  unfold pTail
  rw [h]
  dsimp only
  rw [pMust_n hb, pSome_t (pFac_t 5)]
  rfl
theorem pTail_y {k i v : Nat} {L : List Nat} {s : PS} (h : pFig tp n s = ((false, i, L), v)) (hb : sH tp n i = 32) : pTail tp n k s = pEm (k + v) (pSome tp n (pFac tp n 5) (false, i + 1, L)) := by
  unfold pTail
  rw [h]
  dsimp only
  rw [pMust_y hb]
theorem pTl_f {b : Bool} {i : Nat} {L : List Nat} {s : PS} {y : Nat × Nat} (h : pFig tp n s = ((true, i, L), 0)) : pTl tp n b s y = ((true, i, L), y) := by
  unfold pTl
  rw [h]
  rfl
theorem pTl_y {b : Bool} {i v : Nat} {L : List Nat} {s : PS} {y : Nat × Nat} (h : pFig tp n s = ((false, i, L), v)) : pTl tp n b s y = ((false, i, L), if b = true then (v, y.2) else (y.1, v)) := by
  unfold pTl
  rw [h]
  rfl
theorem cSr.k9 {J : Nat → Nat → Int32} {j v : Nat} (h : cSr a I cs pd) (e : g2 I a j (nI v) = J) (hj : j < 2 := by omega) : cSr a J cs pd := by
  obtain ⟨g1, g2, g3, g4, g5, g6, g7⟩ := h
  refine ⟨g1, g2, gs_ne e (by omega) g3, gs_ne e (by omega) g4, fun k q => ?_, fun k q => gs_ne e (by omega) (g6 k q), g7⟩
  obtain ⟨e1, e2, e3⟩ := g5 k q
  exact ⟨gs_ne e (by omega) e1, gs_ne e (by omega) e2, gs_ne e (by omega) e3⟩
set_option maxHeartbeats 4000000 in
set_option maxRecDepth 100000 in
/-- o_clause -/
theorem o_clause (hRd : cRd rd tc a T I R tp n pl) (hstr : gStr s0 B) (hSr : cSr a I cs []) (hLp : (flC cs ++ []).length ≤ pl) (hc10 : cs.length < 10) {y : Nat × Nat} (hy1 : I a 0 = nI y.1) (hy2 : I a 1 = nI y.2) : Met l yX5_readClause wsX5_readClause ({ frames := 19, cells := 0, slots := 0, locals := 422 }) (va_Pc [.ref rd] (gW0 s0 D cy B (z, T, I, R))) (va_Qi (fun r u => ∃ I' p', u = (z, T, I', R) ∧ rFw rd a I I' ∧ I' rd 0 = nI p' ∧ ((r = 1 ∧ ∃ cs' y', pCl tp n ((false, pl, flC cs ++ []), y) = ((false, p', flC cs' ++ []), y') ∧ cSr a I' cs' [] ∧ (I' a 0 = nI y'.1 ∧ I' a 1 = nI y'.2) ∧ cs'.length ≤ cs.length + 1) ∨ (r = 0 ∧ ∃ L' y', pCl tp n ((false, pl, flC cs ++ []), y) = ((true, p', L'), y')))) (fun u t => gW1 D cy B u t) (gA B)) 0 0 (gA B) := by
  refine g_met (maxL := 3) (ret := (some .boolean)) (by decide) rfl (Nat.le_of_ble_eq_true rfl) (fun p e s m args below meth c ls X hr hlk hnm hK hP hC hS hl => ?_)
  have hl : lv_has ls 3 [(0, .ref rd)] := hl
  have hP : gP D cy B z T I R s.heap := hP
  have hB : B ≤ s.heap.size := by rw [hP.1]; exact hP.2.1
  have hinRX5 : ∀ w ∈ wsX50, w ∈ wsX5_readClause := fun _ h => List.mem_cons_of_mem _ (List.mem_append_left _ (List.mem_append_right _ h))
  have k31 : Cond.fieldLink RX5 31 "BarrowPlank$SiteReader" "draft" "LBarrowPlank$Site;" ∈ wsX5_readClause := by decide +kernel
  have hn100 := hRd.2.2.1.1
  have hpn := hRd.2.2.1.2.1
  have htp := hRd.2.2.1.2.2
  have hrda := hRd.2.1.1
  have htca := hRd.2.1.2.1
  have hrdt := hRd.2.1.2.2
  have h2 : gSt2 s0 B := hstr.1
  obtain ⟨s49, q49, hR49, hs49, ht49⟩ := hstr.at 18 rfl
  have hs49 : gSo s0 B [32] s49 q49 := hs49
  have ht49 : gTx [32] := ht49
  have hFt : rFr rd a I I := rFr.rf
  refine lv_aload_n X.1 X.2.1 dX5_readClause_0 rfl (lv_at hl 0 rfl) ?_
  refine g_run_i (f := fun u => u) (g_runV (k := 7) [] X hK hP hS hC hB (o_rword hRd hstr) (cwV 0 X.2.2.2.2 gX5_readClause_X5_readWord rfl rfl rfl (by decide +kernel) ⟨Nat.le_of_ble_eq_true rfl, Nat.le_of_ble_eq_true rfl⟩) hRd.1.1 rfl rfl hl.1 rfl (Nat.le_of_ble_eq_true rfl) dX5_readClause_1 (by exact ⟨Nat.zero_le _, Nat.zero_le _⟩)) hS (fun r u H locs hq hP hS => ?_)
  obtain ⟨I1, p1, rfl, hp1, hf1, ⟨hlo1, hhi1⟩, hq⟩ := hq
  have hP : gP D cy B z T I1 R H := hP
  have hFt := hFt.trs (fun c j h1 _ => hf1 c j h1)
  have hRd : cRd rd tc a T I1 R tp n p1 := hRd.mv (fun c j h1 _ => hf1 c j h1) hp1 (by omega)
  have hSr : cSr a I1 cs ([]) := hSr.k (fun c j g1 g2 => hf1 c j (by omega))
  have hy0 : I1 a 0 = nI y.1 := (hf1 a 0 (by omega)).trans hy1
  have hyy : I1 a 1 = nI y.2 := (hf1 a 1 (by omega)).trans hy2
  rcases hq with ⟨rfl, hfit, rfl⟩ | ⟨rfl, hfit, rfl⟩ | ⟨rfl, hfit, rfl⟩ | ⟨rfl, hfit, rfl⟩ | ⟨rfl, hfit, rfl⟩ | ⟨rfl, ⟨hn0, hn1, hn2, hn3, hn4⟩, rfl⟩
  · by_cases hb : sH tp n (pl + 4) = 32
    · refine lv_istore_n (lv' := [(1, .int 0), (0, .ref rd)]) X.1 X.2.1 dX5_readClause_4 rfl hl (by decide) rfl (fun ls hl => ?_)
      refine lv_iload_n X.1 X.2.1 dX5_readClause_5 rfl (lv_at hl 0 rfl) ?_
      refine lv_if_lt (tgt := 18) X.1 X.2.1 dX5_readClause_6 (by decide) (fun c6 => ?_) (fun c6 => ?_)
      · exact absurd c6 (by decide)
      · have n6 : 0 ≤ 0 := gq_nlt c6 (show (0 : Int32) = nI 0 from rfl) (show (0 : Int32) = nI 0 from rfl) (by omega) (by omega)
        refine lv_aload_n X.1 X.2.1 dX5_readClause_9 rfl (lv_at hl 1 rfl) ?_
        refine va_ldcS X.1 X.2.1 X.2.2.2.1 (vk_R.warm hC.1 hR49) dX5_readClause_10 ?_
        refine g_run_i (f := fun u => u) (g_runV (k := 7) [.ref s49] X hK hP hS hC hB (o_reads_y hRd hs49 h2 ht49 hb) (cwV 1 X.2.2.2.2 gX5_readClause_X5_reads rfl rfl rfl (by decide +kernel) ⟨Nat.le_of_ble_eq_true rfl, Nat.le_of_ble_eq_true rfl⟩) hRd.1.1 rfl rfl hl.1 rfl (Nat.le_of_ble_eq_true rfl) dX5_readClause_12 (by exact ⟨Nat.zero_le _, Nat.zero_le _⟩)) hS (fun r u H locs hq hP hS => ?_)
        obtain ⟨rfl, rfl⟩ := hq
        generalize eJ1 : g2 I1 rd 0 (nI (pl + 4) + 1) = J1 at hP
        have hP : gP D cy B z T J1 R H := hP
        have hfJ1 : ∀ c j, ¬ (c = rd ∧ j = 0) → J1 c j = I1 c j := fun c j h => gs_ne eJ1 h rfl
        have hpnJ1 := sH_in hb (by decide)
        have hFt := hFt.trs (fun c j h1 _ => hfJ1 c j h1)
        have hRd : cRd rd tc a T J1 R tp n (pl + 5) := hRd.mv (fun c j h1 _ => hfJ1 c j h1) ((gs_same eJ1).trans (nI_add _ 1)) (by omega)
        have hSr : cSr a J1 cs ([]) := hSr.k (fun c j g1 g2 => hfJ1 c j (by omega))
        have hfJ := hfJ1
        refine lv_if_ne (tgt := 20) X.1 X.2.1 dX5_readClause_15 (by decide) (fun c15 => ?_) (fun c15 => ?_)
        · have n15 : ¬ 1 = 0 := gq_ne c15 (show (1 : Int32) = nI 1 from rfl) (show (0 : Int32) = nI 0 from rfl) (by omega) (by omega)
          refine lv_aload_n X.1 X.2.1 dX5_readClause_20 rfl (lv_at hl 1 rfl) ?_
          refine g_run_i (f := fun u => u) (g_runV (k := 7) [] X hK hP hS hC hB (o_num hRd hstr) (cwV 0 X.2.2.2.2 gX5_readClause_X5_readNumber rfl rfl rfl (by decide +kernel) ⟨Nat.le_of_ble_eq_true rfl, Nat.le_of_ble_eq_true rfl⟩) hRd.1.1 rfl rfl hl.1 rfl (Nat.le_of_ble_eq_true rfl) dX5_readClause_21 (by exact ⟨Nat.zero_le _, Nat.zero_le _⟩)) hS (fun r u H locs hq hP hS => ?_)
          obtain ⟨IN2, pN2, rfl, hpN2, hfN2, hq⟩ := hq
          have hP : gP D cy B z T IN2 R H := hP
          have hwN2 := pW_fig (tp := tp) (n := n) (false, (pl + 5), []) (by show (pl + 5) ≤ n; omega)
          rcases hq with ⟨vN2, rfl, hvN2, hEN2⟩ | ⟨rfl, hEN2⟩
          · simp only [hEN2 []] at hwN2
            have hwN2 : (pl + 5) ≤ pN2 ∧ pN2 ≤ n := ⟨hwN2.1, hwN2.2.1⟩
            have hFt := hFt.trs (fun c j h1 _ => hfN2 c j h1)
            have hRd : cRd rd tc a T IN2 R tp n pN2 := hRd.mv (fun c j h1 _ => hfN2 c j h1) hpN2 (by omega)
            have hSr : cSr a IN2 cs ([]) := hSr.k (fun c j g1 g2 => hfN2 c j (by omega))
            by_cases hb2 : sH tp n pN2 = 32
            · refine lv_istore_n (lv' := [(2, .int (nI vN2)), (1, .int 0), (0, .ref rd)]) X.1 X.2.1 dX5_readClause_24 rfl hl (by decide) rfl (fun ls hl => ?_)
              refine lv_iload_n X.1 X.2.1 dX5_readClause_25 rfl (lv_at hl 0 rfl) ?_
              refine lv_if_ge (tgt := 31) X.1 X.2.1 dX5_readClause_26 (by decide) (fun c26 => ?_) (fun c26 => ?_)
              · have n26 : 0 ≤ vN2 := gq_le c26 (show (0 : Int32) = nI 0 from rfl) (Eq.refl (nI vN2)) (by omega) (by omega)
                refine lv_iload_n X.1 X.2.1 dX5_readClause_31 rfl (lv_at hl 1 rfl) ?_
                refine g_run_i (f := fun u => u) (g_runS [.int 0] X hK hP hS hC hB (o_has_0) (va_cwS 1 X.2.2.2.2 gX5_readClause_X4_hasCondition rfl rfl rfl (by decide +kernel) ⟨Nat.le_of_ble_eq_true rfl, Nat.le_of_ble_eq_true rfl⟩) rfl hl.1 rfl (Nat.le_of_ble_eq_true rfl) dX5_readClause_32 (by exact ⟨Nat.zero_le _, Nat.zero_le _⟩)) hS (fun r u H locs hq hP hS => ?_)
                obtain ⟨rfl, rfl⟩ := hq
                have hP : gP D cy B z T IN2 R H := hP
                refine lv_if_eq (tgt := 57) X.1 X.2.1 dX5_readClause_35 (by decide) (fun c35 => ?_) (fun c35 => ?_)
                · exact absurd c35 (by decide)
                · have n35 : ¬ 1 = 0 := gq_ne c35 (show (1 : Int32) = nI 1 from rfl) (show (0 : Int32) = nI 0 from rfl) (by omega) (by omega)
                  refine lv_aload_n X.1 X.2.1 dX5_readClause_38 rfl (lv_at hl 2 rfl) ?_
                  refine va_ldcS X.1 X.2.1 X.2.2.2.1 (vk_R.warm hC.1 hR49) dX5_readClause_39 ?_
                  refine g_run_i (f := fun u => u) (g_runV (k := 7) [.ref s49] X hK hP hS hC hB (o_reads_y hRd hs49 h2 ht49 hb2) (cwV 1 X.2.2.2.2 gX5_readClause_X5_reads rfl rfl rfl (by decide +kernel) ⟨Nat.le_of_ble_eq_true rfl, Nat.le_of_ble_eq_true rfl⟩) hRd.1.1 rfl rfl hl.1 rfl (Nat.le_of_ble_eq_true rfl) dX5_readClause_41 (by exact ⟨Nat.zero_le _, Nat.zero_le _⟩)) hS (fun r u H locs hq hP hS => ?_)
                  obtain ⟨rfl, rfl⟩ := hq
                  generalize eJ3 : g2 IN2 rd 0 (nI pN2 + 1) = J3 at hP
                  have hP : gP D cy B z T J3 R H := hP
                  have hfJ3 : ∀ c j, ¬ (c = rd ∧ j = 0) → J3 c j = IN2 c j := fun c j h => gs_ne eJ3 h rfl
                  have hpnJ3 := sH_in hb2 (by decide)
                  have hFt := hFt.trs (fun c j h1 _ => hfJ3 c j h1)
                  have hRd : cRd rd tc a T J3 R tp n (pN2 + 1) := hRd.mv (fun c j h1 _ => hfJ3 c j h1) ((gs_same eJ3).trans (nI_add _ 1)) (by omega)
                  have hSr : cSr a J3 cs ([]) := hSr.k (fun c j g1 g2 => hfJ3 c j (by omega))
                  refine lv_if_eq (tgt := 55) X.1 X.2.1 dX5_readClause_44 (by decide) (fun c44 => ?_) (fun c44 => ?_)
                  · exact absurd c44 (by decide)
                  · have n44 : ¬ 1 = 0 := gq_ne c44 (show (1 : Int32) = nI 1 from rfl) (show (0 : Int32) = nI 0 from rfl) (by omega) (by omega)
                    refine lv_aload_n X.1 X.2.1 dX5_readClause_47 rfl (lv_at hl 2 rfl) ?_
                    refine lv_iconst (v := 0) X.1 X.2.1 dX5_readClause_48 (by decide) ?_
                    refine g_run_i (f := fun u => u) (g_runV (k := 7) [.int 0] X hK hP hS hC hB (o_either_5 hRd hstr hSr (by omega) (by omega)) (cwV 1 X.2.2.2.2 gX5_readClause_X5_readEither rfl rfl rfl (by decide +kernel) ⟨Nat.le_of_ble_eq_true rfl, Nat.le_of_ble_eq_true rfl⟩) hRd.1.1 rfl rfl hl.1 rfl (Nat.le_of_ble_eq_true rfl) dX5_readClause_49 (by exact ⟨Nat.zero_le _, Nat.zero_le _⟩)) hS (fun r u H locs hq hP hS => ?_)
                    obtain ⟨IN4, pN4, rfl, hfN4, hpN4, hq⟩ := hq
                    have hP : gP D cy B z T IN4 R H := hP
                    have hwN4 := (pW_some (tp := tp) (pW_fac (tp := tp) (n := n) 5)) (false, (pN2 + 1), flC cs ++ ([])) (by show (pN2 + 1) ≤ n; omega)
                    rcases hq with ⟨rfl, pdN4, hEN4, hSN4⟩ | ⟨rfl, LN4, hEN4⟩
                    · rw [hEN4] at hwN4
                      have hwN4 : (pN2 + 1) ≤ pN4 ∧ pN4 ≤ n ∧ (flC cs ++ pdN4).length + (pN2 + 1) ≤ pN4 + (flC cs ++ ([])).length := hwN4
                      have hcoN4 := co_le (cs := cs) (pd := pdN4)
                      have hFt := hFt.trs hfN4
                      have hRd : cRd rd tc a T IN4 R tp n pN4 := hRd.mv hfN4 hpN4 hwN4.2.1
                      have hSr : cSr a IN4 cs pdN4 := hSN4
                      refine lv_if_ne (tgt := 57) X.1 X.2.1 dX5_readClause_52 (by decide) (fun c52 => ?_) (fun c52 => ?_)
                      · have n52 : ¬ 1 = 0 := gq_ne c52 (show (1 : Int32) = nI 1 from rfl) (show (0 : Int32) = nI 0 from rfl) (by omega) (by omega)
                        refine lv_aload_n X.1 X.2.1 dX5_readClause_57 rfl (lv_at hl 2 rfl) ?_
                        refine g_getr 7 3 X hK hP hRd.1.1 rfl hinRX5 rfl (by decide) k31 (fun _ h => h) dX5_readClause_58 (show va_rf (R rd 3) = .ref a from by rw [hRd.1.2.2.1]; rfl) ?_
                        refine lv_iload_n X.1 X.2.1 dX5_readClause_61 rfl (lv_at hl 1 rfl) ?_
                        refine lv_iload_n X.1 X.2.1 dX5_readClause_62 rfl (lv_at hl 0 rfl) ?_
                        refine g_run_v (f := fun u => u) (g_runV (k := 6) [.int 0, .int (nI vN2)] X hK hP hS hC hB (o_add (w9 := 0) (v9 := vN2) hRd.1.2.2.2.2 hSr.2.2.1 hSr.2.2.2.1 hc10 (by omega)) (cwV 2 X.2.2.2.2 gX5_readClause_X4_add rfl rfl rfl (by decide +kernel) ⟨Nat.le_of_ble_eq_true rfl, Nat.le_of_ble_eq_true rfl⟩) hRd.1.2.2.2.2.1 rfl rfl hl.1 rfl (Nat.le_of_ble_eq_true rfl) dX5_readClause_63 (by exact ⟨Nat.zero_le _, Nat.zero_le _⟩)) hS (fun u H locs hq hP hS => ?_)
                        subst hq
                        generalize eA1 : g2 IN4 (a + 1) cs.length (nI 0) = A1 at hP
                        generalize eA2 : g2 A1 (a + 2) cs.length (nI vN2) = A2 at hP
                        generalize eA3 : g2 A2 (a + 3) cs.length (nI (coC cs ++ pdN4).length) = A3 at hP
                        generalize eA4 : g2 A3 a 6 (nI cs.length + 1) = A4 at hP
                        have hP : gP D cy B z T A4 R H := hP
                        refine lv_iconst (v := 1) X.1 X.2.1 dX5_readClause_66 (by decide) ?_
                        have hfr9 : ∀ c j, ¬ (c = a ∧ j = 6) → ¬ (c = a + 1) → ¬ (c = a + 2) → ¬ (c = a + 3) → A4 c j = IN4 c j := fun c j q1 q2 q3 q4 => gs_ne eA4 q1 (gs_ne eA3 (by omega) (gs_ne eA2 (by omega) (gs_ne eA1 (by omega) rfl)))
                        have hyA : IN4 a 0 = nI y.1 ∧ IN4 a 1 = nI y.2 := ⟨(hFt a 0 (by omega) (by omega)).trans hy1, (hFt a 1 (by omega) (by omega)).trans hy2⟩
                        exact g_zret (f := fun u => u) (z, T, A4, R) X hr hlk hK hP hS dX5_readClause_67 rfl ⟨A4, pN4, rfl, hFt.wk.trs (fun c j h1 h2 => hfr9 c j (by omega) (by omega) (by omega) (by omega)), (hfr9 rd 0 (by omega) (by omega) (by omega) (by omega)).trans hRd.2.2.2.1, Or.inl ⟨rfl, cs ++ [(pdN4, 0, vN2)], y, (pCl_P hfit).trans (by rw [pMust_y hb, pTail_y (hEN2 _) hb2, hEN4, pEm_f, flC_add, List.append_nil]), hSr.add hc10 (by omega) (by omega) eA1 eA2 eA3 eA4, ⟨(hfr9 a 0 (by omega) (by omega) (by omega) (by omega)).trans hyA.1, (hfr9 a 1 (by omega) (by omega) (by omega) (by omega)).trans hyA.2⟩, by simp⟩⟩
                      · exact absurd c52 (by decide)
                    · rw [hEN4] at hwN4
                      have hwN4 : (pN2 + 1) ≤ pN4 ∧ pN4 ≤ n := ⟨hwN4.1, hwN4.2.1⟩
                      have hFt := hFt.trs hfN4
                      refine lv_if_ne (tgt := 57) X.1 X.2.1 dX5_readClause_52 (by decide) (fun c52 => ?_) (fun c52 => ?_)
                      · exact absurd rfl c52
                      · have n52 : 0 = 0 := gq_eq c52 (show (0 : Int32) = nI 0 from rfl) (show (0 : Int32) = nI 0 from rfl) (by omega) (by omega)
                        refine lv_iconst (v := 0) X.1 X.2.1 dX5_readClause_55 (by decide) ?_
                        exact g_zret (f := fun u => u) (z, T, IN4, R) X hr hlk hK hP hS dX5_readClause_56 rfl ⟨IN4, pN4, rfl, hFt.wk, hpN4, Or.inr ⟨rfl, _, _, (pCl_P hfit).trans (by rw [pMust_y hb, pTail_y (hEN2 _) hb2, hEN4, pEm_tr])⟩⟩
              · exact absurd (nI_ge0 (by omega)) c26
            · refine lv_istore_n (lv' := [(2, .int (nI vN2)), (1, .int 0), (0, .ref rd)]) X.1 X.2.1 dX5_readClause_24 rfl hl (by decide) rfl (fun ls hl => ?_)
              refine lv_iload_n X.1 X.2.1 dX5_readClause_25 rfl (lv_at hl 0 rfl) ?_
              refine lv_if_ge (tgt := 31) X.1 X.2.1 dX5_readClause_26 (by decide) (fun c26 => ?_) (fun c26 => ?_)
              · have n26 : 0 ≤ vN2 := gq_le c26 (show (0 : Int32) = nI 0 from rfl) (Eq.refl (nI vN2)) (by omega) (by omega)
                refine lv_iload_n X.1 X.2.1 dX5_readClause_31 rfl (lv_at hl 1 rfl) ?_
                refine g_run_i (f := fun u => u) (g_runS [.int 0] X hK hP hS hC hB (o_has_0) (va_cwS 1 X.2.2.2.2 gX5_readClause_X4_hasCondition rfl rfl rfl (by decide +kernel) ⟨Nat.le_of_ble_eq_true rfl, Nat.le_of_ble_eq_true rfl⟩) rfl hl.1 rfl (Nat.le_of_ble_eq_true rfl) dX5_readClause_32 (by exact ⟨Nat.zero_le _, Nat.zero_le _⟩)) hS (fun r u H locs hq hP hS => ?_)
                obtain ⟨rfl, rfl⟩ := hq
                have hP : gP D cy B z T IN2 R H := hP
                refine lv_if_eq (tgt := 57) X.1 X.2.1 dX5_readClause_35 (by decide) (fun c35 => ?_) (fun c35 => ?_)
                · exact absurd c35 (by decide)
                · have n35 : ¬ 1 = 0 := gq_ne c35 (show (1 : Int32) = nI 1 from rfl) (show (0 : Int32) = nI 0 from rfl) (by omega) (by omega)
                  refine lv_aload_n X.1 X.2.1 dX5_readClause_38 rfl (lv_at hl 2 rfl) ?_
                  refine va_ldcS X.1 X.2.1 X.2.2.2.1 (vk_R.warm hC.1 hR49) dX5_readClause_39 ?_
                  refine g_run_i (f := fun u => u) (g_runV (k := 7) [.ref s49] X hK hP hS hC hB (o_reads_n hRd hs49 h2 ht49 hb2) (cwV 1 X.2.2.2.2 gX5_readClause_X5_reads rfl rfl rfl (by decide +kernel) ⟨Nat.le_of_ble_eq_true rfl, Nat.le_of_ble_eq_true rfl⟩) hRd.1.1 rfl rfl hl.1 rfl (Nat.le_of_ble_eq_true rfl) dX5_readClause_41 (by exact ⟨Nat.zero_le _, Nat.zero_le _⟩)) hS (fun r u H locs hq hP hS => ?_)
                  obtain ⟨rfl, rfl⟩ := hq
                  have hP : gP D cy B z T IN2 R H := hP
                  refine lv_if_eq (tgt := 55) X.1 X.2.1 dX5_readClause_44 (by decide) (fun c44 => ?_) (fun c44 => ?_)
                  · have n44 : 0 = 0 := gq_eq c44 (show (0 : Int32) = nI 0 from rfl) (show (0 : Int32) = nI 0 from rfl) (by omega) (by omega)
                    refine lv_iconst (v := 0) X.1 X.2.1 dX5_readClause_55 (by decide) ?_
                    exact g_zret (f := fun u => u) (z, T, IN2, R) X hr hlk hK hP hS dX5_readClause_56 rfl ⟨_, pN2, rfl, hFt.wk, hRd.2.2.2.1, Or.inr ⟨rfl, _, _, (pCl_P hfit).trans (by rw [pMust_y hb, pTail_m (hEN2 _) hb2])⟩⟩
                  · exact absurd rfl c44
              · exact absurd (nI_ge0 (by omega)) c26
          · simp only [hEN2 []] at hwN2
            have hwN2 : (pl + 5) ≤ pN2 ∧ pN2 ≤ n := ⟨hwN2.1, hwN2.2.1⟩
            have hFt := hFt.trs (fun c j h1 _ => hfN2 c j h1)
            have hRd : cRd rd tc a T IN2 R tp n pN2 := hRd.mv (fun c j h1 _ => hfN2 c j h1) hpN2 (by omega)
            have hSr : cSr a IN2 cs ([]) := hSr.k (fun c j g1 g2 => hfN2 c j (by omega))
            refine lv_istore_n (lv' := [(2, .int (-1)), (1, .int 0), (0, .ref rd)]) X.1 X.2.1 dX5_readClause_24 rfl hl (by decide) rfl (fun ls hl => ?_)
            refine lv_iload_n X.1 X.2.1 dX5_readClause_25 rfl (lv_at hl 0 rfl) ?_
            refine lv_if_ge (tgt := 31) X.1 X.2.1 dX5_readClause_26 (by decide) (fun c26 => ?_) (fun c26 => ?_)
            · exact absurd c26 (by decide)
            · refine lv_iconst (v := 0) X.1 X.2.1 dX5_readClause_29 (by decide) ?_
              exact g_zret (f := fun u => u) (z, T, IN2, R) X hr hlk hK hP hS dX5_readClause_30 rfl ⟨IN2, pN2, rfl, hFt.wk, hRd.2.2.2.1, Or.inr ⟨rfl, _, _, (pCl_P hfit).trans (by rw [pMust_y hb]; rw [pTail_f (hEN2 _)])⟩⟩
        · exact absurd c15 (by decide)
    · refine lv_istore_n (lv' := [(1, .int 0), (0, .ref rd)]) X.1 X.2.1 dX5_readClause_4 rfl hl (by decide) rfl (fun ls hl => ?_)
      refine lv_iload_n X.1 X.2.1 dX5_readClause_5 rfl (lv_at hl 0 rfl) ?_
      refine lv_if_lt (tgt := 18) X.1 X.2.1 dX5_readClause_6 (by decide) (fun c6 => ?_) (fun c6 => ?_)
      · exact absurd c6 (by decide)
      · have n6 : 0 ≤ 0 := gq_nlt c6 (show (0 : Int32) = nI 0 from rfl) (show (0 : Int32) = nI 0 from rfl) (by omega) (by omega)
        refine lv_aload_n X.1 X.2.1 dX5_readClause_9 rfl (lv_at hl 1 rfl) ?_
        refine va_ldcS X.1 X.2.1 X.2.2.2.1 (vk_R.warm hC.1 hR49) dX5_readClause_10 ?_
        refine g_run_i (f := fun u => u) (g_runV (k := 7) [.ref s49] X hK hP hS hC hB (o_reads_n hRd hs49 h2 ht49 hb) (cwV 1 X.2.2.2.2 gX5_readClause_X5_reads rfl rfl rfl (by decide +kernel) ⟨Nat.le_of_ble_eq_true rfl, Nat.le_of_ble_eq_true rfl⟩) hRd.1.1 rfl rfl hl.1 rfl (Nat.le_of_ble_eq_true rfl) dX5_readClause_12 (by exact ⟨Nat.zero_le _, Nat.zero_le _⟩)) hS (fun r u H locs hq hP hS => ?_)
        obtain ⟨rfl, rfl⟩ := hq
        have hP : gP D cy B z T I1 R H := hP
        refine lv_if_ne (tgt := 20) X.1 X.2.1 dX5_readClause_15 (by decide) (fun c15 => ?_) (fun c15 => ?_)
        · exact absurd rfl c15
        · have n15 : 0 = 0 := gq_eq c15 (show (0 : Int32) = nI 0 from rfl) (show (0 : Int32) = nI 0 from rfl) (by omega) (by omega)
          refine lv_iconst (v := 0) X.1 X.2.1 dX5_readClause_18 (by decide) ?_
          exact g_zret (f := fun u => u) (z, T, I1, R) X hr hlk hK hP hS dX5_readClause_19 rfl ⟨I1, _, rfl, hFt.wk, hRd.2.2.2.1, Or.inr ⟨rfl, _, _, (pCl_P hfit).trans (by rw [pMust_n hb]; rw [pTail_t])⟩⟩
  · by_cases hb : sH tp n (pl + 4) = 32
    · refine lv_istore_n (lv' := [(1, .int 1), (0, .ref rd)]) X.1 X.2.1 dX5_readClause_4 rfl hl (by decide) rfl (fun ls hl => ?_)
      refine lv_iload_n X.1 X.2.1 dX5_readClause_5 rfl (lv_at hl 0 rfl) ?_
      refine lv_if_lt (tgt := 18) X.1 X.2.1 dX5_readClause_6 (by decide) (fun c6 => ?_) (fun c6 => ?_)
      · exact absurd c6 (by decide)
      · have n6 : 0 ≤ 1 := gq_nlt c6 (show (1 : Int32) = nI 1 from rfl) (show (0 : Int32) = nI 0 from rfl) (by omega) (by omega)
        refine lv_aload_n X.1 X.2.1 dX5_readClause_9 rfl (lv_at hl 1 rfl) ?_
        refine va_ldcS X.1 X.2.1 X.2.2.2.1 (vk_R.warm hC.1 hR49) dX5_readClause_10 ?_
        refine g_run_i (f := fun u => u) (g_runV (k := 7) [.ref s49] X hK hP hS hC hB (o_reads_y hRd hs49 h2 ht49 hb) (cwV 1 X.2.2.2.2 gX5_readClause_X5_reads rfl rfl rfl (by decide +kernel) ⟨Nat.le_of_ble_eq_true rfl, Nat.le_of_ble_eq_true rfl⟩) hRd.1.1 rfl rfl hl.1 rfl (Nat.le_of_ble_eq_true rfl) dX5_readClause_12 (by exact ⟨Nat.zero_le _, Nat.zero_le _⟩)) hS (fun r u H locs hq hP hS => ?_)
        obtain ⟨rfl, rfl⟩ := hq
        generalize eJ5 : g2 I1 rd 0 (nI (pl + 4) + 1) = J5 at hP
        have hP : gP D cy B z T J5 R H := hP
        have hfJ5 : ∀ c j, ¬ (c = rd ∧ j = 0) → J5 c j = I1 c j := fun c j h => gs_ne eJ5 h rfl
        have hpnJ5 := sH_in hb (by decide)
        have hFt := hFt.trs (fun c j h1 _ => hfJ5 c j h1)
        have hRd : cRd rd tc a T J5 R tp n (pl + 5) := hRd.mv (fun c j h1 _ => hfJ5 c j h1) ((gs_same eJ5).trans (nI_add _ 1)) (by omega)
        have hSr : cSr a J5 cs ([]) := hSr.k (fun c j g1 g2 => hfJ5 c j (by omega))
        have hfJ := hfJ5
        refine lv_if_ne (tgt := 20) X.1 X.2.1 dX5_readClause_15 (by decide) (fun c15 => ?_) (fun c15 => ?_)
        · have n15 : ¬ 1 = 0 := gq_ne c15 (show (1 : Int32) = nI 1 from rfl) (show (0 : Int32) = nI 0 from rfl) (by omega) (by omega)
          refine lv_aload_n X.1 X.2.1 dX5_readClause_20 rfl (lv_at hl 1 rfl) ?_
          refine g_run_i (f := fun u => u) (g_runV (k := 7) [] X hK hP hS hC hB (o_num hRd hstr) (cwV 0 X.2.2.2.2 gX5_readClause_X5_readNumber rfl rfl rfl (by decide +kernel) ⟨Nat.le_of_ble_eq_true rfl, Nat.le_of_ble_eq_true rfl⟩) hRd.1.1 rfl rfl hl.1 rfl (Nat.le_of_ble_eq_true rfl) dX5_readClause_21 (by exact ⟨Nat.zero_le _, Nat.zero_le _⟩)) hS (fun r u H locs hq hP hS => ?_)
          obtain ⟨IN6, pN6, rfl, hpN6, hfN6, hq⟩ := hq
          have hP : gP D cy B z T IN6 R H := hP
          have hwN6 := pW_fig (tp := tp) (n := n) (false, (pl + 5), []) (by show (pl + 5) ≤ n; omega)
          rcases hq with ⟨vN6, rfl, hvN6, hEN6⟩ | ⟨rfl, hEN6⟩
          · simp only [hEN6 []] at hwN6
            have hwN6 : (pl + 5) ≤ pN6 ∧ pN6 ≤ n := ⟨hwN6.1, hwN6.2.1⟩
            have hFt := hFt.trs (fun c j h1 _ => hfN6 c j h1)
            have hRd : cRd rd tc a T IN6 R tp n pN6 := hRd.mv (fun c j h1 _ => hfN6 c j h1) hpN6 (by omega)
            have hSr : cSr a IN6 cs ([]) := hSr.k (fun c j g1 g2 => hfN6 c j (by omega))
            by_cases hb2 : sH tp n pN6 = 32
            · refine lv_istore_n (lv' := [(2, .int (nI vN6)), (1, .int 1), (0, .ref rd)]) X.1 X.2.1 dX5_readClause_24 rfl hl (by decide) rfl (fun ls hl => ?_)
              refine lv_iload_n X.1 X.2.1 dX5_readClause_25 rfl (lv_at hl 0 rfl) ?_
              refine lv_if_ge (tgt := 31) X.1 X.2.1 dX5_readClause_26 (by decide) (fun c26 => ?_) (fun c26 => ?_)
              · have n26 : 0 ≤ vN6 := gq_le c26 (show (0 : Int32) = nI 0 from rfl) (Eq.refl (nI vN6)) (by omega) (by omega)
                refine lv_iload_n X.1 X.2.1 dX5_readClause_31 rfl (lv_at hl 1 rfl) ?_
                refine g_run_i (f := fun u => u) (g_runS [.int 1] X hK hP hS hC hB (o_has_1) (va_cwS 1 X.2.2.2.2 gX5_readClause_X4_hasCondition rfl rfl rfl (by decide +kernel) ⟨Nat.le_of_ble_eq_true rfl, Nat.le_of_ble_eq_true rfl⟩) rfl hl.1 rfl (Nat.le_of_ble_eq_true rfl) dX5_readClause_32 (by exact ⟨Nat.zero_le _, Nat.zero_le _⟩)) hS (fun r u H locs hq hP hS => ?_)
                obtain ⟨rfl, rfl⟩ := hq
                have hP : gP D cy B z T IN6 R H := hP
                refine lv_if_eq (tgt := 57) X.1 X.2.1 dX5_readClause_35 (by decide) (fun c35 => ?_) (fun c35 => ?_)
                · exact absurd c35 (by decide)
                · have n35 : ¬ 1 = 0 := gq_ne c35 (show (1 : Int32) = nI 1 from rfl) (show (0 : Int32) = nI 0 from rfl) (by omega) (by omega)
                  refine lv_aload_n X.1 X.2.1 dX5_readClause_38 rfl (lv_at hl 2 rfl) ?_
                  refine va_ldcS X.1 X.2.1 X.2.2.2.1 (vk_R.warm hC.1 hR49) dX5_readClause_39 ?_
                  refine g_run_i (f := fun u => u) (g_runV (k := 7) [.ref s49] X hK hP hS hC hB (o_reads_y hRd hs49 h2 ht49 hb2) (cwV 1 X.2.2.2.2 gX5_readClause_X5_reads rfl rfl rfl (by decide +kernel) ⟨Nat.le_of_ble_eq_true rfl, Nat.le_of_ble_eq_true rfl⟩) hRd.1.1 rfl rfl hl.1 rfl (Nat.le_of_ble_eq_true rfl) dX5_readClause_41 (by exact ⟨Nat.zero_le _, Nat.zero_le _⟩)) hS (fun r u H locs hq hP hS => ?_)
                  obtain ⟨rfl, rfl⟩ := hq
                  generalize eJ7 : g2 IN6 rd 0 (nI pN6 + 1) = J7 at hP
                  have hP : gP D cy B z T J7 R H := hP
                  have hfJ7 : ∀ c j, ¬ (c = rd ∧ j = 0) → J7 c j = IN6 c j := fun c j h => gs_ne eJ7 h rfl
                  have hpnJ7 := sH_in hb2 (by decide)
                  have hFt := hFt.trs (fun c j h1 _ => hfJ7 c j h1)
                  have hRd : cRd rd tc a T J7 R tp n (pN6 + 1) := hRd.mv (fun c j h1 _ => hfJ7 c j h1) ((gs_same eJ7).trans (nI_add _ 1)) (by omega)
                  have hSr : cSr a J7 cs ([]) := hSr.k (fun c j g1 g2 => hfJ7 c j (by omega))
                  refine lv_if_eq (tgt := 55) X.1 X.2.1 dX5_readClause_44 (by decide) (fun c44 => ?_) (fun c44 => ?_)
                  · exact absurd c44 (by decide)
                  · have n44 : ¬ 1 = 0 := gq_ne c44 (show (1 : Int32) = nI 1 from rfl) (show (0 : Int32) = nI 0 from rfl) (by omega) (by omega)
                    refine lv_aload_n X.1 X.2.1 dX5_readClause_47 rfl (lv_at hl 2 rfl) ?_
                    refine lv_iconst (v := 0) X.1 X.2.1 dX5_readClause_48 (by decide) ?_
                    refine g_run_i (f := fun u => u) (g_runV (k := 7) [.int 0] X hK hP hS hC hB (o_either_5 hRd hstr hSr (by omega) (by omega)) (cwV 1 X.2.2.2.2 gX5_readClause_X5_readEither rfl rfl rfl (by decide +kernel) ⟨Nat.le_of_ble_eq_true rfl, Nat.le_of_ble_eq_true rfl⟩) hRd.1.1 rfl rfl hl.1 rfl (Nat.le_of_ble_eq_true rfl) dX5_readClause_49 (by exact ⟨Nat.zero_le _, Nat.zero_le _⟩)) hS (fun r u H locs hq hP hS => ?_)
                    obtain ⟨IN8, pN8, rfl, hfN8, hpN8, hq⟩ := hq
                    have hP : gP D cy B z T IN8 R H := hP
                    have hwN8 := (pW_some (tp := tp) (pW_fac (tp := tp) (n := n) 5)) (false, (pN6 + 1), flC cs ++ ([])) (by show (pN6 + 1) ≤ n; omega)
                    rcases hq with ⟨rfl, pdN8, hEN8, hSN8⟩ | ⟨rfl, LN8, hEN8⟩
                    · rw [hEN8] at hwN8
                      have hwN8 : (pN6 + 1) ≤ pN8 ∧ pN8 ≤ n ∧ (flC cs ++ pdN8).length + (pN6 + 1) ≤ pN8 + (flC cs ++ ([])).length := hwN8
                      have hcoN8 := co_le (cs := cs) (pd := pdN8)
                      have hFt := hFt.trs hfN8
                      have hRd : cRd rd tc a T IN8 R tp n pN8 := hRd.mv hfN8 hpN8 hwN8.2.1
                      have hSr : cSr a IN8 cs pdN8 := hSN8
                      refine lv_if_ne (tgt := 57) X.1 X.2.1 dX5_readClause_52 (by decide) (fun c52 => ?_) (fun c52 => ?_)
                      · have n52 : ¬ 1 = 0 := gq_ne c52 (show (1 : Int32) = nI 1 from rfl) (show (0 : Int32) = nI 0 from rfl) (by omega) (by omega)
                        refine lv_aload_n X.1 X.2.1 dX5_readClause_57 rfl (lv_at hl 2 rfl) ?_
                        refine g_getr 7 3 X hK hP hRd.1.1 rfl hinRX5 rfl (by decide) k31 (fun _ h => h) dX5_readClause_58 (show va_rf (R rd 3) = .ref a from by rw [hRd.1.2.2.1]; rfl) ?_
                        refine lv_iload_n X.1 X.2.1 dX5_readClause_61 rfl (lv_at hl 1 rfl) ?_
                        refine lv_iload_n X.1 X.2.1 dX5_readClause_62 rfl (lv_at hl 0 rfl) ?_
                        refine g_run_v (f := fun u => u) (g_runV (k := 6) [.int 1, .int (nI vN6)] X hK hP hS hC hB (o_add (w9 := 1) (v9 := vN6) hRd.1.2.2.2.2 hSr.2.2.1 hSr.2.2.2.1 hc10 (by omega)) (cwV 2 X.2.2.2.2 gX5_readClause_X4_add rfl rfl rfl (by decide +kernel) ⟨Nat.le_of_ble_eq_true rfl, Nat.le_of_ble_eq_true rfl⟩) hRd.1.2.2.2.2.1 rfl rfl hl.1 rfl (Nat.le_of_ble_eq_true rfl) dX5_readClause_63 (by exact ⟨Nat.zero_le _, Nat.zero_le _⟩)) hS (fun u H locs hq hP hS => ?_)
                        subst hq
                        generalize eA1 : g2 IN8 (a + 1) cs.length (nI 1) = A1 at hP
                        generalize eA2 : g2 A1 (a + 2) cs.length (nI vN6) = A2 at hP
                        generalize eA3 : g2 A2 (a + 3) cs.length (nI (coC cs ++ pdN8).length) = A3 at hP
                        generalize eA4 : g2 A3 a 6 (nI cs.length + 1) = A4 at hP
                        have hP : gP D cy B z T A4 R H := hP
                        refine lv_iconst (v := 1) X.1 X.2.1 dX5_readClause_66 (by decide) ?_
                        have hfr9 : ∀ c j, ¬ (c = a ∧ j = 6) → ¬ (c = a + 1) → ¬ (c = a + 2) → ¬ (c = a + 3) → A4 c j = IN8 c j := fun c j q1 q2 q3 q4 => gs_ne eA4 q1 (gs_ne eA3 (by omega) (gs_ne eA2 (by omega) (gs_ne eA1 (by omega) rfl)))
                        have hyA : IN8 a 0 = nI y.1 ∧ IN8 a 1 = nI y.2 := ⟨(hFt a 0 (by omega) (by omega)).trans hy1, (hFt a 1 (by omega) (by omega)).trans hy2⟩
                        exact g_zret (f := fun u => u) (z, T, A4, R) X hr hlk hK hP hS dX5_readClause_67 rfl ⟨A4, pN8, rfl, hFt.wk.trs (fun c j h1 h2 => hfr9 c j (by omega) (by omega) (by omega) (by omega)), (hfr9 rd 0 (by omega) (by omega) (by omega) (by omega)).trans hRd.2.2.2.1, Or.inl ⟨rfl, cs ++ [(pdN8, 1, vN6)], y, (pCl_E hfit).trans (by rw [pMust_y hb, pTail_y (hEN6 _) hb2, hEN8, pEm_f, flC_add, List.append_nil]), hSr.add hc10 (by omega) (by omega) eA1 eA2 eA3 eA4, ⟨(hfr9 a 0 (by omega) (by omega) (by omega) (by omega)).trans hyA.1, (hfr9 a 1 (by omega) (by omega) (by omega) (by omega)).trans hyA.2⟩, by simp⟩⟩
                      · exact absurd c52 (by decide)
                    · rw [hEN8] at hwN8
                      have hwN8 : (pN6 + 1) ≤ pN8 ∧ pN8 ≤ n := ⟨hwN8.1, hwN8.2.1⟩
                      have hFt := hFt.trs hfN8
                      refine lv_if_ne (tgt := 57) X.1 X.2.1 dX5_readClause_52 (by decide) (fun c52 => ?_) (fun c52 => ?_)
                      · exact absurd rfl c52
                      · have n52 : 0 = 0 := gq_eq c52 (show (0 : Int32) = nI 0 from rfl) (show (0 : Int32) = nI 0 from rfl) (by omega) (by omega)
                        refine lv_iconst (v := 0) X.1 X.2.1 dX5_readClause_55 (by decide) ?_
                        exact g_zret (f := fun u => u) (z, T, IN8, R) X hr hlk hK hP hS dX5_readClause_56 rfl ⟨IN8, pN8, rfl, hFt.wk, hpN8, Or.inr ⟨rfl, _, _, (pCl_E hfit).trans (by rw [pMust_y hb, pTail_y (hEN6 _) hb2, hEN8, pEm_tr])⟩⟩
              · exact absurd (nI_ge0 (by omega)) c26
            · refine lv_istore_n (lv' := [(2, .int (nI vN6)), (1, .int 1), (0, .ref rd)]) X.1 X.2.1 dX5_readClause_24 rfl hl (by decide) rfl (fun ls hl => ?_)
              refine lv_iload_n X.1 X.2.1 dX5_readClause_25 rfl (lv_at hl 0 rfl) ?_
              refine lv_if_ge (tgt := 31) X.1 X.2.1 dX5_readClause_26 (by decide) (fun c26 => ?_) (fun c26 => ?_)
              · have n26 : 0 ≤ vN6 := gq_le c26 (show (0 : Int32) = nI 0 from rfl) (Eq.refl (nI vN6)) (by omega) (by omega)
                refine lv_iload_n X.1 X.2.1 dX5_readClause_31 rfl (lv_at hl 1 rfl) ?_
                refine g_run_i (f := fun u => u) (g_runS [.int 1] X hK hP hS hC hB (o_has_1) (va_cwS 1 X.2.2.2.2 gX5_readClause_X4_hasCondition rfl rfl rfl (by decide +kernel) ⟨Nat.le_of_ble_eq_true rfl, Nat.le_of_ble_eq_true rfl⟩) rfl hl.1 rfl (Nat.le_of_ble_eq_true rfl) dX5_readClause_32 (by exact ⟨Nat.zero_le _, Nat.zero_le _⟩)) hS (fun r u H locs hq hP hS => ?_)
                obtain ⟨rfl, rfl⟩ := hq
                have hP : gP D cy B z T IN6 R H := hP
                refine lv_if_eq (tgt := 57) X.1 X.2.1 dX5_readClause_35 (by decide) (fun c35 => ?_) (fun c35 => ?_)
                · exact absurd c35 (by decide)
                · have n35 : ¬ 1 = 0 := gq_ne c35 (show (1 : Int32) = nI 1 from rfl) (show (0 : Int32) = nI 0 from rfl) (by omega) (by omega)
                  refine lv_aload_n X.1 X.2.1 dX5_readClause_38 rfl (lv_at hl 2 rfl) ?_
                  refine va_ldcS X.1 X.2.1 X.2.2.2.1 (vk_R.warm hC.1 hR49) dX5_readClause_39 ?_
                  refine g_run_i (f := fun u => u) (g_runV (k := 7) [.ref s49] X hK hP hS hC hB (o_reads_n hRd hs49 h2 ht49 hb2) (cwV 1 X.2.2.2.2 gX5_readClause_X5_reads rfl rfl rfl (by decide +kernel) ⟨Nat.le_of_ble_eq_true rfl, Nat.le_of_ble_eq_true rfl⟩) hRd.1.1 rfl rfl hl.1 rfl (Nat.le_of_ble_eq_true rfl) dX5_readClause_41 (by exact ⟨Nat.zero_le _, Nat.zero_le _⟩)) hS (fun r u H locs hq hP hS => ?_)
                  obtain ⟨rfl, rfl⟩ := hq
                  have hP : gP D cy B z T IN6 R H := hP
                  refine lv_if_eq (tgt := 55) X.1 X.2.1 dX5_readClause_44 (by decide) (fun c44 => ?_) (fun c44 => ?_)
                  · have n44 : 0 = 0 := gq_eq c44 (show (0 : Int32) = nI 0 from rfl) (show (0 : Int32) = nI 0 from rfl) (by omega) (by omega)
                    refine lv_iconst (v := 0) X.1 X.2.1 dX5_readClause_55 (by decide) ?_
                    exact g_zret (f := fun u => u) (z, T, IN6, R) X hr hlk hK hP hS dX5_readClause_56 rfl ⟨_, pN6, rfl, hFt.wk, hRd.2.2.2.1, Or.inr ⟨rfl, _, _, (pCl_E hfit).trans (by rw [pMust_y hb, pTail_m (hEN6 _) hb2])⟩⟩
                  · exact absurd rfl c44
              · exact absurd (nI_ge0 (by omega)) c26
          · simp only [hEN6 []] at hwN6
            have hwN6 : (pl + 5) ≤ pN6 ∧ pN6 ≤ n := ⟨hwN6.1, hwN6.2.1⟩
            have hFt := hFt.trs (fun c j h1 _ => hfN6 c j h1)
            have hRd : cRd rd tc a T IN6 R tp n pN6 := hRd.mv (fun c j h1 _ => hfN6 c j h1) hpN6 (by omega)
            have hSr : cSr a IN6 cs ([]) := hSr.k (fun c j g1 g2 => hfN6 c j (by omega))
            refine lv_istore_n (lv' := [(2, .int (-1)), (1, .int 1), (0, .ref rd)]) X.1 X.2.1 dX5_readClause_24 rfl hl (by decide) rfl (fun ls hl => ?_)
            refine lv_iload_n X.1 X.2.1 dX5_readClause_25 rfl (lv_at hl 0 rfl) ?_
            refine lv_if_ge (tgt := 31) X.1 X.2.1 dX5_readClause_26 (by decide) (fun c26 => ?_) (fun c26 => ?_)
            · exact absurd c26 (by decide)
            · refine lv_iconst (v := 0) X.1 X.2.1 dX5_readClause_29 (by decide) ?_
              exact g_zret (f := fun u => u) (z, T, IN6, R) X hr hlk hK hP hS dX5_readClause_30 rfl ⟨IN6, pN6, rfl, hFt.wk, hRd.2.2.2.1, Or.inr ⟨rfl, _, _, (pCl_E hfit).trans (by rw [pMust_y hb]; rw [pTail_f (hEN6 _)])⟩⟩
        · exact absurd c15 (by decide)
    · refine lv_istore_n (lv' := [(1, .int 1), (0, .ref rd)]) X.1 X.2.1 dX5_readClause_4 rfl hl (by decide) rfl (fun ls hl => ?_)
      refine lv_iload_n X.1 X.2.1 dX5_readClause_5 rfl (lv_at hl 0 rfl) ?_
      refine lv_if_lt (tgt := 18) X.1 X.2.1 dX5_readClause_6 (by decide) (fun c6 => ?_) (fun c6 => ?_)
      · exact absurd c6 (by decide)
      · have n6 : 0 ≤ 1 := gq_nlt c6 (show (1 : Int32) = nI 1 from rfl) (show (0 : Int32) = nI 0 from rfl) (by omega) (by omega)
        refine lv_aload_n X.1 X.2.1 dX5_readClause_9 rfl (lv_at hl 1 rfl) ?_
        refine va_ldcS X.1 X.2.1 X.2.2.2.1 (vk_R.warm hC.1 hR49) dX5_readClause_10 ?_
        refine g_run_i (f := fun u => u) (g_runV (k := 7) [.ref s49] X hK hP hS hC hB (o_reads_n hRd hs49 h2 ht49 hb) (cwV 1 X.2.2.2.2 gX5_readClause_X5_reads rfl rfl rfl (by decide +kernel) ⟨Nat.le_of_ble_eq_true rfl, Nat.le_of_ble_eq_true rfl⟩) hRd.1.1 rfl rfl hl.1 rfl (Nat.le_of_ble_eq_true rfl) dX5_readClause_12 (by exact ⟨Nat.zero_le _, Nat.zero_le _⟩)) hS (fun r u H locs hq hP hS => ?_)
        obtain ⟨rfl, rfl⟩ := hq
        have hP : gP D cy B z T I1 R H := hP
        refine lv_if_ne (tgt := 20) X.1 X.2.1 dX5_readClause_15 (by decide) (fun c15 => ?_) (fun c15 => ?_)
        · exact absurd rfl c15
        · have n15 : 0 = 0 := gq_eq c15 (show (0 : Int32) = nI 0 from rfl) (show (0 : Int32) = nI 0 from rfl) (by omega) (by omega)
          refine lv_iconst (v := 0) X.1 X.2.1 dX5_readClause_18 (by decide) ?_
          exact g_zret (f := fun u => u) (z, T, I1, R) X hr hlk hK hP hS dX5_readClause_19 rfl ⟨I1, _, rfl, hFt.wk, hRd.2.2.2.1, Or.inr ⟨rfl, _, _, (pCl_E hfit).trans (by rw [pMust_n hb]; rw [pTail_t])⟩⟩
  · by_cases hb : sH tp n (pl + 5) = 32
    · refine lv_istore_n (lv' := [(1, .int 2), (0, .ref rd)]) X.1 X.2.1 dX5_readClause_4 rfl hl (by decide) rfl (fun ls hl => ?_)
      refine lv_iload_n X.1 X.2.1 dX5_readClause_5 rfl (lv_at hl 0 rfl) ?_
      refine lv_if_lt (tgt := 18) X.1 X.2.1 dX5_readClause_6 (by decide) (fun c6 => ?_) (fun c6 => ?_)
      · exact absurd c6 (by decide)
      · have n6 : 0 ≤ 2 := gq_nlt c6 (show (2 : Int32) = nI 2 from rfl) (show (0 : Int32) = nI 0 from rfl) (by omega) (by omega)
        refine lv_aload_n X.1 X.2.1 dX5_readClause_9 rfl (lv_at hl 1 rfl) ?_
        refine va_ldcS X.1 X.2.1 X.2.2.2.1 (vk_R.warm hC.1 hR49) dX5_readClause_10 ?_
        refine g_run_i (f := fun u => u) (g_runV (k := 7) [.ref s49] X hK hP hS hC hB (o_reads_y hRd hs49 h2 ht49 hb) (cwV 1 X.2.2.2.2 gX5_readClause_X5_reads rfl rfl rfl (by decide +kernel) ⟨Nat.le_of_ble_eq_true rfl, Nat.le_of_ble_eq_true rfl⟩) hRd.1.1 rfl rfl hl.1 rfl (Nat.le_of_ble_eq_true rfl) dX5_readClause_12 (by exact ⟨Nat.zero_le _, Nat.zero_le _⟩)) hS (fun r u H locs hq hP hS => ?_)
        obtain ⟨rfl, rfl⟩ := hq
        generalize eJ9 : g2 I1 rd 0 (nI (pl + 5) + 1) = J9 at hP
        have hP : gP D cy B z T J9 R H := hP
        have hfJ9 : ∀ c j, ¬ (c = rd ∧ j = 0) → J9 c j = I1 c j := fun c j h => gs_ne eJ9 h rfl
        have hpnJ9 := sH_in hb (by decide)
        have hFt := hFt.trs (fun c j h1 _ => hfJ9 c j h1)
        have hRd : cRd rd tc a T J9 R tp n (pl + 6) := hRd.mv (fun c j h1 _ => hfJ9 c j h1) ((gs_same eJ9).trans (nI_add _ 1)) (by omega)
        have hSr : cSr a J9 cs ([]) := hSr.k (fun c j g1 g2 => hfJ9 c j (by omega))
        have hfJ := hfJ9
        refine lv_if_ne (tgt := 20) X.1 X.2.1 dX5_readClause_15 (by decide) (fun c15 => ?_) (fun c15 => ?_)
        · have n15 : ¬ 1 = 0 := gq_ne c15 (show (1 : Int32) = nI 1 from rfl) (show (0 : Int32) = nI 0 from rfl) (by omega) (by omega)
          refine lv_aload_n X.1 X.2.1 dX5_readClause_20 rfl (lv_at hl 1 rfl) ?_
          refine g_run_i (f := fun u => u) (g_runV (k := 7) [] X hK hP hS hC hB (o_num hRd hstr) (cwV 0 X.2.2.2.2 gX5_readClause_X5_readNumber rfl rfl rfl (by decide +kernel) ⟨Nat.le_of_ble_eq_true rfl, Nat.le_of_ble_eq_true rfl⟩) hRd.1.1 rfl rfl hl.1 rfl (Nat.le_of_ble_eq_true rfl) dX5_readClause_21 (by exact ⟨Nat.zero_le _, Nat.zero_le _⟩)) hS (fun r u H locs hq hP hS => ?_)
          obtain ⟨IN10, pN10, rfl, hpN10, hfN10, hq⟩ := hq
          have hP : gP D cy B z T IN10 R H := hP
          have hwN10 := pW_fig (tp := tp) (n := n) (false, (pl + 6), []) (by show (pl + 6) ≤ n; omega)
          rcases hq with ⟨vN10, rfl, hvN10, hEN10⟩ | ⟨rfl, hEN10⟩
          · simp only [hEN10 []] at hwN10
            have hwN10 : (pl + 6) ≤ pN10 ∧ pN10 ≤ n := ⟨hwN10.1, hwN10.2.1⟩
            have hFt := hFt.trs (fun c j h1 _ => hfN10 c j h1)
            have hRd : cRd rd tc a T IN10 R tp n pN10 := hRd.mv (fun c j h1 _ => hfN10 c j h1) hpN10 (by omega)
            have hSr : cSr a IN10 cs ([]) := hSr.k (fun c j g1 g2 => hfN10 c j (by omega))
            by_cases hb2 : sH tp n pN10 = 32
            · refine lv_istore_n (lv' := [(2, .int (nI vN10)), (1, .int 2), (0, .ref rd)]) X.1 X.2.1 dX5_readClause_24 rfl hl (by decide) rfl (fun ls hl => ?_)
              refine lv_iload_n X.1 X.2.1 dX5_readClause_25 rfl (lv_at hl 0 rfl) ?_
              refine lv_if_ge (tgt := 31) X.1 X.2.1 dX5_readClause_26 (by decide) (fun c26 => ?_) (fun c26 => ?_)
              · have n26 : 0 ≤ vN10 := gq_le c26 (show (0 : Int32) = nI 0 from rfl) (Eq.refl (nI vN10)) (by omega) (by omega)
                refine lv_iload_n X.1 X.2.1 dX5_readClause_31 rfl (lv_at hl 1 rfl) ?_
                refine g_run_i (f := fun u => u) (g_runS [.int 2] X hK hP hS hC hB (o_has_2) (va_cwS 1 X.2.2.2.2 gX5_readClause_X4_hasCondition rfl rfl rfl (by decide +kernel) ⟨Nat.le_of_ble_eq_true rfl, Nat.le_of_ble_eq_true rfl⟩) rfl hl.1 rfl (Nat.le_of_ble_eq_true rfl) dX5_readClause_32 (by exact ⟨Nat.zero_le _, Nat.zero_le _⟩)) hS (fun r u H locs hq hP hS => ?_)
                obtain ⟨rfl, rfl⟩ := hq
                have hP : gP D cy B z T IN10 R H := hP
                refine lv_if_eq (tgt := 57) X.1 X.2.1 dX5_readClause_35 (by decide) (fun c35 => ?_) (fun c35 => ?_)
                · exact absurd c35 (by decide)
                · have n35 : ¬ 1 = 0 := gq_ne c35 (show (1 : Int32) = nI 1 from rfl) (show (0 : Int32) = nI 0 from rfl) (by omega) (by omega)
                  refine lv_aload_n X.1 X.2.1 dX5_readClause_38 rfl (lv_at hl 2 rfl) ?_
                  refine va_ldcS X.1 X.2.1 X.2.2.2.1 (vk_R.warm hC.1 hR49) dX5_readClause_39 ?_
                  refine g_run_i (f := fun u => u) (g_runV (k := 7) [.ref s49] X hK hP hS hC hB (o_reads_y hRd hs49 h2 ht49 hb2) (cwV 1 X.2.2.2.2 gX5_readClause_X5_reads rfl rfl rfl (by decide +kernel) ⟨Nat.le_of_ble_eq_true rfl, Nat.le_of_ble_eq_true rfl⟩) hRd.1.1 rfl rfl hl.1 rfl (Nat.le_of_ble_eq_true rfl) dX5_readClause_41 (by exact ⟨Nat.zero_le _, Nat.zero_le _⟩)) hS (fun r u H locs hq hP hS => ?_)
                  obtain ⟨rfl, rfl⟩ := hq
                  generalize eJ11 : g2 IN10 rd 0 (nI pN10 + 1) = J11 at hP
                  have hP : gP D cy B z T J11 R H := hP
                  have hfJ11 : ∀ c j, ¬ (c = rd ∧ j = 0) → J11 c j = IN10 c j := fun c j h => gs_ne eJ11 h rfl
                  have hpnJ11 := sH_in hb2 (by decide)
                  have hFt := hFt.trs (fun c j h1 _ => hfJ11 c j h1)
                  have hRd : cRd rd tc a T J11 R tp n (pN10 + 1) := hRd.mv (fun c j h1 _ => hfJ11 c j h1) ((gs_same eJ11).trans (nI_add _ 1)) (by omega)
                  have hSr : cSr a J11 cs ([]) := hSr.k (fun c j g1 g2 => hfJ11 c j (by omega))
                  refine lv_if_eq (tgt := 55) X.1 X.2.1 dX5_readClause_44 (by decide) (fun c44 => ?_) (fun c44 => ?_)
                  · exact absurd c44 (by decide)
                  · have n44 : ¬ 1 = 0 := gq_ne c44 (show (1 : Int32) = nI 1 from rfl) (show (0 : Int32) = nI 0 from rfl) (by omega) (by omega)
                    refine lv_aload_n X.1 X.2.1 dX5_readClause_47 rfl (lv_at hl 2 rfl) ?_
                    refine lv_iconst (v := 0) X.1 X.2.1 dX5_readClause_48 (by decide) ?_
                    refine g_run_i (f := fun u => u) (g_runV (k := 7) [.int 0] X hK hP hS hC hB (o_either_5 hRd hstr hSr (by omega) (by omega)) (cwV 1 X.2.2.2.2 gX5_readClause_X5_readEither rfl rfl rfl (by decide +kernel) ⟨Nat.le_of_ble_eq_true rfl, Nat.le_of_ble_eq_true rfl⟩) hRd.1.1 rfl rfl hl.1 rfl (Nat.le_of_ble_eq_true rfl) dX5_readClause_49 (by exact ⟨Nat.zero_le _, Nat.zero_le _⟩)) hS (fun r u H locs hq hP hS => ?_)
                    obtain ⟨IN12, pN12, rfl, hfN12, hpN12, hq⟩ := hq
                    have hP : gP D cy B z T IN12 R H := hP
                    have hwN12 := (pW_some (tp := tp) (pW_fac (tp := tp) (n := n) 5)) (false, (pN10 + 1), flC cs ++ ([])) (by show (pN10 + 1) ≤ n; omega)
                    rcases hq with ⟨rfl, pdN12, hEN12, hSN12⟩ | ⟨rfl, LN12, hEN12⟩
                    · rw [hEN12] at hwN12
                      have hwN12 : (pN10 + 1) ≤ pN12 ∧ pN12 ≤ n ∧ (flC cs ++ pdN12).length + (pN10 + 1) ≤ pN12 + (flC cs ++ ([])).length := hwN12
                      have hcoN12 := co_le (cs := cs) (pd := pdN12)
                      have hFt := hFt.trs hfN12
                      have hRd : cRd rd tc a T IN12 R tp n pN12 := hRd.mv hfN12 hpN12 hwN12.2.1
                      have hSr : cSr a IN12 cs pdN12 := hSN12
                      refine lv_if_ne (tgt := 57) X.1 X.2.1 dX5_readClause_52 (by decide) (fun c52 => ?_) (fun c52 => ?_)
                      · have n52 : ¬ 1 = 0 := gq_ne c52 (show (1 : Int32) = nI 1 from rfl) (show (0 : Int32) = nI 0 from rfl) (by omega) (by omega)
                        refine lv_aload_n X.1 X.2.1 dX5_readClause_57 rfl (lv_at hl 2 rfl) ?_
                        refine g_getr 7 3 X hK hP hRd.1.1 rfl hinRX5 rfl (by decide) k31 (fun _ h => h) dX5_readClause_58 (show va_rf (R rd 3) = .ref a from by rw [hRd.1.2.2.1]; rfl) ?_
                        refine lv_iload_n X.1 X.2.1 dX5_readClause_61 rfl (lv_at hl 1 rfl) ?_
                        refine lv_iload_n X.1 X.2.1 dX5_readClause_62 rfl (lv_at hl 0 rfl) ?_
                        refine g_run_v (f := fun u => u) (g_runV (k := 6) [.int 2, .int (nI vN10)] X hK hP hS hC hB (o_add (w9 := 2) (v9 := vN10) hRd.1.2.2.2.2 hSr.2.2.1 hSr.2.2.2.1 hc10 (by omega)) (cwV 2 X.2.2.2.2 gX5_readClause_X4_add rfl rfl rfl (by decide +kernel) ⟨Nat.le_of_ble_eq_true rfl, Nat.le_of_ble_eq_true rfl⟩) hRd.1.2.2.2.2.1 rfl rfl hl.1 rfl (Nat.le_of_ble_eq_true rfl) dX5_readClause_63 (by exact ⟨Nat.zero_le _, Nat.zero_le _⟩)) hS (fun u H locs hq hP hS => ?_)
                        subst hq
                        generalize eA1 : g2 IN12 (a + 1) cs.length (nI 2) = A1 at hP
                        generalize eA2 : g2 A1 (a + 2) cs.length (nI vN10) = A2 at hP
                        generalize eA3 : g2 A2 (a + 3) cs.length (nI (coC cs ++ pdN12).length) = A3 at hP
                        generalize eA4 : g2 A3 a 6 (nI cs.length + 1) = A4 at hP
                        have hP : gP D cy B z T A4 R H := hP
                        refine lv_iconst (v := 1) X.1 X.2.1 dX5_readClause_66 (by decide) ?_
                        have hfr9 : ∀ c j, ¬ (c = a ∧ j = 6) → ¬ (c = a + 1) → ¬ (c = a + 2) → ¬ (c = a + 3) → A4 c j = IN12 c j := fun c j q1 q2 q3 q4 => gs_ne eA4 q1 (gs_ne eA3 (by omega) (gs_ne eA2 (by omega) (gs_ne eA1 (by omega) rfl)))
                        have hyA : IN12 a 0 = nI y.1 ∧ IN12 a 1 = nI y.2 := ⟨(hFt a 0 (by omega) (by omega)).trans hy1, (hFt a 1 (by omega) (by omega)).trans hy2⟩
                        exact g_zret (f := fun u => u) (z, T, A4, R) X hr hlk hK hP hS dX5_readClause_67 rfl ⟨A4, pN12, rfl, hFt.wk.trs (fun c j h1 h2 => hfr9 c j (by omega) (by omega) (by omega) (by omega)), (hfr9 rd 0 (by omega) (by omega) (by omega) (by omega)).trans hRd.2.2.2.1, Or.inl ⟨rfl, cs ++ [(pdN12, 2, vN10)], y, (pCl_S hfit).trans (by rw [pMust_y hb, pTail_y (hEN10 _) hb2, hEN12, pEm_f, flC_add, List.append_nil]), hSr.add hc10 (by omega) (by omega) eA1 eA2 eA3 eA4, ⟨(hfr9 a 0 (by omega) (by omega) (by omega) (by omega)).trans hyA.1, (hfr9 a 1 (by omega) (by omega) (by omega) (by omega)).trans hyA.2⟩, by simp⟩⟩
                      · exact absurd c52 (by decide)
                    · rw [hEN12] at hwN12
                      have hwN12 : (pN10 + 1) ≤ pN12 ∧ pN12 ≤ n := ⟨hwN12.1, hwN12.2.1⟩
                      have hFt := hFt.trs hfN12
                      refine lv_if_ne (tgt := 57) X.1 X.2.1 dX5_readClause_52 (by decide) (fun c52 => ?_) (fun c52 => ?_)
                      · exact absurd rfl c52
                      · have n52 : 0 = 0 := gq_eq c52 (show (0 : Int32) = nI 0 from rfl) (show (0 : Int32) = nI 0 from rfl) (by omega) (by omega)
                        refine lv_iconst (v := 0) X.1 X.2.1 dX5_readClause_55 (by decide) ?_
                        exact g_zret (f := fun u => u) (z, T, IN12, R) X hr hlk hK hP hS dX5_readClause_56 rfl ⟨IN12, pN12, rfl, hFt.wk, hpN12, Or.inr ⟨rfl, _, _, (pCl_S hfit).trans (by rw [pMust_y hb, pTail_y (hEN10 _) hb2, hEN12, pEm_tr])⟩⟩
              · exact absurd (nI_ge0 (by omega)) c26
            · refine lv_istore_n (lv' := [(2, .int (nI vN10)), (1, .int 2), (0, .ref rd)]) X.1 X.2.1 dX5_readClause_24 rfl hl (by decide) rfl (fun ls hl => ?_)
              refine lv_iload_n X.1 X.2.1 dX5_readClause_25 rfl (lv_at hl 0 rfl) ?_
              refine lv_if_ge (tgt := 31) X.1 X.2.1 dX5_readClause_26 (by decide) (fun c26 => ?_) (fun c26 => ?_)
              · have n26 : 0 ≤ vN10 := gq_le c26 (show (0 : Int32) = nI 0 from rfl) (Eq.refl (nI vN10)) (by omega) (by omega)
                refine lv_iload_n X.1 X.2.1 dX5_readClause_31 rfl (lv_at hl 1 rfl) ?_
                refine g_run_i (f := fun u => u) (g_runS [.int 2] X hK hP hS hC hB (o_has_2) (va_cwS 1 X.2.2.2.2 gX5_readClause_X4_hasCondition rfl rfl rfl (by decide +kernel) ⟨Nat.le_of_ble_eq_true rfl, Nat.le_of_ble_eq_true rfl⟩) rfl hl.1 rfl (Nat.le_of_ble_eq_true rfl) dX5_readClause_32 (by exact ⟨Nat.zero_le _, Nat.zero_le _⟩)) hS (fun r u H locs hq hP hS => ?_)
                obtain ⟨rfl, rfl⟩ := hq
                have hP : gP D cy B z T IN10 R H := hP
                refine lv_if_eq (tgt := 57) X.1 X.2.1 dX5_readClause_35 (by decide) (fun c35 => ?_) (fun c35 => ?_)
                · exact absurd c35 (by decide)
                · have n35 : ¬ 1 = 0 := gq_ne c35 (show (1 : Int32) = nI 1 from rfl) (show (0 : Int32) = nI 0 from rfl) (by omega) (by omega)
                  refine lv_aload_n X.1 X.2.1 dX5_readClause_38 rfl (lv_at hl 2 rfl) ?_
                  refine va_ldcS X.1 X.2.1 X.2.2.2.1 (vk_R.warm hC.1 hR49) dX5_readClause_39 ?_
                  refine g_run_i (f := fun u => u) (g_runV (k := 7) [.ref s49] X hK hP hS hC hB (o_reads_n hRd hs49 h2 ht49 hb2) (cwV 1 X.2.2.2.2 gX5_readClause_X5_reads rfl rfl rfl (by decide +kernel) ⟨Nat.le_of_ble_eq_true rfl, Nat.le_of_ble_eq_true rfl⟩) hRd.1.1 rfl rfl hl.1 rfl (Nat.le_of_ble_eq_true rfl) dX5_readClause_41 (by exact ⟨Nat.zero_le _, Nat.zero_le _⟩)) hS (fun r u H locs hq hP hS => ?_)
                  obtain ⟨rfl, rfl⟩ := hq
                  have hP : gP D cy B z T IN10 R H := hP
                  refine lv_if_eq (tgt := 55) X.1 X.2.1 dX5_readClause_44 (by decide) (fun c44 => ?_) (fun c44 => ?_)
                  · have n44 : 0 = 0 := gq_eq c44 (show (0 : Int32) = nI 0 from rfl) (show (0 : Int32) = nI 0 from rfl) (by omega) (by omega)
                    refine lv_iconst (v := 0) X.1 X.2.1 dX5_readClause_55 (by decide) ?_
                    exact g_zret (f := fun u => u) (z, T, IN10, R) X hr hlk hK hP hS dX5_readClause_56 rfl ⟨_, pN10, rfl, hFt.wk, hRd.2.2.2.1, Or.inr ⟨rfl, _, _, (pCl_S hfit).trans (by rw [pMust_y hb, pTail_m (hEN10 _) hb2])⟩⟩
                  · exact absurd rfl c44
              · exact absurd (nI_ge0 (by omega)) c26
          · simp only [hEN10 []] at hwN10
            have hwN10 : (pl + 6) ≤ pN10 ∧ pN10 ≤ n := ⟨hwN10.1, hwN10.2.1⟩
            have hFt := hFt.trs (fun c j h1 _ => hfN10 c j h1)
            have hRd : cRd rd tc a T IN10 R tp n pN10 := hRd.mv (fun c j h1 _ => hfN10 c j h1) hpN10 (by omega)
            have hSr : cSr a IN10 cs ([]) := hSr.k (fun c j g1 g2 => hfN10 c j (by omega))
            refine lv_istore_n (lv' := [(2, .int (-1)), (1, .int 2), (0, .ref rd)]) X.1 X.2.1 dX5_readClause_24 rfl hl (by decide) rfl (fun ls hl => ?_)
            refine lv_iload_n X.1 X.2.1 dX5_readClause_25 rfl (lv_at hl 0 rfl) ?_
            refine lv_if_ge (tgt := 31) X.1 X.2.1 dX5_readClause_26 (by decide) (fun c26 => ?_) (fun c26 => ?_)
            · exact absurd c26 (by decide)
            · refine lv_iconst (v := 0) X.1 X.2.1 dX5_readClause_29 (by decide) ?_
              exact g_zret (f := fun u => u) (z, T, IN10, R) X hr hlk hK hP hS dX5_readClause_30 rfl ⟨IN10, pN10, rfl, hFt.wk, hRd.2.2.2.1, Or.inr ⟨rfl, _, _, (pCl_S hfit).trans (by rw [pMust_y hb]; rw [pTail_f (hEN10 _)])⟩⟩
        · exact absurd c15 (by decide)
    · refine lv_istore_n (lv' := [(1, .int 2), (0, .ref rd)]) X.1 X.2.1 dX5_readClause_4 rfl hl (by decide) rfl (fun ls hl => ?_)
      refine lv_iload_n X.1 X.2.1 dX5_readClause_5 rfl (lv_at hl 0 rfl) ?_
      refine lv_if_lt (tgt := 18) X.1 X.2.1 dX5_readClause_6 (by decide) (fun c6 => ?_) (fun c6 => ?_)
      · exact absurd c6 (by decide)
      · have n6 : 0 ≤ 2 := gq_nlt c6 (show (2 : Int32) = nI 2 from rfl) (show (0 : Int32) = nI 0 from rfl) (by omega) (by omega)
        refine lv_aload_n X.1 X.2.1 dX5_readClause_9 rfl (lv_at hl 1 rfl) ?_
        refine va_ldcS X.1 X.2.1 X.2.2.2.1 (vk_R.warm hC.1 hR49) dX5_readClause_10 ?_
        refine g_run_i (f := fun u => u) (g_runV (k := 7) [.ref s49] X hK hP hS hC hB (o_reads_n hRd hs49 h2 ht49 hb) (cwV 1 X.2.2.2.2 gX5_readClause_X5_reads rfl rfl rfl (by decide +kernel) ⟨Nat.le_of_ble_eq_true rfl, Nat.le_of_ble_eq_true rfl⟩) hRd.1.1 rfl rfl hl.1 rfl (Nat.le_of_ble_eq_true rfl) dX5_readClause_12 (by exact ⟨Nat.zero_le _, Nat.zero_le _⟩)) hS (fun r u H locs hq hP hS => ?_)
        obtain ⟨rfl, rfl⟩ := hq
        have hP : gP D cy B z T I1 R H := hP
        refine lv_if_ne (tgt := 20) X.1 X.2.1 dX5_readClause_15 (by decide) (fun c15 => ?_) (fun c15 => ?_)
        · exact absurd rfl c15
        · have n15 : 0 = 0 := gq_eq c15 (show (0 : Int32) = nI 0 from rfl) (show (0 : Int32) = nI 0 from rfl) (by omega) (by omega)
          refine lv_iconst (v := 0) X.1 X.2.1 dX5_readClause_18 (by decide) ?_
          exact g_zret (f := fun u => u) (z, T, I1, R) X hr hlk hK hP hS dX5_readClause_19 rfl ⟨I1, _, rfl, hFt.wk, hRd.2.2.2.1, Or.inr ⟨rfl, _, _, (pCl_S hfit).trans (by rw [pMust_n hb]; rw [pTail_t])⟩⟩
  · by_cases hb : sH tp n (pl + 4) = 32
    · refine lv_istore_n (lv' := [(1, .int 3), (0, .ref rd)]) X.1 X.2.1 dX5_readClause_4 rfl hl (by decide) rfl (fun ls hl => ?_)
      refine lv_iload_n X.1 X.2.1 dX5_readClause_5 rfl (lv_at hl 0 rfl) ?_
      refine lv_if_lt (tgt := 18) X.1 X.2.1 dX5_readClause_6 (by decide) (fun c6 => ?_) (fun c6 => ?_)
      · exact absurd c6 (by decide)
      · have n6 : 0 ≤ 3 := gq_nlt c6 (show (3 : Int32) = nI 3 from rfl) (show (0 : Int32) = nI 0 from rfl) (by omega) (by omega)
        refine lv_aload_n X.1 X.2.1 dX5_readClause_9 rfl (lv_at hl 1 rfl) ?_
        refine va_ldcS X.1 X.2.1 X.2.2.2.1 (vk_R.warm hC.1 hR49) dX5_readClause_10 ?_
        refine g_run_i (f := fun u => u) (g_runV (k := 7) [.ref s49] X hK hP hS hC hB (o_reads_y hRd hs49 h2 ht49 hb) (cwV 1 X.2.2.2.2 gX5_readClause_X5_reads rfl rfl rfl (by decide +kernel) ⟨Nat.le_of_ble_eq_true rfl, Nat.le_of_ble_eq_true rfl⟩) hRd.1.1 rfl rfl hl.1 rfl (Nat.le_of_ble_eq_true rfl) dX5_readClause_12 (by exact ⟨Nat.zero_le _, Nat.zero_le _⟩)) hS (fun r u H locs hq hP hS => ?_)
        obtain ⟨rfl, rfl⟩ := hq
        generalize eJ13 : g2 I1 rd 0 (nI (pl + 4) + 1) = J13 at hP
        have hP : gP D cy B z T J13 R H := hP
        have hfJ13 : ∀ c j, ¬ (c = rd ∧ j = 0) → J13 c j = I1 c j := fun c j h => gs_ne eJ13 h rfl
        have hpnJ13 := sH_in hb (by decide)
        have hFt := hFt.trs (fun c j h1 _ => hfJ13 c j h1)
        have hRd : cRd rd tc a T J13 R tp n (pl + 5) := hRd.mv (fun c j h1 _ => hfJ13 c j h1) ((gs_same eJ13).trans (nI_add _ 1)) (by omega)
        have hSr : cSr a J13 cs ([]) := hSr.k (fun c j g1 g2 => hfJ13 c j (by omega))
        have hfJ := hfJ13
        refine lv_if_ne (tgt := 20) X.1 X.2.1 dX5_readClause_15 (by decide) (fun c15 => ?_) (fun c15 => ?_)
        · have n15 : ¬ 1 = 0 := gq_ne c15 (show (1 : Int32) = nI 1 from rfl) (show (0 : Int32) = nI 0 from rfl) (by omega) (by omega)
          refine lv_aload_n X.1 X.2.1 dX5_readClause_20 rfl (lv_at hl 1 rfl) ?_
          refine g_run_i (f := fun u => u) (g_runV (k := 7) [] X hK hP hS hC hB (o_num hRd hstr) (cwV 0 X.2.2.2.2 gX5_readClause_X5_readNumber rfl rfl rfl (by decide +kernel) ⟨Nat.le_of_ble_eq_true rfl, Nat.le_of_ble_eq_true rfl⟩) hRd.1.1 rfl rfl hl.1 rfl (Nat.le_of_ble_eq_true rfl) dX5_readClause_21 (by exact ⟨Nat.zero_le _, Nat.zero_le _⟩)) hS (fun r u H locs hq hP hS => ?_)
          obtain ⟨IN14, pN14, rfl, hpN14, hfN14, hq⟩ := hq
          have hP : gP D cy B z T IN14 R H := hP
          have hwN14 := pW_fig (tp := tp) (n := n) (false, (pl + 5), []) (by show (pl + 5) ≤ n; omega)
          rcases hq with ⟨vN14, rfl, hvN14, hEN14⟩ | ⟨rfl, hEN14⟩
          · simp only [hEN14 []] at hwN14
            have hwN14 : (pl + 5) ≤ pN14 ∧ pN14 ≤ n := ⟨hwN14.1, hwN14.2.1⟩
            have hFt := hFt.trs (fun c j h1 _ => hfN14 c j h1)
            have hRd : cRd rd tc a T IN14 R tp n pN14 := hRd.mv (fun c j h1 _ => hfN14 c j h1) hpN14 (by omega)
            have hSr : cSr a IN14 cs ([]) := hSr.k (fun c j g1 g2 => hfN14 c j (by omega))
            refine lv_istore_n (lv' := [(2, .int (nI vN14)), (1, .int 3), (0, .ref rd)]) X.1 X.2.1 dX5_readClause_24 rfl hl (by decide) rfl (fun ls hl => ?_)
            refine lv_iload_n X.1 X.2.1 dX5_readClause_25 rfl (lv_at hl 0 rfl) ?_
            refine lv_if_ge (tgt := 31) X.1 X.2.1 dX5_readClause_26 (by decide) (fun c26 => ?_) (fun c26 => ?_)
            · have n26 : 0 ≤ vN14 := gq_le c26 (show (0 : Int32) = nI 0 from rfl) (Eq.refl (nI vN14)) (by omega) (by omega)
              refine lv_iload_n X.1 X.2.1 dX5_readClause_31 rfl (lv_at hl 1 rfl) ?_
              refine g_run_i (f := fun u => u) (g_runS [.int 3] X hK hP hS hC hB (o_has_3) (va_cwS 1 X.2.2.2.2 gX5_readClause_X4_hasCondition rfl rfl rfl (by decide +kernel) ⟨Nat.le_of_ble_eq_true rfl, Nat.le_of_ble_eq_true rfl⟩) rfl hl.1 rfl (Nat.le_of_ble_eq_true rfl) dX5_readClause_32 (by exact ⟨Nat.zero_le _, Nat.zero_le _⟩)) hS (fun r u H locs hq hP hS => ?_)
              obtain ⟨rfl, rfl⟩ := hq
              have hP : gP D cy B z T IN14 R H := hP
              refine lv_if_eq (tgt := 57) X.1 X.2.1 dX5_readClause_35 (by decide) (fun c35 => ?_) (fun c35 => ?_)
              · have n35 : 0 = 0 := gq_eq c35 (show (0 : Int32) = nI 0 from rfl) (show (0 : Int32) = nI 0 from rfl) (by omega) (by omega)
                refine lv_aload_n X.1 X.2.1 dX5_readClause_57 rfl (lv_at hl 2 rfl) ?_
                refine g_getr 7 3 X hK hP hRd.1.1 rfl hinRX5 rfl (by decide) k31 (fun _ h => h) dX5_readClause_58 (show va_rf (R rd 3) = .ref a from by rw [hRd.1.2.2.1]; rfl) ?_
                refine lv_iload_n X.1 X.2.1 dX5_readClause_61 rfl (lv_at hl 1 rfl) ?_
                refine lv_iload_n X.1 X.2.1 dX5_readClause_62 rfl (lv_at hl 0 rfl) ?_
                refine g_run_v (f := fun u => u) (g_runV (k := 6) [.int 3, .int (nI vN14)] X hK hP hS hC hB (o_add_3 hRd.1.2.2.2.2) (cwV 2 X.2.2.2.2 gX5_readClause_X4_add rfl rfl rfl (by decide +kernel) ⟨Nat.le_of_ble_eq_true rfl, Nat.le_of_ble_eq_true rfl⟩) hRd.1.2.2.2.2.1 rfl rfl hl.1 rfl (Nat.le_of_ble_eq_true rfl) dX5_readClause_63 (by exact ⟨Nat.zero_le _, Nat.zero_le _⟩)) hS (fun u H locs hq hP hS => ?_)
                subst hq
                generalize eA9 : g2 IN14 a 0 (nI vN14) = A9 at hP
                have hP : gP D cy B z T A9 R H := hP
                refine lv_iconst (v := 1) X.1 X.2.1 dX5_readClause_66 (by decide) ?_
                exact g_zret (f := fun u => u) (z, T, A9, R) X hr hlk hK hP hS dX5_readClause_67 rfl ⟨A9, pN14, rfl, hFt.wk.trs (fun c j h1 h2 => gs_ne eA9 (by omega) rfl), gs_ne eA9 (by omega) hRd.2.2.2.1, Or.inl ⟨rfl, cs, (vN14, y.2), (pCl_T hfit).trans (by rw [pMust_y hb]; exact pTl_y (hEN14 _)), hSr.k9 eA9, ⟨gs_at eA9 rfl rfl, gs_ne eA9 (by omega) ((hFt a 1 (by omega) (by omega)).trans hy2)⟩, by omega⟩⟩
              · exact absurd rfl c35
            · exact absurd (nI_ge0 (by omega)) c26
          · simp only [hEN14 []] at hwN14
            have hwN14 : (pl + 5) ≤ pN14 ∧ pN14 ≤ n := ⟨hwN14.1, hwN14.2.1⟩
            have hFt := hFt.trs (fun c j h1 _ => hfN14 c j h1)
            have hRd : cRd rd tc a T IN14 R tp n pN14 := hRd.mv (fun c j h1 _ => hfN14 c j h1) hpN14 (by omega)
            have hSr : cSr a IN14 cs ([]) := hSr.k (fun c j g1 g2 => hfN14 c j (by omega))
            refine lv_istore_n (lv' := [(2, .int (-1)), (1, .int 3), (0, .ref rd)]) X.1 X.2.1 dX5_readClause_24 rfl hl (by decide) rfl (fun ls hl => ?_)
            refine lv_iload_n X.1 X.2.1 dX5_readClause_25 rfl (lv_at hl 0 rfl) ?_
            refine lv_if_ge (tgt := 31) X.1 X.2.1 dX5_readClause_26 (by decide) (fun c26 => ?_) (fun c26 => ?_)
            · exact absurd c26 (by decide)
            · refine lv_iconst (v := 0) X.1 X.2.1 dX5_readClause_29 (by decide) ?_
              exact g_zret (f := fun u => u) (z, T, IN14, R) X hr hlk hK hP hS dX5_readClause_30 rfl ⟨IN14, pN14, rfl, hFt.wk, hRd.2.2.2.1, Or.inr ⟨rfl, _, _, (pCl_T hfit).trans (by rw [pMust_y hb]; exact pTl_f (hEN14 _))⟩⟩
        · exact absurd c15 (by decide)
    · refine lv_istore_n (lv' := [(1, .int 3), (0, .ref rd)]) X.1 X.2.1 dX5_readClause_4 rfl hl (by decide) rfl (fun ls hl => ?_)
      refine lv_iload_n X.1 X.2.1 dX5_readClause_5 rfl (lv_at hl 0 rfl) ?_
      refine lv_if_lt (tgt := 18) X.1 X.2.1 dX5_readClause_6 (by decide) (fun c6 => ?_) (fun c6 => ?_)
      · exact absurd c6 (by decide)
      · have n6 : 0 ≤ 3 := gq_nlt c6 (show (3 : Int32) = nI 3 from rfl) (show (0 : Int32) = nI 0 from rfl) (by omega) (by omega)
        refine lv_aload_n X.1 X.2.1 dX5_readClause_9 rfl (lv_at hl 1 rfl) ?_
        refine va_ldcS X.1 X.2.1 X.2.2.2.1 (vk_R.warm hC.1 hR49) dX5_readClause_10 ?_
        refine g_run_i (f := fun u => u) (g_runV (k := 7) [.ref s49] X hK hP hS hC hB (o_reads_n hRd hs49 h2 ht49 hb) (cwV 1 X.2.2.2.2 gX5_readClause_X5_reads rfl rfl rfl (by decide +kernel) ⟨Nat.le_of_ble_eq_true rfl, Nat.le_of_ble_eq_true rfl⟩) hRd.1.1 rfl rfl hl.1 rfl (Nat.le_of_ble_eq_true rfl) dX5_readClause_12 (by exact ⟨Nat.zero_le _, Nat.zero_le _⟩)) hS (fun r u H locs hq hP hS => ?_)
        obtain ⟨rfl, rfl⟩ := hq
        have hP : gP D cy B z T I1 R H := hP
        refine lv_if_ne (tgt := 20) X.1 X.2.1 dX5_readClause_15 (by decide) (fun c15 => ?_) (fun c15 => ?_)
        · exact absurd rfl c15
        · have n15 : 0 = 0 := gq_eq c15 (show (0 : Int32) = nI 0 from rfl) (show (0 : Int32) = nI 0 from rfl) (by omega) (by omega)
          refine lv_iconst (v := 0) X.1 X.2.1 dX5_readClause_18 (by decide) ?_
          exact g_zret (f := fun u => u) (z, T, I1, R) X hr hlk hK hP hS dX5_readClause_19 rfl ⟨I1, _, rfl, hFt.wk, hRd.2.2.2.1, Or.inr ⟨rfl, _, _, (pCl_T hfit).trans (by rw [pMust_n hb]; exact pTl_t)⟩⟩
  · by_cases hb : sH tp n (pl + 6) = 32
    · refine lv_istore_n (lv' := [(1, .int 4), (0, .ref rd)]) X.1 X.2.1 dX5_readClause_4 rfl hl (by decide) rfl (fun ls hl => ?_)
      refine lv_iload_n X.1 X.2.1 dX5_readClause_5 rfl (lv_at hl 0 rfl) ?_
      refine lv_if_lt (tgt := 18) X.1 X.2.1 dX5_readClause_6 (by decide) (fun c6 => ?_) (fun c6 => ?_)
      · exact absurd c6 (by decide)
      · have n6 : 0 ≤ 4 := gq_nlt c6 (show (4 : Int32) = nI 4 from rfl) (show (0 : Int32) = nI 0 from rfl) (by omega) (by omega)
        refine lv_aload_n X.1 X.2.1 dX5_readClause_9 rfl (lv_at hl 1 rfl) ?_
        refine va_ldcS X.1 X.2.1 X.2.2.2.1 (vk_R.warm hC.1 hR49) dX5_readClause_10 ?_
        refine g_run_i (f := fun u => u) (g_runV (k := 7) [.ref s49] X hK hP hS hC hB (o_reads_y hRd hs49 h2 ht49 hb) (cwV 1 X.2.2.2.2 gX5_readClause_X5_reads rfl rfl rfl (by decide +kernel) ⟨Nat.le_of_ble_eq_true rfl, Nat.le_of_ble_eq_true rfl⟩) hRd.1.1 rfl rfl hl.1 rfl (Nat.le_of_ble_eq_true rfl) dX5_readClause_12 (by exact ⟨Nat.zero_le _, Nat.zero_le _⟩)) hS (fun r u H locs hq hP hS => ?_)
        obtain ⟨rfl, rfl⟩ := hq
        generalize eJ15 : g2 I1 rd 0 (nI (pl + 6) + 1) = J15 at hP
        have hP : gP D cy B z T J15 R H := hP
        have hfJ15 : ∀ c j, ¬ (c = rd ∧ j = 0) → J15 c j = I1 c j := fun c j h => gs_ne eJ15 h rfl
        have hpnJ15 := sH_in hb (by decide)
        have hFt := hFt.trs (fun c j h1 _ => hfJ15 c j h1)
        have hRd : cRd rd tc a T J15 R tp n (pl + 7) := hRd.mv (fun c j h1 _ => hfJ15 c j h1) ((gs_same eJ15).trans (nI_add _ 1)) (by omega)
        have hSr : cSr a J15 cs ([]) := hSr.k (fun c j g1 g2 => hfJ15 c j (by omega))
        have hfJ := hfJ15
        refine lv_if_ne (tgt := 20) X.1 X.2.1 dX5_readClause_15 (by decide) (fun c15 => ?_) (fun c15 => ?_)
        · have n15 : ¬ 1 = 0 := gq_ne c15 (show (1 : Int32) = nI 1 from rfl) (show (0 : Int32) = nI 0 from rfl) (by omega) (by omega)
          refine lv_aload_n X.1 X.2.1 dX5_readClause_20 rfl (lv_at hl 1 rfl) ?_
          refine g_run_i (f := fun u => u) (g_runV (k := 7) [] X hK hP hS hC hB (o_num hRd hstr) (cwV 0 X.2.2.2.2 gX5_readClause_X5_readNumber rfl rfl rfl (by decide +kernel) ⟨Nat.le_of_ble_eq_true rfl, Nat.le_of_ble_eq_true rfl⟩) hRd.1.1 rfl rfl hl.1 rfl (Nat.le_of_ble_eq_true rfl) dX5_readClause_21 (by exact ⟨Nat.zero_le _, Nat.zero_le _⟩)) hS (fun r u H locs hq hP hS => ?_)
          obtain ⟨IN16, pN16, rfl, hpN16, hfN16, hq⟩ := hq
          have hP : gP D cy B z T IN16 R H := hP
          have hwN16 := pW_fig (tp := tp) (n := n) (false, (pl + 7), []) (by show (pl + 7) ≤ n; omega)
          rcases hq with ⟨vN16, rfl, hvN16, hEN16⟩ | ⟨rfl, hEN16⟩
          · simp only [hEN16 []] at hwN16
            have hwN16 : (pl + 7) ≤ pN16 ∧ pN16 ≤ n := ⟨hwN16.1, hwN16.2.1⟩
            have hFt := hFt.trs (fun c j h1 _ => hfN16 c j h1)
            have hRd : cRd rd tc a T IN16 R tp n pN16 := hRd.mv (fun c j h1 _ => hfN16 c j h1) hpN16 (by omega)
            have hSr : cSr a IN16 cs ([]) := hSr.k (fun c j g1 g2 => hfN16 c j (by omega))
            refine lv_istore_n (lv' := [(2, .int (nI vN16)), (1, .int 4), (0, .ref rd)]) X.1 X.2.1 dX5_readClause_24 rfl hl (by decide) rfl (fun ls hl => ?_)
            refine lv_iload_n X.1 X.2.1 dX5_readClause_25 rfl (lv_at hl 0 rfl) ?_
            refine lv_if_ge (tgt := 31) X.1 X.2.1 dX5_readClause_26 (by decide) (fun c26 => ?_) (fun c26 => ?_)
            · have n26 : 0 ≤ vN16 := gq_le c26 (show (0 : Int32) = nI 0 from rfl) (Eq.refl (nI vN16)) (by omega) (by omega)
              refine lv_iload_n X.1 X.2.1 dX5_readClause_31 rfl (lv_at hl 1 rfl) ?_
              refine g_run_i (f := fun u => u) (g_runS [.int 4] X hK hP hS hC hB (o_has_4) (va_cwS 1 X.2.2.2.2 gX5_readClause_X4_hasCondition rfl rfl rfl (by decide +kernel) ⟨Nat.le_of_ble_eq_true rfl, Nat.le_of_ble_eq_true rfl⟩) rfl hl.1 rfl (Nat.le_of_ble_eq_true rfl) dX5_readClause_32 (by exact ⟨Nat.zero_le _, Nat.zero_le _⟩)) hS (fun r u H locs hq hP hS => ?_)
              obtain ⟨rfl, rfl⟩ := hq
              have hP : gP D cy B z T IN16 R H := hP
              refine lv_if_eq (tgt := 57) X.1 X.2.1 dX5_readClause_35 (by decide) (fun c35 => ?_) (fun c35 => ?_)
              · have n35 : 0 = 0 := gq_eq c35 (show (0 : Int32) = nI 0 from rfl) (show (0 : Int32) = nI 0 from rfl) (by omega) (by omega)
                refine lv_aload_n X.1 X.2.1 dX5_readClause_57 rfl (lv_at hl 2 rfl) ?_
                refine g_getr 7 3 X hK hP hRd.1.1 rfl hinRX5 rfl (by decide) k31 (fun _ h => h) dX5_readClause_58 (show va_rf (R rd 3) = .ref a from by rw [hRd.1.2.2.1]; rfl) ?_
                refine lv_iload_n X.1 X.2.1 dX5_readClause_61 rfl (lv_at hl 1 rfl) ?_
                refine lv_iload_n X.1 X.2.1 dX5_readClause_62 rfl (lv_at hl 0 rfl) ?_
                refine g_run_v (f := fun u => u) (g_runV (k := 6) [.int 4, .int (nI vN16)] X hK hP hS hC hB (o_add_4 hRd.1.2.2.2.2) (cwV 2 X.2.2.2.2 gX5_readClause_X4_add rfl rfl rfl (by decide +kernel) ⟨Nat.le_of_ble_eq_true rfl, Nat.le_of_ble_eq_true rfl⟩) hRd.1.2.2.2.2.1 rfl rfl hl.1 rfl (Nat.le_of_ble_eq_true rfl) dX5_readClause_63 (by exact ⟨Nat.zero_le _, Nat.zero_le _⟩)) hS (fun u H locs hq hP hS => ?_)
                subst hq
                generalize eA9 : g2 IN16 a 1 (nI vN16) = A9 at hP
                have hP : gP D cy B z T A9 R H := hP
                refine lv_iconst (v := 1) X.1 X.2.1 dX5_readClause_66 (by decide) ?_
                exact g_zret (f := fun u => u) (z, T, A9, R) X hr hlk hK hP hS dX5_readClause_67 rfl ⟨A9, pN16, rfl, hFt.wk.trs (fun c j h1 h2 => gs_ne eA9 (by omega) rfl), gs_ne eA9 (by omega) hRd.2.2.2.1, Or.inl ⟨rfl, cs, (y.1, vN16), (pCl_V hfit).trans (by rw [pMust_y hb]; exact pTl_y (hEN16 _)), hSr.k9 eA9, ⟨gs_ne eA9 (by omega) ((hFt a 0 (by omega) (by omega)).trans hy1), gs_at eA9 rfl rfl⟩, by omega⟩⟩
              · exact absurd rfl c35
            · exact absurd (nI_ge0 (by omega)) c26
          · simp only [hEN16 []] at hwN16
            have hwN16 : (pl + 7) ≤ pN16 ∧ pN16 ≤ n := ⟨hwN16.1, hwN16.2.1⟩
            have hFt := hFt.trs (fun c j h1 _ => hfN16 c j h1)
            have hRd : cRd rd tc a T IN16 R tp n pN16 := hRd.mv (fun c j h1 _ => hfN16 c j h1) hpN16 (by omega)
            have hSr : cSr a IN16 cs ([]) := hSr.k (fun c j g1 g2 => hfN16 c j (by omega))
            refine lv_istore_n (lv' := [(2, .int (-1)), (1, .int 4), (0, .ref rd)]) X.1 X.2.1 dX5_readClause_24 rfl hl (by decide) rfl (fun ls hl => ?_)
            refine lv_iload_n X.1 X.2.1 dX5_readClause_25 rfl (lv_at hl 0 rfl) ?_
            refine lv_if_ge (tgt := 31) X.1 X.2.1 dX5_readClause_26 (by decide) (fun c26 => ?_) (fun c26 => ?_)
            · exact absurd c26 (by decide)
            · refine lv_iconst (v := 0) X.1 X.2.1 dX5_readClause_29 (by decide) ?_
              exact g_zret (f := fun u => u) (z, T, IN16, R) X hr hlk hK hP hS dX5_readClause_30 rfl ⟨IN16, pN16, rfl, hFt.wk, hRd.2.2.2.1, Or.inr ⟨rfl, _, _, (pCl_V hfit).trans (by rw [pMust_y hb]; exact pTl_f (hEN16 _))⟩⟩
        · exact absurd c15 (by decide)
    · refine lv_istore_n (lv' := [(1, .int 4), (0, .ref rd)]) X.1 X.2.1 dX5_readClause_4 rfl hl (by decide) rfl (fun ls hl => ?_)
      refine lv_iload_n X.1 X.2.1 dX5_readClause_5 rfl (lv_at hl 0 rfl) ?_
      refine lv_if_lt (tgt := 18) X.1 X.2.1 dX5_readClause_6 (by decide) (fun c6 => ?_) (fun c6 => ?_)
      · exact absurd c6 (by decide)
      · have n6 : 0 ≤ 4 := gq_nlt c6 (show (4 : Int32) = nI 4 from rfl) (show (0 : Int32) = nI 0 from rfl) (by omega) (by omega)
        refine lv_aload_n X.1 X.2.1 dX5_readClause_9 rfl (lv_at hl 1 rfl) ?_
        refine va_ldcS X.1 X.2.1 X.2.2.2.1 (vk_R.warm hC.1 hR49) dX5_readClause_10 ?_
        refine g_run_i (f := fun u => u) (g_runV (k := 7) [.ref s49] X hK hP hS hC hB (o_reads_n hRd hs49 h2 ht49 hb) (cwV 1 X.2.2.2.2 gX5_readClause_X5_reads rfl rfl rfl (by decide +kernel) ⟨Nat.le_of_ble_eq_true rfl, Nat.le_of_ble_eq_true rfl⟩) hRd.1.1 rfl rfl hl.1 rfl (Nat.le_of_ble_eq_true rfl) dX5_readClause_12 (by exact ⟨Nat.zero_le _, Nat.zero_le _⟩)) hS (fun r u H locs hq hP hS => ?_)
        obtain ⟨rfl, rfl⟩ := hq
        have hP : gP D cy B z T I1 R H := hP
        refine lv_if_ne (tgt := 20) X.1 X.2.1 dX5_readClause_15 (by decide) (fun c15 => ?_) (fun c15 => ?_)
        · exact absurd rfl c15
        · have n15 : 0 = 0 := gq_eq c15 (show (0 : Int32) = nI 0 from rfl) (show (0 : Int32) = nI 0 from rfl) (by omega) (by omega)
          refine lv_iconst (v := 0) X.1 X.2.1 dX5_readClause_18 (by decide) ?_
          exact g_zret (f := fun u => u) (z, T, I1, R) X hr hlk hK hP hS dX5_readClause_19 rfl ⟨I1, _, rfl, hFt.wk, hRd.2.2.2.1, Or.inr ⟨rfl, _, _, (pCl_V hfit).trans (by rw [pMust_n hb]; exact pTl_t)⟩⟩
  · refine lv_istore_n (lv' := [(1, .int (-1)), (0, .ref rd)]) X.1 X.2.1 dX5_readClause_4 rfl hl (by decide) rfl (fun ls hl => ?_)
    refine lv_iload_n X.1 X.2.1 dX5_readClause_5 rfl (lv_at hl 0 rfl) ?_
    refine lv_if_lt (tgt := 18) X.1 X.2.1 dX5_readClause_6 (by decide) (fun c6 => ?_) (fun c6 => ?_)
    · refine lv_iconst (v := 0) X.1 X.2.1 dX5_readClause_18 (by decide) ?_
      exact g_zret (f := fun u => u) (z, T, I1, R) X hr hlk hK hP hS dX5_readClause_19 rfl ⟨I1, _, rfl, hFt.wk, hRd.2.2.2.1, Or.inr ⟨rfl, _, _, pCl_no hn0 hn1 hn2 hn3 hn4⟩⟩
    · exact absurd (show (-1 : Int32) < 0 by decide) c6

end QE