section QG
variable {l : Launch} {s0 : State} {D : va_G} {cy : Nat → ClassId} {B z : Nat} {T : Nat → Nat × Nat} {I : Nat → Nat → Int32} {R : Nat → Nat → Option Nat} {rd tc a : Nat} {tp : Nat → Nat} {n pl : Nat} {cs : Cls} {pd : List Nat}
theorem cRd.mw {I' : Nat → Nat → Int32} {p' : Nat} (h : cRd rd tc a T I R tp n pl) (hf : rFw rd a I I') (hp : I' rd 0 = nI p') (hle : p' ≤ n) : cRd rd tc a T I' R tp n p' := by
  obtain ⟨h1, h2, h3, h4, h5, h6⟩ := h
  exact ⟨h1, h2, ⟨h3.1, hle, h3.2.2⟩, hp, (hf _ _ (by omega) (by omega)).trans h5, fun k hk => (hf _ _ (by omega) (by omega)).trans (h6 k hk)⟩
theorem pSite_0 : pSite tp n = pSi tp n (9 - 0) (pCl tp n ((false, 0, flC [] ++ []), ((1, 2) : Nat × Nat))) := by
  have e : flC [] ++ [] = ([] : List Nat) := rfl
  rw [e, Nat.sub_zero]
  unfold pSite
  with_reducible rfl
theorem pSi_z {r : RS} : pSi tp n 0 r = r := by unfold pSi; with_reducible rfl
def pOk (tp : Nat → Nat) (n : Nat) : Prop := (pSite tp n).1.1 = false ∧ (pSite tp n).1.2.1 = n
set_option maxHeartbeats 4000000 in
set_option maxRecDepth 100000 in
/-- o_read -/
theorem o_read (hstr : gStr s0 B) (hNst : gNst s0) (hTd : T rd = (15, 0)) (hTc : T tc = (2, 100)) (hn : n ≤ 100) (htp : ∀ k, tp k ≤ 127) (htc : ∀ k, k < 100 → I tc k = nI (tp k)) : Met l yX5_read wsX5_read ({ frames := 20, cells := 5, slots := 138, locals := 444 }) (va_Pc [.ref rd, .ref tc, .int (nI n)] (gW0 s0 D cy B (z, T, I, R))) (va_Qq (fun r u => ∃ T' I' R', u = (z + 5, T', I', R') ∧ ((∀ c, c < z → T' c = T c) ∧ (∀ c j, c < z → c ≠ rd → I' c j = I c j) ∧ ∀ c j, c < z → c ≠ rd → R' c j = R c j) ∧ I' rd 0 = nI (pSite tp n).1.2.1 ∧ ((r = some z ∧ pOk tp n ∧ ∃ cs', flC cs' = (pSite tp n).1.2.2 ∧ cSt z T' R' ∧ cSr z I' cs' [] ∧ I' z 0 = nI (pSite tp n).2.1 ∧ I' z 1 = nI (pSite tp n).2.2) ∨ (r = none ∧ ¬ pOk tp n))) (fun u t => gW1 D cy B u t) (gA B)) 5 138 (gA B) := by
  refine g_met (maxL := 4) (ret := (some (.object "BarrowPlank$Site"))) (by decide) rfl (Nat.le_of_ble_eq_true rfl) (fun p e s m args below meth c ls X hr hlk hnm hK hP hC hS hl => ?_)
  have hl : lv_has ls 4 [(0, .ref rd), (1, .ref tc), (2, .int (nI n))] := hl
  have hP : gP D cy B z T I R s.heap := hP
  have hB : B ≤ s.heap.size := by rw [hP.1]; exact hP.2.1
  have hinRX4 : ∀ w ∈ wsX40, w ∈ wsX5_read := fun _ h => List.mem_cons_of_mem _ (List.mem_append_right _ h)
  have hinRX5 : ∀ w ∈ wsX50, w ∈ wsX5_read := fun _ h => List.mem_cons_of_mem _ (List.mem_append_left _ (List.mem_append_right _ h))
  have k9 : Cond.fieldLink RX5 9 "BarrowPlank$SiteReader" "tape" "[C" ∈ wsX5_read := by decide +kernel
  have k21 : Cond.fieldLink RX5 21 "BarrowPlank$SiteReader" "size" "I" ∈ wsX5_read := by decide +kernel
  have k25 : Cond.fieldLink RX5 25 "BarrowPlank$SiteReader" "place" "I" ∈ wsX5_read := by decide +kernel
  have k31 : Cond.fieldLink RX5 31 "BarrowPlank$SiteReader" "draft" "LBarrowPlank$Site;" ∈ wsX5_read := by decide +kernel
  have hrz : rd < z := hP.lt (by rw [hTd]; decide)
  have htz : tc < z := hP.lt (by rw [hTc]; decide)
  have hrt : rd ≠ tc := fun e9 => by rw [e9, hTc] at hTd; cases hTd
  obtain ⟨a, rfl⟩ : ∃ a, a = z := ⟨_, rfl⟩
  have h2 : gSt2 s0 B := hstr.1
  obtain ⟨s39, q39, hR39, hs39, ht39⟩ := hstr.at 17 rfl
  have hs39 : gSo s0 B [59] s39 q39 := hs39
  have ht39 : gTx [59] := ht39
  refine lv_aload_n X.1 X.2.1 dX5_read_0 rfl (lv_at hl 0 rfl) ?_
  refine lv_aload_n X.1 X.2.1 dX5_read_1 rfl (lv_at hl 1 rfl) ?_
  refine g_putr 7 1 X hK hP hS hTd rfl hinRX5 tyX5 tyX5_ok nmX5 rfl (by decide) k9 (fun _ h => h) rfl (r := some tc) rfl rfl rfl dX5_read_2 (fun H locs hP hS => ?_)
  generalize eR1 : g2 R rd 1 (some tc) = R1 at hP
  refine lv_aload_n X.1 X.2.1 dX5_read_5 rfl (lv_at hl 0 rfl) ?_
  refine lv_iload_n X.1 X.2.1 dX5_read_6 rfl (lv_at hl 2 rfl) ?_
  refine lv_aload_n X.1 X.2.1 dX5_read_7 rfl (lv_at hl 1 rfl) ?_
  refine g_alen X hK hP hTc (by decide) (by decide) (v := 100) rfl dX5_read_8 ?_
  refine va_mmin X.1 X.2.1 (X.2.2.1.trans hl.1.symm) X.2.2.2.1 (X.2.2.2.2 (.methodLink RX5 15 Lib.Math.min.name) (by decide +kernel)) (X.2.2.2.2 (.static Lib.Math.min.name) (by decide +kernel)) (X.2.2.2.2 (.initialized "java/lang/Math") (by decide +kernel)) (X.2.2.2.2 (.code Lib.Math.min.name Lib.Math.min.code 2 (some .int)) (by decide +kernel)) (Nat.le_of_ble_eq_true rfl) (Nat.le_of_ble_eq_true rfl) (Nat.zero_le _) (Nat.zero_le _) dX5_read_9 ?_
  refine lv_cv (gm_min (Eq.refl (nI n)) (show (100 : Int32) = nI 100 from rfl) (by omega) (by omega)) ?_
  refine lv_cv (congrArg nI (show min n 100 = n by omega)) ?_
  refine g_puti 7 2 X hK hP hS hTd rfl hinRX5 tyX5 tyX5_ok nmX5 rfl (by decide) k21 (fun _ h => h) rfl rfl rfl dX5_read_12 (fun H locs hP hS => ?_)
  generalize eI2 : g2 I rd 2 (nI n) = I2 at hP
  refine lv_aload_n X.1 X.2.1 dX5_read_15 rfl (lv_at hl 0 rfl) ?_
  refine lv_iconst (v := 0) X.1 X.2.1 dX5_read_16 (by decide) ?_
  refine g_puti 7 0 X hK hP hS hTd rfl hinRX5 tyX5 tyX5_ok nmX5 rfl (by decide) k25 (fun _ h => h) rfl rfl rfl dX5_read_17 (fun H locs hP hS => ?_)
  generalize eI3 : g2 I2 rd 0 0 = I3 at hP
  refine lv_aload_n X.1 X.2.1 dX5_read_20 rfl (lv_at hl 0 rfl) ?_
  refine g_new 6 X hK hP hS rfl hinRX4 tyX4 tyX4_ok (index := 28) (by decide +kernel) (by decide +kernel) (by decide +kernel) ndX4 (Nat.le_of_ble_eq_true rfl) (Nat.le_of_ble_eq_true rfl) dX5_read_21 (fun H hP hS => ?_)
  generalize eT4 : g1 T a (6 + 8, 0) = T4 at hP
  generalize eI5 : gr I3 a (fun _ => 0) = I5 at hP
  generalize eR6 : gr R1 a (fun _ => none) = R6 at hP
  have hT4z : T4 a = (6 + 8, 0) := by rw [← eT4]; exact g1_same
  have hT4n : ∀ c, c ≠ a → T4 c = T c := fun c h => by rw [← eT4]; exact g1_ne h
  have hI5n : ∀ c j, c ≠ a → I5 c j = I3 c j := fun c j h => by rw [← eI5, gr_row h]
  have hI5z : ∀ j, I5 a j = 0 := fun j => by rw [← eI5, gr_at]
  have hR6n : ∀ c j, c ≠ a → R6 c j = R1 c j := fun c j h => by rw [← eR6, gr_row h]
  have hR6z : ∀ j, R6 a j = none := fun j => by rw [← eR6, gr_at]
  have hTd := (hT4n rd (by omega)).trans hTd
  have hTc := (hT4n tc (by omega)).trans hTc
  have hP : gP D cy B (a + 1) T4 I5 R6 H := hP
  refine lv_dup X.1 X.2.1 dX5_read_24 rfl ?_
  refine g_run_v (f := fun u => u) (va_runIN (As := []) (rest := [.ref a, .ref rd]) X (n_site (a := a) hT4z rfl ((hI5z 6)) ((hI5z 7))) ⟨va_cnB (host := "BarrowPlank") 0 X.2.2.2.2 gX5_read_X4_init_n30 rfl rfl rfl (hNst.at (args := #[]) hC (w := .methodLinkNest RX5 30 yX4_init "BarrowPlank") (by simp)) (X.2.2.2.2 (.initialized yX4_init.cls) (by decide +kernel)) ⟨by decide, by decide, by decide +kernel⟩ ⟨Nat.le_of_ble_eq_true rfl, Nat.le_of_ble_eq_true rfl⟩, rfl, X.2.2.2.2 (.instanceMethod yX4_init) (by decide +kernel)⟩ ⟨gW0_blind, g_pre hK hP hS hC hB⟩ (g := F0 m 25 ls [.ref a, .ref a, .ref rd]) rfl rfl hl.1 rfl (lv_room (Nat.le_of_ble_eq_true rfl)) dX5_read_25 ⟨Nat.le_of_ble_eq_true rfl, Nat.le_of_ble_eq_true rfl⟩) hS (fun u H locs hq hP hS => ?_)
  have hpI : ∀ c j, c < a → c ≠ rd → I5 c j = I c j := fun c j h h9 => (hI5n _ _ (by omega)).trans (gs_ne eI3 (by omega) (gs_ne eI2 (by omega) (rfl)))
  have hpR : ∀ c j, c < a → c ≠ rd → R6 c j = R c j := fun c j h h9 => (hR6n _ _ (by omega)).trans (gs_neR eR1 (by omega) (rfl))
  have hpT : ∀ c, c < a → T4 c = T c := fun c h => (hT4n _ (by omega)).trans (rfl)
  have hp0 : I5 rd 0 = 0 := ((hI5n _ _ (by omega)).trans (gs_same eI3))
  have hp2 : I5 rd 2 = nI n := ((hI5n _ _ (by omega)).trans (gs_ne eI3 (by omega) (gs_same eI2)))
  have hr1 : R6 rd 1 = some tc := ((hR6n _ _ (by omega)).trans (gs_atR eR1 (by omega) (by omega)))
  obtain ⟨T8, I8, R8, rfl, hst, hSr, ⟨hy1, hy2⟩, hT8, hI8, hR8⟩ := hq
  have hP : gP D cy B (a + 5) T8 I8 R8 H := hP
  have hTd := (hT8 rd hrz).trans hTd
  have hTc := (hT8 tc htz).trans hTc
  refine g_putr 7 3 X hK hP hS hTd rfl hinRX5 tyX5 tyX5_ok nmX5 rfl (by decide) k31 (fun _ h => h) rfl (r := some a) rfl rfl rfl dX5_read_28 (fun H locs hP hS => ?_)
  generalize eR7 : g2 R8 rd 3 (some a) = R7 at hP
  refine lv_iconst (v := 0) X.1 X.2.1 dX5_read_31 (by decide) ?_
  refine lv_istore_n (lv' := [(3, .int 0), (0, .ref rd), (1, .ref tc), (2, .int (nI n))]) X.1 X.2.1 dX5_read_32 rfl hl (by decide) rfl (fun ls hl => ?_)
  have hrs : ∀ c j, ¬ (c = rd ∧ j = 3) → R7 c j = R8 c j := fun c j h => gs_neR eR7 h rfl
  have hsa : R7 rd 3 = some a := gs_atR eR7 rfl rfl
  have hst : cSt a T8 R7 := hst.fr (fun j => hrs a j (by omega))
  have hRd : cRd rd tc a T8 I8 R7 tp n 0 := ⟨⟨hTd, (hrs rd 1 (by omega)).trans ((hR8 rd 1 hrz).trans hr1), hsa, hTc, hst⟩, ⟨hrz, htz, hrt⟩, ⟨hn, Nat.zero_le _, htp⟩, (hI8 rd 0 hrz).trans hp0, (hI8 rd 2 hrz).trans hp2, fun k hk => (hI8 tc k htz).trans ((hpI tc k htz (fun g => hrt g.symm)).trans (htc k hk))⟩
  refine i_loop (I := I8) 9 33 [] (fun k Q9 ls => (∃ pk cs y, cRd rd tc a T8 Q9 R7 tp n pk ∧ cSr a Q9 cs [] ∧ (Q9 a 0 = nI y.1 ∧ Q9 a 1 = nI y.2) ∧ (cs.length ≤ k ∧ (flC cs ++ []).length ≤ pk) ∧ rFw rd a I8 Q9 ∧ pSite tp n = pSi tp n (9 - k) (pCl tp n ((false, pk, flC cs ++ []), y))) ∧ lv_has ls 4 [(0, .ref rd), (3, .int (nI k))]) 0 (by omega) ⟨⟨0, [], (1, 2), hRd, hSr, ⟨hy1.trans (show (1 : Int32) = nI 1 from rfl), hy2.trans (show (2 : Int32) = nI 2 from rfl)⟩, ⟨Nat.le_refl _, Nat.le_refl _⟩, (fun _ _ _ _ => rfl), pSite_0⟩, lv_sub hl [1, 0] rfl⟩ hP hS (fun k Q9 H locs ls hk hiv hP hS ih => ?_)
  obtain ⟨⟨pk, cs, y, hRd, hSr, ⟨hy1, hy2⟩, ⟨hck, hLk⟩, hFw, hps⟩, hl⟩ := hiv
  have hpkn := hRd.2.2.1.2.1
  refine lv_iload_n X.1 X.2.1 dX5_read_33 rfl (lv_at hl 1 rfl) ?_
  refine lv_bipush (v := 10) X.1 X.2.1 dX5_read_34 (by decide) ?_
  refine lv_icmp_ge (tgt := 87) X.1 X.2.1 dX5_read_36 (by decide) (fun c36 => ?_) (fun c36 => ?_)
  · exact absurd (gq_le c36 (show (10 : Int32) = nI 10 from rfl) (Eq.refl (nI k)) (by omega) (by omega)) (by omega)
  · have n36 : k < 10 := gq_nle c36 (show (10 : Int32) = nI 10 from rfl) (Eq.refl (nI k)) (by omega) (by omega)
    refine lv_aload_n X.1 X.2.1 dX5_read_39 rfl (lv_at hl 0 rfl) ?_
    refine g_run_i (f := fun u => u) (g_runV (k := 7) [] X hK hP hS hC hB (o_clause hRd hstr hSr hLk (by omega) hy1 hy2) (cwV 0 X.2.2.2.2 gX5_read_X5_readClause rfl rfl rfl (by decide +kernel) ⟨Nat.le_of_ble_eq_true rfl, Nat.le_of_ble_eq_true rfl⟩) hRd.1.1 rfl rfl hl.1 rfl (Nat.le_of_ble_eq_true rfl) dX5_read_40 ⟨Nat.le_of_ble_eq_true rfl, Nat.le_of_ble_eq_true rfl⟩) hS (fun r u H locs hq hP hS => ?_)
    obtain ⟨I1, p1, rfl, hf1, hp1, hq⟩ := hq
    have hP : gP D cy B (a + 5) T8 I1 R7 H := hP
    have hw1 := pW_cl (tp := tp) (n := n) htp (r := ((false, pk, flC cs ++ []), y)) (by show pk ≤ n; omega)
    have hFt := hFw.trs hf1
    rcases hq with ⟨rfl, cs1, y1, hE1, hS1, hy9, hl1⟩ | ⟨rfl, L1, y1, hE1⟩
    · rw [hE1] at hw1 hps
      have hps2 := hps
      have hw1 : pk ≤ p1 ∧ p1 ≤ n ∧ (flC cs1 ++ []).length + pk ≤ p1 + (flC cs ++ []).length := hw1
      have hRd : cRd rd tc a T8 I1 R7 tp n p1 := hRd.mw hf1 hp1 hw1.2.1
      have hSr := hS1
      have hd9 : sH tp n p1 = 59 → p1 < n := fun h => sH_in h (by decide)
      refine lv_if_ne (tgt := 48) X.1 X.2.1 dX5_read_43 (by decide) (fun c43 => ?_) (fun c43 => ?_)
      · have n43 : ¬ 1 = 0 := gq_ne c43 (show (1 : Int32) = nI 1 from rfl) (show (0 : Int32) = nI 0 from rfl) (by omega) (by omega)
        refine lv_aload_n X.1 X.2.1 dX5_read_48 rfl (lv_at hl 0 rfl) ?_
        refine g_geti 7 0 X hK hP hRd.1.1 rfl hinRX5 rfl (by decide) k25 (fun _ h => h) dX5_read_49 (show I1 rd 0 = nI p1 from hRd.2.2.2.1) ?_
        refine lv_aload_n X.1 X.2.1 dX5_read_52 rfl (lv_at hl 0 rfl) ?_
        refine g_geti 7 2 X hK hP hRd.1.1 rfl hinRX5 rfl (by decide) k21 (fun _ h => h) dX5_read_53 (show I1 rd 2 = nI n from hRd.2.2.2.2.1) ?_
        refine lv_icmp_lt (tgt := 64) X.1 X.2.1 dX5_read_56 (by decide) (fun c56 => ?_) (fun c56 => ?_)
        · have n56 : p1 < n := gq_lt c56 (Eq.refl (nI p1)) (Eq.refl (nI n)) (by omega) (by omega)
          refine lv_iload_n X.1 X.2.1 dX5_read_64 rfl (lv_at hl 1 rfl) ?_
          refine lv_bipush (v := 9) X.1 X.2.1 dX5_read_65 (by decide) ?_
          refine lv_icmp_eq (tgt := 79) X.1 X.2.1 dX5_read_67 (by decide) (fun c67 => ?_) (fun c67 => ?_)
          · have n67 : k = 9 := gq_eq c67 (Eq.refl (nI k)) (show (9 : Int32) = nI 9 from rfl) (by omega) (by omega)
            refine lv_null X.1 X.2.1 dX5_read_79 ?_
            have hps3 : pSite tp n = ((false, p1, flC cs1 ++ []), y1) := by rw [hps2, show 9 - k = 0 by omega, pSi_z]
            exact g_aret (f := fun u => u) none (a + 5, T8, I1, R7) X hr (Or.inl ⟨_, rfl⟩) hlk hK hP hS dX5_read_80 rfl ⟨T8, I1, R7, rfl, ⟨(fun c h => (hT8 c h).trans (hpT c h)), (fun c j h h9 => (hFt c j (by omega) (by omega)).trans ((hI8 c j h).trans (hpI c j h h9))), fun c j h h9 => (hrs c j (by omega)).trans ((hR8 c j h).trans (hpR c j h h9))⟩, (by rw [hps3]; exact hp1), Or.inr ⟨rfl, (fun h => absurd (show p1 = n by have h9 := h.2; rw [hps3] at h9; exact h9) (by omega))⟩⟩
          · have n67 : ¬ k = 9 := gq_ne c67 (Eq.refl (nI k)) (show (9 : Int32) = nI 9 from rfl) (by omega) (by omega)
            refine lv_aload_n X.1 X.2.1 dX5_read_70 rfl (lv_at hl 0 rfl) ?_
            refine va_ldcS X.1 X.2.1 X.2.2.2.1 (vk_R.warm hC.1 hR39) dX5_read_71 ?_
            by_cases h59 : sH tp n p1 = 59
            · refine g_run_i (f := fun u => u) (g_runV (k := 7) [.ref s39] X hK hP hS hC hB (o_reads_y hRd hs39 h2 ht39 h59) (cwV 1 X.2.2.2.2 gX5_read_X5_reads rfl rfl rfl (by decide +kernel) ⟨Nat.le_of_ble_eq_true rfl, Nat.le_of_ble_eq_true rfl⟩) hRd.1.1 rfl rfl hl.1 rfl (Nat.le_of_ble_eq_true rfl) dX5_read_73 ⟨Nat.le_of_ble_eq_true rfl, Nat.le_of_ble_eq_true rfl⟩) hS (fun r u H locs hq hP hS => ?_)
              obtain ⟨rfl, rfl⟩ := hq
              generalize eJ8 : g2 I1 rd 0 (nI p1 + 1) = J8 at hP
              have hP : gP D cy B (a + 5) T8 J8 R7 H := hP
              have hfJ8 : ∀ c j, ¬ (c = rd ∧ j = 0) → J8 c j = I1 c j := fun c j h => gs_ne eJ8 h rfl
              have hpnJ8 := sH_in h59 (by decide)
              have hFt := hFt.trs (fun c j h1 _ => hfJ8 c j h1)
              have hRd : cRd rd tc a T8 J8 R7 tp n (p1 + 1) := hRd.mv (fun c j h1 _ => hfJ8 c j h1) ((gs_same eJ8).trans (nI_add _ 1)) (by omega)
              refine lv_if_ne (tgt := 81) X.1 X.2.1 dX5_read_76 (by decide) (fun c76 => ?_) (fun c76 => ?_)
              · have n76 : ¬ 1 = 0 := gq_ne c76 (show (1 : Int32) = nI 1 from rfl) (show (0 : Int32) = nI 0 from rfl) (by omega) (by omega)
                refine lv_iinc (v := nI (k + 1)) (lv' := [(3, .int (nI (k + 1))), (0, .ref rd)]) X.1 X.2.1 dX5_read_81 hl (k := 1) rfl (gn_inc (Eq.refl (nI k)) 1) (by decide) rfl (fun ls hl => ?_)
                refine lv_goto (tgt := 33) X.1 X.2.1 dX5_read_84 (by decide) ?_
                exact ih _ _ _ _ (by omega) ⟨⟨p1 + 1, cs1, y1, hRd, hSr.k (fun c j g1 g2 => hfJ8 c j (by omega)), ⟨(hfJ8 a 0 (by omega)).trans hy9.1, (hfJ8 a 1 (by omega)).trans hy9.2⟩, ⟨by omega, by omega⟩, hFt, hps2.trans (pSi_go (by omega) ⟨rfl, h59⟩)⟩, lv_sub hl [1, 0] rfl⟩ hP hS
              · exact absurd c76 (by decide)
            · refine g_run_i (f := fun u => u) (g_runV (k := 7) [.ref s39] X hK hP hS hC hB (o_reads_n hRd hs39 h2 ht39 h59) (cwV 1 X.2.2.2.2 gX5_read_X5_reads rfl rfl rfl (by decide +kernel) ⟨Nat.le_of_ble_eq_true rfl, Nat.le_of_ble_eq_true rfl⟩) hRd.1.1 rfl rfl hl.1 rfl (Nat.le_of_ble_eq_true rfl) dX5_read_73 ⟨Nat.le_of_ble_eq_true rfl, Nat.le_of_ble_eq_true rfl⟩) hS (fun r u H locs hq hP hS => ?_)
              obtain ⟨rfl, rfl⟩ := hq
              have hP : gP D cy B (a + 5) T8 I1 R7 H := hP
              refine lv_if_ne (tgt := 81) X.1 X.2.1 dX5_read_76 (by decide) (fun c76 => ?_) (fun c76 => ?_)
              · exact absurd rfl c76
              · have n76 : 0 = 0 := gq_eq c76 (show (0 : Int32) = nI 0 from rfl) (show (0 : Int32) = nI 0 from rfl) (by omega) (by omega)
                refine lv_null X.1 X.2.1 dX5_read_79 ?_
                have hps3 : pSite tp n = ((false, p1, flC cs1 ++ []), y1) := hps2.trans (pSi_stop (fun h => h59 h.2))
                exact g_aret (f := fun u => u) none (a + 5, T8, I1, R7) X hr (Or.inl ⟨_, rfl⟩) hlk hK hP hS dX5_read_80 rfl ⟨T8, I1, R7, rfl, ⟨(fun c h => (hT8 c h).trans (hpT c h)), (fun c j h h9 => (hFt c j (by omega) (by omega)).trans ((hI8 c j h).trans (hpI c j h h9))), fun c j h h9 => (hrs c j (by omega)).trans ((hR8 c j h).trans (hpR c j h h9))⟩, (by rw [hps3]; exact hp1), Or.inr ⟨rfl, (fun h => absurd (show p1 = n by have h9 := h.2; rw [hps3] at h9; exact h9) (by omega))⟩⟩
        · have n56 : n ≤ p1 := gq_nlt c56 (Eq.refl (nI p1)) (Eq.refl (nI n)) (by omega) (by omega)
          refine lv_aload_n X.1 X.2.1 dX5_read_59 rfl (lv_at hl 0 rfl) ?_
          refine g_getr 7 3 X hK hP hRd.1.1 rfl hinRX5 rfl (by decide) k31 (fun _ h => h) dX5_read_60 (show va_rf (R7 rd 3) = .ref a from by rw [hRd.1.2.2.1]; rfl) ?_
          have hps3 : pSite tp n = ((false, p1, flC cs1 ++ []), y1) := hps2.trans (pSi_stop (fun h => absurd (hd9 h.2) (by omega)))
          exact g_aret (f := fun u => u) (some a) (a + 5, T8, I1, R7) X hr (Or.inl ⟨_, rfl⟩) hlk hK hP hS dX5_read_63 rfl ⟨T8, I1, R7, rfl, ⟨(fun c h => (hT8 c h).trans (hpT c h)), (fun c j h h9 => (hFt c j (by omega) (by omega)).trans ((hI8 c j h).trans (hpI c j h h9))), fun c j h h9 => (hrs c j (by omega)).trans ((hR8 c j h).trans (hpR c j h h9))⟩, (by rw [hps3]; exact hp1), Or.inl ⟨rfl, ⟨by rw [hps3], by rw [hps3]; show p1 = n; omega⟩, cs1, (by rw [hps3, List.append_nil]), hRd.1.2.2.2.2, hSr, (by rw [hps3]; exact hy9.1), (by rw [hps3]; exact hy9.2)⟩⟩
      · exact absurd c43 (by decide)
    · rw [hE1] at hps
      have hps3 : pSite tp n = ((true, p1, L1), y1) := hps.trans (pSi_stop (fun h => Bool.noConfusion h.1))
      refine lv_if_ne (tgt := 48) X.1 X.2.1 dX5_read_43 (by decide) (fun c43 => ?_) (fun c43 => ?_)
      · exact absurd rfl c43
      · have n43 : 0 = 0 := gq_eq c43 (show (0 : Int32) = nI 0 from rfl) (show (0 : Int32) = nI 0 from rfl) (by omega) (by omega)
        refine lv_null X.1 X.2.1 dX5_read_46 ?_
        exact g_aret (f := fun u => u) none (a + 5, T8, I1, R7) X hr (Or.inl ⟨_, rfl⟩) hlk hK hP hS dX5_read_47 rfl ⟨T8, I1, R7, rfl, ⟨(fun c h => (hT8 c h).trans (hpT c h)), (fun c j h h9 => (hFt c j (by omega) (by omega)).trans ((hI8 c j h).trans (hpI c j h h9))), fun c j h h9 => (hrs c j (by omega)).trans ((hR8 c j h).trans (hpR c j h h9))⟩, (by rw [hps3]; exact hp1), Or.inr ⟨rfl, (fun h => by have h9 := h.1; rw [hps3] at h9; cases h9)⟩⟩

end QG