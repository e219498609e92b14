section PH
variable {l : Launch} {s0 : State} {D : va_G} {cy : Nat → ClassId} {B z : Nat} {T : Nat → Nat × Nat} {I : Nat → Nat → Int32} {R : Nat → Nat → Option Nat} {w b a μ v : Nat} {σ : Nat → Nat} {K ti sh : Nat} {fl : List Nat}
def gCas (s0 : State) : Prop := ∀ κ, κ ≤ 6 → va_Nw (.castable (mnm κ) RX2) s0
theorem gCas.now {s : State} (hC : gCst s0 B s) (h : gCas s0) : gCas s := fun κ hκ => va_Nw.warmC hC.1 (h κ hκ)
theorem g_anyM {s : State} {H : Heap} {κ : Nat} (hκ : κ ≤ 6) (hK : va_K D vwCl (gtys cy) s) (hP : gP D cy B z T I R H) (ht : T b = (mcl κ + 8, 0)) (hcas : gCas s) : va_Any "BarrowPlank$Man" s H b := by
  have h9 := hcas κ hκ
  rcases k7 hκ with rfl | rfl | rfl | rfl | rfl | rfl | rfl <;> exact g_any hK hP ht rfl h9
/-- the men's row: none or men -/
def cMe (w : Nat) (T : Nat → Nat × Nat) (R : Nat → Nat → Option Nat) : Prop := ∀ k, k < 4 → R (w + 5) k = none ∨ ∃ b κ, κ ≤ 6 ∧ R (w + 5) k = some b ∧ T b = (mcl κ + 8, 0)
theorem cWk_fr {R' : Nat → Nat → Option Nat} (h : cWk v T R) (hv : v = w ∨ v + 15 ≤ w ∨ w + 15 ≤ v) (hk : ∀ c j, ¬ c = w + 5 → ¬ (c = w ∧ j = 12) → R' c j = R c j) : cWk v T R' := h.k (fun x hx => by
  have h8 : ∀ x ∈ wRl, x.1 < 10 ∧ ¬ x.1 = 5 ∧ ¬ (x.1 = 0 ∧ x.2.1 = 12) := by decide
  obtain ⟨q1, q2, q3⟩ := h8 x hx
  exact hk _ _ (by omega) (by omega))
def tkW (w c j : Nat) : Prop := (c = w ∧ ¬ j = 6 ∧ ¬ j = 7) ∨ (w + 2 ≤ c ∧ c ≤ w + 4) ∨ c = w + 6 ∨ (w + 11 ≤ c ∧ c < w + 15)

set_option maxHeartbeats 4000000 in
set_option maxRecDepth 100000 in
/-- d_take -/
theorem d_take (hW : cWk w T R) (hV : cWk v T R) (hap : v + 15 ≤ w ∨ w + 15 ≤ v) (hA : cA v I σ) (hMe : cMe v T R) (hsR : R v 12 = some a) (hta : T a = (14, 0)) (hcas : gCas s0) : Met l yX10_take wsX10_take ({ frames := 1, cells := 0, slots := 0, locals := 60 }) (va_Pc [.ref w, .ref v] (gW0 s0 D cy B (z, T, I, R))) (va_Qv (fun u => ∃ I' R', u = (z, T, I', R') ∧ cA w I' σ ∧ ((∀ k, k < 4 → R' (w + 5) k = R (v + 5) k) ∧ R' w 12 = some a) ∧ (∀ c, w + 11 ≤ c → c < w + 15 → I' c 0 = 0) ∧ (∀ c j, ¬ tkW w c j → I' c j = I c j) ∧ ∀ c j, ¬ c = w + 5 → ¬ (c = w ∧ j = 12) → R' c j = R c j) (fun u t => gW1 D cy B u t) (gA B)) 0 0 (gA B) := by
  refine g_met (maxL := 3) (ret := none) (by decide) rfl (Nat.le_of_ble_eq_true rfl) (fun p e s m args below meth c ls X hr hlk hnm hK hP hC hS hl => ?_)
  have hl : lv_has ls 3 [(0, .ref w), (1, .ref v)] := hl
  have hP : gP D cy B z T I R s.heap := hP
  have hB : B ≤ s.heap.size := by rw [hP.1]; exact hP.2.1
  have hinRX10 : ∀ w ∈ wsX100, w ∈ wsX10_take := fun _ h => List.mem_cons_of_mem _ (List.mem_append_left _ (List.mem_append_right _ h))
  have k11 : Cond.fieldLink RX10 11 "BarrowPlank$Works" "yards" "[[I" ∈ wsX10_take := by decide +kernel
  have k18 : Cond.fieldLink RX10 18 "BarrowPlank$Works" "men" "[LBarrowPlank$Man;" ∈ wsX10_take := by decide +kernel
  have k22 : Cond.fieldLink RX10 22 "BarrowPlank$Works" "tired" "[I" ∈ wsX10_take := by decide +kernel
  have k33 : Cond.fieldLink RX10 33 "BarrowPlank$Works" "earth" "I" ∈ wsX10_take := by decide +kernel
  have k48 : Cond.fieldLink RX10 48 "BarrowPlank$Works" "site" "LBarrowPlank$Site;" ∈ wsX10_take := by decide +kernel
  have k53 : Cond.fieldLink RX10 53 "BarrowPlank$Works" "crew" "I" ∈ wsX10_take := by decide +kernel
  have k59 : Cond.fieldLink RX10 59 "BarrowPlank$Works" "sites" "I" ∈ wsX10_take := by decide +kernel
  have k113 : Cond.fieldLink RX10 113 "BarrowPlank$Works" "over" "I" ∈ wsX10_take := by decide +kernel
  have k117 : Cond.fieldLink RX10 117 "BarrowPlank$Works" "second" "I" ∈ wsX10_take := by decide +kernel
  have k129 : Cond.fieldLink RX10 129 "BarrowPlank$Works" "rounds" "I" ∈ wsX10_take := by decide +kernel
  replace hcas := hcas.now hC
  skip
  refine lv_iconst (v := 0) X.1 X.2.1 dX10_take_0 (by decide) ?_
  refine lv_istore_n (lv' := [(2, .int 0), (0, .ref w), (1, .ref v)]) X.1 X.2.1 dX10_take_1 rfl hl (by decide) rfl (fun ls hl => ?_)
  refine i_loop (I := I) 3 2 [] (fun k Q9 ls => ((∀ i y, i < k → y < 10 → Q9 (w + 2 + i) y = I (v + 2 + i) y) ∧ ∀ c j, ¬ (w + 2 ≤ c ∧ c < w + 2 + k) → Q9 c j = I c j) ∧ lv_has ls 3 [(0, .ref w), (1, .ref v), (2, .int (nI k))]) 0 (by omega) ⟨⟨fun _ _ h => absurd h (Nat.not_lt_zero _), fun _ _ _ => rfl⟩, lv_sub hl [1, 2, 0] rfl⟩ hP hS (fun k Q9 H locs ls hk hiv hP hS ih => ?_)
  obtain ⟨⟨hq1, hq2⟩, hl⟩ := hiv
  refine lv_iload_n X.1 X.2.1 dX10_take_2 rfl (lv_at hl 2 rfl) ?_
  refine lv_iconst (v := 2) X.1 X.2.1 dX10_take_3 (by decide) ?_
  refine lv_icmp_gt (tgt := 32) X.1 X.2.1 dX10_take_4 (by decide) (fun c4 => ?_) (fun c4 => ?_)
  · have n4 : 2 < k := gq_lt c4 (show (2 : Int32) = nI 2 from rfl) (Eq.refl (nI k)) (by omega) (by omega)
    obtain rfl : k = 3 := by omega
    refine lv_iconst (v := 0) X.1 X.2.1 dX10_take_32 (by decide) ?_
    refine lv_istore_n (lv' := [(2, .int 0), (0, .ref w), (1, .ref v)]) X.1 X.2.1 dX10_take_33 rfl hl (by decide) rfl (fun ls hl => ?_)
    have hA1 : ∀ c j, v ≤ c → c < v + 15 → Q9 c j = I c j := fun c j h1 h2 => hq2 c j (by omega)
    refine ir_loop (I := Q9) (R := R) 4 34 [] (fun q Jz Rz ls => ((∀ i, i < q → Rz (w + 5) i = R (v + 5) i) ∧ (∀ c j, ¬ (c = w + 5 ∧ j < q) → Rz c j = R c j) ∧ (∀ i, i < q → Jz (w + 6) i = I (v + 6) i) ∧ ∀ c j, ¬ (c = w + 6 ∧ j < q) → Jz c j = Q9 c j) ∧ lv_has ls 3 [(0, .ref w), (1, .ref v), (2, .int (nI q))]) 0 (by omega) ⟨⟨fun _ h => absurd h (Nat.not_lt_zero _), fun _ _ _ => rfl, fun _ h => absurd h (Nat.not_lt_zero _), fun _ _ _ => rfl⟩, lv_sub hl [1, 2, 0] rfl⟩ hP hS (fun q Jz Rz H locs ls hk2 hiv hP hS ih2 => ?_)
    obtain ⟨⟨hr1, hr2, hr3, hr4⟩, hl⟩ := hiv
    have hrf : ∀ c j, ¬ c = w + 5 → ¬ (c = w ∧ j = 12) → Rz c j = R c j := fun c j h1 h2 => hr2 c j (by omega)
    have hW9 : cWk w T Rz := cWk_fr hW (Or.inl rfl) hrf
    have hV9 : cWk v T Rz := cWk_fr hV (by omega) hrf
    refine lv_iload_n X.1 X.2.1 dX10_take_34 rfl (lv_at hl 2 rfl) ?_
    refine lv_iconst (v := 4) X.1 X.2.1 dX10_take_35 (by decide) ?_
    refine lv_icmp_ge (tgt := 69) X.1 X.2.1 dX10_take_36 (by decide) (fun c36 => ?_) (fun c36 => ?_)
    · have n36 : 4 ≤ q := gq_le c36 (show (4 : Int32) = nI 4 from rfl) (Eq.refl (nI q)) (by omega) (by omega)
      obtain rfl : q = 4 := by omega
      refine lv_aload_n X.1 X.2.1 dX10_take_69 rfl (lv_at hl 0 rfl) ?_
      refine lv_aload_n X.1 X.2.1 dX10_take_70 rfl (lv_at hl 1 rfl) ?_
      refine g_geti 12 5 X hK hP hV9.t0 rfl hinRX10 rfl (by decide) k53 (fun _ h => h) dX10_take_71 (show Jz v 5 = nI (σ 38) from (((hr4 _ _ (by omega)).trans (hA1 _ _ (by omega) (by omega))).trans (hA.2.2.1))) ?_
      refine g_puti 12 5 X hK hP hS hW9.t0 rfl hinRX10 tyX10 tyX10_ok nmX10 rfl (by decide) k53 (fun _ h => h) rfl rfl rfl dX10_take_74 (fun H locs hP hS => ?_)
      generalize eI1 : g2 Jz w 5 (nI (σ 38)) = I1 at hP
      refine lv_aload_n X.1 X.2.1 dX10_take_77 rfl (lv_at hl 0 rfl) ?_
      refine lv_aload_n X.1 X.2.1 dX10_take_78 rfl (lv_at hl 1 rfl) ?_
      refine g_geti 12 8 X hK hP hV9.t0 rfl hinRX10 rfl (by decide) k33 (fun _ h => h) dX10_take_79 (show I1 v 8 = nI (σ 0) from (gs_ne eI1 (by omega) (((hr4 _ _ (by omega)).trans (hA1 _ _ (by omega) (by omega))).trans (hA.2.2.2.1)))) ?_
      refine g_puti 12 8 X hK hP hS hW9.t0 rfl hinRX10 tyX10 tyX10_ok nmX10 rfl (by decide) k33 (fun _ h => h) rfl rfl rfl dX10_take_82 (fun H locs hP hS => ?_)
      generalize eI2 : g2 I1 w 8 (nI (σ 0)) = I2 at hP
      refine lv_aload_n X.1 X.2.1 dX10_take_85 rfl (lv_at hl 0 rfl) ?_
      refine lv_aload_n X.1 X.2.1 dX10_take_86 rfl (lv_at hl 1 rfl) ?_
      refine g_geti 12 9 X hK hP hV9.t0 rfl hinRX10 rfl (by decide) k113 (fun _ h => h) dX10_take_87 (show I2 v 9 = nI (σ 1) from (gs_ne eI2 (by omega) (gs_ne eI1 (by omega) (((hr4 _ _ (by omega)).trans (hA1 _ _ (by omega) (by omega))).trans (hA.2.2.2.2.1))))) ?_
      refine g_puti 12 9 X hK hP hS hW9.t0 rfl hinRX10 tyX10 tyX10_ok nmX10 rfl (by decide) k113 (fun _ h => h) rfl rfl rfl dX10_take_90 (fun H locs hP hS => ?_)
      generalize eI3 : g2 I2 w 9 (nI (σ 1)) = I3 at hP
      refine lv_aload_n X.1 X.2.1 dX10_take_93 rfl (lv_at hl 0 rfl) ?_
      refine lv_aload_n X.1 X.2.1 dX10_take_94 rfl (lv_at hl 1 rfl) ?_
      refine g_geti 12 10 X hK hP hV9.t0 rfl hinRX10 rfl (by decide) k117 (fun _ h => h) dX10_take_95 (show I3 v 10 = nI (σ 2) from (gs_ne eI3 (by omega) (gs_ne eI2 (by omega) (gs_ne eI1 (by omega) (((hr4 _ _ (by omega)).trans (hA1 _ _ (by omega) (by omega))).trans (hA.2.2.2.2.2.1)))))) ?_
      refine g_puti 12 10 X hK hP hS hW9.t0 rfl hinRX10 tyX10 tyX10_ok nmX10 rfl (by decide) k117 (fun _ h => h) rfl rfl rfl dX10_take_98 (fun H locs hP hS => ?_)
      generalize eI4 : g2 I3 w 10 (nI (σ 2)) = I4 at hP
      refine lv_aload_n X.1 X.2.1 dX10_take_101 rfl (lv_at hl 0 rfl) ?_
      refine lv_aload_n X.1 X.2.1 dX10_take_102 rfl (lv_at hl 1 rfl) ?_
      refine g_geti 12 11 X hK hP hV9.t0 rfl hinRX10 rfl (by decide) k129 (fun _ h => h) dX10_take_103 (show I4 v 11 = nI (σ 3) from (gs_ne eI4 (by omega) (gs_ne eI3 (by omega) (gs_ne eI2 (by omega) (gs_ne eI1 (by omega) (((hr4 _ _ (by omega)).trans (hA1 _ _ (by omega) (by omega))).trans (hA.2.2.2.2.2.2.1))))))) ?_
      refine g_puti 12 11 X hK hP hS hW9.t0 rfl hinRX10 tyX10 tyX10_ok nmX10 rfl (by decide) k129 (fun _ h => h) rfl rfl rfl dX10_take_106 (fun H locs hP hS => ?_)
      generalize eI5 : g2 I4 w 11 (nI (σ 3)) = I5 at hP
      refine lv_aload_n X.1 X.2.1 dX10_take_109 rfl (lv_at hl 0 rfl) ?_
      refine lv_aload_n X.1 X.2.1 dX10_take_110 rfl (lv_at hl 1 rfl) ?_
      refine g_getr 12 12 X hK hP hV9.t0 rfl hinRX10 rfl (by decide) k48 (fun _ h => h) dX10_take_111 (show va_rf (Rz v 12) = .ref a from by rw [((hr2 v 12 (by omega)).trans hsR)]; rfl) ?_
      refine g_putr 12 12 X hK hP hS hW9.t0 rfl hinRX10 tyX10 tyX10_ok nmX10 rfl (by decide) k48 (fun _ h => h) rfl (r := some a) rfl rfl rfl dX10_take_114 (fun H locs hP hS => ?_)
      generalize eR6 : g2 Rz w 12 (some a) = R6 at hP
      refine lv_aload_n X.1 X.2.1 dX10_take_117 rfl (lv_at hl 0 rfl) ?_
      refine lv_aload_n X.1 X.2.1 dX10_take_118 rfl (lv_at hl 1 rfl) ?_
      refine g_geti 12 13 X hK hP hV9.t0 rfl hinRX10 rfl (by decide) k59 (fun _ h => h) dX10_take_119 (show I5 v 13 = nI (σ 39) from (gs_ne eI5 (by omega) (gs_ne eI4 (by omega) (gs_ne eI3 (by omega) (gs_ne eI2 (by omega) (gs_ne eI1 (by omega) (((hr4 _ _ (by omega)).trans (hA1 _ _ (by omega) (by omega))).trans (hA.2.2.2.2.2.2.2)))))))) ?_
      refine g_puti 12 13 X hK hP hS hW9.t0 rfl hinRX10 tyX10 tyX10_ok nmX10 rfl (by decide) k59 (fun _ h => h) rfl rfl rfl dX10_take_122 (fun H locs hP hS => ?_)
      generalize eI7 : g2 I5 w 13 (nI (σ 39)) = I7 at hP
      refine lv_aload_n X.1 X.2.1 dX10_take_125 rfl (lv_at hl 0 rfl) ?_
      refine g_run_v (f := fun u => u) (g_runV (k := 12) [] X hK hP hS hC hB (d_forget (cWk_site hW9 eR6)) (cwV 0 X.2.2.2.2 gX10_take_X10_forget rfl rfl rfl (by decide +kernel) ⟨Nat.le_of_ble_eq_true rfl, Nat.le_of_ble_eq_true rfl⟩) hW9.t0 rfl rfl hl.1 rfl (Nat.le_of_ble_eq_true rfl) dX10_take_126 (by exact ⟨Nat.zero_le _, Nat.zero_le _⟩)) hS (fun u H locs hq hP hS => ?_)
      subst hq
      generalize eF8 : iFg w I7 4 = F8 at hP
      have hP : gP D cy B z T F8 R6 H := hP
      have hfo : ∀ c j, ¬ (c = w ∧ (j = 5 ∨ j = 8 ∨ j = 9 ∨ j = 10 ∨ j = 11 ∨ j = 13)) → ¬ (j = 0 ∧ w + 11 ≤ c ∧ c < w + 15) → F8 c j = Jz c j := fun c j h1 h2 => (by rw [← eF8, iFg_r (by omega)]; exact (gs_ne eI7 (by omega) (gs_ne eI5 (by omega) (gs_ne eI4 (by omega) (gs_ne eI3 (by omega) (gs_ne eI2 (by omega) (gs_ne eI1 (by omega) rfl)))))))
      have hcA : cA w F8 σ := ⟨fun i y hi hy => (hfo _ _ (by omega) (by omega)).trans ((hr4 _ _ (by omega)).trans ((hq1 i y hi hy).trans (hA.1 i y hi hy))), fun ν hν => (hfo _ _ (by omega) (by omega)).trans ((hr3 ν hν).trans (hA.2.1 ν hν)), (by rw [← eF8]; exact (iFg_r (by omega)).trans (gs_ne eI7 (by omega) (gs_ne eI5 (by omega) (gs_ne eI4 (by omega) (gs_ne eI3 (by omega) (gs_ne eI2 (by omega) (gs_same eI1))))))), (by rw [← eF8]; exact (iFg_r (by omega)).trans (gs_ne eI7 (by omega) (gs_ne eI5 (by omega) (gs_ne eI4 (by omega) (gs_ne eI3 (by omega) (gs_same eI2)))))), (by rw [← eF8]; exact (iFg_r (by omega)).trans (gs_ne eI7 (by omega) (gs_ne eI5 (by omega) (gs_ne eI4 (by omega) (gs_same eI3))))), (by rw [← eF8]; exact (iFg_r (by omega)).trans (gs_ne eI7 (by omega) (gs_ne eI5 (by omega) (gs_same eI4)))), (by rw [← eF8]; exact (iFg_r (by omega)).trans (gs_ne eI7 (by omega) (gs_same eI5))), (by rw [← eF8]; exact (iFg_r (by omega)).trans (gs_same eI7))⟩
      exact g_vret (f := fun u => u) (z, T, F8, R6) X hr hlk hK hP hS dX10_take_129 ⟨F8, R6, rfl, hcA, ⟨fun k hk => gs_neR eR6 (by omega) (hr1 k hk), gs_atR eR6 rfl rfl⟩, (fun c h1 h2 => by rw [← eF8]; exact iFg_k h1 (by omega)), (fun c j h => by unfold tkW at h; exact (hfo c j (by omega) (by omega)).trans ((hr4 c j (by omega)).trans (hq2 c j (by omega)))), fun c j h1 h2 => gs_neR eR6 (by omega) (hrf c j h1 h2)⟩
    · have n36 : q < 4 := gq_nle c36 (show (4 : Int32) = nI 4 from rfl) (Eq.refl (nI q)) (by omega) (by omega)
      rcases hMe q (by omega) with hmv | ⟨b9, κ9, hκ9, hmv, htb9⟩
      · refine lv_aload_n X.1 X.2.1 dX10_take_39 rfl (lv_at hl 0 rfl) ?_
        refine g_getr 12 1 X hK hP hW9.t0 rfl hinRX10 rfl (by decide) k18 (fun _ h => h) dX10_take_40 (show va_rf (Rz w 1) = .ref (w + 5) from by rw [(show Rz w 1 = some (w + 5) from hW9.r 1 rfl)]; rfl) ?_
        refine lv_iload_n X.1 X.2.1 dX10_take_43 rfl (lv_at hl 2 rfl) ?_
        refine lv_aload_n X.1 X.2.1 dX10_take_44 rfl (lv_at hl 1 rfl) ?_
        refine g_getr 12 1 X hK hP hV9.t0 rfl hinRX10 rfl (by decide) k18 (fun _ h => h) dX10_take_45 (show va_rf (Rz v 1) = .ref (v + 5) from by rw [(show Rz v 1 = some (v + 5) from hV9.r 1 rfl)]; rfl) ?_
        refine lv_iload_n X.1 X.2.1 dX10_take_48 rfl (lv_at hl 2 rfl) ?_
        refine g_maald q X hK hP (hV9.t 5 rfl) (gIx_of (Eq.refl (nI q)) (by omega) (by omega)) dX10_take_49 (show va_rf (Rz (v + 5) q) = .null from by rw [((hr2 _ _ (by omega)).trans hmv)]; rfl) ?_
        refine g_aastN (kA := 3) (t0 := 3) (E := "BarrowPlank$Man") q X hK hP hS (hW9.t 5 rfl) (fun _ => gE_man (hW9.t 5 rfl)) rfl (gIx_of (Eq.refl (nI q)) (by omega) (by omega)) dX10_take_50 (fun H locs hP hS => ?_)
        generalize eR9 : g2 Rz (w + 5) q (none) = R9 at hP
        refine lv_aload_n X.1 X.2.1 dX10_take_51 rfl (lv_at hl 0 rfl) ?_
        refine g_getr 12 2 X hK hP hW9.t0 rfl hinRX10 rfl (by decide) k22 (fun _ h => h) dX10_take_52 (show va_rf (R9 w 2) = .ref (w + 6) from by rw [(gs_neR eR9 (by omega) (show Rz w 2 = some (w + 6) from hW9.r 2 rfl))]; rfl) ?_
        refine lv_iload_n X.1 X.2.1 dX10_take_55 rfl (lv_at hl 2 rfl) ?_
        refine lv_aload_n X.1 X.2.1 dX10_take_56 rfl (lv_at hl 1 rfl) ?_
        refine g_getr 12 2 X hK hP hV9.t0 rfl hinRX10 rfl (by decide) k22 (fun _ h => h) dX10_take_57 (show va_rf (R9 v 2) = .ref (v + 6) from by rw [(gs_neR eR9 (by omega) (show Rz v 2 = some (v + 6) from hV9.r 2 rfl))]; rfl) ?_
        refine lv_iload_n X.1 X.2.1 dX10_take_60 rfl (lv_at hl 2 rfl) ?_
        refine g_iald q X hK hP (hV9.t 6 rfl) (gIx_of (Eq.refl (nI q)) (by omega) (by omega)) dX10_take_61 (show Jz (v + 6) q = nI (σ (4 + q)) from (((hr4 _ _ (by omega)).trans (hA1 _ _ (by omega) (by omega))).trans ((hA.2.1 q (by omega))))) ?_
        refine g_iast q X hK hP hS (hW9.t 6 rfl) (gIx_of (Eq.refl (nI q)) (by omega) (by omega)) dX10_take_62 (fun H locs hP hS => ?_)
        generalize eI10 : g2 Jz (w + 6) q (nI (σ (4 + q))) = I10 at hP
        refine lv_iinc (v := nI (q + 1)) (lv' := [(2, .int (nI (q + 1))), (0, .ref w), (1, .ref v)]) X.1 X.2.1 dX10_take_63 hl (k := 2) rfl (gn_inc (Eq.refl (nI q)) 1) (by decide) rfl (fun ls hl => ?_)
        refine lv_goto (tgt := 34) X.1 X.2.1 dX10_take_66 (by decide) ?_
        exact ih2 _ _ _ _ _ (by omega) ⟨⟨fun i h => (by by_cases e9 : i = q; (· subst e9; exact (gs_atR eR9 rfl rfl).trans hmv.symm); exact gs_neR eR9 (by omega) (hr1 i (by omega))), fun c j h => gs_neR eR9 (by omega) (hr2 c j (by omega)), fun i h => (by by_cases e9 : i = q; (· subst e9; exact (gs_at eI10 rfl rfl).trans (hA.2.1 _ (by omega)).symm); exact gs_ne eI10 (by omega) (hr3 i (by omega))), fun c j h => gs_ne eI10 (by omega) (hr4 c j (by omega))⟩, lv_sub hl [1, 2, 0] rfl⟩ hP hS
      · refine lv_aload_n X.1 X.2.1 dX10_take_39 rfl (lv_at hl 0 rfl) ?_
        refine g_getr 12 1 X hK hP hW9.t0 rfl hinRX10 rfl (by decide) k18 (fun _ h => h) dX10_take_40 (show va_rf (Rz w 1) = .ref (w + 5) from by rw [(show Rz w 1 = some (w + 5) from hW9.r 1 rfl)]; rfl) ?_
        refine lv_iload_n X.1 X.2.1 dX10_take_43 rfl (lv_at hl 2 rfl) ?_
        refine lv_aload_n X.1 X.2.1 dX10_take_44 rfl (lv_at hl 1 rfl) ?_
        refine g_getr 12 1 X hK hP hV9.t0 rfl hinRX10 rfl (by decide) k18 (fun _ h => h) dX10_take_45 (show va_rf (Rz v 1) = .ref (v + 5) from by rw [(show Rz v 1 = some (v + 5) from hV9.r 1 rfl)]; rfl) ?_
        refine lv_iload_n X.1 X.2.1 dX10_take_48 rfl (lv_at hl 2 rfl) ?_
        refine g_maald q X hK hP (hV9.t 5 rfl) (gIx_of (Eq.refl (nI q)) (by omega) (by omega)) dX10_take_49 (show va_rf (Rz (v + 5) q) = .ref b9 from by rw [((hr2 _ _ (by omega)).trans hmv)]; rfl) ?_
        refine g_aast (kA := 3) (t0 := 3) (E := "BarrowPlank$Man") q X hK hP hS (hW9.t 5 rfl) (fun _ => gE_man (hW9.t 5 rfl)) rfl (g_anyM hκ9 hK hP htb9 hcas) (gIx_of (Eq.refl (nI q)) (by omega) (by omega)) dX10_take_50 (fun H locs hP hS => ?_)
        generalize eR11 : g2 Rz (w + 5) q (some b9) = R11 at hP
        refine lv_aload_n X.1 X.2.1 dX10_take_51 rfl (lv_at hl 0 rfl) ?_
        refine g_getr 12 2 X hK hP hW9.t0 rfl hinRX10 rfl (by decide) k22 (fun _ h => h) dX10_take_52 (show va_rf (R11 w 2) = .ref (w + 6) from by rw [(gs_neR eR11 (by omega) (show Rz w 2 = some (w + 6) from hW9.r 2 rfl))]; rfl) ?_
        refine lv_iload_n X.1 X.2.1 dX10_take_55 rfl (lv_at hl 2 rfl) ?_
        refine lv_aload_n X.1 X.2.1 dX10_take_56 rfl (lv_at hl 1 rfl) ?_
        refine g_getr 12 2 X hK hP hV9.t0 rfl hinRX10 rfl (by decide) k22 (fun _ h => h) dX10_take_57 (show va_rf (R11 v 2) = .ref (v + 6) from by rw [(gs_neR eR11 (by omega) (show Rz v 2 = some (v + 6) from hV9.r 2 rfl))]; rfl) ?_
        refine lv_iload_n X.1 X.2.1 dX10_take_60 rfl (lv_at hl 2 rfl) ?_
        refine g_iald q X hK hP (hV9.t 6 rfl) (gIx_of (Eq.refl (nI q)) (by omega) (by omega)) dX10_take_61 (show Jz (v + 6) q = nI (σ (4 + q)) from (((hr4 _ _ (by omega)).trans (hA1 _ _ (by omega) (by omega))).trans ((hA.2.1 q (by omega))))) ?_
        refine g_iast q X hK hP hS (hW9.t 6 rfl) (gIx_of (Eq.refl (nI q)) (by omega) (by omega)) dX10_take_62 (fun H locs hP hS => ?_)
        generalize eI12 : g2 Jz (w + 6) q (nI (σ (4 + q))) = I12 at hP
        refine lv_iinc (v := nI (q + 1)) (lv' := [(2, .int (nI (q + 1))), (0, .ref w), (1, .ref v)]) X.1 X.2.1 dX10_take_63 hl (k := 2) rfl (gn_inc (Eq.refl (nI q)) 1) (by decide) rfl (fun ls hl => ?_)
        refine lv_goto (tgt := 34) X.1 X.2.1 dX10_take_66 (by decide) ?_
        exact ih2 _ _ _ _ _ (by omega) ⟨⟨fun i h => (by by_cases e9 : i = q; (· subst e9; exact (gs_atR eR11 rfl rfl).trans hmv.symm); exact gs_neR eR11 (by omega) (hr1 i (by omega))), fun c j h => gs_neR eR11 (by omega) (hr2 c j (by omega)), fun i h => (by by_cases e9 : i = q; (· subst e9; exact (gs_at eI12 rfl rfl).trans (hA.2.1 _ (by omega)).symm); exact gs_ne eI12 (by omega) (hr3 i (by omega))), fun c j h => gs_ne eI12 (by omega) (hr4 c j (by omega))⟩, lv_sub hl [1, 2, 0] rfl⟩ hP hS
  · have n4 : k ≤ 2 := gq_nlt c4 (show (2 : Int32) = nI 2 from rfl) (Eq.refl (nI k)) (by omega) (by omega)
    refine lv_aload_n X.1 X.2.1 dX10_take_7 rfl (lv_at hl 1 rfl) ?_
    refine g_getr 12 0 X hK hP hV.t0 rfl hinRX10 rfl (by decide) k11 (fun _ h => h) dX10_take_8 (show va_rf (R v 0) = .ref (v + 1) from by rw [(show R v 0 = some (v + 1) from hV.r 0 rfl)]; rfl) ?_
    refine lv_iload_n X.1 X.2.1 dX10_take_11 rfl (lv_at hl 2 rfl) ?_
    refine g_2aald k X hK hP (hV.t 1 rfl) (gIx_of (Eq.refl (nI k)) (by omega) (by omega)) dX10_take_12 (show va_rf (R (v + 1) k) = .ref (v + 2 + k) from by rw [(hV.yd (k := k) (by omega))]; rfl) ?_
    refine lv_iconst (v := 0) X.1 X.2.1 dX10_take_13 (by decide) ?_
    refine lv_aload_n X.1 X.2.1 dX10_take_14 rfl (lv_at hl 0 rfl) ?_
    refine g_getr 12 0 X hK hP hW.t0 rfl hinRX10 rfl (by decide) k11 (fun _ h => h) dX10_take_15 (show va_rf (R w 0) = .ref (w + 1) from by rw [(show R w 0 = some (w + 1) from hW.r 0 rfl)]; rfl) ?_
    refine lv_iload_n X.1 X.2.1 dX10_take_18 rfl (lv_at hl 2 rfl) ?_
    refine g_2aald k X hK hP (hW.t 1 rfl) (gIx_of (Eq.refl (nI k)) (by omega) (by omega)) dX10_take_19 (show va_rf (R (w + 1) k) = .ref (w + 2 + k) from by rw [(hW.yd (k := k) (by omega))]; rfl) ?_
    refine lv_iconst (v := 0) X.1 X.2.1 dX10_take_20 (by decide) ?_
    refine lv_bipush (v := 10) X.1 X.2.1 dX10_take_21 (by decide) ?_
    refine g_copy (kA := 0) (t0 := 0) (ty := .int) (n := 10) X hl.1 hK hP hS (index := 154) (by decide +kernel) (by decide +kernel) (by decide +kernel) (by decide +kernel) (hW.ydt (by omega)) (gE_int (hV.ydt (by omega))) (fun _ => gE_int (hW.ydt (by omega))) rfl rfl rfl (by decide) (by decide) (by decide) (fun _ _ => rfl) (Nat.le_of_ble_eq_true rfl) (Nat.le_of_ble_eq_true rfl) dX10_take_23 (fun H locs hP hS => ?_)
    generalize eC13 : gcp Q9 (v + 2 + k) (w + 2 + k) 10 = C13 at hP
    refine lv_iinc (v := nI (k + 1)) (lv' := [(2, .int (nI (k + 1))), (0, .ref w), (1, .ref v)]) X.1 X.2.1 dX10_take_26 hl (k := 2) rfl (gn_inc (Eq.refl (nI k)) 1) (by decide) rfl (fun ls hl => ?_)
    refine lv_goto (tgt := 2) X.1 X.2.1 dX10_take_29 (by decide) ?_
    exact ih _ _ _ _ (by omega) ⟨⟨fun i y hi hy => (by by_cases e9 : i = k; (· subst e9; rw [← eC13, gcp_at hy]; exact hq2 _ _ (by omega)); rw [← eC13, gcp_ne (by omega)]; exact hq1 i y (by omega) hy), fun c j h => (by rw [← eC13, gcp_ne (by omega)]; exact hq2 c j (by omega))⟩, lv_sub hl [1, 2, 0] rfl⟩ hP hS

end PH