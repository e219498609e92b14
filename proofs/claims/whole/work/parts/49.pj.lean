section PJ
variable {l : Launch} {s0 : State} {D : va_G} {cy : Nat → ClassId} {B z : Nat} {T : Nat → Nat × Nat} {I : Nat → Nat → Int32} {R : Nat → Nat → Option Nat} {w b a μ v : Nat} {σ : Nat → Nat} {K ti sh : Nat} {fl : List Nat}
set_option maxHeartbeats 4000000 in
set_option maxRecDepth 100000 in
/-- d_carry -/
theorem d_carry (hall : cAll w b a μ T I R σ fl ti sh K) (hCc : cC w I fl σ) {ld t : Nat} (hld : ld ≤ 20) (ht : t ≤ 9999) (hKb : K + 60000000 < 2 ^ 28) : Met l yX10_carry wsX10_carry ({ frames := 5, cells := 0, slots := 0, locals := 124 }) (va_Pc [.ref w, .ref b, .int (nI ld), .int (nI t)] (gW0 s0 D cy B (z, T, I, R))) (va_Qv (fun u => ∃ I', u = (z, T, I', R) ∧ (cA w I' (cBy fl ti sh μ ld t 200 σ 0) ∧ cC w I' fl (cBy fl ti sh μ ld t 200 σ 0) ∧ sBd (cBy fl ti sh μ ld t 200 σ 0) (K + 60000000) ∧ ∀ i, 18 ≤ i → cBy fl ti sh μ ld t 200 σ 0 i = σ i) ∧ ∀ c j, ¬ kW w c j → I' c j = I c j) (fun u t => gW1 D cy B u t) (gA B)) 0 0 (gA B) := by
  refine g_met (maxL := 7) (ret := none) (by decide) rfl (Nat.le_of_ble_eq_true rfl) (fun p e s m args below meth c ls X hr hlk hnm hK hP hC hS hl => ?_)
  have hl : lv_has ls 7 [(0, .ref w), (1, .ref b), (2, .int (nI ld)), (3, .int (nI t))] := hl
  have hP : gP D cy B z T I R s.heap := hP
  have hB : B ≤ s.heap.size := by rw [hP.1]; exact hP.2.1
  have hinRX10 : ∀ w ∈ wsX100, w ∈ wsX10_carry := fun _ h => List.mem_cons_of_mem _ (List.mem_append_left _ (List.mem_append_left _ (List.mem_append_left _ (List.mem_append_left _ (List.mem_append_left _ (List.mem_append_left _ (List.mem_append_left _ (List.mem_append_left _ (List.mem_append_left _ (List.mem_append_right _ h))))))))))
  have hinRX8 : ∀ w ∈ wsX80, w ∈ wsX10_carry := fun _ h => List.mem_cons_of_mem _ (List.mem_append_left _ (List.mem_append_left _ (List.mem_append_left _ (List.mem_append_left _ (List.mem_append_left _ (List.mem_append_left _ (List.mem_append_left _ (List.mem_append_left _ (List.mem_append_right _ h)))))))))
  have k33 : Cond.fieldLink RX10 33 "BarrowPlank$Works" "earth" "I" ∈ wsX10_carry := by decide +kernel
  have k110 : Cond.fieldLink RX10 110 "BarrowPlank$Trip" "seconds" "I" ∈ wsX10_carry := by decide +kernel
  have k117 : Cond.fieldLink RX10 117 "BarrowPlank$Works" "second" "I" ∈ wsX10_carry := by decide +kernel
  have hall0 := hall
  obtain ⟨hW, hA, hm, hob0, hst, hsi, hsR, hoa0, ⟨hok, hfl, hti, hsh⟩, hb, hμ, hμ38⟩ := hall
  have hb3 := hb.2.1.2.2
  have hob := hob0
  have hoa := hoa0
  unfold oW at hob
  unfold oS at hoa
  obtain ⟨hk6, hv9, hs20⟩ := hb.2.2.2.2.2.2.2.2.1 μ hμ
  have h0 := hb.1
  have ht9 := hb.2.2.1 μ hμ
  have hK2 := hb.2.1.2.1
  refine lv_aload_n X.1 X.2.1 dX10_carry_0 rfl (lv_at hl 0 rfl) ?_
  refine g_geti 12 10 X hK hP hW.t0 rfl hinRX10 rfl (by decide) k117 (fun _ h => h) dX10_carry_1 (show I w 10 = nI (σ 2) from hA.2.2.2.2.2.1) ?_
  refine lv_iload_n X.1 X.2.1 dX10_carry_4 rfl (lv_at hl 3 rfl) ?_
  refine lv_iadd X.1 X.2.1 dX10_carry_5 ?_
  refine lv_istore (lv' := [(4, .int ((nI (σ 2)) + (nI t))), (0, .ref w), (1, .ref b), (2, .int (nI ld)), (3, .int (nI t))]) X.1 X.2.1 dX10_carry_6 hl (by decide) rfl (fun ls hl => ?_)
  refine lv_iconst (v := 0) X.1 X.2.1 dX10_carry_8 (by decide) ?_
  refine lv_istore (lv' := [(5, .int 0), (4, .int ((nI (σ 2)) + (nI t))), (0, .ref w), (1, .ref b), (2, .int (nI ld)), (3, .int (nI t))]) X.1 X.2.1 dX10_carry_9 hl (by decide) rfl (fun ls hl => ?_)
  refine i_loop (I := I) 200 11 [] (fun k Q9 ls => (∃ σk tk, cAll w b a μ T Q9 R σk fl ti sh (K + 300000 * k) ∧ cC w Q9 fl σk ∧ σk 2 = σ 2 + tk ∧ cBy fl ti sh μ ld t 200 σ 0 = cBy fl ti sh μ ld t (200 - k) σk tk ∧ (∀ i, 18 ≤ i → σk i = σ i) ∧ ∀ c j, ¬ kW w c j → Q9 c j = I c j) ∧ lv_has ls 7 [(0, .ref w), (1, .ref b), (2, .int (nI ld)), (3, .int (nI t)), (4, .int ((nI (σ 2)) + (nI t))), (5, .int (nI k))]) 0 (by omega) ⟨⟨σ, 0, hall0, hCc, rfl, rfl, fun _ _ => rfl, fun _ _ _ => rfl⟩, lv_sub hl [2, 3, 4, 5, 1, 0] rfl⟩ hP hS (fun k Q9 H locs ls hk hiv hP hS ih => ?_)
  obtain ⟨⟨σk, tk, hal9, hcc9, h29, hby9, h18, hko9⟩, hl⟩ := hiv
  have hA9 := hal9.2.1
  have hb9 := hal9.2.2.2.2.2.2.2.2.2.1
  have hK9 := hb9.2.1.2.1
  have h09 := hb9.1
  have hse := sSe_le' ⟨hok, hfl, hti, hsh⟩ hb9 hμ ld
  refine lv_iload X.1 X.2.1 dX10_carry_11 (lv_at hl 5 rfl) ?_
  refine lv_sipush (v := 200) X.1 X.2.1 dX10_carry_13 (by decide) ?_
  refine lv_icmp_ge (tgt := 65) X.1 X.2.1 dX10_carry_16 (by decide) (fun c16 => ?_) (fun c16 => ?_)
  · have n16 : 200 ≤ k := gq_le c16 (show (200 : Int32) = nI 200 from rfl) (Eq.refl (nI k)) (by omega) (by omega)
    have he : cBy fl ti sh μ ld t 200 σ 0 = σk := hby9.trans (by rw [show 200 - k = 0 by omega]; rfl)
    exact g_vret (f := fun u => u) (z, T, Q9, R) X hr hlk hK hP hS dX10_carry_65 ⟨Q9, rfl, (by rw [he]; exact ⟨hA9, hcc9, sBd_le hb9 (by omega), h18⟩), hko9⟩
  · have n16 : k < 200 := gq_nle c16 (show (200 : Int32) = nI 200 from rfl) (Eq.refl (nI k)) (by omega) (by omega)
    refine lv_aload_n X.1 X.2.1 dX10_carry_19 rfl (lv_at hl 0 rfl) ?_
    refine g_geti 12 8 X hK hP hW.t0 rfl hinRX10 rfl (by decide) k33 (fun _ h => h) dX10_carry_20 (show Q9 w 8 = nI (σk 0) from hA9.2.2.2.1) ?_
    refine lv_if_le (tgt := 65) X.1 X.2.1 dX10_carry_23 (by decide) (fun c23 => ?_) (fun c23 => ?_)
    · have n23 : (σk 0) ≤ 0 := gq_le c23 (Eq.refl (nI (σk 0))) (show (0 : Int32) = nI 0 from rfl) (by omega) (by omega)
      have he : cBy fl ti sh μ ld t 200 σ 0 = σk := hby9.trans (cBy_z (by omega))
      exact g_vret (f := fun u => u) (z, T, Q9, R) X hr hlk hK hP hS dX10_carry_65 ⟨Q9, rfl, (by rw [he]; exact ⟨hA9, hcc9, sBd_le hb9 (by omega), h18⟩), hko9⟩
    · have n23 : 0 < (σk 0) := gq_nle c23 (Eq.refl (nI (σk 0))) (show (0 : Int32) = nI 0 from rfl) (by omega) (by omega)
      refine lv_aload_n X.1 X.2.1 dX10_carry_26 rfl (lv_at hl 0 rfl) ?_
      refine lv_aload_n X.1 X.2.1 dX10_carry_27 rfl (lv_at hl 1 rfl) ?_
      refine lv_iload_n X.1 X.2.1 dX10_carry_28 rfl (lv_at hl 2 rfl) ?_
      refine g_run_q (f := fun u => u) (g_runV (k := 12) [.ref b, .int (nI ld)] X hK hP hS hC hB (d_plan hal9 hcc9 hld) (cwV 2 X.2.2.2.2 gX10_carry_X10_plan rfl rfl rfl (by decide +kernel) ⟨Nat.le_of_ble_eq_true rfl, Nat.le_of_ble_eq_true rfl⟩) hW.t0 rfl rfl hl.1 rfl (Nat.le_of_ble_eq_true rfl) dX10_carry_29 (by exact ⟨Nat.zero_le _, Nat.zero_le _⟩)) hS (fun r u H locs hq hP hS => ?_)
      obtain ⟨hr9, IP1, rfl, htpP1, hccP1, hfrP1⟩ := hq
      subst hr9
      have hP : gP D cy B z T IP1 R H := hP
      have hallP1 := hal9.k (I' := IP1) (fun c j h => hfrP1 c j (by omega))
      refine lv_astore (lv' := [(6, .ref (w + 11 + μ)), (0, .ref w), (1, .ref b), (2, .int (nI ld)), (3, .int (nI t)), (4, .int ((nI (σ 2)) + (nI t))), (5, .int (nI k))]) X.1 X.2.1 dX10_carry_32 hl (by decide) rfl (fun ls hl => ?_)
      refine lv_aload_n X.1 X.2.1 dX10_carry_34 rfl (lv_at hl 1 rfl) ?_
      refine g_geti 12 10 X hK hP hW.t0 rfl hinRX10 rfl (by decide) k117 (fun _ h => h) dX10_carry_35 (show IP1 w 10 = nI (σk 2) from ((hfrP1 _ _ (by omega)).trans hA9.2.2.2.2.2.1)) ?_
      refine lv_aload X.1 X.2.1 dX10_carry_38 (lv_at hl 0 rfl) ?_
      refine g_geti 10 4 X hK hP (hallP1.1.tript hallP1.2.2.2.2.2.2.2.2.2.2.1) rfl hinRX8 rfl (by decide) k110 (fun _ h => h) dX10_carry_40 (show IP1 (w + 11 + μ) 4 = nI (sSe fl sh σk μ ld) from htpP1.2.2.1) ?_
      refine lv_iadd X.1 X.2.1 dX10_carry_43 ?_
      refine lv_iload X.1 X.2.1 dX10_carry_44 (lv_at hl 5 rfl) ?_
      refine lv_icmp_le (tgt := 52) X.1 X.2.1 dX10_carry_46 (by decide) (fun c46 => ?_) (fun c46 => ?_)
      · have n46 : ((σk 2) + (sSe fl sh σk μ ld)) ≤ ((σ 2) + t) := gq_le c46 (gn_add (Eq.refl (nI (σk 2))) (Eq.refl (nI (sSe fl sh σk μ ld)))) (gn_add (Eq.refl (nI (σ 2))) (Eq.refl (nI t))) (by omega) (by omega)
        refine lv_aload_n X.1 X.2.1 dX10_carry_52 rfl (lv_at hl 1 rfl) ?_
        refine lv_aload_n X.1 X.2.1 dX10_carry_53 rfl (lv_at hl 2 rfl) ?_
        refine lv_aload X.1 X.2.1 dX10_carry_54 (lv_at hl 0 rfl) ?_
        refine g_run_v (f := fun u => u) (g_runV (k := 12) [.ref b, .ref (w + 11 + μ)] X hK hP hS hC hB (d_finish hallP1 hccP1 htpP1 (by omega)) (cwV 2 X.2.2.2.2 gX10_carry_X10_finish rfl rfl rfl (by decide +kernel) ⟨Nat.le_of_ble_eq_true rfl, Nat.le_of_ble_eq_true rfl⟩) hW.t0 rfl rfl hl.1 rfl (Nat.le_of_ble_eq_true rfl) dX10_carry_56 (by exact ⟨Nat.zero_le _, Nat.zero_le _⟩)) hS (fun u H locs hq hP hS => ?_)
        obtain ⟨IG2, rfl, ⟨hAG2, hCG2⟩, hfG2⟩ := hq
        have hP : gP D cy B z T IG2 R H := hP
        refine lv_iinc (v := nI (k + 1)) (lv' := [(5, .int (nI (k + 1))), (6, .ref (w + 11 + μ)), (0, .ref w), (1, .ref b), (2, .int (nI ld)), (3, .int (nI t)), (4, .int ((nI (σ 2)) + (nI t)))]) X.1 X.2.1 dX10_carry_59 hl (k := 6) rfl (gn_inc (Eq.refl (nI k)) 1) (by decide) rfl (fun ls hl => ?_)
        refine lv_goto (tgt := 11) X.1 X.2.1 dX10_carry_62 (by decide) ?_
        have hfG2x : ∀ c j, ¬ kW w c j → IG2 c j = Q9 c j := fun c j h => (by unfold kW at h; exact (hfG2 c j (by omega) (by omega) (by omega) (by omega)).trans (hfrP1 c j (by omega)))
        exact ih _ _ _ _ (by omega) ⟨⟨_, _, (hal9.go hAG2 (fun i hi => sGo_18 hμ hi) (sBd_le (K' := K + 300000 * (k + 1)) (sBd_go' ⟨hok, hfl, hti, hsh⟩ hb9 hμ ld) (by omega)) hfG2x), hCG2, (by rw [sGo_2, h29]; omega), hby9.trans (cBy_s (by omega) (by omega) (by omega)), (fun i hi => (sGo_18 hμ hi).trans (h18 i hi)), fun c j h => (hfG2x c j h).trans (hko9 c j h)⟩, lv_sub hl [2, 3, 4, 5, 6, 0] rfl⟩ hP hS
      · have n46 : ((σ 2) + t) < ((σk 2) + (sSe fl sh σk μ ld)) := gq_nle c46 (gn_add (Eq.refl (nI (σk 2))) (Eq.refl (nI (sSe fl sh σk μ ld)))) (gn_add (Eq.refl (nI (σ 2))) (Eq.refl (nI t))) (by omega) (by omega)
        refine lv_goto (tgt := 65) X.1 X.2.1 dX10_carry_49 (by decide) ?_
        have he : cBy fl ti sh μ ld t 200 σ 0 = σk := hby9.trans (cBy_e (by omega) (by omega))
        exact g_vret (f := fun u => u) (z, T, IP1, R) X hr hlk hK hP hS dX10_carry_65 ⟨IP1, rfl, (by rw [he]; exact ⟨hallP1.2.1, hccP1, sBd_le hb9 (by omega), h18⟩), fun c j h => (hfrP1 c j (by unfold kW at h; omega)).trans (hko9 c j h)⟩

end PJ