section PD
variable {l : Launch} {s0 : State} {D : va_G} {cy : Nat → ClassId} {B z : Nat} {T : Nat → Nat × Nat} {I : Nat → Nat → Int32} {R : Nat → Nat → Option Nat} {w b μ : Nat} {σ : Nat → Nat} {K : Nat} {fl : List Nat}
/-- a YARD's number becomes another -/
def s1 (σ : Nat → Nat) (i v : Nat) : Nat → Nat := fun j => if j = i then v else σ j
theorem lay_cA {J F : Nat → Nat → Int32} {wh y v : Nat} (h : cA w I σ) (hw : wh < 3) (hy : y < 10) (e1 : g2 I (w + 2 + wh) y (nI v) = J) (e2 : iFg w J 4 = F) : cA w F (s1 σ (8 + 10 * wh + y) v) := by
  have ho : ∀ a j, ¬ (a = w + 2 + wh ∧ j = y) → ¬ (j = 0 ∧ w + 11 ≤ a ∧ a < w + 15) → F a j = I a j := fun a j h1 h2 => by
    rw [← e2, iFg_r (by omega)]
    exact gs_ne e1 h1 rfl
  refine ⟨fun k x hk hx => ?_, fun μ hμ => ?_, ?_, ?_, ?_, ?_, ?_, ?_⟩
  · unfold s1
    by_cases q : k = wh ∧ x = y
    · rw [if_pos (by omega), ← e2, iFg_r (by omega)]
      exact gs_at e1 (by omega) q.2
    · rw [if_neg (by omega), ho _ _ (by omega) (by omega)]
      exact h.1 k x hk hx
  all_goals (unfold s1; rw [if_neg (by omega), ho _ _ (by omega) (by omega)])
  · exact h.2.1 μ hμ
  · exact h.2.2.1
  · exact h.2.2.2.1
  · exact h.2.2.2.2.1
  · exact h.2.2.2.2.2.1
  · exact h.2.2.2.2.2.2.1
  · exact h.2.2.2.2.2.2.2
def sWn (σ : Nat → Nat) (n wd k : Nat) : Nat → Nat := fun i => if 28 ≤ i ∧ i < 28 + k ∧ sBit n (i - 28) = 1 then wd else σ i
theorem sWn_0 {n wd : Nat} : sWn σ n wd 0 = σ := by
  funext i
  unfold sWn
  rw [if_neg (by omega)]
theorem sWn_n {n wd k : Nat} (h : ¬ sBit n k = 1) : sWn σ n wd (k + 1) = sWn σ n wd k := by
  funext i
  unfold sWn
  by_cases q : 28 ≤ i ∧ i < 28 + k ∧ sBit n (i - 28) = 1
  · rw [if_pos q, if_pos ⟨q.1, by have := q.2.1; omega, q.2.2⟩]
  · rw [if_neg q, if_neg (fun g => q ⟨g.1, by
      have h1 := g.2.1
      have h2 : ¬ i = 28 + k := fun e => h (by have h3 := g.2.2; rw [e, show 28 + k - 28 = k by omega] at h3; exact h3)
      omega, g.2.2⟩)]
theorem sWn_y {n wd k : Nat} (h : sBit n k = 1) : s1 (sWn σ n wd k) (8 + 10 * 2 + k) wd = sWn σ n wd (k + 1) := by
  funext i
  unfold s1 sWn
  by_cases e : i = 8 + 10 * 2 + k
  · rw [if_pos e, if_pos ⟨by omega, by omega, by rw [e, show 8 + 10 * 2 + k - 28 = k by omega]; exact h⟩]
  · rw [if_neg e]
    by_cases q : 28 ≤ i ∧ i < 28 + k ∧ sBit n (i - 28) = 1
    · rw [if_pos q, if_pos ⟨q.1, by have := q.2.1; omega, q.2.2⟩]
    · rw [if_neg q, if_neg (fun g => q ⟨g.1, by have h1 := g.2.1; omega, g.2.2⟩)]
theorem sWn_10 {n wd : Nat} : sWn σ n wd 10 = sWb σ n wd := rfl

set_option maxHeartbeats 4000000 in
set_option maxRecDepth 100000 in
/-- d_layAll -/
theorem d_layAll (hW : cWk w T R) (hA : cA w I σ) (hCc : cC w I fl σ) {st wd : Nat} (hst : st < 1024) : Met l yX10_layAll wsX10_layAll ({ frames := 2, cells := 0, slots := 0, locals := 45 }) (va_Pc [.ref w, .int (nI st), .int (nI wd)] (gW0 s0 D cy B (z, T, I, R))) (va_Qv (fun u => ∃ I', u = (z, T, I', R) ∧ cA w I' (sWb σ st wd) ∧ cC w I' fl (sWb σ st wd) ∧ ∀ a j, ¬ a = w + 4 → ¬ (j = 0 ∧ w + 11 ≤ a ∧ a < w + 15) → I' a j = I a j) (fun u t => gW1 D cy B u t) (gA B)) 0 0 (gA B) := by
  refine g_met (maxL := 4) (ret := none) (by decide) rfl (Nat.le_of_ble_eq_true rfl) (fun p e s m args below meth c ls X hr hlk hnm hK hP hC hS hl => ?_)
  have hl : lv_has ls 4 [(0, .ref w), (1, .int (nI st)), (2, .int (nI wd))] := hl
  have hP : gP D cy B z T I R s.heap := hP
  have hB : B ≤ s.heap.size := by rw [hP.1]; exact hP.2.1
  have hbt : ∀ k, st / 2 ^ k % 2 < 2 := fun k => Nat.mod_lt _ (by decide)
  refine lv_iconst (v := 0) X.1 X.2.1 dX10_layAll_0 (by decide) ?_
  refine lv_istore_n (lv' := [(3, .int 0), (0, .ref w), (1, .int (nI st)), (2, .int (nI wd))]) X.1 X.2.1 dX10_layAll_1 rfl hl (by decide) rfl (fun ls hl => ?_)
  refine i_loop (I := I) 10 2 [] (fun k Q9 ls => (cA w Q9 (sWn σ st wd k) ∧ cC w Q9 fl (sWn σ st wd k) ∧ ∀ a j, ¬ a = w + 4 → ¬ (j = 0 ∧ w + 11 ≤ a ∧ a < w + 15) → Q9 a j = I a j) ∧ lv_has ls 4 [(0, .ref w), (1, .int (nI st)), (2, .int (nI wd)), (3, .int (nI k))]) 0 (by omega) ⟨(by rw [sWn_0]; exact ⟨hA, hCc, fun _ _ _ _ => rfl⟩), lv_sub hl [1, 2, 3, 0] rfl⟩ hP hS (fun k Q9 H locs ls hk hiv hP hS ih => ?_)
  obtain ⟨⟨hq1, hq2, hq3⟩, hl⟩ := hiv
  refine lv_iload_n X.1 X.2.1 dX10_layAll_2 rfl (lv_at hl 3 rfl) ?_
  refine lv_bipush (v := 10) X.1 X.2.1 dX10_layAll_3 (by decide) ?_
  refine lv_icmp_ge (tgt := 31) X.1 X.2.1 dX10_layAll_5 (by decide) (fun c5 => ?_) (fun c5 => ?_)
  · have n5 : 10 ≤ k := gq_le c5 (show (10 : Int32) = nI 10 from rfl) (Eq.refl (nI k)) (by omega) (by omega)
    exact g_vret (f := fun u => u) (z, T, Q9, R) X hr hlk hK hP hS dX10_layAll_31 ⟨Q9, rfl, (by obtain rfl : k = 10 := (by omega); exact ⟨hq1, hq2, hq3⟩)⟩
  · have n5 : k < 10 := gq_nle c5 (show (10 : Int32) = nI 10 from rfl) (Eq.refl (nI k)) (by omega) (by omega)
    have hbk := hbt k
    refine lv_iload_n X.1 X.2.1 dX10_layAll_8 rfl (lv_at hl 1 rfl) ?_
    refine lv_iload_n X.1 X.2.1 dX10_layAll_9 rfl (lv_at hl 3 rfl) ?_
    refine lv_ishr X.1 X.2.1 dX10_layAll_10 ?_
    refine lv_iconst (v := 1) X.1 X.2.1 dX10_layAll_11 (by decide) ?_
    refine lv_iand X.1 X.2.1 dX10_layAll_12 ?_
    refine lv_cv (gbit (by omega) (by omega)) ?_
    refine lv_iconst (v := 1) X.1 X.2.1 dX10_layAll_13 (by decide) ?_
    refine lv_icmp_ne (tgt := 25) X.1 X.2.1 dX10_layAll_14 (by decide) (fun c14 => ?_) (fun c14 => ?_)
    · have n14 : ¬ (st / 2 ^ k % 2) = 1 := gq_ne c14 (Eq.refl (nI (st / 2 ^ k % 2))) (show (1 : Int32) = nI 1 from rfl) (by omega) (by omega)
      refine lv_iinc (v := nI (k + 1)) (lv' := [(3, .int (nI (k + 1))), (0, .ref w), (1, .int (nI st)), (2, .int (nI wd))]) X.1 X.2.1 dX10_layAll_25 hl (k := 3) rfl (gn_inc (Eq.refl (nI k)) 1) (by decide) rfl (fun ls hl => ?_)
      refine lv_goto (tgt := 2) X.1 X.2.1 dX10_layAll_28 (by decide) ?_
      exact ih _ _ _ _ (by omega) ⟨(by rw [sWn_n n14]; exact ⟨hq1, hq2, hq3⟩), lv_sub hl [1, 2, 3, 0] rfl⟩ hP hS
    · have n14 : (st / 2 ^ k % 2) = 1 := gq_eq c14 (Eq.refl (nI (st / 2 ^ k % 2))) (show (1 : Int32) = nI 1 from rfl) (by omega) (by omega)
      refine lv_aload_n X.1 X.2.1 dX10_layAll_17 rfl (lv_at hl 0 rfl) ?_
      refine lv_iload_n X.1 X.2.1 dX10_layAll_18 rfl (lv_at hl 3 rfl) ?_
      refine lv_iconst (v := 2) X.1 X.2.1 dX10_layAll_19 (by decide) ?_
      refine lv_iload_n X.1 X.2.1 dX10_layAll_20 rfl (lv_at hl 2 rfl) ?_
      refine g_run_i (f := fun u => u) (g_runV (k := 12) [.int (nI k), .int 2, .int (nI wd)] X hK hP hS hC hB (d_lay (y := k) (wh := 2) hW (by omega) (by omega)) (cwV 3 X.2.2.2.2 gX10_layAll_X10_lay rfl rfl rfl (by decide +kernel) ⟨Nat.le_of_ble_eq_true rfl, Nat.le_of_ble_eq_true rfl⟩) hW.t0 rfl rfl hl.1 rfl (Nat.le_of_ble_eq_true rfl) dX10_layAll_21 (by exact ⟨Nat.zero_le _, Nat.zero_le _⟩)) hS (fun r u H locs hq hP hS => ?_)
      obtain ⟨rfl, rfl⟩ := hq
      generalize eJ1 : g2 Q9 (w + 2 + 2) k (nI wd) = J1 at hP
      generalize eF2 : iFg w J1 4 = F2 at hP
      have hP : gP D cy B z T F2 R H := hP
      skip
      refine lv_pop X.1 X.2.1 dX10_layAll_24 rfl ?_
      refine lv_iinc (v := nI (k + 1)) (lv' := [(3, .int (nI (k + 1))), (0, .ref w), (1, .int (nI st)), (2, .int (nI wd))]) X.1 X.2.1 dX10_layAll_25 hl (k := 3) rfl (gn_inc (Eq.refl (nI k)) 1) (by decide) rfl (fun ls hl => ?_)
      refine lv_goto (tgt := 2) X.1 X.2.1 dX10_layAll_28 (by decide) ?_
      exact ih _ _ _ _ (by omega) ⟨(by rw [← sWn_y n14]; exact ⟨lay_cA hq1 (by decide) (by omega) eJ1 eF2, cC.fg (fun a h1 h2 => by rw [← eF2]; exact iFg_k h1 (by omega)), fun a j h1 h2 => (by rw [← eF2, iFg_r (by omega)]; exact gs_ne eJ1 (by omega) (hq3 a j h1 h2))⟩), lv_sub hl [1, 2, 3, 0] rfl⟩ hP hS

def sSf (σ : Nat → Nat) (k : Nat) : Nat → Nat := fun i => if 8 ≤ i ∧ i < 8 + k then sSo σ i else σ i
theorem sSf_0 : sSf σ 0 = σ := by
  funext i
  unfold sSf
  rw [if_neg (by omega)]
theorem sSf_n {k : Nat} (h : sSo σ (8 + k) = σ (8 + k)) : sSf σ (k + 1) = sSf σ k := by
  funext i
  unfold sSf
  by_cases e : i = 8 + k
  · rw [if_pos (by omega), if_neg (by omega), e, h]
  · by_cases q : 8 ≤ i ∧ i < 8 + k
    · rw [if_pos q, if_pos (by omega)]
    · rw [if_neg q, if_neg (by omega)]
theorem sSf_y {k : Nat} (h : sSo σ (8 + k) = σ (8 + k) + 1) : s1 (sSf σ k) (8 + k) (σ (8 + k) + 1) = sSf σ (k + 1) := by
  funext i
  unfold s1 sSf
  by_cases e : i = 8 + k
  · rw [if_pos e, if_pos (by omega), e, h]
  · rw [if_neg e]
    by_cases q : 8 ≤ i ∧ i < 8 + k
    · rw [if_pos q, if_pos (by omega)]
    · rw [if_neg q, if_neg (by omega)]
theorem so_cA {J : Nat → Nat → Int32} {y v : Nat} (h : cA w I σ) (hy : y < 10) (e1 : g2 I (w + 2) y (nI v) = J) : cA w J (s1 σ (8 + y) v) := by
  refine ⟨fun k x hk hx => ?_, fun μ hμ => ?_, ?_, ?_, ?_, ?_, ?_, ?_⟩
  · unfold s1
    by_cases q : k = 0 ∧ x = y
    · rw [if_pos (by omega)]
      exact gs_at e1 (by omega) q.2
    · rw [if_neg (by omega)]
      exact gs_ne e1 (by omega) (h.1 k x hk hx)
  all_goals (unfold s1; rw [if_neg (by omega)])
  · exact gs_ne e1 (by omega) (h.2.1 μ hμ)
  · exact gs_ne e1 (by omega) h.2.2.1
  · exact gs_ne e1 (by omega) h.2.2.2.1
  · exact gs_ne e1 (by omega) h.2.2.2.2.1
  · exact gs_ne e1 (by omega) h.2.2.2.2.2.1
  · exact gs_ne e1 (by omega) h.2.2.2.2.2.2.1
  · exact gs_ne e1 (by omega) h.2.2.2.2.2.2.2
theorem cA.fg {F : Nat → Nat → Int32} (h : cA w I σ) (e : iFg w I 4 = F) : cA w F σ := h.k (fun a j h1 h2 => by rw [← e]; exact iFg_r (by omega))

set_option maxHeartbeats 4000000 in
set_option maxRecDepth 100000 in
/-- d_soften -/
theorem d_soften (hW : cWk w T R) (hA : cA w I σ) (hCc : cC w I fl σ) (hb9 : ∀ y, y < 10 → σ (28 + y) ≤ 9) (hs9 : ∀ y, y < 10 → σ (8 + y) ≤ 9) : Met l yX10_soften wsX10_soften ({ frames := 1, cells := 0, slots := 0, locals := 21 }) (va_Pc [.ref w] (gW0 s0 D cy B (z, T, I, R))) (va_Qv (fun u => ∃ I', u = (z, T, I', R) ∧ cA w I' (sSf σ 10) ∧ cC w I' fl (sSf σ 10) ∧ ∀ a j, ¬ a = w + 2 → ¬ (j = 0 ∧ w + 11 ≤ a ∧ a < w + 15) → I' a j = I a j) (fun u t => gW1 D cy B u t) (gA B)) 0 0 (gA B) := by
  refine g_met (maxL := 3) (ret := none) (by decide) rfl (Nat.le_of_ble_eq_true rfl) (fun p e s m args below meth c ls X hr hlk hnm hK hP hC hS hl => ?_)
  have hl : lv_has ls 3 [(0, .ref w)] := hl
  have hP : gP D cy B z T I R s.heap := hP
  have hB : B ≤ s.heap.size := by rw [hP.1]; exact hP.2.1
  have hinRX10 : ∀ w ∈ wsX100, w ∈ wsX10_soften := fun _ h => List.mem_cons_of_mem _ (List.mem_append_left _ (List.mem_append_right _ h))
  have k11 : Cond.fieldLink RX10 11 "BarrowPlank$Works" "yards" "[[I" ∈ wsX10_soften := by decide +kernel
  refine lv_iconst (v := 0) X.1 X.2.1 dX10_soften_0 (by decide) ?_
  refine lv_istore_n (lv' := [(1, .int 0), (0, .ref w)]) X.1 X.2.1 dX10_soften_1 rfl hl (by decide) rfl (fun ls hl => ?_)
  refine lv_iconst (v := 0) X.1 X.2.1 dX10_soften_2 (by decide) ?_
  refine lv_istore_n (lv' := [(2, .int 0), (1, .int 0), (0, .ref w)]) X.1 X.2.1 dX10_soften_3 rfl hl (by decide) rfl (fun ls hl => ?_)
  refine i_loop (I := I) 10 4 [] (fun k Q9 ls => ∃ f9 : Int32, (cA w Q9 (sSf σ k) ∧ ((f9 = 0 ∧ cC w Q9 fl (sSf σ k)) ∨ f9 = 1) ∧ ∀ a j, ¬ a = w + 2 → Q9 a j = I a j) ∧ lv_has ls 3 [(0, .ref w), (1, .int f9), (2, .int (nI k))]) 0 (by omega) ⟨0, (by rw [sSf_0]; exact ⟨hA, Or.inl ⟨rfl, hCc⟩, fun _ _ _ => rfl⟩), lv_sub hl [2, 1, 0] rfl⟩ hP hS (fun k Q9 H locs ls hk hiv hP hS ih => ?_)
  obtain ⟨f9, ⟨hq1, hq2, hq3⟩, hl⟩ := hiv
  refine lv_iload_n X.1 X.2.1 dX10_soften_4 rfl (lv_at hl 2 rfl) ?_
  refine lv_bipush (v := 10) X.1 X.2.1 dX10_soften_5 (by decide) ?_
  refine lv_icmp_ge (tgt := 54) X.1 X.2.1 dX10_soften_7 (by decide) (fun c7 => ?_) (fun c7 => ?_)
  · have n7 : 10 ≤ k := gq_le c7 (show (10 : Int32) = nI 10 from rfl) (Eq.refl (nI k)) (by omega) (by omega)
    refine lv_iload_n X.1 X.2.1 dX10_soften_54 rfl (lv_at hl 1 rfl) ?_
    refine lv_if_eq (tgt := 62) X.1 X.2.1 dX10_soften_55 (by decide) (fun c55 => ?_) (fun c55 => ?_)
    · obtain rfl : k = 10 := by omega
      exact g_vret (f := fun u => u) (z, T, Q9, R) X hr hlk hK hP hS dX10_soften_62 ⟨Q9, rfl, hq1, (hq2.resolve_right (fun g => absurd (c55.symm.trans g) (by decide))).2, fun a j h1 h2 => hq3 a j h1⟩
    · refine lv_aload_n X.1 X.2.1 dX10_soften_58 rfl (lv_at hl 0 rfl) ?_
      refine g_run_v (f := fun u => u) (g_runV (k := 12) [] X hK hP hS hC hB (d_forget hW) (cwV 0 X.2.2.2.2 gX10_soften_X10_forget rfl rfl rfl (by decide +kernel) ⟨Nat.le_of_ble_eq_true rfl, Nat.le_of_ble_eq_true rfl⟩) hW.t0 rfl rfl hl.1 rfl (Nat.le_of_ble_eq_true rfl) dX10_soften_59 (by exact ⟨Nat.zero_le _, Nat.zero_le _⟩)) hS (fun u H locs hq hP hS => ?_)
      subst hq
      generalize eF1 : iFg w Q9 4 = F1 at hP
      have hP : gP D cy B z T F1 R H := hP
      obtain rfl : k = 10 := by omega
      exact g_vret (f := fun u => u) (z, T, F1, R) X hr hlk hK hP hS dX10_soften_62 ⟨F1, rfl, cA.fg hq1 eF1, cC.fg (fun a h1 h2 => by rw [← eF1]; exact iFg_k h1 (by omega)), fun a j h1 h2 => (by rw [← eF1, iFg_r (by omega)]; exact hq3 a j h1)⟩
  · have n7 : k < 10 := gq_nle c7 (show (10 : Int32) = nI 10 from rfl) (Eq.refl (nI k)) (by omega) (by omega)
    have hb28 := hb9 k (by omega)
    have hs8 := hs9 k (by omega)
    have hfk : sSf σ k (8 + k) = σ (8 + k) := (by unfold sSf; rw [if_neg (by omega)])
    have hfb : sSf σ k (28 + k) = σ (28 + k) := (by unfold sSf; rw [if_neg (by omega)])
    refine lv_aload_n X.1 X.2.1 dX10_soften_10 rfl (lv_at hl 0 rfl) ?_
    refine g_getr 12 0 X hK hP hW.t0 rfl hinRX10 rfl (by decide) k11 (fun _ h => h) dX10_soften_11 (show va_rf (R w 0) = .ref (w + 1) from by rw [(show R w 0 = some (w + 1) from hW.r 0 rfl)]; rfl) ?_
    refine lv_iconst (v := 2) X.1 X.2.1 dX10_soften_14 (by decide) ?_
    refine g_2aald 2 X hK hP (hW.t 1 rfl) (gIx_of (show (2 : Int32) = nI 2 from rfl) (by omega) (by omega)) dX10_soften_15 (show va_rf (R (w + 1) 2) = .ref (w + 4) from by rw [(hW.r 9 rfl)]; rfl) ?_
    refine lv_iload_n X.1 X.2.1 dX10_soften_16 rfl (lv_at hl 2 rfl) ?_
    refine g_iald k X hK hP (hW.t 4 rfl) (gIx_of (Eq.refl (nI k)) (by omega) (by omega)) dX10_soften_17 (show Q9 (w + 4) k = nI (σ (28 + k)) from ((hq1.b (y := k) (by omega)).trans (congrArg nI hfb))) ?_
    refine lv_if_ne (tgt := 48) X.1 X.2.1 dX10_soften_18 (by decide) (fun c18 => ?_) (fun c18 => ?_)
    · have n18 : ¬ (σ (28 + k)) = 0 := gq_ne c18 (Eq.refl (nI (σ (28 + k)))) (show (0 : Int32) = nI 0 from rfl) (by omega) (by omega)
      refine lv_iinc (v := nI (k + 1)) (lv' := [(2, .int (nI (k + 1))), (0, .ref w), (1, .int f9)]) X.1 X.2.1 dX10_soften_48 hl (k := 2) rfl (gn_inc (Eq.refl (nI k)) 1) (by decide) rfl (fun ls hl => ?_)
      refine lv_goto (tgt := 4) X.1 X.2.1 dX10_soften_51 (by decide) ?_
      exact ih _ _ _ _ (by omega) ⟨_, (by rw [sSf_n (show sSo σ (8 + k) = σ (8 + k) from if_neg (by rw [show 8 + k + 20 = 28 + k by omega]; omega))]; exact ⟨hq1, hq2, hq3⟩), lv_sub hl [1, 2, 0] rfl⟩ hP hS
    · have n18 : (σ (28 + k)) = 0 := gq_eq c18 (Eq.refl (nI (σ (28 + k)))) (show (0 : Int32) = nI 0 from rfl) (by omega) (by omega)
      refine lv_aload_n X.1 X.2.1 dX10_soften_21 rfl (lv_at hl 0 rfl) ?_
      refine g_getr 12 0 X hK hP hW.t0 rfl hinRX10 rfl (by decide) k11 (fun _ h => h) dX10_soften_22 (show va_rf (R w 0) = .ref (w + 1) from by rw [(show R w 0 = some (w + 1) from hW.r 0 rfl)]; rfl) ?_
      refine lv_iconst (v := 0) X.1 X.2.1 dX10_soften_25 (by decide) ?_
      refine g_2aald 0 X hK hP (hW.t 1 rfl) (gIx_of (show (0 : Int32) = nI 0 from rfl) (by omega) (by omega)) dX10_soften_26 (show va_rf (R (w + 1) 0) = .ref (w + 2) from by rw [(hW.r 7 rfl)]; rfl) ?_
      refine lv_iload_n X.1 X.2.1 dX10_soften_27 rfl (lv_at hl 2 rfl) ?_
      refine g_iald k X hK hP (hW.t 2 rfl) (gIx_of (Eq.refl (nI k)) (by omega) (by omega)) dX10_soften_28 (show Q9 (w + 2) k = nI (σ (8 + k)) from ((hq1.s (y := k) (by omega)).trans (congrArg nI hfk))) ?_
      refine lv_bipush (v := 9) X.1 X.2.1 dX10_soften_29 (by decide) ?_
      refine lv_icmp_ge (tgt := 48) X.1 X.2.1 dX10_soften_31 (by decide) (fun c31 => ?_) (fun c31 => ?_)
      · have n31 : 9 ≤ (σ (8 + k)) := gq_le c31 (show (9 : Int32) = nI 9 from rfl) (Eq.refl (nI (σ (8 + k)))) (by omega) (by omega)
        refine lv_iinc (v := nI (k + 1)) (lv' := [(2, .int (nI (k + 1))), (0, .ref w), (1, .int f9)]) X.1 X.2.1 dX10_soften_48 hl (k := 2) rfl (gn_inc (Eq.refl (nI k)) 1) (by decide) rfl (fun ls hl => ?_)
        refine lv_goto (tgt := 4) X.1 X.2.1 dX10_soften_51 (by decide) ?_
        exact ih _ _ _ _ (by omega) ⟨_, (by rw [sSf_n (show sSo σ (8 + k) = σ (8 + k) from if_neg (by omega))]; exact ⟨hq1, hq2, hq3⟩), lv_sub hl [1, 2, 0] rfl⟩ hP hS
      · have n31 : (σ (8 + k)) < 9 := gq_nle c31 (show (9 : Int32) = nI 9 from rfl) (Eq.refl (nI (σ (8 + k)))) (by omega) (by omega)
        refine lv_aload_n X.1 X.2.1 dX10_soften_34 rfl (lv_at hl 0 rfl) ?_
        refine g_getr 12 0 X hK hP hW.t0 rfl hinRX10 rfl (by decide) k11 (fun _ h => h) dX10_soften_35 (show va_rf (R w 0) = .ref (w + 1) from by rw [(show R w 0 = some (w + 1) from hW.r 0 rfl)]; rfl) ?_
        refine lv_iconst (v := 0) X.1 X.2.1 dX10_soften_38 (by decide) ?_
        refine g_2aald 0 X hK hP (hW.t 1 rfl) (gIx_of (show (0 : Int32) = nI 0 from rfl) (by omega) (by omega)) dX10_soften_39 (show va_rf (R (w + 1) 0) = .ref (w + 2) from by rw [(hW.r 7 rfl)]; rfl) ?_
        refine lv_iload_n X.1 X.2.1 dX10_soften_40 rfl (lv_at hl 2 rfl) ?_
        refine lv_dup2_11 X.1 X.2.1 dX10_soften_41 rfl rfl ?_
        refine g_iald k X hK hP (hW.t 2 rfl) (gIx_of (Eq.refl (nI k)) (by omega) (by omega)) dX10_soften_42 (show Q9 (w + 2) k = nI (σ (8 + k)) from ((hq1.s (y := k) (by omega)).trans (congrArg nI hfk))) ?_
        refine lv_iconst (v := 1) X.1 X.2.1 dX10_soften_43 (by decide) ?_
        refine lv_iadd X.1 X.2.1 dX10_soften_44 ?_
        refine g_iast k X hK hP hS (hW.t 2 rfl) (gIx_of (Eq.refl (nI k)) (by omega) (by omega)) dX10_soften_45 (fun H locs hP hS => ?_)
        generalize eI2 : g2 Q9 (w + 2) k ((nI (σ (8 + k))) + 1) = I2 at hP
        refine lv_iconst (v := 1) X.1 X.2.1 dX10_soften_46 (by decide) ?_
        refine lv_istore_n (lv' := [(1, .int 1), (0, .ref w), (2, .int (nI k))]) X.1 X.2.1 dX10_soften_47 rfl hl (by decide) rfl (fun ls hl => ?_)
        refine lv_iinc (v := nI (k + 1)) (lv' := [(2, .int (nI (k + 1))), (1, .int 1), (0, .ref w)]) X.1 X.2.1 dX10_soften_48 hl (k := 2) rfl (gn_inc (Eq.refl (nI k)) 1) (by decide) rfl (fun ls hl => ?_)
        refine lv_goto (tgt := 4) X.1 X.2.1 dX10_soften_51 (by decide) ?_
        rw [show (nI (σ (8 + k))) + 1 = nI (σ (8 + k) + 1) from (gn_add (Eq.refl (nI (σ (8 + k)))) (show (1 : Int32) = nI 1 from rfl))] at eI2
        exact ih _ _ _ _ (by omega) ⟨_, (by rw [← sSf_y (show sSo σ (8 + k) = σ (8 + k) + 1 from if_pos ⟨by rw [show 8 + k + 20 = 28 + k by omega]; omega, by omega⟩)]; exact ⟨so_cA hq1 (by omega) eI2, Or.inr rfl, fun a j h1 => gs_ne eI2 (by omega) (hq3 a j h1)⟩), lv_sub hl [2, 1, 0] rfl⟩ hP hS

end PD