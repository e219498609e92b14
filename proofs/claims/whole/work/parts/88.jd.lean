section JF0
variable {l : Launch} {s0 : State} {D : va_G} {cy : Nat → ClassId} {B z : Nat} {T : Nat → Nat × Nat} {I : Nat → Nat → Int32} {R : Nat → Nat → Option Nat} {q nw kp tr : Nat} {σ : Nat → Nat} {K ti sh : Nat} {fl : List Nat}
set_option maxHeartbeats 4000000 in
set_option maxRecDepth 100000 in
/-- undo, once more: what is imaged stays -/
theorem t_undo2 (hTp : cTop q nw kp tr T R) (hNw : cNw q nw T I R σ fl ti sh) (hG : sGd fl ti sh) (hb : sBd σ K) (hcas : gCas s0) {σi : Nat → Nat} {fi : List Nat} {t2 s2 K2 : Nat} (hKw : cNw q kp T I R σi fi t2 s2) (hbi : sBd σi K2) (h5 : I q 5 = 1) : Met l yX11_undo wsX11_undo ({ frames := 3, cells := 0, slots := 0, locals := 103 }) (va_Pc [.ref q] (gW0 s0 D cy B (z, T, I, R))) (va_Qi (fun r u => r = nI (σi 38) ∧ ∃ I' R', u = (z, T, I', R') ∧ cA nw I' σi ∧ cB nw I' σi ∧ (∀ k, k < 4 → R' (nw + 5) k = R (kp + 5) k) ∧ R' nw 12 = R kp 12 ∧ (∀ c, nw + 11 ≤ c → c < nw + 15 → I' c 0 = 0) ∧ (∀ c j, ¬ (nw ≤ c ∧ c < nw + 15) → I' c j = I c j) ∧ ∀ c j, ¬ c = nw + 5 → ¬ (c = nw ∧ j = 12) → R' c j = R c j) (fun u t => gW1 D cy B u t) (gA B)) 0 0 (gA B) := by
  refine g_met (maxL := 1) (ret := (some .int)) (by decide) rfl (Nat.le_of_ble_eq_true rfl) (fun p e s m args below meth c ls X hr hlk hnm hK hP hC hS hl => ?_)
  have hl : lv_has ls 1 [(0, .ref q)] := hl
  have hP : gP D cy B z T I R s.heap := hP
  have hB : B ≤ s.heap.size := by rw [hP.1]; exact hP.2.1
  have hinRX10 : ∀ w ∈ wsX100, w ∈ wsX11_undo := fun _ h => List.mem_cons_of_mem _ (List.mem_append_left _ (List.mem_append_right _ h))
  have hinRX11 : ∀ w ∈ wsX110, w ∈ wsX11_undo := fun _ h => List.mem_cons_of_mem _ (List.mem_append_left _ (List.mem_append_left _ (List.mem_append_right _ h)))
  have k17 : Cond.fieldLink RX11 17 "BarrowPlank" "now" "LBarrowPlank$Works;" ∈ wsX11_undo := by decide +kernel
  have k23 : Cond.fieldLink RX11 23 "BarrowPlank" "kept" "LBarrowPlank$Works;" ∈ wsX11_undo := by decide +kernel
  have k43 : Cond.fieldLink RX11 43 "BarrowPlank" "imaged" "Z" ∈ wsX11_undo := by decide +kernel
  have k102 : Cond.fieldLink RX11 102 "BarrowPlank$Works" "crew" "I" ∈ wsX11_undo := by decide +kernel
  have hTp0 := hTp
  have hNw0 := hNw
  obtain ⟨hnw, hkp, htr, hTq, hR0, hR1, hR2, hR3, hR4, hN, hKp, hTr, hTrd, hTl⟩ := hTp
  obtain ⟨hA, hBb, hmen, hme, a, hsR, hst, hsi, hfa⟩ := hNw
  have h38 := hb.2.2.2.2.1
  have h0 := hb.1
  obtain ⟨hA2, hB2, hmen2, hme2, a2, hsR2, hst2, hsi2, hfa2⟩ := hKw
  refine lv_aload_n X.1 X.2.1 dX11_undo_0 rfl (lv_at hl 0 rfl) ?_
  refine g_geti 13 5 X hK hP hTq rfl hinRX11 rfl (by decide) k43 (fun _ h => h) dX11_undo_1 (show I q 5 = I q 5 from rfl) ?_
  refine lv_if_ne (tgt := 10) X.1 X.2.1 dX11_undo_4 (by decide) (fun c4 => ?_) (fun c4 => ?_)
  · refine lv_aload_n X.1 X.2.1 dX11_undo_10 rfl (lv_at hl 0 rfl) ?_
    refine g_getr 13 0 X hK hP hTq rfl hinRX11 rfl (by decide) k17 (fun _ h => h) dX11_undo_11 (show va_rf (R q 0) = .ref nw from by rw [hR0]; rfl) ?_
    refine lv_aload_n X.1 X.2.1 dX11_undo_14 rfl (lv_at hl 0 rfl) ?_
    refine g_getr 13 1 X hK hP hTq rfl hinRX11 rfl (by decide) k23 (fun _ h => h) dX11_undo_15 (show va_rf (R q 1) = .ref kp from by rw [hR1]; rfl) ?_
    refine g_run_v (f := fun u => u) (g_runV (k := 12) [.ref kp] X hK hP hS hC hB (d_takeAll hN hKp (by omega) hA2 hB2 hbi.2.2.2.2.2.2.2.2.2.2 hme2 hsR2 hst2.1 hcas) (cwV 1 X.2.2.2.2 gX11_undo_X10_takeAll rfl rfl rfl (by decide +kernel) ⟨Nat.le_of_ble_eq_true rfl, Nat.le_of_ble_eq_true rfl⟩) hN.t0 rfl rfl hl.1 rfl (Nat.le_of_ble_eq_true rfl) dX11_undo_18 (by exact ⟨Nat.zero_le _, Nat.zero_le _⟩)) hS (fun u H locs hq hP hS => ?_)
    obtain ⟨IK1, RK1, rfl, hcAK1, hcBK1, ⟨hm1K1, hm2K1⟩, hknK1, hfIK1, hfRK1⟩ := hq
    have hP : gP D cy B z T IK1 RK1 H := hP
    have hR0 := (hfRK1 q 0 (by omega) (by omega)).trans hR0
    have hR1 := (hfRK1 q 1 (by omega) (by omega)).trans hR1
    have hR2 := (hfRK1 q 2 (by omega) (by omega)).trans hR2
    have hR3 := (hfRK1 q 3 (by omega) (by omega)).trans hR3
    have hR4 := (hfRK1 q 4 (by omega) (by omega)).trans hR4
    refine lv_aload_n X.1 X.2.1 dX11_undo_21 rfl (lv_at hl 0 rfl) ?_
    refine g_getr 13 0 X hK hP hTq rfl hinRX11 rfl (by decide) k17 (fun _ h => h) dX11_undo_22 (show va_rf (RK1 q 0) = .ref nw from by rw [hR0]; rfl) ?_
    refine g_geti 12 5 X hK hP hN.t0 rfl hinRX10 rfl (by decide) k102 (fun _ h => h) dX11_undo_25 (show IK1 nw 5 = nI (σi 38) from hcAK1.2.2.1) ?_
    exact g_iret (f := fun u => u) (z, T, IK1, RK1) X hr hlk hK hP hS dX11_undo_28 ⟨rfl, IK1, RK1, rfl, hcAK1, hcBK1, hm1K1, hm2K1.trans hsR2.symm, hknK1, (fun c j h => hfIK1 c j h), hfRK1⟩
  · rw [h5] at c4; exact absurd c4 (by decide)
end JF0
/-! a new man -/
def sLk1 (μ : Nat) (σ σ' : Nat → Nat) : Prop := ∀ i, (8 ≤ i ∧ i < 38) ∨ i = 44 + μ ∨ i = 48 + μ → σ' i = σ i
theorem sLk1.f {σ σ' : Nat → Nat} {μ υ : Nat} (h : sLk1 μ σ σ') (hυ : υ < 10) (β : Nat) : fF σ' μ υ β = fF σ μ υ β := by
  funext j
  unfold fF
  rw [h (8 + υ) (by omega), h (18 + υ) (by omega), h (28 + υ) (by omega), h (44 + μ) (by omega)]
theorem sLk1.ba {fl : List Nat} {σ σ' : Nat → Nat} {μ : Nat} (h : sLk1 μ σ σ') (β : Nat) : ∀ υ, υ ≤ 10 → sBa fl σ' μ β υ = sBa fl σ μ β υ
  | 0, _ => rfl
  | υ + 1, hυ => by
    show sAf fl σ' μ υ (sBa fl σ' μ β υ) = sAf fl σ μ υ (sBa fl σ μ β υ)
    rw [h.ba β υ (by omega)]
    unfold sAf sLs
    rw [h.f (by omega) _, h (44 + μ) (by omega), h (48 + μ) (by omega), h (28 + υ) (by omega)]
theorem sLk1.wg {fl : List Nat} {σ σ' : Nat → Nat} {μ : Nat} (h : sLk1 μ σ σ') (β : Nat) : ∀ υ, υ ≤ 10 → sWg fl σ' μ β υ = sWg fl σ μ β υ
  | 0, _ => rfl
  | υ + 1, hυ => by
    show sWg fl σ' μ β υ + (sWt fl σ' μ υ (sBa fl σ' μ β υ) + sWt fl σ' μ υ 0) = sWg fl σ μ β υ + (sWt fl σ μ υ (sBa fl σ μ β υ) + sWt fl σ μ υ 0)
    rw [h.wg β υ (by omega), h.ba β υ (by omega)]
    unfold sWt
    rw [h.f (by omega) _, h.f (by omega) _, h (44 + μ) (by omega), h (48 + μ) (by omega), h (28 + υ) (by omega)]
theorem cC.man {w : Nat} {I : Nat → Nat → Int32} {fl : List Nat} {σ σ' : Nat → Nat} (h : cC w I fl σ) (h38 : σ 38 ≤ σ' 38) (hk : ∀ μ, μ < σ 38 → sLk1 μ σ σ') : cC w I fl σ' := fun μ hμ => by
  rcases h μ hμ with h1 | ⟨h1, ca, h2, h3, h4, h5, h6⟩
  · exact Or.inl h1
  · exact Or.inr ⟨h1, ca, h2, h3, by rw [(hk μ h6).wg ca 10 (by omega)]; exact h4, by rw [(hk μ h6).ba ca 10 (by omega)]; exact h5, by omega⟩
theorem mCache_man {M : Nat → Nat → Int32} {fl : List Nat} {σ σ' : Nat → Nat} {τ ms : Nat} (hc : mCache M fl σ τ ms) (h38 : σ 38 ≤ σ' 38) (hk : ∀ μ, μ < σ 38 → sLk1 μ σ σ') : mCache M fl σ' τ ms := by
  refine ⟨hc.1, hc.2.1, hc.2.2.1, hc.2.2.2.1, fun a ha => ?_⟩
  obtain ⟨q, q1, q2, q3⟩ := hc.2.2.2.2 a ha
  refine ⟨q, q1, q2, fun hq => ?_⟩
  obtain ⟨g1, g2, g3⟩ := q3 hq
  rw [(hk ms g1).f (by omega)]
  exact ⟨by omega, g2, g3⟩
theorem mSite_b {M M' : Nat → Nat → Int32} {fl : List Nat} {ti sh : Nat} (h : mSite M fl ti sh) (hc : ∀ i, i < 883 → M' 1 i = M 1 i) : mSite M' fl ti sh := by
  have hl := h.2.1
  refine ⟨h.1, h.2.1, h.2.2.1, h.2.2.2.1, ?_⟩
  rcases h.2.2.2.2 with ⟨h1, h2⟩ | ⟨hd, h1, h2, h3, h4, h5, h6⟩
  · exact Or.inl ⟨(hc 42 (by omega)).trans h1, h2⟩
  · exact Or.inr ⟨hd, h1, (hc 42 (by omega)).trans h2, (hc _ (by omega)).trans h3, (hc _ (by omega)).trans h4, (hc _ (by omega)).trans h5, fun k hk => (hc _ (by omega)).trans (h6 k hk)⟩
theorem mSite_x {M M' : Nat → Nat → Int32} {fl : List Nat} {ti sh act : Nat} {σ : Nat → Nat} (h : mSite M fl ti sh) (hd : mHd M σ) (h39 : σ 39 = act) (ha : act < 5) (hf : ∀ b j, ¬ zS act b j → M' b j = M b j) : mSite M' fl ti sh := by
  have hl := h.2.1
  refine ⟨h.1, h.2.1, h.2.2.1, h.2.2.2.1, ?_⟩
  rcases h.2.2.2.2 with ⟨h1, h2⟩ | ⟨d9, h1, h2, h3, h4, h5, h6⟩
  · exact Or.inl ⟨(hf 1 42 (by unfold zS; omega)).trans h1, h2⟩
  · have hlt : d9 < act := by
      rcases hd with g | ⟨d2, g1, g2⟩
      · rw [h2] at g
        exact absurd g (gn_m1 (by omega))
      · rw [h2] at g2
        have e := (nI_eq (by omega) (by omega)).mp g2
        omega
    exact Or.inr ⟨d9, h1, (hf 1 42 (by unfold zS; omega)).trans h2, (hf 1 _ (by unfold zS; omega)).trans h3, (hf 1 _ (by unfold zS; omega)).trans h4, (hf 1 _ (by unfold zS; omega)).trans h5, fun k hk => (hf 1 _ (by unfold zS; omega)).trans (h6 k hk)⟩
theorem aL_v (kd nu : Nat) (x : Int32) : ∀ v ∈ (aL kd nu x).2, v ≤ 100 := by
  unfold aL
  split
  · dsimp only
    decide
  · split
    · dsimp only
      decide
    · dsimp only
      decide
theorem aG_v (kd nu vv : Nat) (x : Int32) : ∀ v ∈ (aG kd nu vv x).2, v ≤ 100 := by
  have h := aL_v kd nu x
  have hp : ∀ v ∈ (aPG kd nu vv x).2, v ≤ 100 := List.forall_mem_cons.mpr ⟨by decide, h⟩
  unfold aG
  split
  · exact List.forall_mem_cons.mpr ⟨by decide, hp⟩
  · split
    · exact List.forall_mem_cons.mpr ⟨by decide, hp⟩
    · exact hp
theorem aT_v (kd nu vv : Nat) (x : Int32) : ∀ v ∈ (aT kd nu vv x).2, v ≤ 100 := by
  have hp : ∀ y, ∀ v ∈ (aPT kd nu vv y).2, v ≤ 100 := fun y => List.forall_mem_cons.mpr ⟨by decide, aG_v kd nu vv y⟩
  unfold aT
  split
  · exact List.forall_mem_cons.mpr ⟨by decide, hp x⟩
  · split
    · exact List.forall_mem_cons.mpr ⟨by decide, List.forall_mem_append.mpr ⟨hp _, aL_v kd nu 2⟩⟩
    · exact hp x
theorem aG_l (kd nu vv : Nat) (x : Int32) : (aG kd nu vv x).2.length ≤ 4 := by
  have h := aL_n kd nu x
  unfold aG aPG
  split
  · simp only [List.length_cons]
    omega
  · split
    · simp only [List.length_cons]
      omega
    · simp only [List.length_cons]
      omega
theorem aT_l (kd nu vv : Nat) (x : Int32) : (aT kd nu vv x).2.length ≤ 8 := by
  have h := aG_l kd nu vv x
  have h2 := aG_l kd nu vv (x - 1)
  have h3 := aL_n kd nu 2
  unfold aT aPT
  split
  · simp only [List.length_cons]
    omega
  · split
    · simp only [List.length_cons, List.length_append]
      omega
    · simp only [List.length_cons]
      omega
theorem j_getD {L : List Nat} (h : ∀ v ∈ L, v ≤ 100) (i : Nat) : L.getD i 0 ≤ 100 := by
  rw [List.getD_eq_getElem?_getD]
  cases e : L[i]? with
  | none => exact Nat.zero_le _
  | some v => exact h v (List.mem_of_getElem? e)
section JF
variable {l : Launch} {s0 : State} {D : va_G} {cy : Nat → ClassId} {B q E C z : Nat} {ad : Nat → Nat} {T : Nat → Nat × Nat} {I : Nat → Nat → Int32} {R : Nat → Nat → Option Nat} {σ σi : Nat → Nat} {fl fi tl : List Nat} {ti sh t2 s2 im K τ : Nat} {M : Nat → Nat → Int32}
set_option maxRecDepth 100000 in
set_option maxHeartbeats 4000000 in
theorem jd_man (hG : jG s0 B ad C E) (hC : jC q E ad z T I R σ fl ti sh tl im σi fi t2 s2) (hA : aI K σ fl ti sh tl im σi fi t2 s2) (hJ : jM M σ fl ti sh tl K τ im σi fi t2 s2) (hMd : gMod (q + 53) T R) (hMI : ∀ k j, k < 12 → I (q + 53 + k) j = M k j) (hlt : ∀ c, (T c).1 ≠ 0 → c < z) (hE0 : (T E).1 = 0) (hK : K ≤ 24000000) (hτ : τ + 200000 < 2 ^ 30) (a b c : Int32) : jDo l s0 D cy B q yX11_man wsX11_man yX12_man wsX12_man [.int a, .int b, .int c] (z, T, I, R) (jI q E ad (K + 300000) (τ + 140000)) := by
  have hTp := hC.2.1
  have hNw := hC.2.2.1
  have hg := hA.1
  have hb := hA.2.1
  obtain ⟨τ1, ms, hτ1, hi⟩ := hJ.1
  have h4 : σ 38 ≤ 4 := hb.2.2.2.2.1
  by_cases hk : 0 ≤ a ∧ a ≤ 6
  · obtain ⟨k, hk6, rfl⟩ := j_nat (m := 6) rfl (by decide) hk
    by_cases hh : (0 ≤ b ∧ b ≤ 9) ∧ (1 ≤ c ∧ c ≤ 20)
    · obtain ⟨v, hv9, rfl⟩ := j_nat (m := 9) rfl (by decide) hh.1
      obtain ⟨s, hs1, hs20, rfl⟩ := j_nat1 (m := 20) rfl (by decide) hh.2
      by_cases hf4 : σ 38 = 4
      · exact j_pure hC hA hJ hMd hMI (t_man_f hTp hNw hg hb hk6 hv9 hs1 hs20 hf4) (fun z T R I0 hM => c_man_f hM hi hk6 hv9 hs1 hs20 hf4) ⟨⟨by decide, by decide⟩, ⟨by decide, by decide⟩, by decide, by decide⟩
      · obtain ⟨n, hn⟩ : ∃ n, σ 38 = n := ⟨_, rfl⟩
        have hn4 : n < 4 := by omega
        have hz := hC.1
        have hinc : nI n + 1 = nI (n + 1) := gn_add (Eq.refl (nI n)) (show (1 : Int32) = nI 1 from rfl)
        obtain ⟨σ', hσ'⟩ : ∃ σ', σ' = g1 (g1 (g1 (g1 (g1 σ (44 + n) k) (48 + n) v) (52 + n) s) (4 + n) 0) 38 (n + 1) := ⟨_, rfl⟩
        have e38 : σ' 38 = n + 1 := by rw [hσ', g1_same]
        have eold : ∀ i, i ≠ 44 + n → i ≠ 48 + n → i ≠ 52 + n → i ≠ 4 + n → i ≠ 38 → σ' i = σ i := fun i h1 h2 h3 h4 h5 => by rw [hσ', g1_ne h5, g1_ne h4, g1_ne h3, g1_ne h2, g1_ne h1]
        have e44 : σ' (44 + n) = k := by rw [hσ', g1_ne (by omega), g1_ne (by omega), g1_ne (by omega), g1_ne (by omega), g1_same]
        have e48 : σ' (48 + n) = v := by rw [hσ', g1_ne (by omega), g1_ne (by omega), g1_ne (by omega), g1_same]
        have e52 : σ' (52 + n) = s := by rw [hσ', g1_ne (by omega), g1_ne (by omega), g1_same]
        have hb' : sBd σ' K := by
          rw [hσ']
          exact sBd_set (sBd_set (sBd_set (sBd_set (sBd_set hb (by rw [sBn_d (by omega) (by omega)]; exact hk6)) (by rw [sBn_e (by omega) (by omega)]; exact hv9)) (by rw [sBn_f (by omega) (by omega)]; exact hs20)) (Nat.zero_le _)) (show n + 1 ≤ 4 by omega)
        have hlk : ∀ μ, μ < σ 38 → sLk1 μ σ σ' := fun μ hμ i hi => eold i (by omega) (by omega) (by omega) (by omega) (by omega)
        have o1 : pOi (4 + n) := Or.inl (by omega)
        have o2 := pCJ o1
        refine j_two (σ' := σ') hC hMd hMI (t_man hTp hNw hg hb hG.2.1 hz hk6 hv9 hs1 hs20 hn hn4) (fun z T R I0 hM => c_man hM hi hk6 hv9 hs1 hs20 hn hn4) ⟨⟨by decide, by decide⟩, ⟨by decide, by decide⟩, by decide, by decide⟩ (fun r u hp => ?_) (fun r M' hp => ⟨hp.1, ?_⟩) ⟨hg, sBd_le hb' (by omega), hA.2.2.1, hA.2.2.2.1, (hA.le (K' := K + 300000) (by omega)).2.2.2.2.1, by rw [eold 3 (by omega) (by omega) (by omega) (by omega) (by omega)]; exact hA.2.2.2.2.2.1, hA.2.2.2.2.2.2⟩
        · obtain ⟨e1, T', I', R', rfl, ⟨m0, m1, m2, m3, m4⟩, hne⟩ := hp
          have fT : ∀ c, c < z → T' c = T c := fun c h => (hne c (by omega)).1
          have fI : ∀ c j, c < z → ¬ (c = q + 12 ∧ j = n) → ¬ (c = q + 6 ∧ j = 5) → g2 (g2 I' (q + 6 + 6) n 0) (q + 6) 5 (nI n + 1) c j = I c j := fun c j h1 h2 h3 => gs_ne rfl (by omega) (gs_ne rfl (by omega) ((hne c (by omega)).2.1 j))
          have fR : ∀ c j, c < z → ¬ (c = q + 11 ∧ j = n) → g2 R' (q + 6 + 5) n (some z) c j = R c j := fun c j h1 h2 => gs_neR rfl (by omega) ((hne c (by omega)).2.2 j)
          have hf : jFm q z (z + 1) T T' I (g2 (g2 I' (q + 6 + 6) n 0) (q + 6) 5 (nI n + 1)) R (g2 R' (q + 6 + 5) n (some z)) := ⟨by omega, fT, fun c j h1 h2 => fI c j h1 (by omega) (by omega), fun c j h1 h2 => fR c j h1 (fun g => h2 (by unfold jRy; omega))⟩
          have hab : cAB (q + 6) (g2 (g2 I' (q + 6 + 6) n 0) (q + 6) 5 (nI n + 1)) σ' := by
            have b0 : cAB (q + 6) I' (g1 (g1 (g1 σ (44 + n) k) (48 + n) v) (52 + n) s) := (hNw.ab.k (fun c j h1 h2 => (hne c (by omega)).2.1 j)).s (fun i hi => by unfold pOi at hi; rw [g1_ne (by omega), g1_ne (by omega), g1_ne (by omega)])
            rw [hσ', hinc]
            exact (b0.set (k := 4 + n) (v := 0) (c := q + 6 + 6) (j := n) o1 (by omega) (by omega)).set (k := 38) (Or.inl (by decide)) rfl rfl
          have hmen : jMen q (q + 6) T' (g2 (g2 I' (q + 6 + 6) n 0) (q + 6) 5 (nI n + 1)) (g2 R' (q + 6 + 5) n (some z)) σ' := fun μ hμ => by
            rw [e38] at hμ
            by_cases e : μ = n
            · subst e
              exact ⟨z, g2_same, ⟨by rw [e44]; exact m0, by rw [e44]; exact gs_ne rfl (by omega) (gs_ne rfl (by omega) m1), gs_ne rfl (by omega) (gs_ne rfl (by omega) m2), by rw [e48]; exact gs_ne rfl (by omega) (gs_ne rfl (by omega) m3), by rw [e52]; exact gs_ne rfl (by omega) (gs_ne rfl (by omega) m4)⟩, hz⟩
            · obtain ⟨b, g1, g2, g3⟩ := hNw.2.2.1 μ (by omega)
              have hbz : b < z := hlt b (by rw [g2.1]; exact Nat.succ_ne_zero _)
              have g4 := g2.s (σ' := σ') (eold _ (by omega) (by omega) (by omega) (by omega) (by omega)) (eold _ (by omega) (by omega) (by omega) (by omega) (by omega)) (eold _ (by omega) (by omega) (by omega) (by omega) (by omega))
              exact ⟨b, (fR _ _ (by omega) (by omega)).trans g1, ⟨(fT b hbz).trans g4.1, (fI b 0 hbz (by omega) (by omega)).trans g4.2.1, (fI b 1 hbz (by omega) (by omega)).trans g4.2.2.1, (fI b 2 hbz (by omega) (by omega)).trans g4.2.2.2.1, (fI b 3 hbz (by omega) (by omega)).trans g4.2.2.2.2⟩, g3⟩
          have hme : cMe (q + 6) T' (g2 R' (q + 6 + 5) n (some z)) := fun k9 hk9 => by
            by_cases e : k9 = n
            · subst e
              exact Or.inr ⟨z, k, hk6, g2_same, m0⟩
            · rw [fR _ _ (by omega) (by omega)]
              rcases hNw.2.2.2.1 k9 hk9 with g | ⟨b9, κ9, g1, g2, g3⟩
              · exact Or.inl g
              · exact Or.inr ⟨b9, κ9, g1, g2, (fT b9 (hlt b9 (by rw [g3]; exact Nat.succ_ne_zero _))).trans g3⟩
          have hN := cNw.mk hab hmen hme (jSt.up hNw.2.2.2.2 hlt fT (fun c j h1 h2 => fI c j h1 (by omega) (by omega)) (fun c j h1 h2 _ => fR c j h1 (by omega)) (fR _ 12 (by omega) (by omega)))
          exact ⟨e1, z + 1, T', _, _, rfl, hC.up hlt (fun g => (hA.2.2.2.2.1 g).2.2.2.2.2.1) hN ((hC.2.2.2.1.k (fun a j h1 h2 => fI a j (by omega) (by omega) (by omega))).man (by rw [e38]; omega) hlk) hf, hf.x hz⟩
        · rw [hp.2]
          have hmS := mS_p (i := 38) (mS_p (i := 4 + n) (mS_p (i := 52 + n) (mS_p (i := 48 + n) (mS_p (i := 44 + n) hi.1 rfl (Eq.refl (nI k))) rfl (Eq.refl (nI v))) rfl (Eq.refl (nI s))) rfl (show (0 : Int32) = nI 0 from rfl)) rfl hinc
          rw [← hσ'] at hmS
          exact hJ.up (K' := K + 300000) (τ' := τ1) (ms' := ms) ⟨hmS, mSite_p (mSite_p (mSite_p (mSite_p (mSite_p hi.2.1 rfl (Or.inr ⟨by omega, by omega⟩)) rfl (Or.inr ⟨by omega, by omega⟩)) rfl (Or.inr ⟨by omega, by omega⟩)) rfl (Or.inr ⟨by omega, by omega⟩)) rfl (Or.inr ⟨by omega, by omega⟩), sBd_le hb' (by omega), mCache_man (mCache_c hi.2.2.2 (gs_ne rfl (by omega) (gs_ne rfl (by omega) (gs_ne rfl (by omega) (gs_ne rfl (by omega) (gs_ne rfl (by omega) rfl))))) (gs_ne rfl (by omega) (gs_ne rfl (by omega) (gs_ne rfl (by omega) (gs_ne rfl (by omega) (gs_ne rfl (by omega) rfl))))) (fun a => ⟨(gs_ne rfl (by omega) (gs_ne rfl (by omega) (gs_ne rfl (by omega) (gs_ne rfl (by omega) (gs_ne rfl (by omega) rfl))))), (gs_ne rfl (by omega) (gs_ne rfl (by omega) (gs_ne rfl (by omega) (gs_ne rfl (by omega) (gs_ne rfl (by omega) rfl))))), (gs_ne rfl (by omega) (gs_ne rfl (by omega) (gs_ne rfl (by omega) (gs_ne rfl (by omega) (gs_ne rfl (by omega) rfl)))))⟩)) (by rw [e38]; omega) hlk⟩ (by omega) (hJ.2.1.c (gs_ne rfl (by omega) (gs_ne rfl (by omega) (gs_ne rfl (by omega) (gs_ne rfl (by omega) (gs_ne rfl (by omega) rfl))))) (by rw [eold 39 (by omega) (by omega) (by omega) (by omega) (by omega)]; exact Nat.le_refl _)) (gs_ne rfl (by omega) (gs_ne rfl (by omega) (gs_ne rfl (by omega) (gs_ne rfl (by omega) (gs_ne rfl (by omega) rfl))))) (gs_ne rfl (by omega) (gs_ne rfl (by omega) (gs_ne rfl (by omega) (gs_ne rfl (by omega) (gs_ne rfl (by omega) rfl))))) (fun i => (gs_ne rfl (by omega) (gs_ne rfl (by omega) (gs_ne rfl (by omega) (gs_ne rfl (by omega) (gs_ne rfl (by omega) rfl)))))) (fun i => (gs_ne rfl (by omega) (gs_ne rfl (by omega) (gs_ne rfl (by omega) (gs_ne rfl (by omega) (gs_ne rfl (by omega) rfl))))))
    · exact j_pure hC hA hJ hMd hMI (t_man_b hTp hNw hg hb hk6 hh) (fun z T R I0 hM => c_man_b hM hi hk6 hh) ⟨⟨by decide, by decide⟩, ⟨by decide, by decide⟩, by decide, by decide⟩
  · exact j_pure hC hA hJ hMd hMI (t_man_n hTp hNw hg hb hk) (fun z T R I0 hM => c_man_n hM hi hk) ⟨⟨by decide, by decide⟩, ⟨by decide, by decide⟩, by decide, by decide⟩
set_option maxRecDepth 100000 in
set_option maxHeartbeats 4000000 in
theorem jd_site (hG : jG s0 B ad C E) (hC : jC q E ad z T I R σ fl ti sh tl im σi fi t2 s2) (hA : aI K σ fl ti sh tl im σi fi t2 s2) (hJ : jM M σ fl ti sh tl K τ im σi fi t2 s2) (hMd : gMod (q + 53) T R) (hMI : ∀ k j, k < 12 → I (q + 53 + k) j = M k j) (hlt : ∀ c, (T c).1 ≠ 0 → c < z) (hE0 : (T E).1 = 0) (hK : K ≤ 24000000) (hτ : τ + 200000 < 2 ^ 30) : jDo l s0 D cy B q yX11_site wsX11_site yX12_site wsX12_site [] (z, T, I, R) (jI q E ad (K + 300000) (τ + 140000)) := by
  have hTp := hC.2.1
  have hNw := hC.2.2.1
  have hg := hA.1
  have hb := hA.2.1
  obtain ⟨τ1, ms, hτ1, hi⟩ := hJ.1
  have h4 : σ 38 ≤ 4 := hb.2.2.2.2.1
  by_cases h5 : σ 39 = 5
  · exact j_pure hC hA hJ hMd hMI (t_site_f hTp hNw hg hb h5) (fun z T R I0 hM => c_site_f hM (by rw [hi.1 39 (by decide) (by decide), h5]; rfl)) ⟨⟨by decide, by decide⟩, ⟨by decide, by decide⟩, by decide, by decide⟩
  · obtain ⟨aa, haa⟩ : ∃ aa, σ 39 = aa := ⟨_, rfl⟩
    have h39 := hb.2.2.2.2.2.1
    have h41 := hb.2.2.2.2.2.2.2.1
    have ha5 : aa < 5 := by omega
    have hz := hC.1
    have htp : ∀ k, sTp σ k ≤ 127 := fun k => by
      unfold sTp
      split
      · rename_i h
        exact hb.2.2.2.2.2.2.2.2.2.2 k h
      · exact Nat.zero_le _
    have hmt : mTp M (sTp σ) (σ 41) aa := ⟨⟨ha5, h41, htp⟩, by rw [← haa]; exact hi.1 39 (by decide) (by decide), hi.1 41 (by decide) (by decide), fun k hk => by
      rw [hi.1 (68 + k) (by omega) (by omega)]
      unfold sTp
      rw [if_pos hk]⟩
    have hinc : nI aa + 1 = nI (aa + 1) := gn_add (Eq.refl (nI aa)) (show (1 : Int32) = nI 1 from rfl)
    by_cases hok : pOk (sTp σ) (σ 41)
    · have hW := pSite_W (n := σ 41) htp
      have hnn := pSite_n (n := σ 41) htp
      have hG' : sGd (pSite (sTp σ) (σ 41)).1.2.2 (pSite (sTp σ) (σ 41)).2.1 (pSite (sTp σ) (σ 41)).2.2 := ⟨sOkL_ok (pSite_ok htp hok.1), by omega, hnn.1, hnn.2⟩
      obtain ⟨σ', hσ'⟩ : ∃ σ', σ' = g1 (g1 σ 41 0) 39 (aa + 1) := ⟨_, rfl⟩
      have e39 : σ' 39 = aa + 1 := by rw [hσ', g1_same]
      have e41 : σ' 41 = 0 := by rw [hσ', g1_ne (by decide), g1_same]
      have eold : ∀ i, i ≠ 39 → i ≠ 41 → σ' i = σ i := fun i h1 h2 => by rw [hσ', g1_ne h1, g1_ne h2]
      have hb' : sBd σ' K := by
        rw [hσ']
        exact sBd_set (sBd_set hb (Nat.zero_le _)) (show aa + 1 ≤ 5 by omega)
      refine j_two (σ' := σ') (fl' := (pSite (sTp σ) (σ 41)).1.2.2) (ti' := (pSite (sTp σ) (σ 41)).2.1) (sh' := (pSite (sTp σ) (σ 41)).2.2) (r0 := nI aa) hC hMd hMI (t_site_y hTp hNw hg hb hG.1 hG.2.2.2.2.2.2 hz haa ha5 hok) (fun z T R I0 hM => c_site_y hM hmt hG.1 hok) ⟨⟨by decide, by decide⟩, ⟨by decide, by decide⟩, by decide, by decide⟩ (fun r u hp => ?_) (fun r M' hp => ?_) ⟨hG', sBd_le hb' (by omega), hA.2.2.1, hA.2.2.2.1, (hA.le (K' := K + 300000) (by omega)).2.2.2.2.1, by rw [eold 3 (by omega) (by omega)]; exact hA.2.2.2.2.2.1, hA.2.2.2.2.2.2⟩
      · obtain ⟨e1, T', I', R', rfl, ⟨fT, fI, fR⟩, cs, c1, c2, c3, c4, c5⟩ := hp
        have gI' : ∀ c j, c < z → c ≠ q + 51 → ¬ (q + 6 ≤ c ∧ c < q + 21) → iFg (q + 6) (g2 (g2 I' (q + 6) 6 0) (q + 6) 13 (nI aa + 1)) 4 c j = I c j := fun c j h1 h2 h3 => (iFg_r (by omega)).trans (gs_ne rfl (by omega) (gs_ne rfl (by omega) (fI c j h1 h2)))
        have gR : ∀ c j, c < z → c ≠ q + 51 → ¬ (c = q + 6 ∧ j = 12) → g2 R' (q + 6) 12 (some z) c j = R c j := fun c j h1 h2 h3 => gs_neR rfl (by omega) (fR c j h1 h2)
        have hf : jFm q z (z + 5) T T' I (iFg (q + 6) (g2 (g2 I' (q + 6) 6 0) (q + 6) 13 (nI aa + 1)) 4) R (g2 R' (q + 6) 12 (some z)) := ⟨by omega, fT, fun c j h1 h2 => gI' c j h1 (by omega) (by omega), fun c j h1 h2 => gR c j h1 (fun g => h2 (by unfold jRy; omega)) (fun g => h2 (by unfold jRy; omega))⟩
        have hab : cAB (q + 6) (iFg (q + 6) (g2 (g2 I' (q + 6) 6 0) (q + 6) 13 (nI aa + 1)) 4) σ' := by
          have b0 : cAB (q + 6) I' σ := hNw.ab.k (fun c j h1 h2 => fI c j (by omega) (by omega))
          rw [hσ', hinc]
          exact ((b0.set (k := 41) (v := 0) (c := q + 6) (j := 6) (Or.inl (by decide)) rfl rfl).set (k := 39) (Or.inl (by decide)) rfl rfl).k (fun c j h1 h2 => iFg_r (by omega))
        have hr5 : ∀ j, g2 R' (q + 6) 12 (some z) (q + 6 + 5) j = R (q + 6 + 5) j := fun j => gR _ j (by omega) (by omega) (by omega)
        have hcsi : cSi z I' (pSite (sTp σ) (σ 41)).1.2.2 (pSite (sTp σ) (σ 41)).2.1 (pSite (sTp σ) (σ 41)).2.2 := ⟨c4, c5, cs, c1.symm, c3⟩
        have hN := cNw.mk hab (jMen.up hNw.2.2.1 hlt h4 (eold 38 (by decide) (by decide)) (fun i h1 h2 => eold i (by omega) (by omega)) fT (fun c j h1 h2 => gI' c j h1 (by omega) (by omega)) hr5) (cMe.up hNw.2.2.2.1 hlt fT hr5) (⟨z, g2_same, c2.fr (fun j => gs_neR rfl (by omega) rfl), hcsi.k (fun c j h1 h2 => (iFg_r (by omega)).trans (gs_ne rfl (by omega) (gs_ne rfl (by omega) rfl))), Or.inr hz⟩ : jSt q (q + 6) T' _ (g2 R' (q + 6) 12 (some z)) _ _ _)
        exact ⟨e1, z + 5, T', _, _, rfl, hC.up hlt (fun g => (hA.2.2.2.2.1 g).2.2.2.2.2.1) hN (cC.fg (fun c h1 h2 => iFg_k h1 (by omega))) hf, hf.x hz⟩
      · obtain ⟨e1, m17, m39, m42, m41, hrs, hfr⟩ := hp
        have e17 : M 0 17 + 1 = nI (τ1 + 1) := by rw [hi.2.2.2.2.2.1]; exact gn_add (Eq.refl (nI τ1)) (show (1 : Int32) = nI 1 from rfl)
        have hmS : mS M' σ' := fun i h1 h2 => by
          by_cases g1 : i = 39
          · rw [g1, e39]; exact m39
          · by_cases g2 : i = 41
            · rw [g2, e41]; exact m41
            · rw [eold i g1 g2]
              exact (hfr 1 i (by unfold zS; omega) (by omega) (by omega)).trans (hi.1 i h1 h2)
        have hms : mSite M' (pSite (sTp σ) (σ 41)).1.2.2 (pSite (sTp σ) (σ 41)).2.1 (pSite (sTp σ) (σ 41)).2.2 := ⟨hG'.1, hG'.2.1, hG'.2.2.1, hG'.2.2.2, Or.inr ⟨aa, ha5, m42, hrs.2.1, hrs.2.2, hrs.1.2.1, hrs.1.2.2⟩⟩
        exact ⟨e1, hJ.up (K' := K + 300000) (τ' := τ1 + 1) (ms' := ms) ⟨hmS, hms, sBd_le hb' (by omega), mCache_tick hi.2.2.2 (by omega) (m17.trans e17) (hfr 0 18 (by unfold zS; omega) (by omega) (by omega)) (fun a => hfr 6 a (by unfold zS; omega) (by omega) (by omega))⟩ (by omega) (Or.inr ⟨aa, by omega, m42⟩) (hfr 0 3 (by unfold zS; omega) (by omega) (by omega)) (hfr 0 26 (by unfold zS; omega) (by omega) (by omega)) (fun i => hfr 2 i (by unfold zS; omega) (by omega) (by omega)) (fun i => hfr 11 i (by unfold zS; omega) (by omega) (by omega))⟩
    · have hb' : sBd (g1 σ 41 0) K := sBd_set hb (Nat.zero_le _)
      refine j_two (σ' := g1 σ 41 0) (r0 := -10 - nI (pSite (sTp σ) (σ 41)).1.2.1) hC hMd hMI (t_site_x hTp hNw hg hb hG.1 hG.2.2.2.2.2.2 hz haa ha5 hok) (fun z T R I0 hM => c_site_x hM hmt hG.1 hok) ⟨⟨by decide, by decide⟩, ⟨by decide, by decide⟩, by decide, by decide⟩ (fun r u hp => ?_) (fun r M' hp => ?_) ⟨hg, sBd_le hb' (by omega), hA.2.2.1, hA.2.2.2.1, (hA.le (K' := K + 300000) (by omega)).2.2.2.2.1, by rw [g1_ne (by decide)]; exact hA.2.2.2.2.2.1, hA.2.2.2.2.2.2⟩
      · obtain ⟨e1, T', I', R', rfl, fT, fI, fR⟩ := hp
        have gI' : ∀ c j, c < z → c ≠ q + 51 → ¬ (c = q + 6 ∧ j = 6) → g2 I' (q + 6) 6 0 c j = I c j := fun c j h1 h2 h3 => gs_ne rfl (by omega) (fI c j h1 h2)
        have hf : jFm q z (z + 5) T T' I (g2 I' (q + 6) 6 0) R R' := ⟨by omega, fT, fun c j h1 h2 => gI' c j h1 (by omega) (by omega), fun c j h1 h2 => fR c j h1 (fun g => h2 (by unfold jRy; omega))⟩
        have b0 : cAB (q + 6) I' σ := hNw.ab.k (fun c j h1 h2 => fI c j (by omega) (by omega))
        have hab := b0.set (k := 41) (v := 0) (c := q + 6) (j := 6) (Or.inl (by decide)) rfl rfl
        have hr5 : ∀ j, R' (q + 6 + 5) j = R (q + 6 + 5) j := fun j => fR _ j (by omega) (by omega)
        have hN := cNw.mk hab (jMen.up hNw.2.2.1 hlt h4 (g1_ne (by decide)) (fun i h1 h2 => g1_ne (by omega)) fT (fun c j h1 h2 => gI' c j h1 (by omega) (by omega)) hr5) (cMe.up hNw.2.2.2.1 hlt fT hr5) (jSt.up hNw.2.2.2.2 hlt fT (fun c j h1 h2 => gI' c j h1 (by omega) (by omega)) (fun c j h1 h2 _ => fR c j h1 (by omega)) (fR _ 12 (by omega) (by omega)))
        exact ⟨e1, z + 5, T', _, _, rfl, hC.up hlt (fun g => (hA.2.2.2.2.1 g).2.2.2.2.2.1) hN ((hC.2.2.2.1.k (fun a j h1 h2 => gI' a j (by omega) (by omega) (by omega))).lk (fun i hi => g1_ne (by omega))) hf, hf.x hz⟩
      · obtain ⟨e1, hfr, m41⟩ := hp
        have hmS : mS M' (g1 σ 41 0) := fun i h1 h2 => by
          by_cases g2 : i = 41
          · rw [g2, g1_same]; exact m41
          · rw [g1_ne g2]
            exact (hfr 1 i (by unfold zS; omega)).trans (hi.1 i h1 h2)
        exact ⟨e1, hJ.up (K' := K + 300000) (τ' := τ1) (ms' := ms) ⟨hmS, mSite_x hi.2.1 hJ.2.1 haa ha5 hfr, sBd_le hb' (by omega), mCache_σ (mCache_c hi.2.2.2 (hfr 0 17 (by unfold zS; omega)) (hfr 0 18 (by unfold zS; omega)) (fun a => ⟨hfr 6 a (by unfold zS; omega), hfr 7 a (by unfold zS; omega), hfr 8 a (by unfold zS; omega)⟩)) (fun i hi => g1_ne (by omega))⟩ (by omega) (hJ.2.1.c (hfr 1 42 (by unfold zS; omega)) (by rw [g1_ne (by decide)]; exact Nat.le_refl _)) (hfr 0 3 (by unfold zS; omega)) (hfr 0 26 (by unfold zS; omega)) (fun i => hfr 2 i (by unfold zS; omega)) (fun i => hfr 11 i (by unfold zS; omega))⟩
set_option maxRecDepth 100000 in
set_option maxHeartbeats 4000000 in
theorem jd_image (hG : jG s0 B ad C E) (hC : jC q E ad z T I R σ fl ti sh tl im σi fi t2 s2) (hA : aI K σ fl ti sh tl im σi fi t2 s2) (hJ : jM M σ fl ti sh tl K τ im σi fi t2 s2) (hMd : gMod (q + 53) T R) (hMI : ∀ k j, k < 12 → I (q + 53 + k) j = M k j) (hlt : ∀ c, (T c).1 ≠ 0 → c < z) (hE0 : (T E).1 = 0) (hK : K ≤ 24000000) (hτ : τ + 200000 < 2 ^ 30) : jDo l s0 D cy B q yX11_image wsX11_image yX12_image wsX12_image [] (z, T, I, R) (jI q E ad (K + 300000) (τ + 140000)) := by
  have hTp := hC.2.1
  have hNw := hC.2.2.1
  have hg := hA.1
  have hb := hA.2.1
  obtain ⟨τ1, ms, hτ1, hi⟩ := hJ.1
  have h4 : σ 38 ≤ 4 := hb.2.2.2.2.1
  have hz := hC.1
  refine j_two (im' := 1) (σi' := σ) (fi' := fl) (t2' := ti) (s2' := sh) (r0 := nI (σ 38)) hC hMd hMI (t_image hTp hNw hg hb hG.2.1) (fun z T R I0 hM => c_image hM) ⟨⟨by decide, by decide⟩, ⟨by decide, by decide⟩, by decide, by decide⟩ (fun r u hp => ?_) (fun r M' hp => ?_) ⟨hg, sBd_le hb (by omega), hA.2.2.1, Nat.le_refl _, (fun _ => ⟨hg, sBd_le hb (by omega)⟩), hA.2.2.2.2.2.1, fun _ => hA.2.2.2.2.2.1⟩
  · obtain ⟨e1, I', R', rfl, a1, a2, a3, a4, a5, fI, fR⟩ := hp
    have hI : ∀ c j, (q < c ∧ c < q + 21) ∨ q + 36 ≤ c → I' c j = I c j := fun c j h => fI c j (by omega) (by omega)
    have hr5 : ∀ j, R' (q + 6 + 5) j = R (q + 6 + 5) j := fun j => fR _ j (by omega) (by omega)
    obtain ⟨a, s1, s2, s3, s4⟩ := hNw.2.2.2.2
    have hN := cNw.mk (hNw.ab.k (fun c j h1 h2 => hI c j (by omega))) (jMen.up hNw.2.2.1 hlt h4 rfl (fun _ _ _ => rfl) (fun _ _ => rfl) (fun c j h1 h2 => hI c j (by omega)) hr5) (cMe.up hNw.2.2.2.1 hlt (fun _ _ => rfl) hr5) (jSt.up hNw.2.2.2.2 hlt (fun _ _ => rfl) (fun c j h1 h2 => hI c j (by omega)) (fun c j h1 h2 _ => fR c j (by omega) (by omega)) (fR _ 12 (by omega) (by omega)))
    have hIm : cNw q (q + 21) T I' R' σ fl ti sh := cNw.mk (cAB_i a1 a2) (fun μ hμ => by
        obtain ⟨b, g1, g2, g3⟩ := hNw.2.2.1 μ hμ
        exact ⟨b, (a3 μ (by omega)).trans g1, g2.k (fun j => hI b j (by omega)), g3⟩) (fun k hk => by rw [a3 k hk]; exact hNw.2.2.2.1 k hk) ⟨a, a4.trans s1, s2.fr (fun j => fR a j (by omega) (by omega)), s3.k (fun c j h1 h2 => hI c j (by omega)), s4⟩
    refine ⟨e1, z, T, I', R', rfl, ⟨hz, hTp.up hz (fun _ _ => rfl) (fun c j h1 h2 => fR c j (fun g => h2 (by unfold jRx; omega)) (fun g => h2 (by unfold jRx; omega))), hN, hC.2.2.2.1.k (fun a j h1 h2 => hI a j (by omega)), hC.2.2.2.2.1.up hlt (fun _ _ => rfl) (hI _ _ (by omega)) (fR _ _ (by omega) (by omega)) (fun c j h1 h2 => fR c j (by omega) (by omega)), a5, fun _ => hIm⟩, fun c h1 h2 => ⟨rfl, fun j => hI c j (by omega), fun j => fR c j (by omega) (by omega)⟩⟩
  · obtain ⟨e1, e2⟩ := hp
    have hcp : ∀ b i, ¬ b = 2 → ¬ (b = 0 ∧ i = 3) → M' b i = M b i := fun b i h1 h2 => by
      rw [e2]
      refine gs_ne rfl (by omega) ?_
      unfold mCp
      rw [if_neg (by omega)]
    have hr2 : ∀ i, i < 883 → M' 2 i = M 1 i := fun i h => by
      rw [e2]
      refine gs_ne rfl (by omega) ?_
      unfold mCp
      rw [if_pos ⟨rfl, h⟩]
    refine ⟨e1.trans (hi.1 38 (by decide) (by decide)), ⟨τ1, ms, by omega, mInv_le ⟨mS_c hi.1 (fun i => hcp 1 i (by omega) (by omega)), mSite_c hi.2.1 (fun i _ _ => hcp 1 i (by omega) (by omega)), hb, mCache_c hi.2.2.2 (hcp 0 17 (by omega) (by omega)) (hcp 0 18 (by omega) (by omega)) (fun a => ⟨hcp 6 a (by omega) (by omega), hcp 7 a (by omega) (by omega), hcp 8 a (by omega) (by omega)⟩)⟩ (by omega)⟩, hJ.2.1.c (hcp 1 42 (by omega) (by omega)) (Nat.le_refl _), hJ.2.2.1.c (hcp 0 26 (by omega) (by omega)) (fun i => hcp 11 i (by omega) (by omega)), by rw [e2]; exact gs_same rfl, fun _ => ?_⟩
    have h1 : ∀ i, i < 883 → mRw M' 1 i = M 1 i := fun i h => hr2 i h
    exact ⟨fun i g1 g2 => (h1 i (by omega)).trans (hi.1 i g1 g2), mSite_b hi.2.1 h1, hJ.2.1.c (h1 42 (by decide)) (Nat.le_refl _)⟩
set_option maxRecDepth 100000 in
set_option maxHeartbeats 4000000 in
theorem jd_undo (hG : jG s0 B ad C E) (hC : jC q E ad z T I R σ fl ti sh tl im σi fi t2 s2) (hA : aI K σ fl ti sh tl im σi fi t2 s2) (hJ : jM M σ fl ti sh tl K τ im σi fi t2 s2) (hMd : gMod (q + 53) T R) (hMI : ∀ k j, k < 12 → I (q + 53 + k) j = M k j) (hlt : ∀ c, (T c).1 ≠ 0 → c < z) (hE0 : (T E).1 = 0) (hK : K ≤ 24000000) (hτ : τ + 200000 < 2 ^ 30) : jDo l s0 D cy B q yX11_undo wsX11_undo yX12_undo wsX12_undo [] (z, T, I, R) (jI q E ad (K + 300000) (τ + 140000)) := by
  have hTp := hC.2.1
  have hNw := hC.2.2.1
  have hg := hA.1
  have hb := hA.2.1
  obtain ⟨τ1, ms, hτ1, hi⟩ := hJ.1
  have h4 : σ 38 ≤ 4 := hb.2.2.2.2.1
  have hz := hC.1
  have h5 := hC.2.2.2.2.2.1
  have h3 := hJ.2.2.2.1
  rcases (show im = 0 ∨ im = 1 by have := hA.2.2.2.1; omega) with h0 | h0
  · rw [h0] at h5 h3
    exact j_pure hC hA hJ hMd hMI (t_undo_n hTp hNw hg hb h5) (fun z T R I0 hM => c_undo_n hM h3) ⟨⟨by decide, by decide⟩, ⟨by decide, by decide⟩, by decide, by decide⟩
  · have hKw := hC.2.2.2.2.2.2 h0
    obtain ⟨hgi, hbi⟩ := hA.2.2.2.2.1 h0
    have hJi := hJ.2.2.2.2 h0
    have h4i : σi 38 ≤ 4 := hbi.2.2.2.2.1
    rw [h0] at h5 h3
    refine j_two (σ' := σi) (fl' := fi) (ti' := t2) (sh' := s2) (tl' := tl) (im' := 1) (σi' := σi) (fi' := fi) (t2' := t2) (s2' := s2) (r0 := nI (σi 38)) hC hMd hMI (t_undo2 hTp hNw hg hb hG.2.1 hKw hbi h5) (fun z T R I0 hM => c_undo hM h3) ⟨⟨by decide, by decide⟩, ⟨by decide, by decide⟩, by decide, by decide⟩ (fun r u hp => ?_) (fun r M' hp => ?_) ⟨hgi, sBd_le hbi (by omega), hA.2.2.1, Nat.le_refl _, (fun _ => ⟨hgi, sBd_le hbi (by omega)⟩), hA.2.2.2.2.2.2 h0, fun _ => hA.2.2.2.2.2.2 h0⟩
    · obtain ⟨e1, I', R', rfl, a1, a2, a3, a4, a5, fI, fR⟩ := hp
      have hI : ∀ c j, c < q + 6 ∨ q + 21 ≤ c → I' c j = I c j := fun c j h => fI c j (by omega)
      obtain ⟨a, s1, s2', s3, s4⟩ := hKw.2.2.2.2
      have hr5 : ∀ j, R' (q + 21 + 5) j = R (q + 21 + 5) j := fun j => fR _ j (by omega) (by omega)
      have hN : cNw q (q + 6) T I' R' σi fi t2 s2 := cNw.mk (cAB_i a1 a2) (fun μ hμ => by
          obtain ⟨b, g1, g2, g3⟩ := hKw.2.2.1 μ hμ
          exact ⟨b, (a3 μ (by omega)).trans g1, g2.k (fun j => hI b j (by omega)), g3⟩) (fun k hk => by rw [a3 k hk]; exact hKw.2.2.2.1 k hk) ⟨a, a4.trans s1, s2'.fr (fun j => fR a j (by omega) (by omega)), s3.k (fun c j h1 h2 => hI c j (by omega)), s4⟩
      have hIm : cNw q (q + 21) T I' R' σi fi t2 s2 := cNw.mk (hKw.ab.k (fun c j h1 h2 => hI c j (by omega))) (jMen.up hKw.2.2.1 hlt h4i rfl (fun _ _ _ => rfl) (fun _ _ => rfl) (fun c j h1 h2 => hI c j (by omega)) hr5) (cMe.up hKw.2.2.2.1 hlt (fun _ _ => rfl) hr5) (jSt.up hKw.2.2.2.2 hlt (fun _ _ => rfl) (fun c j h1 h2 => hI c j (by omega)) (fun c j h1 h2 _ => fR c j (by omega) (by omega)) (fR _ 12 (by omega) (by omega)))
      exact ⟨e1, z, T, I', R', rfl, ⟨hz, hTp.up hz (fun _ _ => rfl) (fun c j h1 h2 => fR c j (fun g => h2 (by unfold jRx; omega)) (fun g => h2 (by unfold jRx; omega))), hN, cC.fg (fun c h1 h2 => a5 c (by omega) (by omega)), hC.2.2.2.2.1.up hlt (fun _ _ => rfl) (hI _ _ (by omega)) (fR _ _ (by omega) (by omega)) (fun c j h1 h2 => fR c j (by omega) (by omega)), (hI q 5 (by omega)).trans h5, fun _ => hIm⟩, fun c h1 h2 => ⟨rfl, fun j => hI c j (by omega), fun j => fR c j (by omega) (by omega)⟩⟩
    · obtain ⟨e1, e2⟩ := hp
      have hcp : ∀ b i, ¬ b = 1 → ¬ (b = 0 ∧ i = 17) → M' b i = M b i := fun b i h1 h2 => by
        rw [e2]
        refine gs_ne rfl (by omega) ?_
        unfold mCp
        rw [if_neg (by omega)]
      have hr1 : ∀ i, i < 883 → M' 1 i = M 2 i := fun i h => by
        rw [e2]
        refine gs_ne rfl (by omega) ?_
        unfold mCp
        rw [if_pos ⟨rfl, h⟩]
      have hr1' : ∀ i, i < 883 → M' 1 i = mRw M 1 i := hr1
      have e17 : M 0 17 + 1 = nI (τ1 + 1) := by rw [hi.2.2.2.2.2.1]; exact gn_add (Eq.refl (nI τ1)) (show (1 : Int32) = nI 1 from rfl)
      have m17 : M' 0 17 = nI (τ1 + 1) := by rw [e2]; exact (gs_same rfl).trans e17
      refine ⟨e1.trans (hJi.1 38 (by decide) (by decide)), ⟨τ1 + 1, ms, by omega, ⟨fun i g1 g2 => (hr1' i (by omega)).trans (hJi.1 i g1 g2), mSite_b hJi.2.1 hr1', sBd_le hbi (by omega), mCache_tick hi.2.2.2 (by omega) m17 (hcp 0 18 (by omega) (by omega)) (fun a => hcp 6 a (by omega) (by omega))⟩⟩, hJi.2.2.c (hr1' 42 (by decide)) (Nat.le_refl _), hJ.2.2.1.c (hcp 0 26 (by omega) (by omega)) (fun i => hcp 11 i (by omega) (by omega)), (hcp 0 3 (by omega) (by omega)).trans h3, fun _ => hJi.c (fun i => hcp 2 i (by omega) (by omega))⟩
/-- behind an act -/
theorem jC.act {z' : Nat} {T' : Nat → Nat × Nat} {I' : Nat → Nat → Int32} {R' : Nat → Nat → Option Nat} {tl' : List Nat} (hC : jC q E ad z T I R σ fl ti sh tl im σi fi t2 s2) (hMd : gMod (q + 53) T R) (hlt : ∀ c, (T c).1 ≠ 0 → c < z) (hE0 : (T E).1 = 0) (hL : cLs (q + 52) E ad T' I' R' tl') (hf : gLf (q + 52) z z' T T' I I' R R') : jC q E ad z' T' I' R' σ fl ti sh tl' im σi fi t2 s2 ∧ jX q T T' I I' R R' := by
  obtain ⟨hz, h1, h2, h3, h5, h6, h7⟩ := hC
  have hn : gLn (q + 52) T R := cLs.ln h5 hE0
  refine ⟨⟨Nat.le_trans hz hf.1, h1.lf hf hn hz, h2.lf h1.2.2.2.2.2.2.2.2.2.1 hf hn hz hlt (by omega) (by omega), h3.k (fun a j g1 g2 => hf.2.2.1 a j (by omega) (by omega)), hL, (hf.2.2.1 q 5 (by omega) (by omega)).trans h6, fun g => (h7 g).lf h1.2.2.2.2.2.2.2.2.2.2.1 hf hn hz hlt (by omega) (by omega)⟩, fun c g1 g2 => ⟨hf.2.1 c (by omega), fun j => hf.2.2.1 c j (by omega) (by omega), fun j => ?_⟩⟩
  have hk : ∀ k, k < 12 → ∃ t, mTl[k]? = some t ∧ t.1 ≠ 6 ∧ t.1 ≠ 0 := by decide
  obtain ⟨t, t1, t2, t3⟩ := hk (c - (q + 53)) (by omega)
  have e := hMd.1 _ _ t1
  rw [show q + 53 + (c - (q + 53)) = c by omega] at e
  exact hf.2.2.2.1 c j (by omega) (by omega) (hn c (by rw [e]; exact t2) (by rw [e]; exact t3))
theorem jM.act {M' : Nat → Nat → Int32} {tl' : List Nat} (h : jM M σ fl ti sh tl K τ im σi fi t2 s2) (ht : mTr M' tl') (hf : ∀ b i, ¬ (b = 11 ∨ (b = 0 ∧ (26 ≤ i ∧ i ≤ 29))) → M' b i = M b i) : jM M' σ fl ti sh tl' (K + 300000) (τ + 140000) im σi fi t2 s2 := by
  obtain ⟨⟨τ1, ms, h1, h2⟩, hd, h3, h4, h5⟩ := h
  exact ⟨⟨τ1, ms, by omega, mInv_le ⟨mS_c h2.1 (fun i => hf 1 i (by omega)), mSite_c h2.2.1 (fun i _ _ => hf 1 i (by omega)), h2.2.2.1, mCache_c h2.2.2.2 (hf 0 17 (by omega)) (hf 0 18 (by omega)) (fun a => ⟨hf 6 a (by omega), hf 7 a (by omega), hf 8 a (by omega)⟩)⟩ (by omega)⟩, hd.c (hf 1 42 (by omega)) (Nat.le_refl _), ht, (hf 0 3 (by omega)).trans h4, fun g => (h5 g).c (fun i => hf 2 i (by omega))⟩
set_option maxRecDepth 100000 in
set_option maxHeartbeats 4000000 in
theorem jd_act (hG : jG s0 B ad C E) (hC : jC q E ad z T I R σ fl ti sh tl im σi fi t2 s2) (hA : aI K σ fl ti sh tl im σi fi t2 s2) (hJ : jM M σ fl ti sh tl K τ im σi fi t2 s2) (hMd : gMod (q + 53) T R) (hMI : ∀ k j, k < 12 → I (q + 53 + k) j = M k j) (hlt : ∀ c, (T c).1 ≠ 0 → c < z) (hE0 : (T E).1 = 0) (hK : K ≤ 24000000) (hτ : τ + 200000 < 2 ^ 30) (v y x : Int32) : jDo l s0 D cy B q yX11_act wsX11_act yX12_act wsX12_act [.int v, .int y, .int x] (z, T, I, R) (jI q E ad (K + 300000) (τ + 140000)) := by
  have hTp := hC.2.1
  have hNw := hC.2.2.1
  have hg := hA.1
  have hb := hA.2.1
  obtain ⟨τ1, ms, hτ1, hi⟩ := hJ.1
  have h4 : σ 38 ≤ 4 := hb.2.2.2.2.1
  by_cases hv : 0 ≤ v ∧ v ≤ nI (σ 38) - 1
  · obtain ⟨μ, hμ, rfl⟩ := j_man (n := σ 38) (by omega) hv
    by_cases hw : y.toInt < 0 ∨ 2 < y.toInt
    · exact j_two (tl' := []) (r0 := 0) hC hMd hMI (t_act_w hTp hNw hg hb hG.2.2.2.1 hG.2.2.2.2.1 hG.2.2.2.2.2.1 hC.1 hC.2.2.2.2.1 hμ hw x) (fun z T R I0 hM => c_act_n hM hi (fun g => j_noi (m := 2) (by decide) hw rfl g.2)) ⟨⟨by decide, by decide⟩, ⟨by decide, by decide⟩, by decide, by decide⟩ (fun r u hp => by
        obtain ⟨e1, z', T', I', R', rfl, e3, e4⟩ := hp
        have e5 := hC.act hMd hlt hE0 e3 e4
        exact ⟨e1, z', T', I', R', rfl, e5.1, e5.2⟩) (fun r M' hp => ⟨hp.1, hJ.act (by rw [hp.2]; exact ⟨gs_same rfl, fun k hk => absurd hk (Nat.not_lt_zero k)⟩) (fun b i h => by rw [hp.2]; exact gs_ne rfl (by omega) rfl)⟩) ⟨hg, sBd_le hb (by omega), ⟨Nat.zero_le _, j_getD (fun v hv => absurd hv List.not_mem_nil)⟩, hA.2.2.2.1, (hA.le (K' := K + 300000) (by omega)).2.2.2.2.1, hA.2.2.2.2.2⟩
    · obtain ⟨k, hk, rfl⟩ := j_int (m := 2) (by decide) hw
      rcases (show k = 0 ∨ k = 1 ∨ k = 2 by omega) with rfl | rfl | rfl
      · exact j_two (tl' := (aL (σ (44 + μ)) μ x).2) (r0 := (aL (σ (44 + μ)) μ x).1) hC hMd hMI (t_act_0 hTp hNw hg hb hG.2.2.2.1 hG.2.2.2.2.1 hG.2.2.2.2.2.1 hC.1 hC.2.2.2.2.1 hμ (κ := σ (44 + μ)) (vv := σ (48 + μ)) rfl rfl x) (fun z T R I0 hM => c_act hM hi hμ (show 0 ≤ 2 by decide) x) ⟨⟨by decide, by decide⟩, ⟨by decide, by decide⟩, by decide, by decide⟩ (fun r u hp => by
          obtain ⟨e1, z', T', I', R', rfl, e3, e4⟩ := hp
          have e5 := hC.act hMd hlt hE0 e3 e4
          exact ⟨e1, z', T', I', R', rfl, e5.1, e5.2⟩) (fun r M' hp => ⟨hp.1, hJ.act hp.2.1 hp.2.2⟩) ⟨hg, sBd_le hb (by omega), ⟨by have := aL_n (σ (44 + μ)) μ x; omega, j_getD (aL_v _ _ _)⟩, hA.2.2.2.1, (hA.le (K' := K + 300000) (by omega)).2.2.2.2.1, hA.2.2.2.2.2⟩
      · exact j_two (tl' := (aG (σ (44 + μ)) μ (σ (48 + μ)) x).2) (r0 := (aG (σ (44 + μ)) μ (σ (48 + μ)) x).1) hC hMd hMI (t_act_1 hTp hNw hg hb hG.2.2.2.1 hG.2.2.2.2.1 hG.2.2.2.2.2.1 hC.1 hC.2.2.2.2.1 hμ (κ := σ (44 + μ)) (vv := σ (48 + μ)) rfl rfl x) (fun z T R I0 hM => c_act hM hi hμ (show 1 ≤ 2 by decide) x) ⟨⟨by decide, by decide⟩, ⟨by decide, by decide⟩, by decide, by decide⟩ (fun r u hp => by
          obtain ⟨e1, z', T', I', R', rfl, e3, e4⟩ := hp
          have e5 := hC.act hMd hlt hE0 e3 e4
          exact ⟨e1, z', T', I', R', rfl, e5.1, e5.2⟩) (fun r M' hp => ⟨hp.1, hJ.act hp.2.1 hp.2.2⟩) ⟨hg, sBd_le hb (by omega), ⟨by have := aG_l (σ (44 + μ)) μ (σ (48 + μ)) x; omega, j_getD (aG_v _ _ _ _)⟩, hA.2.2.2.1, (hA.le (K' := K + 300000) (by omega)).2.2.2.2.1, hA.2.2.2.2.2⟩
      · exact j_two (tl' := (aT (σ (44 + μ)) μ (σ (48 + μ)) x).2) (r0 := (aT (σ (44 + μ)) μ (σ (48 + μ)) x).1) hC hMd hMI (t_act_2 hTp hNw hg hb hG.2.2.2.1 hG.2.2.2.2.1 hG.2.2.2.2.2.1 hC.1 hC.2.2.2.2.1 hμ (κ := σ (44 + μ)) (vv := σ (48 + μ)) rfl rfl x) (fun z T R I0 hM => c_act hM hi hμ (show 2 ≤ 2 by decide) x) ⟨⟨by decide, by decide⟩, ⟨by decide, by decide⟩, by decide, by decide⟩ (fun r u hp => by
          obtain ⟨e1, z', T', I', R', rfl, e3, e4⟩ := hp
          have e5 := hC.act hMd hlt hE0 e3 e4
          exact ⟨e1, z', T', I', R', rfl, e5.1, e5.2⟩) (fun r M' hp => ⟨hp.1, hJ.act hp.2.1 hp.2.2⟩) ⟨hg, sBd_le hb (by omega), ⟨aT_l _ _ _ _, j_getD (aT_v _ _ _ _)⟩, hA.2.2.2.1, (hA.le (K' := K + 300000) (by omega)).2.2.2.2.1, hA.2.2.2.2.2⟩
  · exact j_two (tl' := []) (r0 := 0) hC hMd hMI (t_act_n hTp hNw hg hb hG.2.2.2.1 hG.2.2.2.2.1 hG.2.2.2.2.2.1 hC.1 hC.2.2.2.2.1 hv x y) (fun z T R I0 hM => c_act_n hM hi (fun g => hv g.1)) ⟨⟨by decide, by decide⟩, ⟨by decide, by decide⟩, by decide, by decide⟩ (fun r u hp => by
      obtain ⟨e1, z', T', I', R', rfl, e3, e4⟩ := hp
      have e5 := hC.act hMd hlt hE0 e3 e4
      exact ⟨e1, z', T', I', R', rfl, e5.1, e5.2⟩) (fun r M' hp => ⟨hp.1, hJ.act (by rw [hp.2]; exact ⟨gs_same rfl, fun k hk => absurd hk (Nat.not_lt_zero k)⟩) (fun b i h => by rw [hp.2]; exact gs_ne rfl (by omega) rfl)⟩) ⟨hg, sBd_le hb (by omega), ⟨Nat.zero_le _, j_getD (fun v hv => absurd hv List.not_mem_nil)⟩, hA.2.2.2.1, (hA.le (K' := K + 300000) (by omega)).2.2.2.2.1, hA.2.2.2.2.2⟩
end JF
