section MI
variable {l : Launch} {s0 : State} {D : va_G} {cy : Nat → ClassId} {B o z : Nat} {T : Nat → Nat × Nat} {R : Nat → Nat → Option Nat} {I0 : Nat → Nat → Int32} {M : Nat → Nat → Int32} {σ : Nat → Nat} {fl : List Nat} {ti sh K : Nat}
theorem mS_p {M' : Nat → Nat → Int32} {i v : Nat} {x : Int32} (h : mS M σ) (e : g2 M 1 i x = M') (hx : x = nI v) : mS M' (g1 σ i v) := fun j h1 h2 => by
  rw [← e]
  by_cases hj : j = i
  · subst hj
    rw [g2_same, g1_same]
    exact hx
  · rw [g2_nj hj, g1_ne hj]
    exact h j h1 h2
theorem mS_q {M' : Nat → Nat → Int32} {b i : Nat} {x : Int32} (h : mS M σ) (e : g2 M b i x = M') (hb : b ≠ 1) : mS M' σ := fun j h1 h2 => by
  rw [← e, g2_na (Ne.symm hb)]
  exact h j h1 h2
theorem mSite_p {M' : Nat → Nat → Int32} {b i : Nat} {x : Int32} (h : mSite M fl ti sh) (e : g2 M b i x = M') (hb : b ≠ 1 ∨ (i < 168 ∧ i ≠ 42)) : mSite M' fl ti sh := mSite_c h (fun j _ h2 => gs_ne e (by omega) rfl)
theorem sBd_8 {σ' : Nat → Nat} {K' : Nat} (h : sBd σ K) (h0 : σ' 0 ≤ 999) (h1 : σ' 1 ≤ K') (h2 : σ' 2 ≤ K') (h3 : σ' 3 ≤ K') (h4 : ∀ μ, μ < 4 → σ' (4 + μ) ≤ 99) (h8 : ∀ i, 8 ≤ i → σ' i = σ i) : sBd σ' K' := by
  obtain ⟨-, -, -, c1, c2, c3, c4, c5, c6, c7, c8⟩ := h
  refine ⟨h0, ⟨h1, h2, h3⟩, h4, fun υ hυ => by rw [h8 _ (by omega)]; exact c1 υ hυ, by rw [h8 _ (by omega)]; exact c2, by rw [h8 _ (by omega)]; exact c3, by rw [h8 _ (by omega)]; exact c4, by rw [h8 _ (by omega)]; exact c5, fun μ hμ => ?_, fun k hk => by rw [h8 _ (by omega)]; exact c7 k hk, fun k hk => by rw [h8 _ (by omega)]; exact c8 k hk⟩
  rw [h8 _ (by omega), h8 _ (by omega), h8 _ (by omega)]
  exact c6 μ hμ
theorem fF_c {σ' : Nat → Nat} {μ υ β : Nat} (hμ : μ < 4) (hυ : υ < 10) (h : ∀ i, (8 ≤ i ∧ i < 38) ∨ (44 ≤ i ∧ i < 48) → σ' i = σ i) : fF σ' μ υ β = fF σ μ υ β := by
  funext j
  unfold fF
  rw [h (8 + υ) (by omega), h (18 + υ) (by omega), h (28 + υ) (by omega), h (44 + μ) (by omega)]
theorem mCache_σ {σ' : Nat → Nat} {τ ms : Nat} (hc : mCache M fl σ τ ms) (h : ∀ i, (8 ≤ i ∧ i < 39) ∨ (44 ≤ i ∧ i < 48) → σ' i = σ i) : mCache M fl σ' τ ms := by
  refine ⟨hc.1, hc.2.1, hc.2.2.1, hc.2.2.2.1, fun a ha => ?_⟩
  obtain ⟨q, q1, q2, q3⟩ := hc.2.2.2.2 a ha
  rw [fF_c hc.2.1 (by omega) (fun i hi => h i (by omega)), h 38 (by omega)]
  exact ⟨q, q1, q2, q3⟩
theorem mCache_c {U : Nat → Nat → Int32} {τ ms : Nat} (h : mCache M fl σ τ ms) (h17 : U 0 17 = M 0 17) (h18 : U 0 18 = M 0 18) (ho : ∀ a, U 6 a = M 6 a ∧ U 7 a = M 7 a ∧ U 8 a = M 8 a) : mCache U fl σ τ ms := mCache_hit h (h17.trans h.2.2.1) (h18.trans h.2.2.2.1) ho
def gS (b i : Nat) : Prop := lS b i ∨ (b = 0 ∧ (i = 19 ∨ i = 20 ∨ i = 21 ∨ i = 22)) ∨ (b = 1 ∧ i < 18)
theorem sb9_0 (k : Nat) : (9 - nI k) + Int32.ofInt (-1) = 9 - nI (k + 1) := by
  rw [nI_succ, show Int32.ofInt (-1) = -1 from rfl]
  grind
theorem sb9_lt {k : Nat} (hk : k ≤ 10) (h : (9 - nI k : Int32) < 0) : k = 10 := by
  rcases Nat.lt_or_ge 9 k with q | q
  · omega
  · exfalso
    rw [show (9 : Int32) = nI 9 from rfl, pk_sub q] at h
    exact nI_pos (by omega) h
theorem sb9_ge {k : Nat} (hk : k ≤ 10) (h : ¬ (9 - nI k : Int32) < 0) : k < 10 := by
  rcases Nat.lt_or_ge k 10 with q | q
  · exact q
  · exfalso
    rw [show k = 10 by omega] at h
    exact h (by decide)
theorem sb9_v {k : Nat} (hk : k < 10) : (9 - nI k : Int32) = nI (9 - k) := by
  rw [show (9 : Int32) = nI 9 from rfl, pk_sub (by omega)]

theorem sGo_n {μ ld x0 x1 x2 x3 x4 : Nat} (h0 : x0 = σ 0 - sCm σ μ ld) (h1 : x1 = σ 1 + sBr fl σ μ ld) (h2 : x2 = σ 2 + sSe fl sh σ μ ld) (h3 : x3 = σ 3 + 1) (h4 : x4 = sTd ti σ μ ld) (h : ¬ (σ 3 + 1) % 3 = 0) (i : Nat) : g1 (g1 (g1 (g1 (g1 σ 1 x1) 0 x0) (4 + μ) x4) 3 x3) 2 x2 i = sGo fl ti sh σ μ ld i := by
  unfold sGo g1
  by_cases e2 : i = 2
  · rw [if_pos e2, if_neg (by omega), if_neg (by omega), if_pos e2, h2]
  · rw [if_neg e2]
    by_cases e3 : i = 3
    · rw [if_pos e3, if_neg (by omega), if_neg (by omega), if_neg e2, if_pos e3, h3]
    · rw [if_neg e3]
      by_cases e4 : i = 4 + μ
      · rw [if_pos e4, if_neg (by omega), if_neg (by omega), if_neg e2, if_neg e3, if_pos e4, h4]
      · rw [if_neg e4]
        by_cases e0 : i = 0
        · rw [if_pos e0, if_pos e0, h0]
        · rw [if_neg e0, if_neg e0]
          by_cases e1 : i = 1
          · rw [if_pos e1, if_pos e1, h1]
          · rw [if_neg e1, if_neg e1, if_neg e2, if_neg e3, if_neg e4, if_neg (fun q => h q.2.2)]
theorem sGo_y {μ ld x0 x1 x2 x3 x4 : Nat} (hμ : μ < 4) (h0 : x0 = σ 0 - sCm σ μ ld) (h1 : x1 = σ 1 + sBr fl σ μ ld) (h2 : x2 = σ 2 + sSe fl sh σ μ ld) (h3 : x3 = σ 3 + 1) (h4 : x4 = sTd ti σ μ ld) (h : (σ 3 + 1) % 3 = 0) (i : Nat) : g1 (fun i => if 8 ≤ i ∧ i < 18 then sSo (g1 (g1 (g1 (g1 σ 1 x1) 0 x0) (4 + μ) x4) 3 x3) i else (g1 (g1 (g1 (g1 σ 1 x1) 0 x0) (4 + μ) x4) 3 x3) i) 2 x2 i = sGo fl ti sh σ μ ld i := by
  by_cases h8 : 8 ≤ i ∧ i < 18
  · rw [g1_ne (by omega), if_pos h8]
    unfold sGo sSo
    rw [g1_ne (by omega), g1_ne (by omega), g1_ne (by omega), g1_ne (by omega), g1_ne (by omega), g1_ne (by omega), g1_ne (by omega), g1_ne (by omega)]
    rw [if_neg (show ¬ i = 0 by omega), if_neg (show ¬ i = 1 by omega), if_neg (show ¬ i = 2 by omega), if_neg (show ¬ i = 3 by omega), if_neg (show ¬ i = 4 + μ by omega), if_pos (show 8 ≤ i ∧ i < 18 ∧ (σ 3 + 1) % 3 = 0 from ⟨h8.1, h8.2, h⟩)]
  · unfold sGo g1
    dsimp only
    rw [if_neg h8]
    by_cases e2 : i = 2
    · rw [if_pos e2, if_neg (by omega), if_neg (by omega), if_pos e2, h2]
    · rw [if_neg e2]
      by_cases e3 : i = 3
      · rw [if_pos e3, if_neg (by omega), if_neg (by omega), if_neg e2, if_pos e3, h3]
      · rw [if_neg e3]
        by_cases e4 : i = 4 + μ
        · rw [if_pos e4, if_neg (by omega), if_neg (by omega), if_neg e2, if_neg e3, if_pos e4, h4]
        · rw [if_neg e4]
          by_cases e0 : i = 0
          · rw [if_pos e0, if_pos e0, h0]
          · rw [if_neg e0, if_neg e0]
            by_cases e1 : i = 1
            · rw [if_pos e1, if_pos e1, h1]
            · rw [if_neg e1, if_neg e1, if_neg e2, if_neg e3, if_neg e4, if_neg (fun q => h8 ⟨q.1, q.2.1⟩)]

set_option maxHeartbeats 4000000 in
set_option maxRecDepth 100000 in
/-- goes -/
theorem c_goes (hM : gMod o T R) (hσ : mS M σ) (hs : mSite M fl ti sh) (hb : sBd σ K) {μ ld τ ms : Nat} (hμ : μ < 4) (h38 : μ < σ 38) (hld : ld ≤ 20) (hca : mCache M fl σ τ ms) (hτ : τ + 40 < 2 ^ 30) (hK : K < 2 ^ 29) : Met l yX12_goes wsX12_goes ({ frames := 4, cells := 0, slots := 0, locals := 101 }) (mPre s0 D cy B o z T R I0 M [.int (nI μ), .int (nI ld)]) (mQv D cy B o z T R I0 (fun u => u 0 19 = nI (sCm σ μ ld) ∧ u 0 20 = nI (sFi sh σ μ ld) ∧ u 0 21 = nI (sSe fl sh σ μ ld) ∧ u 0 22 = nI (sBr fl σ μ ld) ∧ mS u (sGo fl ti sh σ μ ld) ∧ (∃ τ' ms', τ ≤ τ' ∧ τ' ≤ τ + 31 ∧ mCache u fl (sGo fl ti sh σ μ ld) τ' ms') ∧ mSame gS M u)) 0 0 (gA B) := by
  refine g_met (maxL := 5) (ret := none) (by decide) rfl (Nat.le_of_ble_eq_true rfl) (fun p e s m args below meth c ls X hr hlk hnm hK hP hC hS hl => ?_)
  have hl : lv_has ls 5 [(0, .ref o), (1, .int (nI μ)), (2, .int (nI ld))] := hl
  have hP : gP D cy B z T (gI o 12 M I0) R s.heap := hP
  have hB : B ≤ s.heap.size := by rw [hP.1]; exact hP.2.1
  have hin : ∀ w ∈ wsX120, w ∈ wsX12_goes := fun _ h => List.mem_cons_of_mem _ (List.mem_append_right _ h)
  have k9 : Cond.fieldLink RX12 9 "BarrowPlankModel" "s" "[I" ∈ wsX12_goes := by decide +kernel
  have k174 : Cond.fieldLink RX12 174 "BarrowPlankModel" "came" "I" ∈ wsX12_goes := by decide +kernel
  have k184 : Cond.fieldLink RX12 184 "BarrowPlankModel" "filling" "I" ∈ wsX12_goes := by decide +kernel
  have k187 : Cond.fieldLink RX12 187 "BarrowPlankModel" "seconds" "I" ∈ wsX12_goes := by decide +kernel
  have k197 : Cond.fieldLink RX12 197 "BarrowPlankModel" "brought" "I" ∈ wsX12_goes := by decide +kernel
  have b44 : σ (44 + μ) ≤ 6 := (hb.2.2.2.2.2.2.2.2.1 μ hμ).1
  have b48 : σ (48 + μ) ≤ 9 := (hb.2.2.2.2.2.2.2.2.1 μ hμ).2.1
  have b52 : σ (52 + μ) ≤ 20 := (hb.2.2.2.2.2.2.2.2.1 μ hμ).2.2
  have b4 : σ (4 + μ) ≤ 99 := hb.2.2.1 μ hμ
  have b0 : σ 0 ≤ 999 := hb.1
  have hsh : sh ≤ 99 := hs.2.2.2.1
  have hK3 := hb.2.1.2.2
  have hcm20 := sCm_le σ μ ld
  have hcm0 := sCm_e σ μ ld
  have hloop : ∀ (M0 : Nat → Nat → Int32) (H : Heap) (locs : List Loc) (ls : Array Slot), M0 0 21 = nI (sFi sh σ μ ld + sTh fl σ μ (sCm σ μ ld) 0) → M0 0 20 = nI (sFi sh σ μ ld) → M0 0 19 = nI (sCm σ μ ld) → (∀ b i, ¬ (b = 0 ∧ (i = 19 ∨ i = 20 ∨ i = 21)) → M0 b i = M b i) → mS M0 σ → mSite M0 fl ti sh → mCache M0 fl σ τ ms → gP D cy B z T (gI o 12 M0 I0) R H → va_S (gA B) s.heap H locs → lv_has ls 5 [(0, .ref o), (1, .int (nI μ)), (2, .int (nI ld)), (3, .int (nI (sBa fl σ μ (sCm σ μ ld) 0))), (4, .int (nI 0))] → W p l e ({ frames := 4, cells := 0, slots := 0, locals := 101 }) s m args below meth c H locs 0 0 (MQ below (mQv D cy B o z T R I0 (fun u => u 0 19 = nI (sCm σ μ ld) ∧ u 0 20 = nI (sFi sh σ μ ld) ∧ u 0 21 = nI (sSe fl sh σ μ ld) ∧ u 0 22 = nI (sBr fl σ μ ld) ∧ mS u (sGo fl ti sh σ μ ld) ∧ (∃ τ' ms', τ ≤ τ' ∧ τ' ≤ τ + 31 ∧ mCache u fl (sGo fl ti sh σ μ ld) τ' ms') ∧ mSame gS M u)) args s 0 0 (gA B)) (F0 m 64 ls []) := by
    intro M0 H locs ls h21 h20 h19 hkp hσ0 hs0 hca0 hP hS hl
    refine m_loop (M := M0) 10 64 [] (fun k N ls => ∃ τ1 ms1, τ ≤ τ1 ∧ τ1 ≤ τ + 2 * k ∧ mCache N fl σ τ1 ms1 ∧ N 0 21 = nI (sFi sh σ μ ld + sTh fl σ μ (sCm σ μ ld) k) ∧ (∀ b i, ¬ (lS b i ∨ (b = 0 ∧ i = 21)) → N b i = M0 b i) ∧ lv_has ls 5 [(0, .ref o), (1, .int (nI μ)), (2, .int (nI ld)), (3, .int (nI (sBa fl σ μ (sCm σ μ ld) k))), (4, .int (nI k))]) 0 (by omega) ⟨τ, ms, by omega, by omega, hca0, h21, fun _ _ _ => rfl, hl⟩ hP hS (fun k N H locs ls hk hi hP hS ih => ?_)
    obtain ⟨τ1, ms1, hτ1, hτ2, hcaN, hN21, hNk, hl⟩ := hi
    have hσN : mS N σ := mS_c hσ0 (fun i => hNk 1 i (by unfold lS; omega))
    have hsN : mSite N fl ti sh := mSite_c hs0 (fun i _ _ => hNk 1 i (by unfold lS; omega))
    have hba := sBa_le fl σ μ (sCm σ μ ld) k
    refine lv_iload X.1 X.2.1 dX12_goes_64 (lv_at hl 4 rfl) ?_
    refine lv_bipush (v := 10) X.1 X.2.1 dX12_goes_66 (by decide) ?_
    refine lv_icmp_ge (tgt := 125) X.1 X.2.1 dX12_goes_68 (by decide) (fun c68 => ?_) (fun c68 => ?_)
    · have n68 : 10 ≤ k := gq_le c68 (show (10 : Int32) = nI 10 from rfl) (Eq.refl (nI k)) (by omega) (by omega)
      obtain rfl : k = 10 := gk18 hk c68
      refine lv_bipush (v := 9) X.1 X.2.1 dX12_goes_125 (by decide) ?_
      refine lv_istore (lv' := [(4, .int 9), (0, .ref o), (1, .int (nI μ)), (2, .int (nI ld)), (3, .int (nI (sBa fl σ μ (sCm σ μ ld) 10)))]) X.1 X.2.1 dX12_goes_127 hl (by decide) rfl (fun ls hl => ?_)
      refine m_loop (M := N) 10 129 [] (fun k Q9 ls => ∃ τ2 ms2, τ ≤ τ2 ∧ τ2 ≤ τ + 20 + k ∧ mCache Q9 fl σ τ2 ms2 ∧ Q9 0 21 = nI (sFi sh σ μ ld + sTh fl σ μ (sCm σ μ ld) 10 + sHm fl σ μ k) ∧ (∀ b i, ¬ (lS b i ∨ (b = 0 ∧ i = 21)) → Q9 b i = M0 b i) ∧ lv_has ls 5 [(0, .ref o), (1, .int (nI μ)), (2, .int (nI ld)), (3, .int (nI (sBa fl σ μ (sCm σ μ ld) 10))), (4, .int (9 - nI k))]) 0 (by omega) ⟨τ1, ms1, by omega, by omega, hcaN, hN21, hNk, lv_sub hl [1, 2, 3, 4, 0] rfl⟩ hP hS (fun k Q9 H locs ls hk hi hP hS ih => ?_)
      obtain ⟨τ2, ms2, hτ3, hτ4, hcaQ, hQ21, hQk, hl⟩ := hi
      have hσQ : mS Q9 σ := mS_c hσ0 (fun i => hQk 1 i (by unfold lS; omega))
      have hsQ : mSite Q9 fl ti sh := mSite_c hs0 (fun i _ _ => hQk 1 i (by unfold lS; omega))
      refine lv_iload X.1 X.2.1 dX12_goes_129 (lv_at hl 4 rfl) ?_
      refine lv_if_lt (tgt := 157) X.1 X.2.1 dX12_goes_131 (by decide) (fun c131 => ?_) (fun c131 => ?_)
      · obtain rfl : k = 10 := sb9_lt hk c131
        refine lv_aload_n X.1 X.2.1 dX12_goes_157 rfl (lv_at hl 0 rfl) ?_
        refine lv_iload_n X.1 X.2.1 dX12_goes_158 rfl (lv_at hl 3 rfl) ?_
        refine m_puti 22 X hK hP hS hM hin rfl (by decide) k197 rfl rfl rfl rfl dX12_goes_159 (fun H locs hP hS => ?_)
        generalize eM1 : g2 Q9 0 22 (nI (sBa fl σ μ (sCm σ μ ld) 10)) = M1 at hP
        have hσM1 := mS_q hσQ eM1 (by decide)
        have hsM1 := mSite_p hsQ eM1 (Or.inl (by decide))
        have hcaM1 := mCache_c hcaQ (gs_ne eM1 (by omega) rfl) (gs_ne eM1 (by omega) rfl) (fun a => ⟨gs_ne eM1 (by omega) rfl, gs_ne eM1 (by omega) rfl, gs_ne eM1 (by omega) rfl⟩)
        refine lv_aload_n X.1 X.2.1 dX12_goes_162 rfl (lv_at hl 0 rfl) ?_
        refine m_getr 1 1 X hK hP hM hin rfl (by decide) k9 rfl dX12_goes_163 (by decide) ?_
        refine lv_iconst (v := 1) X.1 X.2.1 dX12_goes_166 (by decide) ?_
        refine lv_dup2_11 X.1 X.2.1 dX12_goes_167 rfl rfl ?_
        refine m_ald 1 1 883 X hK hP hM rfl (gIx_of (show (1 : Int32) = nI 1 from rfl) (by omega) (by omega)) dX12_goes_168 (show M1 1 1 = nI (σ 1) from (gs_ne eM1 (by omega) (hσQ 1 (by omega) (by omega)))) ?_
        refine lv_iload_n X.1 X.2.1 dX12_goes_169 rfl (lv_at hl 3 rfl) ?_
        refine lv_iadd X.1 X.2.1 dX12_goes_170 ?_
        refine m_ast 1 1 883 X hK hP hS hM rfl (gIx_of (show (1 : Int32) = nI 1 from rfl) (by omega) (by omega)) dX12_goes_171 (fun H locs hP hS => ?_)
        generalize eM2 : g2 M1 1 1 ((nI (σ 1)) + (nI (sBa fl σ μ (sCm σ μ ld) 10))) = M2 at hP
        have hσM2 := mS_p hσM1 eM2 (gn_add (Eq.refl (nI (σ 1))) (Eq.refl (nI (sBa fl σ μ (sCm σ μ ld) 10))))
        have hsM2 := mSite_p hsM1 eM2 (Or.inr ⟨by omega, by omega⟩)
        have hcaM2 := mCache_c hcaM1 (gs_ne eM2 (by omega) rfl) (gs_ne eM2 (by omega) rfl) (fun a => ⟨gs_ne eM2 (by omega) rfl, gs_ne eM2 (by omega) rfl, gs_ne eM2 (by omega) rfl⟩)
        refine lv_aload_n X.1 X.2.1 dX12_goes_172 rfl (lv_at hl 0 rfl) ?_
        refine m_getr 1 1 X hK hP hM hin rfl (by decide) k9 rfl dX12_goes_173 (by decide) ?_
        refine lv_iconst (v := 0) X.1 X.2.1 dX12_goes_176 (by decide) ?_
        refine lv_dup2_11 X.1 X.2.1 dX12_goes_177 rfl rfl ?_
        refine m_ald 1 0 883 X hK hP hM rfl (gIx_of (show (0 : Int32) = nI 0 from rfl) (by omega) (by omega)) dX12_goes_178 (show M2 1 0 = nI (σ 0) from (gs_ne eM2 (by omega) (gs_ne eM1 (by omega) (hσQ 0 (by omega) (by omega))))) ?_
        refine lv_aload_n X.1 X.2.1 dX12_goes_179 rfl (lv_at hl 0 rfl) ?_
        refine m_geti 19 X hK hP hM hin rfl (by decide) k174 rfl dX12_goes_180 (show M2 0 19 = nI (sCm σ μ ld) from (gs_ne eM2 (by omega) (gs_ne eM1 (by omega) ((hQk 0 19 (by unfold lS; omega)).trans h19)))) ?_
        refine lv_isub X.1 X.2.1 dX12_goes_183 ?_
        refine m_ast 1 0 883 X hK hP hS hM rfl (gIx_of (show (0 : Int32) = nI 0 from rfl) (by omega) (by omega)) dX12_goes_184 (fun H locs hP hS => ?_)
        generalize eM3 : g2 M2 1 0 ((nI (σ 0)) - (nI (sCm σ μ ld))) = M3 at hP
        have hσM3 := mS_p hσM2 eM3 (gn_sub (Eq.refl (nI (σ 0))) (Eq.refl (nI (sCm σ μ ld))) (by omega))
        have hsM3 := mSite_p hsM2 eM3 (Or.inr ⟨by omega, by omega⟩)
        have hcaM3 := mCache_c hcaM2 (gs_ne eM3 (by omega) rfl) (gs_ne eM3 (by omega) rfl) (fun a => ⟨gs_ne eM3 (by omega) rfl, gs_ne eM3 (by omega) rfl, gs_ne eM3 (by omega) rfl⟩)
        have hb1 : sBd (g1 (g1 σ 1 (σ 1 + (sBa fl σ μ (sCm σ μ ld) 10))) 0 (σ 0 - sCm σ μ ld)) (K + 20) := sBd_8 hb (by simp only [g1_same]; omega) (by have h9 := sBa_le fl σ μ (sCm σ μ ld) 10; have h8 := hb.2.1.1; rw [g1_ne (by decide), g1_same]; omega) (by have h8 := hb.2.1.2.1; rw [g1_ne (by decide), g1_ne (by decide)]; omega) (by have h8 := hb.2.1.2.2; rw [g1_ne (by decide), g1_ne (by decide)]; omega) (fun μ hμ => by rw [g1_ne (by omega), g1_ne (by omega)]; exact hb.2.2.1 μ hμ) (fun i hi => by rw [g1_ne (by omega), g1_ne (by omega)])
        refine lv_aload_n X.1 X.2.1 dX12_goes_185 rfl (lv_at hl 0 rfl) ?_
        refine lv_iload_n X.1 X.2.1 dX12_goes_186 rfl (lv_at hl 1 rfl) ?_
        refine g_run_v (g_runV (k := 14) [.int (nI μ)] X hK hP hS hC hB (c_tires hM hσM3 hsM3 hb1 hμ (cm := sCm σ μ ld) (gs_ne eM3 (by omega) (gs_ne eM2 (by omega) (gs_ne eM1 (by omega) ((hQk 0 19 (by unfold lS; omega)).trans h19)))) (by omega)) (cwV 1 X.2.2.2.2 gX12_goes_X12_tires rfl rfl rfl (by decide +kernel) ⟨Nat.le_of_ble_eq_true rfl, Nat.le_of_ble_eq_true rfl⟩) (hM.1 0 _ rfl) rfl rfl hl.1 rfl (Nat.le_of_ble_eq_true rfl) dX12_goes_187 (by exact ⟨Nat.zero_le _, Nat.zero_le _⟩)) hS (fun u H locs hq hP hS => ?_)
        have hq := hq.symm
        generalize u = M4 at hP hq
        rw [show (g1 (g1 σ 1 (σ 1 + (sBa fl σ μ (sCm σ μ ld) 10))) 0 (σ 0 - sCm σ μ ld)) (52 + μ) = σ (52 + μ) by rw [g1_ne (by omega), g1_ne (by omega)], show (g1 (g1 σ 1 (σ 1 + (sBa fl σ μ (sCm σ μ ld) 10))) 0 (σ 0 - sCm σ μ ld)) (4 + μ) = σ (4 + μ) by rw [g1_ne (by omega), g1_ne (by omega)]] at hq
        have eM4 : g2 M3 1 (4 + μ) (nI (sTd ti σ μ ld)) = M4 := hq
        have hP : gP D cy B z T (gI o 12 M4 I0) R H := hP
        have hσM4 := mS_p hσM3 eM4 (Eq.refl (nI (sTd ti σ μ ld)))
        have hsM4 := mSite_p hsM3 eM4 (Or.inr ⟨by omega, by omega⟩)
        have hcaM4 := mCache_c hcaM3 (gs_ne eM4 (by omega) rfl) (gs_ne eM4 (by omega) rfl) (fun a => ⟨gs_ne eM4 (by omega) rfl, gs_ne eM4 (by omega) rfl, gs_ne eM4 (by omega) rfl⟩)
        refine lv_aload_n X.1 X.2.1 dX12_goes_190 rfl (lv_at hl 0 rfl) ?_
        refine m_getr 1 1 X hK hP hM hin rfl (by decide) k9 rfl dX12_goes_191 (by decide) ?_
        refine lv_iconst (v := 3) X.1 X.2.1 dX12_goes_194 (by decide) ?_
        refine lv_dup2_11 X.1 X.2.1 dX12_goes_195 rfl rfl ?_
        refine m_ald 1 3 883 X hK hP hM rfl (gIx_of (show (3 : Int32) = nI 3 from rfl) (by omega) (by omega)) dX12_goes_196 (show M4 1 3 = nI (σ 3) from (gs_ne eM4 (by omega) (gs_ne eM3 (by omega) (gs_ne eM2 (by omega) (gs_ne eM1 (by omega) (hσQ 3 (by omega) (by omega))))))) ?_
        refine lv_iconst (v := 1) X.1 X.2.1 dX12_goes_197 (by decide) ?_
        refine lv_iadd X.1 X.2.1 dX12_goes_198 ?_
        refine m_ast 1 3 883 X hK hP hS hM rfl (gIx_of (show (3 : Int32) = nI 3 from rfl) (by omega) (by omega)) dX12_goes_199 (fun H locs hP hS => ?_)
        generalize eM5 : g2 M4 1 3 ((nI (σ 3)) + 1) = M5 at hP
        have hσM5 := mS_p hσM4 eM5 (gn_add (Eq.refl (nI (σ 3))) (show (1 : Int32) = nI 1 from rfl))
        have hsM5 := mSite_p hsM4 eM5 (Or.inr ⟨by omega, by omega⟩)
        have hcaM5 := mCache_c hcaM4 (gs_ne eM5 (by omega) rfl) (gs_ne eM5 (by omega) rfl) (fun a => ⟨gs_ne eM5 (by omega) rfl, gs_ne eM5 (by omega) rfl, gs_ne eM5 (by omega) rfl⟩)
        refine lv_aload_n X.1 X.2.1 dX12_goes_200 rfl (lv_at hl 0 rfl) ?_
        refine m_getr 1 1 X hK hP hM hin rfl (by decide) k9 rfl dX12_goes_201 (by decide) ?_
        refine lv_iconst (v := 3) X.1 X.2.1 dX12_goes_204 (by decide) ?_
        refine m_ald 1 3 883 X hK hP hM rfl (gIx_of (show (3 : Int32) = nI 3 from rfl) (by omega) (by omega)) dX12_goes_205 (show M5 1 3 = (nI (σ 3)) + 1 from (gs_same eM5)) ?_
        refine lv_iconst (v := 3) X.1 X.2.1 dX12_goes_206 (by decide) ?_
        refine lv_irem X.1 X.2.1 dX12_goes_207 (by decide) ?_
        refine lv_if_ne (tgt := 215) X.1 X.2.1 dX12_goes_208 (by decide) (fun c208 => ?_) (fun c208 => ?_)
        · have n208 : ¬ ((σ 3 + 1) % 3) = 0 := gq_ne c208 (gn_rem (gn_add (Eq.refl (nI (σ 3))) (show (1 : Int32) = nI 1 from rfl)) (show (3 : Int32) = nI 3 from rfl) (by omega) (by omega) (by omega)) (show (0 : Int32) = nI 0 from rfl) (by omega) (by omega)
          refine lv_aload_n X.1 X.2.1 dX12_goes_215 rfl (lv_at hl 0 rfl) ?_
          refine m_getr 1 1 X hK hP hM hin rfl (by decide) k9 rfl dX12_goes_216 (by decide) ?_
          refine lv_iconst (v := 2) X.1 X.2.1 dX12_goes_219 (by decide) ?_
          refine lv_dup2_11 X.1 X.2.1 dX12_goes_220 rfl rfl ?_
          refine m_ald 1 2 883 X hK hP hM rfl (gIx_of (show (2 : Int32) = nI 2 from rfl) (by omega) (by omega)) dX12_goes_221 (show M5 1 2 = nI (σ 2) from (gs_ne eM5 (by omega) (gs_ne eM4 (by omega) (gs_ne eM3 (by omega) (gs_ne eM2 (by omega) (gs_ne eM1 (by omega) (hσQ 2 (by omega) (by omega)))))))) ?_
          refine lv_aload_n X.1 X.2.1 dX12_goes_222 rfl (lv_at hl 0 rfl) ?_
          refine m_geti 21 X hK hP hM hin rfl (by decide) k187 rfl dX12_goes_223 (show M5 0 21 = nI (sFi sh σ μ ld + sTh fl σ μ (sCm σ μ ld) 10 + sHm fl σ μ 10) from (gs_ne eM5 (by omega) (gs_ne eM4 (by omega) (gs_ne eM3 (by omega) (gs_ne eM2 (by omega) (gs_ne eM1 (by omega) hQ21)))))) ?_
          refine lv_iadd X.1 X.2.1 dX12_goes_226 ?_
          refine m_ast 1 2 883 X hK hP hS hM rfl (gIx_of (show (2 : Int32) = nI 2 from rfl) (by omega) (by omega)) dX12_goes_227 (fun H locs hP hS => ?_)
          generalize eM6 : g2 M5 1 2 ((nI (σ 2)) + (nI (sFi sh σ μ ld + sTh fl σ μ (sCm σ μ ld) 10 + sHm fl σ μ 10))) = M6 at hP
          have hσM6 := mS_p hσM5 eM6 (gn_add (Eq.refl (nI (σ 2))) (Eq.refl (nI (sFi sh σ μ ld + sTh fl σ μ (sCm σ μ ld) 10 + sHm fl σ μ 10))))
          have hsM6 := mSite_p hsM5 eM6 (Or.inr ⟨by omega, by omega⟩)
          have hcaM6 := mCache_c hcaM5 (gs_ne eM6 (by omega) rfl) (gs_ne eM6 (by omega) rfl) (fun a => ⟨gs_ne eM6 (by omega) rfl, gs_ne eM6 (by omega) rfl, gs_ne eM6 (by omega) rfl⟩)
          have hgo : ∀ i, (g1 (g1 (g1 (g1 (g1 σ 1 (σ 1 + (sBa fl σ μ (sCm σ μ ld) 10))) 0 (σ 0 - sCm σ μ ld)) (4 + μ) (sTd ti σ μ ld)) 3 (σ 3 + 1)) 2 (σ 2 + (sFi sh σ μ ld + sTh fl σ μ (sCm σ μ ld) 10 + sHm fl σ μ 10))) i = sGo fl ti sh σ μ ld i := fun i => by
            exact sGo_n rfl rfl rfl rfl rfl n208 i
          exact g_vret M6 X hr hlk hK hP hS dX12_goes_228 ⟨((gs_ne eM6 (by omega) (gs_ne eM5 (by omega) (gs_ne eM4 (by omega) (gs_ne eM3 (by omega) (gs_ne eM2 (by omega) (gs_ne eM1 (by omega) ((hQk 0 19 (by unfold lS; omega)).trans h19)))))))), (((gs_ne eM6 (by omega) (gs_ne eM5 (by omega) (gs_ne eM4 (by omega) (gs_ne eM3 (by omega) (gs_ne eM2 (by omega) (gs_ne eM1 (by omega) (hQk 0 20 (by unfold lS; omega))))))))).trans h20), ((gs_ne eM6 (by omega) (gs_ne eM5 (by omega) (gs_ne eM4 (by omega) (gs_ne eM3 (by omega) (gs_ne eM2 (by omega) (gs_ne eM1 (by omega) hQ21))))))), ((gs_ne eM6 (by omega) (gs_ne eM5 (by omega) (gs_ne eM4 (by omega) (gs_ne eM3 (by omega) (gs_ne eM2 (by omega) (gs_same eM1))))))), fun i h1 h2 => (hσM6 i h1 h2).trans (congrArg nI (hgo i)), ⟨τ2, ms2, by omega, by omega, mCache_σ hcaM6 (fun i hi => (hgo i).symm.trans (by rw [g1_ne (by omega), g1_ne (by omega), g1_ne (by omega), g1_ne (by omega), g1_ne (by omega)]))⟩, fun b i h => by unfold gS lS at h; exact (gs_ne eM6 (by omega) (gs_ne eM5 (by omega) (gs_ne eM4 (by omega) (gs_ne eM3 (by omega) (gs_ne eM2 (by omega) (gs_ne eM1 (by omega) ((hQk b i (by unfold lS; omega)).trans (hkp b i (by omega)))))))))⟩
        · have n208 : ((σ 3 + 1) % 3) = 0 := gq_eq c208 (gn_rem (gn_add (Eq.refl (nI (σ 3))) (show (1 : Int32) = nI 1 from rfl)) (show (3 : Int32) = nI 3 from rfl) (by omega) (by omega) (by omega)) (show (0 : Int32) = nI 0 from rfl) (by omega) (by omega)
          refine lv_aload_n X.1 X.2.1 dX12_goes_211 rfl (lv_at hl 0 rfl) ?_
          have hK9 := hb.2.1.2.2
          have hb3 : sBd (g1 (g1 (g1 (g1 σ 1 (σ 1 + (sBa fl σ μ (sCm σ μ ld) 10))) 0 (σ 0 - sCm σ μ ld)) (4 + μ) (sTd ti σ μ ld)) 3 (σ 3 + 1)) (K + 20) := sBd_8 hb1 (by rw [g1_ne (by decide), g1_ne (by omega)]; exact hb1.1) (by rw [g1_ne (by decide), g1_ne (by omega)]; exact hb1.2.1.1) (by rw [g1_ne (by decide), g1_ne (by omega)]; exact hb1.2.1.2.1) (by rw [g1_same]; omega) (fun μ2 hμ2 => by rw [g1_ne (by omega)]; by_cases e : μ2 = μ; (· rw [e, g1_same]; unfold sTd; have := hs.2.2.1; split <;> omega); rw [g1_ne (by omega)]; exact hb1.2.2.1 μ2 hμ2) (fun i hi => by rw [g1_ne (by omega), g1_ne (by omega)])
          refine g_run_v (g_runV (k := 14) [] X hK hP hS hC hB (c_softens hM hσM5 hb3) (cwV 0 X.2.2.2.2 gX12_goes_X12_softens rfl rfl rfl (by decide +kernel) ⟨Nat.le_of_ble_eq_true rfl, Nat.le_of_ble_eq_true rfl⟩) (hM.1 0 _ rfl) rfl rfl hl.1 rfl (Nat.le_of_ble_eq_true rfl) dX12_goes_212 (by exact ⟨Nat.zero_le _, Nat.zero_le _⟩)) hS (fun u H locs hq hP hS => ?_)
          generalize u = M7 at hP hq
          have hP : gP D cy B z T (gI o 12 M7 I0) R H := hP
          have hsr : ∀ b i, ¬ (b = 1 ∧ 8 ≤ i ∧ i < 18) → ¬ (b = 0 ∧ i = 17) → M7 b i = M5 b i := fun b i h1 h2 => by rw [hq, mSoft_r _ _ _ _ _ (by omega)]; simp only [g2]; rw [if_neg (by omega)]
          have h17 : M7 0 17 = nI (τ2 + 1) := by rw [hq, mSoft_r _ _ _ _ _ (by omega), g2_same, hcaM5.2.2.1, nI_1]
          have hσM7 : mS M7 (fun i => if 8 ≤ i ∧ i < 18 then sSo (g1 (g1 (g1 (g1 σ 1 (σ 1 + (sBa fl σ μ (sCm σ μ ld) 10))) 0 (σ 0 - sCm σ μ ld)) (4 + μ) (sTd ti σ μ ld)) 3 (σ 3 + 1)) i else (g1 (g1 (g1 (g1 σ 1 (σ 1 + (sBa fl σ μ (sCm σ μ ld) 10))) 0 (σ 0 - sCm σ μ ld)) (4 + μ) (sTd ti σ μ ld)) 3 (σ 3 + 1)) i) := fun i h1 h2 => by
            by_cases hi : 8 ≤ i ∧ i < 18
            · rw [hq]; unfold mSoft; rw [if_pos ⟨rfl, hi.1, by omega⟩]; exact congrArg nI (if_pos hi).symm
            · rw [hsr 1 i (by omega) (by omega), hσM5 i h1 h2]; exact congrArg nI (if_neg hi).symm
          have hsM7 : mSite M7 fl ti sh := mSite_c hsM5 (fun i h1 h2 => hsr 1 i (by omega) (by omega))
          have hcaM7 : mCache M7 fl (fun i => if 8 ≤ i ∧ i < 18 then sSo (g1 (g1 (g1 (g1 σ 1 (σ 1 + (sBa fl σ μ (sCm σ μ ld) 10))) 0 (σ 0 - sCm σ μ ld)) (4 + μ) (sTd ti σ μ ld)) 3 (σ 3 + 1)) i else (g1 (g1 (g1 (g1 σ 1 (σ 1 + (sBa fl σ μ (sCm σ μ ld) 10))) 0 (σ 0 - sCm σ μ ld)) (4 + μ) (sTd ti σ μ ld)) 3 (σ 3 + 1)) i) (τ2 + 1) ms2 := mCache_tick hcaM5 (by omega) h17 (hsr 0 18 (by omega) (by omega)) (fun a => hsr 6 a (by omega) (by omega))
          refine lv_aload_n X.1 X.2.1 dX12_goes_215 rfl (lv_at hl 0 rfl) ?_
          refine m_getr 1 1 X hK hP hM hin rfl (by decide) k9 rfl dX12_goes_216 (by decide) ?_
          refine lv_iconst (v := 2) X.1 X.2.1 dX12_goes_219 (by decide) ?_
          refine lv_dup2_11 X.1 X.2.1 dX12_goes_220 rfl rfl ?_
          refine m_ald 1 2 883 X hK hP hM rfl (gIx_of (show (2 : Int32) = nI 2 from rfl) (by omega) (by omega)) dX12_goes_221 (show M7 1 2 = nI (σ 2) from ((hsr 1 2 (by omega) (by omega)).trans (gs_ne eM5 (by omega) (gs_ne eM4 (by omega) (gs_ne eM3 (by omega) (gs_ne eM2 (by omega) (gs_ne eM1 (by omega) (hσQ 2 (by omega) (by omega))))))))) ?_
          refine lv_aload_n X.1 X.2.1 dX12_goes_222 rfl (lv_at hl 0 rfl) ?_
          refine m_geti 21 X hK hP hM hin rfl (by decide) k187 rfl dX12_goes_223 (show M7 0 21 = nI (sFi sh σ μ ld + sTh fl σ μ (sCm σ μ ld) 10 + sHm fl σ μ 10) from ((hsr 0 21 (by omega) (by omega)).trans (gs_ne eM5 (by omega) (gs_ne eM4 (by omega) (gs_ne eM3 (by omega) (gs_ne eM2 (by omega) (gs_ne eM1 (by omega) hQ21))))))) ?_
          refine lv_iadd X.1 X.2.1 dX12_goes_226 ?_
          refine m_ast 1 2 883 X hK hP hS hM rfl (gIx_of (show (2 : Int32) = nI 2 from rfl) (by omega) (by omega)) dX12_goes_227 (fun H locs hP hS => ?_)
          generalize eM8 : g2 M7 1 2 ((nI (σ 2)) + (nI (sFi sh σ μ ld + sTh fl σ μ (sCm σ μ ld) 10 + sHm fl σ μ 10))) = M8 at hP
          have hσM8 := mS_p hσM7 eM8 (gn_add (Eq.refl (nI (σ 2))) (Eq.refl (nI (sFi sh σ μ ld + sTh fl σ μ (sCm σ μ ld) 10 + sHm fl σ μ 10))))
          have hsM8 := mSite_p hsM7 eM8 (Or.inr ⟨by omega, by omega⟩)
          have hcaM8 := mCache_c hcaM7 (gs_ne eM8 (by omega) rfl) (gs_ne eM8 (by omega) rfl) (fun a => ⟨gs_ne eM8 (by omega) rfl, gs_ne eM8 (by omega) rfl, gs_ne eM8 (by omega) rfl⟩)
          have hgo : ∀ i, (g1 (fun i => if 8 ≤ i ∧ i < 18 then sSo (g1 (g1 (g1 (g1 σ 1 (σ 1 + (sBa fl σ μ (sCm σ μ ld) 10))) 0 (σ 0 - sCm σ μ ld)) (4 + μ) (sTd ti σ μ ld)) 3 (σ 3 + 1)) i else (g1 (g1 (g1 (g1 σ 1 (σ 1 + (sBa fl σ μ (sCm σ μ ld) 10))) 0 (σ 0 - sCm σ μ ld)) (4 + μ) (sTd ti σ μ ld)) 3 (σ 3 + 1)) i) 2 (σ 2 + (sFi sh σ μ ld + sTh fl σ μ (sCm σ μ ld) 10 + sHm fl σ μ 10))) i = sGo fl ti sh σ μ ld i := fun i => by
            exact sGo_y hμ rfl rfl rfl rfl rfl n208 i
          exact g_vret M8 X hr hlk hK hP hS dX12_goes_228 ⟨((gs_ne eM8 (by omega) ((hsr 0 19 (by omega) (by omega)).trans (gs_ne eM5 (by omega) (gs_ne eM4 (by omega) (gs_ne eM3 (by omega) (gs_ne eM2 (by omega) (gs_ne eM1 (by omega) ((hQk 0 19 (by unfold lS; omega)).trans h19))))))))), (((gs_ne eM8 (by omega) ((hsr 0 20 (by omega) (by omega)).trans (gs_ne eM5 (by omega) (gs_ne eM4 (by omega) (gs_ne eM3 (by omega) (gs_ne eM2 (by omega) (gs_ne eM1 (by omega) (hQk 0 20 (by unfold lS; omega)))))))))).trans h20), ((gs_ne eM8 (by omega) ((hsr 0 21 (by omega) (by omega)).trans (gs_ne eM5 (by omega) (gs_ne eM4 (by omega) (gs_ne eM3 (by omega) (gs_ne eM2 (by omega) (gs_ne eM1 (by omega) hQ21)))))))), ((gs_ne eM8 (by omega) ((hsr 0 22 (by omega) (by omega)).trans (gs_ne eM5 (by omega) (gs_ne eM4 (by omega) (gs_ne eM3 (by omega) (gs_ne eM2 (by omega) (gs_same eM1)))))))), fun i h1 h2 => (hσM8 i h1 h2).trans (congrArg nI (hgo i)), ⟨(τ2 + 1), ms2, by omega, by omega, mCache_σ hcaM8 (fun i hi => (hgo i).symm.trans (by rw [g1_ne (by omega)]))⟩, fun b i h => by unfold gS lS at h; exact (gs_ne eM8 (by omega) ((hsr b i (by omega) (by omega)).trans (gs_ne eM5 (by omega) (gs_ne eM4 (by omega) (gs_ne eM3 (by omega) (gs_ne eM2 (by omega) (gs_ne eM1 (by omega) ((hQk b i (by unfold lS; omega)).trans (hkp b i (by omega))))))))))⟩
      · have hk9 : k < 10 := sb9_ge hk c131
        refine lv_aload_n X.1 X.2.1 dX12_goes_134 rfl (lv_at hl 0 rfl) ?_
        refine lv_dup X.1 X.2.1 dX12_goes_135 rfl ?_
        refine m_geti 21 X hK hP hM hin rfl (by decide) k187 rfl dX12_goes_136 (show Q9 0 21 = nI (sFi sh σ μ ld + sTh fl σ μ (sCm σ μ ld) 10 + sHm fl σ μ k) from hQ21) ?_
        refine lv_aload_n X.1 X.2.1 dX12_goes_139 rfl (lv_at hl 0 rfl) ?_
        refine lv_iload_n X.1 X.2.1 dX12_goes_140 rfl (lv_at hl 1 rfl) ?_
        refine lv_iload X.1 X.2.1 dX12_goes_141 (lv_at hl 4 rfl) ?_
        refine lv_cv (sb9_v hk9) ?_
        refine lv_iconst (v := 0) X.1 X.2.1 dX12_goes_143 (by decide) ?_
        refine g_run_i (g_runV (k := 14) [.int (nI μ), .int (nI (9 - k)), .int 0] X hK hP hS hC hB (c_takes hM hσQ hsQ hb hμ h38 (υ := (9 - k)) (β := 0) (by omega) (by omega) hcaQ (by omega)) (cwV 3 X.2.2.2.2 gX12_goes_X12_takes rfl rfl rfl (by decide +kernel) ⟨Nat.le_of_ble_eq_true rfl, Nat.le_of_ble_eq_true rfl⟩) (hM.1 0 _ rfl) rfl rfl hl.1 rfl (Nat.le_of_ble_eq_true rfl) dX12_goes_144 (by exact ⟨Nat.zero_le _, Nat.zero_le _⟩)) hS (fun r u H locs hq hP hS => ?_)
        obtain ⟨rfl, τN9, hτaN9, hτbN9, hcaN9, hkN9⟩ := hq
        generalize u = N9 at hP hcaN9 hkN9
        have hP : gP D cy B z T (gI o 12 N9 I0) R H := hP
        have hσN9 : mS N9 σ := mS_c hσQ (fun i => hkN9 1 i (by unfold lS; omega))
        have hsN9 : mSite N9 fl ti sh := mSite_c hsQ (fun i _ _ => hkN9 1 i (by unfold lS; omega))
        refine lv_iadd X.1 X.2.1 dX12_goes_147 ?_
        refine m_puti 21 X hK hP hS hM hin rfl (by decide) k187 rfl rfl rfl rfl dX12_goes_148 (fun H locs hP hS => ?_)
        generalize eM10 : g2 N9 0 21 ((nI (sFi sh σ μ ld + sTh fl σ μ (sCm σ μ ld) 10 + sHm fl σ μ k)) + (nI (sTk fl σ μ (9 - k) 0))) = M10 at hP
        have hσM10 := mS_q hσN9 eM10 (by decide)
        have hsM10 := mSite_p hsN9 eM10 (Or.inl (by decide))
        have hcaM10 := mCache_c hcaN9 (gs_ne eM10 (by omega) rfl) (gs_ne eM10 (by omega) rfl) (fun a => ⟨gs_ne eM10 (by omega) rfl, gs_ne eM10 (by omega) rfl, gs_ne eM10 (by omega) rfl⟩)
        refine lv_iinc (v := 9 - nI (k + 1)) (lv' := [(4, .int (9 - nI (k + 1))), (0, .ref o), (1, .int (nI μ)), (2, .int (nI ld)), (3, .int (nI (sBa fl σ μ (sCm σ μ ld) 10)))]) X.1 X.2.1 dX12_goes_151 hl (k := 4) rfl (sb9_0 k) (by decide) rfl (fun ls hl => ?_)
        refine lv_goto (tgt := 129) X.1 X.2.1 dX12_goes_154 (by decide) ?_
        exact ih _ _ _ _ (by omega) ⟨τN9, μ, by omega, by omega, hcaM10, ((gs_same eM10)).trans (((gn_add (Eq.refl (nI (sFi sh σ μ ld + sTh fl σ μ (sCm σ μ ld) 10 + sHm fl σ μ k))) (Eq.refl (nI (sTk fl σ μ (9 - k) 0))))).trans (congrArg nI (by show _ = sFi sh σ μ ld + sTh fl σ μ (sCm σ μ ld) 10 + (sHm fl σ μ k + sTk fl σ μ (9 - k) 0); omega))), fun b i h => by unfold lS at h; exact (gs_ne eM10 (by omega) ((hkN9 _ _ (by unfold lS; omega)).trans (hQk b i (by unfold lS; omega)))), lv_sub hl [1, 2, 3, 4, 0] rfl⟩ hP hS
    · have n68 : k < 10 := gq_nle c68 (show (10 : Int32) = nI 10 from rfl) (Eq.refl (nI k)) (by omega) (by omega)
      have hk9 : k < 10 := gk_lt hk c68
      have b28 : σ (28 + k) ≤ 9 := by have h := hb.2.2.2.1 (20 + k) (by omega); rw [← Nat.add_assoc] at h; exact h
      have hls : sLs fl σ μ k (sBa fl σ μ (sCm σ μ ld) k) ≤ (sBa fl σ μ (sCm σ μ ld) k) := by unfold sLs; omega
      refine lv_aload_n X.1 X.2.1 dX12_goes_71 rfl (lv_at hl 0 rfl) ?_
      refine lv_dup X.1 X.2.1 dX12_goes_72 rfl ?_
      refine m_geti 21 X hK hP hM hin rfl (by decide) k187 rfl dX12_goes_73 (show N 0 21 = nI (sFi sh σ μ ld + sTh fl σ μ (sCm σ μ ld) k) from hN21) ?_
      refine lv_aload_n X.1 X.2.1 dX12_goes_76 rfl (lv_at hl 0 rfl) ?_
      refine lv_iload_n X.1 X.2.1 dX12_goes_77 rfl (lv_at hl 1 rfl) ?_
      refine lv_iload X.1 X.2.1 dX12_goes_78 (lv_at hl 4 rfl) ?_
      refine lv_iload_n X.1 X.2.1 dX12_goes_80 rfl (lv_at hl 3 rfl) ?_
      refine g_run_i (g_runV (k := 14) [.int (nI μ), .int (nI k), .int (nI (sBa fl σ μ (sCm σ μ ld) k))] X hK hP hS hC hB (c_takes hM hσN hsN hb hμ h38 (υ := k) (β := (sBa fl σ μ (sCm σ μ ld) k)) (by omega) (by omega) hcaN (by omega)) (cwV 3 X.2.2.2.2 gX12_goes_X12_takes rfl rfl rfl (by decide +kernel) ⟨Nat.le_of_ble_eq_true rfl, Nat.le_of_ble_eq_true rfl⟩) (hM.1 0 _ rfl) rfl rfl hl.1 rfl (Nat.le_of_ble_eq_true rfl) dX12_goes_81 (by exact ⟨Nat.zero_le _, Nat.zero_le _⟩)) hS (fun r u H locs hq hP hS => ?_)
      obtain ⟨rfl, τN11, hτaN11, hτbN11, hcaN11, hkN11⟩ := hq
      generalize u = N11 at hP hcaN11 hkN11
      have hP : gP D cy B z T (gI o 12 N11 I0) R H := hP
      have hσN11 : mS N11 σ := mS_c hσN (fun i => hkN11 1 i (by unfold lS; omega))
      have hsN11 : mSite N11 fl ti sh := mSite_c hsN (fun i _ _ => hkN11 1 i (by unfold lS; omega))
      refine lv_iadd X.1 X.2.1 dX12_goes_84 ?_
      refine m_puti 21 X hK hP hS hM hin rfl (by decide) k187 rfl rfl rfl rfl dX12_goes_85 (fun H locs hP hS => ?_)
      generalize eM12 : g2 N11 0 21 ((nI (sFi sh σ μ ld + sTh fl σ μ (sCm σ μ ld) k)) + (nI (sTk fl σ μ k (sBa fl σ μ (sCm σ μ ld) k)))) = M12 at hP
      have hσM12 := mS_q hσN11 eM12 (by decide)
      have hsM12 := mSite_p hsN11 eM12 (Or.inl (by decide))
      have hcaM12 := mCache_c hcaN11 (gs_ne eM12 (by omega) rfl) (gs_ne eM12 (by omega) rfl) (fun a => ⟨gs_ne eM12 (by omega) rfl, gs_ne eM12 (by omega) rfl, gs_ne eM12 (by omega) rfl⟩)
      refine lv_iload_n X.1 X.2.1 dX12_goes_88 rfl (lv_at hl 3 rfl) ?_
      refine lv_aload_n X.1 X.2.1 dX12_goes_89 rfl (lv_at hl 0 rfl) ?_
      refine lv_iload_n X.1 X.2.1 dX12_goes_90 rfl (lv_at hl 1 rfl) ?_
      refine lv_iload X.1 X.2.1 dX12_goes_91 (lv_at hl 4 rfl) ?_
      refine lv_iload_n X.1 X.2.1 dX12_goes_93 rfl (lv_at hl 3 rfl) ?_
      refine g_run_i (g_runV (k := 14) [.int (nI μ), .int (nI k), .int (nI (sBa fl σ μ (sCm σ μ ld) k))] X hK hP hS hC hB (c_lostIn hM hσM12 hsM12 hb hμ h38 (υ := k) (β := (sBa fl σ μ (sCm σ μ ld) k)) (by omega) (by omega) hcaM12 (by omega)) (cwV 3 X.2.2.2.2 gX12_goes_X12_lostIn rfl rfl rfl (by decide +kernel) ⟨Nat.le_of_ble_eq_true rfl, Nat.le_of_ble_eq_true rfl⟩) (hM.1 0 _ rfl) rfl rfl hl.1 rfl (Nat.le_of_ble_eq_true rfl) dX12_goes_94 (by exact ⟨Nat.zero_le _, Nat.zero_le _⟩)) hS (fun r u H locs hq hP hS => ?_)
      obtain ⟨rfl, τN13, hτaN13, hτbN13, hcaN13, hkN13⟩ := hq
      generalize u = N13 at hP hcaN13 hkN13
      have hP : gP D cy B z T (gI o 12 N13 I0) R H := hP
      have hσN13 : mS N13 σ := mS_c hσM12 (fun i => hkN13 1 i (by unfold lS; omega))
      have hsN13 : mSite N13 fl ti sh := mSite_c hsM12 (fun i _ _ => hkN13 1 i (by unfold lS; omega))
      refine lv_isub X.1 X.2.1 dX12_goes_97 ?_
      refine lv_istore_n (lv' := [(3, .int ((nI (sBa fl σ μ (sCm σ μ ld) k)) - (nI (sLs fl σ μ k (sBa fl σ μ (sCm σ μ ld) k))))), (0, .ref o), (1, .int (nI μ)), (2, .int (nI ld)), (4, .int (nI k))]) X.1 X.2.1 dX12_goes_98 rfl hl (by decide) rfl (fun ls hl => ?_)
      refine lv_iload_n X.1 X.2.1 dX12_goes_99 rfl (lv_at hl 0 rfl) ?_
      refine lv_aload_n X.1 X.2.1 dX12_goes_100 rfl (lv_at hl 1 rfl) ?_
      refine lv_iload_n X.1 X.2.1 dX12_goes_101 rfl (lv_at hl 2 rfl) ?_
      refine lv_iload X.1 X.2.1 dX12_goes_102 (lv_at hl 4 rfl) ?_
      refine g_run_i (g_runV (k := 14) [.int (nI μ), .int (nI k)] X hK hP hS hC hB (c_isNarrow hM hσN13 (μ := μ) (υ := k) (by omega) (by omega) (by omega) (by omega) (by omega)) (cwV 2 X.2.2.2.2 gX12_goes_X12_isNarrow rfl rfl rfl (by decide +kernel) ⟨Nat.le_of_ble_eq_true rfl, Nat.le_of_ble_eq_true rfl⟩) (hM.1 0 _ rfl) rfl rfl hl.1 rfl (Nat.le_of_ble_eq_true rfl) dX12_goes_104 (by exact ⟨Nat.zero_le _, Nat.zero_le _⟩)) hS (fun r u H locs hq hP hS => ?_)
      obtain ⟨rfl, rfl⟩ := hq
      have hP : gP D cy B z T (gI o 12 N13 I0) R H := hP
      refine lv_if_eq (tgt := 116) X.1 X.2.1 dX12_goes_107 (by decide) (fun c107 => ?_) (fun c107 => ?_)
      · refine lv_iconst (v := 0) X.1 X.2.1 dX12_goes_116 (by decide) ?_
        refine lv_isub X.1 X.2.1 dX12_goes_117 ?_
        refine lv_istore_n (lv' := [(3, .int (((nI (sBa fl σ μ (sCm σ μ ld) k)) - (nI (sLs fl σ μ k (sBa fl σ μ (sCm σ μ ld) k)))) - 0)), (0, .ref o), (1, .int (nI μ)), (2, .int (nI ld)), (4, .int (nI k))]) X.1 X.2.1 dX12_goes_118 rfl hl (by decide) rfl (fun ls hl => ?_)
        refine lv_iinc (v := nI (k + 1)) (lv' := [(4, .int (nI (k + 1))), (3, .int (((nI (sBa fl σ μ (sCm σ μ ld) k)) - (nI (sLs fl σ μ k (sBa fl σ μ (sCm σ μ ld) k)))) - 0)), (0, .ref o), (1, .int (nI μ)), (2, .int (nI ld))]) X.1 X.2.1 dX12_goes_119 hl (k := 4) rfl (gn_inc (Eq.refl (nI k)) 1) (by decide) rfl (fun ls hl => ?_)
        refine lv_goto (tgt := 64) X.1 X.2.1 dX12_goes_122 (by decide) ?_
        have hbv : ((nI (sBa fl σ μ (sCm σ μ ld) k)) - (nI (sLs fl σ μ k (sBa fl σ μ (sCm σ μ ld) k)))) - 0 = nI (sBa fl σ μ (sCm σ μ ld) (k + 1)) := (gn_sub (gn_sub (Eq.refl (nI (sBa fl σ μ (sCm σ μ ld) k))) (Eq.refl (nI (sLs fl σ μ k (sBa fl σ μ (sCm σ μ ld) k)))) (by omega)) (show (0 : Int32) = nI 0 from rfl) (by omega)).trans (congrArg nI (by show _ = sAf fl σ μ k (sBa fl σ μ (sCm σ μ ld) k); unfold sAf; rw [if_neg (gt_0 c107)]))
        have hl : lv_has ls 5 [(0, .ref o), (1, .int (nI μ)), (2, .int (nI ld)), (3, .int (nI (sBa fl σ μ (sCm σ μ ld) (k + 1)))), (4, .int (nI (k + 1)))] := by rw [← hbv]; exact lv_sub hl [2, 3, 4, 1, 0] rfl
        exact ih _ _ _ _ (by omega) ⟨τN13, μ, by omega, by omega, hcaN13, (((hkN13 0 21 (by unfold lS; omega)).trans (gs_same eM12))).trans (((gn_add (Eq.refl (nI (sFi sh σ μ ld + sTh fl σ μ (sCm σ μ ld) k))) (Eq.refl (nI (sTk fl σ μ k (sBa fl σ μ (sCm σ μ ld) k)))))).trans (congrArg nI (by show _ = sFi sh σ μ ld + (sTh fl σ μ (sCm σ μ ld) k + sTk fl σ μ k (sBa fl σ μ (sCm σ μ ld) k)); omega))), fun b i h => by unfold lS at h; exact ((hkN13 _ _ (by unfold lS; omega)).trans (gs_ne eM12 (by omega) ((hkN11 _ _ (by unfold lS; omega)).trans (hNk b i (by unfold lS; omega))))), hl⟩ hP hS
      · refine lv_iload_n X.1 X.2.1 dX12_goes_110 rfl (lv_at hl 0 rfl) ?_
        refine lv_iconst (v := 2) X.1 X.2.1 dX12_goes_111 (by decide) ?_
        refine lv_idiv X.1 X.2.1 dX12_goes_112 (by decide) ?_
        refine lv_goto (tgt := 117) X.1 X.2.1 dX12_goes_113 (by decide) ?_
        refine lv_isub X.1 X.2.1 dX12_goes_117 ?_
        refine lv_istore_n (lv' := [(3, .int (((nI (sBa fl σ μ (sCm σ μ ld) k)) - (nI (sLs fl σ μ k (sBa fl σ μ (sCm σ μ ld) k)))) - (((nI (sBa fl σ μ (sCm σ μ ld) k)) - (nI (sLs fl σ μ k (sBa fl σ μ (sCm σ μ ld) k)))) / 2))), (0, .ref o), (1, .int (nI μ)), (2, .int (nI ld)), (4, .int (nI k))]) X.1 X.2.1 dX12_goes_118 rfl hl (by decide) rfl (fun ls hl => ?_)
        refine lv_iinc (v := nI (k + 1)) (lv' := [(4, .int (nI (k + 1))), (3, .int (((nI (sBa fl σ μ (sCm σ μ ld) k)) - (nI (sLs fl σ μ k (sBa fl σ μ (sCm σ μ ld) k)))) - (((nI (sBa fl σ μ (sCm σ μ ld) k)) - (nI (sLs fl σ μ k (sBa fl σ μ (sCm σ μ ld) k)))) / 2))), (0, .ref o), (1, .int (nI μ)), (2, .int (nI ld))]) X.1 X.2.1 dX12_goes_119 hl (k := 4) rfl (gn_inc (Eq.refl (nI k)) 1) (by decide) rfl (fun ls hl => ?_)
        refine lv_goto (tgt := 64) X.1 X.2.1 dX12_goes_122 (by decide) ?_
        have hbv : ((nI (sBa fl σ μ (sCm σ μ ld) k)) - (nI (sLs fl σ μ k (sBa fl σ μ (sCm σ μ ld) k)))) - (((nI (sBa fl σ μ (sCm σ μ ld) k)) - (nI (sLs fl σ μ k (sBa fl σ μ (sCm σ μ ld) k)))) / 2) = nI (sBa fl σ μ (sCm σ μ ld) (k + 1)) := (gn_sub (gn_sub (Eq.refl (nI (sBa fl σ μ (sCm σ μ ld) k))) (Eq.refl (nI (sLs fl σ μ k (sBa fl σ μ (sCm σ μ ld) k)))) (by omega)) (gn_div (gn_sub (Eq.refl (nI (sBa fl σ μ (sCm σ μ ld) k))) (Eq.refl (nI (sLs fl σ μ k (sBa fl σ μ (sCm σ μ ld) k)))) (by omega)) (show (2 : Int32) = nI 2 from rfl) (by omega) (by omega) (by omega)) (by omega)).trans (congrArg nI (by show _ = sAf fl σ μ k (sBa fl σ μ (sCm σ μ ld) k); unfold sAf; rw [if_pos (gt_1 c107)]))
        have hl : lv_has ls 5 [(0, .ref o), (1, .int (nI μ)), (2, .int (nI ld)), (3, .int (nI (sBa fl σ μ (sCm σ μ ld) (k + 1)))), (4, .int (nI (k + 1)))] := by rw [← hbv]; exact lv_sub hl [2, 3, 4, 1, 0] rfl
        exact ih _ _ _ _ (by omega) ⟨τN13, μ, by omega, by omega, hcaN13, (((hkN13 0 21 (by unfold lS; omega)).trans (gs_same eM12))).trans (((gn_add (Eq.refl (nI (sFi sh σ μ ld + sTh fl σ μ (sCm σ μ ld) k))) (Eq.refl (nI (sTk fl σ μ k (sBa fl σ μ (sCm σ μ ld) k)))))).trans (congrArg nI (by show _ = sFi sh σ μ ld + (sTh fl σ μ (sCm σ μ ld) k + sTk fl σ μ k (sBa fl σ μ (sCm σ μ ld) k)); omega))), fun b i h => by unfold lS at h; exact ((hkN13 _ _ (by unfold lS; omega)).trans (gs_ne eM12 (by omega) ((hkN11 _ _ (by unfold lS; omega)).trans (hNk b i (by unfold lS; omega))))), hl⟩ hP hS
  refine lv_aload_n X.1 X.2.1 dX12_goes_0 rfl (lv_at hl 0 rfl) ?_
  refine lv_aload_n X.1 X.2.1 dX12_goes_1 rfl (lv_at hl 0 rfl) ?_
  refine lv_iload_n X.1 X.2.1 dX12_goes_2 rfl (lv_at hl 1 rfl) ?_
  refine lv_iload_n X.1 X.2.1 dX12_goes_3 rfl (lv_at hl 2 rfl) ?_
  refine g_run_i (g_runV (k := 14) [.int (nI μ), .int (nI ld)] X hK hP hS hC hB (c_comes hM hσ hb hμ hld) (cwV 2 X.2.2.2.2 gX12_goes_X12_comes rfl rfl rfl (by decide +kernel) ⟨Nat.le_of_ble_eq_true rfl, Nat.le_of_ble_eq_true rfl⟩) (hM.1 0 _ rfl) rfl rfl hl.1 rfl (Nat.le_of_ble_eq_true rfl) dX12_goes_4 (by exact ⟨Nat.zero_le _, Nat.zero_le _⟩)) hS (fun r u H locs hq hP hS => ?_)
  obtain ⟨rfl, rfl⟩ := hq
  have hP : gP D cy B z T (gI o 12 M I0) R H := hP
  refine m_puti 19 X hK hP hS hM hin rfl (by decide) k174 rfl rfl rfl rfl dX12_goes_7 (fun H locs hP hS => ?_)
  generalize eM14 : g2 M 0 19 (nI (sCm σ μ ld)) = M14 at hP
  have hσM14 := mS_q hσ eM14 (by decide)
  have hsM14 := mSite_p hs eM14 (Or.inl (by decide))
  have hcaM14 := mCache_c hca (gs_ne eM14 (by omega) rfl) (gs_ne eM14 (by omega) rfl) (fun a => ⟨gs_ne eM14 (by omega) rfl, gs_ne eM14 (by omega) rfl, gs_ne eM14 (by omega) rfl⟩)
  refine lv_aload_n X.1 X.2.1 dX12_goes_10 rfl (lv_at hl 0 rfl) ?_
  refine lv_aload_n X.1 X.2.1 dX12_goes_11 rfl (lv_at hl 0 rfl) ?_
  refine lv_iconst (v := 5) X.1 X.2.1 dX12_goes_12 (by decide) ?_
  refine g_run_i (g_runV (k := 14) [.int 5] X hK hP hS hC hB (c_told hM hσM14 hsM14 5) (cwV 1 X.2.2.2.2 gX12_goes_X12_told rfl rfl rfl (by decide +kernel) ⟨Nat.le_of_ble_eq_true rfl, Nat.le_of_ble_eq_true rfl⟩) (hM.1 0 _ rfl) rfl rfl hl.1 rfl (Nat.le_of_ble_eq_true rfl) dX12_goes_13 (by exact ⟨Nat.zero_le _, Nat.zero_le _⟩)) hS (fun r u H locs hq hP hS => ?_)
  obtain ⟨hr9, rfl⟩ := hq
  have hr9 : r = nI sh := hr9
  subst hr9
  have hP : gP D cy B z T (gI o 12 M14 I0) R H := hP
  refine lv_aload_n X.1 X.2.1 dX12_goes_16 rfl (lv_at hl 0 rfl) ?_
  refine m_geti 19 X hK hP hM hin rfl (by decide) k174 rfl dX12_goes_17 (show M14 0 19 = nI (sCm σ μ ld) from (gs_same eM14)) ?_
  refine lv_imul X.1 X.2.1 dX12_goes_20 ?_
  refine lv_aload_n X.1 X.2.1 dX12_goes_21 rfl (lv_at hl 0 rfl) ?_
  refine lv_iload_n X.1 X.2.1 dX12_goes_22 rfl (lv_at hl 1 rfl) ?_
  refine lv_iconst (v := 2) X.1 X.2.1 dX12_goes_23 (by decide) ?_
  refine lv_iconst (v := 5) X.1 X.2.1 dX12_goes_24 (by decide) ?_
  refine g_run_i (g_runV (k := 14) [.int (nI μ), .int 2, .int 5] X hK hP hS hC hB (c_isOf hM hσM14 (μ := μ) (k1 := 2) (k2 := 5) (by omega) (by omega) (by omega) (by omega)) (cwV 3 X.2.2.2.2 gX12_goes_X12_isOf rfl rfl rfl (by decide +kernel) ⟨Nat.le_of_ble_eq_true rfl, Nat.le_of_ble_eq_true rfl⟩) (hM.1 0 _ rfl) rfl rfl hl.1 rfl (Nat.le_of_ble_eq_true rfl) dX12_goes_25 (by exact ⟨Nat.zero_le _, Nat.zero_le _⟩)) hS (fun r u H locs hq hP hS => ?_)
  obtain ⟨rfl, rfl⟩ := hq
  have hP : gP D cy B z T (gI o 12 M14 I0) R H := hP
  refine lv_if_eq (tgt := 43) X.1 X.2.1 dX12_goes_28 (by decide) (fun c28 => ?_) (fun c28 => ?_)
  · refine lv_iconst (v := 0) X.1 X.2.1 dX12_goes_43 (by decide) ?_
    refine lv_iadd X.1 X.2.1 dX12_goes_44 ?_
    refine m_puti 20 X hK hP hS hM hin rfl (by decide) k184 rfl rfl rfl rfl dX12_goes_45 (fun H locs hP hS => ?_)
    generalize eM15 : g2 M14 0 20 (((nI sh) * (nI (sCm σ μ ld))) + 0) = M15 at hP
    refine lv_aload_n X.1 X.2.1 dX12_goes_48 rfl (lv_at hl 0 rfl) ?_
    refine lv_aload_n X.1 X.2.1 dX12_goes_49 rfl (lv_at hl 0 rfl) ?_
    refine m_geti 20 X hK hP hM hin rfl (by decide) k184 rfl dX12_goes_50 (show M15 0 20 = ((nI sh) * (nI (sCm σ μ ld))) + 0 from (gs_same eM15)) ?_
    refine m_puti 21 X hK hP hS hM hin rfl (by decide) k187 rfl rfl rfl rfl dX12_goes_53 (fun H locs hP hS => ?_)
    generalize eM16 : g2 M15 0 21 (((nI sh) * (nI (sCm σ μ ld))) + 0) = M16 at hP
    refine lv_aload_n X.1 X.2.1 dX12_goes_56 rfl (lv_at hl 0 rfl) ?_
    refine m_geti 19 X hK hP hM hin rfl (by decide) k174 rfl dX12_goes_57 (show M16 0 19 = nI (sCm σ μ ld) from (gs_ne eM16 (by omega) (gs_ne eM15 (by omega) (gs_same eM14)))) ?_
    refine lv_istore_n (lv' := [(3, .int (nI (sCm σ μ ld))), (0, .ref o), (1, .int (nI μ)), (2, .int (nI ld))]) X.1 X.2.1 dX12_goes_60 rfl hl (by decide) rfl (fun ls hl => ?_)
    refine lv_iconst (v := 0) X.1 X.2.1 dX12_goes_61 (by decide) ?_
    refine lv_istore (lv' := [(4, .int 0), (3, .int (nI (sCm σ μ ld))), (0, .ref o), (1, .int (nI μ)), (2, .int (nI ld))]) X.1 X.2.1 dX12_goes_62 hl (by decide) rfl (fun ls hl => ?_)
    have h21 : M16 0 21 = nI (sFi sh σ μ ld + sTh fl σ μ (sCm σ μ ld) 0) := ((gs_same eM16)).trans (((gn_add (gn_mul (Eq.refl (nI sh)) (Eq.refl (nI (sCm σ μ ld)))) (show (0 : Int32) = nI 0 from rfl))).trans (congrArg nI (by unfold sFi; rw [if_neg (gt_0 c28)]; rfl)))
    have h20 : M16 0 20 = nI (sFi sh σ μ ld) := ((gs_ne eM16 (by omega) (gs_same eM15))).trans (((gn_add (gn_mul (Eq.refl (nI sh)) (Eq.refl (nI (sCm σ μ ld)))) (show (0 : Int32) = nI 0 from rfl))).trans (congrArg nI (by unfold sFi; rw [if_neg (gt_0 c28)])))
    have h19 : M16 0 19 = nI (sCm σ μ ld) := (gs_ne eM16 (by omega) (gs_ne eM15 (by omega) (gs_same eM14)))
    have hkp : ∀ b i, ¬ (b = 0 ∧ (i = 19 ∨ i = 20 ∨ i = 21)) → M16 b i = M b i := fun b i h => (gs_ne eM16 (by omega) (gs_ne eM15 (by omega) (gs_ne eM14 (by omega) rfl)))
    have hσ0 : mS M16 σ := mS_c hσ (fun i => hkp 1 i (by omega))
    have hs0 : mSite M16 fl ti sh := mSite_c hs (fun i _ _ => hkp 1 i (by omega))
    have hca0 : mCache M16 fl σ τ ms := mCache_c hca (hkp 0 17 (by omega)) (hkp 0 18 (by omega)) (fun a => ⟨hkp 6 a (by omega), hkp 7 a (by omega), hkp 8 a (by omega)⟩)
    have hl : lv_has ls 5 [(0, .ref o), (1, .int (nI μ)), (2, .int (nI ld)), (3, .int (nI (sBa fl σ μ (sCm σ μ ld) 0))), (4, .int (nI 0))] := lv_sub hl [2, 3, 4, 1, 0] rfl
    exact hloop M16 _ _ _ h21 h20 h19 hkp hσ0 hs0 hca0 hP hS hl
  · refine lv_aload_n X.1 X.2.1 dX12_goes_31 rfl (lv_at hl 0 rfl) ?_
    refine m_getr 1 1 X hK hP hM hin rfl (by decide) k9 rfl dX12_goes_32 (by decide) ?_
    refine lv_bipush (v := 48) X.1 X.2.1 dX12_goes_35 (by decide) ?_
    refine lv_iload_n X.1 X.2.1 dX12_goes_37 rfl (lv_at hl 1 rfl) ?_
    refine lv_iadd X.1 X.2.1 dX12_goes_38 ?_
    refine m_ald 1 (48 + μ) 883 X hK hP hM rfl (gIx_of (gn_add (show (48 : Int32) = nI 48 from rfl) (Eq.refl (nI μ))) (by omega) (by omega)) dX12_goes_39 (show M14 1 (48 + μ) = nI (σ (48 + μ)) from (gs_ne eM14 (by omega) (hσ (48 + μ) (by omega) (by omega)))) ?_
    refine lv_goto (tgt := 44) X.1 X.2.1 dX12_goes_40 (by decide) ?_
    refine lv_iadd X.1 X.2.1 dX12_goes_44 ?_
    refine m_puti 20 X hK hP hS hM hin rfl (by decide) k184 rfl rfl rfl rfl dX12_goes_45 (fun H locs hP hS => ?_)
    generalize eM17 : g2 M14 0 20 (((nI sh) * (nI (sCm σ μ ld))) + (nI (σ (48 + μ)))) = M17 at hP
    refine lv_aload_n X.1 X.2.1 dX12_goes_48 rfl (lv_at hl 0 rfl) ?_
    refine lv_aload_n X.1 X.2.1 dX12_goes_49 rfl (lv_at hl 0 rfl) ?_
    refine m_geti 20 X hK hP hM hin rfl (by decide) k184 rfl dX12_goes_50 (show M17 0 20 = ((nI sh) * (nI (sCm σ μ ld))) + (nI (σ (48 + μ))) from (gs_same eM17)) ?_
    refine m_puti 21 X hK hP hS hM hin rfl (by decide) k187 rfl rfl rfl rfl dX12_goes_53 (fun H locs hP hS => ?_)
    generalize eM18 : g2 M17 0 21 (((nI sh) * (nI (sCm σ μ ld))) + (nI (σ (48 + μ)))) = M18 at hP
    refine lv_aload_n X.1 X.2.1 dX12_goes_56 rfl (lv_at hl 0 rfl) ?_
    refine m_geti 19 X hK hP hM hin rfl (by decide) k174 rfl dX12_goes_57 (show M18 0 19 = nI (sCm σ μ ld) from (gs_ne eM18 (by omega) (gs_ne eM17 (by omega) (gs_same eM14)))) ?_
    refine lv_istore_n (lv' := [(3, .int (nI (sCm σ μ ld))), (0, .ref o), (1, .int (nI μ)), (2, .int (nI ld))]) X.1 X.2.1 dX12_goes_60 rfl hl (by decide) rfl (fun ls hl => ?_)
    refine lv_iconst (v := 0) X.1 X.2.1 dX12_goes_61 (by decide) ?_
    refine lv_istore (lv' := [(4, .int 0), (3, .int (nI (sCm σ μ ld))), (0, .ref o), (1, .int (nI μ)), (2, .int (nI ld))]) X.1 X.2.1 dX12_goes_62 hl (by decide) rfl (fun ls hl => ?_)
    have h21 : M18 0 21 = nI (sFi sh σ μ ld + sTh fl σ μ (sCm σ μ ld) 0) := ((gs_same eM18)).trans (((gn_add (gn_mul (Eq.refl (nI sh)) (Eq.refl (nI (sCm σ μ ld)))) (Eq.refl (nI (σ (48 + μ)))))).trans (congrArg nI (by unfold sFi; rw [if_pos (gt_1 c28)]; rfl)))
    have h20 : M18 0 20 = nI (sFi sh σ μ ld) := ((gs_ne eM18 (by omega) (gs_same eM17))).trans (((gn_add (gn_mul (Eq.refl (nI sh)) (Eq.refl (nI (sCm σ μ ld)))) (Eq.refl (nI (σ (48 + μ)))))).trans (congrArg nI (by unfold sFi; rw [if_pos (gt_1 c28)])))
    have h19 : M18 0 19 = nI (sCm σ μ ld) := (gs_ne eM18 (by omega) (gs_ne eM17 (by omega) (gs_same eM14)))
    have hkp : ∀ b i, ¬ (b = 0 ∧ (i = 19 ∨ i = 20 ∨ i = 21)) → M18 b i = M b i := fun b i h => (gs_ne eM18 (by omega) (gs_ne eM17 (by omega) (gs_ne eM14 (by omega) rfl)))
    have hσ0 : mS M18 σ := mS_c hσ (fun i => hkp 1 i (by omega))
    have hs0 : mSite M18 fl ti sh := mSite_c hs (fun i _ _ => hkp 1 i (by omega))
    have hca0 : mCache M18 fl σ τ ms := mCache_c hca (hkp 0 17 (by omega)) (hkp 0 18 (by omega)) (fun a => ⟨hkp 6 a (by omega), hkp 7 a (by omega), hkp 8 a (by omega)⟩)
    have hl : lv_has ls 5 [(0, .ref o), (1, .int (nI μ)), (2, .int (nI ld)), (3, .int (nI (sBa fl σ μ (sCm σ μ ld) 0))), (4, .int (nI 0))] := lv_sub hl [2, 3, 4, 1, 0] rfl
    exact hloop M18 _ _ _ h21 h20 h19 hkp hσ0 hs0 hca0 hP hS hl

end MI
