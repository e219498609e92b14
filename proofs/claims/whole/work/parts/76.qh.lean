section QH
variable {l : Launch} {s0 : State} {D : va_G} {cy : Nat → ClassId} {B z : Nat} {T : Nat → Nat × Nat} {I : Nat → Nat → Int32} {R : Nat → Nat → Option Nat} {q nw kp tr : Nat} {σ : Nat → Nat} {K ti sh : Nat} {fl : List Nat}
/-- the TAPE -/
def sTp (σ : Nat → Nat) : Nat → Nat := fun k => if k < 100 then σ (68 + k) else 0
theorem sTp_le (hb : sBd σ K) (k : Nat) : sTp σ k ≤ 127 := by
  unfold sTp
  split
  · rename_i h
    exact hb.2.2.2.2.2.2.2.2.2.2 k h
  · omega
theorem sTp_at {k : Nat} (h : k < 100) : sTp σ k = σ (68 + k) := if_pos h
theorem cWk.ne {w : Nat} {T' : Nat → Nat × Nat} {R' : Nat → Nat → Option Nat} {rd : Nat} (h : cWk w T R) (hz : w + 15 ≤ z) (hr : rd < w ∨ w + 15 ≤ rd) (hT : ∀ c, c < z → T' c = T c) (hR : ∀ c j, c < z → c ≠ rd → R' c j = R c j) : cWk w T' R' :=
  ⟨fun k t hk => (hT _ (by have h9 := (List.getElem?_eq_some_iff.mp hk).1; have h8 : wTl.length = 15 := rfl; omega)).trans (h.1 k t hk), fun k x hk => (hR _ _ (by have h8 := wR_lt hk; omega) (by have h8 := wR_lt hk; omega)).trans (h.2 k x hk)⟩
set_option maxHeartbeats 4000000 in
set_option maxRecDepth 100000 in
/-- t_site_f -/
theorem t_site_f (hTp : cTop q nw kp tr T R) (hNw : cNw q nw T I R σ fl ti sh) (hG : sGd fl ti sh) (hb : sBd σ K) (h5 : σ 39 = 5) : Met l yX11_site wsX11_site ({ frames := 0, cells := 0, slots := 0, locals := 0 }) (va_Pc [.ref q] (gW0 s0 D cy B (z, T, I, R))) (va_Qi (fun r u => r = -4 ∧ (z, T, I, R) = u) (fun u t => gW1 D cy B u t) (gA B)) 0 0 (gA B) := by
  refine g_met (maxL := 2) (ret := (some .int)) (by decide) rfl (Nat.le_of_ble_eq_true rfl) (fun p e s m args below meth c ls X hr hlk hnm hK hP hC hS hl => ?_)
  have hl : lv_has ls 2 [(0, .ref q)] := hl
  have hP : gP D cy B z T I R s.heap := hP
  have hB : B ≤ s.heap.size := by rw [hP.1]; exact hP.2.1
  have hinRX10 : ∀ w ∈ wsX100, w ∈ wsX11_site := fun _ h => List.mem_cons_of_mem _ (List.mem_append_left _ (List.mem_append_left _ (List.mem_append_left _ (List.mem_append_right _ h))))
  have hinRX11 : ∀ w ∈ wsX110, w ∈ wsX11_site := fun _ h => List.mem_cons_of_mem _ (List.mem_append_left _ (List.mem_append_left _ (List.mem_append_left _ (List.mem_append_left _ (List.mem_append_right _ h)))))
  have k17 : Cond.fieldLink RX11 17 "BarrowPlank" "now" "LBarrowPlank$Works;" ∈ wsX11_site := by decide +kernel
  have k32 : Cond.fieldLink RX11 32 "BarrowPlank" "reader" "LBarrowPlank$SiteReader;" ∈ wsX11_site := by decide +kernel
  have k51 : Cond.fieldLink RX11 51 "BarrowPlank$Works" "signs" "I" ∈ wsX11_site := by decide +kernel
  have k55 : Cond.fieldLink RX11 55 "BarrowPlank$Works" "tape" "[C" ∈ wsX11_site := by decide +kernel
  have k59 : Cond.fieldLink RX11 59 "BarrowPlank$Works" "sites" "I" ∈ wsX11_site := by decide +kernel
  have k66 : Cond.fieldLink RX11 66 "BarrowPlank$SiteReader" "place" "I" ∈ wsX11_site := by decide +kernel
  have hTp0 := hTp
  have hNw0 := hNw
  obtain ⟨hnw, hkp, htr, hTq, hR0, hR1, hR2, hR3, hR4, hN, hKp, hTr, hTrd, hTl⟩ := hTp
  obtain ⟨hA, hBb, hmen, hme, a, hsR, hst, hsi, hfa⟩ := hNw
  have h38 := hb.2.2.2.2.1
  have h0 := hb.1
  refine lv_aload_n X.1 X.2.1 dX11_site_0 rfl (lv_at hl 0 rfl) ?_
  refine g_getr 13 0 X hK hP hTq rfl hinRX11 rfl (by decide) k17 (fun _ h => h) dX11_site_1 (show va_rf (R q 0) = .ref nw from by rw [hR0]; rfl) ?_
  refine g_geti 12 13 X hK hP hN.t0 rfl hinRX10 rfl (by decide) k59 (fun _ h => h) dX11_site_4 (show I nw 13 = nI (σ 39) from hA.2.2.2.2.2.2.2) ?_
  refine lv_iconst (v := 5) X.1 X.2.1 dX11_site_7 (by decide) ?_
  refine lv_icmp_lt (tgt := 14) X.1 X.2.1 dX11_site_8 (by decide) (fun c8 => ?_) (fun c8 => ?_)
  · exact absurd (gq_lt c8 (Eq.refl (nI (σ 39))) (show (5 : Int32) = nI 5 from rfl) (by omega) (by omega)) (by omega)
  · have n8 : 5 ≤ (σ 39) := gq_nlt c8 (Eq.refl (nI (σ 39))) (show (5 : Int32) = nI 5 from rfl) (by omega) (by omega)
    refine lv_bipush (v := (-4)) X.1 X.2.1 dX11_site_11 (by decide) ?_
    exact g_iret (f := fun u => u) (z, T, I, R) X hr hlk hK hP hS dX11_site_13 ⟨rfl, rfl⟩

set_option maxHeartbeats 4000000 in
set_option maxRecDepth 100000 in
/-- t_site_x -/
theorem t_site_x (hTp : cTop q nw kp tr T R) (hNw : cNw q nw T I R σ fl ti sh) (hG : sGd fl ti sh) (hb : sBd σ K) (hstr : gStr s0 B) (hNst : gNst s0) (hzq : q + 65 ≤ z) {aa : Nat} (haa : σ 39 = aa) (ha5 : aa < 5) (hok : ¬ pOk (sTp σ) (σ 41)) : Met l yX11_site wsX11_site ({ frames := 21, cells := 5, slots := 138, locals := 467 }) (va_Pc [.ref q] (gW0 s0 D cy B (z, T, I, R))) (va_Qi (fun r u => r = -10 - nI (pSite (sTp σ) (σ 41)).1.2.1 ∧ ∃ T' I' R', u = (z + 5, T', g2 I' nw 6 0, R') ∧ ((∀ c, c < z → T' c = T c) ∧ (∀ c j, c < z → c ≠ q + 51 → I' c j = I c j) ∧ ∀ c j, c < z → c ≠ q + 51 → R' c j = R c j)) (fun u t => gW1 D cy B u t) (gA B)) 5 138 (gA B) := by
  refine g_met (maxL := 2) (ret := (some .int)) (by decide) rfl (Nat.le_of_ble_eq_true rfl) (fun p e s m args below meth c ls X hr hlk hnm hK hP hC hS hl => ?_)
  have hl : lv_has ls 2 [(0, .ref q)] := hl
  have hP : gP D cy B z T I R s.heap := hP
  have hB : B ≤ s.heap.size := by rw [hP.1]; exact hP.2.1
  have hinRX10 : ∀ w ∈ wsX100, w ∈ wsX11_site := fun _ h => List.mem_cons_of_mem _ (List.mem_append_left _ (List.mem_append_left _ (List.mem_append_left _ (List.mem_append_right _ h))))
  have hinRX11 : ∀ w ∈ wsX110, w ∈ wsX11_site := fun _ h => List.mem_cons_of_mem _ (List.mem_append_left _ (List.mem_append_left _ (List.mem_append_left _ (List.mem_append_left _ (List.mem_append_right _ h)))))
  have hinRX5 : ∀ w ∈ wsX50, w ∈ wsX11_site := fun _ h => List.mem_cons_of_mem _ (List.mem_append_left _ (List.mem_append_left _ (List.mem_append_right _ h)))
  have k17 : Cond.fieldLink RX11 17 "BarrowPlank" "now" "LBarrowPlank$Works;" ∈ wsX11_site := by decide +kernel
  have k32 : Cond.fieldLink RX11 32 "BarrowPlank" "reader" "LBarrowPlank$SiteReader;" ∈ wsX11_site := by decide +kernel
  have k51 : Cond.fieldLink RX11 51 "BarrowPlank$Works" "signs" "I" ∈ wsX11_site := by decide +kernel
  have k55 : Cond.fieldLink RX11 55 "BarrowPlank$Works" "tape" "[C" ∈ wsX11_site := by decide +kernel
  have k59 : Cond.fieldLink RX11 59 "BarrowPlank$Works" "sites" "I" ∈ wsX11_site := by decide +kernel
  have k66 : Cond.fieldLink RX11 66 "BarrowPlank$SiteReader" "place" "I" ∈ wsX11_site := by decide +kernel
  have hTp0 := hTp
  have hNw0 := hNw
  obtain ⟨hnw, hkp, htr, hTq, hR0, hR1, hR2, hR3, hR4, hN, hKp, hTr, hTrd, hTl⟩ := hTp
  obtain ⟨hA, hBb, hmen, hme, a, hsR, hst, hsi, hfa⟩ := hNw
  have h38 := hb.2.2.2.2.1
  have h0 := hb.1
  have h41 := hb.2.2.2.2.2.2.2.1
  refine lv_aload_n X.1 X.2.1 dX11_site_0 rfl (lv_at hl 0 rfl) ?_
  refine g_getr 13 0 X hK hP hTq rfl hinRX11 rfl (by decide) k17 (fun _ h => h) dX11_site_1 (show va_rf (R q 0) = .ref nw from by rw [hR0]; rfl) ?_
  refine g_geti 12 13 X hK hP hN.t0 rfl hinRX10 rfl (by decide) k59 (fun _ h => h) dX11_site_4 (show I nw 13 = nI aa from (hA.2.2.2.2.2.2.2.trans (congrArg nI haa))) ?_
  refine lv_iconst (v := 5) X.1 X.2.1 dX11_site_7 (by decide) ?_
  refine lv_icmp_lt (tgt := 14) X.1 X.2.1 dX11_site_8 (by decide) (fun c8 => ?_) (fun c8 => ?_)
  · have n8 : aa < 5 := gq_lt c8 (Eq.refl (nI aa)) (show (5 : Int32) = nI 5 from rfl) (by omega) (by omega)
    refine lv_aload_n X.1 X.2.1 dX11_site_14 rfl (lv_at hl 0 rfl) ?_
    refine g_getr 13 3 X hK hP hTq rfl hinRX11 rfl (by decide) k32 (fun _ h => h) dX11_site_15 (show va_rf (R q 3) = .ref (q + 51) from by rw [hR3]; rfl) ?_
    refine lv_aload_n X.1 X.2.1 dX11_site_18 rfl (lv_at hl 0 rfl) ?_
    refine g_getr 13 0 X hK hP hTq rfl hinRX11 rfl (by decide) k17 (fun _ h => h) dX11_site_19 (show va_rf (R q 0) = .ref nw from by rw [hR0]; rfl) ?_
    refine g_getr 12 3 X hK hP hN.t0 rfl hinRX10 rfl (by decide) k55 (fun _ h => h) dX11_site_22 (show va_rf (R nw 3) = .ref (nw + 7) from by rw [(show R nw 3 = some (nw + 7) from hN.r 3 rfl)]; rfl) ?_
    refine lv_aload_n X.1 X.2.1 dX11_site_25 rfl (lv_at hl 0 rfl) ?_
    refine g_getr 13 0 X hK hP hTq rfl hinRX11 rfl (by decide) k17 (fun _ h => h) dX11_site_26 (show va_rf (R q 0) = .ref nw from by rw [hR0]; rfl) ?_
    refine g_geti 12 6 X hK hP hN.t0 rfl hinRX10 rfl (by decide) k51 (fun _ h => h) dX11_site_29 (show I nw 6 = nI (σ 41) from hBb.1) ?_
    refine g_run_q (f := fun u => u) (g_runV (k := 7) [.ref (nw + 7), .int (nI (σ 41))] X hK hP hS hC hB (o_read (rd := q + 51) (tc := nw + 7) (tp := sTp σ) hstr hNst hTrd (hN.t 7 rfl) (by omega) (sTp_le hb) (fun k hk => (hBb.2.2.1 k hk).trans (congrArg nI (sTp_at hk).symm))) (cwV 2 X.2.2.2.2 gX11_site_X5_read rfl rfl rfl (by decide +kernel) ⟨Nat.le_of_ble_eq_true rfl, Nat.le_of_ble_eq_true rfl⟩) hTrd rfl rfl hl.1 rfl (Nat.le_of_ble_eq_true rfl) dX11_site_32 ⟨Nat.le_of_ble_eq_true rfl, Nat.le_of_ble_eq_true rfl⟩) hS (fun r u H locs hq hP hS => ?_)
    obtain ⟨T9, I9, R9, rfl, ⟨hfT, hfI, hfR⟩, hpl9, hq⟩ := hq
    have hP : gP D cy B (z + 5) T9 I9 R9 H := hP
    have hTq := (hfT q (by omega)).trans hTq
    have hR0 := (hfR q 0 (by omega) (by omega)).trans hR0
    have hR3 := (hfR q 3 (by omega) (by omega)).trans hR3
    have hTrd := (hfT (q + 51) (by omega)).trans hTrd
    have hN : cWk nw T9 R9 := hN.ne (by omega) (by omega) hfT hfR
    have h39 : I9 nw 13 = nI aa := (hfI nw 13 (by omega) (by omega)).trans (hA.2.2.2.2.2.2.2.trans (congrArg nI haa))
    obtain rfl : r = none := by rcases hq with ⟨-, h2, -⟩ | ⟨h1, -⟩; (· exact absurd h2 hok); exact h1
    refine lv_astore_nN (lv' := [(1, .null), (0, .ref q)]) X.1 X.2.1 dX11_site_35 rfl hl (by decide) rfl (fun ls hl => ?_)
    refine lv_aload_n X.1 X.2.1 dX11_site_36 rfl (lv_at hl 1 rfl) ?_
    refine g_getr 13 0 X hK hP hTq rfl hinRX11 rfl (by decide) k17 (fun _ h => h) dX11_site_37 (show va_rf (R9 q 0) = .ref nw from by rw [hR0]; rfl) ?_
    refine lv_iconst (v := 0) X.1 X.2.1 dX11_site_40 (by decide) ?_
    refine g_puti 12 6 X hK hP hS hN.t0 rfl hinRX10 tyX10 tyX10_ok nmX10 rfl (by decide) k51 (fun _ h => h) rfl rfl rfl dX11_site_41 (fun H locs hP hS => ?_)
    generalize eI1 : g2 I9 nw 6 0 = I1 at hP
    refine lv_aload_nN X.1 X.2.1 dX11_site_44 rfl (lv_at hl 0 rfl) ?_
    refine lv_ifnonnullN X.1 X.2.1 dX11_site_45 ?_
    refine lv_bipush (v := (-10)) X.1 X.2.1 dX11_site_48 (by decide) ?_
    refine lv_aload_n X.1 X.2.1 dX11_site_50 rfl (lv_at hl 1 rfl) ?_
    refine g_getr 13 3 X hK hP hTq rfl hinRX11 rfl (by decide) k32 (fun _ h => h) dX11_site_51 (show va_rf (R9 q 3) = .ref (q + 51) from by rw [hR3]; rfl) ?_
    refine g_geti 7 0 X hK hP hTrd rfl hinRX5 rfl (by decide) k66 (fun _ h => h) dX11_site_54 (show I1 (q + 51) 0 = nI ((pSite (sTp σ) (σ 41)).1.2.1) from (gs_ne eI1 (by omega) hpl9)) ?_
    refine lv_isub X.1 X.2.1 dX11_site_57 ?_
    exact g_iret (f := fun u => u) (z + 5, T9, I1, R9) X hr hlk hK hP hS dX11_site_58 ⟨rfl, T9, I9, R9, (by rw [eI1]), ⟨hfT, hfI, hfR⟩⟩
  · exact absurd (nI_lt ha5 (by omega)) c8

theorem wR_12 {nw : Nat} {x : Nat × Nat × Nat} (h : x ∈ wRl) : ¬ (nw + x.1 = nw ∧ x.2.1 = 12) := fun g => by
  have h1 : ∀ x ∈ wRl, ¬ (x.1 = 0 ∧ x.2.1 = 12) := by decide
  exact h1 x h ⟨by omega, g.2⟩
set_option maxHeartbeats 4000000 in
set_option maxRecDepth 100000 in
/-- t_site_y -/
theorem t_site_y (hTp : cTop q nw kp tr T R) (hNw : cNw q nw T I R σ fl ti sh) (hG : sGd fl ti sh) (hb : sBd σ K) (hstr : gStr s0 B) (hNst : gNst s0) (hzq : q + 65 ≤ z) {aa : Nat} (haa : σ 39 = aa) (ha5 : aa < 5) (hok : pOk (sTp σ) (σ 41)) : Met l yX11_site wsX11_site ({ frames := 21, cells := 5, slots := 138, locals := 467 }) (va_Pc [.ref q] (gW0 s0 D cy B (z, T, I, R))) (va_Qi (fun r u => r = nI aa ∧ ∃ T' I' R', u = (z + 5, T', iFg nw (g2 (g2 I' nw 6 0) nw 13 (nI aa + 1)) 4, g2 R' nw 12 (some z)) ∧ ((∀ c, c < z → T' c = T c) ∧ (∀ c j, c < z → c ≠ q + 51 → I' c j = I c j) ∧ ∀ c j, c < z → c ≠ q + 51 → R' c j = R c j) ∧ ∃ cs', flC cs' = (pSite (sTp σ) (σ 41)).1.2.2 ∧ cSt z T' R' ∧ cSr z I' cs' [] ∧ I' z 0 = nI (pSite (sTp σ) (σ 41)).2.1 ∧ I' z 1 = nI (pSite (sTp σ) (σ 41)).2.2) (fun u t => gW1 D cy B u t) (gA B)) 5 138 (gA B) := by
  refine g_met (maxL := 2) (ret := (some .int)) (by decide) rfl (Nat.le_of_ble_eq_true rfl) (fun p e s m args below meth c ls X hr hlk hnm hK hP hC hS hl => ?_)
  have hl : lv_has ls 2 [(0, .ref q)] := hl
  have hP : gP D cy B z T I R s.heap := hP
  have hB : B ≤ s.heap.size := by rw [hP.1]; exact hP.2.1
  have hinRX10 : ∀ w ∈ wsX100, w ∈ wsX11_site := fun _ h => List.mem_cons_of_mem _ (List.mem_append_left _ (List.mem_append_left _ (List.mem_append_left _ (List.mem_append_right _ h))))
  have hinRX11 : ∀ w ∈ wsX110, w ∈ wsX11_site := fun _ h => List.mem_cons_of_mem _ (List.mem_append_left _ (List.mem_append_left _ (List.mem_append_left _ (List.mem_append_left _ (List.mem_append_right _ h)))))
  have k17 : Cond.fieldLink RX11 17 "BarrowPlank" "now" "LBarrowPlank$Works;" ∈ wsX11_site := by decide +kernel
  have k32 : Cond.fieldLink RX11 32 "BarrowPlank" "reader" "LBarrowPlank$SiteReader;" ∈ wsX11_site := by decide +kernel
  have k51 : Cond.fieldLink RX11 51 "BarrowPlank$Works" "signs" "I" ∈ wsX11_site := by decide +kernel
  have k55 : Cond.fieldLink RX11 55 "BarrowPlank$Works" "tape" "[C" ∈ wsX11_site := by decide +kernel
  have k59 : Cond.fieldLink RX11 59 "BarrowPlank$Works" "sites" "I" ∈ wsX11_site := by decide +kernel
  have k66 : Cond.fieldLink RX11 66 "BarrowPlank$SiteReader" "place" "I" ∈ wsX11_site := by decide +kernel
  have hTp0 := hTp
  have hNw0 := hNw
  obtain ⟨hnw, hkp, htr, hTq, hR0, hR1, hR2, hR3, hR4, hN, hKp, hTr, hTrd, hTl⟩ := hTp
  obtain ⟨hA, hBb, hmen, hme, a, hsR, hst, hsi, hfa⟩ := hNw
  have h38 := hb.2.2.2.2.1
  have h0 := hb.1
  have h41 := hb.2.2.2.2.2.2.2.1
  refine lv_aload_n X.1 X.2.1 dX11_site_0 rfl (lv_at hl 0 rfl) ?_
  refine g_getr 13 0 X hK hP hTq rfl hinRX11 rfl (by decide) k17 (fun _ h => h) dX11_site_1 (show va_rf (R q 0) = .ref nw from by rw [hR0]; rfl) ?_
  refine g_geti 12 13 X hK hP hN.t0 rfl hinRX10 rfl (by decide) k59 (fun _ h => h) dX11_site_4 (show I nw 13 = nI aa from (hA.2.2.2.2.2.2.2.trans (congrArg nI haa))) ?_
  refine lv_iconst (v := 5) X.1 X.2.1 dX11_site_7 (by decide) ?_
  refine lv_icmp_lt (tgt := 14) X.1 X.2.1 dX11_site_8 (by decide) (fun c8 => ?_) (fun c8 => ?_)
  · have n8 : aa < 5 := gq_lt c8 (Eq.refl (nI aa)) (show (5 : Int32) = nI 5 from rfl) (by omega) (by omega)
    refine lv_aload_n X.1 X.2.1 dX11_site_14 rfl (lv_at hl 0 rfl) ?_
    refine g_getr 13 3 X hK hP hTq rfl hinRX11 rfl (by decide) k32 (fun _ h => h) dX11_site_15 (show va_rf (R q 3) = .ref (q + 51) from by rw [hR3]; rfl) ?_
    refine lv_aload_n X.1 X.2.1 dX11_site_18 rfl (lv_at hl 0 rfl) ?_
    refine g_getr 13 0 X hK hP hTq rfl hinRX11 rfl (by decide) k17 (fun _ h => h) dX11_site_19 (show va_rf (R q 0) = .ref nw from by rw [hR0]; rfl) ?_
    refine g_getr 12 3 X hK hP hN.t0 rfl hinRX10 rfl (by decide) k55 (fun _ h => h) dX11_site_22 (show va_rf (R nw 3) = .ref (nw + 7) from by rw [(show R nw 3 = some (nw + 7) from hN.r 3 rfl)]; rfl) ?_
    refine lv_aload_n X.1 X.2.1 dX11_site_25 rfl (lv_at hl 0 rfl) ?_
    refine g_getr 13 0 X hK hP hTq rfl hinRX11 rfl (by decide) k17 (fun _ h => h) dX11_site_26 (show va_rf (R q 0) = .ref nw from by rw [hR0]; rfl) ?_
    refine g_geti 12 6 X hK hP hN.t0 rfl hinRX10 rfl (by decide) k51 (fun _ h => h) dX11_site_29 (show I nw 6 = nI (σ 41) from hBb.1) ?_
    refine g_run_q (f := fun u => u) (g_runV (k := 7) [.ref (nw + 7), .int (nI (σ 41))] X hK hP hS hC hB (o_read (rd := q + 51) (tc := nw + 7) (tp := sTp σ) hstr hNst hTrd (hN.t 7 rfl) (by omega) (sTp_le hb) (fun k hk => (hBb.2.2.1 k hk).trans (congrArg nI (sTp_at hk).symm))) (cwV 2 X.2.2.2.2 gX11_site_X5_read rfl rfl rfl (by decide +kernel) ⟨Nat.le_of_ble_eq_true rfl, Nat.le_of_ble_eq_true rfl⟩) hTrd rfl rfl hl.1 rfl (Nat.le_of_ble_eq_true rfl) dX11_site_32 ⟨Nat.le_of_ble_eq_true rfl, Nat.le_of_ble_eq_true rfl⟩) hS (fun r u H locs hq hP hS => ?_)
    obtain ⟨T9, I9, R9, rfl, ⟨hfT, hfI, hfR⟩, hpl9, hq⟩ := hq
    have hP : gP D cy B (z + 5) T9 I9 R9 H := hP
    have hTq := (hfT q (by omega)).trans hTq
    have hR0 := (hfR q 0 (by omega) (by omega)).trans hR0
    have hR3 := (hfR q 3 (by omega) (by omega)).trans hR3
    have hTrd := (hfT (q + 51) (by omega)).trans hTrd
    have hN : cWk nw T9 R9 := hN.ne (by omega) (by omega) hfT hfR
    have h39 : I9 nw 13 = nI aa := (hfI nw 13 (by omega) (by omega)).trans (hA.2.2.2.2.2.2.2.trans (congrArg nI haa))
    obtain ⟨rfl, cs9, hcs9, hst9, hsr9, hy8, hy9⟩ : r = some z ∧ ∃ cs', flC cs' = (pSite (sTp σ) (σ 41)).1.2.2 ∧ cSt z T9 R9 ∧ cSr z I9 cs' [] ∧ I9 z 0 = nI (pSite (sTp σ) (σ 41)).2.1 ∧ I9 z 1 = nI (pSite (sTp σ) (σ 41)).2.2 := by rcases hq with ⟨h1, -, h2⟩ | ⟨-, h2⟩; (· exact ⟨h1, h2⟩); exact absurd hok h2
    refine lv_astore_n (lv' := [(1, .ref z), (0, .ref q)]) X.1 X.2.1 dX11_site_35 rfl hl (by decide) rfl (fun ls hl => ?_)
    refine lv_aload_n X.1 X.2.1 dX11_site_36 rfl (lv_at hl 1 rfl) ?_
    refine g_getr 13 0 X hK hP hTq rfl hinRX11 rfl (by decide) k17 (fun _ h => h) dX11_site_37 (show va_rf (R9 q 0) = .ref nw from by rw [hR0]; rfl) ?_
    refine lv_iconst (v := 0) X.1 X.2.1 dX11_site_40 (by decide) ?_
    refine g_puti 12 6 X hK hP hS hN.t0 rfl hinRX10 tyX10 tyX10_ok nmX10 rfl (by decide) k51 (fun _ h => h) rfl rfl rfl dX11_site_41 (fun H locs hP hS => ?_)
    generalize eI1 : g2 I9 nw 6 0 = I1 at hP
    refine lv_aload_n X.1 X.2.1 dX11_site_44 rfl (lv_at hl 0 rfl) ?_
    refine lv_ifnonnull (tgt := 59) X.1 X.2.1 dX11_site_45 (by decide) ?_
    refine lv_aload_n X.1 X.2.1 dX11_site_59 rfl (lv_at hl 1 rfl) ?_
    refine g_getr 13 0 X hK hP hTq rfl hinRX11 rfl (by decide) k17 (fun _ h => h) dX11_site_60 (show va_rf (R9 q 0) = .ref nw from by rw [hR0]; rfl) ?_
    refine lv_aload_n X.1 X.2.1 dX11_site_63 rfl (lv_at hl 0 rfl) ?_
    refine g_run_v (f := fun u => u) (g_runV (k := 12) [.ref z] X hK hP hS hC hB (d_settle hN) (cwV 1 X.2.2.2.2 gX11_site_X10_settle rfl rfl rfl (by decide +kernel) ⟨Nat.le_of_ble_eq_true rfl, Nat.le_of_ble_eq_true rfl⟩) hN.t0 rfl rfl hl.1 rfl (Nat.le_of_ble_eq_true rfl) dX11_site_64 ⟨Nat.le_of_ble_eq_true rfl, Nat.le_of_ble_eq_true rfl⟩) hS (fun u H locs hq hP hS => ?_)
    subst hq
    generalize eS9 : g2 R9 nw 12 (some z) = S9 at hP
    have hv13 : I1 nw 13 = nI aa := (gs_ne eI1 (by omega) h39)
    rw [hv13] at hP
    generalize eK9 : g2 I1 nw 13 (nI aa + 1) = K9 at hP
    generalize eF9 : iFg nw K9 4 = F9 at hP
    have hP : gP D cy B (z + 5) T9 F9 S9 H := hP
    have hR0 : S9 q 0 = some nw := gs_neR eS9 (by omega) hR0
    have hN : cWk nw T9 S9 := hN.k (fun x hx => by rw [← eS9]; exact g2_other (wR_12 hx))
    refine lv_aload_n X.1 X.2.1 dX11_site_67 rfl (lv_at hl 1 rfl) ?_
    refine g_getr 13 0 X hK hP hTq rfl hinRX11 rfl (by decide) k17 (fun _ h => h) dX11_site_68 (show va_rf (S9 q 0) = .ref nw from by rw [hR0]; rfl) ?_
    refine g_geti 12 13 X hK hP hN.t0 rfl hinRX10 rfl (by decide) k59 (fun _ h => h) dX11_site_71 (show F9 nw 13 = nI (aa + 1) from (by rw [← eF9, iFg_r (by omega)]; exact (gs_at eK9 rfl rfl).trans (nI_add aa 1))) ?_
    refine lv_iconst (v := 1) X.1 X.2.1 dX11_site_74 (by decide) ?_
    refine lv_isub X.1 X.2.1 dX11_site_75 ?_
    exact g_iret (f := fun u => u) (z + 5, T9, F9, S9) X hr hlk hK hP hS dX11_site_76 ⟨(gn_sub (Eq.refl (nI (aa + 1))) (show (1 : Int32) = nI 1 from rfl) (by omega)), T9, I9, R9, (by rw [← eF9, ← eK9, ← eS9, eI1]), ⟨hfT, hfI, hfR⟩, cs9, hcs9, hst9, hsr9, hy8, hy9⟩
  · exact absurd (nI_lt ha5 (by omega)) c8

end QH