section PZ
variable {l : Launch} {s0 : State} {D : va_G} {cy : Nat → ClassId} {B z : Nat} {T : Nat → Nat × Nat} {I : Nat → Nat → Int32} {R : Nat → Nat → Option Nat} {q nw kp tr : Nat} {σ : Nat → Nat} {K ti sh : Nat} {fl : List Nat} {ad : Nat → Nat} {C E lc b κ nu vv : Nat} {tl : List Nat}
/-- the list's array is no cell of another kind -/
def gLn (lc : Nat) (T : Nat → Nat × Nat) (R : Nat → Nat → Option Nat) : Prop := ∀ c, (T c).1 ≠ 6 → (T c).1 ≠ 0 → R lc 1 ≠ some c
theorem cLs.ln (h : cLs lc E ad T I R tl) (hE : (T E).1 = 0) : gLn lc T R := fun c h6 h0 g => by
  rcases h.2.2 with ⟨-, h1⟩ | ⟨el, h1, -, h2, -⟩
  · rw [h1] at g
    cases g
    exact h0 hE
  · rw [h1] at g
    cases g
    exact h6 (by rw [h2])
theorem gBx.e0 {s : State} {H : Heap} (h : gBx s B ad C E) (hP : gP D cy B z T I R H) : (T E).1 = 0 := by
  rcases Nat.eq_zero_or_pos (T E).1 with h1 | h1
  · exact h1
  · exact absurd (hP.2.2.1 E (Nat.pos_iff_ne_zero.mp h1)) (va_T.out h.2.2.2.2.2.1)
section LF
variable {z' w : Nat} {T' : Nat → Nat × Nat} {I' : Nat → Nat → Int32} {R' : Nat → Nat → Option Nat}
theorem cWk.lf (h : cWk w T R) (hf : gLf lc z z' T T' I I' R R') (hn : gLn lc T R) (hz : w + 15 ≤ z) (hl : w + 15 ≤ lc ∨ lc < w) : cWk w T' R' := by
  refine ⟨fun k t hk => (hf.2.1 _ (by have h9 := (List.getElem?_eq_some_iff.mp hk).1; have h8 : wTl.length = 15 := rfl; omega)).trans (h.1 k t hk), fun k x hk => ?_⟩
  have h1 := wR_lt hk
  have h2 : ∀ x ∈ wRl, ∃ t, wTl[x.1]? = some t ∧ t.1 ≠ 6 ∧ t.1 ≠ 0 := by decide
  obtain ⟨t, h3, h4, h5⟩ := h2 x (List.mem_of_getElem? hk)
  have h6 := h.1 _ _ h3
  exact (hf.2.2.2.1 _ _ (by omega) (by omega) (hn _ (by rw [h6]; exact h4) (by rw [h6]; exact h5))).trans (h.2 k x hk)
theorem cTop.lf (h : cTop q nw kp tr T R) (hf : gLf (q + 52) z z' T T' I I' R R') (hn : gLn (q + 52) T R) (hz : q + 65 ≤ z) : cTop q nw kp tr T' R' := by
  obtain ⟨h1, h2, h3, h4, h5, h6, h7, h8, h9, h10, h11, h12, h13, h14⟩ := h
  have hq : ∀ j, R' q j = R q j := fun j => hf.2.2.2.1 q j (by omega) (by omega) (hn q (by rw [h4]; decide) (by rw [h4]; decide))
  exact ⟨h1, h2, h3, (hf.2.1 q (by omega)).trans h4, (hq 0).trans h5, (hq 1).trans h6, (hq 2).trans h7, (hq 3).trans h8, (hq 4).trans h9, h10.lf hf hn (by omega) (by omega), h11.lf hf hn (by omega) (by omega), h12.lf hf hn (by omega) (by omega), (hf.2.1 _ (by omega)).trans h13, (hf.2.1 _ (by omega)).trans h14⟩
theorem cMn.lf {σ : Nat → Nat} {μ b : Nat} (h : cMn T I σ μ b) (hf : gLf lc z z' T T' I I' R R') (hb : b < z) (hl : b ≠ lc) : cMn T' I' σ μ b := ⟨(hf.2.1 b hb).trans h.1, (hf.2.2.1 b 0 hb hl).trans h.2.1, (hf.2.2.1 b 1 hb hl).trans h.2.2.1, (hf.2.2.1 b 2 hb hl).trans h.2.2.2.1, (hf.2.2.1 b 3 hb hl).trans h.2.2.2.2⟩
theorem cNw.lf (h : cNw q w T I R σ fl ti sh) (hW : cWk w T R) (hf : gLf (q + 52) z z' T T' I I' R R') (hn : gLn (q + 52) T R) (hz : q + 65 ≤ z) (hlt : ∀ c, (T c).1 ≠ 0 → c < z) (hw : q + 6 ≤ w) (hw2 : w + 15 ≤ q + 51) : cNw q w T' I' R' σ fl ti sh := by
  obtain ⟨h1, h2, h3, h4, a, h5, h6, h7, h8⟩ := h
  have hI : ∀ c j, w ≤ c → c < w + 15 → I' c j = I c j := fun c j g1 g2 => hf.2.2.1 c j (by omega) (by omega)
  have t5 : T (w + 5) = (4, 4) := hW.t 5 rfl
  have t0 := hW.t0
  have hr5 : ∀ k, R' (w + 5) k = R (w + 5) k := fun k => hf.2.2.2.1 _ _ (by omega) (by omega) (hn _ (by rw [t5]; decide) (by rw [t5]; decide))
  have h6' := h6
  obtain ⟨q1, q2, q3, q4, q5, q6, q7, q8, q9⟩ := h6
  have ta : (T a).1 = 14 := by rw [q1]
  have haz : a + 4 < z := hlt _ (by rw [q5]; decide)
  refine ⟨h1.k (fun c j g1 g2 => hI c j g1 (by omega)), h2.k hI, fun μ hμ => ?_, fun k hk => ?_, a, (hf.2.2.2.1 _ _ (by omega) (by omega) (hn _ (by rw [t0]; decide) (by rw [t0]; decide))).trans h5, ?_, h7.k (fun c j g1 g2 => hf.2.2.1 c j (by omega) (by omega)), h8⟩
  · obtain ⟨b, g1, g2, g3⟩ := h3 μ hμ
    have hb : b < z := hlt b (by rw [g2.1]; exact Nat.succ_ne_zero _)
    exact ⟨b, (hr5 μ).trans g1, g2.lf hf hb (by omega), g3⟩
  · rw [hr5 k]
    rcases h4 k hk with g | ⟨b9, κ9, g1, g2, g3⟩
    · exact Or.inl g
    · exact Or.inr ⟨b9, κ9, g1, g2, (hf.2.1 b9 (hlt b9 (by rw [g3]; exact Nat.succ_ne_zero _))).trans g3⟩
  · have hra : ∀ j, R' a j = R a j := fun j => hf.2.2.2.1 a j (by omega) (by omega) (hn a (by rw [ta]; decide) (by rw [ta]; decide))
    exact ⟨(hf.2.1 _ (by omega)).trans q1, (hf.2.1 _ (by omega)).trans q2, (hf.2.1 _ (by omega)).trans q3, (hf.2.1 _ (by omega)).trans q4, (hf.2.1 _ (by omega)).trans q5, (hra 2).trans q6, (hra 3).trans q7, (hra 4).trans q8, (hra 5).trans q9⟩
end LF
set_option maxHeartbeats 4000000 in
set_option maxRecDepth 100000 in
/-- t_act_n -/
theorem t_act_n (hTp : cTop q nw kp tr T R) (hNw : cNw q nw T I R σ fl ti sh) (hG : sGd fl ti sh) (hb : sBd σ K) (hBx : gBx s0 B ad C E) (hAo : gWs s0 [.arrayOver (.object "java/lang/Object")]) (hUp : gUp s0) (hzq : q + 65 ≤ z) (hLs : cLs (q + 52) E ad T I R tl) {v : Int32} (hno : ¬ (0 ≤ v ∧ v ≤ nI (σ 38) - 1)) (x y : Int32) : Met l yX11_act wsX11_act ({ frames := 1, cells := 8, slots := 80, locals := 23 }) (va_Pc [.ref q, .int v, .int y, .int x] (gW0 s0 D cy B (z, T, I, R))) (va_Qi (fun r u => r = 0 ∧ ∃ z' T' I' R', u = (z', T', I', R') ∧ cLs (q + 52) E ad T' I' R' ([]) ∧ gLf (q + 52) z z' T T' I I' R R') (fun u t => gW1 D cy B u t) (gA B)) 8 80 (gA B) := by
  refine g_met (maxL := 5) (ret := (some .int)) (by decide) rfl (Nat.le_of_ble_eq_true rfl) (fun p e s m args below meth c ls X hr hlk hnm hK hP hC hS hl => ?_)
  have hl : lv_has ls 5 [(0, .ref q), (1, .int v), (2, .int y), (3, .int x)] := hl
  have hP : gP D cy B z T I R s.heap := hP
  have hB : B ≤ s.heap.size := by rw [hP.1]; exact hP.2.1
  have hinRX11 : ∀ w ∈ wsX110, w ∈ wsX11_act := fun _ h => List.mem_cons_of_mem _ (List.mem_append_left _ (List.mem_append_left _ (List.mem_append_left _ (List.mem_append_left _ (List.mem_append_left _ (List.mem_append_left _ (List.mem_append_left _ (List.mem_append_left _ (List.mem_append_left _ (List.mem_append_left _ (List.mem_append_right _ h)))))))))))
  have k17 : Cond.fieldLink RX11 17 "BarrowPlank" "now" "LBarrowPlank$Works;" ∈ wsX11_act := by decide +kernel
  have k39 : Cond.fieldLink RX11 39 "BarrowPlank" "bodies" "Ljava/util/ArrayList;" ∈ wsX11_act := by decide +kernel
  have hTp0 := hTp
  have hNw0 := hNw
  obtain ⟨hnw, hkp, htr, hTq, hR0, hR1, hR2, hR3, hR4, hN, hKp, hTr, hTrd, hTl⟩ := hTp
  obtain ⟨hA, hBb, hmen, hme, a, hsR, hst, hsi, hfa⟩ := hNw
  have h38 := hb.2.2.2.2.1
  have h0 := hb.1
  have hln : gLn (q + 52) T R := hLs.ln ((hBx.now hC).e0 hP)
  refine lv_aload_n X.1 X.2.1 dX11_act_0 rfl (lv_at hl 0 rfl) ?_
  refine g_getr 13 4 X hK hP hTq rfl hinRX11 rfl (by decide) k39 (fun _ h => h) dX11_act_1 (show va_rf (R q 4) = .ref (q + 52) from by rw [hR4]; rfl) ?_
  refine g_run_v (f := fun u => u) (g_runV (k := 1) [] X hK hP hS hC hB (j_clear (lc := q + 52) hLs) (cwV 0 X.2.2.2.2 gX11_act_Jx4a65c_clear_da8c8 rfl rfl rfl (by decide +kernel) ⟨Nat.le_of_ble_eq_true rfl, Nat.le_of_ble_eq_true rfl⟩) hTl rfl rfl hl.1 rfl (Nat.le_of_ble_eq_true rfl) dX11_act_4 ⟨Nat.le_of_ble_eq_true rfl, Nat.le_of_ble_eq_true rfl⟩) hS (fun u H locs hq hP hS => ?_)
  obtain ⟨I1, R1, rfl, hL1, hF1⟩ := hq
  have hP : gP D cy B z T I1 R1 H := hP
  have hTp := hTp0.lf hF1 hln hzq
  obtain ⟨-, -, -, hTq, hR0, hR1, hR2, hR3, hR4, hN, hKp, hTr, hTrd, hTl⟩ := hTp
  have hA : cA nw I1 σ := hA.k (fun c j h1 h2 => hF1.2.2.1 c j (by omega) (by omega))
  refine lv_aload_n X.1 X.2.1 dX11_act_7 rfl (lv_at hl 0 rfl) ?_
  refine g_getr 13 0 X hK hP hTq rfl hinRX11 rfl (by decide) k17 (fun _ h => h) dX11_act_8 (show va_rf (R1 q 0) = .ref nw from by rw [hR0]; rfl) ?_
  refine lv_iload_n X.1 X.2.1 dX11_act_11 rfl (lv_at hl 1 rfl) ?_
  refine g_run_q (f := fun u => u) (g_runV (k := 12) [.int v] X hK hP hS hC hB (d_find_n (σ := σ) hN (hA.2.2.1) h38 hno) (cwV 1 X.2.2.2.2 gX11_act_X10_find rfl rfl rfl (by decide +kernel) ⟨Nat.le_of_ble_eq_true rfl, Nat.le_of_ble_eq_true rfl⟩) hN.t0 rfl rfl hl.1 rfl (Nat.le_of_ble_eq_true rfl) dX11_act_12 ⟨Nat.le_of_ble_eq_true rfl, Nat.le_of_ble_eq_true rfl⟩) hS (fun r u H locs hq hP hS => ?_)
  obtain ⟨rfl, rfl⟩ := hq
  have hP : gP D cy B z T I1 R1 H := hP
  refine lv_astoreN (lv' := [(4, .null), (0, .ref q), (1, .int v), (2, .int y), (3, .int x)]) X.1 X.2.1 dX11_act_15 hl (by decide) rfl (fun ls hl => ?_)
  refine lv_aloadN X.1 X.2.1 dX11_act_17 (lv_at hl 0 rfl) ?_
  refine lv_ifnonnullN X.1 X.2.1 dX11_act_19 ?_
  refine g_pad (cells' := 8) (slots' := 80) (Nat.le_of_ble_eq_true rfl) (Nat.le_of_ble_eq_true rfl) ?_
  refine lv_iconst (v := 0) X.1 X.2.1 dX11_act_22 (by decide) ?_
  exact g_iret (f := fun u => u) (z, T, I1, R1) X hr hlk hK hP hS dX11_act_23 ⟨rfl, z, T, I1, R1, rfl, hL1, hF1⟩

set_option maxHeartbeats 4000000 in
set_option maxRecDepth 100000 in
/-- t_act_w -/
theorem t_act_w (hTp : cTop q nw kp tr T R) (hNw : cNw q nw T I R σ fl ti sh) (hG : sGd fl ti sh) (hb : sBd σ K) (hBx : gBx s0 B ad C E) (hAo : gWs s0 [.arrayOver (.object "java/lang/Object")]) (hUp : gUp s0) (hzq : q + 65 ≤ z) (hLs : cLs (q + 52) E ad T I R tl) {nu : Nat} (hnn : nu < σ 38) {y : Int32} (hx : y.toInt < 0 ∨ 2 < y.toInt) (x : Int32) : Met l yX11_act wsX11_act ({ frames := 1, cells := 8, slots := 80, locals := 23 }) (va_Pc [.ref q, .int (nI nu), .int y, .int x] (gW0 s0 D cy B (z, T, I, R))) (va_Qi (fun r u => r = 0 ∧ ∃ z' T' I' R', u = (z', T', I', R') ∧ cLs (q + 52) E ad T' I' R' ([]) ∧ gLf (q + 52) z z' T T' I I' R R') (fun u t => gW1 D cy B u t) (gA B)) 8 80 (gA B) := by
  refine g_met (maxL := 5) (ret := (some .int)) (by decide) rfl (Nat.le_of_ble_eq_true rfl) (fun p e s m args below meth c ls X hr hlk hnm hK hP hC hS hl => ?_)
  have hl : lv_has ls 5 [(0, .ref q), (1, .int (nI nu)), (2, .int y), (3, .int x)] := hl
  have hP : gP D cy B z T I R s.heap := hP
  have hB : B ≤ s.heap.size := by rw [hP.1]; exact hP.2.1
  have hinRX11 : ∀ w ∈ wsX110, w ∈ wsX11_act := fun _ h => List.mem_cons_of_mem _ (List.mem_append_left _ (List.mem_append_left _ (List.mem_append_left _ (List.mem_append_left _ (List.mem_append_left _ (List.mem_append_left _ (List.mem_append_left _ (List.mem_append_left _ (List.mem_append_left _ (List.mem_append_left _ (List.mem_append_right _ h)))))))))))
  have hin7 : ∀ κ, κ ≤ 6 → ∀ w ∈ mws κ, w ∈ wsX11_act := fun κ hκ => by
    rcases k7 hκ with rfl | rfl | rfl | rfl | rfl | rfl | rfl
    · exact fun _ h => List.mem_cons_of_mem _ (List.mem_append_left _ (List.mem_append_left _ (List.mem_append_left _ (List.mem_append_left _ (List.mem_append_left _ (List.mem_append_right _ h))))))
    · exact fun _ h => List.mem_cons_of_mem _ (List.mem_append_left _ (List.mem_append_left _ (List.mem_append_left _ (List.mem_append_left _ (List.mem_append_left _ (List.mem_append_left _ (List.mem_append_left _ (List.mem_append_right _ h))))))))
    · exact fun _ h => List.mem_cons_of_mem _ (List.mem_append_left _ (List.mem_append_right _ h))
    · exact fun _ h => List.mem_cons_of_mem _ (List.mem_append_left _ (List.mem_append_left _ (List.mem_append_left _ (List.mem_append_right _ h))))
    · exact fun _ h => List.mem_cons_of_mem _ (List.mem_append_left _ (List.mem_append_left _ (List.mem_append_left _ (List.mem_append_left _ (List.mem_append_left _ (List.mem_append_left _ (List.mem_append_right _ h)))))))
    · exact fun _ h => List.mem_cons_of_mem _ (List.mem_append_left _ (List.mem_append_left _ (List.mem_append_right _ h)))
    · exact fun _ h => List.mem_cons_of_mem _ (List.mem_append_left _ (List.mem_append_left _ (List.mem_append_left _ (List.mem_append_left _ (List.mem_append_right _ h)))))
  have k17 : Cond.fieldLink RX11 17 "BarrowPlank" "now" "LBarrowPlank$Works;" ∈ wsX11_act := by decide +kernel
  have k39 : Cond.fieldLink RX11 39 "BarrowPlank" "bodies" "Ljava/util/ArrayList;" ∈ wsX11_act := by decide +kernel
  have hTp0 := hTp
  have hNw0 := hNw
  obtain ⟨hnw, hkp, htr, hTq, hR0, hR1, hR2, hR3, hR4, hN, hKp, hTr, hTrd, hTl⟩ := hTp
  obtain ⟨hA, hBb, hmen, hme, a, hsR, hst, hsi, hfa⟩ := hNw
  have h38 := hb.2.2.2.2.1
  have h0 := hb.1
  have hln : gLn (q + 52) T R := hLs.ln ((hBx.now hC).e0 hP)
  have h4n : nu < 4 := Nat.lt_of_lt_of_le hnn h38
  obtain ⟨b, hbm, hm, hb65⟩ := hmen nu hnn
  have hbz : b < z := hP.lt (by rw [hm.1]; exact Nat.succ_ne_zero _)
  refine lv_aload_n X.1 X.2.1 dX11_act_0 rfl (lv_at hl 0 rfl) ?_
  refine g_getr 13 4 X hK hP hTq rfl hinRX11 rfl (by decide) k39 (fun _ h => h) dX11_act_1 (show va_rf (R q 4) = .ref (q + 52) from by rw [hR4]; rfl) ?_
  refine g_run_v (f := fun u => u) (g_runV (k := 1) [] X hK hP hS hC hB (j_clear (lc := q + 52) hLs) (cwV 0 X.2.2.2.2 gX11_act_Jx4a65c_clear_da8c8 rfl rfl rfl (by decide +kernel) ⟨Nat.le_of_ble_eq_true rfl, Nat.le_of_ble_eq_true rfl⟩) hTl rfl rfl hl.1 rfl (Nat.le_of_ble_eq_true rfl) dX11_act_4 ⟨Nat.le_of_ble_eq_true rfl, Nat.le_of_ble_eq_true rfl⟩) hS (fun u H locs hq hP hS => ?_)
  obtain ⟨I1, R1, rfl, hL1, hF1⟩ := hq
  have hP : gP D cy B z T I1 R1 H := hP
  have hTp := hTp0.lf hF1 hln hzq
  obtain ⟨-, -, -, hTq, hR0, hR1, hR2, hR3, hR4, hN, hKp, hTr, hTrd, hTl⟩ := hTp
  have hA : cA nw I1 σ := hA.k (fun c j h1 h2 => hF1.2.2.1 c j (by omega) (by omega))
  have hm : cMn T I1 σ nu b := hm.lf hF1 hbz (by omega)
  have hbm : R1 (nw + 5) nu = some b := (hF1.2.2.2.1 _ _ (by omega) (by omega) (hln _ (by rw [show T (nw + 5) = (4, 4) from hN.t 5 rfl]; decide) (by rw [show T (nw + 5) = (4, 4) from hN.t 5 rfl]; decide))).trans hbm
  refine lv_aload_n X.1 X.2.1 dX11_act_7 rfl (lv_at hl 0 rfl) ?_
  refine g_getr 13 0 X hK hP hTq rfl hinRX11 rfl (by decide) k17 (fun _ h => h) dX11_act_8 (show va_rf (R1 q 0) = .ref nw from by rw [hR0]; rfl) ?_
  refine lv_iload_n X.1 X.2.1 dX11_act_11 rfl (lv_at hl 1 rfl) ?_
  refine g_run_q (f := fun u => u) (g_runV (k := 12) [.int (nI nu)] X hK hP hS hC hB (d_find (σ := σ) hN (hA.2.2.1) h38 hnn hbm) (cwV 1 X.2.2.2.2 gX11_act_X10_find rfl rfl rfl (by decide +kernel) ⟨Nat.le_of_ble_eq_true rfl, Nat.le_of_ble_eq_true rfl⟩) hN.t0 rfl rfl hl.1 rfl (Nat.le_of_ble_eq_true rfl) dX11_act_12 ⟨Nat.le_of_ble_eq_true rfl, Nat.le_of_ble_eq_true rfl⟩) hS (fun r u H locs hq hP hS => ?_)
  obtain ⟨rfl, rfl⟩ := hq
  have hP : gP D cy B z T I1 R1 H := hP
  refine lv_astore (lv' := [(4, .ref b), (0, .ref q), (1, .int (nI nu)), (2, .int y), (3, .int x)]) X.1 X.2.1 dX11_act_15 hl (by decide) rfl (fun ls hl => ?_)
  refine lv_aload X.1 X.2.1 dX11_act_17 (lv_at hl 0 rfl) ?_
  refine lv_ifnonnull (tgt := 24) X.1 X.2.1 dX11_act_19 (by decide) ?_
  refine lv_iload_n X.1 X.2.1 dX11_act_24 rfl (lv_at hl 3 rfl) ?_
  refine lv_tableOut (tgt := 85) X.1 X.2.1 dX11_act_25 hx (by decide) ?_
  refine g_pad (cells' := 8) (slots' := 80) (Nat.le_of_ble_eq_true rfl) (Nat.le_of_ble_eq_true rfl) ?_
  refine lv_iconst (v := 0) X.1 X.2.1 dX11_act_85 (by decide) ?_
  exact g_iret (f := fun u => u) (z, T, I1, R1) X hr hlk hK hP hS dX11_act_86 ⟨rfl, z, T, I1, R1, rfl, hL1, hF1⟩

set_option maxHeartbeats 4000000 in
set_option maxRecDepth 100000 in
/-- t_act_0 -/
theorem t_act_0 (hTp : cTop q nw kp tr T R) (hNw : cNw q nw T I R σ fl ti sh) (hG : sGd fl ti sh) (hb : sBd σ K) (hBx : gBx s0 B ad C E) (hAo : gWs s0 [.arrayOver (.object "java/lang/Object")]) (hUp : gUp s0) (hzq : q + 65 ≤ z) (hLs : cLs (q + 52) E ad T I R tl) {nu : Nat} (hnn : nu < σ 38) {κ vv : Nat} (hκe : σ (44 + nu) = κ) (hve : σ (48 + nu) = vv) (x : Int32) : Met l yX11_act wsX11_act ({ frames := 8, cells := 8, slots := 80, locals := 173 }) (va_Pc [.ref q, .int (nI nu), .int 0, .int x] (gW0 s0 D cy B (z, T, I, R))) (va_Qi (fun r u => r = (aL κ nu x).1 ∧ ∃ z' T' I' R', u = (z', T', I', R') ∧ cLs (q + 52) E ad T' I' R' ((aL κ nu x).2) ∧ gLf (q + 52) z z' T T' I I' R R') (fun u t => gW1 D cy B u t) (gA B)) 8 80 (gA B) := by
  refine g_met (maxL := 5) (ret := (some .int)) (by decide) rfl (Nat.le_of_ble_eq_true rfl) (fun p e s m args below meth c ls X hr hlk hnm hK hP hC hS hl => ?_)
  have hl : lv_has ls 5 [(0, .ref q), (1, .int (nI nu)), (2, .int 0), (3, .int x)] := hl
  have hP : gP D cy B z T I R s.heap := hP
  have hB : B ≤ s.heap.size := by rw [hP.1]; exact hP.2.1
  have hinRX11 : ∀ w ∈ wsX110, w ∈ wsX11_act := fun _ h => List.mem_cons_of_mem _ (List.mem_append_left _ (List.mem_append_left _ (List.mem_append_left _ (List.mem_append_left _ (List.mem_append_left _ (List.mem_append_left _ (List.mem_append_left _ (List.mem_append_left _ (List.mem_append_left _ (List.mem_append_left _ (List.mem_append_right _ h)))))))))))
  have hin7 : ∀ κ, κ ≤ 6 → ∀ w ∈ mws κ, w ∈ wsX11_act := fun κ hκ => by
    rcases k7 hκ with rfl | rfl | rfl | rfl | rfl | rfl | rfl
    · exact fun _ h => List.mem_cons_of_mem _ (List.mem_append_left _ (List.mem_append_left _ (List.mem_append_left _ (List.mem_append_left _ (List.mem_append_left _ (List.mem_append_right _ h))))))
    · exact fun _ h => List.mem_cons_of_mem _ (List.mem_append_left _ (List.mem_append_left _ (List.mem_append_left _ (List.mem_append_left _ (List.mem_append_left _ (List.mem_append_left _ (List.mem_append_left _ (List.mem_append_right _ h))))))))
    · exact fun _ h => List.mem_cons_of_mem _ (List.mem_append_left _ (List.mem_append_right _ h))
    · exact fun _ h => List.mem_cons_of_mem _ (List.mem_append_left _ (List.mem_append_left _ (List.mem_append_left _ (List.mem_append_right _ h))))
    · exact fun _ h => List.mem_cons_of_mem _ (List.mem_append_left _ (List.mem_append_left _ (List.mem_append_left _ (List.mem_append_left _ (List.mem_append_left _ (List.mem_append_left _ (List.mem_append_right _ h)))))))
    · exact fun _ h => List.mem_cons_of_mem _ (List.mem_append_left _ (List.mem_append_left _ (List.mem_append_right _ h)))
    · exact fun _ h => List.mem_cons_of_mem _ (List.mem_append_left _ (List.mem_append_left _ (List.mem_append_left _ (List.mem_append_left _ (List.mem_append_right _ h)))))
  have k17 : Cond.fieldLink RX11 17 "BarrowPlank" "now" "LBarrowPlank$Works;" ∈ wsX11_act := by decide +kernel
  have k39 : Cond.fieldLink RX11 39 "BarrowPlank" "bodies" "Ljava/util/ArrayList;" ∈ wsX11_act := by decide +kernel
  have hTp0 := hTp
  have hNw0 := hNw
  obtain ⟨hnw, hkp, htr, hTq, hR0, hR1, hR2, hR3, hR4, hN, hKp, hTr, hTrd, hTl⟩ := hTp
  obtain ⟨hA, hBb, hmen, hme, a, hsR, hst, hsi, hfa⟩ := hNw
  have h38 := hb.2.2.2.2.1
  have h0 := hb.1
  have hln : gLn (q + 52) T R := hLs.ln ((hBx.now hC).e0 hP)
  have h4n : nu < 4 := Nat.lt_of_lt_of_le hnn h38
  obtain ⟨b, hbm, hm, hb65⟩ := hmen nu hnn
  have hbz : b < z := hP.lt (by rw [hm.1]; exact Nat.succ_ne_zero _)
  have hκ : κ ≤ 6 := by rw [← hκe]; exact (hb.2.2.2.2.2.2.2.2.1 nu h4n).1
  refine lv_aload_n X.1 X.2.1 dX11_act_0 rfl (lv_at hl 0 rfl) ?_
  refine g_getr 13 4 X hK hP hTq rfl hinRX11 rfl (by decide) k39 (fun _ h => h) dX11_act_1 (show va_rf (R q 4) = .ref (q + 52) from by rw [hR4]; rfl) ?_
  refine g_run_v (f := fun u => u) (g_runV (k := 1) [] X hK hP hS hC hB (j_clear (lc := q + 52) hLs) (cwV 0 X.2.2.2.2 gX11_act_Jx4a65c_clear_da8c8 rfl rfl rfl (by decide +kernel) ⟨Nat.le_of_ble_eq_true rfl, Nat.le_of_ble_eq_true rfl⟩) hTl rfl rfl hl.1 rfl (Nat.le_of_ble_eq_true rfl) dX11_act_4 ⟨Nat.le_of_ble_eq_true rfl, Nat.le_of_ble_eq_true rfl⟩) hS (fun u H locs hq hP hS => ?_)
  obtain ⟨I1, R1, rfl, hL1, hF1⟩ := hq
  have hP : gP D cy B z T I1 R1 H := hP
  have hTp := hTp0.lf hF1 hln hzq
  obtain ⟨-, -, -, hTq, hR0, hR1, hR2, hR3, hR4, hN, hKp, hTr, hTrd, hTl⟩ := hTp
  have hA : cA nw I1 σ := hA.k (fun c j h1 h2 => hF1.2.2.1 c j (by omega) (by omega))
  have hm : cMn T I1 σ nu b := hm.lf hF1 hbz (by omega)
  have hbm : R1 (nw + 5) nu = some b := (hF1.2.2.2.1 _ _ (by omega) (by omega) (hln _ (by rw [show T (nw + 5) = (4, 4) from hN.t 5 rfl]; decide) (by rw [show T (nw + 5) = (4, 4) from hN.t 5 rfl]; decide))).trans hbm
  refine lv_aload_n X.1 X.2.1 dX11_act_7 rfl (lv_at hl 0 rfl) ?_
  refine g_getr 13 0 X hK hP hTq rfl hinRX11 rfl (by decide) k17 (fun _ h => h) dX11_act_8 (show va_rf (R1 q 0) = .ref nw from by rw [hR0]; rfl) ?_
  refine lv_iload_n X.1 X.2.1 dX11_act_11 rfl (lv_at hl 1 rfl) ?_
  refine g_run_q (f := fun u => u) (g_runV (k := 12) [.int (nI nu)] X hK hP hS hC hB (d_find (σ := σ) hN (hA.2.2.1) h38 hnn hbm) (cwV 1 X.2.2.2.2 gX11_act_X10_find rfl rfl rfl (by decide +kernel) ⟨Nat.le_of_ble_eq_true rfl, Nat.le_of_ble_eq_true rfl⟩) hN.t0 rfl rfl hl.1 rfl (Nat.le_of_ble_eq_true rfl) dX11_act_12 ⟨Nat.le_of_ble_eq_true rfl, Nat.le_of_ble_eq_true rfl⟩) hS (fun r u H locs hq hP hS => ?_)
  obtain ⟨rfl, rfl⟩ := hq
  have hP : gP D cy B z T I1 R1 H := hP
  have htb : T b = (mcl κ + 8, 0) := by rw [← hκe]; exact hm.1
  have hnu := hm.2.2.1
  have hvv : I1 b 2 = nI vv := by rw [← hve]; exact hm.2.2.2.1
  have hbl : b ≠ q + 52 := by omega
  have hz13 : q + 52 + 13 ≤ z := hzq
  have htl := hL1.1
  have hFc := hF1
  refine lv_astore (lv' := [(4, .ref b), (0, .ref q), (1, .int (nI nu)), (2, .int 0), (3, .int x)]) X.1 X.2.1 dX11_act_15 hl (by decide) rfl (fun ls hl => ?_)
  refine lv_aload X.1 X.2.1 dX11_act_17 (lv_at hl 0 rfl) ?_
  refine lv_ifnonnull (tgt := 24) X.1 X.2.1 dX11_act_19 (by decide) ?_
  refine lv_iload_n X.1 X.2.1 dX11_act_24 rfl (lv_at hl 3 rfl) ?_
  refine lv_tableIn (off := 27) (tgt := 52) X.1 X.2.1 dX11_act_25 (by decide) (by decide) (by decide) (by decide) ?_
  refine lv_aload X.1 X.2.1 dX11_act_52 (lv_at hl 0 rfl) ?_
  refine lv_iload_n X.1 X.2.1 dX11_act_54 rfl (lv_at hl 4 rfl) ?_
  refine lv_aload_n X.1 X.2.1 dX11_act_55 rfl (lv_at hl 1 rfl) ?_
  refine g_getr 13 4 X hK hP hTq rfl hinRX11 rfl (by decide) k39 (fun _ h => h) dX11_act_56 (show va_rf (R1 q 4) = .ref (q + 52) from by rw [hR4]; rfl) ?_
  refine g_joinW (D := D) (cy := cy) (B := B) (H0 := s.heap) (rest := []) (fun r z' T' I' R' => r = (aL κ nu x).1 ∧ cLs (q + 52) E ad T' I' R' ([] ++ (aL κ nu x).2) ∧ gLf (q + 52) z z' T T' I1 I' R1 R') 2 20 62 (fun hgo => ?_) (fun r zQ1 TQ1 IQ1 RQ1 H locs hq hP hS => ?_)
  · rcases k7 hκ with hc9 | hc9 | hc9 | hc9 | hc9 | hc9 | hc9
    · have hty8 : T b = (4 + 8, 0) := by rw [htb, hc9]; rfl
      refine g_run_i (f := fun u => u) (g_runV (k := 4) [.int x, .ref (q + 52)] X hK hP hS hC hB (a_X2_lifts (κ := κ) (nu := nu) (vv := vv) hBx hAo hUp hz13 hκ htb hnu hvv hbl hL1 (by first | omega | (simp only [List.length_append, List.length_cons, List.length_nil]; omega)) x) (cwV 2 X.2.2.2.2 gX11_act_X2_lifts rfl rfl rfl (by decide +kernel) ⟨Nat.le_of_ble_eq_true rfl, Nat.le_of_ble_eq_true rfl⟩) hty8 rfl rfl hl.1 rfl (Nat.le_of_ble_eq_true rfl) dX11_act_59 ⟨Nat.le_of_ble_eq_true rfl, Nat.le_of_ble_eq_true rfl⟩) hS (fun r u H locs hq hP hS => ?_)
      rw [← aL_0 (κ := κ) (nu := nu) (x := x) (by omega) (by omega)] at hq
      obtain ⟨rfl, z9, T9, I9, R9, rfl, hL9, hF9⟩ := hq
      refine g_pad (cells' := 2) (slots' := 20) (Nat.le_of_ble_eq_true rfl) (Nat.le_of_ble_eq_true rfl) ?_
      exact hgo _ _ _ _ _ H locs ⟨rfl, hL9, hF9⟩ hP hS
    · have hty8 : T b = (2 + 8, 0) := by rw [htb, hc9]; rfl
      refine g_run_i (f := fun u => u) (g_runU (k := 2) [.int x, .ref (q + 52)] X hK hP hS hC hB (a_X0_lifts (κ := κ) (nu := nu) (vv := vv) hBx hAo hUp hz13 hκ htb hnu hvv hbl hL1 (by first | omega | (simp only [List.length_append, List.length_cons, List.length_nil]; omega)) x (by omega)) (va_cwO 2 X.2.2.2.2 gX11_act_X0_lifts_u206X0 rfl rfl rfl (b0 := cX2_lifts) (m0 := 3) (r0 := some .int) (by decide +kernel) ⟨by decide, by decide, by decide +kernel⟩ ⟨Nat.le_of_ble_eq_true rfl, Nat.le_of_ble_eq_true rfl⟩) hty8 rfl rfl hl.1 rfl (Nat.le_of_ble_eq_true rfl) dX11_act_59 ⟨Nat.le_of_ble_eq_true rfl, Nat.le_of_ble_eq_true rfl⟩) hS (fun r u H locs hq hP hS => ?_)
      obtain ⟨rfl, z9, T9, I9, R9, rfl, hL9, hF9⟩ := hq
      refine g_pad (cells' := 2) (slots' := 20) (Nat.le_of_ble_eq_true rfl) (Nat.le_of_ble_eq_true rfl) ?_
      exact hgo _ _ _ _ _ H locs ⟨rfl, hL9, hF9⟩ hP hS
    · have hty8 : T b = (11 + 8, 0) := by rw [htb, hc9]; rfl
      refine g_run_i (f := fun u => u) (g_runU (k := 11) [.int x, .ref (q + 52)] X hK hP hS hC hB (a_X2_lifts (κ := κ) (nu := nu) (vv := vv) hBx hAo hUp hz13 hκ htb hnu hvv hbl hL1 (by first | omega | (simp only [List.length_append, List.length_cons, List.length_nil]; omega)) x) (va_cwU 2 X.2.2.2.2 gX11_act_X2_lifts_u206X9 rfl rfl rfl rfl ⟨by decide, by decide, by decide +kernel⟩ ⟨Nat.le_of_ble_eq_true rfl, Nat.le_of_ble_eq_true rfl⟩) hty8 rfl rfl hl.1 rfl (Nat.le_of_ble_eq_true rfl) dX11_act_59 ⟨Nat.le_of_ble_eq_true rfl, Nat.le_of_ble_eq_true rfl⟩) hS (fun r u H locs hq hP hS => ?_)
      rw [← aL_0 (κ := κ) (nu := nu) (x := x) (by omega) (by omega)] at hq
      obtain ⟨rfl, z9, T9, I9, R9, rfl, hL9, hF9⟩ := hq
      refine g_pad (cells' := 2) (slots' := 20) (Nat.le_of_ble_eq_true rfl) (Nat.le_of_ble_eq_true rfl) ?_
      exact hgo _ _ _ _ _ H locs ⟨rfl, hL9, hF9⟩ hP hS
    · have hty8 : T b = (8 + 8, 0) := by rw [htb, hc9]; rfl
      refine g_run_i (f := fun u => u) (g_runU (k := 8) [.int x, .ref (q + 52)] X hK hP hS hC hB (a_X2_lifts (κ := κ) (nu := nu) (vv := vv) hBx hAo hUp hz13 hκ htb hnu hvv hbl hL1 (by first | omega | (simp only [List.length_append, List.length_cons, List.length_nil]; omega)) x) (va_cwU 2 X.2.2.2.2 gX11_act_X2_lifts_u206X6 rfl rfl rfl rfl ⟨by decide, by decide, by decide +kernel⟩ ⟨Nat.le_of_ble_eq_true rfl, Nat.le_of_ble_eq_true rfl⟩) hty8 rfl rfl hl.1 rfl (Nat.le_of_ble_eq_true rfl) dX11_act_59 ⟨Nat.le_of_ble_eq_true rfl, Nat.le_of_ble_eq_true rfl⟩) hS (fun r u H locs hq hP hS => ?_)
      rw [← aL_0 (κ := κ) (nu := nu) (x := x) (by omega) (by omega)] at hq
      obtain ⟨rfl, z9, T9, I9, R9, rfl, hL9, hF9⟩ := hq
      refine g_pad (cells' := 2) (slots' := 20) (Nat.le_of_ble_eq_true rfl) (Nat.le_of_ble_eq_true rfl) ?_
      exact hgo _ _ _ _ _ H locs ⟨rfl, hL9, hF9⟩ hP hS
    · have hty8 : T b = (3 + 8, 0) := by rw [htb, hc9]; rfl
      refine g_run_i (f := fun u => u) (g_runU (k := 3) [.int x, .ref (q + 52)] X hK hP hS hC hB (a_X0_lifts (κ := κ) (nu := nu) (vv := vv) hBx hAo hUp hz13 hκ htb hnu hvv hbl hL1 (by first | omega | (simp only [List.length_append, List.length_cons, List.length_nil]; omega)) x (by omega)) (va_cwO 2 X.2.2.2.2 gX11_act_X0_lifts_u206X1 rfl rfl rfl (b0 := cX2_lifts) (m0 := 3) (r0 := some .int) (by decide +kernel) ⟨by decide, by decide, by decide +kernel⟩ ⟨Nat.le_of_ble_eq_true rfl, Nat.le_of_ble_eq_true rfl⟩) hty8 rfl rfl hl.1 rfl (Nat.le_of_ble_eq_true rfl) dX11_act_59 ⟨Nat.le_of_ble_eq_true rfl, Nat.le_of_ble_eq_true rfl⟩) hS (fun r u H locs hq hP hS => ?_)
      obtain ⟨rfl, z9, T9, I9, R9, rfl, hL9, hF9⟩ := hq
      refine g_pad (cells' := 2) (slots' := 20) (Nat.le_of_ble_eq_true rfl) (Nat.le_of_ble_eq_true rfl) ?_
      exact hgo _ _ _ _ _ H locs ⟨rfl, hL9, hF9⟩ hP hS
    · have hty8 : T b = (9 + 8, 0) := by rw [htb, hc9]; rfl
      refine g_run_i (f := fun u => u) (g_runU (k := 9) [.int x, .ref (q + 52)] X hK hP hS hC hB (a_X7_lifts (κ := κ) (nu := nu) (vv := vv) hBx hAo hUp hz13 hκ htb hnu hvv hbl hL1 (by first | omega | (simp only [List.length_append, List.length_cons, List.length_nil]; omega)) x hc9) (va_cwO 2 X.2.2.2.2 gX11_act_X7_lifts_u206X7 rfl rfl rfl (b0 := cX2_lifts) (m0 := 3) (r0 := some .int) (by decide +kernel) ⟨by decide, by decide, by decide +kernel⟩ ⟨Nat.le_of_ble_eq_true rfl, Nat.le_of_ble_eq_true rfl⟩) hty8 rfl rfl hl.1 rfl (Nat.le_of_ble_eq_true rfl) dX11_act_59 ⟨Nat.le_of_ble_eq_true rfl, Nat.le_of_ble_eq_true rfl⟩) hS (fun r u H locs hq hP hS => ?_)
      obtain ⟨rfl, z9, T9, I9, R9, rfl, hL9, hF9⟩ := hq
      refine g_pad (cells' := 2) (slots' := 20) (Nat.le_of_ble_eq_true rfl) (Nat.le_of_ble_eq_true rfl) ?_
      exact hgo _ _ _ _ _ H locs ⟨rfl, hL9, hF9⟩ hP hS
    · have hty8 : T b = (5 + 8, 0) := by rw [htb, hc9]; rfl
      refine g_run_i (f := fun u => u) (g_runU (k := 5) [.int x, .ref (q + 52)] X hK hP hS hC hB (a_X2_lifts (κ := κ) (nu := nu) (vv := vv) hBx hAo hUp hz13 hκ htb hnu hvv hbl hL1 (by first | omega | (simp only [List.length_append, List.length_cons, List.length_nil]; omega)) x) (va_cwU 2 X.2.2.2.2 gX11_act_X2_lifts_u206X3 rfl rfl rfl rfl ⟨by decide, by decide, by decide +kernel⟩ ⟨Nat.le_of_ble_eq_true rfl, Nat.le_of_ble_eq_true rfl⟩) hty8 rfl rfl hl.1 rfl (Nat.le_of_ble_eq_true rfl) dX11_act_59 ⟨Nat.le_of_ble_eq_true rfl, Nat.le_of_ble_eq_true rfl⟩) hS (fun r u H locs hq hP hS => ?_)
      rw [← aL_0 (κ := κ) (nu := nu) (x := x) (by omega) (by omega)] at hq
      obtain ⟨rfl, z9, T9, I9, R9, rfl, hL9, hF9⟩ := hq
      refine g_pad (cells' := 2) (slots' := 20) (Nat.le_of_ble_eq_true rfl) (Nat.le_of_ble_eq_true rfl) ?_
      exact hgo _ _ _ _ _ H locs ⟨rfl, hL9, hF9⟩ hP hS
  · obtain ⟨rfl, hLQ1, hFQ1⟩ := hq
    have hP : gP D cy B zQ1 TQ1 IQ1 RQ1 H := hP
    have hFc := hFc.trs hFQ1
    have htb := (hFQ1.2.1 b hbz).trans htb
    have hnu := (hFQ1.2.2.1 b 1 hbz hbl).trans hnu
    have hvv := (hFQ1.2.2.1 b 2 hbz hbl).trans hvv
    have hbz := Nat.lt_of_lt_of_le hbz hFQ1.1
    have hz13 : q + 52 + 13 ≤ zQ1 := Nat.le_trans hz13 hFQ1.1
    have htl := hLQ1.1
    have hleQ1 := hLQ1
    have hnQ1 := aL_n κ nu x
    refine g_pad (cells' := 8) (slots' := 80) (Nat.le_of_ble_eq_true rfl) (Nat.le_of_ble_eq_true rfl) ?_
    exact g_iret (f := fun u => u) (zQ1, TQ1, IQ1, RQ1) X hr hlk hK hP hS dX11_act_62 ⟨rfl, zQ1, TQ1, IQ1, RQ1, rfl, hLQ1, hFc⟩

set_option maxHeartbeats 4000000 in
set_option maxRecDepth 100000 in
/-- t_act_1 -/
theorem t_act_1 (hTp : cTop q nw kp tr T R) (hNw : cNw q nw T I R σ fl ti sh) (hG : sGd fl ti sh) (hb : sBd σ K) (hBx : gBx s0 B ad C E) (hAo : gWs s0 [.arrayOver (.object "java/lang/Object")]) (hUp : gUp s0) (hzq : q + 65 ≤ z) (hLs : cLs (q + 52) E ad T I R tl) {nu : Nat} (hnn : nu < σ 38) {κ vv : Nat} (hκe : σ (44 + nu) = κ) (hve : σ (48 + nu) = vv) (x : Int32) : Met l yX11_act wsX11_act ({ frames := 10, cells := 8, slots := 80, locals := 217 }) (va_Pc [.ref q, .int (nI nu), .int 1, .int x] (gW0 s0 D cy B (z, T, I, R))) (va_Qi (fun r u => r = (aG κ nu vv x).1 ∧ ∃ z' T' I' R', u = (z', T', I', R') ∧ cLs (q + 52) E ad T' I' R' ((aG κ nu vv x).2) ∧ gLf (q + 52) z z' T T' I I' R R') (fun u t => gW1 D cy B u t) (gA B)) 8 80 (gA B) := by
  refine g_met (maxL := 5) (ret := (some .int)) (by decide) rfl (Nat.le_of_ble_eq_true rfl) (fun p e s m args below meth c ls X hr hlk hnm hK hP hC hS hl => ?_)
  have hl : lv_has ls 5 [(0, .ref q), (1, .int (nI nu)), (2, .int 1), (3, .int x)] := hl
  have hP : gP D cy B z T I R s.heap := hP
  have hB : B ≤ s.heap.size := by rw [hP.1]; exact hP.2.1
  have hinRX11 : ∀ w ∈ wsX110, w ∈ wsX11_act := fun _ h => List.mem_cons_of_mem _ (List.mem_append_left _ (List.mem_append_left _ (List.mem_append_left _ (List.mem_append_left _ (List.mem_append_left _ (List.mem_append_left _ (List.mem_append_left _ (List.mem_append_left _ (List.mem_append_left _ (List.mem_append_left _ (List.mem_append_right _ h)))))))))))
  have hin7 : ∀ κ, κ ≤ 6 → ∀ w ∈ mws κ, w ∈ wsX11_act := fun κ hκ => by
    rcases k7 hκ with rfl | rfl | rfl | rfl | rfl | rfl | rfl
    · exact fun _ h => List.mem_cons_of_mem _ (List.mem_append_left _ (List.mem_append_left _ (List.mem_append_left _ (List.mem_append_left _ (List.mem_append_left _ (List.mem_append_right _ h))))))
    · exact fun _ h => List.mem_cons_of_mem _ (List.mem_append_left _ (List.mem_append_left _ (List.mem_append_left _ (List.mem_append_left _ (List.mem_append_left _ (List.mem_append_left _ (List.mem_append_left _ (List.mem_append_right _ h))))))))
    · exact fun _ h => List.mem_cons_of_mem _ (List.mem_append_left _ (List.mem_append_right _ h))
    · exact fun _ h => List.mem_cons_of_mem _ (List.mem_append_left _ (List.mem_append_left _ (List.mem_append_left _ (List.mem_append_right _ h))))
    · exact fun _ h => List.mem_cons_of_mem _ (List.mem_append_left _ (List.mem_append_left _ (List.mem_append_left _ (List.mem_append_left _ (List.mem_append_left _ (List.mem_append_left _ (List.mem_append_right _ h)))))))
    · exact fun _ h => List.mem_cons_of_mem _ (List.mem_append_left _ (List.mem_append_left _ (List.mem_append_right _ h)))
    · exact fun _ h => List.mem_cons_of_mem _ (List.mem_append_left _ (List.mem_append_left _ (List.mem_append_left _ (List.mem_append_left _ (List.mem_append_right _ h)))))
  have k17 : Cond.fieldLink RX11 17 "BarrowPlank" "now" "LBarrowPlank$Works;" ∈ wsX11_act := by decide +kernel
  have k39 : Cond.fieldLink RX11 39 "BarrowPlank" "bodies" "Ljava/util/ArrayList;" ∈ wsX11_act := by decide +kernel
  have hTp0 := hTp
  have hNw0 := hNw
  obtain ⟨hnw, hkp, htr, hTq, hR0, hR1, hR2, hR3, hR4, hN, hKp, hTr, hTrd, hTl⟩ := hTp
  obtain ⟨hA, hBb, hmen, hme, a, hsR, hst, hsi, hfa⟩ := hNw
  have h38 := hb.2.2.2.2.1
  have h0 := hb.1
  have hln : gLn (q + 52) T R := hLs.ln ((hBx.now hC).e0 hP)
  have h4n : nu < 4 := Nat.lt_of_lt_of_le hnn h38
  obtain ⟨b, hbm, hm, hb65⟩ := hmen nu hnn
  have hbz : b < z := hP.lt (by rw [hm.1]; exact Nat.succ_ne_zero _)
  have hκ : κ ≤ 6 := by rw [← hκe]; exact (hb.2.2.2.2.2.2.2.2.1 nu h4n).1
  refine lv_aload_n X.1 X.2.1 dX11_act_0 rfl (lv_at hl 0 rfl) ?_
  refine g_getr 13 4 X hK hP hTq rfl hinRX11 rfl (by decide) k39 (fun _ h => h) dX11_act_1 (show va_rf (R q 4) = .ref (q + 52) from by rw [hR4]; rfl) ?_
  refine g_run_v (f := fun u => u) (g_runV (k := 1) [] X hK hP hS hC hB (j_clear (lc := q + 52) hLs) (cwV 0 X.2.2.2.2 gX11_act_Jx4a65c_clear_da8c8 rfl rfl rfl (by decide +kernel) ⟨Nat.le_of_ble_eq_true rfl, Nat.le_of_ble_eq_true rfl⟩) hTl rfl rfl hl.1 rfl (Nat.le_of_ble_eq_true rfl) dX11_act_4 ⟨Nat.le_of_ble_eq_true rfl, Nat.le_of_ble_eq_true rfl⟩) hS (fun u H locs hq hP hS => ?_)
  obtain ⟨I1, R1, rfl, hL1, hF1⟩ := hq
  have hP : gP D cy B z T I1 R1 H := hP
  have hTp := hTp0.lf hF1 hln hzq
  obtain ⟨-, -, -, hTq, hR0, hR1, hR2, hR3, hR4, hN, hKp, hTr, hTrd, hTl⟩ := hTp
  have hA : cA nw I1 σ := hA.k (fun c j h1 h2 => hF1.2.2.1 c j (by omega) (by omega))
  have hm : cMn T I1 σ nu b := hm.lf hF1 hbz (by omega)
  have hbm : R1 (nw + 5) nu = some b := (hF1.2.2.2.1 _ _ (by omega) (by omega) (hln _ (by rw [show T (nw + 5) = (4, 4) from hN.t 5 rfl]; decide) (by rw [show T (nw + 5) = (4, 4) from hN.t 5 rfl]; decide))).trans hbm
  refine lv_aload_n X.1 X.2.1 dX11_act_7 rfl (lv_at hl 0 rfl) ?_
  refine g_getr 13 0 X hK hP hTq rfl hinRX11 rfl (by decide) k17 (fun _ h => h) dX11_act_8 (show va_rf (R1 q 0) = .ref nw from by rw [hR0]; rfl) ?_
  refine lv_iload_n X.1 X.2.1 dX11_act_11 rfl (lv_at hl 1 rfl) ?_
  refine g_run_q (f := fun u => u) (g_runV (k := 12) [.int (nI nu)] X hK hP hS hC hB (d_find (σ := σ) hN (hA.2.2.1) h38 hnn hbm) (cwV 1 X.2.2.2.2 gX11_act_X10_find rfl rfl rfl (by decide +kernel) ⟨Nat.le_of_ble_eq_true rfl, Nat.le_of_ble_eq_true rfl⟩) hN.t0 rfl rfl hl.1 rfl (Nat.le_of_ble_eq_true rfl) dX11_act_12 ⟨Nat.le_of_ble_eq_true rfl, Nat.le_of_ble_eq_true rfl⟩) hS (fun r u H locs hq hP hS => ?_)
  obtain ⟨rfl, rfl⟩ := hq
  have hP : gP D cy B z T I1 R1 H := hP
  have htb : T b = (mcl κ + 8, 0) := by rw [← hκe]; exact hm.1
  have hnu := hm.2.2.1
  have hvv : I1 b 2 = nI vv := by rw [← hve]; exact hm.2.2.2.1
  have hbl : b ≠ q + 52 := by omega
  have hz13 : q + 52 + 13 ≤ z := hzq
  have htl := hL1.1
  have hFc := hF1
  refine lv_astore (lv' := [(4, .ref b), (0, .ref q), (1, .int (nI nu)), (2, .int 1), (3, .int x)]) X.1 X.2.1 dX11_act_15 hl (by decide) rfl (fun ls hl => ?_)
  refine lv_aload X.1 X.2.1 dX11_act_17 (lv_at hl 0 rfl) ?_
  refine lv_ifnonnull (tgt := 24) X.1 X.2.1 dX11_act_19 (by decide) ?_
  refine lv_iload_n X.1 X.2.1 dX11_act_24 rfl (lv_at hl 3 rfl) ?_
  refine lv_tableIn (off := 38) (tgt := 63) X.1 X.2.1 dX11_act_25 (by decide) (by decide) (by decide) (by decide) ?_
  refine lv_aload X.1 X.2.1 dX11_act_63 (lv_at hl 0 rfl) ?_
  refine lv_iload_n X.1 X.2.1 dX11_act_65 rfl (lv_at hl 4 rfl) ?_
  refine lv_aload_n X.1 X.2.1 dX11_act_66 rfl (lv_at hl 1 rfl) ?_
  refine g_getr 13 4 X hK hP hTq rfl hinRX11 rfl (by decide) k39 (fun _ h => h) dX11_act_67 (show va_rf (R1 q 4) = .ref (q + 52) from by rw [hR4]; rfl) ?_
  refine g_joinW (D := D) (cy := cy) (B := B) (H0 := s.heap) (rest := []) (fun r z' T' I' R' => r = (aG κ nu vv x).1 ∧ cLs (q + 52) E ad T' I' R' ([] ++ (aG κ nu vv x).2) ∧ gLf (q + 52) z z' T T' I1 I' R1 R') 4 40 73 (fun hgo => ?_) (fun r zQ1 TQ1 IQ1 RQ1 H locs hq hP hS => ?_)
  · rcases k7 hκ with hc9 | hc9 | hc9 | hc9 | hc9 | hc9 | hc9
    · have hty8 : T b = (4 + 8, 0) := by rw [htb, hc9]; rfl
      refine g_run_i (f := fun u => u) (g_runV (k := 4) [.int x, .ref (q + 52)] X hK hP hS hC hB (a_X2_goes (κ := κ) (nu := nu) (vv := vv) hBx hAo hUp hz13 hκ htb hnu hvv hbl hL1 (by first | omega | (simp only [List.length_append, List.length_cons, List.length_nil]; omega)) x) (cwV 2 X.2.2.2.2 gX11_act_X2_goes rfl rfl rfl (by decide +kernel) ⟨Nat.le_of_ble_eq_true rfl, Nat.le_of_ble_eq_true rfl⟩) hty8 rfl rfl hl.1 rfl (Nat.le_of_ble_eq_true rfl) dX11_act_70 ⟨Nat.le_of_ble_eq_true rfl, Nat.le_of_ble_eq_true rfl⟩) hS (fun r u H locs hq hP hS => ?_)
      rw [← aG_0 (κ := κ) (nu := nu) (vv := vv) (x := x) (by omega) (by omega)] at hq
      obtain ⟨rfl, z9, T9, I9, R9, rfl, hL9, hF9⟩ := hq
      refine g_pad (cells' := 4) (slots' := 40) (Nat.le_of_ble_eq_true rfl) (Nat.le_of_ble_eq_true rfl) ?_
      exact hgo _ _ _ _ _ H locs ⟨rfl, hL9, hF9⟩ hP hS
    · have hty8 : T b = (2 + 8, 0) := by rw [htb, hc9]; rfl
      refine g_run_i (f := fun u => u) (g_runU (k := 2) [.int x, .ref (q + 52)] X hK hP hS hC hB (a_X2_goes (κ := κ) (nu := nu) (vv := vv) hBx hAo hUp hz13 hκ htb hnu hvv hbl hL1 (by first | omega | (simp only [List.length_append, List.length_cons, List.length_nil]; omega)) x) (va_cwU 2 X.2.2.2.2 gX11_act_X2_goes_u210X0 rfl rfl rfl rfl ⟨by decide, by decide, by decide +kernel⟩ ⟨Nat.le_of_ble_eq_true rfl, Nat.le_of_ble_eq_true rfl⟩) hty8 rfl rfl hl.1 rfl (Nat.le_of_ble_eq_true rfl) dX11_act_70 ⟨Nat.le_of_ble_eq_true rfl, Nat.le_of_ble_eq_true rfl⟩) hS (fun r u H locs hq hP hS => ?_)
      rw [← aG_0 (κ := κ) (nu := nu) (vv := vv) (x := x) (by omega) (by omega)] at hq
      obtain ⟨rfl, z9, T9, I9, R9, rfl, hL9, hF9⟩ := hq
      refine g_pad (cells' := 4) (slots' := 40) (Nat.le_of_ble_eq_true rfl) (Nat.le_of_ble_eq_true rfl) ?_
      exact hgo _ _ _ _ _ H locs ⟨rfl, hL9, hF9⟩ hP hS
    · have hty8 : T b = (11 + 8, 0) := by rw [htb, hc9]; rfl
      refine g_run_i (f := fun u => u) (g_runU (k := 11) [.int x, .ref (q + 52)] X hK hP hS hC hB (a_X9_goes (κ := κ) (nu := nu) (vv := vv) hBx hAo hUp hz13 hκ htb hnu hvv hbl hL1 (by first | omega | (simp only [List.length_append, List.length_cons, List.length_nil]; omega)) x (by omega)) (va_cwO 2 X.2.2.2.2 gX11_act_X9_goes_u210X9 rfl rfl rfl (b0 := cX2_goes) (m0 := 3) (r0 := some .int) (by decide +kernel) ⟨by decide, by decide, by decide +kernel⟩ ⟨Nat.le_of_ble_eq_true rfl, Nat.le_of_ble_eq_true rfl⟩) hty8 rfl rfl hl.1 rfl (Nat.le_of_ble_eq_true rfl) dX11_act_70 ⟨Nat.le_of_ble_eq_true rfl, Nat.le_of_ble_eq_true rfl⟩) hS (fun r u H locs hq hP hS => ?_)
      obtain ⟨rfl, z9, T9, I9, R9, rfl, hL9, hF9⟩ := hq
      refine g_pad (cells' := 4) (slots' := 40) (Nat.le_of_ble_eq_true rfl) (Nat.le_of_ble_eq_true rfl) ?_
      exact hgo _ _ _ _ _ H locs ⟨rfl, hL9, hF9⟩ hP hS
    · have hty8 : T b = (8 + 8, 0) := by rw [htb, hc9]; rfl
      refine g_run_i (f := fun u => u) (g_runU (k := 8) [.int x, .ref (q + 52)] X hK hP hS hC hB (a_X2_goes (κ := κ) (nu := nu) (vv := vv) hBx hAo hUp hz13 hκ htb hnu hvv hbl hL1 (by first | omega | (simp only [List.length_append, List.length_cons, List.length_nil]; omega)) x) (va_cwU 2 X.2.2.2.2 gX11_act_X2_goes_u210X6 rfl rfl rfl rfl ⟨by decide, by decide, by decide +kernel⟩ ⟨Nat.le_of_ble_eq_true rfl, Nat.le_of_ble_eq_true rfl⟩) hty8 rfl rfl hl.1 rfl (Nat.le_of_ble_eq_true rfl) dX11_act_70 ⟨Nat.le_of_ble_eq_true rfl, Nat.le_of_ble_eq_true rfl⟩) hS (fun r u H locs hq hP hS => ?_)
      rw [← aG_0 (κ := κ) (nu := nu) (vv := vv) (x := x) (by omega) (by omega)] at hq
      obtain ⟨rfl, z9, T9, I9, R9, rfl, hL9, hF9⟩ := hq
      refine g_pad (cells' := 4) (slots' := 40) (Nat.le_of_ble_eq_true rfl) (Nat.le_of_ble_eq_true rfl) ?_
      exact hgo _ _ _ _ _ H locs ⟨rfl, hL9, hF9⟩ hP hS
    · have hty8 : T b = (3 + 8, 0) := by rw [htb, hc9]; rfl
      refine g_run_i (f := fun u => u) (g_runU (k := 3) [.int x, .ref (q + 52)] X hK hP hS hC hB (a_X2_goes (κ := κ) (nu := nu) (vv := vv) hBx hAo hUp hz13 hκ htb hnu hvv hbl hL1 (by first | omega | (simp only [List.length_append, List.length_cons, List.length_nil]; omega)) x) (va_cwU 2 X.2.2.2.2 gX11_act_X2_goes_u210X1 rfl rfl rfl rfl ⟨by decide, by decide, by decide +kernel⟩ ⟨Nat.le_of_ble_eq_true rfl, Nat.le_of_ble_eq_true rfl⟩) hty8 rfl rfl hl.1 rfl (Nat.le_of_ble_eq_true rfl) dX11_act_70 ⟨Nat.le_of_ble_eq_true rfl, Nat.le_of_ble_eq_true rfl⟩) hS (fun r u H locs hq hP hS => ?_)
      rw [← aG_0 (κ := κ) (nu := nu) (vv := vv) (x := x) (by omega) (by omega)] at hq
      obtain ⟨rfl, z9, T9, I9, R9, rfl, hL9, hF9⟩ := hq
      refine g_pad (cells' := 4) (slots' := 40) (Nat.le_of_ble_eq_true rfl) (Nat.le_of_ble_eq_true rfl) ?_
      exact hgo _ _ _ _ _ H locs ⟨rfl, hL9, hF9⟩ hP hS
    · have hty8 : T b = (9 + 8, 0) := by rw [htb, hc9]; rfl
      refine g_run_i (f := fun u => u) (g_runU (k := 9) [.int x, .ref (q + 52)] X hK hP hS hC hB (a_X9_goes (κ := κ) (nu := nu) (vv := vv) hBx hAo hUp hz13 hκ htb hnu hvv hbl hL1 (by first | omega | (simp only [List.length_append, List.length_cons, List.length_nil]; omega)) x (by omega)) (va_cwO 2 X.2.2.2.2 gX11_act_X9_goes_u210X7 rfl rfl rfl (b0 := cX2_goes) (m0 := 3) (r0 := some .int) (by decide +kernel) ⟨by decide, by decide, by decide +kernel⟩ ⟨Nat.le_of_ble_eq_true rfl, Nat.le_of_ble_eq_true rfl⟩) hty8 rfl rfl hl.1 rfl (Nat.le_of_ble_eq_true rfl) dX11_act_70 ⟨Nat.le_of_ble_eq_true rfl, Nat.le_of_ble_eq_true rfl⟩) hS (fun r u H locs hq hP hS => ?_)
      obtain ⟨rfl, z9, T9, I9, R9, rfl, hL9, hF9⟩ := hq
      refine g_pad (cells' := 4) (slots' := 40) (Nat.le_of_ble_eq_true rfl) (Nat.le_of_ble_eq_true rfl) ?_
      exact hgo _ _ _ _ _ H locs ⟨rfl, hL9, hF9⟩ hP hS
    · have hty8 : T b = (5 + 8, 0) := by rw [htb, hc9]; rfl
      refine g_run_i (f := fun u => u) (g_runU (k := 5) [.int x, .ref (q + 52)] X hK hP hS hC hB (a_X3_goes (κ := κ) (nu := nu) (vv := vv) hBx hAo hUp hz13 hκ htb hnu hvv hbl hL1 (by first | omega | (simp only [List.length_append, List.length_cons, List.length_nil]; omega)) x hc9) (va_cwO 2 X.2.2.2.2 gX11_act_X3_goes_u210X3 rfl rfl rfl (b0 := cX2_goes) (m0 := 3) (r0 := some .int) (by decide +kernel) ⟨by decide, by decide, by decide +kernel⟩ ⟨Nat.le_of_ble_eq_true rfl, Nat.le_of_ble_eq_true rfl⟩) hty8 rfl rfl hl.1 rfl (Nat.le_of_ble_eq_true rfl) dX11_act_70 ⟨Nat.le_of_ble_eq_true rfl, Nat.le_of_ble_eq_true rfl⟩) hS (fun r u H locs hq hP hS => ?_)
      obtain ⟨rfl, z9, T9, I9, R9, rfl, hL9, hF9⟩ := hq
      refine g_pad (cells' := 4) (slots' := 40) (Nat.le_of_ble_eq_true rfl) (Nat.le_of_ble_eq_true rfl) ?_
      exact hgo _ _ _ _ _ H locs ⟨rfl, hL9, hF9⟩ hP hS
  · obtain ⟨rfl, hLQ1, hFQ1⟩ := hq
    have hP : gP D cy B zQ1 TQ1 IQ1 RQ1 H := hP
    have hFc := hFc.trs hFQ1
    have htb := (hFQ1.2.1 b hbz).trans htb
    have hnu := (hFQ1.2.2.1 b 1 hbz hbl).trans hnu
    have hvv := (hFQ1.2.2.1 b 2 hbz hbl).trans hvv
    have hbz := Nat.lt_of_lt_of_le hbz hFQ1.1
    have hz13 : q + 52 + 13 ≤ zQ1 := Nat.le_trans hz13 hFQ1.1
    have htl := hLQ1.1
    have hleQ1 := hLQ1
    have hnQ1 := aG_n κ nu vv x
    refine g_pad (cells' := 8) (slots' := 80) (Nat.le_of_ble_eq_true rfl) (Nat.le_of_ble_eq_true rfl) ?_
    exact g_iret (f := fun u => u) (zQ1, TQ1, IQ1, RQ1) X hr hlk hK hP hS dX11_act_73 ⟨rfl, zQ1, TQ1, IQ1, RQ1, rfl, hLQ1, hFc⟩

set_option maxHeartbeats 4000000 in
set_option maxRecDepth 100000 in
/-- t_act_2 -/
theorem t_act_2 (hTp : cTop q nw kp tr T R) (hNw : cNw q nw T I R σ fl ti sh) (hG : sGd fl ti sh) (hb : sBd σ K) (hBx : gBx s0 B ad C E) (hAo : gWs s0 [.arrayOver (.object "java/lang/Object")]) (hUp : gUp s0) (hzq : q + 65 ≤ z) (hLs : cLs (q + 52) E ad T I R tl) {nu : Nat} (hnn : nu < σ 38) {κ vv : Nat} (hκe : σ (44 + nu) = κ) (hve : σ (48 + nu) = vv) (x : Int32) : Met l yX11_act wsX11_act ({ frames := 12, cells := 8, slots := 80, locals := 261 }) (va_Pc [.ref q, .int (nI nu), .int 2, .int x] (gW0 s0 D cy B (z, T, I, R))) (va_Qi (fun r u => r = (aT κ nu vv x).1 ∧ ∃ z' T' I' R', u = (z', T', I', R') ∧ cLs (q + 52) E ad T' I' R' ((aT κ nu vv x).2) ∧ gLf (q + 52) z z' T T' I I' R R') (fun u t => gW1 D cy B u t) (gA B)) 8 80 (gA B) := by
  refine g_met (maxL := 5) (ret := (some .int)) (by decide) rfl (Nat.le_of_ble_eq_true rfl) (fun p e s m args below meth c ls X hr hlk hnm hK hP hC hS hl => ?_)
  have hl : lv_has ls 5 [(0, .ref q), (1, .int (nI nu)), (2, .int 2), (3, .int x)] := hl
  have hP : gP D cy B z T I R s.heap := hP
  have hB : B ≤ s.heap.size := by rw [hP.1]; exact hP.2.1
  have hinRX11 : ∀ w ∈ wsX110, w ∈ wsX11_act := fun _ h => List.mem_cons_of_mem _ (List.mem_append_left _ (List.mem_append_left _ (List.mem_append_left _ (List.mem_append_left _ (List.mem_append_left _ (List.mem_append_left _ (List.mem_append_left _ (List.mem_append_left _ (List.mem_append_left _ (List.mem_append_left _ (List.mem_append_right _ h)))))))))))
  have hin7 : ∀ κ, κ ≤ 6 → ∀ w ∈ mws κ, w ∈ wsX11_act := fun κ hκ => by
    rcases k7 hκ with rfl | rfl | rfl | rfl | rfl | rfl | rfl
    · exact fun _ h => List.mem_cons_of_mem _ (List.mem_append_left _ (List.mem_append_left _ (List.mem_append_left _ (List.mem_append_left _ (List.mem_append_left _ (List.mem_append_right _ h))))))
    · exact fun _ h => List.mem_cons_of_mem _ (List.mem_append_left _ (List.mem_append_left _ (List.mem_append_left _ (List.mem_append_left _ (List.mem_append_left _ (List.mem_append_left _ (List.mem_append_left _ (List.mem_append_right _ h))))))))
    · exact fun _ h => List.mem_cons_of_mem _ (List.mem_append_left _ (List.mem_append_right _ h))
    · exact fun _ h => List.mem_cons_of_mem _ (List.mem_append_left _ (List.mem_append_left _ (List.mem_append_left _ (List.mem_append_right _ h))))
    · exact fun _ h => List.mem_cons_of_mem _ (List.mem_append_left _ (List.mem_append_left _ (List.mem_append_left _ (List.mem_append_left _ (List.mem_append_left _ (List.mem_append_left _ (List.mem_append_right _ h)))))))
    · exact fun _ h => List.mem_cons_of_mem _ (List.mem_append_left _ (List.mem_append_left _ (List.mem_append_right _ h)))
    · exact fun _ h => List.mem_cons_of_mem _ (List.mem_append_left _ (List.mem_append_left _ (List.mem_append_left _ (List.mem_append_left _ (List.mem_append_right _ h)))))
  have k17 : Cond.fieldLink RX11 17 "BarrowPlank" "now" "LBarrowPlank$Works;" ∈ wsX11_act := by decide +kernel
  have k39 : Cond.fieldLink RX11 39 "BarrowPlank" "bodies" "Ljava/util/ArrayList;" ∈ wsX11_act := by decide +kernel
  have hTp0 := hTp
  have hNw0 := hNw
  obtain ⟨hnw, hkp, htr, hTq, hR0, hR1, hR2, hR3, hR4, hN, hKp, hTr, hTrd, hTl⟩ := hTp
  obtain ⟨hA, hBb, hmen, hme, a, hsR, hst, hsi, hfa⟩ := hNw
  have h38 := hb.2.2.2.2.1
  have h0 := hb.1
  have hln : gLn (q + 52) T R := hLs.ln ((hBx.now hC).e0 hP)
  have h4n : nu < 4 := Nat.lt_of_lt_of_le hnn h38
  obtain ⟨b, hbm, hm, hb65⟩ := hmen nu hnn
  have hbz : b < z := hP.lt (by rw [hm.1]; exact Nat.succ_ne_zero _)
  have hκ : κ ≤ 6 := by rw [← hκe]; exact (hb.2.2.2.2.2.2.2.2.1 nu h4n).1
  refine lv_aload_n X.1 X.2.1 dX11_act_0 rfl (lv_at hl 0 rfl) ?_
  refine g_getr 13 4 X hK hP hTq rfl hinRX11 rfl (by decide) k39 (fun _ h => h) dX11_act_1 (show va_rf (R q 4) = .ref (q + 52) from by rw [hR4]; rfl) ?_
  refine g_run_v (f := fun u => u) (g_runV (k := 1) [] X hK hP hS hC hB (j_clear (lc := q + 52) hLs) (cwV 0 X.2.2.2.2 gX11_act_Jx4a65c_clear_da8c8 rfl rfl rfl (by decide +kernel) ⟨Nat.le_of_ble_eq_true rfl, Nat.le_of_ble_eq_true rfl⟩) hTl rfl rfl hl.1 rfl (Nat.le_of_ble_eq_true rfl) dX11_act_4 ⟨Nat.le_of_ble_eq_true rfl, Nat.le_of_ble_eq_true rfl⟩) hS (fun u H locs hq hP hS => ?_)
  obtain ⟨I1, R1, rfl, hL1, hF1⟩ := hq
  have hP : gP D cy B z T I1 R1 H := hP
  have hTp := hTp0.lf hF1 hln hzq
  obtain ⟨-, -, -, hTq, hR0, hR1, hR2, hR3, hR4, hN, hKp, hTr, hTrd, hTl⟩ := hTp
  have hA : cA nw I1 σ := hA.k (fun c j h1 h2 => hF1.2.2.1 c j (by omega) (by omega))
  have hm : cMn T I1 σ nu b := hm.lf hF1 hbz (by omega)
  have hbm : R1 (nw + 5) nu = some b := (hF1.2.2.2.1 _ _ (by omega) (by omega) (hln _ (by rw [show T (nw + 5) = (4, 4) from hN.t 5 rfl]; decide) (by rw [show T (nw + 5) = (4, 4) from hN.t 5 rfl]; decide))).trans hbm
  refine lv_aload_n X.1 X.2.1 dX11_act_7 rfl (lv_at hl 0 rfl) ?_
  refine g_getr 13 0 X hK hP hTq rfl hinRX11 rfl (by decide) k17 (fun _ h => h) dX11_act_8 (show va_rf (R1 q 0) = .ref nw from by rw [hR0]; rfl) ?_
  refine lv_iload_n X.1 X.2.1 dX11_act_11 rfl (lv_at hl 1 rfl) ?_
  refine g_run_q (f := fun u => u) (g_runV (k := 12) [.int (nI nu)] X hK hP hS hC hB (d_find (σ := σ) hN (hA.2.2.1) h38 hnn hbm) (cwV 1 X.2.2.2.2 gX11_act_X10_find rfl rfl rfl (by decide +kernel) ⟨Nat.le_of_ble_eq_true rfl, Nat.le_of_ble_eq_true rfl⟩) hN.t0 rfl rfl hl.1 rfl (Nat.le_of_ble_eq_true rfl) dX11_act_12 ⟨Nat.le_of_ble_eq_true rfl, Nat.le_of_ble_eq_true rfl⟩) hS (fun r u H locs hq hP hS => ?_)
  obtain ⟨rfl, rfl⟩ := hq
  have hP : gP D cy B z T I1 R1 H := hP
  have htb : T b = (mcl κ + 8, 0) := by rw [← hκe]; exact hm.1
  have hnu := hm.2.2.1
  have hvv : I1 b 2 = nI vv := by rw [← hve]; exact hm.2.2.2.1
  have hbl : b ≠ q + 52 := by omega
  have hz13 : q + 52 + 13 ≤ z := hzq
  have htl := hL1.1
  have hFc := hF1
  refine lv_astore (lv' := [(4, .ref b), (0, .ref q), (1, .int (nI nu)), (2, .int 2), (3, .int x)]) X.1 X.2.1 dX11_act_15 hl (by decide) rfl (fun ls hl => ?_)
  refine lv_aload X.1 X.2.1 dX11_act_17 (lv_at hl 0 rfl) ?_
  refine lv_ifnonnull (tgt := 24) X.1 X.2.1 dX11_act_19 (by decide) ?_
  refine lv_iload_n X.1 X.2.1 dX11_act_24 rfl (lv_at hl 3 rfl) ?_
  refine lv_tableIn (off := 49) (tgt := 74) X.1 X.2.1 dX11_act_25 (by decide) (by decide) (by decide) (by decide) ?_
  refine lv_aload X.1 X.2.1 dX11_act_74 (lv_at hl 0 rfl) ?_
  refine lv_iload_n X.1 X.2.1 dX11_act_76 rfl (lv_at hl 4 rfl) ?_
  refine lv_aload_n X.1 X.2.1 dX11_act_77 rfl (lv_at hl 1 rfl) ?_
  refine g_getr 13 4 X hK hP hTq rfl hinRX11 rfl (by decide) k39 (fun _ h => h) dX11_act_78 (show va_rf (R1 q 4) = .ref (q + 52) from by rw [hR4]; rfl) ?_
  refine g_joinW (D := D) (cy := cy) (B := B) (H0 := s.heap) (rest := []) (fun r z' T' I' R' => r = (aT κ nu vv x).1 ∧ cLs (q + 52) E ad T' I' R' ([] ++ (aT κ nu vv x).2) ∧ gLf (q + 52) z z' T T' I1 I' R1 R') 8 80 84 (fun hgo => ?_) (fun r zQ1 TQ1 IQ1 RQ1 H locs hq hP hS => ?_)
  · rcases k7 hκ with hc9 | hc9 | hc9 | hc9 | hc9 | hc9 | hc9
    · have hty8 : T b = (4 + 8, 0) := by rw [htb, hc9]; rfl
      refine g_run_i (f := fun u => u) (g_runV (k := 4) [.int x, .ref (q + 52)] X hK hP hS hC hB (a_X2_tires (κ := κ) (nu := nu) (vv := vv) hBx hAo hUp hz13 hκ htb hnu hvv hbl hL1 (by first | omega | (simp only [List.length_append, List.length_cons, List.length_nil]; omega)) x) (cwV 2 X.2.2.2.2 gX11_act_X2_tires rfl rfl rfl (by decide +kernel) ⟨Nat.le_of_ble_eq_true rfl, Nat.le_of_ble_eq_true rfl⟩) hty8 rfl rfl hl.1 rfl (Nat.le_of_ble_eq_true rfl) dX11_act_81 ⟨Nat.le_of_ble_eq_true rfl, Nat.le_of_ble_eq_true rfl⟩) hS (fun r u H locs hq hP hS => ?_)
      rw [← aT_0 (κ := κ) (nu := nu) (vv := vv) (x := x) (by omega) (by omega)] at hq
      obtain ⟨rfl, z9, T9, I9, R9, rfl, hL9, hF9⟩ := hq
      refine g_pad (cells' := 8) (slots' := 80) (Nat.le_of_ble_eq_true rfl) (Nat.le_of_ble_eq_true rfl) ?_
      exact hgo _ _ _ _ _ H locs ⟨rfl, hL9, hF9⟩ hP hS
    · have hty8 : T b = (2 + 8, 0) := by rw [htb, hc9]; rfl
      refine g_run_i (f := fun u => u) (g_runU (k := 2) [.int x, .ref (q + 52)] X hK hP hS hC hB (a_X2_tires (κ := κ) (nu := nu) (vv := vv) hBx hAo hUp hz13 hκ htb hnu hvv hbl hL1 (by first | omega | (simp only [List.length_append, List.length_cons, List.length_nil]; omega)) x) (va_cwU 2 X.2.2.2.2 gX11_act_X2_tires_u213X0 rfl rfl rfl rfl ⟨by decide, by decide, by decide +kernel⟩ ⟨Nat.le_of_ble_eq_true rfl, Nat.le_of_ble_eq_true rfl⟩) hty8 rfl rfl hl.1 rfl (Nat.le_of_ble_eq_true rfl) dX11_act_81 ⟨Nat.le_of_ble_eq_true rfl, Nat.le_of_ble_eq_true rfl⟩) hS (fun r u H locs hq hP hS => ?_)
      rw [← aT_0 (κ := κ) (nu := nu) (vv := vv) (x := x) (by omega) (by omega)] at hq
      obtain ⟨rfl, z9, T9, I9, R9, rfl, hL9, hF9⟩ := hq
      refine g_pad (cells' := 8) (slots' := 80) (Nat.le_of_ble_eq_true rfl) (Nat.le_of_ble_eq_true rfl) ?_
      exact hgo _ _ _ _ _ H locs ⟨rfl, hL9, hF9⟩ hP hS
    · have hty8 : T b = (11 + 8, 0) := by rw [htb, hc9]; rfl
      refine g_run_i (f := fun u => u) (g_runU (k := 11) [.int x, .ref (q + 52)] X hK hP hS hC hB (a_X2_tires (κ := κ) (nu := nu) (vv := vv) hBx hAo hUp hz13 hκ htb hnu hvv hbl hL1 (by first | omega | (simp only [List.length_append, List.length_cons, List.length_nil]; omega)) x) (va_cwU 2 X.2.2.2.2 gX11_act_X2_tires_u213X9 rfl rfl rfl rfl ⟨by decide, by decide, by decide +kernel⟩ ⟨Nat.le_of_ble_eq_true rfl, Nat.le_of_ble_eq_true rfl⟩) hty8 rfl rfl hl.1 rfl (Nat.le_of_ble_eq_true rfl) dX11_act_81 ⟨Nat.le_of_ble_eq_true rfl, Nat.le_of_ble_eq_true rfl⟩) hS (fun r u H locs hq hP hS => ?_)
      rw [← aT_0 (κ := κ) (nu := nu) (vv := vv) (x := x) (by omega) (by omega)] at hq
      obtain ⟨rfl, z9, T9, I9, R9, rfl, hL9, hF9⟩ := hq
      refine g_pad (cells' := 8) (slots' := 80) (Nat.le_of_ble_eq_true rfl) (Nat.le_of_ble_eq_true rfl) ?_
      exact hgo _ _ _ _ _ H locs ⟨rfl, hL9, hF9⟩ hP hS
    · have hty8 : T b = (8 + 8, 0) := by rw [htb, hc9]; rfl
      refine g_run_i (f := fun u => u) (g_runU (k := 8) [.int x, .ref (q + 52)] X hK hP hS hC hB (a_X6_tires (κ := κ) (nu := nu) (vv := vv) hBx hAo hUp hz13 hκ htb hnu hvv hbl hL1 (by first | omega | (simp only [List.length_append, List.length_cons, List.length_nil]; omega)) x (by omega)) (va_cwO 2 X.2.2.2.2 gX11_act_X6_tires_u213X6 rfl rfl rfl (b0 := cX2_tires) (m0 := 3) (r0 := some .int) (by decide +kernel) ⟨by decide, by decide, by decide +kernel⟩ ⟨Nat.le_of_ble_eq_true rfl, Nat.le_of_ble_eq_true rfl⟩) hty8 rfl rfl hl.1 rfl (Nat.le_of_ble_eq_true rfl) dX11_act_81 ⟨Nat.le_of_ble_eq_true rfl, Nat.le_of_ble_eq_true rfl⟩) hS (fun r u H locs hq hP hS => ?_)
      obtain ⟨rfl, z9, T9, I9, R9, rfl, hL9, hF9⟩ := hq
      refine g_pad (cells' := 8) (slots' := 80) (Nat.le_of_ble_eq_true rfl) (Nat.le_of_ble_eq_true rfl) ?_
      exact hgo _ _ _ _ _ H locs ⟨rfl, hL9, hF9⟩ hP hS
    · have hty8 : T b = (3 + 8, 0) := by rw [htb, hc9]; rfl
      refine g_run_i (f := fun u => u) (g_runU (k := 3) [.int x, .ref (q + 52)] X hK hP hS hC hB (a_X1_tires (κ := κ) (nu := nu) (vv := vv) hBx hAo hUp hz13 hκ htb hnu hvv hbl hL1 (by first | omega | (simp only [List.length_append, List.length_cons, List.length_nil]; omega)) x hc9) (va_cwO 2 X.2.2.2.2 gX11_act_X1_tires_u213X1 rfl rfl rfl (b0 := cX2_tires) (m0 := 3) (r0 := some .int) (by decide +kernel) ⟨by decide, by decide, by decide +kernel⟩ ⟨Nat.le_of_ble_eq_true rfl, Nat.le_of_ble_eq_true rfl⟩) hty8 rfl rfl hl.1 rfl (Nat.le_of_ble_eq_true rfl) dX11_act_81 ⟨Nat.le_of_ble_eq_true rfl, Nat.le_of_ble_eq_true rfl⟩) hS (fun r u H locs hq hP hS => ?_)
      obtain ⟨rfl, z9, T9, I9, R9, rfl, hL9, hF9⟩ := hq
      refine g_pad (cells' := 8) (slots' := 80) (Nat.le_of_ble_eq_true rfl) (Nat.le_of_ble_eq_true rfl) ?_
      exact hgo _ _ _ _ _ H locs ⟨rfl, hL9, hF9⟩ hP hS
    · have hty8 : T b = (9 + 8, 0) := by rw [htb, hc9]; rfl
      refine g_run_i (f := fun u => u) (g_runU (k := 9) [.int x, .ref (q + 52)] X hK hP hS hC hB (a_X2_tires (κ := κ) (nu := nu) (vv := vv) hBx hAo hUp hz13 hκ htb hnu hvv hbl hL1 (by first | omega | (simp only [List.length_append, List.length_cons, List.length_nil]; omega)) x) (va_cwU 2 X.2.2.2.2 gX11_act_X2_tires_u213X7 rfl rfl rfl rfl ⟨by decide, by decide, by decide +kernel⟩ ⟨Nat.le_of_ble_eq_true rfl, Nat.le_of_ble_eq_true rfl⟩) hty8 rfl rfl hl.1 rfl (Nat.le_of_ble_eq_true rfl) dX11_act_81 ⟨Nat.le_of_ble_eq_true rfl, Nat.le_of_ble_eq_true rfl⟩) hS (fun r u H locs hq hP hS => ?_)
      rw [← aT_0 (κ := κ) (nu := nu) (vv := vv) (x := x) (by omega) (by omega)] at hq
      obtain ⟨rfl, z9, T9, I9, R9, rfl, hL9, hF9⟩ := hq
      refine g_pad (cells' := 8) (slots' := 80) (Nat.le_of_ble_eq_true rfl) (Nat.le_of_ble_eq_true rfl) ?_
      exact hgo _ _ _ _ _ H locs ⟨rfl, hL9, hF9⟩ hP hS
    · have hty8 : T b = (5 + 8, 0) := by rw [htb, hc9]; rfl
      refine g_run_i (f := fun u => u) (g_runU (k := 5) [.int x, .ref (q + 52)] X hK hP hS hC hB (a_X6_tires (κ := κ) (nu := nu) (vv := vv) hBx hAo hUp hz13 hκ htb hnu hvv hbl hL1 (by first | omega | (simp only [List.length_append, List.length_cons, List.length_nil]; omega)) x (by omega)) (va_cwO 2 X.2.2.2.2 gX11_act_X6_tires_u213X3 rfl rfl rfl (b0 := cX2_tires) (m0 := 3) (r0 := some .int) (by decide +kernel) ⟨by decide, by decide, by decide +kernel⟩ ⟨Nat.le_of_ble_eq_true rfl, Nat.le_of_ble_eq_true rfl⟩) hty8 rfl rfl hl.1 rfl (Nat.le_of_ble_eq_true rfl) dX11_act_81 ⟨Nat.le_of_ble_eq_true rfl, Nat.le_of_ble_eq_true rfl⟩) hS (fun r u H locs hq hP hS => ?_)
      obtain ⟨rfl, z9, T9, I9, R9, rfl, hL9, hF9⟩ := hq
      refine g_pad (cells' := 8) (slots' := 80) (Nat.le_of_ble_eq_true rfl) (Nat.le_of_ble_eq_true rfl) ?_
      exact hgo _ _ _ _ _ H locs ⟨rfl, hL9, hF9⟩ hP hS
  · obtain ⟨rfl, hLQ1, hFQ1⟩ := hq
    have hP : gP D cy B zQ1 TQ1 IQ1 RQ1 H := hP
    have hFc := hFc.trs hFQ1
    have htb := (hFQ1.2.1 b hbz).trans htb
    have hnu := (hFQ1.2.2.1 b 1 hbz hbl).trans hnu
    have hvv := (hFQ1.2.2.1 b 2 hbz hbl).trans hvv
    have hbz := Nat.lt_of_lt_of_le hbz hFQ1.1
    have hz13 : q + 52 + 13 ≤ zQ1 := Nat.le_trans hz13 hFQ1.1
    have htl := hLQ1.1
    have hleQ1 := hLQ1
    have hnQ1 := aT_n κ nu vv x
    refine g_pad (cells' := 8) (slots' := 80) (Nat.le_of_ble_eq_true rfl) (Nat.le_of_ble_eq_true rfl) ?_
    exact g_iret (f := fun u => u) (zQ1, TQ1, IQ1, RQ1) X hr hlk hK hP hS dX11_act_84 ⟨rfl, zQ1, TQ1, IQ1, RQ1, rfl, hLQ1, hFc⟩

end PZ