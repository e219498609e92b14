section PN
variable {l : Launch} {s0 : State} {D : va_G} {cy : Nat → ClassId} {B z : Nat} {T : Nat → Nat × Nat} {I : Nat → Nat → Int32} {R : Nat → Nat → Option Nat} {q nw kp tr : Nat} {σ : Nat → Nat} {K ti sh : Nat} {fl : List Nat}
def bc1 (x : Int32) : Int32 := x - ((x.toUInt32 >>> ((1 : Int32).toUInt32 &&& Int32.toUInt32 31)).toInt32 &&& 1431655765)
def bc2 (x : Int32) : Int32 := (x &&& 858993459) + ((x.toUInt32 >>> ((2 : Int32).toUInt32 &&& Int32.toUInt32 31)).toInt32 &&& 858993459)
def bc3 (x : Int32) : Int32 := (x + (x.toUInt32 >>> ((4 : Int32).toUInt32 &&& Int32.toUInt32 31)).toInt32) &&& 252645135
def bc4 (x : Int32) : Int32 := x + (x.toUInt32 >>> ((8 : Int32).toUInt32 &&& Int32.toUInt32 31)).toInt32
def bc5 (x : Int32) : Int32 := x + (x.toUInt32 >>> ((16 : Int32).toUInt32 &&& Int32.toUInt32 31)).toInt32
theorem bc_v : ∀ n, n < 1024 → bc5 (bc4 (bc3 (bc2 (bc1 (nI n))))) &&& 63 = nI (sPc n 10) := by
  have h : (List.range 1024).all (fun n => bc5 (bc4 (bc3 (bc2 (bc1 (nI n))))) &&& 63 == nI (sPc n 10)) = true := by decide +kernel
  intro n hn
  exact eq_of_beq (List.all_eq_true.mp h n (List.mem_range.mpr hn))
set_option maxHeartbeats 4000000 in
set_option maxRecDepth 100000 in
/-- j_bc -/
theorem j_bc {n : Nat} (hn : n < 1024) : Met l yJ6_bitCount_0f7a4 wsJ6_bitCount_0f7a4 ({ frames := 0, cells := 0, slots := 0, locals := 0 }) (va_Pc [.int (nI n)] (gW0 s0 D cy B (z, T, I, R))) (va_Qi (fun r u => r = nI (sPc n 10) ∧ (z, T, I, R) = u) (fun u t => gW1 D cy B u t) (gA B)) 0 0 (gA B) := by
  refine g_met (maxL := 1) (ret := (some .int)) (by decide) rfl (Nat.le_of_ble_eq_true rfl) (fun p e s m args below meth c ls X hr hlk hnm hK hP hC hS hl => ?_)
  have hl : lv_has ls 1 [(0, .int (nI n))] := hl
  have hP : gP D cy B z T I R s.heap := hP
  have hB : B ≤ s.heap.size := by rw [hP.1]; exact hP.2.1
  refine lv_iload_n X.1 X.2.1 dJ6_bitCount_0f7a4_0 rfl (lv_at hl 0 rfl) ?_
  refine lv_iload_n X.1 X.2.1 dJ6_bitCount_0f7a4_1 rfl (lv_at hl 0 rfl) ?_
  refine lv_iconst (v := 1) X.1 X.2.1 dJ6_bitCount_0f7a4_2 (by decide) ?_
  refine lv_iushr X.1 X.2.1 dJ6_bitCount_0f7a4_3 rfl ?_
  refine lv_ldcw (v := 1431655765) X.1 X.2.1 X.2.2.2.1 (X.2.2.2.2 (.constant RJ6 265 (1431655765)) (by decide +kernel)) dJ6_bitCount_0f7a4_4 ?_
  refine lv_iand X.1 X.2.1 dJ6_bitCount_0f7a4_7 ?_
  refine lv_isub X.1 X.2.1 dJ6_bitCount_0f7a4_8 ?_
  refine lv_cv (show _ = bc1 (nI n) from rfl) ?_
  refine lv_istore_n (lv' := [(0, .int (bc1 (nI n)))]) X.1 X.2.1 dJ6_bitCount_0f7a4_9 rfl hl (by decide) rfl (fun ls hl => ?_)
  refine lv_iload_n X.1 X.2.1 dJ6_bitCount_0f7a4_10 rfl (lv_at hl 0 rfl) ?_
  refine lv_ldcw (v := 858993459) X.1 X.2.1 X.2.2.2.1 (X.2.2.2.2 (.constant RJ6 266 (858993459)) (by decide +kernel)) dJ6_bitCount_0f7a4_11 ?_
  refine lv_iand X.1 X.2.1 dJ6_bitCount_0f7a4_14 ?_
  refine lv_iload_n X.1 X.2.1 dJ6_bitCount_0f7a4_15 rfl (lv_at hl 0 rfl) ?_
  refine lv_iconst (v := 2) X.1 X.2.1 dJ6_bitCount_0f7a4_16 (by decide) ?_
  refine lv_iushr X.1 X.2.1 dJ6_bitCount_0f7a4_17 rfl ?_
  refine lv_ldcw (v := 858993459) X.1 X.2.1 X.2.2.2.1 (X.2.2.2.2 (.constant RJ6 266 (858993459)) (by decide +kernel)) dJ6_bitCount_0f7a4_18 ?_
  refine lv_iand X.1 X.2.1 dJ6_bitCount_0f7a4_21 ?_
  refine lv_iadd X.1 X.2.1 dJ6_bitCount_0f7a4_22 ?_
  refine lv_cv (show _ = bc2 (bc1 (nI n)) from rfl) ?_
  refine lv_istore_n (lv' := [(0, .int (bc2 (bc1 (nI n))))]) X.1 X.2.1 dJ6_bitCount_0f7a4_23 rfl hl (by decide) rfl (fun ls hl => ?_)
  refine lv_iload_n X.1 X.2.1 dJ6_bitCount_0f7a4_24 rfl (lv_at hl 0 rfl) ?_
  refine lv_iload_n X.1 X.2.1 dJ6_bitCount_0f7a4_25 rfl (lv_at hl 0 rfl) ?_
  refine lv_iconst (v := 4) X.1 X.2.1 dJ6_bitCount_0f7a4_26 (by decide) ?_
  refine lv_iushr X.1 X.2.1 dJ6_bitCount_0f7a4_27 rfl ?_
  refine lv_iadd X.1 X.2.1 dJ6_bitCount_0f7a4_28 ?_
  refine lv_ldcw (v := 252645135) X.1 X.2.1 X.2.2.2.1 (X.2.2.2.2 (.constant RJ6 267 (252645135)) (by decide +kernel)) dJ6_bitCount_0f7a4_29 ?_
  refine lv_iand X.1 X.2.1 dJ6_bitCount_0f7a4_32 ?_
  refine lv_cv (show _ = bc3 (bc2 (bc1 (nI n))) from rfl) ?_
  refine lv_istore_n (lv' := [(0, .int (bc3 (bc2 (bc1 (nI n)))))]) X.1 X.2.1 dJ6_bitCount_0f7a4_33 rfl hl (by decide) rfl (fun ls hl => ?_)
  refine lv_iload_n X.1 X.2.1 dJ6_bitCount_0f7a4_34 rfl (lv_at hl 0 rfl) ?_
  refine lv_iload_n X.1 X.2.1 dJ6_bitCount_0f7a4_35 rfl (lv_at hl 0 rfl) ?_
  refine lv_bipush (v := 8) X.1 X.2.1 dJ6_bitCount_0f7a4_36 (by decide) ?_
  refine lv_iushr X.1 X.2.1 dJ6_bitCount_0f7a4_38 rfl ?_
  refine lv_iadd X.1 X.2.1 dJ6_bitCount_0f7a4_39 ?_
  refine lv_cv (show _ = bc4 (bc3 (bc2 (bc1 (nI n)))) from rfl) ?_
  refine lv_istore_n (lv' := [(0, .int (bc4 (bc3 (bc2 (bc1 (nI n))))))]) X.1 X.2.1 dJ6_bitCount_0f7a4_40 rfl hl (by decide) rfl (fun ls hl => ?_)
  refine lv_iload_n X.1 X.2.1 dJ6_bitCount_0f7a4_41 rfl (lv_at hl 0 rfl) ?_
  refine lv_iload_n X.1 X.2.1 dJ6_bitCount_0f7a4_42 rfl (lv_at hl 0 rfl) ?_
  refine lv_bipush (v := 16) X.1 X.2.1 dJ6_bitCount_0f7a4_43 (by decide) ?_
  refine lv_iushr X.1 X.2.1 dJ6_bitCount_0f7a4_45 rfl ?_
  refine lv_iadd X.1 X.2.1 dJ6_bitCount_0f7a4_46 ?_
  refine lv_cv (show _ = bc5 (bc4 (bc3 (bc2 (bc1 (nI n))))) from rfl) ?_
  refine lv_istore_n (lv' := [(0, .int (bc5 (bc4 (bc3 (bc2 (bc1 (nI n)))))))]) X.1 X.2.1 dJ6_bitCount_0f7a4_47 rfl hl (by decide) rfl (fun ls hl => ?_)
  refine lv_iload_n X.1 X.2.1 dJ6_bitCount_0f7a4_48 rfl (lv_at hl 0 rfl) ?_
  refine lv_bipush (v := 63) X.1 X.2.1 dJ6_bitCount_0f7a4_49 (by decide) ?_
  refine lv_iand X.1 X.2.1 dJ6_bitCount_0f7a4_51 ?_
  exact g_iret (f := fun u => u) (z, T, I, R) X hr hlk hK hP hS dJ6_bitCount_0f7a4_52 ⟨bc_v n hn, rfl⟩

theorem cAll.up {w b a μ : Nat} {σ' : Nat → Nat} {I' : Nat → Nat → Int32} (h : cAll w b a μ T I R σ fl ti sh K) (hA : cA w I' σ') (h38 : ∀ i, 38 ≤ i → σ' i = σ i) (hb : sBd σ' K) (hk : ∀ c j, ¬ (w ≤ c ∧ c < w + 15) → I' c j = I c j) : cAll w b a μ T I' R σ' fl ti sh K := by
  obtain ⟨h1, h2, h3, h4, h5, h6, h7, h8, h9, h10, h11, h12⟩ := h
  have h4' := h4
  have h8' := h8
  unfold oW at h4'
  unfold oS at h8'
  exact ⟨h1, hA, (h3.k (fun j => hk b j (by omega))).s (h38 _ (by omega)) (h38 _ (by omega)) (h38 _ (by omega)), h4, h5, h6.k (fun c j g1 g2 => hk c j (by omega)), h7, h8, h9, hb, h11, by rw [h38 38 (by omega)]; exact h12⟩
theorem sWb_38 {n wd i : Nat} (h : 38 ≤ i) : sWb σ n wd i = σ i := by
  unfold sWb
  rw [if_neg (by omega)]
theorem sWb_bk {n wd : Nat} (h : sIsB σ n) : sWb (sWb σ n wd) n 0 = σ := by
  funext i
  unfold sWb
  by_cases g : 28 ≤ i ∧ i < 38 ∧ sBit n (i - 28) = 1
  · rw [if_pos g]
    have h1 := h (i - 28) (by omega) g.2.2
    rw [show 28 + (i - 28) = i by omega] at h1
    exact h1.symm
  · rw [if_neg g, if_neg g]
section BS
variable {P : Nat → Bool} {g : Nat → Nat} {G k : Nat}
theorem bs_skip (h : ¬ P (k + 1) = true) : sBs P g (k + 1) = sBs P g k := if_neg h
theorem oB_m {f : Option (Nat × Nat)} {N : Nat} (hN : N < 2 ^ 31) (hf : ∀ b q, f = some (b, q) → b ≤ N ∧ q ≤ G) (h : oB f = -5) : f = none := by
  rcases f with _ | ⟨b, q⟩
  · rfl
  · have h1 := (hf b q rfl).1
    exact absurd h (gn_m5 (by omega))
theorem bs_new (hg : ∀ n, g n ≤ G) (hk : k < 2000) (hP : P (k + 1) = true) (h : oB (sBs P g k) = -5) : sBs P g (k + 1) = some (k + 1, g (k + 1)) := by
  have h1 := oB_m (N := k) (by omega) (sBs_le hg k) h
  show (if P (k + 1) = true then _ else _) = _
  rw [if_pos hP, h1]
theorem bs_le (hg : ∀ n, g n ≤ G) (hG : G < 2 ^ 31) (hP : P (k + 1) = true) (h : ¬ oB (sBs P g k) = -5) : (oL (sBs P g k) ≤ nI (g (k + 1)) → sBs P g (k + 1) = sBs P g k) ∧ (¬ oL (sBs P g k) ≤ nI (g (k + 1)) → sBs P g (k + 1) = some (k + 1, g (k + 1))) := by
  have e : sBs P g (k + 1) = (match sBs P g k with
    | none => some (k + 1, g (k + 1))
    | some (b, q) => if g (k + 1) < q then some (k + 1, g (k + 1)) else some (b, q)) := if_pos hP
  have hg1 := hg (k + 1)
  generalize hf : sBs P g k = f at *
  rcases f with _ | ⟨b, q⟩
  · exact absurd rfl h
  · have h1 := (sBs_le hg k b q hf).2
    rw [e]
    constructor
    · intro c
      have c2 := gq_le c rfl rfl (by omega) (by omega)
      exact if_neg (by omega)
    · intro c
      have c2 := gq_nle c rfl rfl (by omega) (by omega)
      exact if_pos (by omega)
end BS
set_option maxHeartbeats 4000000 in
set_option maxRecDepth 100000 in
/-- t_boards_n -/
theorem t_boards_n (hTp : cTop q nw kp tr T R) (hNw : cNw q nw T I R σ fl ti sh) (hG : sGd fl ti sh) (hb : sBd σ K) {v : Int32} (hno : ¬ (0 ≤ v ∧ v ≤ nI (σ 38) - 1)) (x y d9 w9 : Int32) : Met l yX11_boards wsX11_boards ({ frames := 1, cells := 0, slots := 0, locals := 21 }) (va_Pc [.ref q, .int v, .int x, .int y, .int d9, .int w9] (gW0 s0 D cy B (z, T, I, R))) (va_Qi (fun r u => r = -1001 ∧ (z, T, I, R) = u) (fun u t => gW1 D cy B u t) (gA B)) 0 0 (gA B) := by
  refine g_met (maxL := 12) (ret := (some .int)) (by decide) rfl (Nat.le_of_ble_eq_true rfl) (fun p e s m args below meth c ls X hr hlk hnm hK hP hC hS hl => ?_)
  have hl : lv_has ls 12 [(0, .ref q), (1, .int v), (2, .int x), (3, .int y), (4, .int d9), (5, .int w9)] := hl
  have hP : gP D cy B z T I R s.heap := hP
  have hB : B ≤ s.heap.size := by rw [hP.1]; exact hP.2.1
  have hinRX11 : ∀ w ∈ wsX110, w ∈ wsX11_boards := fun _ h => List.mem_cons_of_mem _ (List.mem_append_left _ (List.mem_append_left _ (List.mem_append_left _ (List.mem_append_left _ (List.mem_append_left _ (List.mem_append_left _ (List.mem_append_left _ (List.mem_append_left _ (List.mem_append_left _ (List.mem_append_left _ (List.mem_append_right _ h)))))))))))
  have k17 : Cond.fieldLink RX11 17 "BarrowPlank" "now" "LBarrowPlank$Works;" ∈ wsX11_boards := by decide +kernel
  have k26 : Cond.fieldLink RX11 26 "BarrowPlank" "trial" "LBarrowPlank$Works;" ∈ wsX11_boards := by decide +kernel
  have k147 : Cond.fieldLink RX11 147 "BarrowPlank$Trip" "seconds" "I" ∈ wsX11_boards := by decide +kernel
  have hTp0 := hTp
  have hNw0 := hNw
  obtain ⟨hnw, hkp, htr, hTq, hR0, hR1, hR2, hR3, hR4, hN, hKp, hTr, hTrd, hTl⟩ := hTp
  obtain ⟨hA, hBb, hmen, hme, a, hsR, hst, hsi, hfa⟩ := hNw
  have h38 := hb.2.2.2.2.1
  have h0 := hb.1
  refine lv_aload_n X.1 X.2.1 dX11_boards_0 rfl (lv_at hl 0 rfl) ?_
  refine g_getr 13 0 X hK hP hTq rfl hinRX11 rfl (by decide) k17 (fun _ h => h) dX11_boards_1 (show va_rf (R q 0) = .ref nw from by rw [hR0]; rfl) ?_
  refine lv_iload_n X.1 X.2.1 dX11_boards_4 rfl (lv_at hl 1 rfl) ?_
  refine g_run_q (f := fun u => u) (g_runV (k := 12) [.int v] X hK hP hS hC hB (d_find_n (σ := σ) hN (hA.2.2.1) h38 hno) (cwV 1 X.2.2.2.2 gX11_boards_X10_find rfl rfl rfl (by decide +kernel) ⟨Nat.le_of_ble_eq_true rfl, Nat.le_of_ble_eq_true rfl⟩) hN.t0 rfl rfl hl.1 rfl (Nat.le_of_ble_eq_true rfl) dX11_boards_5 (by exact ⟨Nat.zero_le _, Nat.zero_le _⟩)) hS (fun r u H locs hq hP hS => ?_)
  obtain ⟨rfl, rfl⟩ := hq
  have hP : gP D cy B z T I R H := hP
  refine lv_astoreN (lv' := [(6, .null), (0, .ref q), (1, .int v), (2, .int x), (3, .int y), (4, .int d9), (5, .int w9)]) X.1 X.2.1 dX11_boards_8 hl (by decide) rfl (fun ls hl => ?_)
  refine lv_aloadN X.1 X.2.1 dX11_boards_10 (lv_at hl 0 rfl) ?_
  refine lv_ifnullN (tgt := 25) X.1 X.2.1 dX11_boards_12 (by decide) ?_
  refine lv_sipush (v := (-1001)) X.1 X.2.1 dX11_boards_25 (by decide) ?_
  exact g_iret (f := fun u => u) (z, T, I, R) X hr hlk hK hP hS dX11_boards_28 ⟨rfl, rfl⟩

set_option maxHeartbeats 4000000 in
set_option maxRecDepth 100000 in
/-- t_boards_w -/
theorem t_boards_w (hTp : cTop q nw kp tr T R) (hNw : cNw q nw T I R σ fl ti sh) (hG : sGd fl ti sh) (hb : sBd σ K) {μ : Nat} (hμn : μ < σ 38) {w9 : Int32} (hbad : ¬ (0 ≤ w9 ∧ w9 ≤ 1)) (x y d9 : Int32) : Met l yX11_boards wsX11_boards ({ frames := 1, cells := 0, slots := 0, locals := 22 }) (va_Pc [.ref q, .int (nI μ), .int x, .int y, .int d9, .int w9] (gW0 s0 D cy B (z, T, I, R))) (va_Qi (fun r u => r = -1001 ∧ (z, T, I, R) = u) (fun u t => gW1 D cy B u t) (gA B)) 0 0 (gA B) := by
  refine g_met (maxL := 12) (ret := (some .int)) (by decide) rfl (Nat.le_of_ble_eq_true rfl) (fun p e s m args below meth c ls X hr hlk hnm hK hP hC hS hl => ?_)
  have hl : lv_has ls 12 [(0, .ref q), (1, .int (nI μ)), (2, .int x), (3, .int y), (4, .int d9), (5, .int w9)] := hl
  have hP : gP D cy B z T I R s.heap := hP
  have hB : B ≤ s.heap.size := by rw [hP.1]; exact hP.2.1
  have hinRX11 : ∀ w ∈ wsX110, w ∈ wsX11_boards := fun _ h => List.mem_cons_of_mem _ (List.mem_append_left _ (List.mem_append_left _ (List.mem_append_left _ (List.mem_append_left _ (List.mem_append_left _ (List.mem_append_left _ (List.mem_append_left _ (List.mem_append_left _ (List.mem_append_left _ (List.mem_append_left _ (List.mem_append_right _ h)))))))))))
  have hin7 : ∀ κ, κ ≤ 6 → ∀ w ∈ mws κ, w ∈ wsX11_boards := fun κ hκ => by
    rcases k7 hκ with rfl | rfl | rfl | rfl | rfl | rfl | rfl
    · exact fun _ h => List.mem_cons_of_mem _ (List.mem_append_left _ (List.mem_append_left _ (List.mem_append_left _ (List.mem_append_left _ (List.mem_append_left _ (List.mem_append_right _ h))))))
    · exact fun _ h => List.mem_cons_of_mem _ (List.mem_append_left _ (List.mem_append_left _ (List.mem_append_left _ (List.mem_append_left _ (List.mem_append_left _ (List.mem_append_left _ (List.mem_append_left _ (List.mem_append_right _ h))))))))
    · exact fun _ h => List.mem_cons_of_mem _ (List.mem_append_left _ (List.mem_append_right _ h))
    · exact fun _ h => List.mem_cons_of_mem _ (List.mem_append_left _ (List.mem_append_left _ (List.mem_append_left _ (List.mem_append_right _ h))))
    · exact fun _ h => List.mem_cons_of_mem _ (List.mem_append_left _ (List.mem_append_left _ (List.mem_append_left _ (List.mem_append_left _ (List.mem_append_left _ (List.mem_append_left _ (List.mem_append_right _ h)))))))
    · exact fun _ h => List.mem_cons_of_mem _ (List.mem_append_left _ (List.mem_append_left _ (List.mem_append_right _ h)))
    · exact fun _ h => List.mem_cons_of_mem _ (List.mem_append_left _ (List.mem_append_left _ (List.mem_append_left _ (List.mem_append_left _ (List.mem_append_right _ h)))))
  have k17 : Cond.fieldLink RX11 17 "BarrowPlank" "now" "LBarrowPlank$Works;" ∈ wsX11_boards := by decide +kernel
  have k26 : Cond.fieldLink RX11 26 "BarrowPlank" "trial" "LBarrowPlank$Works;" ∈ wsX11_boards := by decide +kernel
  have k147 : Cond.fieldLink RX11 147 "BarrowPlank$Trip" "seconds" "I" ∈ wsX11_boards := by decide +kernel
  have hTp0 := hTp
  have hNw0 := hNw
  obtain ⟨hnw, hkp, htr, hTq, hR0, hR1, hR2, hR3, hR4, hN, hKp, hTr, hTrd, hTl⟩ := hTp
  obtain ⟨hA, hBb, hmen, hme, a, hsR, hst, hsi, hfa⟩ := hNw
  have h38 := hb.2.2.2.2.1
  have h0 := hb.1
  have hμ : μ < 4 := Nat.lt_of_lt_of_le hμn h38
  obtain ⟨b, hbm, hm, hb65⟩ := hmen μ hμn
  obtain ⟨hk6, hv9, hs20⟩ := hb.2.2.2.2.2.2.2.2.1 μ hμ
  have ht9 := hb.2.2.1 μ hμ
  refine lv_aload_n X.1 X.2.1 dX11_boards_0 rfl (lv_at hl 0 rfl) ?_
  refine g_getr 13 0 X hK hP hTq rfl hinRX11 rfl (by decide) k17 (fun _ h => h) dX11_boards_1 (show va_rf (R q 0) = .ref nw from by rw [hR0]; rfl) ?_
  refine lv_iload_n X.1 X.2.1 dX11_boards_4 rfl (lv_at hl 1 rfl) ?_
  refine g_run_q (f := fun u => u) (g_runV (k := 12) [.int (nI μ)] X hK hP hS hC hB (d_find (σ := σ) hN (hA.2.2.1) h38 hμn hbm) (cwV 1 X.2.2.2.2 gX11_boards_X10_find rfl rfl rfl (by decide +kernel) ⟨Nat.le_of_ble_eq_true rfl, Nat.le_of_ble_eq_true rfl⟩) hN.t0 rfl rfl hl.1 rfl (Nat.le_of_ble_eq_true rfl) dX11_boards_5 (by exact ⟨Nat.zero_le _, Nat.zero_le _⟩)) hS (fun r u H locs hq hP hS => ?_)
  obtain ⟨rfl, rfl⟩ := hq
  have hP : gP D cy B z T I R H := hP
  refine lv_astore (lv' := [(6, .ref b), (0, .ref q), (1, .int (nI μ)), (2, .int x), (3, .int y), (4, .int d9), (5, .int w9)]) X.1 X.2.1 dX11_boards_8 hl (by decide) rfl (fun ls hl => ?_)
  refine lv_aload X.1 X.2.1 dX11_boards_10 (lv_at hl 0 rfl) ?_
  refine lv_ifnull X.1 X.2.1 dX11_boards_12 ?_
  refine lv_iload X.1 X.2.1 dX11_boards_15 (lv_at hl 6 rfl) ?_
  refine lv_iconst (v := 0) X.1 X.2.1 dX11_boards_17 (by decide) ?_
  refine lv_iconst (v := 1) X.1 X.2.1 dX11_boards_18 (by decide) ?_
  refine g_run_i (f := fun u => u) (g_runS [.int w9, .int 0, .int 1] X hK hP hS hC hB (d_outside) (va_cwS 3 X.2.2.2.2 gX11_boards_X11_outside rfl rfl rfl (by decide +kernel) ⟨Nat.le_of_ble_eq_true rfl, Nat.le_of_ble_eq_true rfl⟩) rfl hl.1 rfl (Nat.le_of_ble_eq_true rfl) dX11_boards_19 (by exact ⟨Nat.zero_le _, Nat.zero_le _⟩)) hS (fun r u H locs hq hP hS => ?_)
  obtain ⟨rfl, rfl⟩ := hq
  have hP : gP D cy B z T I R H := hP
  refine lv_if_eq (tgt := 29) X.1 X.2.1 dX11_boards_22 (by decide) (fun c22 => ?_) (fun c22 => ?_)
  · exact absurd hbad (gt_0 c22)
  · refine lv_sipush (v := (-1001)) X.1 X.2.1 dX11_boards_25 (by decide) ?_
    exact g_iret (f := fun u => u) (z, T, I, R) X hr hlk hK hP hS dX11_boards_28 ⟨rfl, rfl⟩

set_option maxHeartbeats 4000000 in
set_option maxRecDepth 100000 in
/-- t_boards_b -/
theorem t_boards_b (hTp : cTop q nw kp tr T R) (hNw : cNw q nw T I R σ fl ti sh) (hG : sGd fl ti sh) (hb : sBd σ K) {μ : Nat} (hμn : μ < σ 38) {w9 : Nat} (hw9 : w9 ≤ 1) {x y d9 : Int32} (hbad : ¬ ((1 ≤ x ∧ x ≤ 20) ∧ (1 ≤ y ∧ y ≤ 3) ∧ (1 ≤ d9 ∧ d9 ≤ 9))) : Met l yX11_boards wsX11_boards ({ frames := 2, cells := 0, slots := 0, locals := 42 }) (va_Pc [.ref q, .int (nI μ), .int x, .int y, .int d9, .int (nI w9)] (gW0 s0 D cy B (z, T, I, R))) (va_Qi (fun r u => r = -1002 ∧ (z, T, I, R) = u) (fun u t => gW1 D cy B u t) (gA B)) 0 0 (gA B) := by
  refine g_met (maxL := 12) (ret := (some .int)) (by decide) rfl (Nat.le_of_ble_eq_true rfl) (fun p e s m args below meth c ls X hr hlk hnm hK hP hC hS hl => ?_)
  have hl : lv_has ls 12 [(0, .ref q), (1, .int (nI μ)), (2, .int x), (3, .int y), (4, .int d9), (5, .int (nI w9))] := hl
  have hP : gP D cy B z T I R s.heap := hP
  have hB : B ≤ s.heap.size := by rw [hP.1]; exact hP.2.1
  have hinRX11 : ∀ w ∈ wsX110, w ∈ wsX11_boards := fun _ h => List.mem_cons_of_mem _ (List.mem_append_left _ (List.mem_append_left _ (List.mem_append_left _ (List.mem_append_left _ (List.mem_append_left _ (List.mem_append_left _ (List.mem_append_left _ (List.mem_append_left _ (List.mem_append_left _ (List.mem_append_left _ (List.mem_append_right _ h)))))))))))
  have hin7 : ∀ κ, κ ≤ 6 → ∀ w ∈ mws κ, w ∈ wsX11_boards := fun κ hκ => by
    rcases k7 hκ with rfl | rfl | rfl | rfl | rfl | rfl | rfl
    · exact fun _ h => List.mem_cons_of_mem _ (List.mem_append_left _ (List.mem_append_left _ (List.mem_append_left _ (List.mem_append_left _ (List.mem_append_left _ (List.mem_append_right _ h))))))
    · exact fun _ h => List.mem_cons_of_mem _ (List.mem_append_left _ (List.mem_append_left _ (List.mem_append_left _ (List.mem_append_left _ (List.mem_append_left _ (List.mem_append_left _ (List.mem_append_left _ (List.mem_append_right _ h))))))))
    · exact fun _ h => List.mem_cons_of_mem _ (List.mem_append_left _ (List.mem_append_right _ h))
    · exact fun _ h => List.mem_cons_of_mem _ (List.mem_append_left _ (List.mem_append_left _ (List.mem_append_left _ (List.mem_append_right _ h))))
    · exact fun _ h => List.mem_cons_of_mem _ (List.mem_append_left _ (List.mem_append_left _ (List.mem_append_left _ (List.mem_append_left _ (List.mem_append_left _ (List.mem_append_left _ (List.mem_append_right _ h)))))))
    · exact fun _ h => List.mem_cons_of_mem _ (List.mem_append_left _ (List.mem_append_left _ (List.mem_append_right _ h)))
    · exact fun _ h => List.mem_cons_of_mem _ (List.mem_append_left _ (List.mem_append_left _ (List.mem_append_left _ (List.mem_append_left _ (List.mem_append_right _ h)))))
  have k17 : Cond.fieldLink RX11 17 "BarrowPlank" "now" "LBarrowPlank$Works;" ∈ wsX11_boards := by decide +kernel
  have k26 : Cond.fieldLink RX11 26 "BarrowPlank" "trial" "LBarrowPlank$Works;" ∈ wsX11_boards := by decide +kernel
  have k147 : Cond.fieldLink RX11 147 "BarrowPlank$Trip" "seconds" "I" ∈ wsX11_boards := by decide +kernel
  have hTp0 := hTp
  have hNw0 := hNw
  obtain ⟨hnw, hkp, htr, hTq, hR0, hR1, hR2, hR3, hR4, hN, hKp, hTr, hTrd, hTl⟩ := hTp
  obtain ⟨hA, hBb, hmen, hme, a, hsR, hst, hsi, hfa⟩ := hNw
  have h38 := hb.2.2.2.2.1
  have h0 := hb.1
  have hμ : μ < 4 := Nat.lt_of_lt_of_le hμn h38
  obtain ⟨b, hbm, hm, hb65⟩ := hmen μ hμn
  obtain ⟨hk6, hv9, hs20⟩ := hb.2.2.2.2.2.2.2.2.1 μ hμ
  have ht9 := hb.2.2.1 μ hμ
  refine lv_aload_n X.1 X.2.1 dX11_boards_0 rfl (lv_at hl 0 rfl) ?_
  refine g_getr 13 0 X hK hP hTq rfl hinRX11 rfl (by decide) k17 (fun _ h => h) dX11_boards_1 (show va_rf (R q 0) = .ref nw from by rw [hR0]; rfl) ?_
  refine lv_iload_n X.1 X.2.1 dX11_boards_4 rfl (lv_at hl 1 rfl) ?_
  refine g_run_q (f := fun u => u) (g_runV (k := 12) [.int (nI μ)] X hK hP hS hC hB (d_find (σ := σ) hN (hA.2.2.1) h38 hμn hbm) (cwV 1 X.2.2.2.2 gX11_boards_X10_find rfl rfl rfl (by decide +kernel) ⟨Nat.le_of_ble_eq_true rfl, Nat.le_of_ble_eq_true rfl⟩) hN.t0 rfl rfl hl.1 rfl (Nat.le_of_ble_eq_true rfl) dX11_boards_5 (by exact ⟨Nat.zero_le _, Nat.zero_le _⟩)) hS (fun r u H locs hq hP hS => ?_)
  obtain ⟨rfl, rfl⟩ := hq
  have hP : gP D cy B z T I R H := hP
  refine lv_astore (lv' := [(6, .ref b), (0, .ref q), (1, .int (nI μ)), (2, .int x), (3, .int y), (4, .int d9), (5, .int (nI w9))]) X.1 X.2.1 dX11_boards_8 hl (by decide) rfl (fun ls hl => ?_)
  refine lv_aload X.1 X.2.1 dX11_boards_10 (lv_at hl 0 rfl) ?_
  refine lv_ifnull X.1 X.2.1 dX11_boards_12 ?_
  refine lv_iload X.1 X.2.1 dX11_boards_15 (lv_at hl 6 rfl) ?_
  refine lv_iconst (v := 0) X.1 X.2.1 dX11_boards_17 (by decide) ?_
  refine lv_iconst (v := 1) X.1 X.2.1 dX11_boards_18 (by decide) ?_
  refine g_run_i (f := fun u => u) (g_runS [.int (nI w9), .int 0, .int 1] X hK hP hS hC hB (d_outside) (va_cwS 3 X.2.2.2.2 gX11_boards_X11_outside rfl rfl rfl (by decide +kernel) ⟨Nat.le_of_ble_eq_true rfl, Nat.le_of_ble_eq_true rfl⟩) rfl hl.1 rfl (Nat.le_of_ble_eq_true rfl) dX11_boards_19 (by exact ⟨Nat.zero_le _, Nat.zero_le _⟩)) hS (fun r u H locs hq hP hS => ?_)
  obtain ⟨rfl, rfl⟩ := hq
  have hP : gP D cy B z T I R H := hP
  refine lv_if_eq (tgt := 29) X.1 X.2.1 dX11_boards_22 (by decide) (fun c22 => ?_) (fun c22 => ?_)
  · refine lv_iload_n X.1 X.2.1 dX11_boards_29 rfl (lv_at hl 3 rfl) ?_
    refine g_run_i (f := fun u => u) (g_runS [.int x] X hK hP hS hC hB (d_badLoad) (va_cwS 1 X.2.2.2.2 gX11_boards_X11_badLoad rfl rfl rfl (by decide +kernel) ⟨Nat.le_of_ble_eq_true rfl, Nat.le_of_ble_eq_true rfl⟩) rfl hl.1 rfl (Nat.le_of_ble_eq_true rfl) dX11_boards_30 (by exact ⟨Nat.zero_le _, Nat.zero_le _⟩)) hS (fun r u H locs hq hP hS => ?_)
    obtain ⟨rfl, rfl⟩ := hq
    have hP : gP D cy B z T I R H := hP
    refine lv_if_ne (tgt := 56) X.1 X.2.1 dX11_boards_33 (by decide) (fun c33 => ?_) (fun c33 => ?_)
    · refine lv_sipush (v := (-1002)) X.1 X.2.1 dX11_boards_56 (by decide) ?_
      exact g_iret (f := fun u => u) (z, T, I, R) X hr hlk hK hP hS dX11_boards_59 ⟨rfl, rfl⟩
    · refine lv_iload_n X.1 X.2.1 dX11_boards_36 rfl (lv_at hl 4 rfl) ?_
      refine lv_iconst (v := 1) X.1 X.2.1 dX11_boards_37 (by decide) ?_
      refine lv_iconst (v := 3) X.1 X.2.1 dX11_boards_38 (by decide) ?_
      refine g_run_i (f := fun u => u) (g_runS [.int y, .int 1, .int 3] X hK hP hS hC hB (d_outside) (va_cwS 3 X.2.2.2.2 gX11_boards_X11_outside rfl rfl rfl (by decide +kernel) ⟨Nat.le_of_ble_eq_true rfl, Nat.le_of_ble_eq_true rfl⟩) rfl hl.1 rfl (Nat.le_of_ble_eq_true rfl) dX11_boards_39 (by exact ⟨Nat.zero_le _, Nat.zero_le _⟩)) hS (fun r u H locs hq hP hS => ?_)
      obtain ⟨rfl, rfl⟩ := hq
      have hP : gP D cy B z T I R H := hP
      refine lv_if_ne (tgt := 56) X.1 X.2.1 dX11_boards_42 (by decide) (fun c42 => ?_) (fun c42 => ?_)
      · refine lv_sipush (v := (-1002)) X.1 X.2.1 dX11_boards_56 (by decide) ?_
        exact g_iret (f := fun u => u) (z, T, I, R) X hr hlk hK hP hS dX11_boards_59 ⟨rfl, rfl⟩
      · refine lv_iload X.1 X.2.1 dX11_boards_45 (lv_at hl 5 rfl) ?_
        refine lv_iconst (v := 1) X.1 X.2.1 dX11_boards_47 (by decide) ?_
        refine lv_bipush (v := 9) X.1 X.2.1 dX11_boards_48 (by decide) ?_
        refine g_run_i (f := fun u => u) (g_runS [.int d9, .int 1, .int 9] X hK hP hS hC hB (d_outside) (va_cwS 3 X.2.2.2.2 gX11_boards_X11_outside rfl rfl rfl (by decide +kernel) ⟨Nat.le_of_ble_eq_true rfl, Nat.le_of_ble_eq_true rfl⟩) rfl hl.1 rfl (Nat.le_of_ble_eq_true rfl) dX11_boards_50 (by exact ⟨Nat.zero_le _, Nat.zero_le _⟩)) hS (fun r u H locs hq hP hS => ?_)
        obtain ⟨rfl, rfl⟩ := hq
        have hP : gP D cy B z T I R H := hP
        refine lv_if_eq (tgt := 60) X.1 X.2.1 dX11_boards_53 (by decide) (fun c53 => ?_) (fun c53 => ?_)
        · exact absurd ⟨Classical.not_not.mp (gt_0 c33), Classical.not_not.mp (gt_0 c42), Classical.not_not.mp (gt_0 c53)⟩ hbad
        · refine lv_sipush (v := (-1002)) X.1 X.2.1 dX11_boards_56 (by decide) ?_
          exact g_iret (f := fun u => u) (z, T, I, R) X hr hlk hK hP hS dX11_boards_59 ⟨rfl, rfl⟩
  · exact absurd (g_le (a := 0) (b := 1) (x := 0) (y := 1) rfl rfl (by omega) (by omega) (by omega)) (gt_1 c22)

theorem bo_1 {P : Nat → Bool} {g : Nat → Nat} {G x n : Nat} (hg : ∀ n, g n ≤ G) (h : ¬ oB (sBs P g n) = -5) : fBoards 1 x (sBs P g n) = nI x - oL (sBs P g n) := by
  generalize sBs P g n = f at *
  rcases f with _ | ⟨b, q⟩
  · exact absurd rfl h
  · rfl
set_option maxHeartbeats 4000000 in
set_option maxRecDepth 100000 in
/-- t_boards_0 -/
theorem t_boards_0 (hTp : cTop q nw kp tr T R) (hNw : cNw q nw T I R σ fl ti sh) (hG : sGd fl ti sh) (hb : sBd σ K) (hcas : gCas s0) {μ : Nat} (hμn : μ < σ 38) {ld : Nat} (hl1 : 1 ≤ ld) (hld : ld ≤ 20) {nb wd : Nat} (hnb1 : 1 ≤ nb) (hnb : nb ≤ 3) (hwd1 : 1 ≤ wd) (hwd : wd ≤ 9) (hKb : K ≤ 25000000) : Met l yX11_boards wsX11_boards ({ frames := 5, cells := 0, slots := 0, locals := 124 }) (va_Pc [.ref q, .int (nI μ), .int (nI ld), .int (nI nb), .int (nI wd), .int 0] (gW0 s0 D cy B (z, T, I, R))) (va_Qi (fun r u => r = fBoards 0 (sSe fl sh σ μ ld) (sBs (sBP σ nb) (fun n => sSe fl sh (sWb σ n wd) μ ld) 1023) ∧ ∃ I' R', u = (z, T, I', R') ∧ cQ q I I' R R') (fun u t => gW1 D cy B u t) (gA B)) 0 0 (gA B) := by
  refine g_met (maxL := 12) (ret := (some .int)) (by decide) rfl (Nat.le_of_ble_eq_true rfl) (fun p e s m args below meth c ls X hr hlk hnm hK hP hC hS hl => ?_)
  have hl : lv_has ls 12 [(0, .ref q), (1, .int (nI μ)), (2, .int (nI ld)), (3, .int (nI nb)), (4, .int (nI wd)), (5, .int 0)] := hl
  have hP : gP D cy B z T I R s.heap := hP
  have hB : B ≤ s.heap.size := by rw [hP.1]; exact hP.2.1
  have hinRX11 : ∀ w ∈ wsX110, w ∈ wsX11_boards := fun _ h => List.mem_cons_of_mem _ (List.mem_append_left _ (List.mem_append_left _ (List.mem_append_left _ (List.mem_append_left _ (List.mem_append_left _ (List.mem_append_left _ (List.mem_append_left _ (List.mem_append_left _ (List.mem_append_left _ (List.mem_append_left _ (List.mem_append_right _ h)))))))))))
  have hinRX8 : ∀ w ∈ wsX80, w ∈ wsX11_boards := fun _ h => List.mem_cons_of_mem _ (List.mem_append_left _ (List.mem_append_left _ (List.mem_append_left _ (List.mem_append_left _ (List.mem_append_left _ (List.mem_append_left _ (List.mem_append_left _ (List.mem_append_left _ (List.mem_append_left _ (List.mem_append_right _ h))))))))))
  have hin7 : ∀ κ, κ ≤ 6 → ∀ w ∈ mws κ, w ∈ wsX11_boards := fun κ hκ => by
    rcases k7 hκ with rfl | rfl | rfl | rfl | rfl | rfl | rfl
    · exact fun _ h => List.mem_cons_of_mem _ (List.mem_append_left _ (List.mem_append_left _ (List.mem_append_left _ (List.mem_append_left _ (List.mem_append_left _ (List.mem_append_right _ h))))))
    · exact fun _ h => List.mem_cons_of_mem _ (List.mem_append_left _ (List.mem_append_left _ (List.mem_append_left _ (List.mem_append_left _ (List.mem_append_left _ (List.mem_append_left _ (List.mem_append_left _ (List.mem_append_right _ h))))))))
    · exact fun _ h => List.mem_cons_of_mem _ (List.mem_append_left _ (List.mem_append_right _ h))
    · exact fun _ h => List.mem_cons_of_mem _ (List.mem_append_left _ (List.mem_append_left _ (List.mem_append_left _ (List.mem_append_right _ h))))
    · exact fun _ h => List.mem_cons_of_mem _ (List.mem_append_left _ (List.mem_append_left _ (List.mem_append_left _ (List.mem_append_left _ (List.mem_append_left _ (List.mem_append_left _ (List.mem_append_right _ h)))))))
    · exact fun _ h => List.mem_cons_of_mem _ (List.mem_append_left _ (List.mem_append_left _ (List.mem_append_right _ h)))
    · exact fun _ h => List.mem_cons_of_mem _ (List.mem_append_left _ (List.mem_append_left _ (List.mem_append_left _ (List.mem_append_left _ (List.mem_append_right _ h)))))
  have k17 : Cond.fieldLink RX11 17 "BarrowPlank" "now" "LBarrowPlank$Works;" ∈ wsX11_boards := by decide +kernel
  have k26 : Cond.fieldLink RX11 26 "BarrowPlank" "trial" "LBarrowPlank$Works;" ∈ wsX11_boards := by decide +kernel
  have k147 : Cond.fieldLink RX11 147 "BarrowPlank$Trip" "seconds" "I" ∈ wsX11_boards := by decide +kernel
  have hTp0 := hTp
  have hNw0 := hNw
  obtain ⟨hnw, hkp, htr, hTq, hR0, hR1, hR2, hR3, hR4, hN, hKp, hTr, hTrd, hTl⟩ := hTp
  obtain ⟨hA, hBb, hmen, hme, a, hsR, hst, hsi, hfa⟩ := hNw
  have h38 := hb.2.2.2.2.1
  have h0 := hb.1
  have hμ : μ < 4 := Nat.lt_of_lt_of_le hμn h38
  obtain ⟨b, hbm, hm, hb65⟩ := hmen μ hμn
  obtain ⟨hk6, hv9, hs20⟩ := hb.2.2.2.2.2.2.2.2.1 μ hμ
  have ht9 := hb.2.2.1 μ hμ
  refine lv_aload_n X.1 X.2.1 dX11_boards_0 rfl (lv_at hl 0 rfl) ?_
  refine g_getr 13 0 X hK hP hTq rfl hinRX11 rfl (by decide) k17 (fun _ h => h) dX11_boards_1 (show va_rf (R q 0) = .ref nw from by rw [hR0]; rfl) ?_
  refine lv_iload_n X.1 X.2.1 dX11_boards_4 rfl (lv_at hl 1 rfl) ?_
  refine g_run_q (f := fun u => u) (g_runV (k := 12) [.int (nI μ)] X hK hP hS hC hB (d_find (σ := σ) hN (hA.2.2.1) h38 hμn hbm) (cwV 1 X.2.2.2.2 gX11_boards_X10_find rfl rfl rfl (by decide +kernel) ⟨Nat.le_of_ble_eq_true rfl, Nat.le_of_ble_eq_true rfl⟩) hN.t0 rfl rfl hl.1 rfl (Nat.le_of_ble_eq_true rfl) dX11_boards_5 (by exact ⟨Nat.zero_le _, Nat.zero_le _⟩)) hS (fun r u H locs hq hP hS => ?_)
  obtain ⟨rfl, rfl⟩ := hq
  have hP : gP D cy B z T I R H := hP
  refine lv_astore (lv' := [(6, .ref b), (0, .ref q), (1, .int (nI μ)), (2, .int (nI ld)), (3, .int (nI nb)), (4, .int (nI wd)), (5, .int 0)]) X.1 X.2.1 dX11_boards_8 hl (by decide) rfl (fun ls hl => ?_)
  refine lv_aload X.1 X.2.1 dX11_boards_10 (lv_at hl 0 rfl) ?_
  refine lv_ifnull X.1 X.2.1 dX11_boards_12 ?_
  refine lv_iload X.1 X.2.1 dX11_boards_15 (lv_at hl 6 rfl) ?_
  refine lv_iconst (v := 0) X.1 X.2.1 dX11_boards_17 (by decide) ?_
  refine lv_iconst (v := 1) X.1 X.2.1 dX11_boards_18 (by decide) ?_
  refine g_run_i (f := fun u => u) (g_runS [.int 0, .int 0, .int 1] X hK hP hS hC hB (d_outside) (va_cwS 3 X.2.2.2.2 gX11_boards_X11_outside rfl rfl rfl (by decide +kernel) ⟨Nat.le_of_ble_eq_true rfl, Nat.le_of_ble_eq_true rfl⟩) rfl hl.1 rfl (Nat.le_of_ble_eq_true rfl) dX11_boards_19 (by exact ⟨Nat.zero_le _, Nat.zero_le _⟩)) hS (fun r u H locs hq hP hS => ?_)
  obtain ⟨rfl, rfl⟩ := hq
  have hP : gP D cy B z T I R H := hP
  refine lv_if_eq (tgt := 29) X.1 X.2.1 dX11_boards_22 (by decide) (fun c22 => ?_) (fun c22 => ?_)
  · refine lv_iload_n X.1 X.2.1 dX11_boards_29 rfl (lv_at hl 3 rfl) ?_
    refine g_run_i (f := fun u => u) (g_runS [.int (nI ld)] X hK hP hS hC hB (d_badLoad) (va_cwS 1 X.2.2.2.2 gX11_boards_X11_badLoad rfl rfl rfl (by decide +kernel) ⟨Nat.le_of_ble_eq_true rfl, Nat.le_of_ble_eq_true rfl⟩) rfl hl.1 rfl (Nat.le_of_ble_eq_true rfl) dX11_boards_30 (by exact ⟨Nat.zero_le _, Nat.zero_le _⟩)) hS (fun r u H locs hq hP hS => ?_)
    obtain ⟨rfl, rfl⟩ := hq
    have hP : gP D cy B z T I R H := hP
    refine lv_if_ne (tgt := 56) X.1 X.2.1 dX11_boards_33 (by decide) (fun c33 => ?_) (fun c33 => ?_)
    · exact absurd (g_le (a := 1) (b := 20) (x := 1) (y := 20) rfl rfl (by omega) (by omega) (by omega)) (gt_1 c33)
    · refine lv_iload_n X.1 X.2.1 dX11_boards_36 rfl (lv_at hl 4 rfl) ?_
      refine lv_iconst (v := 1) X.1 X.2.1 dX11_boards_37 (by decide) ?_
      refine lv_iconst (v := 3) X.1 X.2.1 dX11_boards_38 (by decide) ?_
      refine g_run_i (f := fun u => u) (g_runS [.int (nI nb), .int 1, .int 3] X hK hP hS hC hB (d_outside) (va_cwS 3 X.2.2.2.2 gX11_boards_X11_outside rfl rfl rfl (by decide +kernel) ⟨Nat.le_of_ble_eq_true rfl, Nat.le_of_ble_eq_true rfl⟩) rfl hl.1 rfl (Nat.le_of_ble_eq_true rfl) dX11_boards_39 (by exact ⟨Nat.zero_le _, Nat.zero_le _⟩)) hS (fun r u H locs hq hP hS => ?_)
      obtain ⟨rfl, rfl⟩ := hq
      have hP : gP D cy B z T I R H := hP
      refine lv_if_ne (tgt := 56) X.1 X.2.1 dX11_boards_42 (by decide) (fun c42 => ?_) (fun c42 => ?_)
      · exact absurd (g_le (a := 1) (b := 3) (x := 1) (y := 3) rfl rfl (by omega) (by omega) (by omega)) (gt_1 c42)
      · refine lv_iload X.1 X.2.1 dX11_boards_45 (lv_at hl 5 rfl) ?_
        refine lv_iconst (v := 1) X.1 X.2.1 dX11_boards_47 (by decide) ?_
        refine lv_bipush (v := 9) X.1 X.2.1 dX11_boards_48 (by decide) ?_
        refine g_run_i (f := fun u => u) (g_runS [.int (nI wd), .int 1, .int 9] X hK hP hS hC hB (d_outside) (va_cwS 3 X.2.2.2.2 gX11_boards_X11_outside rfl rfl rfl (by decide +kernel) ⟨Nat.le_of_ble_eq_true rfl, Nat.le_of_ble_eq_true rfl⟩) rfl hl.1 rfl (Nat.le_of_ble_eq_true rfl) dX11_boards_50 (by exact ⟨Nat.zero_le _, Nat.zero_le _⟩)) hS (fun r u H locs hq hP hS => ?_)
        obtain ⟨rfl, rfl⟩ := hq
        have hP : gP D cy B z T I R H := hP
        refine lv_if_eq (tgt := 60) X.1 X.2.1 dX11_boards_53 (by decide) (fun c53 => ?_) (fun c53 => ?_)
        · refine lv_aload_n X.1 X.2.1 dX11_boards_60 rfl (lv_at hl 1 rfl) ?_
          refine g_getr 13 2 X hK hP hTq rfl hinRX11 rfl (by decide) k26 (fun _ h => h) dX11_boards_61 (show va_rf (R q 2) = .ref tr from by rw [hR2]; rfl) ?_
          refine lv_aload_n X.1 X.2.1 dX11_boards_64 rfl (lv_at hl 1 rfl) ?_
          refine g_getr 13 0 X hK hP hTq rfl hinRX11 rfl (by decide) k17 (fun _ h => h) dX11_boards_65 (show va_rf (R q 0) = .ref nw from by rw [hR0]; rfl) ?_
          refine g_run_v (f := fun u => u) (g_runV (k := 12) [.ref nw] X hK hP hS hC hB (d_take hTr hN (by omega) hA hme hsR hst.1 hcas) (cwV 1 X.2.2.2.2 gX11_boards_X10_take rfl rfl rfl (by decide +kernel) ⟨Nat.le_of_ble_eq_true rfl, Nat.le_of_ble_eq_true rfl⟩) hTr.t0 rfl rfl hl.1 rfl (Nat.le_of_ble_eq_true rfl) dX11_boards_68 (by exact ⟨Nat.zero_le _, Nat.zero_le _⟩)) hS (fun u H locs hq hP hS => ?_)
          obtain ⟨IK1, RK1, rfl, hAt, ⟨hm1K1, hm2K1⟩, hknK1, hfIK1, hfRK1⟩ := hq
          have hP : gP D cy B z T IK1 RK1 H := hP
          have hQK1 : cQ q I IK1 R RK1 := ⟨fun c j h => hfIK1 c j (by unfold qF at h; unfold tkW; omega), fun c j h => hfRK1 c j (by unfold qR at h; omega) (by unfold qR at h; omega)⟩
          have hfK1 := hQK1.1
          have hgK1 := hQK1.2
          have hTp := hTp0.fr hQK1.2
          obtain ⟨-, -, -, hTq, hR0, hR1, hR2, hR3, hR4, hN, hKp, hTr, hTrd, hTl⟩ := hTp
          have hA : cA nw IK1 σ := hA.k (fun c j h1 h2 => hfK1 c j (by unfold qF; omega))
          have hBb : cB nw IK1 σ := hBb.k (fun c j h1 h2 => hfK1 c j (by unfold qF; omega))
          have hm : cMn T IK1 σ μ b := hm.k (fun j => hfK1 b j (by unfold qF; omega))
          have hsR : RK1 nw 12 = some a := (hgK1 _ _ (by unfold qR; omega)).trans hsR
          have hst : cSt a T RK1 := hst.fr (fun j => hgK1 _ _ (by unfold qR; omega))
          have hsi : cSi a IK1 fl ti sh := hsi.k (fun c j g1 g2 => hfK1 c j (by unfold qF; omega))
          have hal : cAll tr b a μ T IK1 RK1 σ fl ti sh K := cAll.of (q := q) hTr hAt hm hb65 hfa hst hsi hm2K1 hG hb hμ hμn (by omega) (by omega)
          have hCt : cC tr IK1 fl σ := cC.fg (fun c h1 h2 => hknK1 c h1 h2)
          refine lv_aload_n X.1 X.2.1 dX11_boards_71 rfl (lv_at hl 1 rfl) ?_
          refine g_getr 13 2 X hK hP hTq rfl hinRX11 rfl (by decide) k26 (fun _ h => h) dX11_boards_72 (show va_rf (RK1 q 2) = .ref tr from by rw [hR2]; rfl) ?_
          refine lv_aload X.1 X.2.1 dX11_boards_75 (lv_at hl 0 rfl) ?_
          refine lv_iload_n X.1 X.2.1 dX11_boards_77 rfl (lv_at hl 3 rfl) ?_
          refine g_run_q (f := fun u => u) (g_runV (k := 12) [.ref b, .int (nI ld)] X hK hP hS hC hB (d_plan hal hCt hld) (cwV 2 X.2.2.2.2 gX11_boards_X10_plan rfl rfl rfl (by decide +kernel) ⟨Nat.le_of_ble_eq_true rfl, Nat.le_of_ble_eq_true rfl⟩) hTr.t0 rfl rfl hl.1 rfl (Nat.le_of_ble_eq_true rfl) dX11_boards_78 (by exact ⟨Nat.zero_le _, Nat.zero_le _⟩)) hS (fun r u H locs hq hP hS => ?_)
          obtain ⟨hr9, IP2, rfl, htpP2, hccP2, hfrP2⟩ := hq
          subst hr9
          have hP : gP D cy B z T IP2 RK1 H := hP
          have hallP2 := hal.k (I' := IP2) (fun c j h => hfrP2 c j (by omega))
          refine g_geti 10 4 X hK hP (hallP2.1.tript hallP2.2.2.2.2.2.2.2.2.2.2.1) rfl hinRX8 rfl (by decide) k147 (fun _ h => h) dX11_boards_81 (show IP2 (tr + 11 + μ) 4 = nI (sSe fl sh σ μ ld) from htpP2.2.2.1) ?_
          refine lv_istore (lv' := [(7, .int (nI (sSe fl sh σ μ ld))), (6, .ref b), (0, .ref q), (1, .int (nI μ)), (2, .int (nI ld)), (3, .int (nI nb)), (4, .int (nI wd)), (5, .int 0)]) X.1 X.2.1 dX11_boards_84 hl (by decide) rfl (fun ls hl => ?_)
          refine lv_bipush (v := (-5)) X.1 X.2.1 dX11_boards_86 (by decide) ?_
          refine lv_istore (lv' := [(8, .int (-5)), (7, .int (nI (sSe fl sh σ μ ld))), (6, .ref b), (0, .ref q), (1, .int (nI μ)), (2, .int (nI ld)), (3, .int (nI nb)), (4, .int (nI wd)), (5, .int 0)]) X.1 X.2.1 dX11_boards_88 hl (by decide) rfl (fun ls hl => ?_)
          refine lv_iconst (v := 0) X.1 X.2.1 dX11_boards_90 (by decide) ?_
          refine lv_istore (lv' := [(9, .int 0), (8, .int (-5)), (7, .int (nI (sSe fl sh σ μ ld))), (6, .ref b), (0, .ref q), (1, .int (nI μ)), (2, .int (nI ld)), (3, .int (nI nb)), (4, .int (nI wd)), (5, .int 0)]) X.1 X.2.1 dX11_boards_91 hl (by decide) rfl (fun ls hl => ?_)
          refine lv_iconst (v := 1) X.1 X.2.1 dX11_boards_93 (by decide) ?_
          refine lv_istore (lv' := [(10, .int 1), (9, .int 0), (8, .int (-5)), (7, .int (nI (sSe fl sh σ μ ld))), (6, .ref b), (0, .ref q), (1, .int (nI μ)), (2, .int (nI ld)), (3, .int (nI nb)), (4, .int (nI wd)), (5, .int 0)]) X.1 X.2.1 dX11_boards_94 hl (by decide) rfl (fun ls hl => ?_)
          have hgle : ∀ n, (fun n => sSe fl sh (sWb σ n wd) μ ld) n ≤ 290000 := fun n => sSe_le' hG (sBd_wb hb hwd) hμ ld
          refine i_loop (I := IP2) 1023 96 [] (fun k Q9 ls => (cAll tr b a μ T Q9 RK1 σ fl ti sh K ∧ cC tr Q9 fl σ ∧ cQ q I Q9 R RK1) ∧ lv_has ls 12 [(0, .ref q), (1, .int (nI μ)), (2, .int (nI ld)), (3, .int (nI nb)), (4, .int (nI wd)), (5, .int 0), (6, .ref b), (7, .int (nI (sSe fl sh σ μ ld))), (8, .int (oB (sBs (sBP σ nb) (fun n => sSe fl sh (sWb σ n wd) μ ld) k))), (9, .int (oL (sBs (sBP σ nb) (fun n => sSe fl sh (sWb σ n wd) μ ld) k))), (10, .int (nI (k + 1)))]) 0 (by omega) ⟨⟨hallP2, hccP2, hQK1.k7 htr (fun c j h => hfrP2 c j (by omega))⟩, lv_sub hl [5, 6, 7, 8, 9, 10, 4, 3, 2, 1, 0] rfl⟩ hP hS (fun k Q9 H locs ls hk hiv hP hS ih => ?_)
          obtain ⟨⟨hal9, hcc9, hQ9⟩, hl⟩ := hiv
          have hAt := hal9.2.1
          have hm := hal9.2.2.1
          have hf9 := hQ9.1
          have hpc9 := sPc_le (k + 1) 10
          refine lv_iload X.1 X.2.1 dX11_boards_96 (lv_at hl 10 rfl) ?_
          refine lv_sipush (v := 1024) X.1 X.2.1 dX11_boards_98 (by decide) ?_
          refine lv_icmp_ge (tgt := 192) X.1 X.2.1 dX11_boards_101 (by decide) (fun c101 => ?_) (fun c101 => ?_)
          · have n101 : 1024 ≤ (k + 1) := gq_le c101 (show (1024 : Int32) = nI 1024 from rfl) (Eq.refl (nI (k + 1))) (by omega) (by omega)
            refine lv_iload X.1 X.2.1 dX11_boards_192 (lv_at hl 5 rfl) ?_
            refine lv_if_eq (tgt := 204) X.1 X.2.1 dX11_boards_194 (by decide) (fun c194 => ?_) (fun c194 => ?_)
            · have n194 : 0 = 0 := gq_eq c194 (show (0 : Int32) = nI 0 from rfl) (show (0 : Int32) = nI 0 from rfl) (by omega) (by omega)
              refine lv_iload X.1 X.2.1 dX11_boards_204 (lv_at hl 8 rfl) ?_
              refine lv_goto (tgt := 214) X.1 X.2.1 dX11_boards_206 (by decide) ?_
              obtain rfl : k = 1023 := by omega
              exact g_iret (f := fun u => u) (z, T, Q9, RK1) X hr hlk hK hP hS dX11_boards_214 ⟨(by rcases (sBs (sBP σ nb) (fun n => sSe fl sh (sWb σ n wd) μ ld) 1023) with _ | ⟨b9, q9⟩ <;> rfl), Q9, RK1, rfl, hQ9⟩
            · exact absurd rfl c194
          · have n101 : (k + 1) < 1024 := gq_nle c101 (show (1024 : Int32) = nI 1024 from rfl) (Eq.refl (nI (k + 1))) (by omega) (by omega)
            refine lv_iload X.1 X.2.1 dX11_boards_104 (lv_at hl 10 rfl) ?_
            refine g_run_i (f := fun u => u) (g_runS [.int (nI (k + 1))] X hK hP hS hC hB (j_bc (n := (k + 1)) (by omega)) (va_cwS 1 X.2.2.2.2 gX11_boards_J6_bitCount_0f7a4 rfl rfl rfl (by decide +kernel) ⟨Nat.le_of_ble_eq_true rfl, Nat.le_of_ble_eq_true rfl⟩) rfl hl.1 rfl (Nat.le_of_ble_eq_true rfl) dX11_boards_106 (by exact ⟨Nat.zero_le _, Nat.zero_le _⟩)) hS (fun r u H locs hq hP hS => ?_)
            obtain ⟨rfl, rfl⟩ := hq
            have hP : gP D cy B z T Q9 RK1 H := hP
            refine lv_iload_n X.1 X.2.1 dX11_boards_109 rfl (lv_at hl 3 rfl) ?_
            refine lv_icmp_ne (tgt := 186) X.1 X.2.1 dX11_boards_110 (by decide) (fun c110 => ?_) (fun c110 => ?_)
            · have n110 : ¬ (sPc (k + 1) 10) = nb := gq_ne c110 (Eq.refl (nI (sPc (k + 1) 10))) (Eq.refl (nI nb)) (by omega) (by omega)
              refine lv_iinc (v := nI ((k + 1) + 1)) (lv' := [(10, .int (nI ((k + 1) + 1))), (0, .ref q), (1, .int (nI μ)), (2, .int (nI ld)), (3, .int (nI nb)), (4, .int (nI wd)), (5, .int 0), (6, .ref b), (7, .int (nI (sSe fl sh σ μ ld))), (8, .int (oB (sBs (sBP σ nb) (fun n => sSe fl sh (sWb σ n wd) μ ld) k))), (9, .int (oL (sBs (sBP σ nb) (fun n => sSe fl sh (sWb σ n wd) μ ld) k)))]) X.1 X.2.1 dX11_boards_186 hl (k := 10) rfl (gn_inc (Eq.refl (nI (k + 1))) 1) (by decide) rfl (fun ls hl => ?_)
              refine lv_goto (tgt := 96) X.1 X.2.1 dX11_boards_189 (by decide) ?_
              have e9 : (sBs (sBP σ nb) (fun n => sSe fl sh (sWb σ n wd) μ ld) (k + 1)) = (sBs (sBP σ nb) (fun n => sSe fl sh (sWb σ n wd) μ ld) k) := bs_skip (by unfold sBP; simp [n110])
              exact ih _ _ _ _ (by omega) ⟨⟨hal9, hcc9, hQ9⟩, (by rw [e9]; exact lv_sub hl [1, 2, 3, 4, 5, 6, 7, 8, 9, 10, 0] rfl)⟩ hP hS
            · have n110 : (sPc (k + 1) 10) = nb := gq_eq c110 (Eq.refl (nI (sPc (k + 1) 10))) (Eq.refl (nI nb)) (by omega) (by omega)
              refine lv_aload_n X.1 X.2.1 dX11_boards_113 rfl (lv_at hl 0 rfl) ?_
              refine g_getr 13 2 X hK hP hTq rfl hinRX11 rfl (by decide) k26 (fun _ h => h) dX11_boards_114 (show va_rf (RK1 q 2) = .ref tr from by rw [hR2]; rfl) ?_
              refine lv_iload X.1 X.2.1 dX11_boards_117 (lv_at hl 10 rfl) ?_
              refine g_run_i (f := fun u => u) (g_runV (k := 12) [.int (nI (k + 1))] X hK hP hS hC hB (d_isBare hTr hAt (fun y hy => by have h9 := hb.2.2.2.1 (20 + y) (by omega); rw [← Nat.add_assoc] at h9; exact h9) (by omega)) (cwV 1 X.2.2.2.2 gX11_boards_X10_isBare rfl rfl rfl (by decide +kernel) ⟨Nat.le_of_ble_eq_true rfl, Nat.le_of_ble_eq_true rfl⟩) hTr.t0 rfl rfl hl.1 rfl (Nat.le_of_ble_eq_true rfl) dX11_boards_119 (by exact ⟨Nat.zero_le _, Nat.zero_le _⟩)) hS (fun r u H locs hq hP hS => ?_)
              obtain ⟨hq1, rfl⟩ := hq
              have hP : gP D cy B z T Q9 RK1 H := hP
              obtain rfl : r = gt (sIsBb σ (k + 1) = true) := by rcases hq1 with ⟨rfl, h⟩ | ⟨rfl, h⟩; (· exact (gt_yes ((sIsBb_iff _ _).mpr h)).symm); exact (gt_no (fun g => h ((sIsBb_iff _ _).mp g))).symm
              refine lv_if_ne (tgt := 128) X.1 X.2.1 dX11_boards_122 (by decide) (fun c122 => ?_) (fun c122 => ?_)
              · refine lv_aload_n X.1 X.2.1 dX11_boards_128 rfl (lv_at hl 0 rfl) ?_
                refine g_getr 13 2 X hK hP hTq rfl hinRX11 rfl (by decide) k26 (fun _ h => h) dX11_boards_129 (show va_rf (RK1 q 2) = .ref tr from by rw [hR2]; rfl) ?_
                refine lv_iload X.1 X.2.1 dX11_boards_132 (lv_at hl 10 rfl) ?_
                refine lv_iload X.1 X.2.1 dX11_boards_134 (lv_at hl 4 rfl) ?_
                refine g_run_v (f := fun u => u) (g_runV (k := 12) [.int (nI (k + 1)), .int (nI wd)] X hK hP hS hC hB (d_layAll (wd := wd) hTr hAt hcc9 (by omega)) (cwV 2 X.2.2.2.2 gX11_boards_X10_layAll rfl rfl rfl (by decide +kernel) ⟨Nat.le_of_ble_eq_true rfl, Nat.le_of_ble_eq_true rfl⟩) hTr.t0 rfl rfl hl.1 rfl (Nat.le_of_ble_eq_true rfl) dX11_boards_136 (by exact ⟨Nat.zero_le _, Nat.zero_le _⟩)) hS (fun u H locs hq hP hS => ?_)
                obtain ⟨IL1, rfl, hAL, hCL, hfL⟩ := hq
                have hP : gP D cy B z T IL1 RK1 H := hP
                have hsb : sIsB σ (k + 1) := (sIsBb_iff _ _).mp (gt_1 c122)
                have halL : cAll tr b a μ T IL1 RK1 (sWb σ (k + 1) wd) fl ti sh K := hal9.up hAL (fun i hi => sWb_38 hi) (sBd_wb hb hwd) (fun c j h => hfL c j (by omega) (by omega))
                have hm : cMn T IL1 (sWb σ (k + 1) wd) μ b := halL.2.2.1
                refine lv_aload_n X.1 X.2.1 dX11_boards_139 rfl (lv_at hl 0 rfl) ?_
                refine g_getr 13 2 X hK hP hTq rfl hinRX11 rfl (by decide) k26 (fun _ h => h) dX11_boards_140 (show va_rf (RK1 q 2) = .ref tr from by rw [hR2]; rfl) ?_
                refine lv_aload X.1 X.2.1 dX11_boards_143 (lv_at hl 6 rfl) ?_
                refine lv_iload_n X.1 X.2.1 dX11_boards_145 rfl (lv_at hl 2 rfl) ?_
                refine g_run_q (f := fun u => u) (g_runV (k := 12) [.ref b, .int (nI ld)] X hK hP hS hC hB (d_plan halL hCL hld) (cwV 2 X.2.2.2.2 gX11_boards_X10_plan rfl rfl rfl (by decide +kernel) ⟨Nat.le_of_ble_eq_true rfl, Nat.le_of_ble_eq_true rfl⟩) hTr.t0 rfl rfl hl.1 rfl (Nat.le_of_ble_eq_true rfl) dX11_boards_146 (by exact ⟨Nat.zero_le _, Nat.zero_le _⟩)) hS (fun r u H locs hq hP hS => ?_)
                obtain ⟨hr9, IP3, rfl, htpP3, hccP3, hfrP3⟩ := hq
                subst hr9
                have hP : gP D cy B z T IP3 RK1 H := hP
                have hallP3 := halL.k (I' := IP3) (fun c j h => hfrP3 c j (by omega))
                refine g_geti 10 4 X hK hP (hallP3.1.tript hallP3.2.2.2.2.2.2.2.2.2.2.1) rfl hinRX8 rfl (by decide) k147 (fun _ h => h) dX11_boards_149 (show IP3 (tr + 11 + μ) 4 = nI (sSe fl sh (sWb σ (k + 1) wd) μ ld) from htpP3.2.2.1) ?_
                refine lv_istore (lv' := [(11, .int (nI (sSe fl sh (sWb σ (k + 1) wd) μ ld))), (0, .ref q), (1, .int (nI μ)), (2, .int (nI ld)), (3, .int (nI nb)), (4, .int (nI wd)), (5, .int 0), (6, .ref b), (7, .int (nI (sSe fl sh σ μ ld))), (8, .int (oB (sBs (sBP σ nb) (fun n => sSe fl sh (sWb σ n wd) μ ld) k))), (9, .int (oL (sBs (sBP σ nb) (fun n => sSe fl sh (sWb σ n wd) μ ld) k))), (10, .int (nI (k + 1)))]) X.1 X.2.1 dX11_boards_152 hl (by decide) rfl (fun ls hl => ?_)
                refine lv_aload_n X.1 X.2.1 dX11_boards_154 rfl (lv_at hl 1 rfl) ?_
                refine g_getr 13 2 X hK hP hTq rfl hinRX11 rfl (by decide) k26 (fun _ h => h) dX11_boards_155 (show va_rf (RK1 q 2) = .ref tr from by rw [hR2]; rfl) ?_
                refine lv_iload X.1 X.2.1 dX11_boards_158 (lv_at hl 11 rfl) ?_
                refine lv_iconst (v := 0) X.1 X.2.1 dX11_boards_160 (by decide) ?_
                refine g_run_v (f := fun u => u) (g_runV (k := 12) [.int (nI (k + 1)), .int 0] X hK hP hS hC hB (d_layAll (st := k + 1) (wd := 0) hTr hallP3.2.1 hccP3 (by omega)) (cwV 2 X.2.2.2.2 gX11_boards_X10_layAll rfl rfl rfl (by decide +kernel) ⟨Nat.le_of_ble_eq_true rfl, Nat.le_of_ble_eq_true rfl⟩) hTr.t0 rfl rfl hl.1 rfl (Nat.le_of_ble_eq_true rfl) dX11_boards_161 (by exact ⟨Nat.zero_le _, Nat.zero_le _⟩)) hS (fun u H locs hq hP hS => ?_)
                obtain ⟨IL2, rfl, hAM, hCM, hfM⟩ := hq
                have hP : gP D cy B z T IL2 RK1 H := hP
                rw [sWb_bk hsb] at hAM hCM
                have hkk : ∀ c j, ¬ (tr ≤ c ∧ c < tr + 15) → IL2 c j = Q9 c j := fun c j h => (hfM c j (by omega) (by omega)).trans ((hfrP3 c j (by omega)).trans (hfL c j (by omega) (by omega)))
                have halM : cAll tr b a μ T IL2 RK1 σ fl ti sh K := hal9.up hAM (fun _ _ => rfl) hb hkk
                refine lv_iload X.1 X.2.1 dX11_boards_164 (lv_at hl 9 rfl) ?_
                refine lv_bipush (v := (-5)) X.1 X.2.1 dX11_boards_166 (by decide) ?_
                refine lv_icmp_eq (tgt := 178) X.1 X.2.1 dX11_boards_168 (by decide) (fun c168 => ?_) (fun c168 => ?_)
                · refine lv_iload X.1 X.2.1 dX11_boards_178 (lv_at hl 11 rfl) ?_
                  refine lv_istore (lv' := [(8, .int (nI (k + 1))), (11, .int (nI (sSe fl sh (sWb σ (k + 1) wd) μ ld))), (0, .ref q), (1, .int (nI μ)), (2, .int (nI ld)), (3, .int (nI nb)), (4, .int (nI wd)), (5, .int 0), (6, .ref b), (7, .int (nI (sSe fl sh σ μ ld))), (9, .int (oL (sBs (sBP σ nb) (fun n => sSe fl sh (sWb σ n wd) μ ld) k))), (10, .int (nI (k + 1)))]) X.1 X.2.1 dX11_boards_180 hl (by decide) rfl (fun ls hl => ?_)
                  refine lv_iload X.1 X.2.1 dX11_boards_182 (lv_at hl 1 rfl) ?_
                  refine lv_istore (lv' := [(9, .int (nI (sSe fl sh (sWb σ (k + 1) wd) μ ld))), (8, .int (nI (k + 1))), (11, .int (nI (sSe fl sh (sWb σ (k + 1) wd) μ ld))), (0, .ref q), (1, .int (nI μ)), (2, .int (nI ld)), (3, .int (nI nb)), (4, .int (nI wd)), (5, .int 0), (6, .ref b), (7, .int (nI (sSe fl sh σ μ ld))), (10, .int (nI (k + 1)))]) X.1 X.2.1 dX11_boards_184 hl (by decide) rfl (fun ls hl => ?_)
                  refine lv_iinc (v := nI ((k + 1) + 1)) (lv' := [(10, .int (nI ((k + 1) + 1))), (9, .int (nI (sSe fl sh (sWb σ (k + 1) wd) μ ld))), (8, .int (nI (k + 1))), (11, .int (nI (sSe fl sh (sWb σ (k + 1) wd) μ ld))), (0, .ref q), (1, .int (nI μ)), (2, .int (nI ld)), (3, .int (nI nb)), (4, .int (nI wd)), (5, .int 0), (6, .ref b), (7, .int (nI (sSe fl sh σ μ ld)))]) X.1 X.2.1 dX11_boards_186 hl (k := 11) rfl (gn_inc (Eq.refl (nI (k + 1))) 1) (by decide) rfl (fun ls hl => ?_)
                  refine lv_goto (tgt := 96) X.1 X.2.1 dX11_boards_189 (by decide) ?_
                  have hPT : sBP σ nb (k + 1) = true := by unfold sBP; simp [gt_1 c122, n110]
                  have e9 : (sBs (sBP σ nb) (fun n => sSe fl sh (sWb σ n wd) μ ld) (k + 1)) = some (k + 1, sSe fl sh (sWb σ (k + 1) wd) μ ld) := bs_new hgle (by omega) hPT c168
                  exact ih _ _ _ _ (by omega) ⟨⟨halM, hCM, hQ9.k7 htr hkk⟩, (by rw [e9]; exact lv_sub hl [4, 5, 6, 7, 8, 9, 10, 11, 2, 1, 0] rfl)⟩ hP hS
                · refine lv_iload X.1 X.2.1 dX11_boards_171 (lv_at hl 0 rfl) ?_
                  refine lv_iload X.1 X.2.1 dX11_boards_173 (lv_at hl 10 rfl) ?_
                  refine lv_icmp_ge (tgt := 186) X.1 X.2.1 dX11_boards_175 (by decide) (fun c175 => ?_) (fun c175 => ?_)
                  · refine lv_iinc (v := nI ((k + 1) + 1)) (lv' := [(10, .int (nI ((k + 1) + 1))), (11, .int (nI (sSe fl sh (sWb σ (k + 1) wd) μ ld))), (0, .ref q), (1, .int (nI μ)), (2, .int (nI ld)), (3, .int (nI nb)), (4, .int (nI wd)), (5, .int 0), (6, .ref b), (7, .int (nI (sSe fl sh σ μ ld))), (8, .int (oB (sBs (sBP σ nb) (fun n => sSe fl sh (sWb σ n wd) μ ld) k))), (9, .int (oL (sBs (sBP σ nb) (fun n => sSe fl sh (sWb σ n wd) μ ld) k)))]) X.1 X.2.1 dX11_boards_186 hl (k := 11) rfl (gn_inc (Eq.refl (nI (k + 1))) 1) (by decide) rfl (fun ls hl => ?_)
                    refine lv_goto (tgt := 96) X.1 X.2.1 dX11_boards_189 (by decide) ?_
                    have hPT : sBP σ nb (k + 1) = true := by unfold sBP; simp [gt_1 c122, n110]
                    have e9 : (sBs (sBP σ nb) (fun n => sSe fl sh (sWb σ n wd) μ ld) (k + 1)) = (sBs (sBP σ nb) (fun n => sSe fl sh (sWb σ n wd) μ ld) k) := (bs_le hgle (by omega) hPT c168).1 c175
                    exact ih _ _ _ _ (by omega) ⟨⟨halM, hCM, hQ9.k7 htr hkk⟩, (by rw [e9]; exact lv_sub hl [2, 3, 4, 5, 6, 7, 8, 9, 10, 11, 0] rfl)⟩ hP hS
                  · refine lv_iload X.1 X.2.1 dX11_boards_178 (lv_at hl 11 rfl) ?_
                    refine lv_istore (lv' := [(8, .int (nI (k + 1))), (11, .int (nI (sSe fl sh (sWb σ (k + 1) wd) μ ld))), (0, .ref q), (1, .int (nI μ)), (2, .int (nI ld)), (3, .int (nI nb)), (4, .int (nI wd)), (5, .int 0), (6, .ref b), (7, .int (nI (sSe fl sh σ μ ld))), (9, .int (oL (sBs (sBP σ nb) (fun n => sSe fl sh (sWb σ n wd) μ ld) k))), (10, .int (nI (k + 1)))]) X.1 X.2.1 dX11_boards_180 hl (by decide) rfl (fun ls hl => ?_)
                    refine lv_iload X.1 X.2.1 dX11_boards_182 (lv_at hl 1 rfl) ?_
                    refine lv_istore (lv' := [(9, .int (nI (sSe fl sh (sWb σ (k + 1) wd) μ ld))), (8, .int (nI (k + 1))), (11, .int (nI (sSe fl sh (sWb σ (k + 1) wd) μ ld))), (0, .ref q), (1, .int (nI μ)), (2, .int (nI ld)), (3, .int (nI nb)), (4, .int (nI wd)), (5, .int 0), (6, .ref b), (7, .int (nI (sSe fl sh σ μ ld))), (10, .int (nI (k + 1)))]) X.1 X.2.1 dX11_boards_184 hl (by decide) rfl (fun ls hl => ?_)
                    refine lv_iinc (v := nI ((k + 1) + 1)) (lv' := [(10, .int (nI ((k + 1) + 1))), (9, .int (nI (sSe fl sh (sWb σ (k + 1) wd) μ ld))), (8, .int (nI (k + 1))), (11, .int (nI (sSe fl sh (sWb σ (k + 1) wd) μ ld))), (0, .ref q), (1, .int (nI μ)), (2, .int (nI ld)), (3, .int (nI nb)), (4, .int (nI wd)), (5, .int 0), (6, .ref b), (7, .int (nI (sSe fl sh σ μ ld)))]) X.1 X.2.1 dX11_boards_186 hl (k := 11) rfl (gn_inc (Eq.refl (nI (k + 1))) 1) (by decide) rfl (fun ls hl => ?_)
                    refine lv_goto (tgt := 96) X.1 X.2.1 dX11_boards_189 (by decide) ?_
                    have hPT : sBP σ nb (k + 1) = true := by unfold sBP; simp [gt_1 c122, n110]
                    have e9 : (sBs (sBP σ nb) (fun n => sSe fl sh (sWb σ n wd) μ ld) (k + 1)) = some (k + 1, sSe fl sh (sWb σ (k + 1) wd) μ ld) := (bs_le hgle (by omega) hPT c168).2 c175
                    exact ih _ _ _ _ (by omega) ⟨⟨halM, hCM, hQ9.k7 htr hkk⟩, (by rw [e9]; exact lv_sub hl [4, 5, 6, 7, 8, 9, 10, 11, 2, 1, 0] rfl)⟩ hP hS
              · refine lv_goto (tgt := 186) X.1 X.2.1 dX11_boards_125 (by decide) ?_
                refine lv_iinc (v := nI ((k + 1) + 1)) (lv' := [(10, .int (nI ((k + 1) + 1))), (0, .ref q), (1, .int (nI μ)), (2, .int (nI ld)), (3, .int (nI nb)), (4, .int (nI wd)), (5, .int 0), (6, .ref b), (7, .int (nI (sSe fl sh σ μ ld))), (8, .int (oB (sBs (sBP σ nb) (fun n => sSe fl sh (sWb σ n wd) μ ld) k))), (9, .int (oL (sBs (sBP σ nb) (fun n => sSe fl sh (sWb σ n wd) μ ld) k)))]) X.1 X.2.1 dX11_boards_186 hl (k := 10) rfl (gn_inc (Eq.refl (nI (k + 1))) 1) (by decide) rfl (fun ls hl => ?_)
                refine lv_goto (tgt := 96) X.1 X.2.1 dX11_boards_189 (by decide) ?_
                have e9 : (sBs (sBP σ nb) (fun n => sSe fl sh (sWb σ n wd) μ ld) (k + 1)) = (sBs (sBP σ nb) (fun n => sSe fl sh (sWb σ n wd) μ ld) k) := bs_skip (by unfold sBP; simp [gt_0 c122])
                exact ih _ _ _ _ (by omega) ⟨⟨hal9, hcc9, hQ9⟩, (by rw [e9]; exact lv_sub hl [1, 2, 3, 4, 5, 6, 7, 8, 9, 10, 0] rfl)⟩ hP hS
        · exact absurd (g_le (a := 1) (b := 9) (x := 1) (y := 9) rfl rfl (by omega) (by omega) (by omega)) (gt_1 c53)
  · exact absurd (by decide) (gt_1 c22)

set_option maxHeartbeats 4000000 in
set_option maxRecDepth 100000 in
/-- t_boards_1 -/
theorem t_boards_1 (hTp : cTop q nw kp tr T R) (hNw : cNw q nw T I R σ fl ti sh) (hG : sGd fl ti sh) (hb : sBd σ K) (hcas : gCas s0) {μ : Nat} (hμn : μ < σ 38) {ld : Nat} (hl1 : 1 ≤ ld) (hld : ld ≤ 20) {nb wd : Nat} (hnb1 : 1 ≤ nb) (hnb : nb ≤ 3) (hwd1 : 1 ≤ wd) (hwd : wd ≤ 9) (hKb : K ≤ 25000000) : Met l yX11_boards wsX11_boards ({ frames := 5, cells := 0, slots := 0, locals := 124 }) (va_Pc [.ref q, .int (nI μ), .int (nI ld), .int (nI nb), .int (nI wd), .int 1] (gW0 s0 D cy B (z, T, I, R))) (va_Qi (fun r u => r = fBoards 1 (sSe fl sh σ μ ld) (sBs (sBP σ nb) (fun n => sSe fl sh (sWb σ n wd) μ ld) 1023) ∧ ∃ I' R', u = (z, T, I', R') ∧ cQ q I I' R R') (fun u t => gW1 D cy B u t) (gA B)) 0 0 (gA B) := by
  refine g_met (maxL := 12) (ret := (some .int)) (by decide) rfl (Nat.le_of_ble_eq_true rfl) (fun p e s m args below meth c ls X hr hlk hnm hK hP hC hS hl => ?_)
  have hl : lv_has ls 12 [(0, .ref q), (1, .int (nI μ)), (2, .int (nI ld)), (3, .int (nI nb)), (4, .int (nI wd)), (5, .int 1)] := hl
  have hP : gP D cy B z T I R s.heap := hP
  have hB : B ≤ s.heap.size := by rw [hP.1]; exact hP.2.1
  have hinRX11 : ∀ w ∈ wsX110, w ∈ wsX11_boards := fun _ h => List.mem_cons_of_mem _ (List.mem_append_left _ (List.mem_append_left _ (List.mem_append_left _ (List.mem_append_left _ (List.mem_append_left _ (List.mem_append_left _ (List.mem_append_left _ (List.mem_append_left _ (List.mem_append_left _ (List.mem_append_left _ (List.mem_append_right _ h)))))))))))
  have hinRX8 : ∀ w ∈ wsX80, w ∈ wsX11_boards := fun _ h => List.mem_cons_of_mem _ (List.mem_append_left _ (List.mem_append_left _ (List.mem_append_left _ (List.mem_append_left _ (List.mem_append_left _ (List.mem_append_left _ (List.mem_append_left _ (List.mem_append_left _ (List.mem_append_left _ (List.mem_append_right _ h))))))))))
  have hin7 : ∀ κ, κ ≤ 6 → ∀ w ∈ mws κ, w ∈ wsX11_boards := fun κ hκ => by
    rcases k7 hκ with rfl | rfl | rfl | rfl | rfl | rfl | rfl
    · exact fun _ h => List.mem_cons_of_mem _ (List.mem_append_left _ (List.mem_append_left _ (List.mem_append_left _ (List.mem_append_left _ (List.mem_append_left _ (List.mem_append_right _ h))))))
    · exact fun _ h => List.mem_cons_of_mem _ (List.mem_append_left _ (List.mem_append_left _ (List.mem_append_left _ (List.mem_append_left _ (List.mem_append_left _ (List.mem_append_left _ (List.mem_append_left _ (List.mem_append_right _ h))))))))
    · exact fun _ h => List.mem_cons_of_mem _ (List.mem_append_left _ (List.mem_append_right _ h))
    · exact fun _ h => List.mem_cons_of_mem _ (List.mem_append_left _ (List.mem_append_left _ (List.mem_append_left _ (List.mem_append_right _ h))))
    · exact fun _ h => List.mem_cons_of_mem _ (List.mem_append_left _ (List.mem_append_left _ (List.mem_append_left _ (List.mem_append_left _ (List.mem_append_left _ (List.mem_append_left _ (List.mem_append_right _ h)))))))
    · exact fun _ h => List.mem_cons_of_mem _ (List.mem_append_left _ (List.mem_append_left _ (List.mem_append_right _ h)))
    · exact fun _ h => List.mem_cons_of_mem _ (List.mem_append_left _ (List.mem_append_left _ (List.mem_append_left _ (List.mem_append_left _ (List.mem_append_right _ h)))))
  have k17 : Cond.fieldLink RX11 17 "BarrowPlank" "now" "LBarrowPlank$Works;" ∈ wsX11_boards := by decide +kernel
  have k26 : Cond.fieldLink RX11 26 "BarrowPlank" "trial" "LBarrowPlank$Works;" ∈ wsX11_boards := by decide +kernel
  have k147 : Cond.fieldLink RX11 147 "BarrowPlank$Trip" "seconds" "I" ∈ wsX11_boards := by decide +kernel
  have hTp0 := hTp
  have hNw0 := hNw
  obtain ⟨hnw, hkp, htr, hTq, hR0, hR1, hR2, hR3, hR4, hN, hKp, hTr, hTrd, hTl⟩ := hTp
  obtain ⟨hA, hBb, hmen, hme, a, hsR, hst, hsi, hfa⟩ := hNw
  have h38 := hb.2.2.2.2.1
  have h0 := hb.1
  have hμ : μ < 4 := Nat.lt_of_lt_of_le hμn h38
  obtain ⟨b, hbm, hm, hb65⟩ := hmen μ hμn
  obtain ⟨hk6, hv9, hs20⟩ := hb.2.2.2.2.2.2.2.2.1 μ hμ
  have ht9 := hb.2.2.1 μ hμ
  refine lv_aload_n X.1 X.2.1 dX11_boards_0 rfl (lv_at hl 0 rfl) ?_
  refine g_getr 13 0 X hK hP hTq rfl hinRX11 rfl (by decide) k17 (fun _ h => h) dX11_boards_1 (show va_rf (R q 0) = .ref nw from by rw [hR0]; rfl) ?_
  refine lv_iload_n X.1 X.2.1 dX11_boards_4 rfl (lv_at hl 1 rfl) ?_
  refine g_run_q (f := fun u => u) (g_runV (k := 12) [.int (nI μ)] X hK hP hS hC hB (d_find (σ := σ) hN (hA.2.2.1) h38 hμn hbm) (cwV 1 X.2.2.2.2 gX11_boards_X10_find rfl rfl rfl (by decide +kernel) ⟨Nat.le_of_ble_eq_true rfl, Nat.le_of_ble_eq_true rfl⟩) hN.t0 rfl rfl hl.1 rfl (Nat.le_of_ble_eq_true rfl) dX11_boards_5 (by exact ⟨Nat.zero_le _, Nat.zero_le _⟩)) hS (fun r u H locs hq hP hS => ?_)
  obtain ⟨rfl, rfl⟩ := hq
  have hP : gP D cy B z T I R H := hP
  refine lv_astore (lv' := [(6, .ref b), (0, .ref q), (1, .int (nI μ)), (2, .int (nI ld)), (3, .int (nI nb)), (4, .int (nI wd)), (5, .int 1)]) X.1 X.2.1 dX11_boards_8 hl (by decide) rfl (fun ls hl => ?_)
  refine lv_aload X.1 X.2.1 dX11_boards_10 (lv_at hl 0 rfl) ?_
  refine lv_ifnull X.1 X.2.1 dX11_boards_12 ?_
  refine lv_iload X.1 X.2.1 dX11_boards_15 (lv_at hl 6 rfl) ?_
  refine lv_iconst (v := 0) X.1 X.2.1 dX11_boards_17 (by decide) ?_
  refine lv_iconst (v := 1) X.1 X.2.1 dX11_boards_18 (by decide) ?_
  refine g_run_i (f := fun u => u) (g_runS [.int 1, .int 0, .int 1] X hK hP hS hC hB (d_outside) (va_cwS 3 X.2.2.2.2 gX11_boards_X11_outside rfl rfl rfl (by decide +kernel) ⟨Nat.le_of_ble_eq_true rfl, Nat.le_of_ble_eq_true rfl⟩) rfl hl.1 rfl (Nat.le_of_ble_eq_true rfl) dX11_boards_19 (by exact ⟨Nat.zero_le _, Nat.zero_le _⟩)) hS (fun r u H locs hq hP hS => ?_)
  obtain ⟨rfl, rfl⟩ := hq
  have hP : gP D cy B z T I R H := hP
  refine lv_if_eq (tgt := 29) X.1 X.2.1 dX11_boards_22 (by decide) (fun c22 => ?_) (fun c22 => ?_)
  · refine lv_iload_n X.1 X.2.1 dX11_boards_29 rfl (lv_at hl 3 rfl) ?_
    refine g_run_i (f := fun u => u) (g_runS [.int (nI ld)] X hK hP hS hC hB (d_badLoad) (va_cwS 1 X.2.2.2.2 gX11_boards_X11_badLoad rfl rfl rfl (by decide +kernel) ⟨Nat.le_of_ble_eq_true rfl, Nat.le_of_ble_eq_true rfl⟩) rfl hl.1 rfl (Nat.le_of_ble_eq_true rfl) dX11_boards_30 (by exact ⟨Nat.zero_le _, Nat.zero_le _⟩)) hS (fun r u H locs hq hP hS => ?_)
    obtain ⟨rfl, rfl⟩ := hq
    have hP : gP D cy B z T I R H := hP
    refine lv_if_ne (tgt := 56) X.1 X.2.1 dX11_boards_33 (by decide) (fun c33 => ?_) (fun c33 => ?_)
    · exact absurd (g_le (a := 1) (b := 20) (x := 1) (y := 20) rfl rfl (by omega) (by omega) (by omega)) (gt_1 c33)
    · refine lv_iload_n X.1 X.2.1 dX11_boards_36 rfl (lv_at hl 4 rfl) ?_
      refine lv_iconst (v := 1) X.1 X.2.1 dX11_boards_37 (by decide) ?_
      refine lv_iconst (v := 3) X.1 X.2.1 dX11_boards_38 (by decide) ?_
      refine g_run_i (f := fun u => u) (g_runS [.int (nI nb), .int 1, .int 3] X hK hP hS hC hB (d_outside) (va_cwS 3 X.2.2.2.2 gX11_boards_X11_outside rfl rfl rfl (by decide +kernel) ⟨Nat.le_of_ble_eq_true rfl, Nat.le_of_ble_eq_true rfl⟩) rfl hl.1 rfl (Nat.le_of_ble_eq_true rfl) dX11_boards_39 (by exact ⟨Nat.zero_le _, Nat.zero_le _⟩)) hS (fun r u H locs hq hP hS => ?_)
      obtain ⟨rfl, rfl⟩ := hq
      have hP : gP D cy B z T I R H := hP
      refine lv_if_ne (tgt := 56) X.1 X.2.1 dX11_boards_42 (by decide) (fun c42 => ?_) (fun c42 => ?_)
      · exact absurd (g_le (a := 1) (b := 3) (x := 1) (y := 3) rfl rfl (by omega) (by omega) (by omega)) (gt_1 c42)
      · refine lv_iload X.1 X.2.1 dX11_boards_45 (lv_at hl 5 rfl) ?_
        refine lv_iconst (v := 1) X.1 X.2.1 dX11_boards_47 (by decide) ?_
        refine lv_bipush (v := 9) X.1 X.2.1 dX11_boards_48 (by decide) ?_
        refine g_run_i (f := fun u => u) (g_runS [.int (nI wd), .int 1, .int 9] X hK hP hS hC hB (d_outside) (va_cwS 3 X.2.2.2.2 gX11_boards_X11_outside rfl rfl rfl (by decide +kernel) ⟨Nat.le_of_ble_eq_true rfl, Nat.le_of_ble_eq_true rfl⟩) rfl hl.1 rfl (Nat.le_of_ble_eq_true rfl) dX11_boards_50 (by exact ⟨Nat.zero_le _, Nat.zero_le _⟩)) hS (fun r u H locs hq hP hS => ?_)
        obtain ⟨rfl, rfl⟩ := hq
        have hP : gP D cy B z T I R H := hP
        refine lv_if_eq (tgt := 60) X.1 X.2.1 dX11_boards_53 (by decide) (fun c53 => ?_) (fun c53 => ?_)
        · refine lv_aload_n X.1 X.2.1 dX11_boards_60 rfl (lv_at hl 1 rfl) ?_
          refine g_getr 13 2 X hK hP hTq rfl hinRX11 rfl (by decide) k26 (fun _ h => h) dX11_boards_61 (show va_rf (R q 2) = .ref tr from by rw [hR2]; rfl) ?_
          refine lv_aload_n X.1 X.2.1 dX11_boards_64 rfl (lv_at hl 1 rfl) ?_
          refine g_getr 13 0 X hK hP hTq rfl hinRX11 rfl (by decide) k17 (fun _ h => h) dX11_boards_65 (show va_rf (R q 0) = .ref nw from by rw [hR0]; rfl) ?_
          refine g_run_v (f := fun u => u) (g_runV (k := 12) [.ref nw] X hK hP hS hC hB (d_take hTr hN (by omega) hA hme hsR hst.1 hcas) (cwV 1 X.2.2.2.2 gX11_boards_X10_take rfl rfl rfl (by decide +kernel) ⟨Nat.le_of_ble_eq_true rfl, Nat.le_of_ble_eq_true rfl⟩) hTr.t0 rfl rfl hl.1 rfl (Nat.le_of_ble_eq_true rfl) dX11_boards_68 (by exact ⟨Nat.zero_le _, Nat.zero_le _⟩)) hS (fun u H locs hq hP hS => ?_)
          obtain ⟨IK1, RK1, rfl, hAt, ⟨hm1K1, hm2K1⟩, hknK1, hfIK1, hfRK1⟩ := hq
          have hP : gP D cy B z T IK1 RK1 H := hP
          have hQK1 : cQ q I IK1 R RK1 := ⟨fun c j h => hfIK1 c j (by unfold qF at h; unfold tkW; omega), fun c j h => hfRK1 c j (by unfold qR at h; omega) (by unfold qR at h; omega)⟩
          have hfK1 := hQK1.1
          have hgK1 := hQK1.2
          have hTp := hTp0.fr hQK1.2
          obtain ⟨-, -, -, hTq, hR0, hR1, hR2, hR3, hR4, hN, hKp, hTr, hTrd, hTl⟩ := hTp
          have hA : cA nw IK1 σ := hA.k (fun c j h1 h2 => hfK1 c j (by unfold qF; omega))
          have hBb : cB nw IK1 σ := hBb.k (fun c j h1 h2 => hfK1 c j (by unfold qF; omega))
          have hm : cMn T IK1 σ μ b := hm.k (fun j => hfK1 b j (by unfold qF; omega))
          have hsR : RK1 nw 12 = some a := (hgK1 _ _ (by unfold qR; omega)).trans hsR
          have hst : cSt a T RK1 := hst.fr (fun j => hgK1 _ _ (by unfold qR; omega))
          have hsi : cSi a IK1 fl ti sh := hsi.k (fun c j g1 g2 => hfK1 c j (by unfold qF; omega))
          have hal : cAll tr b a μ T IK1 RK1 σ fl ti sh K := cAll.of (q := q) hTr hAt hm hb65 hfa hst hsi hm2K1 hG hb hμ hμn (by omega) (by omega)
          have hCt : cC tr IK1 fl σ := cC.fg (fun c h1 h2 => hknK1 c h1 h2)
          refine lv_aload_n X.1 X.2.1 dX11_boards_71 rfl (lv_at hl 1 rfl) ?_
          refine g_getr 13 2 X hK hP hTq rfl hinRX11 rfl (by decide) k26 (fun _ h => h) dX11_boards_72 (show va_rf (RK1 q 2) = .ref tr from by rw [hR2]; rfl) ?_
          refine lv_aload X.1 X.2.1 dX11_boards_75 (lv_at hl 0 rfl) ?_
          refine lv_iload_n X.1 X.2.1 dX11_boards_77 rfl (lv_at hl 3 rfl) ?_
          refine g_run_q (f := fun u => u) (g_runV (k := 12) [.ref b, .int (nI ld)] X hK hP hS hC hB (d_plan hal hCt hld) (cwV 2 X.2.2.2.2 gX11_boards_X10_plan rfl rfl rfl (by decide +kernel) ⟨Nat.le_of_ble_eq_true rfl, Nat.le_of_ble_eq_true rfl⟩) hTr.t0 rfl rfl hl.1 rfl (Nat.le_of_ble_eq_true rfl) dX11_boards_78 (by exact ⟨Nat.zero_le _, Nat.zero_le _⟩)) hS (fun r u H locs hq hP hS => ?_)
          obtain ⟨hr9, IP2, rfl, htpP2, hccP2, hfrP2⟩ := hq
          subst hr9
          have hP : gP D cy B z T IP2 RK1 H := hP
          have hallP2 := hal.k (I' := IP2) (fun c j h => hfrP2 c j (by omega))
          refine g_geti 10 4 X hK hP (hallP2.1.tript hallP2.2.2.2.2.2.2.2.2.2.2.1) rfl hinRX8 rfl (by decide) k147 (fun _ h => h) dX11_boards_81 (show IP2 (tr + 11 + μ) 4 = nI (sSe fl sh σ μ ld) from htpP2.2.2.1) ?_
          refine lv_istore (lv' := [(7, .int (nI (sSe fl sh σ μ ld))), (6, .ref b), (0, .ref q), (1, .int (nI μ)), (2, .int (nI ld)), (3, .int (nI nb)), (4, .int (nI wd)), (5, .int 1)]) X.1 X.2.1 dX11_boards_84 hl (by decide) rfl (fun ls hl => ?_)
          refine lv_bipush (v := (-5)) X.1 X.2.1 dX11_boards_86 (by decide) ?_
          refine lv_istore (lv' := [(8, .int (-5)), (7, .int (nI (sSe fl sh σ μ ld))), (6, .ref b), (0, .ref q), (1, .int (nI μ)), (2, .int (nI ld)), (3, .int (nI nb)), (4, .int (nI wd)), (5, .int 1)]) X.1 X.2.1 dX11_boards_88 hl (by decide) rfl (fun ls hl => ?_)
          refine lv_iconst (v := 0) X.1 X.2.1 dX11_boards_90 (by decide) ?_
          refine lv_istore (lv' := [(9, .int 0), (8, .int (-5)), (7, .int (nI (sSe fl sh σ μ ld))), (6, .ref b), (0, .ref q), (1, .int (nI μ)), (2, .int (nI ld)), (3, .int (nI nb)), (4, .int (nI wd)), (5, .int 1)]) X.1 X.2.1 dX11_boards_91 hl (by decide) rfl (fun ls hl => ?_)
          refine lv_iconst (v := 1) X.1 X.2.1 dX11_boards_93 (by decide) ?_
          refine lv_istore (lv' := [(10, .int 1), (9, .int 0), (8, .int (-5)), (7, .int (nI (sSe fl sh σ μ ld))), (6, .ref b), (0, .ref q), (1, .int (nI μ)), (2, .int (nI ld)), (3, .int (nI nb)), (4, .int (nI wd)), (5, .int 1)]) X.1 X.2.1 dX11_boards_94 hl (by decide) rfl (fun ls hl => ?_)
          have hgle : ∀ n, (fun n => sSe fl sh (sWb σ n wd) μ ld) n ≤ 290000 := fun n => sSe_le' hG (sBd_wb hb hwd) hμ ld
          refine i_loop (I := IP2) 1023 96 [] (fun k Q9 ls => (cAll tr b a μ T Q9 RK1 σ fl ti sh K ∧ cC tr Q9 fl σ ∧ cQ q I Q9 R RK1) ∧ lv_has ls 12 [(0, .ref q), (1, .int (nI μ)), (2, .int (nI ld)), (3, .int (nI nb)), (4, .int (nI wd)), (5, .int 1), (6, .ref b), (7, .int (nI (sSe fl sh σ μ ld))), (8, .int (oB (sBs (sBP σ nb) (fun n => sSe fl sh (sWb σ n wd) μ ld) k))), (9, .int (oL (sBs (sBP σ nb) (fun n => sSe fl sh (sWb σ n wd) μ ld) k))), (10, .int (nI (k + 1)))]) 0 (by omega) ⟨⟨hallP2, hccP2, hQK1.k7 htr (fun c j h => hfrP2 c j (by omega))⟩, lv_sub hl [5, 6, 7, 8, 9, 10, 4, 3, 2, 1, 0] rfl⟩ hP hS (fun k Q9 H locs ls hk hiv hP hS ih => ?_)
          obtain ⟨⟨hal9, hcc9, hQ9⟩, hl⟩ := hiv
          have hAt := hal9.2.1
          have hm := hal9.2.2.1
          have hf9 := hQ9.1
          have hpc9 := sPc_le (k + 1) 10
          refine lv_iload X.1 X.2.1 dX11_boards_96 (lv_at hl 10 rfl) ?_
          refine lv_sipush (v := 1024) X.1 X.2.1 dX11_boards_98 (by decide) ?_
          refine lv_icmp_ge (tgt := 192) X.1 X.2.1 dX11_boards_101 (by decide) (fun c101 => ?_) (fun c101 => ?_)
          · have n101 : 1024 ≤ (k + 1) := gq_le c101 (show (1024 : Int32) = nI 1024 from rfl) (Eq.refl (nI (k + 1))) (by omega) (by omega)
            refine lv_iload X.1 X.2.1 dX11_boards_192 (lv_at hl 5 rfl) ?_
            refine lv_if_eq (tgt := 204) X.1 X.2.1 dX11_boards_194 (by decide) (fun c194 => ?_) (fun c194 => ?_)
            · exact absurd c194 (by decide)
            · have n194 : ¬ 1 = 0 := gq_ne c194 (show (1 : Int32) = nI 1 from rfl) (show (0 : Int32) = nI 0 from rfl) (by omega) (by omega)
              refine lv_iload X.1 X.2.1 dX11_boards_197 (lv_at hl 8 rfl) ?_
              refine lv_bipush (v := (-5)) X.1 X.2.1 dX11_boards_199 (by decide) ?_
              refine lv_icmp_ne (tgt := 209) X.1 X.2.1 dX11_boards_201 (by decide) (fun c201 => ?_) (fun c201 => ?_)
              · refine lv_iload X.1 X.2.1 dX11_boards_209 (lv_at hl 7 rfl) ?_
                refine lv_iload X.1 X.2.1 dX11_boards_211 (lv_at hl 9 rfl) ?_
                refine lv_isub X.1 X.2.1 dX11_boards_213 ?_
                obtain rfl : k = 1023 := by omega
                exact g_iret (f := fun u => u) (z, T, Q9, RK1) X hr hlk hK hP hS dX11_boards_214 ⟨(bo_1 hgle c201).symm, Q9, RK1, rfl, hQ9⟩
              · refine lv_iload X.1 X.2.1 dX11_boards_204 (lv_at hl 8 rfl) ?_
                refine lv_goto (tgt := 214) X.1 X.2.1 dX11_boards_206 (by decide) ?_
                obtain rfl : k = 1023 := by omega
                exact g_iret (f := fun u => u) (z, T, Q9, RK1) X hr hlk hK hP hS dX11_boards_214 ⟨(by rw [oB_m (N := 1023) (by omega) (sBs_le hgle 1023) c201]; rfl), Q9, RK1, rfl, hQ9⟩
          · have n101 : (k + 1) < 1024 := gq_nle c101 (show (1024 : Int32) = nI 1024 from rfl) (Eq.refl (nI (k + 1))) (by omega) (by omega)
            refine lv_iload X.1 X.2.1 dX11_boards_104 (lv_at hl 10 rfl) ?_
            refine g_run_i (f := fun u => u) (g_runS [.int (nI (k + 1))] X hK hP hS hC hB (j_bc (n := (k + 1)) (by omega)) (va_cwS 1 X.2.2.2.2 gX11_boards_J6_bitCount_0f7a4 rfl rfl rfl (by decide +kernel) ⟨Nat.le_of_ble_eq_true rfl, Nat.le_of_ble_eq_true rfl⟩) rfl hl.1 rfl (Nat.le_of_ble_eq_true rfl) dX11_boards_106 (by exact ⟨Nat.zero_le _, Nat.zero_le _⟩)) hS (fun r u H locs hq hP hS => ?_)
            obtain ⟨rfl, rfl⟩ := hq
            have hP : gP D cy B z T Q9 RK1 H := hP
            refine lv_iload_n X.1 X.2.1 dX11_boards_109 rfl (lv_at hl 3 rfl) ?_
            refine lv_icmp_ne (tgt := 186) X.1 X.2.1 dX11_boards_110 (by decide) (fun c110 => ?_) (fun c110 => ?_)
            · have n110 : ¬ (sPc (k + 1) 10) = nb := gq_ne c110 (Eq.refl (nI (sPc (k + 1) 10))) (Eq.refl (nI nb)) (by omega) (by omega)
              refine lv_iinc (v := nI ((k + 1) + 1)) (lv' := [(10, .int (nI ((k + 1) + 1))), (0, .ref q), (1, .int (nI μ)), (2, .int (nI ld)), (3, .int (nI nb)), (4, .int (nI wd)), (5, .int 1), (6, .ref b), (7, .int (nI (sSe fl sh σ μ ld))), (8, .int (oB (sBs (sBP σ nb) (fun n => sSe fl sh (sWb σ n wd) μ ld) k))), (9, .int (oL (sBs (sBP σ nb) (fun n => sSe fl sh (sWb σ n wd) μ ld) k)))]) X.1 X.2.1 dX11_boards_186 hl (k := 10) rfl (gn_inc (Eq.refl (nI (k + 1))) 1) (by decide) rfl (fun ls hl => ?_)
              refine lv_goto (tgt := 96) X.1 X.2.1 dX11_boards_189 (by decide) ?_
              have e9 : (sBs (sBP σ nb) (fun n => sSe fl sh (sWb σ n wd) μ ld) (k + 1)) = (sBs (sBP σ nb) (fun n => sSe fl sh (sWb σ n wd) μ ld) k) := bs_skip (by unfold sBP; simp [n110])
              exact ih _ _ _ _ (by omega) ⟨⟨hal9, hcc9, hQ9⟩, (by rw [e9]; exact lv_sub hl [1, 2, 3, 4, 5, 6, 7, 8, 9, 10, 0] rfl)⟩ hP hS
            · have n110 : (sPc (k + 1) 10) = nb := gq_eq c110 (Eq.refl (nI (sPc (k + 1) 10))) (Eq.refl (nI nb)) (by omega) (by omega)
              refine lv_aload_n X.1 X.2.1 dX11_boards_113 rfl (lv_at hl 0 rfl) ?_
              refine g_getr 13 2 X hK hP hTq rfl hinRX11 rfl (by decide) k26 (fun _ h => h) dX11_boards_114 (show va_rf (RK1 q 2) = .ref tr from by rw [hR2]; rfl) ?_
              refine lv_iload X.1 X.2.1 dX11_boards_117 (lv_at hl 10 rfl) ?_
              refine g_run_i (f := fun u => u) (g_runV (k := 12) [.int (nI (k + 1))] X hK hP hS hC hB (d_isBare hTr hAt (fun y hy => by have h9 := hb.2.2.2.1 (20 + y) (by omega); rw [← Nat.add_assoc] at h9; exact h9) (by omega)) (cwV 1 X.2.2.2.2 gX11_boards_X10_isBare rfl rfl rfl (by decide +kernel) ⟨Nat.le_of_ble_eq_true rfl, Nat.le_of_ble_eq_true rfl⟩) hTr.t0 rfl rfl hl.1 rfl (Nat.le_of_ble_eq_true rfl) dX11_boards_119 (by exact ⟨Nat.zero_le _, Nat.zero_le _⟩)) hS (fun r u H locs hq hP hS => ?_)
              obtain ⟨hq1, rfl⟩ := hq
              have hP : gP D cy B z T Q9 RK1 H := hP
              obtain rfl : r = gt (sIsBb σ (k + 1) = true) := by rcases hq1 with ⟨rfl, h⟩ | ⟨rfl, h⟩; (· exact (gt_yes ((sIsBb_iff _ _).mpr h)).symm); exact (gt_no (fun g => h ((sIsBb_iff _ _).mp g))).symm
              refine lv_if_ne (tgt := 128) X.1 X.2.1 dX11_boards_122 (by decide) (fun c122 => ?_) (fun c122 => ?_)
              · refine lv_aload_n X.1 X.2.1 dX11_boards_128 rfl (lv_at hl 0 rfl) ?_
                refine g_getr 13 2 X hK hP hTq rfl hinRX11 rfl (by decide) k26 (fun _ h => h) dX11_boards_129 (show va_rf (RK1 q 2) = .ref tr from by rw [hR2]; rfl) ?_
                refine lv_iload X.1 X.2.1 dX11_boards_132 (lv_at hl 10 rfl) ?_
                refine lv_iload X.1 X.2.1 dX11_boards_134 (lv_at hl 4 rfl) ?_
                refine g_run_v (f := fun u => u) (g_runV (k := 12) [.int (nI (k + 1)), .int (nI wd)] X hK hP hS hC hB (d_layAll (wd := wd) hTr hAt hcc9 (by omega)) (cwV 2 X.2.2.2.2 gX11_boards_X10_layAll rfl rfl rfl (by decide +kernel) ⟨Nat.le_of_ble_eq_true rfl, Nat.le_of_ble_eq_true rfl⟩) hTr.t0 rfl rfl hl.1 rfl (Nat.le_of_ble_eq_true rfl) dX11_boards_136 (by exact ⟨Nat.zero_le _, Nat.zero_le _⟩)) hS (fun u H locs hq hP hS => ?_)
                obtain ⟨IL1, rfl, hAL, hCL, hfL⟩ := hq
                have hP : gP D cy B z T IL1 RK1 H := hP
                have hsb : sIsB σ (k + 1) := (sIsBb_iff _ _).mp (gt_1 c122)
                have halL : cAll tr b a μ T IL1 RK1 (sWb σ (k + 1) wd) fl ti sh K := hal9.up hAL (fun i hi => sWb_38 hi) (sBd_wb hb hwd) (fun c j h => hfL c j (by omega) (by omega))
                have hm : cMn T IL1 (sWb σ (k + 1) wd) μ b := halL.2.2.1
                refine lv_aload_n X.1 X.2.1 dX11_boards_139 rfl (lv_at hl 0 rfl) ?_
                refine g_getr 13 2 X hK hP hTq rfl hinRX11 rfl (by decide) k26 (fun _ h => h) dX11_boards_140 (show va_rf (RK1 q 2) = .ref tr from by rw [hR2]; rfl) ?_
                refine lv_aload X.1 X.2.1 dX11_boards_143 (lv_at hl 6 rfl) ?_
                refine lv_iload_n X.1 X.2.1 dX11_boards_145 rfl (lv_at hl 2 rfl) ?_
                refine g_run_q (f := fun u => u) (g_runV (k := 12) [.ref b, .int (nI ld)] X hK hP hS hC hB (d_plan halL hCL hld) (cwV 2 X.2.2.2.2 gX11_boards_X10_plan rfl rfl rfl (by decide +kernel) ⟨Nat.le_of_ble_eq_true rfl, Nat.le_of_ble_eq_true rfl⟩) hTr.t0 rfl rfl hl.1 rfl (Nat.le_of_ble_eq_true rfl) dX11_boards_146 (by exact ⟨Nat.zero_le _, Nat.zero_le _⟩)) hS (fun r u H locs hq hP hS => ?_)
                obtain ⟨hr9, IP3, rfl, htpP3, hccP3, hfrP3⟩ := hq
                subst hr9
                have hP : gP D cy B z T IP3 RK1 H := hP
                have hallP3 := halL.k (I' := IP3) (fun c j h => hfrP3 c j (by omega))
                refine g_geti 10 4 X hK hP (hallP3.1.tript hallP3.2.2.2.2.2.2.2.2.2.2.1) rfl hinRX8 rfl (by decide) k147 (fun _ h => h) dX11_boards_149 (show IP3 (tr + 11 + μ) 4 = nI (sSe fl sh (sWb σ (k + 1) wd) μ ld) from htpP3.2.2.1) ?_
                refine lv_istore (lv' := [(11, .int (nI (sSe fl sh (sWb σ (k + 1) wd) μ ld))), (0, .ref q), (1, .int (nI μ)), (2, .int (nI ld)), (3, .int (nI nb)), (4, .int (nI wd)), (5, .int 1), (6, .ref b), (7, .int (nI (sSe fl sh σ μ ld))), (8, .int (oB (sBs (sBP σ nb) (fun n => sSe fl sh (sWb σ n wd) μ ld) k))), (9, .int (oL (sBs (sBP σ nb) (fun n => sSe fl sh (sWb σ n wd) μ ld) k))), (10, .int (nI (k + 1)))]) X.1 X.2.1 dX11_boards_152 hl (by decide) rfl (fun ls hl => ?_)
                refine lv_aload_n X.1 X.2.1 dX11_boards_154 rfl (lv_at hl 1 rfl) ?_
                refine g_getr 13 2 X hK hP hTq rfl hinRX11 rfl (by decide) k26 (fun _ h => h) dX11_boards_155 (show va_rf (RK1 q 2) = .ref tr from by rw [hR2]; rfl) ?_
                refine lv_iload X.1 X.2.1 dX11_boards_158 (lv_at hl 11 rfl) ?_
                refine lv_iconst (v := 0) X.1 X.2.1 dX11_boards_160 (by decide) ?_
                refine g_run_v (f := fun u => u) (g_runV (k := 12) [.int (nI (k + 1)), .int 0] X hK hP hS hC hB (d_layAll (st := k + 1) (wd := 0) hTr hallP3.2.1 hccP3 (by omega)) (cwV 2 X.2.2.2.2 gX11_boards_X10_layAll rfl rfl rfl (by decide +kernel) ⟨Nat.le_of_ble_eq_true rfl, Nat.le_of_ble_eq_true rfl⟩) hTr.t0 rfl rfl hl.1 rfl (Nat.le_of_ble_eq_true rfl) dX11_boards_161 (by exact ⟨Nat.zero_le _, Nat.zero_le _⟩)) hS (fun u H locs hq hP hS => ?_)
                obtain ⟨IL2, rfl, hAM, hCM, hfM⟩ := hq
                have hP : gP D cy B z T IL2 RK1 H := hP
                rw [sWb_bk hsb] at hAM hCM
                have hkk : ∀ c j, ¬ (tr ≤ c ∧ c < tr + 15) → IL2 c j = Q9 c j := fun c j h => (hfM c j (by omega) (by omega)).trans ((hfrP3 c j (by omega)).trans (hfL c j (by omega) (by omega)))
                have halM : cAll tr b a μ T IL2 RK1 σ fl ti sh K := hal9.up hAM (fun _ _ => rfl) hb hkk
                refine lv_iload X.1 X.2.1 dX11_boards_164 (lv_at hl 9 rfl) ?_
                refine lv_bipush (v := (-5)) X.1 X.2.1 dX11_boards_166 (by decide) ?_
                refine lv_icmp_eq (tgt := 178) X.1 X.2.1 dX11_boards_168 (by decide) (fun c168 => ?_) (fun c168 => ?_)
                · refine lv_iload X.1 X.2.1 dX11_boards_178 (lv_at hl 11 rfl) ?_
                  refine lv_istore (lv' := [(8, .int (nI (k + 1))), (11, .int (nI (sSe fl sh (sWb σ (k + 1) wd) μ ld))), (0, .ref q), (1, .int (nI μ)), (2, .int (nI ld)), (3, .int (nI nb)), (4, .int (nI wd)), (5, .int 1), (6, .ref b), (7, .int (nI (sSe fl sh σ μ ld))), (9, .int (oL (sBs (sBP σ nb) (fun n => sSe fl sh (sWb σ n wd) μ ld) k))), (10, .int (nI (k + 1)))]) X.1 X.2.1 dX11_boards_180 hl (by decide) rfl (fun ls hl => ?_)
                  refine lv_iload X.1 X.2.1 dX11_boards_182 (lv_at hl 1 rfl) ?_
                  refine lv_istore (lv' := [(9, .int (nI (sSe fl sh (sWb σ (k + 1) wd) μ ld))), (8, .int (nI (k + 1))), (11, .int (nI (sSe fl sh (sWb σ (k + 1) wd) μ ld))), (0, .ref q), (1, .int (nI μ)), (2, .int (nI ld)), (3, .int (nI nb)), (4, .int (nI wd)), (5, .int 1), (6, .ref b), (7, .int (nI (sSe fl sh σ μ ld))), (10, .int (nI (k + 1)))]) X.1 X.2.1 dX11_boards_184 hl (by decide) rfl (fun ls hl => ?_)
                  refine lv_iinc (v := nI ((k + 1) + 1)) (lv' := [(10, .int (nI ((k + 1) + 1))), (9, .int (nI (sSe fl sh (sWb σ (k + 1) wd) μ ld))), (8, .int (nI (k + 1))), (11, .int (nI (sSe fl sh (sWb σ (k + 1) wd) μ ld))), (0, .ref q), (1, .int (nI μ)), (2, .int (nI ld)), (3, .int (nI nb)), (4, .int (nI wd)), (5, .int 1), (6, .ref b), (7, .int (nI (sSe fl sh σ μ ld)))]) X.1 X.2.1 dX11_boards_186 hl (k := 11) rfl (gn_inc (Eq.refl (nI (k + 1))) 1) (by decide) rfl (fun ls hl => ?_)
                  refine lv_goto (tgt := 96) X.1 X.2.1 dX11_boards_189 (by decide) ?_
                  have hPT : sBP σ nb (k + 1) = true := by unfold sBP; simp [gt_1 c122, n110]
                  have e9 : (sBs (sBP σ nb) (fun n => sSe fl sh (sWb σ n wd) μ ld) (k + 1)) = some (k + 1, sSe fl sh (sWb σ (k + 1) wd) μ ld) := bs_new hgle (by omega) hPT c168
                  exact ih _ _ _ _ (by omega) ⟨⟨halM, hCM, hQ9.k7 htr hkk⟩, (by rw [e9]; exact lv_sub hl [4, 5, 6, 7, 8, 9, 10, 11, 2, 1, 0] rfl)⟩ hP hS
                · refine lv_iload X.1 X.2.1 dX11_boards_171 (lv_at hl 0 rfl) ?_
                  refine lv_iload X.1 X.2.1 dX11_boards_173 (lv_at hl 10 rfl) ?_
                  refine lv_icmp_ge (tgt := 186) X.1 X.2.1 dX11_boards_175 (by decide) (fun c175 => ?_) (fun c175 => ?_)
                  · refine lv_iinc (v := nI ((k + 1) + 1)) (lv' := [(10, .int (nI ((k + 1) + 1))), (11, .int (nI (sSe fl sh (sWb σ (k + 1) wd) μ ld))), (0, .ref q), (1, .int (nI μ)), (2, .int (nI ld)), (3, .int (nI nb)), (4, .int (nI wd)), (5, .int 1), (6, .ref b), (7, .int (nI (sSe fl sh σ μ ld))), (8, .int (oB (sBs (sBP σ nb) (fun n => sSe fl sh (sWb σ n wd) μ ld) k))), (9, .int (oL (sBs (sBP σ nb) (fun n => sSe fl sh (sWb σ n wd) μ ld) k)))]) X.1 X.2.1 dX11_boards_186 hl (k := 11) rfl (gn_inc (Eq.refl (nI (k + 1))) 1) (by decide) rfl (fun ls hl => ?_)
                    refine lv_goto (tgt := 96) X.1 X.2.1 dX11_boards_189 (by decide) ?_
                    have hPT : sBP σ nb (k + 1) = true := by unfold sBP; simp [gt_1 c122, n110]
                    have e9 : (sBs (sBP σ nb) (fun n => sSe fl sh (sWb σ n wd) μ ld) (k + 1)) = (sBs (sBP σ nb) (fun n => sSe fl sh (sWb σ n wd) μ ld) k) := (bs_le hgle (by omega) hPT c168).1 c175
                    exact ih _ _ _ _ (by omega) ⟨⟨halM, hCM, hQ9.k7 htr hkk⟩, (by rw [e9]; exact lv_sub hl [2, 3, 4, 5, 6, 7, 8, 9, 10, 11, 0] rfl)⟩ hP hS
                  · refine lv_iload X.1 X.2.1 dX11_boards_178 (lv_at hl 11 rfl) ?_
                    refine lv_istore (lv' := [(8, .int (nI (k + 1))), (11, .int (nI (sSe fl sh (sWb σ (k + 1) wd) μ ld))), (0, .ref q), (1, .int (nI μ)), (2, .int (nI ld)), (3, .int (nI nb)), (4, .int (nI wd)), (5, .int 1), (6, .ref b), (7, .int (nI (sSe fl sh σ μ ld))), (9, .int (oL (sBs (sBP σ nb) (fun n => sSe fl sh (sWb σ n wd) μ ld) k))), (10, .int (nI (k + 1)))]) X.1 X.2.1 dX11_boards_180 hl (by decide) rfl (fun ls hl => ?_)
                    refine lv_iload X.1 X.2.1 dX11_boards_182 (lv_at hl 1 rfl) ?_
                    refine lv_istore (lv' := [(9, .int (nI (sSe fl sh (sWb σ (k + 1) wd) μ ld))), (8, .int (nI (k + 1))), (11, .int (nI (sSe fl sh (sWb σ (k + 1) wd) μ ld))), (0, .ref q), (1, .int (nI μ)), (2, .int (nI ld)), (3, .int (nI nb)), (4, .int (nI wd)), (5, .int 1), (6, .ref b), (7, .int (nI (sSe fl sh σ μ ld))), (10, .int (nI (k + 1)))]) X.1 X.2.1 dX11_boards_184 hl (by decide) rfl (fun ls hl => ?_)
                    refine lv_iinc (v := nI ((k + 1) + 1)) (lv' := [(10, .int (nI ((k + 1) + 1))), (9, .int (nI (sSe fl sh (sWb σ (k + 1) wd) μ ld))), (8, .int (nI (k + 1))), (11, .int (nI (sSe fl sh (sWb σ (k + 1) wd) μ ld))), (0, .ref q), (1, .int (nI μ)), (2, .int (nI ld)), (3, .int (nI nb)), (4, .int (nI wd)), (5, .int 1), (6, .ref b), (7, .int (nI (sSe fl sh σ μ ld)))]) X.1 X.2.1 dX11_boards_186 hl (k := 11) rfl (gn_inc (Eq.refl (nI (k + 1))) 1) (by decide) rfl (fun ls hl => ?_)
                    refine lv_goto (tgt := 96) X.1 X.2.1 dX11_boards_189 (by decide) ?_
                    have hPT : sBP σ nb (k + 1) = true := by unfold sBP; simp [gt_1 c122, n110]
                    have e9 : (sBs (sBP σ nb) (fun n => sSe fl sh (sWb σ n wd) μ ld) (k + 1)) = some (k + 1, sSe fl sh (sWb σ (k + 1) wd) μ ld) := (bs_le hgle (by omega) hPT c168).2 c175
                    exact ih _ _ _ _ (by omega) ⟨⟨halM, hCM, hQ9.k7 htr hkk⟩, (by rw [e9]; exact lv_sub hl [4, 5, 6, 7, 8, 9, 10, 11, 2, 1, 0] rfl)⟩ hP hS
              · refine lv_goto (tgt := 186) X.1 X.2.1 dX11_boards_125 (by decide) ?_
                refine lv_iinc (v := nI ((k + 1) + 1)) (lv' := [(10, .int (nI ((k + 1) + 1))), (0, .ref q), (1, .int (nI μ)), (2, .int (nI ld)), (3, .int (nI nb)), (4, .int (nI wd)), (5, .int 1), (6, .ref b), (7, .int (nI (sSe fl sh σ μ ld))), (8, .int (oB (sBs (sBP σ nb) (fun n => sSe fl sh (sWb σ n wd) μ ld) k))), (9, .int (oL (sBs (sBP σ nb) (fun n => sSe fl sh (sWb σ n wd) μ ld) k)))]) X.1 X.2.1 dX11_boards_186 hl (k := 10) rfl (gn_inc (Eq.refl (nI (k + 1))) 1) (by decide) rfl (fun ls hl => ?_)
                refine lv_goto (tgt := 96) X.1 X.2.1 dX11_boards_189 (by decide) ?_
                have e9 : (sBs (sBP σ nb) (fun n => sSe fl sh (sWb σ n wd) μ ld) (k + 1)) = (sBs (sBP σ nb) (fun n => sSe fl sh (sWb σ n wd) μ ld) k) := bs_skip (by unfold sBP; simp [gt_0 c122])
                exact ih _ _ _ _ (by omega) ⟨⟨hal9, hcc9, hQ9⟩, (by rw [e9]; exact lv_sub hl [1, 2, 3, 4, 5, 6, 7, 8, 9, 10, 0] rfl)⟩ hP hS
        · exact absurd (g_le (a := 1) (b := 9) (x := 1) (y := 9) rfl rfl (by omega) (by omega) (by omega)) (gt_1 c53)
  · exact absurd (by decide) (gt_1 c22)

end PN