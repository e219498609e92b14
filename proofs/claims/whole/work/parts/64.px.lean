section PX
variable {l : Launch} {s0 : State} {D : va_G} {cy : Nat → ClassId} {B z : Nat} {T : Nat → Nat × Nat} {I : Nat → Nat → Int32} {R : Nat → Nat → Option Nat} {ad : Nat → Nat} {C E lc b κ nu vv : Nat} {tr : List Nat}
/-- the calls by a subclass's name, and of what a superclass inherits -/
def gUp (s0 : State) : Prop := gWs s0 (wsUs RX0 13 ⟨"BarrowPlank$Full", "begin", "(Ljava/util/List;I)V"⟩ yX2_begin wsX2_begin) ∧ gWs s0 (wsUs RX7 13 ⟨"BarrowPlank$Spilt", "begin", "(Ljava/util/List;I)V"⟩ yX2_begin wsX2_begin) ∧ gWs s0 (wsUs RX9 13 ⟨"BarrowPlank$Waiting", "begin", "(Ljava/util/List;I)V"⟩ yX2_begin wsX2_begin) ∧ gWs s0 (wsUs RX3 17 ⟨"BarrowPlank$Off", "begin", "(Ljava/util/List;I)V"⟩ yX2_begin wsX2_begin) ∧ gWs s0 (wsUs RX6 13 ⟨"BarrowPlank$Slow", "begin", "(Ljava/util/List;I)V"⟩ yX2_begin wsX2_begin) ∧ gWs s0 (wsUs RX1 13 ⟨"BarrowPlank$Heaped", "begin", "(Ljava/util/List;I)V"⟩ yX2_begin wsX2_begin) ∧ gWs s0 (wsUx RX1 17 ⟨"BarrowPlank$Full", "tires", "(ILjava/util/List;)I"⟩ yX2_tires wsX2_tires) ∧ gWs s0 (wsUx RX7 17 ⟨"BarrowPlank$Waiting", "lifts", "(ILjava/util/List;)I"⟩ yX2_lifts wsX2_lifts) ∧ gWs s0 (wsUx RX3 21 ⟨"BarrowPlank$Slow", "goes", "(ILjava/util/List;)I"⟩ yX2_goes wsX2_goes)
theorem mcl_c (h : κ ≤ 6) : ∃ Tv, vwCl[mcl κ]? = some (mnm κ, Tv, 4) := by
  rcases k7 h with rfl | rfl | rfl | rfl | rfl | rfl | rfl <;> exact ⟨_, rfl⟩
theorem aL_0 {x : Int32} (h : ¬ (κ = 1 ∨ κ = 4)) (h5 : ¬ κ = 5) : aL κ nu x = aPL nu x := by unfold aL aPL; rw [if_neg h, if_neg h5]
theorem aL_14 {x : Int32} (h : κ = 1 ∨ κ = 4) : aL κ nu x = (x * 3 + nI nu, [11, 1]) := if_pos h
theorem aL_5 {x : Int32} (h : κ = 5) : aL κ nu x = ((x + nI nu) ^^^ nI nu, [51, 1]) := by unfold aL; rw [if_neg (by omega), if_pos h]
theorem aG_0 {x : Int32} (h : ¬ (κ = 2 ∨ κ = 5)) (h6 : ¬ κ = 6) : aG κ nu vv x = aPG κ nu vv x := by unfold aG; rw [if_neg h, if_neg h6]
theorem aG_25 {x : Int32} (h : κ = 2 ∨ κ = 5) : aG κ nu vv x = (-(aPG κ nu vv x).1, 21 :: (aPG κ nu vv x).2) := if_pos h
theorem aG_6 {x : Int32} (h : κ = 6) : aG κ nu vv x = ((aPG κ nu vv x).1 + nI vv, 61 :: (aPG κ nu vv x).2) := by unfold aG; rw [if_neg (by omega), if_pos h]
theorem aT_0 {x : Int32} (h : ¬ (κ = 3 ∨ κ = 6)) (h4 : ¬ κ = 4) : aT κ nu vv x = aPT κ nu vv x := by unfold aT; rw [if_neg h, if_neg h4]
theorem aT_36 {x : Int32} (h : κ = 3 ∨ κ = 6) : aT κ nu vv x = ((aPT κ nu vv x).1 ^^^ 7, 31 :: (aPT κ nu vv x).2) := if_pos h
theorem aT_4 {x : Int32} (h : κ = 4) : aT κ nu vv x = ((aPT κ nu vv (x - 1)).1 + (aL κ nu 2).1, 41 :: ((aPT κ nu vv (x - 1)).2 ++ (aL κ nu 2).2)) := by unfold aT; rw [if_neg (by omega), if_pos h]
set_option maxHeartbeats 4000000 in
set_option maxRecDepth 100000 in
/-- a_X2_lifts -/
theorem a_X2_lifts (hBx : gBx s0 B ad C E) (hAo : gWs s0 [.arrayOver (.object "java/lang/Object")]) (hUp : gUp s0) (hz13 : lc + 13 ≤ z) (hκ : κ ≤ 6) (htb : T b = (mcl κ + 8, 0)) (hnu : I b 1 = nI nu) (hvv : I b 2 = nI vv) (hbl : b ≠ lc) (hLs : cLs lc E ad T I R tr) (hn : tr.length + 1 ≤ 10) (x : Int32)  : Met l yX2_lifts wsX2_lifts ({ frames := 6, cells := 1, slots := 10, locals := 129 }) (va_Pc [.ref b, .int x, .ref lc] (gW0 s0 D cy B (z, T, I, R))) (va_Qi (fun r u => r = (aPL nu x).1 ∧ ∃ z' T' I' R', u = (z', T', I', R') ∧ cLs lc E ad T' I' R' (tr ++ (aPL nu x).2) ∧ gLf lc z z' T T' I I' R R') (fun u t => gW1 D cy B u t) (gA B)) 1 10 (gA B) := by
  refine g_met (maxL := 3) (ret := (some .int)) (by decide) rfl (Nat.le_of_ble_eq_true rfl) (fun p e s m args below meth c ls X hr hlk hnm hK hP hC hS hl => ?_)
  have hl : lv_has ls 3 [(0, .ref b), (1, .int x), (2, .ref lc)] := hl
  have hP : gP D cy B z T I R s.heap := hP
  have hB : B ≤ s.heap.size := by rw [hP.1]; exact hP.2.1
  have hin7 : ∀ κ, κ ≤ 6 → ∀ w ∈ mws κ, w ∈ wsX2_lifts := fun κ hκ => by
    rcases k7 hκ with rfl | rfl | rfl | rfl | rfl | rfl | rfl
    · exact fun _ h => List.mem_cons_of_mem _ (List.mem_append_left _ (List.mem_append_left _ (List.mem_append_left _ (List.mem_append_left _ (List.mem_append_left _ (List.mem_append_left _ (List.mem_append_right _ h)))))))
    · exact fun _ h => List.mem_cons_of_mem _ (List.mem_append_left _ (List.mem_append_left _ (List.mem_append_left _ (List.mem_append_left _ (List.mem_append_left _ (List.mem_append_left _ (List.mem_append_left _ (List.mem_append_left _ (List.mem_append_right _ h)))))))))
    · exact fun _ h => List.mem_cons_of_mem _ (List.mem_append_left _ (List.mem_append_left _ (List.mem_append_right _ h)))
    · exact fun _ h => List.mem_cons_of_mem _ (List.mem_append_left _ (List.mem_append_left _ (List.mem_append_left _ (List.mem_append_left _ (List.mem_append_right _ h)))))
    · exact fun _ h => List.mem_cons_of_mem _ (List.mem_append_left _ (List.mem_append_left _ (List.mem_append_left _ (List.mem_append_left _ (List.mem_append_left _ (List.mem_append_left _ (List.mem_append_left _ (List.mem_append_right _ h))))))))
    · exact fun _ h => List.mem_cons_of_mem _ (List.mem_append_left _ (List.mem_append_left _ (List.mem_append_left _ (List.mem_append_right _ h))))
    · exact fun _ h => List.mem_cons_of_mem _ (List.mem_append_left _ (List.mem_append_left _ (List.mem_append_left _ (List.mem_append_left _ (List.mem_append_left _ (List.mem_append_right _ h))))))
  have k15 : Cond.fieldLink RX2 15 "BarrowPlank$Man" "number" "I" ∈ wsX2_lifts := by decide +kernel
  have hbz : b < z := hP.lt (by rw [htb]; exact Nat.succ_ne_zero _)
  have htl := hLs.1
  obtain ⟨Tv9, hcc9⟩ := mcl_c hκ
  refine lv_aload_n X.1 X.2.1 dX2_lifts_0 rfl (lv_at hl 2 rfl) ?_
  refine lv_iconst (v := 1) X.1 X.2.1 dX2_lifts_1 (by decide) ?_
  refine g_run_v (f := fun u => u) (g_runS [.ref lc, .int 1] X hK hP hS hC hB (a_begin (v := 1) hBx hAo (by omega) hz13 hLs (by first | omega | (simp only [List.length_append, List.length_cons, List.length_nil]; omega))) (va_cwS 2 X.2.2.2.2 gX2_lifts_X2_begin rfl rfl rfl (by decide +kernel) ⟨Nat.le_of_ble_eq_true rfl, Nat.le_of_ble_eq_true rfl⟩) rfl hl.1 rfl (Nat.le_of_ble_eq_true rfl) dX2_lifts_2 ⟨Nat.le_of_ble_eq_true rfl, Nat.le_of_ble_eq_true rfl⟩) hS (fun u H locs hq hP hS => ?_)
  obtain ⟨zB1, TB1, IB1, RB1, rfl, hLB1, hFB1⟩ := hq
  have hP : gP D cy B zB1 TB1 IB1 RB1 H := hP
  have hFc := hFB1
  have htb := (hFB1.2.1 b hbz).trans htb
  have hnu := (hFB1.2.2.1 b 1 hbz hbl).trans hnu
  have hvv := (hFB1.2.2.1 b 2 hbz hbl).trans hvv
  have hbz := Nat.lt_of_lt_of_le hbz hFB1.1
  have hz13 : lc + 13 ≤ zB1 := Nat.le_trans hz13 hFB1.1
  have htl := hLB1.1
  have hleB1 := hLB1
  refine lv_iload_n X.1 X.2.1 dX2_lifts_5 rfl (lv_at hl 1 rfl) ?_
  refine lv_aload_n X.1 X.2.1 dX2_lifts_6 rfl (lv_at hl 0 rfl) ?_
  refine g_mget 1 (by decide) hκ X hK hP htb (hin7 κ hκ) k15 (fun _ h => h) dX2_lifts_7 (show IB1 b 1 = nI nu from hnu) ?_
  refine lv_iadd X.1 X.2.1 dX2_lifts_10 ?_
  have hLf : cLs lc E ad TB1 IB1 RB1 (tr ++ (aPL nu x).2) := by
    have h9 := hLB1
    exact h9
  exact g_iret (f := fun u => u) (zB1, TB1, IB1, RB1) X hr hlk hK hP hS dX2_lifts_11 ⟨rfl, zB1, TB1, IB1, RB1, rfl, hLf, hFc⟩

set_option maxHeartbeats 4000000 in
set_option maxRecDepth 100000 in
/-- a_X0_lifts -/
theorem a_X0_lifts (hBx : gBx s0 B ad C E) (hAo : gWs s0 [.arrayOver (.object "java/lang/Object")]) (hUp : gUp s0) (hz13 : lc + 13 ≤ z) (hκ : κ ≤ 6) (htb : T b = (mcl κ + 8, 0)) (hnu : I b 1 = nI nu) (hvv : I b 2 = nI vv) (hbl : b ≠ lc) (hLs : cLs lc E ad T I R tr) (hn : tr.length + 2 ≤ 10) (x : Int32) (hk : κ = 1 ∨ κ = 4) : Met l yX0_lifts wsX0_lifts ({ frames := 7, cells := 2, slots := 20, locals := 151 }) (va_Pc [.ref b, .int x, .ref lc] (gW0 s0 D cy B (z, T, I, R))) (va_Qi (fun r u => r = (aL κ nu x).1 ∧ ∃ z' T' I' R', u = (z', T', I', R') ∧ cLs lc E ad T' I' R' (tr ++ (aL κ nu x).2) ∧ gLf lc z z' T T' I I' R R') (fun u t => gW1 D cy B u t) (gA B)) 2 20 (gA B) := by
  refine g_met (maxL := 3) (ret := (some .int)) (by decide) rfl (Nat.le_of_ble_eq_true rfl) (fun p e s m args below meth c ls X hr hlk hnm hK hP hC hS hl => ?_)
  have hl : lv_has ls 3 [(0, .ref b), (1, .int x), (2, .ref lc)] := hl
  have hP : gP D cy B z T I R s.heap := hP
  have hB : B ≤ s.heap.size := by rw [hP.1]; exact hP.2.1
  have hin7 : ∀ κ, κ ≤ 6 → ∀ w ∈ mws κ, w ∈ wsX0_lifts := fun κ hκ => by
    rcases k7 hκ with rfl | rfl | rfl | rfl | rfl | rfl | rfl
    · exact fun _ h => List.mem_cons_of_mem _ (List.mem_append_left _ (List.mem_append_left _ (List.mem_append_left _ (List.mem_append_left _ (List.mem_append_left _ (List.mem_append_left _ (List.mem_append_right _ h)))))))
    · exact fun _ h => List.mem_cons_of_mem _ (List.mem_append_left _ (List.mem_append_left _ (List.mem_append_left _ (List.mem_append_left _ (List.mem_append_left _ (List.mem_append_left _ (List.mem_append_left _ (List.mem_append_left _ (List.mem_append_right _ h)))))))))
    · exact fun _ h => List.mem_cons_of_mem _ (List.mem_append_left _ (List.mem_append_left _ (List.mem_append_right _ h)))
    · exact fun _ h => List.mem_cons_of_mem _ (List.mem_append_left _ (List.mem_append_left _ (List.mem_append_left _ (List.mem_append_left _ (List.mem_append_right _ h)))))
    · exact fun _ h => List.mem_cons_of_mem _ (List.mem_append_left _ (List.mem_append_left _ (List.mem_append_left _ (List.mem_append_left _ (List.mem_append_left _ (List.mem_append_left _ (List.mem_append_left _ (List.mem_append_right _ h))))))))
    · exact fun _ h => List.mem_cons_of_mem _ (List.mem_append_left _ (List.mem_append_left _ (List.mem_append_left _ (List.mem_append_right _ h))))
    · exact fun _ h => List.mem_cons_of_mem _ (List.mem_append_left _ (List.mem_append_left _ (List.mem_append_left _ (List.mem_append_left _ (List.mem_append_left _ (List.mem_append_right _ h))))))
  have hbz : b < z := hP.lt (by rw [htb]; exact Nat.succ_ne_zero _)
  have htl := hLs.1
  obtain ⟨Tv9, hcc9⟩ := mcl_c hκ
  refine lv_aload_n X.1 X.2.1 dX0_lifts_0 rfl (lv_at hl 2 rfl) ?_
  refine lv_bipush (v := 11) X.1 X.2.1 dX0_lifts_1 (by decide) ?_
  refine g_run_v (f := fun u => u) (g_runSs (nA := 2) [.ref lc, .int 11] X hK hP hS hC hB (a_begin (v := 11) hBx hAo (by omega) hz13 hLs (by first | omega | (simp only [List.length_append, List.length_cons, List.length_nil]; omega))) (x := ⟨"BarrowPlank$Full", "begin", "(Ljava/util/List;I)V"⟩) (index := 13) hUp.1 ⟨rfl, rfl⟩ (bytes := cX2_begin) (maxL := 2) (ret := none) (List.mem_cons_self ..) (by decide +kernel) rfl rfl ⟨Nat.le_of_ble_eq_true rfl, Nat.le_of_ble_eq_true rfl⟩ rfl hl.1 rfl (Nat.le_of_ble_eq_true rfl) dX0_lifts_3 ⟨Nat.le_of_ble_eq_true rfl, Nat.le_of_ble_eq_true rfl⟩) hS (fun u H locs hq hP hS => ?_)
  obtain ⟨zB1, TB1, IB1, RB1, rfl, hLB1, hFB1⟩ := hq
  have hP : gP D cy B zB1 TB1 IB1 RB1 H := hP
  have hFc := hFB1
  have htb := (hFB1.2.1 b hbz).trans htb
  have hnu := (hFB1.2.2.1 b 1 hbz hbl).trans hnu
  have hvv := (hFB1.2.2.1 b 2 hbz hbl).trans hvv
  have hbz := Nat.lt_of_lt_of_le hbz hFB1.1
  have hz13 : lc + 13 ≤ zB1 := Nat.le_trans hz13 hFB1.1
  have htl := hLB1.1
  have hleB1 := hLB1
  refine lv_aload_n X.1 X.2.1 dX0_lifts_6 rfl (lv_at hl 0 rfl) ?_
  refine lv_iload_n X.1 X.2.1 dX0_lifts_7 rfl (lv_at hl 1 rfl) ?_
  refine lv_iconst (v := 3) X.1 X.2.1 dX0_lifts_8 (by decide) ?_
  refine lv_imul X.1 X.2.1 dX0_lifts_9 ?_
  refine lv_aload_n X.1 X.2.1 dX0_lifts_10 rfl (lv_at hl 2 rfl) ?_
  refine g_run_i (f := fun u => u) (g_runSU (k := mcl κ) [.int (x * 3), .ref lc] X hK hP hS hC hB (a_X2_lifts (κ := κ) (nu := nu) (vv := vv) hBx hAo hUp hz13 hκ htb hnu hvv hbl hLB1 (by first | omega | (simp only [List.length_append, List.length_cons, List.length_nil]; omega)) (x * 3)) (va_cwSU 2 X.2.2.2.2 gX0_lifts_X2_lifts_s17 rfl rfl rfl ⟨by decide, by decide +kernel⟩ ⟨Nat.le_of_ble_eq_true rfl, Nat.le_of_ble_eq_true rfl⟩) htb hcc9 rfl hl.1 rfl (Nat.le_of_ble_eq_true rfl) dX0_lifts_11 ⟨Nat.le_of_ble_eq_true rfl, Nat.le_of_ble_eq_true rfl⟩) hS (fun r u H locs hq hP hS => ?_)
  obtain ⟨rfl, zQ2, TQ2, IQ2, RQ2, rfl, hLQ2, hFQ2⟩ := hq
  have hP : gP D cy B zQ2 TQ2 IQ2 RQ2 H := hP
  have hFc := hFc.trs hFQ2
  have htb := (hFQ2.2.1 b hbz).trans htb
  have hnu := (hFQ2.2.2.1 b 1 hbz hbl).trans hnu
  have hvv := (hFQ2.2.2.1 b 2 hbz hbl).trans hvv
  have hbz := Nat.lt_of_lt_of_le hbz hFQ2.1
  have hz13 : lc + 13 ≤ zQ2 := Nat.le_trans hz13 hFQ2.1
  have htl := hLQ2.1
  have hleQ2 := hLQ2
  have hnQ2 : (aPL nu (x * 3)).2.length = 1 := rfl
  have hLf : cLs lc E ad TQ2 IQ2 RQ2 (tr ++ (aL κ nu x).2) := by
    have h9 := hLQ2
    rw [aL_14 hk]; simpa only [aPL, List.append_assoc, List.cons_append, List.nil_append] using h9
  exact g_iret (f := fun u => u) (zQ2, TQ2, IQ2, RQ2) X hr hlk hK hP hS dX0_lifts_14 ⟨(by rw [aL_14 hk]; rfl), zQ2, TQ2, IQ2, RQ2, rfl, hLf, hFc⟩

set_option maxHeartbeats 4000000 in
set_option maxRecDepth 100000 in
/-- a_X7_lifts -/
theorem a_X7_lifts (hBx : gBx s0 B ad C E) (hAo : gWs s0 [.arrayOver (.object "java/lang/Object")]) (hUp : gUp s0) (hz13 : lc + 13 ≤ z) (hκ : κ ≤ 6) (htb : T b = (mcl κ + 8, 0)) (hnu : I b 1 = nI nu) (hvv : I b 2 = nI vv) (hbl : b ≠ lc) (hLs : cLs lc E ad T I R tr) (hn : tr.length + 2 ≤ 10) (x : Int32) (hk : κ = 5) : Met l yX7_lifts wsX7_lifts ({ frames := 7, cells := 2, slots := 20, locals := 151 }) (va_Pc [.ref b, .int x, .ref lc] (gW0 s0 D cy B (z, T, I, R))) (va_Qi (fun r u => r = (aL κ nu x).1 ∧ ∃ z' T' I' R', u = (z', T', I', R') ∧ cLs lc E ad T' I' R' (tr ++ (aL κ nu x).2) ∧ gLf lc z z' T T' I I' R R') (fun u t => gW1 D cy B u t) (gA B)) 2 20 (gA B) := by
  refine g_met (maxL := 3) (ret := (some .int)) (by decide) rfl (Nat.le_of_ble_eq_true rfl) (fun p e s m args below meth c ls X hr hlk hnm hK hP hC hS hl => ?_)
  have hl : lv_has ls 3 [(0, .ref b), (1, .int x), (2, .ref lc)] := hl
  have hP : gP D cy B z T I R s.heap := hP
  have hB : B ≤ s.heap.size := by rw [hP.1]; exact hP.2.1
  have hin7 : ∀ κ, κ ≤ 6 → ∀ w ∈ mws κ, w ∈ wsX7_lifts := fun κ hκ => by
    rcases k7 hκ with rfl | rfl | rfl | rfl | rfl | rfl | rfl
    · exact fun _ h => List.mem_cons_of_mem _ (List.mem_append_left _ (List.mem_append_left _ (List.mem_append_left _ (List.mem_append_left _ (List.mem_append_right _ h)))))
    · exact fun _ h => List.mem_cons_of_mem _ (List.mem_append_left _ (List.mem_append_left _ (List.mem_append_left _ (List.mem_append_left _ (List.mem_append_left _ (List.mem_append_left _ (List.mem_append_right _ h)))))))
    · exact fun _ h => List.mem_cons_of_mem _ (List.mem_append_right _ h)
    · exact fun _ h => List.mem_cons_of_mem _ (List.mem_append_left _ (List.mem_append_left _ (List.mem_append_right _ h)))
    · exact fun _ h => List.mem_cons_of_mem _ (List.mem_append_left _ (List.mem_append_left _ (List.mem_append_left _ (List.mem_append_left _ (List.mem_append_left _ (List.mem_append_right _ h))))))
    · exact fun _ h => List.mem_cons_of_mem _ (List.mem_append_left _ (List.mem_append_right _ h))
    · exact fun _ h => List.mem_cons_of_mem _ (List.mem_append_left _ (List.mem_append_left _ (List.mem_append_left _ (List.mem_append_right _ h))))
  have k21 : Cond.fieldLink RX7 21 "BarrowPlank$Spilt" "number" "I" ∈ wsX7_lifts := by decide +kernel
  have hbz : b < z := hP.lt (by rw [htb]; exact Nat.succ_ne_zero _)
  have htl := hLs.1
  obtain ⟨Tv9, hcc9⟩ := mcl_c hκ
  refine lv_aload_n X.1 X.2.1 dX7_lifts_0 rfl (lv_at hl 2 rfl) ?_
  refine lv_bipush (v := 51) X.1 X.2.1 dX7_lifts_1 (by decide) ?_
  refine g_run_v (f := fun u => u) (g_runSs (nA := 2) [.ref lc, .int 51] X hK hP hS hC hB (a_begin (v := 51) hBx hAo (by omega) hz13 hLs (by first | omega | (simp only [List.length_append, List.length_cons, List.length_nil]; omega))) (x := ⟨"BarrowPlank$Spilt", "begin", "(Ljava/util/List;I)V"⟩) (index := 13) hUp.2.1 ⟨rfl, rfl⟩ (bytes := cX2_begin) (maxL := 2) (ret := none) (List.mem_cons_self ..) (by decide +kernel) rfl rfl ⟨Nat.le_of_ble_eq_true rfl, Nat.le_of_ble_eq_true rfl⟩ rfl hl.1 rfl (Nat.le_of_ble_eq_true rfl) dX7_lifts_3 ⟨Nat.le_of_ble_eq_true rfl, Nat.le_of_ble_eq_true rfl⟩) hS (fun u H locs hq hP hS => ?_)
  obtain ⟨zB1, TB1, IB1, RB1, rfl, hLB1, hFB1⟩ := hq
  have hP : gP D cy B zB1 TB1 IB1 RB1 H := hP
  have hFc := hFB1
  have htb := (hFB1.2.1 b hbz).trans htb
  have hnu := (hFB1.2.2.1 b 1 hbz hbl).trans hnu
  have hvv := (hFB1.2.2.1 b 2 hbz hbl).trans hvv
  have hbz := Nat.lt_of_lt_of_le hbz hFB1.1
  have hz13 : lc + 13 ≤ zB1 := Nat.le_trans hz13 hFB1.1
  have htl := hLB1.1
  have hleB1 := hLB1
  refine lv_aload_n X.1 X.2.1 dX7_lifts_6 rfl (lv_at hl 0 rfl) ?_
  refine lv_iload_n X.1 X.2.1 dX7_lifts_7 rfl (lv_at hl 1 rfl) ?_
  refine lv_aload_n X.1 X.2.1 dX7_lifts_8 rfl (lv_at hl 2 rfl) ?_
  refine g_run_i (f := fun u => u) (g_runSX (nA := 2) (k := mcl κ) [.int x, .ref lc] X hK hP hS hC hB (a_X2_lifts (κ := κ) (nu := nu) (vv := vv) hBx hAo hUp hz13 hκ htb hnu hvv hbl hLB1 (by first | omega | (simp only [List.length_append, List.length_cons, List.length_nil]; omega)) x) (x := ⟨"BarrowPlank$Waiting", "lifts", "(ILjava/util/List;)I"⟩) (index := 17) hUp.2.2.2.2.2.2.2.1 ⟨rfl, rfl⟩ (bytes := cX2_lifts) (maxL := 3) (ret := some .int) (List.mem_cons_self ..) ⟨by decide, by decide +kernel⟩ rfl rfl ⟨Nat.le_of_ble_eq_true rfl, Nat.le_of_ble_eq_true rfl⟩ htb hcc9 rfl hl.1 rfl (Nat.le_of_ble_eq_true rfl) dX7_lifts_9 ⟨Nat.le_of_ble_eq_true rfl, Nat.le_of_ble_eq_true rfl⟩) hS (fun r u H locs hq hP hS => ?_)
  obtain ⟨rfl, zQ2, TQ2, IQ2, RQ2, rfl, hLQ2, hFQ2⟩ := hq
  have hP : gP D cy B zQ2 TQ2 IQ2 RQ2 H := hP
  have hFc := hFc.trs hFQ2
  have htb := (hFQ2.2.1 b hbz).trans htb
  have hnu := (hFQ2.2.2.1 b 1 hbz hbl).trans hnu
  have hvv := (hFQ2.2.2.1 b 2 hbz hbl).trans hvv
  have hbz := Nat.lt_of_lt_of_le hbz hFQ2.1
  have hz13 : lc + 13 ≤ zQ2 := Nat.le_trans hz13 hFQ2.1
  have htl := hLQ2.1
  have hleQ2 := hLQ2
  have hnQ2 : (aPL nu x).2.length = 1 := rfl
  refine lv_aload_n X.1 X.2.1 dX7_lifts_12 rfl (lv_at hl 0 rfl) ?_
  refine g_mget 1 (by decide) hκ X hK hP htb (hin7 κ hκ) k21 (u_same (X.2.2.2.2 (.sameField "BarrowPlank$Spilt" "BarrowPlank$Man" "number" "I") (by decide +kernel))) dX7_lifts_13 (show IQ2 b 1 = nI nu from hnu) ?_
  refine lv_ixor X.1 X.2.1 dX7_lifts_16 ?_
  have hLf : cLs lc E ad TQ2 IQ2 RQ2 (tr ++ (aL κ nu x).2) := by
    have h9 := hLQ2
    rw [aL_5 hk]; simpa only [aPL, List.append_assoc, List.cons_append, List.nil_append] using h9
  exact g_iret (f := fun u => u) (zQ2, TQ2, IQ2, RQ2) X hr hlk hK hP hS dX7_lifts_17 ⟨(by rw [aL_5 hk]; rfl), zQ2, TQ2, IQ2, RQ2, rfl, hLf, hFc⟩

set_option maxHeartbeats 4000000 in
set_option maxRecDepth 100000 in
/-- a_X2_goes -/
theorem a_X2_goes (hBx : gBx s0 B ad C E) (hAo : gWs s0 [.arrayOver (.object "java/lang/Object")]) (hUp : gUp s0) (hz13 : lc + 13 ≤ z) (hκ : κ ≤ 6) (htb : T b = (mcl κ + 8, 0)) (hnu : I b 1 = nI nu) (hvv : I b 2 = nI vv) (hbl : b ≠ lc) (hLs : cLs lc E ad T I R tr) (hn : tr.length + 3 ≤ 10) (x : Int32)  : Met l yX2_goes wsX2_goes ({ frames := 8, cells := 3, slots := 30, locals := 173 }) (va_Pc [.ref b, .int x, .ref lc] (gW0 s0 D cy B (z, T, I, R))) (va_Qi (fun r u => r = (aPG κ nu vv x).1 ∧ ∃ z' T' I' R', u = (z', T', I', R') ∧ cLs lc E ad T' I' R' (tr ++ (aPG κ nu vv x).2) ∧ gLf lc z z' T T' I I' R R') (fun u t => gW1 D cy B u t) (gA B)) 3 30 (gA B) := by
  refine g_met (maxL := 3) (ret := (some .int)) (by decide) rfl (Nat.le_of_ble_eq_true rfl) (fun p e s m args below meth c ls X hr hlk hnm hK hP hC hS hl => ?_)
  have hl : lv_has ls 3 [(0, .ref b), (1, .int x), (2, .ref lc)] := hl
  have hP : gP D cy B z T I R s.heap := hP
  have hB : B ≤ s.heap.size := by rw [hP.1]; exact hP.2.1
  have hin7 : ∀ κ, κ ≤ 6 → ∀ w ∈ mws κ, w ∈ wsX2_goes := fun κ hκ => by
    rcases k7 hκ with rfl | rfl | rfl | rfl | rfl | rfl | rfl
    · exact fun _ h => List.mem_cons_of_mem _ (List.mem_append_left _ (List.mem_append_left _ (List.mem_append_left _ (List.mem_append_left _ (List.mem_append_left _ (List.mem_append_left _ (List.mem_append_right _ h)))))))
    · exact fun _ h => List.mem_cons_of_mem _ (List.mem_append_left _ (List.mem_append_left _ (List.mem_append_left _ (List.mem_append_left _ (List.mem_append_left _ (List.mem_append_left _ (List.mem_append_left _ (List.mem_append_left _ (List.mem_append_right _ h)))))))))
    · exact fun _ h => List.mem_cons_of_mem _ (List.mem_append_left _ (List.mem_append_left _ (List.mem_append_right _ h)))
    · exact fun _ h => List.mem_cons_of_mem _ (List.mem_append_left _ (List.mem_append_left _ (List.mem_append_left _ (List.mem_append_left _ (List.mem_append_right _ h)))))
    · exact fun _ h => List.mem_cons_of_mem _ (List.mem_append_left _ (List.mem_append_left _ (List.mem_append_left _ (List.mem_append_left _ (List.mem_append_left _ (List.mem_append_left _ (List.mem_append_left _ (List.mem_append_right _ h))))))))
    · exact fun _ h => List.mem_cons_of_mem _ (List.mem_append_left _ (List.mem_append_left _ (List.mem_append_left _ (List.mem_append_right _ h))))
    · exact fun _ h => List.mem_cons_of_mem _ (List.mem_append_left _ (List.mem_append_left _ (List.mem_append_left _ (List.mem_append_left _ (List.mem_append_left _ (List.mem_append_right _ h))))))
  have k18 : Cond.fieldLink RX2 18 "BarrowPlank$Man" "v" "I" ∈ wsX2_goes := by decide +kernel
  have hbz : b < z := hP.lt (by rw [htb]; exact Nat.succ_ne_zero _)
  have htl := hLs.1
  obtain ⟨Tv9, hcc9⟩ := mcl_c hκ
  refine lv_aload_n X.1 X.2.1 dX2_goes_0 rfl (lv_at hl 2 rfl) ?_
  refine lv_iconst (v := 2) X.1 X.2.1 dX2_goes_1 (by decide) ?_
  refine g_run_v (f := fun u => u) (g_runS [.ref lc, .int 2] X hK hP hS hC hB (a_begin (v := 2) hBx hAo (by omega) hz13 hLs (by first | omega | (simp only [List.length_append, List.length_cons, List.length_nil]; omega))) (va_cwS 2 X.2.2.2.2 gX2_goes_X2_begin rfl rfl rfl (by decide +kernel) ⟨Nat.le_of_ble_eq_true rfl, Nat.le_of_ble_eq_true rfl⟩) rfl hl.1 rfl (Nat.le_of_ble_eq_true rfl) dX2_goes_2 ⟨Nat.le_of_ble_eq_true rfl, Nat.le_of_ble_eq_true rfl⟩) hS (fun u H locs hq hP hS => ?_)
  obtain ⟨zB1, TB1, IB1, RB1, rfl, hLB1, hFB1⟩ := hq
  have hP : gP D cy B zB1 TB1 IB1 RB1 H := hP
  have hFc := hFB1
  have htb := (hFB1.2.1 b hbz).trans htb
  have hnu := (hFB1.2.2.1 b 1 hbz hbl).trans hnu
  have hvv := (hFB1.2.2.1 b 2 hbz hbl).trans hvv
  have hbz := Nat.lt_of_lt_of_le hbz hFB1.1
  have hz13 : lc + 13 ≤ zB1 := Nat.le_trans hz13 hFB1.1
  have htl := hLB1.1
  have hleB1 := hLB1
  refine lv_aload_n X.1 X.2.1 dX2_goes_5 rfl (lv_at hl 0 rfl) ?_
  refine lv_iload_n X.1 X.2.1 dX2_goes_6 rfl (lv_at hl 1 rfl) ?_
  refine lv_aload_n X.1 X.2.1 dX2_goes_7 rfl (lv_at hl 2 rfl) ?_
  refine g_joinW (D := D) (cy := cy) (B := B) (H0 := s.heap) (rest := []) (fun r z' T' I' R' => r = (aL κ nu x).1 ∧ cLs lc E ad T' I' R' (tr ++ [2] ++ (aL κ nu x).2) ∧ gLf lc zB1 z' TB1 T' IB1 I' RB1 R') 3 30 11 (fun hgo => ?_) (fun r zQ2 TQ2 IQ2 RQ2 H locs hq hP hS => ?_)
  · rcases k7 hκ with hc9 | hc9 | hc9 | hc9 | hc9 | hc9 | hc9
    · have hty8 : TB1 b = (4 + 8, 0) := by rw [htb, hc9]; rfl
      refine g_run_i (f := fun u => u) (g_runV (k := 4) [.int x, .ref lc] X hK hP hS hC hB (a_X2_lifts (κ := κ) (nu := nu) (vv := vv) hBx hAo hUp hz13 hκ htb hnu hvv hbl hLB1 (by first | omega | (simp only [List.length_append, List.length_cons, List.length_nil]; omega)) x) (cwV 2 X.2.2.2.2 gX2_goes_X2_lifts rfl rfl rfl (by decide +kernel) ⟨Nat.le_of_ble_eq_true rfl, Nat.le_of_ble_eq_true rfl⟩) hty8 rfl rfl hl.1 rfl (Nat.le_of_ble_eq_true rfl) dX2_goes_8 ⟨Nat.le_of_ble_eq_true rfl, Nat.le_of_ble_eq_true rfl⟩) hS (fun r u H locs hq hP hS => ?_)
      rw [← aL_0 (κ := κ) (nu := nu) (x := x) (by omega) (by omega)] at hq
      obtain ⟨rfl, z9, T9, I9, R9, rfl, hL9, hF9⟩ := hq
      refine g_pad (cells' := 3) (slots' := 30) (Nat.le_of_ble_eq_true rfl) (Nat.le_of_ble_eq_true rfl) ?_
      exact hgo _ _ _ _ _ H locs ⟨rfl, hL9, hF9⟩ hP hS
    · have hty8 : TB1 b = (2 + 8, 0) := by rw [htb, hc9]; rfl
      refine g_run_i (f := fun u => u) (g_runU (k := 2) [.int x, .ref lc] X hK hP hS hC hB (a_X0_lifts (κ := κ) (nu := nu) (vv := vv) hBx hAo hUp hz13 hκ htb hnu hvv hbl hLB1 (by first | omega | (simp only [List.length_append, List.length_cons, List.length_nil]; omega)) x (by omega)) (va_cwO 2 X.2.2.2.2 gX2_goes_X0_lifts_u65X0 rfl rfl rfl (b0 := cX2_lifts) (m0 := 3) (r0 := some .int) (by decide +kernel) ⟨by decide, by decide, by decide +kernel⟩ ⟨Nat.le_of_ble_eq_true rfl, Nat.le_of_ble_eq_true rfl⟩) hty8 rfl rfl hl.1 rfl (Nat.le_of_ble_eq_true rfl) dX2_goes_8 ⟨Nat.le_of_ble_eq_true rfl, Nat.le_of_ble_eq_true rfl⟩) hS (fun r u H locs hq hP hS => ?_)
      obtain ⟨rfl, z9, T9, I9, R9, rfl, hL9, hF9⟩ := hq
      refine g_pad (cells' := 3) (slots' := 30) (Nat.le_of_ble_eq_true rfl) (Nat.le_of_ble_eq_true rfl) ?_
      exact hgo _ _ _ _ _ H locs ⟨rfl, hL9, hF9⟩ hP hS
    · have hty8 : TB1 b = (11 + 8, 0) := by rw [htb, hc9]; rfl
      refine g_run_i (f := fun u => u) (g_runU (k := 11) [.int x, .ref lc] X hK hP hS hC hB (a_X2_lifts (κ := κ) (nu := nu) (vv := vv) hBx hAo hUp hz13 hκ htb hnu hvv hbl hLB1 (by first | omega | (simp only [List.length_append, List.length_cons, List.length_nil]; omega)) x) (va_cwU 2 X.2.2.2.2 gX2_goes_X2_lifts_u65X9 rfl rfl rfl rfl ⟨by decide, by decide, by decide +kernel⟩ ⟨Nat.le_of_ble_eq_true rfl, Nat.le_of_ble_eq_true rfl⟩) hty8 rfl rfl hl.1 rfl (Nat.le_of_ble_eq_true rfl) dX2_goes_8 ⟨Nat.le_of_ble_eq_true rfl, Nat.le_of_ble_eq_true rfl⟩) hS (fun r u H locs hq hP hS => ?_)
      rw [← aL_0 (κ := κ) (nu := nu) (x := x) (by omega) (by omega)] at hq
      obtain ⟨rfl, z9, T9, I9, R9, rfl, hL9, hF9⟩ := hq
      refine g_pad (cells' := 3) (slots' := 30) (Nat.le_of_ble_eq_true rfl) (Nat.le_of_ble_eq_true rfl) ?_
      exact hgo _ _ _ _ _ H locs ⟨rfl, hL9, hF9⟩ hP hS
    · have hty8 : TB1 b = (8 + 8, 0) := by rw [htb, hc9]; rfl
      refine g_run_i (f := fun u => u) (g_runU (k := 8) [.int x, .ref lc] X hK hP hS hC hB (a_X2_lifts (κ := κ) (nu := nu) (vv := vv) hBx hAo hUp hz13 hκ htb hnu hvv hbl hLB1 (by first | omega | (simp only [List.length_append, List.length_cons, List.length_nil]; omega)) x) (va_cwU 2 X.2.2.2.2 gX2_goes_X2_lifts_u65X6 rfl rfl rfl rfl ⟨by decide, by decide, by decide +kernel⟩ ⟨Nat.le_of_ble_eq_true rfl, Nat.le_of_ble_eq_true rfl⟩) hty8 rfl rfl hl.1 rfl (Nat.le_of_ble_eq_true rfl) dX2_goes_8 ⟨Nat.le_of_ble_eq_true rfl, Nat.le_of_ble_eq_true rfl⟩) hS (fun r u H locs hq hP hS => ?_)
      rw [← aL_0 (κ := κ) (nu := nu) (x := x) (by omega) (by omega)] at hq
      obtain ⟨rfl, z9, T9, I9, R9, rfl, hL9, hF9⟩ := hq
      refine g_pad (cells' := 3) (slots' := 30) (Nat.le_of_ble_eq_true rfl) (Nat.le_of_ble_eq_true rfl) ?_
      exact hgo _ _ _ _ _ H locs ⟨rfl, hL9, hF9⟩ hP hS
    · have hty8 : TB1 b = (3 + 8, 0) := by rw [htb, hc9]; rfl
      refine g_run_i (f := fun u => u) (g_runU (k := 3) [.int x, .ref lc] X hK hP hS hC hB (a_X0_lifts (κ := κ) (nu := nu) (vv := vv) hBx hAo hUp hz13 hκ htb hnu hvv hbl hLB1 (by first | omega | (simp only [List.length_append, List.length_cons, List.length_nil]; omega)) x (by omega)) (va_cwO 2 X.2.2.2.2 gX2_goes_X0_lifts_u65X1 rfl rfl rfl (b0 := cX2_lifts) (m0 := 3) (r0 := some .int) (by decide +kernel) ⟨by decide, by decide, by decide +kernel⟩ ⟨Nat.le_of_ble_eq_true rfl, Nat.le_of_ble_eq_true rfl⟩) hty8 rfl rfl hl.1 rfl (Nat.le_of_ble_eq_true rfl) dX2_goes_8 ⟨Nat.le_of_ble_eq_true rfl, Nat.le_of_ble_eq_true rfl⟩) hS (fun r u H locs hq hP hS => ?_)
      obtain ⟨rfl, z9, T9, I9, R9, rfl, hL9, hF9⟩ := hq
      refine g_pad (cells' := 3) (slots' := 30) (Nat.le_of_ble_eq_true rfl) (Nat.le_of_ble_eq_true rfl) ?_
      exact hgo _ _ _ _ _ H locs ⟨rfl, hL9, hF9⟩ hP hS
    · have hty8 : TB1 b = (9 + 8, 0) := by rw [htb, hc9]; rfl
      refine g_run_i (f := fun u => u) (g_runU (k := 9) [.int x, .ref lc] X hK hP hS hC hB (a_X7_lifts (κ := κ) (nu := nu) (vv := vv) hBx hAo hUp hz13 hκ htb hnu hvv hbl hLB1 (by first | omega | (simp only [List.length_append, List.length_cons, List.length_nil]; omega)) x hc9) (va_cwO 2 X.2.2.2.2 gX2_goes_X7_lifts_u65X7 rfl rfl rfl (b0 := cX2_lifts) (m0 := 3) (r0 := some .int) (by decide +kernel) ⟨by decide, by decide, by decide +kernel⟩ ⟨Nat.le_of_ble_eq_true rfl, Nat.le_of_ble_eq_true rfl⟩) hty8 rfl rfl hl.1 rfl (Nat.le_of_ble_eq_true rfl) dX2_goes_8 ⟨Nat.le_of_ble_eq_true rfl, Nat.le_of_ble_eq_true rfl⟩) hS (fun r u H locs hq hP hS => ?_)
      obtain ⟨rfl, z9, T9, I9, R9, rfl, hL9, hF9⟩ := hq
      refine g_pad (cells' := 3) (slots' := 30) (Nat.le_of_ble_eq_true rfl) (Nat.le_of_ble_eq_true rfl) ?_
      exact hgo _ _ _ _ _ H locs ⟨rfl, hL9, hF9⟩ hP hS
    · have hty8 : TB1 b = (5 + 8, 0) := by rw [htb, hc9]; rfl
      refine g_run_i (f := fun u => u) (g_runU (k := 5) [.int x, .ref lc] X hK hP hS hC hB (a_X2_lifts (κ := κ) (nu := nu) (vv := vv) hBx hAo hUp hz13 hκ htb hnu hvv hbl hLB1 (by first | omega | (simp only [List.length_append, List.length_cons, List.length_nil]; omega)) x) (va_cwU 2 X.2.2.2.2 gX2_goes_X2_lifts_u65X3 rfl rfl rfl rfl ⟨by decide, by decide, by decide +kernel⟩ ⟨Nat.le_of_ble_eq_true rfl, Nat.le_of_ble_eq_true rfl⟩) hty8 rfl rfl hl.1 rfl (Nat.le_of_ble_eq_true rfl) dX2_goes_8 ⟨Nat.le_of_ble_eq_true rfl, Nat.le_of_ble_eq_true rfl⟩) hS (fun r u H locs hq hP hS => ?_)
      rw [← aL_0 (κ := κ) (nu := nu) (x := x) (by omega) (by omega)] at hq
      obtain ⟨rfl, z9, T9, I9, R9, rfl, hL9, hF9⟩ := hq
      refine g_pad (cells' := 3) (slots' := 30) (Nat.le_of_ble_eq_true rfl) (Nat.le_of_ble_eq_true rfl) ?_
      exact hgo _ _ _ _ _ H locs ⟨rfl, hL9, hF9⟩ hP hS
  · obtain ⟨rfl, hLQ2, hFQ2⟩ := hq
    have hP : gP D cy B zQ2 TQ2 IQ2 RQ2 H := hP
    have hFc := hFc.trs hFQ2
    have htb := (hFQ2.2.1 b hbz).trans htb
    have hnu := (hFQ2.2.2.1 b 1 hbz hbl).trans hnu
    have hvv := (hFQ2.2.2.1 b 2 hbz hbl).trans hvv
    have hbz := Nat.lt_of_lt_of_le hbz hFQ2.1
    have hz13 : lc + 13 ≤ zQ2 := Nat.le_trans hz13 hFQ2.1
    have htl := hLQ2.1
    have hleQ2 := hLQ2
    have hnQ2 := aL_n κ nu x
    refine lv_aload_n X.1 X.2.1 dX2_goes_11 rfl (lv_at hl 0 rfl) ?_
    refine g_mget 2 (by decide) hκ X hK hP htb (hin7 κ hκ) k18 (fun _ h => h) dX2_goes_12 (show IQ2 b 2 = nI vv from hvv) ?_
    refine lv_isub X.1 X.2.1 dX2_goes_15 ?_
    have hLf : cLs lc E ad TQ2 IQ2 RQ2 (tr ++ (aPG κ nu vv x).2) := by
      have h9 := hLQ2
      rw [List.append_assoc] at h9; exact h9
    exact g_iret (f := fun u => u) (zQ2, TQ2, IQ2, RQ2) X hr hlk hK hP hS dX2_goes_16 ⟨rfl, zQ2, TQ2, IQ2, RQ2, rfl, hLf, hFc⟩

set_option maxHeartbeats 4000000 in
set_option maxRecDepth 100000 in
/-- a_X9_goes -/
theorem a_X9_goes (hBx : gBx s0 B ad C E) (hAo : gWs s0 [.arrayOver (.object "java/lang/Object")]) (hUp : gUp s0) (hz13 : lc + 13 ≤ z) (hκ : κ ≤ 6) (htb : T b = (mcl κ + 8, 0)) (hnu : I b 1 = nI nu) (hvv : I b 2 = nI vv) (hbl : b ≠ lc) (hLs : cLs lc E ad T I R tr) (hn : tr.length + 4 ≤ 10) (x : Int32) (hk : κ = 2 ∨ κ = 5) : Met l yX9_goes wsX9_goes ({ frames := 9, cells := 4, slots := 40, locals := 195 }) (va_Pc [.ref b, .int x, .ref lc] (gW0 s0 D cy B (z, T, I, R))) (va_Qi (fun r u => r = (aG κ nu vv x).1 ∧ ∃ z' T' I' R', u = (z', T', I', R') ∧ cLs lc E ad T' I' R' (tr ++ (aG κ nu vv x).2) ∧ gLf lc z z' T T' I I' R R') (fun u t => gW1 D cy B u t) (gA B)) 4 40 (gA B) := by
  refine g_met (maxL := 3) (ret := (some .int)) (by decide) rfl (Nat.le_of_ble_eq_true rfl) (fun p e s m args below meth c ls X hr hlk hnm hK hP hC hS hl => ?_)
  have hl : lv_has ls 3 [(0, .ref b), (1, .int x), (2, .ref lc)] := hl
  have hP : gP D cy B z T I R s.heap := hP
  have hB : B ≤ s.heap.size := by rw [hP.1]; exact hP.2.1
  have hin7 : ∀ κ, κ ≤ 6 → ∀ w ∈ mws κ, w ∈ wsX9_goes := fun κ hκ => by
    rcases k7 hκ with rfl | rfl | rfl | rfl | rfl | rfl | rfl
    · exact fun _ h => List.mem_cons_of_mem _ (List.mem_append_left _ (List.mem_append_left _ (List.mem_append_left _ (List.mem_append_left _ (List.mem_append_left _ (List.mem_append_left _ (List.mem_append_right _ h)))))))
    · exact fun _ h => List.mem_cons_of_mem _ (List.mem_append_left _ (List.mem_append_left _ (List.mem_append_left _ (List.mem_append_left _ (List.mem_append_left _ (List.mem_append_left _ (List.mem_append_left _ (List.mem_append_left _ (List.mem_append_right _ h)))))))))
    · exact fun _ h => List.mem_cons_of_mem _ (List.mem_append_left _ (List.mem_append_left _ (List.mem_append_right _ h)))
    · exact fun _ h => List.mem_cons_of_mem _ (List.mem_append_left _ (List.mem_append_left _ (List.mem_append_left _ (List.mem_append_left _ (List.mem_append_right _ h)))))
    · exact fun _ h => List.mem_cons_of_mem _ (List.mem_append_left _ (List.mem_append_left _ (List.mem_append_left _ (List.mem_append_left _ (List.mem_append_left _ (List.mem_append_left _ (List.mem_append_left _ (List.mem_append_right _ h))))))))
    · exact fun _ h => List.mem_cons_of_mem _ (List.mem_append_left _ (List.mem_append_left _ (List.mem_append_left _ (List.mem_append_right _ h))))
    · exact fun _ h => List.mem_cons_of_mem _ (List.mem_append_left _ (List.mem_append_left _ (List.mem_append_left _ (List.mem_append_left _ (List.mem_append_left _ (List.mem_append_right _ h))))))
  have hbz : b < z := hP.lt (by rw [htb]; exact Nat.succ_ne_zero _)
  have htl := hLs.1
  obtain ⟨Tv9, hcc9⟩ := mcl_c hκ
  refine lv_aload_n X.1 X.2.1 dX9_goes_0 rfl (lv_at hl 2 rfl) ?_
  refine lv_bipush (v := 21) X.1 X.2.1 dX9_goes_1 (by decide) ?_
  refine g_run_v (f := fun u => u) (g_runSs (nA := 2) [.ref lc, .int 21] X hK hP hS hC hB (a_begin (v := 21) hBx hAo (by omega) hz13 hLs (by first | omega | (simp only [List.length_append, List.length_cons, List.length_nil]; omega))) (x := ⟨"BarrowPlank$Waiting", "begin", "(Ljava/util/List;I)V"⟩) (index := 13) hUp.2.2.1 ⟨rfl, rfl⟩ (bytes := cX2_begin) (maxL := 2) (ret := none) (List.mem_cons_self ..) (by decide +kernel) rfl rfl ⟨Nat.le_of_ble_eq_true rfl, Nat.le_of_ble_eq_true rfl⟩ rfl hl.1 rfl (Nat.le_of_ble_eq_true rfl) dX9_goes_3 ⟨Nat.le_of_ble_eq_true rfl, Nat.le_of_ble_eq_true rfl⟩) hS (fun u H locs hq hP hS => ?_)
  obtain ⟨zB1, TB1, IB1, RB1, rfl, hLB1, hFB1⟩ := hq
  have hP : gP D cy B zB1 TB1 IB1 RB1 H := hP
  have hFc := hFB1
  have htb := (hFB1.2.1 b hbz).trans htb
  have hnu := (hFB1.2.2.1 b 1 hbz hbl).trans hnu
  have hvv := (hFB1.2.2.1 b 2 hbz hbl).trans hvv
  have hbz := Nat.lt_of_lt_of_le hbz hFB1.1
  have hz13 : lc + 13 ≤ zB1 := Nat.le_trans hz13 hFB1.1
  have htl := hLB1.1
  have hleB1 := hLB1
  refine lv_aload_n X.1 X.2.1 dX9_goes_6 rfl (lv_at hl 0 rfl) ?_
  refine lv_iload_n X.1 X.2.1 dX9_goes_7 rfl (lv_at hl 1 rfl) ?_
  refine lv_aload_n X.1 X.2.1 dX9_goes_8 rfl (lv_at hl 2 rfl) ?_
  refine g_run_i (f := fun u => u) (g_runSU (k := mcl κ) [.int x, .ref lc] X hK hP hS hC hB (a_X2_goes (κ := κ) (nu := nu) (vv := vv) hBx hAo hUp hz13 hκ htb hnu hvv hbl hLB1 (by first | omega | (simp only [List.length_append, List.length_cons, List.length_nil]; omega)) x) (va_cwSU 2 X.2.2.2.2 gX9_goes_X2_goes_s17 rfl rfl rfl ⟨by decide, by decide +kernel⟩ ⟨Nat.le_of_ble_eq_true rfl, Nat.le_of_ble_eq_true rfl⟩) htb hcc9 rfl hl.1 rfl (Nat.le_of_ble_eq_true rfl) dX9_goes_9 ⟨Nat.le_of_ble_eq_true rfl, Nat.le_of_ble_eq_true rfl⟩) hS (fun r u H locs hq hP hS => ?_)
  obtain ⟨rfl, zQ2, TQ2, IQ2, RQ2, rfl, hLQ2, hFQ2⟩ := hq
  have hP : gP D cy B zQ2 TQ2 IQ2 RQ2 H := hP
  have hFc := hFc.trs hFQ2
  have htb := (hFQ2.2.1 b hbz).trans htb
  have hnu := (hFQ2.2.2.1 b 1 hbz hbl).trans hnu
  have hvv := (hFQ2.2.2.1 b 2 hbz hbl).trans hvv
  have hbz := Nat.lt_of_lt_of_le hbz hFQ2.1
  have hz13 : lc + 13 ≤ zQ2 := Nat.le_trans hz13 hFQ2.1
  have htl := hLQ2.1
  have hleQ2 := hLQ2
  have hnQ2 := aPG_n κ nu vv x
  refine lv_ineg X.1 X.2.1 dX9_goes_12 ?_
  have hLf : cLs lc E ad TQ2 IQ2 RQ2 (tr ++ (aG κ nu vv x).2) := by
    have h9 := hLQ2
    rw [aG_25 hk]; simpa only [List.append_assoc, List.cons_append, List.nil_append] using h9
  exact g_iret (f := fun u => u) (zQ2, TQ2, IQ2, RQ2) X hr hlk hK hP hS dX9_goes_13 ⟨(by rw [aG_25 hk]), zQ2, TQ2, IQ2, RQ2, rfl, hLf, hFc⟩

set_option maxHeartbeats 4000000 in
set_option maxRecDepth 100000 in
/-- a_X3_goes -/
theorem a_X3_goes (hBx : gBx s0 B ad C E) (hAo : gWs s0 [.arrayOver (.object "java/lang/Object")]) (hUp : gUp s0) (hz13 : lc + 13 ≤ z) (hκ : κ ≤ 6) (htb : T b = (mcl κ + 8, 0)) (hnu : I b 1 = nI nu) (hvv : I b 2 = nI vv) (hbl : b ≠ lc) (hLs : cLs lc E ad T I R tr) (hn : tr.length + 4 ≤ 10) (x : Int32) (hk : κ = 6) : Met l yX3_goes wsX3_goes ({ frames := 9, cells := 4, slots := 40, locals := 195 }) (va_Pc [.ref b, .int x, .ref lc] (gW0 s0 D cy B (z, T, I, R))) (va_Qi (fun r u => r = (aG κ nu vv x).1 ∧ ∃ z' T' I' R', u = (z', T', I', R') ∧ cLs lc E ad T' I' R' (tr ++ (aG κ nu vv x).2) ∧ gLf lc z z' T T' I I' R R') (fun u t => gW1 D cy B u t) (gA B)) 4 40 (gA B) := by
  refine g_met (maxL := 3) (ret := (some .int)) (by decide) rfl (Nat.le_of_ble_eq_true rfl) (fun p e s m args below meth c ls X hr hlk hnm hK hP hC hS hl => ?_)
  have hl : lv_has ls 3 [(0, .ref b), (1, .int x), (2, .ref lc)] := hl
  have hP : gP D cy B z T I R s.heap := hP
  have hB : B ≤ s.heap.size := by rw [hP.1]; exact hP.2.1
  have hin7 : ∀ κ, κ ≤ 6 → ∀ w ∈ mws κ, w ∈ wsX3_goes := fun κ hκ => by
    rcases k7 hκ with rfl | rfl | rfl | rfl | rfl | rfl | rfl
    · exact fun _ h => List.mem_cons_of_mem _ (List.mem_append_left _ (List.mem_append_left _ (List.mem_append_left _ (List.mem_append_left _ (List.mem_append_right _ h)))))
    · exact fun _ h => List.mem_cons_of_mem _ (List.mem_append_left _ (List.mem_append_left _ (List.mem_append_left _ (List.mem_append_left _ (List.mem_append_left _ (List.mem_append_left _ (List.mem_append_right _ h)))))))
    · exact fun _ h => List.mem_cons_of_mem _ (List.mem_append_right _ h)
    · exact fun _ h => List.mem_cons_of_mem _ (List.mem_append_left _ (List.mem_append_left _ (List.mem_append_right _ h)))
    · exact fun _ h => List.mem_cons_of_mem _ (List.mem_append_left _ (List.mem_append_left _ (List.mem_append_left _ (List.mem_append_left _ (List.mem_append_left _ (List.mem_append_right _ h))))))
    · exact fun _ h => List.mem_cons_of_mem _ (List.mem_append_left _ (List.mem_append_right _ h))
    · exact fun _ h => List.mem_cons_of_mem _ (List.mem_append_left _ (List.mem_append_left _ (List.mem_append_left _ (List.mem_append_right _ h))))
  have k7 : Cond.fieldLink RX3 7 "BarrowPlank$Off" "v" "I" ∈ wsX3_goes := by decide +kernel
  have hbz : b < z := hP.lt (by rw [htb]; exact Nat.succ_ne_zero _)
  have htl := hLs.1
  obtain ⟨Tv9, hcc9⟩ := mcl_c hκ
  refine lv_aload_n X.1 X.2.1 dX3_goes_0 rfl (lv_at hl 2 rfl) ?_
  refine lv_bipush (v := 61) X.1 X.2.1 dX3_goes_1 (by decide) ?_
  refine g_run_v (f := fun u => u) (g_runSs (nA := 2) [.ref lc, .int 61] X hK hP hS hC hB (a_begin (v := 61) hBx hAo (by omega) hz13 hLs (by first | omega | (simp only [List.length_append, List.length_cons, List.length_nil]; omega))) (x := ⟨"BarrowPlank$Off", "begin", "(Ljava/util/List;I)V"⟩) (index := 17) hUp.2.2.2.1 ⟨rfl, rfl⟩ (bytes := cX2_begin) (maxL := 2) (ret := none) (List.mem_cons_self ..) (by decide +kernel) rfl rfl ⟨Nat.le_of_ble_eq_true rfl, Nat.le_of_ble_eq_true rfl⟩ rfl hl.1 rfl (Nat.le_of_ble_eq_true rfl) dX3_goes_3 ⟨Nat.le_of_ble_eq_true rfl, Nat.le_of_ble_eq_true rfl⟩) hS (fun u H locs hq hP hS => ?_)
  obtain ⟨zB1, TB1, IB1, RB1, rfl, hLB1, hFB1⟩ := hq
  have hP : gP D cy B zB1 TB1 IB1 RB1 H := hP
  have hFc := hFB1
  have htb := (hFB1.2.1 b hbz).trans htb
  have hnu := (hFB1.2.2.1 b 1 hbz hbl).trans hnu
  have hvv := (hFB1.2.2.1 b 2 hbz hbl).trans hvv
  have hbz := Nat.lt_of_lt_of_le hbz hFB1.1
  have hz13 : lc + 13 ≤ zB1 := Nat.le_trans hz13 hFB1.1
  have htl := hLB1.1
  have hleB1 := hLB1
  refine lv_aload_n X.1 X.2.1 dX3_goes_6 rfl (lv_at hl 0 rfl) ?_
  refine lv_iload_n X.1 X.2.1 dX3_goes_7 rfl (lv_at hl 1 rfl) ?_
  refine lv_aload_n X.1 X.2.1 dX3_goes_8 rfl (lv_at hl 2 rfl) ?_
  refine g_run_i (f := fun u => u) (g_runSX (nA := 2) (k := mcl κ) [.int x, .ref lc] X hK hP hS hC hB (a_X2_goes (κ := κ) (nu := nu) (vv := vv) hBx hAo hUp hz13 hκ htb hnu hvv hbl hLB1 (by first | omega | (simp only [List.length_append, List.length_cons, List.length_nil]; omega)) x) (x := ⟨"BarrowPlank$Slow", "goes", "(ILjava/util/List;)I"⟩) (index := 21) hUp.2.2.2.2.2.2.2.2 ⟨rfl, rfl⟩ (bytes := cX2_goes) (maxL := 3) (ret := some .int) (List.mem_cons_self ..) ⟨by decide, by decide +kernel⟩ rfl rfl ⟨Nat.le_of_ble_eq_true rfl, Nat.le_of_ble_eq_true rfl⟩ htb hcc9 rfl hl.1 rfl (Nat.le_of_ble_eq_true rfl) dX3_goes_9 ⟨Nat.le_of_ble_eq_true rfl, Nat.le_of_ble_eq_true rfl⟩) hS (fun r u H locs hq hP hS => ?_)
  obtain ⟨rfl, zQ2, TQ2, IQ2, RQ2, rfl, hLQ2, hFQ2⟩ := hq
  have hP : gP D cy B zQ2 TQ2 IQ2 RQ2 H := hP
  have hFc := hFc.trs hFQ2
  have htb := (hFQ2.2.1 b hbz).trans htb
  have hnu := (hFQ2.2.2.1 b 1 hbz hbl).trans hnu
  have hvv := (hFQ2.2.2.1 b 2 hbz hbl).trans hvv
  have hbz := Nat.lt_of_lt_of_le hbz hFQ2.1
  have hz13 : lc + 13 ≤ zQ2 := Nat.le_trans hz13 hFQ2.1
  have htl := hLQ2.1
  have hleQ2 := hLQ2
  have hnQ2 := aPG_n κ nu vv x
  refine lv_aload_n X.1 X.2.1 dX3_goes_12 rfl (lv_at hl 0 rfl) ?_
  refine g_mget 2 (by decide) hκ X hK hP htb (hin7 κ hκ) k7 (u_same (X.2.2.2.2 (.sameField "BarrowPlank$Off" "BarrowPlank$Man" "v" "I") (by decide +kernel))) dX3_goes_13 (show IQ2 b 2 = nI vv from hvv) ?_
  refine lv_iadd X.1 X.2.1 dX3_goes_16 ?_
  have hLf : cLs lc E ad TQ2 IQ2 RQ2 (tr ++ (aG κ nu vv x).2) := by
    have h9 := hLQ2
    rw [aG_6 hk]; simpa only [List.append_assoc, List.cons_append, List.nil_append] using h9
  exact g_iret (f := fun u => u) (zQ2, TQ2, IQ2, RQ2) X hr hlk hK hP hS dX3_goes_17 ⟨(by rw [aG_6 hk]), zQ2, TQ2, IQ2, RQ2, rfl, hLf, hFc⟩

set_option maxHeartbeats 4000000 in
set_option maxRecDepth 100000 in
/-- a_X2_tires -/
theorem a_X2_tires (hBx : gBx s0 B ad C E) (hAo : gWs s0 [.arrayOver (.object "java/lang/Object")]) (hUp : gUp s0) (hz13 : lc + 13 ≤ z) (hκ : κ ≤ 6) (htb : T b = (mcl κ + 8, 0)) (hnu : I b 1 = nI nu) (hvv : I b 2 = nI vv) (hbl : b ≠ lc) (hLs : cLs lc E ad T I R tr) (hn : tr.length + 5 ≤ 10) (x : Int32)  : Met l yX2_tires wsX2_tires ({ frames := 10, cells := 5, slots := 50, locals := 217 }) (va_Pc [.ref b, .int x, .ref lc] (gW0 s0 D cy B (z, T, I, R))) (va_Qi (fun r u => r = (aPT κ nu vv x).1 ∧ ∃ z' T' I' R', u = (z', T', I', R') ∧ cLs lc E ad T' I' R' (tr ++ (aPT κ nu vv x).2) ∧ gLf lc z z' T T' I I' R R') (fun u t => gW1 D cy B u t) (gA B)) 5 50 (gA B) := by
  refine g_met (maxL := 3) (ret := (some .int)) (by decide) rfl (Nat.le_of_ble_eq_true rfl) (fun p e s m args below meth c ls X hr hlk hnm hK hP hC hS hl => ?_)
  have hl : lv_has ls 3 [(0, .ref b), (1, .int x), (2, .ref lc)] := hl
  have hP : gP D cy B z T I R s.heap := hP
  have hB : B ≤ s.heap.size := by rw [hP.1]; exact hP.2.1
  have hin7 : ∀ κ, κ ≤ 6 → ∀ w ∈ mws κ, w ∈ wsX2_tires := fun κ hκ => by
    rcases k7 hκ with rfl | rfl | rfl | rfl | rfl | rfl | rfl
    · exact fun _ h => List.mem_cons_of_mem _ (List.mem_append_left _ (List.mem_append_left _ (List.mem_append_left _ (List.mem_append_left _ (List.mem_append_right _ h)))))
    · exact fun _ h => List.mem_cons_of_mem _ (List.mem_append_left _ (List.mem_append_left _ (List.mem_append_left _ (List.mem_append_left _ (List.mem_append_left _ (List.mem_append_left _ (List.mem_append_right _ h)))))))
    · exact fun _ h => List.mem_cons_of_mem _ (List.mem_append_right _ h)
    · exact fun _ h => List.mem_cons_of_mem _ (List.mem_append_left _ (List.mem_append_left _ (List.mem_append_right _ h)))
    · exact fun _ h => List.mem_cons_of_mem _ (List.mem_append_left _ (List.mem_append_left _ (List.mem_append_left _ (List.mem_append_left _ (List.mem_append_left _ (List.mem_append_right _ h))))))
    · exact fun _ h => List.mem_cons_of_mem _ (List.mem_append_left _ (List.mem_append_right _ h))
    · exact fun _ h => List.mem_cons_of_mem _ (List.mem_append_left _ (List.mem_append_left _ (List.mem_append_left _ (List.mem_append_right _ h))))
  have hbz : b < z := hP.lt (by rw [htb]; exact Nat.succ_ne_zero _)
  have htl := hLs.1
  obtain ⟨Tv9, hcc9⟩ := mcl_c hκ
  refine lv_aload_n X.1 X.2.1 dX2_tires_0 rfl (lv_at hl 2 rfl) ?_
  refine lv_iconst (v := 3) X.1 X.2.1 dX2_tires_1 (by decide) ?_
  refine g_run_v (f := fun u => u) (g_runS [.ref lc, .int 3] X hK hP hS hC hB (a_begin (v := 3) hBx hAo (by omega) hz13 hLs (by first | omega | (simp only [List.length_append, List.length_cons, List.length_nil]; omega))) (va_cwS 2 X.2.2.2.2 gX2_tires_X2_begin rfl rfl rfl (by decide +kernel) ⟨Nat.le_of_ble_eq_true rfl, Nat.le_of_ble_eq_true rfl⟩) rfl hl.1 rfl (Nat.le_of_ble_eq_true rfl) dX2_tires_2 ⟨Nat.le_of_ble_eq_true rfl, Nat.le_of_ble_eq_true rfl⟩) hS (fun u H locs hq hP hS => ?_)
  obtain ⟨zB1, TB1, IB1, RB1, rfl, hLB1, hFB1⟩ := hq
  have hP : gP D cy B zB1 TB1 IB1 RB1 H := hP
  have hFc := hFB1
  have htb := (hFB1.2.1 b hbz).trans htb
  have hnu := (hFB1.2.2.1 b 1 hbz hbl).trans hnu
  have hvv := (hFB1.2.2.1 b 2 hbz hbl).trans hvv
  have hbz := Nat.lt_of_lt_of_le hbz hFB1.1
  have hz13 : lc + 13 ≤ zB1 := Nat.le_trans hz13 hFB1.1
  have htl := hLB1.1
  have hleB1 := hLB1
  refine lv_aload_n X.1 X.2.1 dX2_tires_5 rfl (lv_at hl 0 rfl) ?_
  refine lv_iload_n X.1 X.2.1 dX2_tires_6 rfl (lv_at hl 1 rfl) ?_
  refine lv_aload_n X.1 X.2.1 dX2_tires_7 rfl (lv_at hl 2 rfl) ?_
  refine g_joinW (D := D) (cy := cy) (B := B) (H0 := s.heap) (rest := []) (fun r z' T' I' R' => r = (aG κ nu vv x).1 ∧ cLs lc E ad T' I' R' (tr ++ [3] ++ (aG κ nu vv x).2) ∧ gLf lc zB1 z' TB1 T' IB1 I' RB1 R') 5 50 11 (fun hgo => ?_) (fun r zQ2 TQ2 IQ2 RQ2 H locs hq hP hS => ?_)
  · rcases k7 hκ with hc9 | hc9 | hc9 | hc9 | hc9 | hc9 | hc9
    · have hty8 : TB1 b = (4 + 8, 0) := by rw [htb, hc9]; rfl
      refine g_run_i (f := fun u => u) (g_runV (k := 4) [.int x, .ref lc] X hK hP hS hC hB (a_X2_goes (κ := κ) (nu := nu) (vv := vv) hBx hAo hUp hz13 hκ htb hnu hvv hbl hLB1 (by first | omega | (simp only [List.length_append, List.length_cons, List.length_nil]; omega)) x) (cwV 2 X.2.2.2.2 gX2_tires_X2_goes rfl rfl rfl (by decide +kernel) ⟨Nat.le_of_ble_eq_true rfl, Nat.le_of_ble_eq_true rfl⟩) hty8 rfl rfl hl.1 rfl (Nat.le_of_ble_eq_true rfl) dX2_tires_8 ⟨Nat.le_of_ble_eq_true rfl, Nat.le_of_ble_eq_true rfl⟩) hS (fun r u H locs hq hP hS => ?_)
      rw [← aG_0 (κ := κ) (nu := nu) (vv := vv) (x := x) (by omega) (by omega)] at hq
      obtain ⟨rfl, z9, T9, I9, R9, rfl, hL9, hF9⟩ := hq
      refine g_pad (cells' := 5) (slots' := 50) (Nat.le_of_ble_eq_true rfl) (Nat.le_of_ble_eq_true rfl) ?_
      exact hgo _ _ _ _ _ H locs ⟨rfl, hL9, hF9⟩ hP hS
    · have hty8 : TB1 b = (2 + 8, 0) := by rw [htb, hc9]; rfl
      refine g_run_i (f := fun u => u) (g_runU (k := 2) [.int x, .ref lc] X hK hP hS hC hB (a_X2_goes (κ := κ) (nu := nu) (vv := vv) hBx hAo hUp hz13 hκ htb hnu hvv hbl hLB1 (by first | omega | (simp only [List.length_append, List.length_cons, List.length_nil]; omega)) x) (va_cwU 2 X.2.2.2.2 gX2_tires_X2_goes_u69X0 rfl rfl rfl rfl ⟨by decide, by decide, by decide +kernel⟩ ⟨Nat.le_of_ble_eq_true rfl, Nat.le_of_ble_eq_true rfl⟩) hty8 rfl rfl hl.1 rfl (Nat.le_of_ble_eq_true rfl) dX2_tires_8 ⟨Nat.le_of_ble_eq_true rfl, Nat.le_of_ble_eq_true rfl⟩) hS (fun r u H locs hq hP hS => ?_)
      rw [← aG_0 (κ := κ) (nu := nu) (vv := vv) (x := x) (by omega) (by omega)] at hq
      obtain ⟨rfl, z9, T9, I9, R9, rfl, hL9, hF9⟩ := hq
      refine g_pad (cells' := 5) (slots' := 50) (Nat.le_of_ble_eq_true rfl) (Nat.le_of_ble_eq_true rfl) ?_
      exact hgo _ _ _ _ _ H locs ⟨rfl, hL9, hF9⟩ hP hS
    · have hty8 : TB1 b = (11 + 8, 0) := by rw [htb, hc9]; rfl
      refine g_run_i (f := fun u => u) (g_runU (k := 11) [.int x, .ref lc] X hK hP hS hC hB (a_X9_goes (κ := κ) (nu := nu) (vv := vv) hBx hAo hUp hz13 hκ htb hnu hvv hbl hLB1 (by first | omega | (simp only [List.length_append, List.length_cons, List.length_nil]; omega)) x (by omega)) (va_cwO 2 X.2.2.2.2 gX2_tires_X9_goes_u69X9 rfl rfl rfl (b0 := cX2_goes) (m0 := 3) (r0 := some .int) (by decide +kernel) ⟨by decide, by decide, by decide +kernel⟩ ⟨Nat.le_of_ble_eq_true rfl, Nat.le_of_ble_eq_true rfl⟩) hty8 rfl rfl hl.1 rfl (Nat.le_of_ble_eq_true rfl) dX2_tires_8 ⟨Nat.le_of_ble_eq_true rfl, Nat.le_of_ble_eq_true rfl⟩) hS (fun r u H locs hq hP hS => ?_)
      obtain ⟨rfl, z9, T9, I9, R9, rfl, hL9, hF9⟩ := hq
      refine g_pad (cells' := 5) (slots' := 50) (Nat.le_of_ble_eq_true rfl) (Nat.le_of_ble_eq_true rfl) ?_
      exact hgo _ _ _ _ _ H locs ⟨rfl, hL9, hF9⟩ hP hS
    · have hty8 : TB1 b = (8 + 8, 0) := by rw [htb, hc9]; rfl
      refine g_run_i (f := fun u => u) (g_runU (k := 8) [.int x, .ref lc] X hK hP hS hC hB (a_X2_goes (κ := κ) (nu := nu) (vv := vv) hBx hAo hUp hz13 hκ htb hnu hvv hbl hLB1 (by first | omega | (simp only [List.length_append, List.length_cons, List.length_nil]; omega)) x) (va_cwU 2 X.2.2.2.2 gX2_tires_X2_goes_u69X6 rfl rfl rfl rfl ⟨by decide, by decide, by decide +kernel⟩ ⟨Nat.le_of_ble_eq_true rfl, Nat.le_of_ble_eq_true rfl⟩) hty8 rfl rfl hl.1 rfl (Nat.le_of_ble_eq_true rfl) dX2_tires_8 ⟨Nat.le_of_ble_eq_true rfl, Nat.le_of_ble_eq_true rfl⟩) hS (fun r u H locs hq hP hS => ?_)
      rw [← aG_0 (κ := κ) (nu := nu) (vv := vv) (x := x) (by omega) (by omega)] at hq
      obtain ⟨rfl, z9, T9, I9, R9, rfl, hL9, hF9⟩ := hq
      refine g_pad (cells' := 5) (slots' := 50) (Nat.le_of_ble_eq_true rfl) (Nat.le_of_ble_eq_true rfl) ?_
      exact hgo _ _ _ _ _ H locs ⟨rfl, hL9, hF9⟩ hP hS
    · have hty8 : TB1 b = (3 + 8, 0) := by rw [htb, hc9]; rfl
      refine g_run_i (f := fun u => u) (g_runU (k := 3) [.int x, .ref lc] X hK hP hS hC hB (a_X2_goes (κ := κ) (nu := nu) (vv := vv) hBx hAo hUp hz13 hκ htb hnu hvv hbl hLB1 (by first | omega | (simp only [List.length_append, List.length_cons, List.length_nil]; omega)) x) (va_cwU 2 X.2.2.2.2 gX2_tires_X2_goes_u69X1 rfl rfl rfl rfl ⟨by decide, by decide, by decide +kernel⟩ ⟨Nat.le_of_ble_eq_true rfl, Nat.le_of_ble_eq_true rfl⟩) hty8 rfl rfl hl.1 rfl (Nat.le_of_ble_eq_true rfl) dX2_tires_8 ⟨Nat.le_of_ble_eq_true rfl, Nat.le_of_ble_eq_true rfl⟩) hS (fun r u H locs hq hP hS => ?_)
      rw [← aG_0 (κ := κ) (nu := nu) (vv := vv) (x := x) (by omega) (by omega)] at hq
      obtain ⟨rfl, z9, T9, I9, R9, rfl, hL9, hF9⟩ := hq
      refine g_pad (cells' := 5) (slots' := 50) (Nat.le_of_ble_eq_true rfl) (Nat.le_of_ble_eq_true rfl) ?_
      exact hgo _ _ _ _ _ H locs ⟨rfl, hL9, hF9⟩ hP hS
    · have hty8 : TB1 b = (9 + 8, 0) := by rw [htb, hc9]; rfl
      refine g_run_i (f := fun u => u) (g_runU (k := 9) [.int x, .ref lc] X hK hP hS hC hB (a_X9_goes (κ := κ) (nu := nu) (vv := vv) hBx hAo hUp hz13 hκ htb hnu hvv hbl hLB1 (by first | omega | (simp only [List.length_append, List.length_cons, List.length_nil]; omega)) x (by omega)) (va_cwO 2 X.2.2.2.2 gX2_tires_X9_goes_u69X7 rfl rfl rfl (b0 := cX2_goes) (m0 := 3) (r0 := some .int) (by decide +kernel) ⟨by decide, by decide, by decide +kernel⟩ ⟨Nat.le_of_ble_eq_true rfl, Nat.le_of_ble_eq_true rfl⟩) hty8 rfl rfl hl.1 rfl (Nat.le_of_ble_eq_true rfl) dX2_tires_8 ⟨Nat.le_of_ble_eq_true rfl, Nat.le_of_ble_eq_true rfl⟩) hS (fun r u H locs hq hP hS => ?_)
      obtain ⟨rfl, z9, T9, I9, R9, rfl, hL9, hF9⟩ := hq
      refine g_pad (cells' := 5) (slots' := 50) (Nat.le_of_ble_eq_true rfl) (Nat.le_of_ble_eq_true rfl) ?_
      exact hgo _ _ _ _ _ H locs ⟨rfl, hL9, hF9⟩ hP hS
    · have hty8 : TB1 b = (5 + 8, 0) := by rw [htb, hc9]; rfl
      refine g_run_i (f := fun u => u) (g_runU (k := 5) [.int x, .ref lc] X hK hP hS hC hB (a_X3_goes (κ := κ) (nu := nu) (vv := vv) hBx hAo hUp hz13 hκ htb hnu hvv hbl hLB1 (by first | omega | (simp only [List.length_append, List.length_cons, List.length_nil]; omega)) x hc9) (va_cwO 2 X.2.2.2.2 gX2_tires_X3_goes_u69X3 rfl rfl rfl (b0 := cX2_goes) (m0 := 3) (r0 := some .int) (by decide +kernel) ⟨by decide, by decide, by decide +kernel⟩ ⟨Nat.le_of_ble_eq_true rfl, Nat.le_of_ble_eq_true rfl⟩) hty8 rfl rfl hl.1 rfl (Nat.le_of_ble_eq_true rfl) dX2_tires_8 ⟨Nat.le_of_ble_eq_true rfl, Nat.le_of_ble_eq_true rfl⟩) hS (fun r u H locs hq hP hS => ?_)
      obtain ⟨rfl, z9, T9, I9, R9, rfl, hL9, hF9⟩ := hq
      refine g_pad (cells' := 5) (slots' := 50) (Nat.le_of_ble_eq_true rfl) (Nat.le_of_ble_eq_true rfl) ?_
      exact hgo _ _ _ _ _ H locs ⟨rfl, hL9, hF9⟩ hP hS
  · obtain ⟨rfl, hLQ2, hFQ2⟩ := hq
    have hP : gP D cy B zQ2 TQ2 IQ2 RQ2 H := hP
    have hFc := hFc.trs hFQ2
    have htb := (hFQ2.2.1 b hbz).trans htb
    have hnu := (hFQ2.2.2.1 b 1 hbz hbl).trans hnu
    have hvv := (hFQ2.2.2.1 b 2 hbz hbl).trans hvv
    have hbz := Nat.lt_of_lt_of_le hbz hFQ2.1
    have hz13 : lc + 13 ≤ zQ2 := Nat.le_trans hz13 hFQ2.1
    have htl := hLQ2.1
    have hleQ2 := hLQ2
    have hnQ2 := aG_n κ nu vv x
    refine lv_iconst (v := 2) X.1 X.2.1 dX2_tires_11 (by decide) ?_
    refine lv_imul X.1 X.2.1 dX2_tires_12 ?_
    have hLf : cLs lc E ad TQ2 IQ2 RQ2 (tr ++ (aPT κ nu vv x).2) := by
      have h9 := hLQ2
      rw [List.append_assoc] at h9; exact h9
    exact g_iret (f := fun u => u) (zQ2, TQ2, IQ2, RQ2) X hr hlk hK hP hS dX2_tires_13 ⟨rfl, zQ2, TQ2, IQ2, RQ2, rfl, hLf, hFc⟩

set_option maxHeartbeats 4000000 in
set_option maxRecDepth 100000 in
/-- a_X6_tires -/
theorem a_X6_tires (hBx : gBx s0 B ad C E) (hAo : gWs s0 [.arrayOver (.object "java/lang/Object")]) (hUp : gUp s0) (hz13 : lc + 13 ≤ z) (hκ : κ ≤ 6) (htb : T b = (mcl κ + 8, 0)) (hnu : I b 1 = nI nu) (hvv : I b 2 = nI vv) (hbl : b ≠ lc) (hLs : cLs lc E ad T I R tr) (hn : tr.length + 6 ≤ 10) (x : Int32) (hk : κ = 3 ∨ κ = 6) : Met l yX6_tires wsX6_tires ({ frames := 11, cells := 6, slots := 60, locals := 239 }) (va_Pc [.ref b, .int x, .ref lc] (gW0 s0 D cy B (z, T, I, R))) (va_Qi (fun r u => r = (aT κ nu vv x).1 ∧ ∃ z' T' I' R', u = (z', T', I', R') ∧ cLs lc E ad T' I' R' (tr ++ (aT κ nu vv x).2) ∧ gLf lc z z' T T' I I' R R') (fun u t => gW1 D cy B u t) (gA B)) 6 60 (gA B) := by
  refine g_met (maxL := 3) (ret := (some .int)) (by decide) rfl (Nat.le_of_ble_eq_true rfl) (fun p e s m args below meth c ls X hr hlk hnm hK hP hC hS hl => ?_)
  have hl : lv_has ls 3 [(0, .ref b), (1, .int x), (2, .ref lc)] := hl
  have hP : gP D cy B z T I R s.heap := hP
  have hB : B ≤ s.heap.size := by rw [hP.1]; exact hP.2.1
  have hin7 : ∀ κ, κ ≤ 6 → ∀ w ∈ mws κ, w ∈ wsX6_tires := fun κ hκ => by
    rcases k7 hκ with rfl | rfl | rfl | rfl | rfl | rfl | rfl
    · exact fun _ h => List.mem_cons_of_mem _ (List.mem_append_left _ (List.mem_append_left _ (List.mem_append_left _ (List.mem_append_left _ (List.mem_append_right _ h)))))
    · exact fun _ h => List.mem_cons_of_mem _ (List.mem_append_left _ (List.mem_append_left _ (List.mem_append_left _ (List.mem_append_left _ (List.mem_append_left _ (List.mem_append_left _ (List.mem_append_right _ h)))))))
    · exact fun _ h => List.mem_cons_of_mem _ (List.mem_append_right _ h)
    · exact fun _ h => List.mem_cons_of_mem _ (List.mem_append_left _ (List.mem_append_left _ (List.mem_append_right _ h)))
    · exact fun _ h => List.mem_cons_of_mem _ (List.mem_append_left _ (List.mem_append_left _ (List.mem_append_left _ (List.mem_append_left _ (List.mem_append_left _ (List.mem_append_right _ h))))))
    · exact fun _ h => List.mem_cons_of_mem _ (List.mem_append_left _ (List.mem_append_right _ h))
    · exact fun _ h => List.mem_cons_of_mem _ (List.mem_append_left _ (List.mem_append_left _ (List.mem_append_left _ (List.mem_append_right _ h))))
  have hbz : b < z := hP.lt (by rw [htb]; exact Nat.succ_ne_zero _)
  have htl := hLs.1
  obtain ⟨Tv9, hcc9⟩ := mcl_c hκ
  refine lv_aload_n X.1 X.2.1 dX6_tires_0 rfl (lv_at hl 2 rfl) ?_
  refine lv_bipush (v := 31) X.1 X.2.1 dX6_tires_1 (by decide) ?_
  refine g_run_v (f := fun u => u) (g_runSs (nA := 2) [.ref lc, .int 31] X hK hP hS hC hB (a_begin (v := 31) hBx hAo (by omega) hz13 hLs (by first | omega | (simp only [List.length_append, List.length_cons, List.length_nil]; omega))) (x := ⟨"BarrowPlank$Slow", "begin", "(Ljava/util/List;I)V"⟩) (index := 13) hUp.2.2.2.2.1 ⟨rfl, rfl⟩ (bytes := cX2_begin) (maxL := 2) (ret := none) (List.mem_cons_self ..) (by decide +kernel) rfl rfl ⟨Nat.le_of_ble_eq_true rfl, Nat.le_of_ble_eq_true rfl⟩ rfl hl.1 rfl (Nat.le_of_ble_eq_true rfl) dX6_tires_3 ⟨Nat.le_of_ble_eq_true rfl, Nat.le_of_ble_eq_true rfl⟩) hS (fun u H locs hq hP hS => ?_)
  obtain ⟨zB1, TB1, IB1, RB1, rfl, hLB1, hFB1⟩ := hq
  have hP : gP D cy B zB1 TB1 IB1 RB1 H := hP
  have hFc := hFB1
  have htb := (hFB1.2.1 b hbz).trans htb
  have hnu := (hFB1.2.2.1 b 1 hbz hbl).trans hnu
  have hvv := (hFB1.2.2.1 b 2 hbz hbl).trans hvv
  have hbz := Nat.lt_of_lt_of_le hbz hFB1.1
  have hz13 : lc + 13 ≤ zB1 := Nat.le_trans hz13 hFB1.1
  have htl := hLB1.1
  have hleB1 := hLB1
  refine lv_aload_n X.1 X.2.1 dX6_tires_6 rfl (lv_at hl 0 rfl) ?_
  refine lv_iload_n X.1 X.2.1 dX6_tires_7 rfl (lv_at hl 1 rfl) ?_
  refine lv_aload_n X.1 X.2.1 dX6_tires_8 rfl (lv_at hl 2 rfl) ?_
  refine g_run_i (f := fun u => u) (g_runSU (k := mcl κ) [.int x, .ref lc] X hK hP hS hC hB (a_X2_tires (κ := κ) (nu := nu) (vv := vv) hBx hAo hUp hz13 hκ htb hnu hvv hbl hLB1 (by first | omega | (simp only [List.length_append, List.length_cons, List.length_nil]; omega)) x) (va_cwSU 2 X.2.2.2.2 gX6_tires_X2_tires_s17 rfl rfl rfl ⟨by decide, by decide +kernel⟩ ⟨Nat.le_of_ble_eq_true rfl, Nat.le_of_ble_eq_true rfl⟩) htb hcc9 rfl hl.1 rfl (Nat.le_of_ble_eq_true rfl) dX6_tires_9 ⟨Nat.le_of_ble_eq_true rfl, Nat.le_of_ble_eq_true rfl⟩) hS (fun r u H locs hq hP hS => ?_)
  obtain ⟨rfl, zQ2, TQ2, IQ2, RQ2, rfl, hLQ2, hFQ2⟩ := hq
  have hP : gP D cy B zQ2 TQ2 IQ2 RQ2 H := hP
  have hFc := hFc.trs hFQ2
  have htb := (hFQ2.2.1 b hbz).trans htb
  have hnu := (hFQ2.2.2.1 b 1 hbz hbl).trans hnu
  have hvv := (hFQ2.2.2.1 b 2 hbz hbl).trans hvv
  have hbz := Nat.lt_of_lt_of_le hbz hFQ2.1
  have hz13 : lc + 13 ≤ zQ2 := Nat.le_trans hz13 hFQ2.1
  have htl := hLQ2.1
  have hleQ2 := hLQ2
  have hnQ2 := aPT_n κ nu vv x
  refine lv_bipush (v := 7) X.1 X.2.1 dX6_tires_12 (by decide) ?_
  refine lv_ixor X.1 X.2.1 dX6_tires_14 ?_
  have hLf : cLs lc E ad TQ2 IQ2 RQ2 (tr ++ (aT κ nu vv x).2) := by
    have h9 := hLQ2
    rw [aT_36 hk]; simpa only [List.append_assoc, List.cons_append, List.nil_append] using h9
  exact g_iret (f := fun u => u) (zQ2, TQ2, IQ2, RQ2) X hr hlk hK hP hS dX6_tires_15 ⟨(by rw [aT_36 hk]), zQ2, TQ2, IQ2, RQ2, rfl, hLf, hFc⟩

set_option maxHeartbeats 4000000 in
set_option maxRecDepth 100000 in
/-- a_X1_tires -/
theorem a_X1_tires (hBx : gBx s0 B ad C E) (hAo : gWs s0 [.arrayOver (.object "java/lang/Object")]) (hUp : gUp s0) (hz13 : lc + 13 ≤ z) (hκ : κ ≤ 6) (htb : T b = (mcl κ + 8, 0)) (hnu : I b 1 = nI nu) (hvv : I b 2 = nI vv) (hbl : b ≠ lc) (hLs : cLs lc E ad T I R tr) (hn : tr.length + 8 ≤ 10) (x : Int32) (hc9 : κ = 4) : Met l yX1_tires wsX1_tires ({ frames := 11, cells := 8, slots := 80, locals := 239 }) (va_Pc [.ref b, .int x, .ref lc] (gW0 s0 D cy B (z, T, I, R))) (va_Qi (fun r u => r = (aT κ nu vv x).1 ∧ ∃ z' T' I' R', u = (z', T', I', R') ∧ cLs lc E ad T' I' R' (tr ++ (aT κ nu vv x).2) ∧ gLf lc z z' T T' I I' R R') (fun u t => gW1 D cy B u t) (gA B)) 8 80 (gA B) := by
  refine g_met (maxL := 3) (ret := (some .int)) (by decide) rfl (Nat.le_of_ble_eq_true rfl) (fun p e s m args below meth c ls X hr hlk hnm hK hP hC hS hl => ?_)
  have hl : lv_has ls 3 [(0, .ref b), (1, .int x), (2, .ref lc)] := hl
  have hP : gP D cy B z T I R s.heap := hP
  have hB : B ≤ s.heap.size := by rw [hP.1]; exact hP.2.1
  have hin7 : ∀ κ, κ ≤ 6 → ∀ w ∈ mws κ, w ∈ wsX1_tires := fun κ hκ => by
    rcases k7 hκ with rfl | rfl | rfl | rfl | rfl | rfl | rfl
    · exact fun _ h => List.mem_cons_of_mem _ (List.mem_append_left _ (List.mem_append_left _ (List.mem_append_left _ (List.mem_append_left _ (List.mem_append_left _ (List.mem_append_left _ (List.mem_append_right _ h)))))))
    · exact fun _ h => List.mem_cons_of_mem _ (List.mem_append_left _ (List.mem_append_left _ (List.mem_append_left _ (List.mem_append_left _ (List.mem_append_left _ (List.mem_append_left _ (List.mem_append_left _ (List.mem_append_left _ (List.mem_append_right _ h)))))))))
    · exact fun _ h => List.mem_cons_of_mem _ (List.mem_append_left _ (List.mem_append_left _ (List.mem_append_right _ h)))
    · exact fun _ h => List.mem_cons_of_mem _ (List.mem_append_left _ (List.mem_append_left _ (List.mem_append_left _ (List.mem_append_left _ (List.mem_append_right _ h)))))
    · exact fun _ h => List.mem_cons_of_mem _ (List.mem_append_left _ (List.mem_append_left _ (List.mem_append_left _ (List.mem_append_left _ (List.mem_append_left _ (List.mem_append_left _ (List.mem_append_left _ (List.mem_append_right _ h))))))))
    · exact fun _ h => List.mem_cons_of_mem _ (List.mem_append_left _ (List.mem_append_left _ (List.mem_append_left _ (List.mem_append_right _ h))))
    · exact fun _ h => List.mem_cons_of_mem _ (List.mem_append_left _ (List.mem_append_left _ (List.mem_append_left _ (List.mem_append_left _ (List.mem_append_left _ (List.mem_append_right _ h))))))
  have hbz : b < z := hP.lt (by rw [htb]; exact Nat.succ_ne_zero _)
  have htl := hLs.1
  obtain ⟨Tv9, hcc9⟩ := mcl_c hκ
  refine lv_aload_n X.1 X.2.1 dX1_tires_0 rfl (lv_at hl 2 rfl) ?_
  refine lv_bipush (v := 41) X.1 X.2.1 dX1_tires_1 (by decide) ?_
  refine g_run_v (f := fun u => u) (g_runSs (nA := 2) [.ref lc, .int 41] X hK hP hS hC hB (a_begin (v := 41) hBx hAo (by omega) hz13 hLs (by first | omega | (simp only [List.length_append, List.length_cons, List.length_nil]; omega))) (x := ⟨"BarrowPlank$Heaped", "begin", "(Ljava/util/List;I)V"⟩) (index := 13) hUp.2.2.2.2.2.1 ⟨rfl, rfl⟩ (bytes := cX2_begin) (maxL := 2) (ret := none) (List.mem_cons_self ..) (by decide +kernel) rfl rfl ⟨Nat.le_of_ble_eq_true rfl, Nat.le_of_ble_eq_true rfl⟩ rfl hl.1 rfl (Nat.le_of_ble_eq_true rfl) dX1_tires_3 ⟨Nat.le_of_ble_eq_true rfl, Nat.le_of_ble_eq_true rfl⟩) hS (fun u H locs hq hP hS => ?_)
  obtain ⟨zB1, TB1, IB1, RB1, rfl, hLB1, hFB1⟩ := hq
  have hP : gP D cy B zB1 TB1 IB1 RB1 H := hP
  have hFc := hFB1
  have htb := (hFB1.2.1 b hbz).trans htb
  have hnu := (hFB1.2.2.1 b 1 hbz hbl).trans hnu
  have hvv := (hFB1.2.2.1 b 2 hbz hbl).trans hvv
  have hbz := Nat.lt_of_lt_of_le hbz hFB1.1
  have hz13 : lc + 13 ≤ zB1 := Nat.le_trans hz13 hFB1.1
  have htl := hLB1.1
  have hleB1 := hLB1
  refine lv_aload_n X.1 X.2.1 dX1_tires_6 rfl (lv_at hl 0 rfl) ?_
  refine lv_iload_n X.1 X.2.1 dX1_tires_7 rfl (lv_at hl 1 rfl) ?_
  refine lv_iconst (v := 1) X.1 X.2.1 dX1_tires_8 (by decide) ?_
  refine lv_isub X.1 X.2.1 dX1_tires_9 ?_
  refine lv_aload_n X.1 X.2.1 dX1_tires_10 rfl (lv_at hl 2 rfl) ?_
  refine g_run_i (f := fun u => u) (g_runSX (nA := 2) (k := mcl κ) [.int (x - 1), .ref lc] X hK hP hS hC hB (a_X2_tires (κ := κ) (nu := nu) (vv := vv) hBx hAo hUp hz13 hκ htb hnu hvv hbl hLB1 (by first | omega | (simp only [List.length_append, List.length_cons, List.length_nil]; omega)) (x - 1)) (x := ⟨"BarrowPlank$Full", "tires", "(ILjava/util/List;)I"⟩) (index := 17) hUp.2.2.2.2.2.2.1 ⟨rfl, rfl⟩ (bytes := cX2_tires) (maxL := 3) (ret := some .int) (List.mem_cons_self ..) ⟨by decide, by decide +kernel⟩ rfl rfl ⟨Nat.le_of_ble_eq_true rfl, Nat.le_of_ble_eq_true rfl⟩ htb hcc9 rfl hl.1 rfl (Nat.le_of_ble_eq_true rfl) dX1_tires_11 ⟨Nat.le_of_ble_eq_true rfl, Nat.le_of_ble_eq_true rfl⟩) hS (fun r u H locs hq hP hS => ?_)
  obtain ⟨rfl, zQ2, TQ2, IQ2, RQ2, rfl, hLQ2, hFQ2⟩ := hq
  have hP : gP D cy B zQ2 TQ2 IQ2 RQ2 H := hP
  have hFc := hFc.trs hFQ2
  have htb := (hFQ2.2.1 b hbz).trans htb
  have hnu := (hFQ2.2.2.1 b 1 hbz hbl).trans hnu
  have hvv := (hFQ2.2.2.1 b 2 hbz hbl).trans hvv
  have hbz := Nat.lt_of_lt_of_le hbz hFQ2.1
  have hz13 : lc + 13 ≤ zQ2 := Nat.le_trans hz13 hFQ2.1
  have htl := hLQ2.1
  have hleQ2 := hLQ2
  have hnQ2 := aPT_n κ nu vv (x - 1)
  refine lv_aload_n X.1 X.2.1 dX1_tires_14 rfl (lv_at hl 0 rfl) ?_
  refine lv_iconst (v := 2) X.1 X.2.1 dX1_tires_15 (by decide) ?_
  refine lv_aload_n X.1 X.2.1 dX1_tires_16 rfl (lv_at hl 2 rfl) ?_
  refine g_joinW (D := D) (cy := cy) (B := B) (H0 := s.heap) (rest := [.int ((aPT κ nu vv (x - 1)).1)]) (fun r z' T' I' R' => r = (aL κ nu 2).1 ∧ cLs lc E ad T' I' R' (tr ++ [41] ++ (aPT κ nu vv (x - 1)).2 ++ (aL κ nu 2).2) ∧ gLf lc zQ2 z' TQ2 T' IQ2 I' RQ2 R') 8 80 20 (fun hgo => ?_) (fun r zQ3 TQ3 IQ3 RQ3 H locs hq hP hS => ?_)
  · have hty8 : TQ2 b = (3 + 8, 0) := by rw [htb, hc9]; rfl
    refine g_run_i (f := fun u => u) (g_runU (k := 3) [.int 2, .ref lc] X hK hP hS hC hB (a_X0_lifts (κ := κ) (nu := nu) (vv := vv) hBx hAo hUp hz13 hκ htb hnu hvv hbl hLQ2 (by first | omega | (simp only [List.length_append, List.length_cons, List.length_nil]; omega)) 2 (by omega)) (va_cwU 2 X.2.2.2.2 gX1_tires_X0_lifts_u21X1 rfl rfl rfl rfl ⟨by decide, by decide, by decide +kernel⟩ ⟨Nat.le_of_ble_eq_true rfl, Nat.le_of_ble_eq_true rfl⟩) hty8 rfl rfl hl.1 rfl (Nat.le_of_ble_eq_true rfl) dX1_tires_17 ⟨Nat.le_of_ble_eq_true rfl, Nat.le_of_ble_eq_true rfl⟩) hS (fun r u H locs hq hP hS => ?_)
    obtain ⟨rfl, z9, T9, I9, R9, rfl, hL9, hF9⟩ := hq
    refine g_pad (cells' := 8) (slots' := 80) (Nat.le_of_ble_eq_true rfl) (Nat.le_of_ble_eq_true rfl) ?_
    exact hgo _ _ _ _ _ H locs ⟨rfl, hL9, hF9⟩ hP hS
  · obtain ⟨rfl, hLQ3, hFQ3⟩ := hq
    have hP : gP D cy B zQ3 TQ3 IQ3 RQ3 H := hP
    have hFc := hFc.trs hFQ3
    have htb := (hFQ3.2.1 b hbz).trans htb
    have hnu := (hFQ3.2.2.1 b 1 hbz hbl).trans hnu
    have hvv := (hFQ3.2.2.1 b 2 hbz hbl).trans hvv
    have hbz := Nat.lt_of_lt_of_le hbz hFQ3.1
    have hz13 : lc + 13 ≤ zQ3 := Nat.le_trans hz13 hFQ3.1
    have htl := hLQ3.1
    have hleQ3 := hLQ3
    have hnQ3 := aL_n κ nu 2
    refine lv_iadd X.1 X.2.1 dX1_tires_20 ?_
    have hLf : cLs lc E ad TQ3 IQ3 RQ3 (tr ++ (aT κ nu vv x).2) := by
      have h9 := hLQ3
      rw [aT_4 hc9]; simpa only [List.append_assoc, List.cons_append, List.nil_append] using h9
    exact g_iret (f := fun u => u) (zQ3, TQ3, IQ3, RQ3) X hr hlk hK hP hS dX1_tires_21 ⟨(by rw [aT_4 hc9]), zQ3, TQ3, IQ3, RQ3, rfl, hLf, hFc⟩

end PX