section PR
variable {l : Launch} {s0 : State} {D : va_G} {cy : Nat → ClassId} {B z : Nat} {T : Nat → Nat × Nat} {I : Nat → Nat → Int32} {R : Nat → Nat → Option Nat} {q nw kp tr : Nat} {σ : Nat → Nat} {K ti sh : Nat} {fl : List Nat}
theorem gi_ne0 {a : Int32} {x : Nat} (ha : a = nI x) (h0 : 0 < x) (h : x < 2 ^ 31) : a ≠ 0 := fun e => by
  rw [ha] at e
  have h1 : (nI x).toInt = (0 : Int32).toInt := by rw [e]
  rw [nI_toInt h, show (0 : Int32).toInt = 0 by decide] at h1
  omega
section CVL
variable {p : Program} {l : Launch} {e : Env} {Rm : Room} {s : State} {m : MethodId} {args : Array Value} {below : List Frame} {meth : Method} {c : Code} {H : Heap} {locs : List Loc} {cells slots : Nat} {Q : State → Prop} {pc : Nat} {ls : Array Slot} {rest : List Value}
theorem lv_cvl {x y : Int64} (h : x = y) (k : W p l e Rm s m args below meth c H locs cells slots Q (F0 m pc ls (.long y :: rest))) : W p l e Rm s m args below meth c H locs cells slots Q (F0 m pc ls (.long x :: rest)) := by rw [h]; exact k
end CVL
set_option maxHeartbeats 4000000 in
set_option maxRecDepth 100000 in
/-- t_oob -/
theorem t_oob (hTp : cTop q nw kp tr T R) (hNw : cNw q nw T I R σ fl ti sh) (hG : sGd fl ti sh) (hb : sBd σ K) (hcas : gCas s0) {bt : Int32} {bn t : Nat} (hbt : ∀ k, k < 4 → (nI k = bt ↔ k = bn)) (ht : t ≤ 999) (hKb : K ≤ 25000000) : Met l yX11_overOfAllBut wsX11_overOfAllBut ({ frames := 6, cells := 0, slots := 0, locals := 150 }) (va_Pc [.ref q, .int bt, .int (nI t)] (gW0 s0 D cy B (z, T, I, R))) (va_Qi (fun r u => r = nI (sAll fl ti sh t bn σ (σ 38) 1 - σ 1) ∧ ∃ I' R', u = (z, T, I', R') ∧ cQ q I I' R R') (fun u t => gW1 D cy B u t) (gA B)) 0 0 (gA B) := by
  refine g_met (maxL := 5) (ret := (some .int)) (by decide) rfl (Nat.le_of_ble_eq_true rfl) (fun p e s m args below meth c ls X hr hlk hnm hK hP hC hS hl => ?_)
  have hl : lv_has ls 5 [(0, .ref q), (1, .int bt), (2, .int (nI t))] := hl
  have hP : gP D cy B z T I R s.heap := hP
  have hB : B ≤ s.heap.size := by rw [hP.1]; exact hP.2.1
  have hinRX10 : ∀ w ∈ wsX100, w ∈ wsX11_overOfAllBut := fun _ h => List.mem_cons_of_mem _ (List.mem_append_left _ (List.mem_append_left _ (List.mem_append_left _ (List.mem_append_left _ (List.mem_append_left _ (List.mem_append_left _ (List.mem_append_left _ (List.mem_append_left _ (List.mem_append_left _ (List.mem_append_right _ h))))))))))
  have hinRX11 : ∀ w ∈ wsX110, w ∈ wsX11_overOfAllBut := fun _ h => List.mem_cons_of_mem _ (List.mem_append_left _ (List.mem_append_left _ (List.mem_append_left _ (List.mem_append_left _ (List.mem_append_left _ (List.mem_append_left _ (List.mem_append_left _ (List.mem_append_left _ (List.mem_append_left _ (List.mem_append_left _ (List.mem_append_right _ h)))))))))))
  have k17 : Cond.fieldLink RX11 17 "BarrowPlank" "now" "LBarrowPlank$Works;" ∈ wsX11_overOfAllBut := by decide +kernel
  have k26 : Cond.fieldLink RX11 26 "BarrowPlank" "trial" "LBarrowPlank$Works;" ∈ wsX11_overOfAllBut := by decide +kernel
  have k83 : Cond.fieldLink RX11 83 "BarrowPlank$Works" "over" "I" ∈ wsX11_overOfAllBut := by decide +kernel
  have k102 : Cond.fieldLink RX11 102 "BarrowPlank$Works" "crew" "I" ∈ wsX11_overOfAllBut := by decide +kernel
  have hTp0 := hTp
  have hNw0 := hNw
  obtain ⟨hnw, hkp, htr, hTq, hR0, hR1, hR2, hR3, hR4, hN, hKp, hTr, hTrd, hTl⟩ := hTp
  obtain ⟨hA, hBb, hmen, hme, a, hsR, hst, hsi, hfa⟩ := hNw
  have h38 := hb.2.2.2.2.1
  have h0 := hb.1
  refine lv_aload_n X.1 X.2.1 dX11_overOfAllBut_0 rfl (lv_at hl 0 rfl) ?_
  refine g_getr 13 2 X hK hP hTq rfl hinRX11 rfl (by decide) k26 (fun _ h => h) dX11_overOfAllBut_1 (show va_rf (R q 2) = .ref tr from by rw [hR2]; rfl) ?_
  refine lv_aload_n X.1 X.2.1 dX11_overOfAllBut_4 rfl (lv_at hl 0 rfl) ?_
  refine g_getr 13 0 X hK hP hTq rfl hinRX11 rfl (by decide) k17 (fun _ h => h) dX11_overOfAllBut_5 (show va_rf (R q 0) = .ref nw from by rw [hR0]; rfl) ?_
  refine g_run_v (f := fun u => u) (g_runV (k := 12) [.ref nw] X hK hP hS hC hB (d_take hTr hN (by omega) hA hme hsR hst.1 hcas) (cwV 1 X.2.2.2.2 gX11_overOfAllBut_X10_take rfl rfl rfl (by decide +kernel) ⟨Nat.le_of_ble_eq_true rfl, Nat.le_of_ble_eq_true rfl⟩) hTr.t0 rfl rfl hl.1 rfl (Nat.le_of_ble_eq_true rfl) dX11_overOfAllBut_8 (by exact ⟨Nat.zero_le _, Nat.zero_le _⟩)) hS (fun u H locs hq hP hS => ?_)
  obtain ⟨IK1, RK1, rfl, hAt, ⟨hm1K1, hm2K1⟩, hknK1, hfIK1, hfRK1⟩ := hq
  have hP : gP D cy B z T IK1 RK1 H := hP
  have hQK1 : cQ q I IK1 R RK1 := ⟨fun c j h => hfIK1 c j (by unfold qF at h; unfold tkW; omega), fun c j h => hfRK1 c j (by unfold qR at h; omega) (by unfold qR at h; omega)⟩
  have hfK1 := hQK1.1
  have hgK1 := hQK1.2
  have hTp := hTp0.fr hQK1.2
  obtain ⟨-, -, -, hTq, hR0, hR1, hR2, hR3, hR4, hN, hKp, hTr, hTrd, hTl⟩ := hTp
  have hA : cA nw IK1 σ := hA.k (fun c j h1 h2 => hfK1 c j (by unfold qF; omega))
  have hst : cSt a T RK1 := hst.fr (fun j => hgK1 _ _ (by unfold qR; omega))
  have hsi : cSi a IK1 fl ti sh := hsi.k (fun c j g1 g2 => hfK1 c j (by unfold qF; omega))
  have hCt : cC tr IK1 fl σ := cC.fg (fun c h1 h2 => hknK1 c h1 h2)
  refine lv_iconst (v := 0) X.1 X.2.1 dX11_overOfAllBut_11 (by decide) ?_
  refine lv_istore_n (lv' := [(3, .int 0), (0, .ref q), (1, .int bt), (2, .int (nI t))]) X.1 X.2.1 dX11_overOfAllBut_12 rfl hl (by decide) rfl (fun ls hl => ?_)
  refine i_loop (I := IK1) (σ 38) 13 [] (fun k Q9 ls => (∃ κ, cA tr Q9 κ ∧ cC tr Q9 fl κ ∧ sBd κ (K + 60000000 * k) ∧ (∀ i, 18 ≤ i → κ i = σ i) ∧ sAl κ (sAll fl ti sh t bn σ k) ∧ ∀ c j, ¬ kW tr c j → Q9 c j = IK1 c j) ∧ lv_has ls 5 [(0, .ref q), (1, .int bt), (2, .int (nI t)), (3, .int (nI k))]) 0 (by omega) ⟨⟨σ, hAt, hCt, hb, fun _ _ => rfl, Or.inl rfl, fun _ _ _ => rfl⟩, lv_sub hl [1, 2, 3, 0] rfl⟩ hP hS (fun k Q9 H locs ls hk hiv hP hS ih => ?_)
  obtain ⟨⟨κ, hAt, hCt, hbk, h18, hal9, hko9⟩, hl⟩ := hiv
  have hA : cA nw Q9 σ := hA.k (fun c j h1 h2 => hko9 c j (by unfold kW; omega))
  have hsi : cSi a Q9 fl ti sh := hsi.k (fun c j g1 g2 => hko9 c j (by unfold kW; omega))
  have hone := sAll_1 (σ := σ) (fl := fl) (ti := ti) (sh := sh) (t := t) (bn := bn) k
  have hon2 := hal9.one
  have hK9 := hbk.2.1.1
  refine lv_iload_n X.1 X.2.1 dX11_overOfAllBut_13 rfl (lv_at hl 3 rfl) ?_
  refine lv_aload_n X.1 X.2.1 dX11_overOfAllBut_14 rfl (lv_at hl 0 rfl) ?_
  refine g_getr 13 0 X hK hP hTq rfl hinRX11 rfl (by decide) k17 (fun _ h => h) dX11_overOfAllBut_15 (show va_rf (RK1 q 0) = .ref nw from by rw [hR0]; rfl) ?_
  refine g_geti 12 5 X hK hP hN.t0 rfl hinRX10 rfl (by decide) k102 (fun _ h => h) dX11_overOfAllBut_18 (show Q9 nw 5 = nI (σ 38) from hA.2.2.1) ?_
  refine lv_icmp_ge (tgt := 62) X.1 X.2.1 dX11_overOfAllBut_21 (by decide) (fun c21 => ?_) (fun c21 => ?_)
  · have n21 : (σ 38) ≤ k := gq_le c21 (Eq.refl (nI (σ 38))) (Eq.refl (nI k)) (by omega) (by omega)
    refine lv_aload_n X.1 X.2.1 dX11_overOfAllBut_62 rfl (lv_at hl 0 rfl) ?_
    refine g_getr 13 2 X hK hP hTq rfl hinRX11 rfl (by decide) k26 (fun _ h => h) dX11_overOfAllBut_63 (show va_rf (RK1 q 2) = .ref tr from by rw [hR2]; rfl) ?_
    refine g_geti 12 9 X hK hP hTr.t0 rfl hinRX10 rfl (by decide) k83 (fun _ h => h) dX11_overOfAllBut_66 (show Q9 tr 9 = nI (κ 1) from hAt.2.2.2.2.1) ?_
    refine lv_aload_n X.1 X.2.1 dX11_overOfAllBut_69 rfl (lv_at hl 0 rfl) ?_
    refine g_getr 13 0 X hK hP hTq rfl hinRX11 rfl (by decide) k17 (fun _ h => h) dX11_overOfAllBut_70 (show va_rf (RK1 q 0) = .ref nw from by rw [hR0]; rfl) ?_
    refine g_geti 12 9 X hK hP hN.t0 rfl hinRX10 rfl (by decide) k83 (fun _ h => h) dX11_overOfAllBut_73 (show Q9 nw 9 = nI (σ 1) from hA.2.2.2.2.1) ?_
    refine lv_isub X.1 X.2.1 dX11_overOfAllBut_76 ?_
    obtain rfl : k = σ 38 := by omega
    exact g_iret (f := fun u => u) (z, T, Q9, RK1) X hr hlk hK hP hS dX11_overOfAllBut_77 ⟨((gn_sub (Eq.refl (nI (κ 1))) (Eq.refl (nI (σ 1))) (by omega))).trans (by rw [hon2]), Q9, RK1, rfl, hQK1.kw htr hko9⟩
  · have n21 : k < (σ 38) := gq_nle c21 (Eq.refl (nI (σ 38))) (Eq.refl (nI k)) (by omega) (by omega)
    obtain ⟨b9, hb9, hm9, hb659⟩ := hmen k n21
    have hb9 := (hgK1 _ _ (by unfold qR; omega)).trans hb9
    have hm9 : cMn T Q9 κ k b9 := (hm9.k (fun j => (hko9 b9 j (by unfold kW; omega)).trans (hfK1 b9 j (by unfold qF; omega)))).s (h18 _ (by omega)) (h18 _ (by omega)) (h18 _ (by omega))
    have hall : cAll tr b9 a k T Q9 RK1 κ fl ti sh (K + 60000000 * k) := cAll.of (q := q) hTr hAt hm9 hb659 hfa hst hsi hm2K1 hG hbk (by omega) (by rw [h18 38 (by omega)]; omega) (by omega) (by omega)
    refine lv_aload_n X.1 X.2.1 dX11_overOfAllBut_24 rfl (lv_at hl 0 rfl) ?_
    refine g_getr 13 0 X hK hP hTq rfl hinRX11 rfl (by decide) k17 (fun _ h => h) dX11_overOfAllBut_25 (show va_rf (RK1 q 0) = .ref nw from by rw [hR0]; rfl) ?_
    refine lv_iload_n X.1 X.2.1 dX11_overOfAllBut_28 rfl (lv_at hl 3 rfl) ?_
    refine g_run_q (f := fun u => u) (g_runV (k := 12) [.int (nI k)] X hK hP hS hC hB (d_find (σ := σ) hN (hA.2.2.1) h38 n21 hb9) (cwV 1 X.2.2.2.2 gX11_overOfAllBut_X10_find rfl rfl rfl (by decide +kernel) ⟨Nat.le_of_ble_eq_true rfl, Nat.le_of_ble_eq_true rfl⟩) hN.t0 rfl rfl hl.1 rfl (Nat.le_of_ble_eq_true rfl) dX11_overOfAllBut_29 (by exact ⟨Nat.zero_le _, Nat.zero_le _⟩)) hS (fun r u H locs hq hP hS => ?_)
    obtain ⟨rfl, rfl⟩ := hq
    have hP : gP D cy B z T Q9 RK1 H := hP
    refine lv_astore (lv' := [(4, .ref b9), (0, .ref q), (1, .int bt), (2, .int (nI t)), (3, .int (nI k))]) X.1 X.2.1 dX11_overOfAllBut_32 hl (by decide) rfl (fun ls hl => ?_)
    refine lv_aload X.1 X.2.1 dX11_overOfAllBut_34 (lv_at hl 0 rfl) ?_
    refine lv_ifnull X.1 X.2.1 dX11_overOfAllBut_36 ?_
    refine lv_iload_n X.1 X.2.1 dX11_overOfAllBut_39 rfl (lv_at hl 4 rfl) ?_
    refine lv_iload_n X.1 X.2.1 dX11_overOfAllBut_40 rfl (lv_at hl 2 rfl) ?_
    refine lv_icmp_eq (tgt := 56) X.1 X.2.1 dX11_overOfAllBut_41 (by decide) (fun c41 => ?_) (fun c41 => ?_)
    · refine lv_iinc (v := nI (k + 1)) (lv' := [(3, .int (nI (k + 1))), (4, .ref b9), (0, .ref q), (1, .int bt), (2, .int (nI t))]) X.1 X.2.1 dX11_overOfAllBut_56 hl (k := 4) rfl (gn_inc (Eq.refl (nI k)) 1) (by decide) rfl (fun ls hl => ?_)
      refine lv_goto (tgt := 13) X.1 X.2.1 dX11_overOfAllBut_59 (by decide) ?_
      have e9 : sAll fl ti sh t bn σ (k + 1) = sAll fl ti sh t bn σ k := if_pos ((hbt k (by omega)).mp c41)
      exact ih _ _ _ _ (by omega) ⟨⟨κ, hAt, hCt, sBd_le hbk (by omega), h18, (by rw [e9]; exact hal9), hko9⟩, lv_sub hl [2, 3, 4, 0] rfl⟩ hP hS
    · refine lv_aload_n X.1 X.2.1 dX11_overOfAllBut_44 rfl (lv_at hl 1 rfl) ?_
      refine g_getr 13 2 X hK hP hTq rfl hinRX11 rfl (by decide) k26 (fun _ h => h) dX11_overOfAllBut_45 (show va_rf (RK1 q 2) = .ref tr from by rw [hR2]; rfl) ?_
      refine lv_aload X.1 X.2.1 dX11_overOfAllBut_48 (lv_at hl 0 rfl) ?_
      refine lv_bipush (v := 10) X.1 X.2.1 dX11_overOfAllBut_50 (by decide) ?_
      refine lv_iload_n X.1 X.2.1 dX11_overOfAllBut_52 rfl (lv_at hl 3 rfl) ?_
      refine g_run_v (f := fun u => u) (g_runV (k := 12) [.ref b9, .int 10, .int (nI t)] X hK hP hS hC hB (d_carry (ld := 10) hall hCt (by omega) (by omega) (by omega)) (cwV 3 X.2.2.2.2 gX11_overOfAllBut_X10_carry rfl rfl rfl (by decide +kernel) ⟨Nat.le_of_ble_eq_true rfl, Nat.le_of_ble_eq_true rfl⟩) hTr.t0 rfl rfl hl.1 rfl (Nat.le_of_ble_eq_true rfl) dX11_overOfAllBut_53 (by exact ⟨Nat.zero_le _, Nat.zero_le _⟩)) hS (fun u H locs hq hP hS => ?_)
      obtain ⟨IC, rfl, ⟨hAC, hCC, hbC, h1C⟩, hfc⟩ := hq
      have hP : gP D cy B z T IC RK1 H := hP
      refine lv_iinc (v := nI (k + 1)) (lv' := [(3, .int (nI (k + 1))), (4, .ref b9), (0, .ref q), (1, .int bt), (2, .int (nI t))]) X.1 X.2.1 dX11_overOfAllBut_56 hl (k := 4) rfl (gn_inc (Eq.refl (nI k)) 1) (by decide) rfl (fun ls hl => ?_)
      refine lv_goto (tgt := 13) X.1 X.2.1 dX11_overOfAllBut_59 (by decide) ?_
      have e9 : sAll fl ti sh t bn σ (k + 1) = sBy fl ti sh k 10 t 200 (sAll fl ti sh t bn σ k) 0 := if_neg (fun h => c41 ((hbt k (by omega)).mpr h))
      exact ih _ _ _ _ (by omega) ⟨⟨_, hAC, hCC, sBd_le hbC (by omega), (fun i hi => (h1C i hi).trans (h18 i hi)), (by rw [e9]; exact hal9.by), fun c j h => (hfc c j h).trans (hko9 c j h)⟩, lv_sub hl [2, 3, 4, 0] rfl⟩ hP hS

set_option maxHeartbeats 4000000 in
set_option maxRecDepth 100000 in
/-- t_worth_n -/
theorem t_worth_n (hTp : cTop q nw kp tr T R) (hNw : cNw q nw T I R σ fl ti sh) (hG : sGd fl ti sh) (hb : sBd σ K) {v : Int32} (hno : ¬ (0 ≤ v ∧ v ≤ nI (σ 38) - 1)) (x : Int32) : Met l yX11_worth wsX11_worth ({ frames := 1, cells := 0, slots := 0, locals := 21 }) (va_Pc [.ref q, .int v, .int x] (gW0 s0 D cy B (z, T, I, R))) (va_Qi (fun r u => r = -1001 ∧ (z, T, I, R) = u) (fun u t => gW1 D cy B u t) (gA B)) 0 0 (gA B) := by
  refine g_met (maxL := 3) (ret := (some .int)) (by decide) rfl (Nat.le_of_ble_eq_true rfl) (fun p e s m args below meth c ls X hr hlk hnm hK hP hC hS hl => ?_)
  have hl : lv_has ls 3 [(0, .ref q), (1, .int v), (2, .int x)] := hl
  have hP : gP D cy B z T I R s.heap := hP
  have hB : B ≤ s.heap.size := by rw [hP.1]; exact hP.2.1
  have hinRX11 : ∀ w ∈ wsX110, w ∈ wsX11_worth := fun _ h => List.mem_cons_of_mem _ (List.mem_append_left _ (List.mem_append_left _ (List.mem_append_left _ (List.mem_append_left _ (List.mem_append_left _ (List.mem_append_left _ (List.mem_append_left _ (List.mem_append_left _ (List.mem_append_left _ (List.mem_append_left _ (List.mem_append_right _ h)))))))))))
  have k17 : Cond.fieldLink RX11 17 "BarrowPlank" "now" "LBarrowPlank$Works;" ∈ wsX11_worth := by decide +kernel
  have hTp0 := hTp
  have hNw0 := hNw
  obtain ⟨hnw, hkp, htr, hTq, hR0, hR1, hR2, hR3, hR4, hN, hKp, hTr, hTrd, hTl⟩ := hTp
  obtain ⟨hA, hBb, hmen, hme, a, hsR, hst, hsi, hfa⟩ := hNw
  have h38 := hb.2.2.2.2.1
  have h0 := hb.1
  refine lv_aload_n X.1 X.2.1 dX11_worth_0 rfl (lv_at hl 0 rfl) ?_
  refine g_getr 13 0 X hK hP hTq rfl hinRX11 rfl (by decide) k17 (fun _ h => h) dX11_worth_1 (show va_rf (R q 0) = .ref nw from by rw [hR0]; rfl) ?_
  refine lv_iload_n X.1 X.2.1 dX11_worth_4 rfl (lv_at hl 1 rfl) ?_
  refine g_run_q (f := fun u => u) (g_runV (k := 12) [.int v] X hK hP hS hC hB (d_find_n (σ := σ) hN (hA.2.2.1) h38 hno) (cwV 1 X.2.2.2.2 gX11_worth_X10_find rfl rfl rfl (by decide +kernel) ⟨Nat.le_of_ble_eq_true rfl, Nat.le_of_ble_eq_true rfl⟩) hN.t0 rfl rfl hl.1 rfl (Nat.le_of_ble_eq_true rfl) dX11_worth_5 (by exact ⟨Nat.zero_le _, Nat.zero_le _⟩)) hS (fun r u H locs hq hP hS => ?_)
  obtain ⟨rfl, rfl⟩ := hq
  have hP : gP D cy B z T I R H := hP
  refine lv_ifnonnullN X.1 X.2.1 dX11_worth_8 ?_
  refine lv_sipush (v := (-1001)) X.1 X.2.1 dX11_worth_11 (by decide) ?_
  exact g_iret (f := fun u => u) (z, T, I, R) X hr hlk hK hP hS dX11_worth_14 ⟨rfl, rfl⟩

set_option maxHeartbeats 4000000 in
set_option maxRecDepth 100000 in
/-- t_worth_b -/
theorem t_worth_b (hTp : cTop q nw kp tr T R) (hNw : cNw q nw T I R σ fl ti sh) (hG : sGd fl ti sh) (hb : sBd σ K) {μ : Nat} (hμn : μ < σ 38) {x : Int32} (hbad : ¬ (0 ≤ x ∧ x ≤ 999)) : Met l yX11_worth wsX11_worth ({ frames := 1, cells := 0, slots := 0, locals := 22 }) (va_Pc [.ref q, .int (nI μ), .int x] (gW0 s0 D cy B (z, T, I, R))) (va_Qi (fun r u => r = -1002 ∧ (z, T, I, R) = u) (fun u t => gW1 D cy B u t) (gA B)) 0 0 (gA B) := by
  refine g_met (maxL := 3) (ret := (some .int)) (by decide) rfl (Nat.le_of_ble_eq_true rfl) (fun p e s m args below meth c ls X hr hlk hnm hK hP hC hS hl => ?_)
  have hl : lv_has ls 3 [(0, .ref q), (1, .int (nI μ)), (2, .int x)] := hl
  have hP : gP D cy B z T I R s.heap := hP
  have hB : B ≤ s.heap.size := by rw [hP.1]; exact hP.2.1
  have hinRX11 : ∀ w ∈ wsX110, w ∈ wsX11_worth := fun _ h => List.mem_cons_of_mem _ (List.mem_append_left _ (List.mem_append_left _ (List.mem_append_left _ (List.mem_append_left _ (List.mem_append_left _ (List.mem_append_left _ (List.mem_append_left _ (List.mem_append_left _ (List.mem_append_left _ (List.mem_append_left _ (List.mem_append_right _ h)))))))))))
  have hin7 : ∀ κ, κ ≤ 6 → ∀ w ∈ mws κ, w ∈ wsX11_worth := fun κ hκ => by
    rcases k7 hκ with rfl | rfl | rfl | rfl | rfl | rfl | rfl
    · exact fun _ h => List.mem_cons_of_mem _ (List.mem_append_left _ (List.mem_append_left _ (List.mem_append_left _ (List.mem_append_left _ (List.mem_append_left _ (List.mem_append_right _ h))))))
    · exact fun _ h => List.mem_cons_of_mem _ (List.mem_append_left _ (List.mem_append_left _ (List.mem_append_left _ (List.mem_append_left _ (List.mem_append_left _ (List.mem_append_left _ (List.mem_append_left _ (List.mem_append_right _ h))))))))
    · exact fun _ h => List.mem_cons_of_mem _ (List.mem_append_left _ (List.mem_append_right _ h))
    · exact fun _ h => List.mem_cons_of_mem _ (List.mem_append_left _ (List.mem_append_left _ (List.mem_append_left _ (List.mem_append_right _ h))))
    · exact fun _ h => List.mem_cons_of_mem _ (List.mem_append_left _ (List.mem_append_left _ (List.mem_append_left _ (List.mem_append_left _ (List.mem_append_left _ (List.mem_append_left _ (List.mem_append_right _ h)))))))
    · exact fun _ h => List.mem_cons_of_mem _ (List.mem_append_left _ (List.mem_append_left _ (List.mem_append_right _ h)))
    · exact fun _ h => List.mem_cons_of_mem _ (List.mem_append_left _ (List.mem_append_left _ (List.mem_append_left _ (List.mem_append_left _ (List.mem_append_right _ h)))))
  have k17 : Cond.fieldLink RX11 17 "BarrowPlank" "now" "LBarrowPlank$Works;" ∈ wsX11_worth := by decide +kernel
  have hTp0 := hTp
  have hNw0 := hNw
  obtain ⟨hnw, hkp, htr, hTq, hR0, hR1, hR2, hR3, hR4, hN, hKp, hTr, hTrd, hTl⟩ := hTp
  obtain ⟨hA, hBb, hmen, hme, a, hsR, hst, hsi, hfa⟩ := hNw
  have h38 := hb.2.2.2.2.1
  have h0 := hb.1
  have hμ : μ < 4 := Nat.lt_of_lt_of_le hμn h38
  obtain ⟨b, hbm, hm, hb65⟩ := hmen μ hμn
  obtain ⟨hk6, hv9, hs20⟩ := hb.2.2.2.2.2.2.2.2.1 μ hμ
  have ht9 := hb.2.2.1 μ hμ
  refine lv_aload_n X.1 X.2.1 dX11_worth_0 rfl (lv_at hl 0 rfl) ?_
  refine g_getr 13 0 X hK hP hTq rfl hinRX11 rfl (by decide) k17 (fun _ h => h) dX11_worth_1 (show va_rf (R q 0) = .ref nw from by rw [hR0]; rfl) ?_
  refine lv_iload_n X.1 X.2.1 dX11_worth_4 rfl (lv_at hl 1 rfl) ?_
  refine g_run_q (f := fun u => u) (g_runV (k := 12) [.int (nI μ)] X hK hP hS hC hB (d_find (σ := σ) hN (hA.2.2.1) h38 hμn hbm) (cwV 1 X.2.2.2.2 gX11_worth_X10_find rfl rfl rfl (by decide +kernel) ⟨Nat.le_of_ble_eq_true rfl, Nat.le_of_ble_eq_true rfl⟩) hN.t0 rfl rfl hl.1 rfl (Nat.le_of_ble_eq_true rfl) dX11_worth_5 (by exact ⟨Nat.zero_le _, Nat.zero_le _⟩)) hS (fun r u H locs hq hP hS => ?_)
  obtain ⟨rfl, rfl⟩ := hq
  have hP : gP D cy B z T I R H := hP
  refine lv_ifnonnull (tgt := 15) X.1 X.2.1 dX11_worth_8 (by decide) ?_
  refine lv_iload_n X.1 X.2.1 dX11_worth_15 rfl (lv_at hl 2 rfl) ?_
  refine lv_iconst (v := 0) X.1 X.2.1 dX11_worth_16 (by decide) ?_
  refine lv_sipush (v := 999) X.1 X.2.1 dX11_worth_17 (by decide) ?_
  refine g_run_i (f := fun u => u) (g_runS [.int x, .int 0, .int 999] X hK hP hS hC hB (d_outside) (va_cwS 3 X.2.2.2.2 gX11_worth_X11_outside rfl rfl rfl (by decide +kernel) ⟨Nat.le_of_ble_eq_true rfl, Nat.le_of_ble_eq_true rfl⟩) rfl hl.1 rfl (Nat.le_of_ble_eq_true rfl) dX11_worth_20 (by exact ⟨Nat.zero_le _, Nat.zero_le _⟩)) hS (fun r u H locs hq hP hS => ?_)
  obtain ⟨rfl, rfl⟩ := hq
  have hP : gP D cy B z T I R H := hP
  refine lv_if_eq (tgt := 30) X.1 X.2.1 dX11_worth_23 (by decide) (fun c23 => ?_) (fun c23 => ?_)
  · exact absurd hbad (gt_0 c23)
  · refine lv_sipush (v := (-1002)) X.1 X.2.1 dX11_worth_26 (by decide) ?_
    exact g_iret (f := fun u => u) (z, T, I, R) X hr hlk hK hP hS dX11_worth_29 ⟨rfl, rfl⟩

set_option maxHeartbeats 4000000 in
set_option maxRecDepth 100000 in
/-- t_worth -/
theorem t_worth (hTp : cTop q nw kp tr T R) (hNw : cNw q nw T I R σ fl ti sh) (hG : sGd fl ti sh) (hb : sBd σ K) (hcas : gCas s0) {μ : Nat} (hμn : μ < σ 38) {t : Nat} (ht : t ≤ 999) (hKb : K ≤ 25000000) : Met l yX11_worth wsX11_worth ({ frames := 7, cells := 0, slots := 0, locals := 174 }) (va_Pc [.ref q, .int (nI μ), .int (nI t)] (gW0 s0 D cy B (z, T, I, R))) (va_Qi (fun r u => r = nI (sAll fl ti sh t 9 σ (σ 38) 1 - σ 1) - nI (sAll fl ti sh t μ σ (σ 38) 1 - σ 1) ∧ ∃ I' R', u = (z, T, I', R') ∧ cQ q I I' R R') (fun u t => gW1 D cy B u t) (gA B)) 0 0 (gA B) := by
  refine g_met (maxL := 3) (ret := (some .int)) (by decide) rfl (Nat.le_of_ble_eq_true rfl) (fun p e s m args below meth c ls X hr hlk hnm hK hP hC hS hl => ?_)
  have hl : lv_has ls 3 [(0, .ref q), (1, .int (nI μ)), (2, .int (nI t))] := hl
  have hP : gP D cy B z T I R s.heap := hP
  have hB : B ≤ s.heap.size := by rw [hP.1]; exact hP.2.1
  have hinRX11 : ∀ w ∈ wsX110, w ∈ wsX11_worth := fun _ h => List.mem_cons_of_mem _ (List.mem_append_left _ (List.mem_append_left _ (List.mem_append_left _ (List.mem_append_left _ (List.mem_append_left _ (List.mem_append_left _ (List.mem_append_left _ (List.mem_append_left _ (List.mem_append_left _ (List.mem_append_left _ (List.mem_append_right _ h)))))))))))
  have hin7 : ∀ κ, κ ≤ 6 → ∀ w ∈ mws κ, w ∈ wsX11_worth := fun κ hκ => by
    rcases k7 hκ with rfl | rfl | rfl | rfl | rfl | rfl | rfl
    · exact fun _ h => List.mem_cons_of_mem _ (List.mem_append_left _ (List.mem_append_left _ (List.mem_append_left _ (List.mem_append_left _ (List.mem_append_left _ (List.mem_append_right _ h))))))
    · exact fun _ h => List.mem_cons_of_mem _ (List.mem_append_left _ (List.mem_append_left _ (List.mem_append_left _ (List.mem_append_left _ (List.mem_append_left _ (List.mem_append_left _ (List.mem_append_left _ (List.mem_append_right _ h))))))))
    · exact fun _ h => List.mem_cons_of_mem _ (List.mem_append_left _ (List.mem_append_right _ h))
    · exact fun _ h => List.mem_cons_of_mem _ (List.mem_append_left _ (List.mem_append_left _ (List.mem_append_left _ (List.mem_append_right _ h))))
    · exact fun _ h => List.mem_cons_of_mem _ (List.mem_append_left _ (List.mem_append_left _ (List.mem_append_left _ (List.mem_append_left _ (List.mem_append_left _ (List.mem_append_left _ (List.mem_append_right _ h)))))))
    · exact fun _ h => List.mem_cons_of_mem _ (List.mem_append_left _ (List.mem_append_left _ (List.mem_append_right _ h)))
    · exact fun _ h => List.mem_cons_of_mem _ (List.mem_append_left _ (List.mem_append_left _ (List.mem_append_left _ (List.mem_append_left _ (List.mem_append_right _ h)))))
  have k17 : Cond.fieldLink RX11 17 "BarrowPlank" "now" "LBarrowPlank$Works;" ∈ wsX11_worth := by decide +kernel
  have hTp0 := hTp
  have hNw0 := hNw
  obtain ⟨hnw, hkp, htr, hTq, hR0, hR1, hR2, hR3, hR4, hN, hKp, hTr, hTrd, hTl⟩ := hTp
  obtain ⟨hA, hBb, hmen, hme, a, hsR, hst, hsi, hfa⟩ := hNw
  have h38 := hb.2.2.2.2.1
  have h0 := hb.1
  have hμ : μ < 4 := Nat.lt_of_lt_of_le hμn h38
  obtain ⟨b, hbm, hm, hb65⟩ := hmen μ hμn
  obtain ⟨hk6, hv9, hs20⟩ := hb.2.2.2.2.2.2.2.2.1 μ hμ
  have ht9 := hb.2.2.1 μ hμ
  refine lv_aload_n X.1 X.2.1 dX11_worth_0 rfl (lv_at hl 0 rfl) ?_
  refine g_getr 13 0 X hK hP hTq rfl hinRX11 rfl (by decide) k17 (fun _ h => h) dX11_worth_1 (show va_rf (R q 0) = .ref nw from by rw [hR0]; rfl) ?_
  refine lv_iload_n X.1 X.2.1 dX11_worth_4 rfl (lv_at hl 1 rfl) ?_
  refine g_run_q (f := fun u => u) (g_runV (k := 12) [.int (nI μ)] X hK hP hS hC hB (d_find (σ := σ) hN (hA.2.2.1) h38 hμn hbm) (cwV 1 X.2.2.2.2 gX11_worth_X10_find rfl rfl rfl (by decide +kernel) ⟨Nat.le_of_ble_eq_true rfl, Nat.le_of_ble_eq_true rfl⟩) hN.t0 rfl rfl hl.1 rfl (Nat.le_of_ble_eq_true rfl) dX11_worth_5 (by exact ⟨Nat.zero_le _, Nat.zero_le _⟩)) hS (fun r u H locs hq hP hS => ?_)
  obtain ⟨rfl, rfl⟩ := hq
  have hP : gP D cy B z T I R H := hP
  refine lv_ifnonnull (tgt := 15) X.1 X.2.1 dX11_worth_8 (by decide) ?_
  refine lv_iload_n X.1 X.2.1 dX11_worth_15 rfl (lv_at hl 2 rfl) ?_
  refine lv_iconst (v := 0) X.1 X.2.1 dX11_worth_16 (by decide) ?_
  refine lv_sipush (v := 999) X.1 X.2.1 dX11_worth_17 (by decide) ?_
  refine g_run_i (f := fun u => u) (g_runS [.int (nI t), .int 0, .int 999] X hK hP hS hC hB (d_outside) (va_cwS 3 X.2.2.2.2 gX11_worth_X11_outside rfl rfl rfl (by decide +kernel) ⟨Nat.le_of_ble_eq_true rfl, Nat.le_of_ble_eq_true rfl⟩) rfl hl.1 rfl (Nat.le_of_ble_eq_true rfl) dX11_worth_20 (by exact ⟨Nat.zero_le _, Nat.zero_le _⟩)) hS (fun r u H locs hq hP hS => ?_)
  obtain ⟨rfl, rfl⟩ := hq
  have hP : gP D cy B z T I R H := hP
  refine lv_if_eq (tgt := 30) X.1 X.2.1 dX11_worth_23 (by decide) (fun c23 => ?_) (fun c23 => ?_)
  · refine lv_aload_n X.1 X.2.1 dX11_worth_30 rfl (lv_at hl 0 rfl) ?_
    refine lv_iconst (v := (-1)) X.1 X.2.1 dX11_worth_31 (by decide) ?_
    refine lv_iload_n X.1 X.2.1 dX11_worth_32 rfl (lv_at hl 2 rfl) ?_
    refine g_run_i (f := fun u => u) (g_runV (k := 13) [.int (-1), .int (nI t)] X hK hP hS hC hB (t_oob (bn := 9) hTp0 hNw0 hG hb hcas (fun k hk => ⟨fun h => absurd h (gn_m1 (by omega)), fun h => absurd h (by omega)⟩) ht hKb) (cwV 2 X.2.2.2.2 gX11_worth_X11_overOfAllBut rfl rfl rfl (by decide +kernel) ⟨Nat.le_of_ble_eq_true rfl, Nat.le_of_ble_eq_true rfl⟩) hTq rfl rfl hl.1 rfl (Nat.le_of_ble_eq_true rfl) dX11_worth_33 (by exact ⟨Nat.zero_le _, Nat.zero_le _⟩)) hS (fun r u H locs hq hP hS => ?_)
    obtain ⟨rfl, IA9, RA9, rfl, hQA9⟩ := hq
    have hP : gP D cy B z T IA9 RA9 H := hP
    have hTp9 := hTp0.fr hQA9.2
    have hNw9 := hNw0.fr (by omega) (by omega) hQA9
    refine lv_aload_n X.1 X.2.1 dX11_worth_36 rfl (lv_at hl 0 rfl) ?_
    refine lv_iload_n X.1 X.2.1 dX11_worth_37 rfl (lv_at hl 1 rfl) ?_
    refine lv_iload_n X.1 X.2.1 dX11_worth_38 rfl (lv_at hl 2 rfl) ?_
    refine g_run_i (f := fun u => u) (g_runV (k := 13) [.int (nI μ), .int (nI t)] X hK hP hS hC hB (t_oob (bn := μ) hTp9 hNw9 hG hb hcas (fun k hk => ⟨fun h => gq_eq h rfl rfl (by omega) (by omega), fun h => by rw [h]⟩) ht hKb) (cwV 2 X.2.2.2.2 gX11_worth_X11_overOfAllBut rfl rfl rfl (by decide +kernel) ⟨Nat.le_of_ble_eq_true rfl, Nat.le_of_ble_eq_true rfl⟩) hTq rfl rfl hl.1 rfl (Nat.le_of_ble_eq_true rfl) dX11_worth_39 (by exact ⟨Nat.zero_le _, Nat.zero_le _⟩)) hS (fun r u H locs hq hP hS => ?_)
    obtain ⟨rfl, IB9, RB9, rfl, hQB9⟩ := hq
    have hP : gP D cy B z T IB9 RB9 H := hP
    refine lv_isub X.1 X.2.1 dX11_worth_42 ?_
    exact g_iret (f := fun u => u) (z, T, IB9, RB9) X hr hlk hK hP hS dX11_worth_43 ⟨rfl, IB9, RB9, rfl, hQA9.trs hQB9⟩
  · exact absurd (g_le (a := 0) (b := 999) (x := 0) (y := 999) rfl rfl (by omega) (by omega) (by omega)) (gt_1 c23)

theorem cd_v (b : Nat) (hb : b < 11) (d : Nat) (hd : d < 11) (hd1 : 1 ≤ d) (h1 : 10 % d = 0) (h2 : b % d = 0) (hno : ∀ e, e < 11 → d < e → ¬ (10 % e = 0 ∧ b % e = 0)) : d = Nat.gcd 10 b := by
  have g1 : d ∣ Nat.gcd 10 b := Nat.dvd_gcd (Nat.dvd_of_mod_eq_zero h1) (Nat.dvd_of_mod_eq_zero h2)
  have gp : 0 < Nat.gcd 10 b := Nat.gcd_pos_of_pos_left _ (by decide)
  have g2 := Nat.le_of_dvd gp g1
  have g3 : Nat.gcd 10 b ≤ 10 := Nat.le_of_dvd (by decide) (Nat.gcd_dvd_left _ _)
  rcases Nat.lt_or_ge d (Nat.gcd 10 b) with h | h
  · exact absurd ⟨Nat.mod_eq_zero_of_dvd (Nat.gcd_dvd_left _ _), Nat.mod_eq_zero_of_dvd (Nat.gcd_dvd_right _ _)⟩ (hno _ (by omega) h)
  · omega
theorem cd_1 (b : Nat) (hb : b < 11) (hno : ∀ e, e < 11 → 1 < e → ¬ (10 % e = 0 ∧ b % e = 0)) : 1 = Nat.gcd 10 b := cd_v b hb 1 (by decide) (by decide) rfl (Nat.mod_one b) hno
theorem od_v : ∀ part, part < 2 → ∀ p, p < 11 → ∀ y, y < 11 → ((if part = 0 then 10 - p else 10) / Nat.gcd 10 (10 - p)) ^ y = sOd part p y := by decide +kernel
theorem od_le : ∀ part, part < 2 → ∀ p, p < 11 → (if part = 0 then 10 - p else 10) / Nat.gcd 10 (10 - p) ≤ 10 := by decide +kernel
theorem cd_dec {k : Nat} (h : k < 10) : nI (10 - k) + (-1) = nI (10 - (k + 1)) := by
  rw [show 10 - k = (10 - (k + 1)) + 1 by omega]
  exact gn_dec _
set_option maxHeartbeats 4000000 in
set_option maxRecDepth 100000 in
/-- d_cd -/
theorem d_cd {b : Nat} (hb : b ≤ 10) : Met l yX11_commonDivisor wsX11_commonDivisor ({ frames := 0, cells := 0, slots := 0, locals := 0 }) (va_Pc [.int 10, .int (nI b)] (gW0 s0 D cy B (z, T, I, R))) (va_Qi (fun r u => r = nI (Nat.gcd 10 b) ∧ (z, T, I, R) = u) (fun u t => gW1 D cy B u t) (gA B)) 0 0 (gA B) := by
  refine g_met (maxL := 3) (ret := (some .int)) (by decide) rfl (Nat.le_of_ble_eq_true rfl) (fun p e s m args below meth c ls X hr hlk hnm hK hP hC hS hl => ?_)
  have hl : lv_has ls 3 [(0, .int 10), (1, .int (nI b))] := hl
  have hP : gP D cy B z T I R s.heap := hP
  have hB : B ≤ s.heap.size := by rw [hP.1]; exact hP.2.1
  refine lv_iload_n X.1 X.2.1 dX11_commonDivisor_0 rfl (lv_at hl 0 rfl) ?_
  refine lv_istore_n (lv' := [(2, .int 10), (0, .int 10), (1, .int (nI b))]) X.1 X.2.1 dX11_commonDivisor_1 rfl hl (by decide) rfl (fun ls hl => ?_)
  refine i_loop (I := I) 9 2 [] (fun k Q9 ls => (I = Q9 ∧ ∀ e, e < 11 → 10 - k < e → ¬ (10 % e = 0 ∧ b % e = 0)) ∧ lv_has ls 3 [(0, .int 10), (1, .int (nI b)), (2, .int (nI (10 - k)))]) 0 (by omega) ⟨⟨rfl, fun e h1 h2 => absurd h2 (by omega)⟩, lv_sub hl [1, 2, 0] rfl⟩ hP hS (fun k Q9 H locs ls hk hiv hP hS ih => ?_)
  obtain ⟨⟨rfl, hno⟩, hl⟩ := hiv
  have hm1 := Nat.mod_lt 10 (show 0 < 10 - k by omega)
  have hm2 := Nat.mod_lt b (show 0 < 10 - k by omega)
  refine lv_iload_n X.1 X.2.1 dX11_commonDivisor_2 rfl (lv_at hl 2 rfl) ?_
  refine lv_iconst (v := 1) X.1 X.2.1 dX11_commonDivisor_3 (by decide) ?_
  refine lv_icmp_le (tgt := 27) X.1 X.2.1 dX11_commonDivisor_4 (by decide) (fun c4 => ?_) (fun c4 => ?_)
  · have n4 : (10 - k) ≤ 1 := gq_le c4 (Eq.refl (nI (10 - k))) (show (1 : Int32) = nI 1 from rfl) (by omega) (by omega)
    refine lv_iconst (v := 1) X.1 X.2.1 dX11_commonDivisor_27 (by decide) ?_
    exact g_iret (f := fun u => u) (z, T, I, R) X hr hlk hK hP hS dX11_commonDivisor_28 ⟨congrArg nI (cd_1 b (by omega) (fun e h1 h2 => hno e h1 (by omega))), rfl⟩
  · have n4 : 1 < (10 - k) := gq_nle c4 (Eq.refl (nI (10 - k))) (show (1 : Int32) = nI 1 from rfl) (by omega) (by omega)
    refine lv_iload_n X.1 X.2.1 dX11_commonDivisor_7 rfl (lv_at hl 0 rfl) ?_
    refine lv_iload_n X.1 X.2.1 dX11_commonDivisor_8 rfl (lv_at hl 2 rfl) ?_
    refine lv_irem X.1 X.2.1 dX11_commonDivisor_9 (gi_ne0 (Eq.refl (nI (10 - k))) (by omega) (by omega)) ?_
    refine lv_if_ne (tgt := 21) X.1 X.2.1 dX11_commonDivisor_10 (by decide) (fun c10 => ?_) (fun c10 => ?_)
    · have n10 : ¬ (10 % (10 - k)) = 0 := gq_ne c10 (gn_rem (show (10 : Int32) = nI 10 from rfl) (Eq.refl (nI (10 - k))) (by omega) (by omega) (by omega)) (show (0 : Int32) = nI 0 from rfl) (by omega) (by omega)
      refine lv_iinc (v := nI (10 - (k + 1))) (lv' := [(2, .int (nI (10 - (k + 1)))), (0, .int 10), (1, .int (nI b))]) X.1 X.2.1 dX11_commonDivisor_21 hl (k := 2) rfl (cd_dec (by omega)) (by decide) rfl (fun ls hl => ?_)
      refine lv_goto (tgt := 2) X.1 X.2.1 dX11_commonDivisor_24 (by decide) ?_
      exact ih _ _ _ _ (by omega) ⟨⟨rfl, fun e h1 h2 h => (by by_cases e9 : e = 10 - k; (· subst e9; exact n10 h.1); exact hno e h1 (by omega) h)⟩, lv_sub hl [1, 2, 0] rfl⟩ hP hS
    · have n10 : (10 % (10 - k)) = 0 := gq_eq c10 (gn_rem (show (10 : Int32) = nI 10 from rfl) (Eq.refl (nI (10 - k))) (by omega) (by omega) (by omega)) (show (0 : Int32) = nI 0 from rfl) (by omega) (by omega)
      refine lv_iload_n X.1 X.2.1 dX11_commonDivisor_13 rfl (lv_at hl 1 rfl) ?_
      refine lv_iload_n X.1 X.2.1 dX11_commonDivisor_14 rfl (lv_at hl 2 rfl) ?_
      refine lv_irem X.1 X.2.1 dX11_commonDivisor_15 (gi_ne0 (Eq.refl (nI (10 - k))) (by omega) (by omega)) ?_
      refine lv_if_ne (tgt := 21) X.1 X.2.1 dX11_commonDivisor_16 (by decide) (fun c16 => ?_) (fun c16 => ?_)
      · have n16 : ¬ (b % (10 - k)) = 0 := gq_ne c16 (gn_rem (Eq.refl (nI b)) (Eq.refl (nI (10 - k))) (by omega) (by omega) (by omega)) (show (0 : Int32) = nI 0 from rfl) (by omega) (by omega)
        refine lv_iinc (v := nI (10 - (k + 1))) (lv' := [(2, .int (nI (10 - (k + 1)))), (0, .int 10), (1, .int (nI b))]) X.1 X.2.1 dX11_commonDivisor_21 hl (k := 2) rfl (cd_dec (by omega)) (by decide) rfl (fun ls hl => ?_)
        refine lv_goto (tgt := 2) X.1 X.2.1 dX11_commonDivisor_24 (by decide) ?_
        exact ih _ _ _ _ (by omega) ⟨⟨rfl, fun e h1 h2 h => (by by_cases e9 : e = 10 - k; (· subst e9; exact n16 h.2); exact hno e h1 (by omega) h)⟩, lv_sub hl [1, 2, 0] rfl⟩ hP hS
      · have n16 : (b % (10 - k)) = 0 := gq_eq c16 (gn_rem (Eq.refl (nI b)) (Eq.refl (nI (10 - k))) (by omega) (by omega) (by omega)) (show (0 : Int32) = nI 0 from rfl) (by omega) (by omega)
        refine lv_iload_n X.1 X.2.1 dX11_commonDivisor_19 rfl (lv_at hl 2 rfl) ?_
        exact g_iret (f := fun u => u) (z, T, I, R) X hr hlk hK hP hS dX11_commonDivisor_20 ⟨congrArg nI (cd_v b (by omega) (10 - k) (by omega) (by omega) n10 n16 hno), rfl⟩

set_option maxHeartbeats 4000000 in
set_option maxRecDepth 100000 in
/-- t_odds_n -/
theorem t_odds_n (hTp : cTop q nw kp tr T R) (hNw : cNw q nw T I R σ fl ti sh) (hG : sGd fl ti sh) (hb : sBd σ K) {v : Int32} (hno : ¬ (0 ≤ v ∧ v ≤ nI (σ 38) - 1)) (x y d9 : Int32) : Met l yX11_odds wsX11_odds ({ frames := 1, cells := 0, slots := 0, locals := 21 }) (va_Pc [.ref q, .int v, .int x, .int y, .int d9] (gW0 s0 D cy B (z, T, I, R))) (va_Ql (fun r u => r = -9223372036854775808 ∧ (z, T, I, R) = u) (fun u t => gW1 D cy B u t) (gA B)) 0 0 (gA B) := by
  refine g_met (maxL := 12) (ret := (some .long)) (by decide) rfl (Nat.le_of_ble_eq_true rfl) (fun p e s m args below meth c ls X hr hlk hnm hK hP hC hS hl => ?_)
  have hl : lv_has ls 12 [(0, .ref q), (1, .int v), (2, .int x), (3, .int y), (4, .int d9)] := hl
  have hP : gP D cy B z T I R s.heap := hP
  have hB : B ≤ s.heap.size := by rw [hP.1]; exact hP.2.1
  have hinRX11 : ∀ w ∈ wsX110, w ∈ wsX11_odds := fun _ h => List.mem_cons_of_mem _ (List.mem_append_left _ (List.mem_append_left _ (List.mem_append_left _ (List.mem_append_left _ (List.mem_append_left _ (List.mem_append_left _ (List.mem_append_left _ (List.mem_append_left _ (List.mem_append_left _ (List.mem_append_right _ h))))))))))
  have k17 : Cond.fieldLink RX11 17 "BarrowPlank" "now" "LBarrowPlank$Works;" ∈ wsX11_odds := by decide +kernel
  have hTp0 := hTp
  have hNw0 := hNw
  obtain ⟨hnw, hkp, htr, hTq, hR0, hR1, hR2, hR3, hR4, hN, hKp, hTr, hTrd, hTl⟩ := hTp
  obtain ⟨hA, hBb, hmen, hme, a, hsR, hst, hsi, hfa⟩ := hNw
  have h38 := hb.2.2.2.2.1
  have h0 := hb.1
  refine lv_aload_n X.1 X.2.1 dX11_odds_0 rfl (lv_at hl 0 rfl) ?_
  refine g_getr 13 0 X hK hP hTq rfl hinRX11 rfl (by decide) k17 (fun _ h => h) dX11_odds_1 (show va_rf (R q 0) = .ref nw from by rw [hR0]; rfl) ?_
  refine lv_iload_n X.1 X.2.1 dX11_odds_4 rfl (lv_at hl 1 rfl) ?_
  refine g_run_q (f := fun u => u) (g_runV (k := 12) [.int v] X hK hP hS hC hB (d_find_n (σ := σ) hN (hA.2.2.1) h38 hno) (cwV 1 X.2.2.2.2 gX11_odds_X10_find rfl rfl rfl (by decide +kernel) ⟨Nat.le_of_ble_eq_true rfl, Nat.le_of_ble_eq_true rfl⟩) hN.t0 rfl rfl hl.1 rfl (Nat.le_of_ble_eq_true rfl) dX11_odds_5 (by exact ⟨Nat.zero_le _, Nat.zero_le _⟩)) hS (fun r u H locs hq hP hS => ?_)
  obtain ⟨rfl, rfl⟩ := hq
  have hP : gP D cy B z T I R H := hP
  refine lv_astoreN (lv' := [(5, .null), (0, .ref q), (1, .int v), (2, .int x), (3, .int y), (4, .int d9)]) X.1 X.2.1 dX11_odds_8 hl (by decide) rfl (fun ls hl => ?_)
  refine lv_aloadN X.1 X.2.1 dX11_odds_10 (lv_at hl 0 rfl) ?_
  refine lv_ifnullN (tgt := 42) X.1 X.2.1 dX11_odds_12 (by decide) ?_
  refine lv_ldc2 (v := (-9223372036854775808)) X.1 X.2.1 X.2.2.2.1 (X.2.2.2.2 (.constantLong RX11 188 (-9223372036854775808)) (by decide +kernel)) dX11_odds_42 ?_
  exact g_lret (f := fun u => u) (z, T, I, R) X hr hlk hK hP hS dX11_odds_45 ⟨rfl, rfl⟩

set_option maxHeartbeats 4000000 in
set_option maxRecDepth 100000 in
/-- t_odds_b -/
theorem t_odds_b (hTp : cTop q nw kp tr T R) (hNw : cNw q nw T I R σ fl ti sh) (hG : sGd fl ti sh) (hb : sBd σ K) {μ : Nat} (hμn : μ < σ 38) {x y d9 : Int32} (hbad : ¬ ((1 ≤ x ∧ x ≤ 20) ∧ (0 ≤ y ∧ y ≤ 10) ∧ (0 ≤ d9 ∧ d9 ≤ 1))) : Met l yX11_odds wsX11_odds ({ frames := 2, cells := 0, slots := 0, locals := 42 }) (va_Pc [.ref q, .int (nI μ), .int x, .int y, .int d9] (gW0 s0 D cy B (z, T, I, R))) (va_Ql (fun r u => r = -9223372036854775808 ∧ (z, T, I, R) = u) (fun u t => gW1 D cy B u t) (gA B)) 0 0 (gA B) := by
  refine g_met (maxL := 12) (ret := (some .long)) (by decide) rfl (Nat.le_of_ble_eq_true rfl) (fun p e s m args below meth c ls X hr hlk hnm hK hP hC hS hl => ?_)
  have hl : lv_has ls 12 [(0, .ref q), (1, .int (nI μ)), (2, .int x), (3, .int y), (4, .int d9)] := hl
  have hP : gP D cy B z T I R s.heap := hP
  have hB : B ≤ s.heap.size := by rw [hP.1]; exact hP.2.1
  have hinRX11 : ∀ w ∈ wsX110, w ∈ wsX11_odds := fun _ h => List.mem_cons_of_mem _ (List.mem_append_left _ (List.mem_append_left _ (List.mem_append_left _ (List.mem_append_left _ (List.mem_append_left _ (List.mem_append_left _ (List.mem_append_left _ (List.mem_append_left _ (List.mem_append_left _ (List.mem_append_right _ h))))))))))
  have hin7 : ∀ κ, κ ≤ 6 → ∀ w ∈ mws κ, w ∈ wsX11_odds := fun κ hκ => by
    rcases k7 hκ with rfl | rfl | rfl | rfl | rfl | rfl | rfl
    · exact fun _ h => List.mem_cons_of_mem _ (List.mem_append_left _ (List.mem_append_left _ (List.mem_append_left _ (List.mem_append_left _ (List.mem_append_left _ (List.mem_append_right _ h))))))
    · exact fun _ h => List.mem_cons_of_mem _ (List.mem_append_left _ (List.mem_append_left _ (List.mem_append_left _ (List.mem_append_left _ (List.mem_append_left _ (List.mem_append_left _ (List.mem_append_left _ (List.mem_append_right _ h))))))))
    · exact fun _ h => List.mem_cons_of_mem _ (List.mem_append_left _ (List.mem_append_right _ h))
    · exact fun _ h => List.mem_cons_of_mem _ (List.mem_append_left _ (List.mem_append_left _ (List.mem_append_left _ (List.mem_append_right _ h))))
    · exact fun _ h => List.mem_cons_of_mem _ (List.mem_append_left _ (List.mem_append_left _ (List.mem_append_left _ (List.mem_append_left _ (List.mem_append_left _ (List.mem_append_left _ (List.mem_append_right _ h)))))))
    · exact fun _ h => List.mem_cons_of_mem _ (List.mem_append_left _ (List.mem_append_left _ (List.mem_append_right _ h)))
    · exact fun _ h => List.mem_cons_of_mem _ (List.mem_append_left _ (List.mem_append_left _ (List.mem_append_left _ (List.mem_append_left _ (List.mem_append_right _ h)))))
  have k17 : Cond.fieldLink RX11 17 "BarrowPlank" "now" "LBarrowPlank$Works;" ∈ wsX11_odds := by decide +kernel
  have hTp0 := hTp
  have hNw0 := hNw
  obtain ⟨hnw, hkp, htr, hTq, hR0, hR1, hR2, hR3, hR4, hN, hKp, hTr, hTrd, hTl⟩ := hTp
  obtain ⟨hA, hBb, hmen, hme, a, hsR, hst, hsi, hfa⟩ := hNw
  have h38 := hb.2.2.2.2.1
  have h0 := hb.1
  have hμ : μ < 4 := Nat.lt_of_lt_of_le hμn h38
  obtain ⟨b, hbm, hm, hb65⟩ := hmen μ hμn
  obtain ⟨hk6, hv9, hs20⟩ := hb.2.2.2.2.2.2.2.2.1 μ hμ
  have ht9 := hb.2.2.1 μ hμ
  refine lv_aload_n X.1 X.2.1 dX11_odds_0 rfl (lv_at hl 0 rfl) ?_
  refine g_getr 13 0 X hK hP hTq rfl hinRX11 rfl (by decide) k17 (fun _ h => h) dX11_odds_1 (show va_rf (R q 0) = .ref nw from by rw [hR0]; rfl) ?_
  refine lv_iload_n X.1 X.2.1 dX11_odds_4 rfl (lv_at hl 1 rfl) ?_
  refine g_run_q (f := fun u => u) (g_runV (k := 12) [.int (nI μ)] X hK hP hS hC hB (d_find (σ := σ) hN (hA.2.2.1) h38 hμn hbm) (cwV 1 X.2.2.2.2 gX11_odds_X10_find rfl rfl rfl (by decide +kernel) ⟨Nat.le_of_ble_eq_true rfl, Nat.le_of_ble_eq_true rfl⟩) hN.t0 rfl rfl hl.1 rfl (Nat.le_of_ble_eq_true rfl) dX11_odds_5 (by exact ⟨Nat.zero_le _, Nat.zero_le _⟩)) hS (fun r u H locs hq hP hS => ?_)
  obtain ⟨rfl, rfl⟩ := hq
  have hP : gP D cy B z T I R H := hP
  refine lv_astore (lv' := [(5, .ref b), (0, .ref q), (1, .int (nI μ)), (2, .int x), (3, .int y), (4, .int d9)]) X.1 X.2.1 dX11_odds_8 hl (by decide) rfl (fun ls hl => ?_)
  refine lv_aload X.1 X.2.1 dX11_odds_10 (lv_at hl 0 rfl) ?_
  refine lv_ifnull X.1 X.2.1 dX11_odds_12 ?_
  refine lv_iload_n X.1 X.2.1 dX11_odds_15 rfl (lv_at hl 3 rfl) ?_
  refine g_run_i (f := fun u => u) (g_runS [.int x] X hK hP hS hC hB (d_badLoad) (va_cwS 1 X.2.2.2.2 gX11_odds_X11_badLoad rfl rfl rfl (by decide +kernel) ⟨Nat.le_of_ble_eq_true rfl, Nat.le_of_ble_eq_true rfl⟩) rfl hl.1 rfl (Nat.le_of_ble_eq_true rfl) dX11_odds_16 (by exact ⟨Nat.zero_le _, Nat.zero_le _⟩)) hS (fun r u H locs hq hP hS => ?_)
  obtain ⟨rfl, rfl⟩ := hq
  have hP : gP D cy B z T I R H := hP
  refine lv_if_ne (tgt := 42) X.1 X.2.1 dX11_odds_19 (by decide) (fun c19 => ?_) (fun c19 => ?_)
  · refine lv_ldc2 (v := (-9223372036854775808)) X.1 X.2.1 X.2.2.2.1 (X.2.2.2.2 (.constantLong RX11 188 (-9223372036854775808)) (by decide +kernel)) dX11_odds_42 ?_
    exact g_lret (f := fun u => u) (z, T, I, R) X hr hlk hK hP hS dX11_odds_45 ⟨rfl, rfl⟩
  · refine lv_iload_n X.1 X.2.1 dX11_odds_22 rfl (lv_at hl 4 rfl) ?_
    refine lv_iconst (v := 0) X.1 X.2.1 dX11_odds_23 (by decide) ?_
    refine lv_bipush (v := 10) X.1 X.2.1 dX11_odds_24 (by decide) ?_
    refine g_run_i (f := fun u => u) (g_runS [.int y, .int 0, .int 10] X hK hP hS hC hB (d_outside) (va_cwS 3 X.2.2.2.2 gX11_odds_X11_outside rfl rfl rfl (by decide +kernel) ⟨Nat.le_of_ble_eq_true rfl, Nat.le_of_ble_eq_true rfl⟩) rfl hl.1 rfl (Nat.le_of_ble_eq_true rfl) dX11_odds_26 (by exact ⟨Nat.zero_le _, Nat.zero_le _⟩)) hS (fun r u H locs hq hP hS => ?_)
    obtain ⟨rfl, rfl⟩ := hq
    have hP : gP D cy B z T I R H := hP
    refine lv_if_ne (tgt := 42) X.1 X.2.1 dX11_odds_29 (by decide) (fun c29 => ?_) (fun c29 => ?_)
    · refine lv_ldc2 (v := (-9223372036854775808)) X.1 X.2.1 X.2.2.2.1 (X.2.2.2.2 (.constantLong RX11 188 (-9223372036854775808)) (by decide +kernel)) dX11_odds_42 ?_
      exact g_lret (f := fun u => u) (z, T, I, R) X hr hlk hK hP hS dX11_odds_45 ⟨rfl, rfl⟩
    · refine lv_iload X.1 X.2.1 dX11_odds_32 (lv_at hl 5 rfl) ?_
      refine lv_iconst (v := 0) X.1 X.2.1 dX11_odds_34 (by decide) ?_
      refine lv_iconst (v := 1) X.1 X.2.1 dX11_odds_35 (by decide) ?_
      refine g_run_i (f := fun u => u) (g_runS [.int d9, .int 0, .int 1] X hK hP hS hC hB (d_outside) (va_cwS 3 X.2.2.2.2 gX11_odds_X11_outside rfl rfl rfl (by decide +kernel) ⟨Nat.le_of_ble_eq_true rfl, Nat.le_of_ble_eq_true rfl⟩) rfl hl.1 rfl (Nat.le_of_ble_eq_true rfl) dX11_odds_36 (by exact ⟨Nat.zero_le _, Nat.zero_le _⟩)) hS (fun r u H locs hq hP hS => ?_)
      obtain ⟨rfl, rfl⟩ := hq
      have hP : gP D cy B z T I R H := hP
      refine lv_if_eq (tgt := 46) X.1 X.2.1 dX11_odds_39 (by decide) (fun c39 => ?_) (fun c39 => ?_)
      · exact absurd ⟨Classical.not_not.mp (gt_0 c19), Classical.not_not.mp (gt_0 c29), Classical.not_not.mp (gt_0 c39)⟩ hbad
      · refine lv_ldc2 (v := (-9223372036854775808)) X.1 X.2.1 X.2.2.2.1 (X.2.2.2.2 (.constantLong RX11 188 (-9223372036854775808)) (by decide +kernel)) dX11_odds_42 ?_
        exact g_lret (f := fun u => u) (z, T, I, R) X hr hlk hK hP hS dX11_odds_45 ⟨rfl, rfl⟩

set_option maxHeartbeats 4000000 in
set_option maxRecDepth 100000 in
/-- t_odds -/
theorem t_odds (hTp : cTop q nw kp tr T R) (hNw : cNw q nw T I R σ fl ti sh) (hG : sGd fl ti sh) (hb : sBd σ K) {μ : Nat} (hμn : μ < σ 38) {ld : Nat} (hl1 : 1 ≤ ld) (hld : ld ≤ 20) {p9 part : Nat} (hp9 : p9 ≤ 10) (hpt : part ≤ 1) : Met l yX11_odds wsX11_odds ({ frames := 4, cells := 0, slots := 0, locals := 97 }) (va_Pc [.ref q, .int (nI μ), .int (nI ld), .int (nI p9), .int (nI part)] (gW0 s0 D cy B (z, T, I, R))) (va_Ql (fun r u => r = lN (sOd part p9 (sRk fl σ μ (sCm σ μ ld) 10)) ∧ ∃ I', u = (z, T, I', R) ∧ ∀ c j, ¬ c = nw + 10 → I' c j = I c j) (fun u t => gW1 D cy B u t) (gA B)) 0 0 (gA B) := by
  refine g_met (maxL := 12) (ret := (some .long)) (by decide) rfl (Nat.le_of_ble_eq_true rfl) (fun p e s m args below meth c ls X hr hlk hnm hK hP hC hS hl => ?_)
  have hl : lv_has ls 12 [(0, .ref q), (1, .int (nI μ)), (2, .int (nI ld)), (3, .int (nI p9)), (4, .int (nI part))] := hl
  have hP : gP D cy B z T I R s.heap := hP
  have hB : B ≤ s.heap.size := by rw [hP.1]; exact hP.2.1
  have hinRX11 : ∀ w ∈ wsX110, w ∈ wsX11_odds := fun _ h => List.mem_cons_of_mem _ (List.mem_append_left _ (List.mem_append_left _ (List.mem_append_left _ (List.mem_append_left _ (List.mem_append_left _ (List.mem_append_left _ (List.mem_append_left _ (List.mem_append_left _ (List.mem_append_left _ (List.mem_append_right _ h))))))))))
  have hin7 : ∀ κ, κ ≤ 6 → ∀ w ∈ mws κ, w ∈ wsX11_odds := fun κ hκ => by
    rcases k7 hκ with rfl | rfl | rfl | rfl | rfl | rfl | rfl
    · exact fun _ h => List.mem_cons_of_mem _ (List.mem_append_left _ (List.mem_append_left _ (List.mem_append_left _ (List.mem_append_left _ (List.mem_append_left _ (List.mem_append_right _ h))))))
    · exact fun _ h => List.mem_cons_of_mem _ (List.mem_append_left _ (List.mem_append_left _ (List.mem_append_left _ (List.mem_append_left _ (List.mem_append_left _ (List.mem_append_left _ (List.mem_append_left _ (List.mem_append_right _ h))))))))
    · exact fun _ h => List.mem_cons_of_mem _ (List.mem_append_left _ (List.mem_append_right _ h))
    · exact fun _ h => List.mem_cons_of_mem _ (List.mem_append_left _ (List.mem_append_left _ (List.mem_append_left _ (List.mem_append_right _ h))))
    · exact fun _ h => List.mem_cons_of_mem _ (List.mem_append_left _ (List.mem_append_left _ (List.mem_append_left _ (List.mem_append_left _ (List.mem_append_left _ (List.mem_append_left _ (List.mem_append_right _ h)))))))
    · exact fun _ h => List.mem_cons_of_mem _ (List.mem_append_left _ (List.mem_append_left _ (List.mem_append_right _ h)))
    · exact fun _ h => List.mem_cons_of_mem _ (List.mem_append_left _ (List.mem_append_left _ (List.mem_append_left _ (List.mem_append_left _ (List.mem_append_right _ h)))))
  have k17 : Cond.fieldLink RX11 17 "BarrowPlank" "now" "LBarrowPlank$Works;" ∈ wsX11_odds := by decide +kernel
  have hTp0 := hTp
  have hNw0 := hNw
  obtain ⟨hnw, hkp, htr, hTq, hR0, hR1, hR2, hR3, hR4, hN, hKp, hTr, hTrd, hTl⟩ := hTp
  obtain ⟨hA, hBb, hmen, hme, a, hsR, hst, hsi, hfa⟩ := hNw
  have h38 := hb.2.2.2.2.1
  have h0 := hb.1
  have hμ : μ < 4 := Nat.lt_of_lt_of_le hμn h38
  obtain ⟨b, hbm, hm, hb65⟩ := hmen μ hμn
  obtain ⟨hk6, hv9, hs20⟩ := hb.2.2.2.2.2.2.2.2.1 μ hμ
  have ht9 := hb.2.2.1 μ hμ
  have hall : cAll nw b a μ T I R σ fl ti sh K := cAll.of (q := q) hN hA hm hb65 hfa hst hsi hsR hG hb hμ hμn (by omega) (by omega)
  have hgp : 0 < Nat.gcd 10 (10 - p9) := Nat.gcd_pos_of_pos_left _ (by decide)
  have hgq : Nat.gcd 10 (10 - p9) ≤ 10 := Nat.le_of_dvd (by decide) (Nat.gcd_dvd_left _ _)
  refine lv_aload_n X.1 X.2.1 dX11_odds_0 rfl (lv_at hl 0 rfl) ?_
  refine g_getr 13 0 X hK hP hTq rfl hinRX11 rfl (by decide) k17 (fun _ h => h) dX11_odds_1 (show va_rf (R q 0) = .ref nw from by rw [hR0]; rfl) ?_
  refine lv_iload_n X.1 X.2.1 dX11_odds_4 rfl (lv_at hl 1 rfl) ?_
  refine g_run_q (f := fun u => u) (g_runV (k := 12) [.int (nI μ)] X hK hP hS hC hB (d_find (σ := σ) hN (hA.2.2.1) h38 hμn hbm) (cwV 1 X.2.2.2.2 gX11_odds_X10_find rfl rfl rfl (by decide +kernel) ⟨Nat.le_of_ble_eq_true rfl, Nat.le_of_ble_eq_true rfl⟩) hN.t0 rfl rfl hl.1 rfl (Nat.le_of_ble_eq_true rfl) dX11_odds_5 (by exact ⟨Nat.zero_le _, Nat.zero_le _⟩)) hS (fun r u H locs hq hP hS => ?_)
  obtain ⟨rfl, rfl⟩ := hq
  have hP : gP D cy B z T I R H := hP
  refine lv_astore (lv' := [(5, .ref b), (0, .ref q), (1, .int (nI μ)), (2, .int (nI ld)), (3, .int (nI p9)), (4, .int (nI part))]) X.1 X.2.1 dX11_odds_8 hl (by decide) rfl (fun ls hl => ?_)
  refine lv_aload X.1 X.2.1 dX11_odds_10 (lv_at hl 0 rfl) ?_
  refine lv_ifnull X.1 X.2.1 dX11_odds_12 ?_
  refine lv_iload_n X.1 X.2.1 dX11_odds_15 rfl (lv_at hl 3 rfl) ?_
  refine g_run_i (f := fun u => u) (g_runS [.int (nI ld)] X hK hP hS hC hB (d_badLoad) (va_cwS 1 X.2.2.2.2 gX11_odds_X11_badLoad rfl rfl rfl (by decide +kernel) ⟨Nat.le_of_ble_eq_true rfl, Nat.le_of_ble_eq_true rfl⟩) rfl hl.1 rfl (Nat.le_of_ble_eq_true rfl) dX11_odds_16 (by exact ⟨Nat.zero_le _, Nat.zero_le _⟩)) hS (fun r u H locs hq hP hS => ?_)
  obtain ⟨rfl, rfl⟩ := hq
  have hP : gP D cy B z T I R H := hP
  refine lv_if_ne (tgt := 42) X.1 X.2.1 dX11_odds_19 (by decide) (fun c19 => ?_) (fun c19 => ?_)
  · exact absurd (g_le (a := 1) (b := 20) (x := 1) (y := 20) rfl rfl (by omega) (by omega) (by omega)) (gt_1 c19)
  · refine lv_iload_n X.1 X.2.1 dX11_odds_22 rfl (lv_at hl 4 rfl) ?_
    refine lv_iconst (v := 0) X.1 X.2.1 dX11_odds_23 (by decide) ?_
    refine lv_bipush (v := 10) X.1 X.2.1 dX11_odds_24 (by decide) ?_
    refine g_run_i (f := fun u => u) (g_runS [.int (nI p9), .int 0, .int 10] X hK hP hS hC hB (d_outside) (va_cwS 3 X.2.2.2.2 gX11_odds_X11_outside rfl rfl rfl (by decide +kernel) ⟨Nat.le_of_ble_eq_true rfl, Nat.le_of_ble_eq_true rfl⟩) rfl hl.1 rfl (Nat.le_of_ble_eq_true rfl) dX11_odds_26 (by exact ⟨Nat.zero_le _, Nat.zero_le _⟩)) hS (fun r u H locs hq hP hS => ?_)
    obtain ⟨rfl, rfl⟩ := hq
    have hP : gP D cy B z T I R H := hP
    refine lv_if_ne (tgt := 42) X.1 X.2.1 dX11_odds_29 (by decide) (fun c29 => ?_) (fun c29 => ?_)
    · exact absurd (g_le (a := 0) (b := 10) (x := 0) (y := 10) rfl rfl (by omega) (by omega) (by omega)) (gt_1 c29)
    · refine lv_iload X.1 X.2.1 dX11_odds_32 (lv_at hl 5 rfl) ?_
      refine lv_iconst (v := 0) X.1 X.2.1 dX11_odds_34 (by decide) ?_
      refine lv_iconst (v := 1) X.1 X.2.1 dX11_odds_35 (by decide) ?_
      refine g_run_i (f := fun u => u) (g_runS [.int (nI part), .int 0, .int 1] X hK hP hS hC hB (d_outside) (va_cwS 3 X.2.2.2.2 gX11_odds_X11_outside rfl rfl rfl (by decide +kernel) ⟨Nat.le_of_ble_eq_true rfl, Nat.le_of_ble_eq_true rfl⟩) rfl hl.1 rfl (Nat.le_of_ble_eq_true rfl) dX11_odds_36 (by exact ⟨Nat.zero_le _, Nat.zero_le _⟩)) hS (fun r u H locs hq hP hS => ?_)
      obtain ⟨rfl, rfl⟩ := hq
      have hP : gP D cy B z T I R H := hP
      refine lv_if_eq (tgt := 46) X.1 X.2.1 dX11_odds_39 (by decide) (fun c39 => ?_) (fun c39 => ?_)
      · refine lv_bipush (v := 10) X.1 X.2.1 dX11_odds_46 (by decide) ?_
        refine lv_bipush (v := 10) X.1 X.2.1 dX11_odds_48 (by decide) ?_
        refine lv_iload_n X.1 X.2.1 dX11_odds_50 rfl (lv_at hl 4 rfl) ?_
        refine lv_isub X.1 X.2.1 dX11_odds_51 ?_
        refine lv_cv (gn_sub (show (10 : Int32) = nI 10 from rfl) (Eq.refl (nI p9)) (by omega)) ?_
        refine g_run_i (f := fun u => u) (g_runS [.int 10, .int (nI (10 - p9))] X hK hP hS hC hB (d_cd (b := (10 - p9)) (by omega)) (va_cwS 2 X.2.2.2.2 gX11_odds_X11_commonDivisor rfl rfl rfl (by decide +kernel) ⟨Nat.le_of_ble_eq_true rfl, Nat.le_of_ble_eq_true rfl⟩) rfl hl.1 rfl (Nat.le_of_ble_eq_true rfl) dX11_odds_52 (by exact ⟨Nat.zero_le _, Nat.zero_le _⟩)) hS (fun r u H locs hq hP hS => ?_)
        obtain ⟨rfl, rfl⟩ := hq
        have hP : gP D cy B z T I R H := hP
        refine lv_istore (lv' := [(6, .int (nI (Nat.gcd 10 (10 - p9)))), (5, .ref b), (0, .ref q), (1, .int (nI μ)), (2, .int (nI ld)), (3, .int (nI p9)), (4, .int (nI part))]) X.1 X.2.1 dX11_odds_55 hl (by decide) rfl (fun ls hl => ?_)
        refine lv_iload X.1 X.2.1 dX11_odds_57 (lv_at hl 6 rfl) ?_
        refine lv_if_ne (tgt := 69) X.1 X.2.1 dX11_odds_59 (by decide) (fun c59 => ?_) (fun c59 => ?_)
        · have n59 : ¬ part = 0 := gq_ne c59 (Eq.refl (nI part)) (show (0 : Int32) = nI 0 from rfl) (by omega) (by omega)
          refine lv_bipush (v := 10) X.1 X.2.1 dX11_odds_69 (by decide) ?_
          refine lv_iload X.1 X.2.1 dX11_odds_71 (lv_at hl 0 rfl) ?_
          refine lv_idiv X.1 X.2.1 dX11_odds_73 (gi_ne0 (Eq.refl (nI (Nat.gcd 10 (10 - p9)))) (by omega) (by omega)) ?_
          refine lv_cv (((gn_div (show (10 : Int32) = nI 10 from rfl) (Eq.refl (nI (Nat.gcd 10 (10 - p9)))) (by omega) (by omega) (by omega))).trans (congrArg nI (show _ = ((if part = 0 then 10 - p9 else 10) / Nat.gcd 10 (10 - p9)) by rw [if_neg n59]))) ?_
          refine lv_istore (lv' := [(7, .int (nI ((if part = 0 then 10 - p9 else 10) / Nat.gcd 10 (10 - p9)))), (6, .int (nI (Nat.gcd 10 (10 - p9)))), (5, .ref b), (0, .ref q), (1, .int (nI μ)), (2, .int (nI ld)), (3, .int (nI p9)), (4, .int (nI part))]) X.1 X.2.1 dX11_odds_74 hl (by decide) rfl (fun ls hl => ?_)
          refine lv_aload_n X.1 X.2.1 dX11_odds_76 rfl (lv_at hl 3 rfl) ?_
          refine g_getr 13 0 X hK hP hTq rfl hinRX11 rfl (by decide) k17 (fun _ h => h) dX11_odds_77 (show va_rf (R q 0) = .ref nw from by rw [hR0]; rfl) ?_
          refine lv_aload X.1 X.2.1 dX11_odds_80 (lv_at hl 2 rfl) ?_
          refine lv_iload_n X.1 X.2.1 dX11_odds_82 rfl (lv_at hl 5 rfl) ?_
          refine g_run_i (f := fun u => u) (g_runV (k := 12) [.ref b, .int (nI ld)] X hK hP hS hC hB (d_risky hall hld) (cwV 2 X.2.2.2.2 gX11_odds_X10_risky rfl rfl rfl (by decide +kernel) ⟨Nat.le_of_ble_eq_true rfl, Nat.le_of_ble_eq_true rfl⟩) hN.t0 rfl rfl hl.1 rfl (Nat.le_of_ble_eq_true rfl) dX11_odds_83 (by exact ⟨Nat.zero_le _, Nat.zero_le _⟩)) hS (fun r u H locs hq hP hS => ?_)
          obtain ⟨rfl, IK, rfl, hfk⟩ := hq
          have hP : gP D cy B z T IK R H := hP
          refine lv_istore (lv' := [(8, .int (nI (sRk fl σ μ (sCm σ μ ld) 10))), (7, .int (nI ((if part = 0 then 10 - p9 else 10) / Nat.gcd 10 (10 - p9)))), (6, .int (nI (Nat.gcd 10 (10 - p9)))), (5, .ref b), (0, .ref q), (1, .int (nI μ)), (2, .int (nI ld)), (3, .int (nI p9)), (4, .int (nI part))]) X.1 X.2.1 dX11_odds_86 hl (by decide) rfl (fun ls hl => ?_)
          refine lv_lconst (v := 1) X.1 X.2.1 dX11_odds_88 rfl ?_
          refine lv_lstore (lv' := [(9, .long 1), (8, .int (nI (sRk fl σ μ (sCm σ μ ld) 10))), (7, .int (nI ((if part = 0 then 10 - p9 else 10) / Nat.gcd 10 (10 - p9)))), (6, .int (nI (Nat.gcd 10 (10 - p9)))), (5, .ref b), (0, .ref q), (1, .int (nI μ)), (2, .int (nI ld)), (3, .int (nI p9)), (4, .int (nI part))]) X.1 X.2.1 dX11_odds_89 hl (by decide) rfl (fun ls hl => ?_)
          refine lv_iconst (v := 0) X.1 X.2.1 dX11_odds_91 (by decide) ?_
          refine lv_istore (lv' := [(11, .int 0), (9, .long 1), (8, .int (nI (sRk fl σ μ (sCm σ μ ld) 10))), (7, .int (nI ((if part = 0 then 10 - p9 else 10) / Nat.gcd 10 (10 - p9)))), (6, .int (nI (Nat.gcd 10 (10 - p9)))), (5, .ref b), (0, .ref q), (1, .int (nI μ)), (2, .int (nI ld)), (3, .int (nI p9)), (4, .int (nI part))]) X.1 X.2.1 dX11_odds_92 hl (by decide) rfl (fun ls hl => ?_)
          have hyl := sRk_le fl σ μ (sCm σ μ ld) 10
          have hbl := od_le part (by omega) p9 (by omega)
          refine i_loop (I := IK) (sRk fl σ μ (sCm σ μ ld) 10) 94 [] (fun k Q9 ls => IK = Q9 ∧ lv_has ls 12 [(0, .ref q), (7, .int (nI ((if part = 0 then 10 - p9 else 10) / Nat.gcd 10 (10 - p9)))), (8, .int (nI (sRk fl σ μ (sCm σ μ ld) 10))), (9, .long (lN (((if part = 0 then 10 - p9 else 10) / Nat.gcd 10 (10 - p9)) ^ k))), (11, .int (nI k))]) 0 (by omega) ⟨rfl, lv_sub hl [6, 3, 2, 1, 0] rfl⟩ hP hS (fun k Q9 H locs ls hk hiv hP hS ih => ?_)
          obtain ⟨rfl, hl⟩ := hiv
          refine lv_iload X.1 X.2.1 dX11_odds_94 (lv_at hl 4 rfl) ?_
          refine lv_iload X.1 X.2.1 dX11_odds_96 (lv_at hl 2 rfl) ?_
          refine lv_icmp_ge (tgt := 115) X.1 X.2.1 dX11_odds_98 (by decide) (fun c98 => ?_) (fun c98 => ?_)
          · have n98 : (sRk fl σ μ (sCm σ μ ld) 10) ≤ k := gq_le c98 (Eq.refl (nI (sRk fl σ μ (sCm σ μ ld) 10))) (Eq.refl (nI k)) (by omega) (by omega)
            refine lv_lload X.1 X.2.1 dX11_odds_115 (lv_at hl 3 rfl) ?_
            have hk9 : k = (sRk fl σ μ (sCm σ μ ld) 10) := by omega
            exact g_lret (f := fun u => u) (z, T, IK, R) X hr hlk hK hP hS dX11_odds_117 ⟨(by rw [hk9, od_v part (by omega) p9 (by omega) _ (by omega)]), IK, rfl, hfk⟩
          · have n98 : k < (sRk fl σ μ (sCm σ μ ld) 10) := gq_nle c98 (Eq.refl (nI (sRk fl σ μ (sCm σ μ ld) 10))) (Eq.refl (nI k)) (by omega) (by omega)
            refine lv_lload X.1 X.2.1 dX11_odds_101 (lv_at hl 3 rfl) ?_
            refine lv_iload X.1 X.2.1 dX11_odds_103 (lv_at hl 1 rfl) ?_
            refine lv_i2l (v := lN ((if part = 0 then 10 - p9 else 10) / Nat.gcd 10 (10 - p9))) X.1 X.2.1 dX11_odds_105 (gl_i2l (Eq.refl (nI ((if part = 0 then 10 - p9 else 10) / Nat.gcd 10 (10 - p9)))) (by omega)) ?_
            refine lv_lmul X.1 X.2.1 dX11_odds_106 ?_
            refine lv_cvl (((gl_mul (Eq.refl (lN (((if part = 0 then 10 - p9 else 10) / Nat.gcd 10 (10 - p9)) ^ k))) (Eq.refl (lN ((if part = 0 then 10 - p9 else 10) / Nat.gcd 10 (10 - p9)))))).trans (congrArg lN (show _ = ((if part = 0 then 10 - p9 else 10) / Nat.gcd 10 (10 - p9)) ^ (k + 1) from (Nat.pow_succ ..).symm))) ?_
            refine lv_lstore (lv' := [(9, .long (lN (((if part = 0 then 10 - p9 else 10) / Nat.gcd 10 (10 - p9)) ^ (k + 1)))), (0, .ref q), (7, .int (nI ((if part = 0 then 10 - p9 else 10) / Nat.gcd 10 (10 - p9)))), (8, .int (nI (sRk fl σ μ (sCm σ μ ld) 10))), (11, .int (nI k))]) X.1 X.2.1 dX11_odds_107 hl (by decide) rfl (fun ls hl => ?_)
            refine lv_iinc (v := nI (k + 1)) (lv' := [(11, .int (nI (k + 1))), (9, .long (lN (((if part = 0 then 10 - p9 else 10) / Nat.gcd 10 (10 - p9)) ^ (k + 1)))), (0, .ref q), (7, .int (nI ((if part = 0 then 10 - p9 else 10) / Nat.gcd 10 (10 - p9)))), (8, .int (nI (sRk fl σ μ (sCm σ μ ld) 10)))]) X.1 X.2.1 dX11_odds_109 hl (k := 4) rfl (gn_inc (Eq.refl (nI k)) 1) (by decide) rfl (fun ls hl => ?_)
            refine lv_goto (tgt := 94) X.1 X.2.1 dX11_odds_112 (by decide) ?_
            exact ih _ _ _ _ (by omega) ⟨rfl, lv_sub hl [2, 3, 4, 1, 0] rfl⟩ hP hS
        · have n59 : part = 0 := gq_eq c59 (Eq.refl (nI part)) (show (0 : Int32) = nI 0 from rfl) (by omega) (by omega)
          refine lv_bipush (v := 10) X.1 X.2.1 dX11_odds_62 (by decide) ?_
          refine lv_iload_n X.1 X.2.1 dX11_odds_64 rfl (lv_at hl 5 rfl) ?_
          refine lv_isub X.1 X.2.1 dX11_odds_65 ?_
          refine lv_goto (tgt := 71) X.1 X.2.1 dX11_odds_66 (by decide) ?_
          refine lv_iload X.1 X.2.1 dX11_odds_71 (lv_at hl 0 rfl) ?_
          refine lv_idiv X.1 X.2.1 dX11_odds_73 (gi_ne0 (Eq.refl (nI (Nat.gcd 10 (10 - p9)))) (by omega) (by omega)) ?_
          refine lv_cv (((gn_div (gn_sub (show (10 : Int32) = nI 10 from rfl) (Eq.refl (nI p9)) (by omega)) (Eq.refl (nI (Nat.gcd 10 (10 - p9)))) (by omega) (by omega) (by omega))).trans (congrArg nI (show _ = ((if part = 0 then 10 - p9 else 10) / Nat.gcd 10 (10 - p9)) by rw [if_pos n59]))) ?_
          refine lv_istore (lv' := [(7, .int (nI ((if part = 0 then 10 - p9 else 10) / Nat.gcd 10 (10 - p9)))), (6, .int (nI (Nat.gcd 10 (10 - p9)))), (5, .ref b), (0, .ref q), (1, .int (nI μ)), (2, .int (nI ld)), (3, .int (nI p9)), (4, .int (nI part))]) X.1 X.2.1 dX11_odds_74 hl (by decide) rfl (fun ls hl => ?_)
          refine lv_aload_n X.1 X.2.1 dX11_odds_76 rfl (lv_at hl 3 rfl) ?_
          refine g_getr 13 0 X hK hP hTq rfl hinRX11 rfl (by decide) k17 (fun _ h => h) dX11_odds_77 (show va_rf (R q 0) = .ref nw from by rw [hR0]; rfl) ?_
          refine lv_aload X.1 X.2.1 dX11_odds_80 (lv_at hl 2 rfl) ?_
          refine lv_iload_n X.1 X.2.1 dX11_odds_82 rfl (lv_at hl 5 rfl) ?_
          refine g_run_i (f := fun u => u) (g_runV (k := 12) [.ref b, .int (nI ld)] X hK hP hS hC hB (d_risky hall hld) (cwV 2 X.2.2.2.2 gX11_odds_X10_risky rfl rfl rfl (by decide +kernel) ⟨Nat.le_of_ble_eq_true rfl, Nat.le_of_ble_eq_true rfl⟩) hN.t0 rfl rfl hl.1 rfl (Nat.le_of_ble_eq_true rfl) dX11_odds_83 (by exact ⟨Nat.zero_le _, Nat.zero_le _⟩)) hS (fun r u H locs hq hP hS => ?_)
          obtain ⟨rfl, IK, rfl, hfk⟩ := hq
          have hP : gP D cy B z T IK R H := hP
          refine lv_istore (lv' := [(8, .int (nI (sRk fl σ μ (sCm σ μ ld) 10))), (7, .int (nI ((if part = 0 then 10 - p9 else 10) / Nat.gcd 10 (10 - p9)))), (6, .int (nI (Nat.gcd 10 (10 - p9)))), (5, .ref b), (0, .ref q), (1, .int (nI μ)), (2, .int (nI ld)), (3, .int (nI p9)), (4, .int (nI part))]) X.1 X.2.1 dX11_odds_86 hl (by decide) rfl (fun ls hl => ?_)
          refine lv_lconst (v := 1) X.1 X.2.1 dX11_odds_88 rfl ?_
          refine lv_lstore (lv' := [(9, .long 1), (8, .int (nI (sRk fl σ μ (sCm σ μ ld) 10))), (7, .int (nI ((if part = 0 then 10 - p9 else 10) / Nat.gcd 10 (10 - p9)))), (6, .int (nI (Nat.gcd 10 (10 - p9)))), (5, .ref b), (0, .ref q), (1, .int (nI μ)), (2, .int (nI ld)), (3, .int (nI p9)), (4, .int (nI part))]) X.1 X.2.1 dX11_odds_89 hl (by decide) rfl (fun ls hl => ?_)
          refine lv_iconst (v := 0) X.1 X.2.1 dX11_odds_91 (by decide) ?_
          refine lv_istore (lv' := [(11, .int 0), (9, .long 1), (8, .int (nI (sRk fl σ μ (sCm σ μ ld) 10))), (7, .int (nI ((if part = 0 then 10 - p9 else 10) / Nat.gcd 10 (10 - p9)))), (6, .int (nI (Nat.gcd 10 (10 - p9)))), (5, .ref b), (0, .ref q), (1, .int (nI μ)), (2, .int (nI ld)), (3, .int (nI p9)), (4, .int (nI part))]) X.1 X.2.1 dX11_odds_92 hl (by decide) rfl (fun ls hl => ?_)
          have hyl := sRk_le fl σ μ (sCm σ μ ld) 10
          have hbl := od_le part (by omega) p9 (by omega)
          refine i_loop (I := IK) (sRk fl σ μ (sCm σ μ ld) 10) 94 [] (fun k Q9 ls => IK = Q9 ∧ lv_has ls 12 [(0, .ref q), (7, .int (nI ((if part = 0 then 10 - p9 else 10) / Nat.gcd 10 (10 - p9)))), (8, .int (nI (sRk fl σ μ (sCm σ μ ld) 10))), (9, .long (lN (((if part = 0 then 10 - p9 else 10) / Nat.gcd 10 (10 - p9)) ^ k))), (11, .int (nI k))]) 0 (by omega) ⟨rfl, lv_sub hl [6, 3, 2, 1, 0] rfl⟩ hP hS (fun k Q9 H locs ls hk hiv hP hS ih => ?_)
          obtain ⟨rfl, hl⟩ := hiv
          refine lv_iload X.1 X.2.1 dX11_odds_94 (lv_at hl 4 rfl) ?_
          refine lv_iload X.1 X.2.1 dX11_odds_96 (lv_at hl 2 rfl) ?_
          refine lv_icmp_ge (tgt := 115) X.1 X.2.1 dX11_odds_98 (by decide) (fun c98 => ?_) (fun c98 => ?_)
          · have n98 : (sRk fl σ μ (sCm σ μ ld) 10) ≤ k := gq_le c98 (Eq.refl (nI (sRk fl σ μ (sCm σ μ ld) 10))) (Eq.refl (nI k)) (by omega) (by omega)
            refine lv_lload X.1 X.2.1 dX11_odds_115 (lv_at hl 3 rfl) ?_
            have hk9 : k = (sRk fl σ μ (sCm σ μ ld) 10) := by omega
            exact g_lret (f := fun u => u) (z, T, IK, R) X hr hlk hK hP hS dX11_odds_117 ⟨(by rw [hk9, od_v part (by omega) p9 (by omega) _ (by omega)]), IK, rfl, hfk⟩
          · have n98 : k < (sRk fl σ μ (sCm σ μ ld) 10) := gq_nle c98 (Eq.refl (nI (sRk fl σ μ (sCm σ μ ld) 10))) (Eq.refl (nI k)) (by omega) (by omega)
            refine lv_lload X.1 X.2.1 dX11_odds_101 (lv_at hl 3 rfl) ?_
            refine lv_iload X.1 X.2.1 dX11_odds_103 (lv_at hl 1 rfl) ?_
            refine lv_i2l (v := lN ((if part = 0 then 10 - p9 else 10) / Nat.gcd 10 (10 - p9))) X.1 X.2.1 dX11_odds_105 (gl_i2l (Eq.refl (nI ((if part = 0 then 10 - p9 else 10) / Nat.gcd 10 (10 - p9)))) (by omega)) ?_
            refine lv_lmul X.1 X.2.1 dX11_odds_106 ?_
            refine lv_cvl (((gl_mul (Eq.refl (lN (((if part = 0 then 10 - p9 else 10) / Nat.gcd 10 (10 - p9)) ^ k))) (Eq.refl (lN ((if part = 0 then 10 - p9 else 10) / Nat.gcd 10 (10 - p9)))))).trans (congrArg lN (show _ = ((if part = 0 then 10 - p9 else 10) / Nat.gcd 10 (10 - p9)) ^ (k + 1) from (Nat.pow_succ ..).symm))) ?_
            refine lv_lstore (lv' := [(9, .long (lN (((if part = 0 then 10 - p9 else 10) / Nat.gcd 10 (10 - p9)) ^ (k + 1)))), (0, .ref q), (7, .int (nI ((if part = 0 then 10 - p9 else 10) / Nat.gcd 10 (10 - p9)))), (8, .int (nI (sRk fl σ μ (sCm σ μ ld) 10))), (11, .int (nI k))]) X.1 X.2.1 dX11_odds_107 hl (by decide) rfl (fun ls hl => ?_)
            refine lv_iinc (v := nI (k + 1)) (lv' := [(11, .int (nI (k + 1))), (9, .long (lN (((if part = 0 then 10 - p9 else 10) / Nat.gcd 10 (10 - p9)) ^ (k + 1)))), (0, .ref q), (7, .int (nI ((if part = 0 then 10 - p9 else 10) / Nat.gcd 10 (10 - p9)))), (8, .int (nI (sRk fl σ μ (sCm σ μ ld) 10)))]) X.1 X.2.1 dX11_odds_109 hl (k := 4) rfl (gn_inc (Eq.refl (nI k)) 1) (by decide) rfl (fun ls hl => ?_)
            refine lv_goto (tgt := 94) X.1 X.2.1 dX11_odds_112 (by decide) ?_
            exact ih _ _ _ _ (by omega) ⟨rfl, lv_sub hl [2, 3, 4, 1, 0] rfl⟩ hP hS
      · exact absurd (g_le (a := 0) (b := 1) (x := 0) (y := 1) rfl rfl (by omega) (by omega) (by omega)) (gt_1 c39)

end PR