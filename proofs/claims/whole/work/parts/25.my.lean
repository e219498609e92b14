section MY9
variable {l : Launch} {s0 : State} {D : va_G} {cy : Nat → ClassId} {B o z : Nat} {T : Nat → Nat × Nat} {R : Nat → Nat → Option Nat} {I0 : Nat → Nat → Int32} {M : Nat → Nat → Int32} {σ : Nat → Nat} {fl : List Nat} {ti sh K τ ms : Nat} {tr : List Nat} {kd nu vv : Nat}
def aL (kd nu : Nat) (x : Int32) : Int32 × List Nat := if kd = 1 ∨ kd = 4 then (x * 3 + nI nu, [11, 1]) else if kd = 5 then ((x + nI nu) ^^^ nI nu, [51, 1]) else (x + nI nu, [1])
def aPG (kd nu vv : Nat) (x : Int32) : Int32 × List Nat := ((aL kd nu x).1 - nI vv, 2 :: (aL kd nu x).2)
def aG (kd nu vv : Nat) (x : Int32) : Int32 × List Nat := if kd = 2 ∨ kd = 5 then (-(aPG kd nu vv x).1, 21 :: (aPG kd nu vv x).2) else if kd = 6 then ((aPG kd nu vv x).1 + nI vv, 61 :: (aPG kd nu vv x).2) else aPG kd nu vv x
def aPT (kd nu vv : Nat) (x : Int32) : Int32 × List Nat := ((aG kd nu vv x).1 * 2, 3 :: (aG kd nu vv x).2)
def aT (kd nu vv : Nat) (x : Int32) : Int32 × List Nat := if kd = 3 ∨ kd = 6 then ((aPT kd nu vv x).1 ^^^ 7, 31 :: (aPT kd nu vv x).2) else if kd = 4 then ((aPT kd nu vv (x - 1)).1 + (aL kd nu 2).1, 41 :: ((aPT kd nu vv (x - 1)).2 ++ (aL kd nu 2).2)) else aPT kd nu vv x
theorem aL_n (kd nu : Nat) (x : Int32) : (aL kd nu x).2.length ≤ 2 := by
  unfold aL
  split
  · simp
  · split <;> simp
theorem aPG_n (kd nu vv : Nat) (x : Int32) : (aPG kd nu vv x).2.length ≤ 3 := Nat.succ_le_succ (aL_n kd nu x)
theorem aG_n (kd nu vv : Nat) (x : Int32) : (aG kd nu vv x).2.length ≤ 4 := by
  have h := aPG_n kd nu vv x
  unfold aG
  split
  · exact Nat.succ_le_succ h
  · split
    · exact Nat.succ_le_succ h
    · omega
theorem aPT_n (kd nu vv : Nat) (x : Int32) : (aPT kd nu vv x).2.length ≤ 5 := Nat.succ_le_succ (aG_n kd nu vv x)
theorem aT_n (kd nu vv : Nat) (x : Int32) : (aT kd nu vv x).2.length ≤ 8 := by
  have h := aPT_n kd nu vv x
  have h2 := aPT_n kd nu vv (x - 1)
  have h3 := aL_n kd nu 2
  unfold aT
  split
  · simp only [List.length_cons]; omega
  · split
    · simp only [List.length_cons, List.length_append]; omega
    · omega
def mTr (M : Nat → Nat → Int32) (tr : List Nat) : Prop := M 0 26 = nI tr.length ∧ ∀ k, k < tr.length → M 11 k = nI (tr.getD k 0)
def tS (b i : Nat) : Prop := b = 11 ∨ (b = 0 ∧ i = 26)
theorem mTr_push {M1 M2 : Nat → Nat → Int32} {b : Nat} {x y : Int32} (h : mTr M tr) (e1 : g2 M 11 tr.length x = M1) (e2 : g2 M1 0 26 y = M2) (hx : x = nI b) (hy : y = nI (tr.length + 1)) : mTr M2 (tr ++ [b]) := by
  refine ⟨by rw [gs_same e2, hy, List.length_append]; rfl, fun k hk => ?_⟩
  rw [List.length_append] at hk
  by_cases e : k = tr.length
  · subst e
    rw [gs_ne e2 (by omega) (gs_same e1), hx]
    congr 1
    simp
  · have hk2 : k < tr.length := by simp at hk; omega
    rw [gs_ne e2 (by omega) (gs_ne e1 (by omega) (h.2 k hk2))]
    congr 1
    simp [List.getD_eq_getElem?_getD, List.getElem?_append_left hk2]

set_option maxHeartbeats 4000000 in
set_option maxRecDepth 100000 in
/-- ranBody -/
theorem c_ranBody (hM : gMod o T R) (htr : mTr M tr) (h20 : tr.length < 20) (b : Nat) : Met l yX12_ranBody wsX12_ranBody ({ frames := 0, cells := 0, slots := 0, locals := 0 }) (mPre s0 D cy B o z T R I0 M [.int (nI b)]) (mQv D cy B o z T R I0 (fun u => mTr u (tr ++ [b]) ∧ mSame tS M u)) 0 0 (gA B) := by
  refine g_met (maxL := 2) (ret := none) (by decide) rfl (Nat.le_of_ble_eq_true rfl) (fun p e s m args below meth c ls X hr hlk hnm hK hP hC hS hl => ?_)
  have hl : lv_has ls 2 [(0, .ref o), (1, .int (nI b))] := hl
  have hP : gP D cy B z T (gI o 12 M I0) R s.heap := hP
  have hB : B ≤ s.heap.size := by rw [hP.1]; exact hP.2.1
  have hin : ∀ w ∈ wsX120, w ∈ wsX12_ranBody := fun _ h => List.mem_cons_of_mem _ (List.mem_append_right _ h)
  have k47 : Cond.fieldLink RX12 47 "BarrowPlankModel" "bodies" "[I" ∈ wsX12_ranBody := by decide +kernel
  have k249 : Cond.fieldLink RX12 249 "BarrowPlankModel" "ran" "I" ∈ wsX12_ranBody := by decide +kernel
  refine lv_aload_n X.1 X.2.1 dX12_ranBody_0 rfl (lv_at hl 0 rfl) ?_
  refine m_geti 26 X hK hP hM hin rfl (by decide) k249 rfl dX12_ranBody_1 (show M 0 26 = nI tr.length from htr.1) ?_
  refine lv_bipush (v := 20) X.1 X.2.1 dX12_ranBody_4 (by decide) ?_
  refine lv_icmp_ge (tgt := 19) X.1 X.2.1 dX12_ranBody_6 (by decide) (fun c6 => ?_) (fun c6 => ?_)
  · exact absurd (gq_le c6 (show (20 : Int32) = nI 20 from rfl) (Eq.refl (nI tr.length)) (by omega) (by omega)) (by omega)
  · have n6 : tr.length < 20 := gq_nle c6 (show (20 : Int32) = nI 20 from rfl) (Eq.refl (nI tr.length)) (by omega) (by omega)
    refine lv_aload_n X.1 X.2.1 dX12_ranBody_9 rfl (lv_at hl 0 rfl) ?_
    refine m_getr 25 11 X hK hP hM hin rfl (by decide) k47 rfl dX12_ranBody_10 (by decide) ?_
    refine lv_aload_n X.1 X.2.1 dX12_ranBody_13 rfl (lv_at hl 0 rfl) ?_
    refine m_geti 26 X hK hP hM hin rfl (by decide) k249 rfl dX12_ranBody_14 (show M 0 26 = nI tr.length from htr.1) ?_
    refine lv_iload_n X.1 X.2.1 dX12_ranBody_17 rfl (lv_at hl 1 rfl) ?_
    refine m_ast 11 (tr.length) 20 X hK hP hS hM rfl (gIx_of (gn_eq (Eq.refl (nI tr.length)) (by omega)) (by omega) (by omega)) dX12_ranBody_18 (fun H locs hP hS => ?_)
    generalize eM1 : g2 M 11 (tr.length) (nI b) = M1 at hP
    refine lv_aload_n X.1 X.2.1 dX12_ranBody_19 rfl (lv_at hl 0 rfl) ?_
    refine lv_dup X.1 X.2.1 dX12_ranBody_20 rfl ?_
    refine m_geti 26 X hK hP hM hin rfl (by decide) k249 rfl dX12_ranBody_21 (show M1 0 26 = nI tr.length from (gs_ne eM1 (by omega) htr.1)) ?_
    refine lv_iconst (v := 1) X.1 X.2.1 dX12_ranBody_24 (by decide) ?_
    refine lv_iadd X.1 X.2.1 dX12_ranBody_25 ?_
    refine m_puti 26 X hK hP hS hM hin rfl (by decide) k249 rfl rfl rfl rfl dX12_ranBody_26 (fun H locs hP hS => ?_)
    generalize eM2 : g2 M1 0 26 ((nI tr.length) + 1) = M2 at hP
    exact g_vret M2 X hr hlk hK hP hS dX12_ranBody_29 ⟨mTr_push htr eM1 eM2 rfl (gn_add (Eq.refl (nI tr.length)) (show (1 : Int32) = nI 1 from rfl)), fun b i h => by unfold tS at h; exact gs_ne eM2 (by omega) (gs_ne eM1 (by omega) rfl)⟩

def aPL (nu : Nat) (x : Int32) : Int32 × List Nat := (x + nI nu, [1])
set_option maxHeartbeats 4000000 in
set_option maxRecDepth 100000 in
/-- plainLifts -/
theorem c_plainLifts (hM : gMod o T R) (h27 : M 0 27 = nI kd) (h28 : M 0 28 = nI nu) (h29 : M 0 29 = nI vv) (hkd : kd ≤ 6) (htr : mTr M tr) (h20 : tr.length + 1 ≤ 20) (x : Int32) : Met l yX12_plainLifts wsX12_plainLifts ({ frames := 1, cells := 0, slots := 0, locals := 21 }) (mPre s0 D cy B o z T R I0 M [.int x]) (mQi D cy B o z T R I0 (fun r u => r = (aPL nu x).1 ∧ mTr u (tr ++ (aPL nu x).2) ∧ mSame tS M u)) 0 0 (gA B) := by
  refine g_met (maxL := 2) (ret := (some .int)) (by decide) rfl (Nat.le_of_ble_eq_true rfl) (fun p e s m args below meth c ls X hr hlk hnm hK hP hC hS hl => ?_)
  have hl : lv_has ls 2 [(0, .ref o), (1, .int x)] := hl
  have hP : gP D cy B z T (gI o 12 M I0) R s.heap := hP
  have hB : B ≤ s.heap.size := by rw [hP.1]; exact hP.2.1
  have hin : ∀ w ∈ wsX120, w ∈ wsX12_plainLifts := fun _ h => List.mem_cons_of_mem _ (List.mem_append_right _ h)
  have k255 : Cond.fieldLink RX12 255 "BarrowPlankModel" "number" "I" ∈ wsX12_plainLifts := by decide +kernel
  refine lv_aload_n X.1 X.2.1 dX12_plainLifts_0 rfl (lv_at hl 0 rfl) ?_
  refine lv_iconst (v := 1) X.1 X.2.1 dX12_plainLifts_1 (by decide) ?_
  refine g_run_v (g_runV (k := 14) [.int 1] X hK hP hS hC hB (c_ranBody hM htr (by (try simp only [List.length_append, List.length_cons, List.length_nil]); omega) 1) (cwV 1 X.2.2.2.2 gX12_plainLifts_X12_ranBody rfl rfl rfl (by decide +kernel) ⟨Nat.le_of_ble_eq_true rfl, Nat.le_of_ble_eq_true rfl⟩) (hM.1 0 _ rfl) rfl rfl hl.1 rfl (Nat.le_of_ble_eq_true rfl) dX12_plainLifts_2 (by exact ⟨Nat.zero_le _, Nat.zero_le _⟩)) hS (fun u H locs hq hP hS => ?_)
  obtain ⟨htN1, hkN1⟩ := hq
  generalize u = N1 at hP htN1 hkN1
  have hP : gP D cy B z T (gI o 12 N1 I0) R H := hP
  have haN1 : N1 0 27 = nI kd := (hkN1 0 27 (by unfold tS; omega)).trans h27
  have hbN1 : N1 0 28 = nI nu := (hkN1 0 28 (by unfold tS; omega)).trans h28
  have hcN1 : N1 0 29 = nI vv := (hkN1 0 29 (by unfold tS; omega)).trans h29
  refine lv_iload_n X.1 X.2.1 dX12_plainLifts_5 rfl (lv_at hl 1 rfl) ?_
  refine lv_aload_n X.1 X.2.1 dX12_plainLifts_6 rfl (lv_at hl 0 rfl) ?_
  refine m_geti 28 X hK hP hM hin rfl (by decide) k255 rfl dX12_plainLifts_7 (show N1 0 28 = nI nu from hbN1) ?_
  refine lv_iadd X.1 X.2.1 dX12_plainLifts_10 ?_
  exact g_iret N1 X hr hlk hK hP hS dX12_plainLifts_11 ⟨(by unfold aPL; rfl), (by have h9 := htN1; unfold aPL; simpa [aPL, List.append_assoc] using h9), fun b i h => ((hkN1 b i h).trans rfl)⟩

set_option maxHeartbeats 4000000 in
set_option maxRecDepth 100000 in
/-- liftsActs -/
theorem c_liftsActs (hM : gMod o T R) (h27 : M 0 27 = nI kd) (h28 : M 0 28 = nI nu) (h29 : M 0 29 = nI vv) (hkd : kd ≤ 6) (htr : mTr M tr) (h20 : tr.length + 2 ≤ 20) (x : Int32) : Met l yX12_liftsActs wsX12_liftsActs ({ frames := 2, cells := 0, slots := 0, locals := 42 }) (mPre s0 D cy B o z T R I0 M [.int x]) (mQi D cy B o z T R I0 (fun r u => r = (aL kd nu x).1 ∧ mTr u (tr ++ (aL kd nu x).2) ∧ mSame tS M u)) 0 0 (gA B) := by
  refine g_met (maxL := 2) (ret := (some .int)) (by decide) rfl (Nat.le_of_ble_eq_true rfl) (fun p e s m args below meth c ls X hr hlk hnm hK hP hC hS hl => ?_)
  have hl : lv_has ls 2 [(0, .ref o), (1, .int x)] := hl
  have hP : gP D cy B z T (gI o 12 M I0) R s.heap := hP
  have hB : B ≤ s.heap.size := by rw [hP.1]; exact hP.2.1
  have hin : ∀ w ∈ wsX120, w ∈ wsX12_liftsActs := fun _ h => List.mem_cons_of_mem _ (List.mem_append_right _ h)
  have k255 : Cond.fieldLink RX12 255 "BarrowPlankModel" "number" "I" ∈ wsX12_liftsActs := by decide +kernel
  have k258 : Cond.fieldLink RX12 258 "BarrowPlankModel" "kind" "I" ∈ wsX12_liftsActs := by decide +kernel
  refine lv_aload_n X.1 X.2.1 dX12_liftsActs_0 rfl (lv_at hl 0 rfl) ?_
  refine m_geti 27 X hK hP hM hin rfl (by decide) k258 rfl dX12_liftsActs_1 (show M 0 27 = nI kd from h27) ?_
  refine lv_iconst (v := 1) X.1 X.2.1 dX12_liftsActs_4 (by decide) ?_
  refine g_run_i (g_runS [.int (nI kd), .int 1] X hK hP hS hC hB (c_isUnder _ (kd := kd) (k := 1) (by omega) (by omega)) (va_cwS 2 X.2.2.2.2 gX12_liftsActs_X12_isUnder rfl rfl rfl (by decide +kernel) ⟨Nat.le_of_ble_eq_true rfl, Nat.le_of_ble_eq_true rfl⟩) rfl hl.1 rfl (Nat.le_of_ble_eq_true rfl) dX12_liftsActs_5 (by exact ⟨Nat.zero_le _, Nat.zero_le _⟩)) hS (fun r u H locs hq hP hS => ?_)
  obtain ⟨rfl, rfl⟩ := hq
  have hP : gP D cy B z T (gI o 12 M I0) R H := hP
  refine lv_if_eq (tgt := 25) X.1 X.2.1 dX12_liftsActs_8 (by decide) (fun c8 => ?_) (fun c8 => ?_)
  · refine lv_aload_n X.1 X.2.1 dX12_liftsActs_25 rfl (lv_at hl 0 rfl) ?_
    refine m_geti 27 X hK hP hM hin rfl (by decide) k258 rfl dX12_liftsActs_26 (show M 0 27 = nI kd from h27) ?_
    refine lv_iconst (v := 5) X.1 X.2.1 dX12_liftsActs_29 (by decide) ?_
    refine lv_icmp_ne (tgt := 50) X.1 X.2.1 dX12_liftsActs_30 (by decide) (fun c30 => ?_) (fun c30 => ?_)
    · have n30 : ¬ kd = 5 := gq_ne c30 (Eq.refl (nI kd)) (show (5 : Int32) = nI 5 from rfl) (by omega) (by omega)
      refine lv_aload_n X.1 X.2.1 dX12_liftsActs_50 rfl (lv_at hl 0 rfl) ?_
      refine lv_iload_n X.1 X.2.1 dX12_liftsActs_51 rfl (lv_at hl 1 rfl) ?_
      refine g_run_i (g_runV (k := 14) [.int x] X hK hP hS hC hB (c_plainLifts hM h27 h28 h29 hkd htr (by (try simp only [List.length_append, List.length_cons, List.length_nil]); omega) x) (cwV 1 X.2.2.2.2 gX12_liftsActs_X12_plainLifts rfl rfl rfl (by decide +kernel) ⟨Nat.le_of_ble_eq_true rfl, Nat.le_of_ble_eq_true rfl⟩) (hM.1 0 _ rfl) rfl rfl hl.1 rfl (Nat.le_of_ble_eq_true rfl) dX12_liftsActs_52 (by exact ⟨Nat.zero_le _, Nat.zero_le _⟩)) hS (fun r u H locs hq hP hS => ?_)
      obtain ⟨rfl, htN1, hkN1⟩ := hq
      generalize u = N1 at hP htN1 hkN1
      have hP : gP D cy B z T (gI o 12 N1 I0) R H := hP
      have haN1 : N1 0 27 = nI kd := (hkN1 0 27 (by unfold tS; omega)).trans h27
      have hbN1 : N1 0 28 = nI nu := (hkN1 0 28 (by unfold tS; omega)).trans h28
      have hcN1 : N1 0 29 = nI vv := (hkN1 0 29 (by unfold tS; omega)).trans h29
      exact g_iret N1 X hr hlk hK hP hS dX12_liftsActs_55 ⟨(by unfold aL; rw [if_neg (show ¬ (kd = 1 ∨ kd = 4) by have := gt_0 c8; omega), if_neg n30] <;> rfl), (by have h9 := htN1; unfold aL; rw [if_neg (show ¬ (kd = 1 ∨ kd = 4) by have := gt_0 c8; omega), if_neg n30]; simpa [aPL, List.append_assoc] using h9), fun b i h => ((hkN1 b i h).trans rfl)⟩
    · have n30 : kd = 5 := gq_eq c30 (Eq.refl (nI kd)) (show (5 : Int32) = nI 5 from rfl) (by omega) (by omega)
      refine lv_aload_n X.1 X.2.1 dX12_liftsActs_33 rfl (lv_at hl 0 rfl) ?_
      refine lv_bipush (v := 51) X.1 X.2.1 dX12_liftsActs_34 (by decide) ?_
      refine g_run_v (g_runV (k := 14) [.int 51] X hK hP hS hC hB (c_ranBody hM htr (by (try simp only [List.length_append, List.length_cons, List.length_nil]); omega) 51) (cwV 1 X.2.2.2.2 gX12_liftsActs_X12_ranBody rfl rfl rfl (by decide +kernel) ⟨Nat.le_of_ble_eq_true rfl, Nat.le_of_ble_eq_true rfl⟩) (hM.1 0 _ rfl) rfl rfl hl.1 rfl (Nat.le_of_ble_eq_true rfl) dX12_liftsActs_36 (by exact ⟨Nat.zero_le _, Nat.zero_le _⟩)) hS (fun u H locs hq hP hS => ?_)
      obtain ⟨htN2, hkN2⟩ := hq
      generalize u = N2 at hP htN2 hkN2
      have hP : gP D cy B z T (gI o 12 N2 I0) R H := hP
      have haN2 : N2 0 27 = nI kd := (hkN2 0 27 (by unfold tS; omega)).trans h27
      have hbN2 : N2 0 28 = nI nu := (hkN2 0 28 (by unfold tS; omega)).trans h28
      have hcN2 : N2 0 29 = nI vv := (hkN2 0 29 (by unfold tS; omega)).trans h29
      refine lv_aload_n X.1 X.2.1 dX12_liftsActs_39 rfl (lv_at hl 0 rfl) ?_
      refine lv_iload_n X.1 X.2.1 dX12_liftsActs_40 rfl (lv_at hl 1 rfl) ?_
      refine g_run_i (g_runV (k := 14) [.int x] X hK hP hS hC hB (c_plainLifts hM haN2 hbN2 hcN2 hkd htN2 (by (try simp only [List.length_append, List.length_cons, List.length_nil]); omega) x) (cwV 1 X.2.2.2.2 gX12_liftsActs_X12_plainLifts rfl rfl rfl (by decide +kernel) ⟨Nat.le_of_ble_eq_true rfl, Nat.le_of_ble_eq_true rfl⟩) (hM.1 0 _ rfl) rfl rfl hl.1 rfl (Nat.le_of_ble_eq_true rfl) dX12_liftsActs_41 (by exact ⟨Nat.zero_le _, Nat.zero_le _⟩)) hS (fun r u H locs hq hP hS => ?_)
      obtain ⟨rfl, htN3, hkN3⟩ := hq
      generalize u = N3 at hP htN3 hkN3
      have hP : gP D cy B z T (gI o 12 N3 I0) R H := hP
      have haN3 : N3 0 27 = nI kd := (hkN3 0 27 (by unfold tS; omega)).trans haN2
      have hbN3 : N3 0 28 = nI nu := (hkN3 0 28 (by unfold tS; omega)).trans hbN2
      have hcN3 : N3 0 29 = nI vv := (hkN3 0 29 (by unfold tS; omega)).trans hcN2
      refine lv_aload_n X.1 X.2.1 dX12_liftsActs_44 rfl (lv_at hl 0 rfl) ?_
      refine m_geti 28 X hK hP hM hin rfl (by decide) k255 rfl dX12_liftsActs_45 (show N3 0 28 = nI nu from hbN3) ?_
      refine lv_ixor X.1 X.2.1 dX12_liftsActs_48 ?_
      exact g_iret N3 X hr hlk hK hP hS dX12_liftsActs_49 ⟨(by unfold aL; rw [if_neg (show ¬ (kd = 1 ∨ kd = 4) by have := gt_0 c8; omega), if_pos n30] <;> rfl), (by have h9 := htN3; unfold aL; rw [if_neg (show ¬ (kd = 1 ∨ kd = 4) by have := gt_0 c8; omega), if_pos n30]; simpa [aPL, List.append_assoc] using h9), fun b i h => ((hkN3 b i h).trans ((hkN2 b i h).trans rfl))⟩
  · refine lv_aload_n X.1 X.2.1 dX12_liftsActs_11 rfl (lv_at hl 0 rfl) ?_
    refine lv_bipush (v := 11) X.1 X.2.1 dX12_liftsActs_12 (by decide) ?_
    refine g_run_v (g_runV (k := 14) [.int 11] X hK hP hS hC hB (c_ranBody hM htr (by (try simp only [List.length_append, List.length_cons, List.length_nil]); omega) 11) (cwV 1 X.2.2.2.2 gX12_liftsActs_X12_ranBody rfl rfl rfl (by decide +kernel) ⟨Nat.le_of_ble_eq_true rfl, Nat.le_of_ble_eq_true rfl⟩) (hM.1 0 _ rfl) rfl rfl hl.1 rfl (Nat.le_of_ble_eq_true rfl) dX12_liftsActs_14 (by exact ⟨Nat.zero_le _, Nat.zero_le _⟩)) hS (fun u H locs hq hP hS => ?_)
    obtain ⟨htN4, hkN4⟩ := hq
    generalize u = N4 at hP htN4 hkN4
    have hP : gP D cy B z T (gI o 12 N4 I0) R H := hP
    have haN4 : N4 0 27 = nI kd := (hkN4 0 27 (by unfold tS; omega)).trans h27
    have hbN4 : N4 0 28 = nI nu := (hkN4 0 28 (by unfold tS; omega)).trans h28
    have hcN4 : N4 0 29 = nI vv := (hkN4 0 29 (by unfold tS; omega)).trans h29
    refine lv_aload_n X.1 X.2.1 dX12_liftsActs_17 rfl (lv_at hl 0 rfl) ?_
    refine lv_iload_n X.1 X.2.1 dX12_liftsActs_18 rfl (lv_at hl 1 rfl) ?_
    refine lv_iconst (v := 3) X.1 X.2.1 dX12_liftsActs_19 (by decide) ?_
    refine lv_imul X.1 X.2.1 dX12_liftsActs_20 ?_
    refine g_run_i (g_runV (k := 14) [.int (x * 3)] X hK hP hS hC hB (c_plainLifts hM haN4 hbN4 hcN4 hkd htN4 (by (try simp only [List.length_append, List.length_cons, List.length_nil]); omega) (x * 3)) (cwV 1 X.2.2.2.2 gX12_liftsActs_X12_plainLifts rfl rfl rfl (by decide +kernel) ⟨Nat.le_of_ble_eq_true rfl, Nat.le_of_ble_eq_true rfl⟩) (hM.1 0 _ rfl) rfl rfl hl.1 rfl (Nat.le_of_ble_eq_true rfl) dX12_liftsActs_21 (by exact ⟨Nat.zero_le _, Nat.zero_le _⟩)) hS (fun r u H locs hq hP hS => ?_)
    obtain ⟨rfl, htN5, hkN5⟩ := hq
    generalize u = N5 at hP htN5 hkN5
    have hP : gP D cy B z T (gI o 12 N5 I0) R H := hP
    have haN5 : N5 0 27 = nI kd := (hkN5 0 27 (by unfold tS; omega)).trans haN4
    have hbN5 : N5 0 28 = nI nu := (hkN5 0 28 (by unfold tS; omega)).trans hbN4
    have hcN5 : N5 0 29 = nI vv := (hkN5 0 29 (by unfold tS; omega)).trans hcN4
    exact g_iret N5 X hr hlk hK hP hS dX12_liftsActs_24 ⟨(by unfold aL; rw [if_pos (show kd = 1 ∨ kd = 4 by have := gt_1 c8; omega)] <;> rfl), (by have h9 := htN5; unfold aL; rw [if_pos (show kd = 1 ∨ kd = 4 by have := gt_1 c8; omega)]; simpa [aPL, List.append_assoc] using h9), fun b i h => ((hkN5 b i h).trans ((hkN4 b i h).trans rfl))⟩

set_option maxHeartbeats 4000000 in
set_option maxRecDepth 100000 in
/-- plainGoes -/
theorem c_plainGoes (hM : gMod o T R) (h27 : M 0 27 = nI kd) (h28 : M 0 28 = nI nu) (h29 : M 0 29 = nI vv) (hkd : kd ≤ 6) (htr : mTr M tr) (h20 : tr.length + 3 ≤ 20) (x : Int32) : Met l yX12_plainGoes wsX12_plainGoes ({ frames := 3, cells := 0, slots := 0, locals := 63 }) (mPre s0 D cy B o z T R I0 M [.int x]) (mQi D cy B o z T R I0 (fun r u => r = (aPG kd nu vv x).1 ∧ mTr u (tr ++ (aPG kd nu vv x).2) ∧ mSame tS M u)) 0 0 (gA B) := by
  refine g_met (maxL := 2) (ret := (some .int)) (by decide) rfl (Nat.le_of_ble_eq_true rfl) (fun p e s m args below meth c ls X hr hlk hnm hK hP hC hS hl => ?_)
  have hl : lv_has ls 2 [(0, .ref o), (1, .int x)] := hl
  have hP : gP D cy B z T (gI o 12 M I0) R s.heap := hP
  have hB : B ≤ s.heap.size := by rw [hP.1]; exact hP.2.1
  have hin : ∀ w ∈ wsX120, w ∈ wsX12_plainGoes := fun _ h => List.mem_cons_of_mem _ (List.mem_append_right _ h)
  have k270 : Cond.fieldLink RX12 270 "BarrowPlankModel" "tellsV" "I" ∈ wsX12_plainGoes := by decide +kernel
  refine lv_aload_n X.1 X.2.1 dX12_plainGoes_0 rfl (lv_at hl 0 rfl) ?_
  refine lv_iconst (v := 2) X.1 X.2.1 dX12_plainGoes_1 (by decide) ?_
  refine g_run_v (g_runV (k := 14) [.int 2] X hK hP hS hC hB (c_ranBody hM htr (by (try simp only [List.length_append, List.length_cons, List.length_nil]); have := aL_n kd nu x; omega) 2) (cwV 1 X.2.2.2.2 gX12_plainGoes_X12_ranBody rfl rfl rfl (by decide +kernel) ⟨Nat.le_of_ble_eq_true rfl, Nat.le_of_ble_eq_true rfl⟩) (hM.1 0 _ rfl) rfl rfl hl.1 rfl (Nat.le_of_ble_eq_true rfl) dX12_plainGoes_2 (by exact ⟨Nat.zero_le _, Nat.zero_le _⟩)) hS (fun u H locs hq hP hS => ?_)
  obtain ⟨htN1, hkN1⟩ := hq
  generalize u = N1 at hP htN1 hkN1
  have hP : gP D cy B z T (gI o 12 N1 I0) R H := hP
  have haN1 : N1 0 27 = nI kd := (hkN1 0 27 (by unfold tS; omega)).trans h27
  have hbN1 : N1 0 28 = nI nu := (hkN1 0 28 (by unfold tS; omega)).trans h28
  have hcN1 : N1 0 29 = nI vv := (hkN1 0 29 (by unfold tS; omega)).trans h29
  refine lv_aload_n X.1 X.2.1 dX12_plainGoes_5 rfl (lv_at hl 0 rfl) ?_
  refine lv_iload_n X.1 X.2.1 dX12_plainGoes_6 rfl (lv_at hl 1 rfl) ?_
  refine g_run_i (g_runV (k := 14) [.int x] X hK hP hS hC hB (c_liftsActs hM haN1 hbN1 hcN1 hkd htN1 (by (try simp only [List.length_append, List.length_cons, List.length_nil]); have := aL_n kd nu x; omega) x) (cwV 1 X.2.2.2.2 gX12_plainGoes_X12_liftsActs rfl rfl rfl (by decide +kernel) ⟨Nat.le_of_ble_eq_true rfl, Nat.le_of_ble_eq_true rfl⟩) (hM.1 0 _ rfl) rfl rfl hl.1 rfl (Nat.le_of_ble_eq_true rfl) dX12_plainGoes_7 (by exact ⟨Nat.zero_le _, Nat.zero_le _⟩)) hS (fun r u H locs hq hP hS => ?_)
  obtain ⟨rfl, htN2, hkN2⟩ := hq
  generalize u = N2 at hP htN2 hkN2
  have hP : gP D cy B z T (gI o 12 N2 I0) R H := hP
  have haN2 : N2 0 27 = nI kd := (hkN2 0 27 (by unfold tS; omega)).trans haN1
  have hbN2 : N2 0 28 = nI nu := (hkN2 0 28 (by unfold tS; omega)).trans hbN1
  have hcN2 : N2 0 29 = nI vv := (hkN2 0 29 (by unfold tS; omega)).trans hcN1
  refine lv_aload_n X.1 X.2.1 dX12_plainGoes_10 rfl (lv_at hl 0 rfl) ?_
  refine m_geti 29 X hK hP hM hin rfl (by decide) k270 rfl dX12_plainGoes_11 (show N2 0 29 = nI vv from hcN2) ?_
  refine lv_isub X.1 X.2.1 dX12_plainGoes_14 ?_
  exact g_iret N2 X hr hlk hK hP hS dX12_plainGoes_15 ⟨(by unfold aPG; rfl), (by have h9 := htN2; unfold aPG; simpa [aPL, List.append_assoc] using h9), fun b i h => ((hkN2 b i h).trans ((hkN1 b i h).trans rfl))⟩

set_option maxHeartbeats 4000000 in
set_option maxRecDepth 100000 in
/-- goesActs -/
theorem c_goesActs (hM : gMod o T R) (h27 : M 0 27 = nI kd) (h28 : M 0 28 = nI nu) (h29 : M 0 29 = nI vv) (hkd : kd ≤ 6) (htr : mTr M tr) (h20 : tr.length + 4 ≤ 20) (x : Int32) : Met l yX12_goesActs wsX12_goesActs ({ frames := 4, cells := 0, slots := 0, locals := 84 }) (mPre s0 D cy B o z T R I0 M [.int x]) (mQi D cy B o z T R I0 (fun r u => r = (aG kd nu vv x).1 ∧ mTr u (tr ++ (aG kd nu vv x).2) ∧ mSame tS M u)) 0 0 (gA B) := by
  refine g_met (maxL := 2) (ret := (some .int)) (by decide) rfl (Nat.le_of_ble_eq_true rfl) (fun p e s m args below meth c ls X hr hlk hnm hK hP hC hS hl => ?_)
  have hl : lv_has ls 2 [(0, .ref o), (1, .int x)] := hl
  have hP : gP D cy B z T (gI o 12 M I0) R s.heap := hP
  have hB : B ≤ s.heap.size := by rw [hP.1]; exact hP.2.1
  have hin : ∀ w ∈ wsX120, w ∈ wsX12_goesActs := fun _ h => List.mem_cons_of_mem _ (List.mem_append_right _ h)
  have k258 : Cond.fieldLink RX12 258 "BarrowPlankModel" "kind" "I" ∈ wsX12_goesActs := by decide +kernel
  have k270 : Cond.fieldLink RX12 270 "BarrowPlankModel" "tellsV" "I" ∈ wsX12_goesActs := by decide +kernel
  refine lv_aload_n X.1 X.2.1 dX12_goesActs_0 rfl (lv_at hl 0 rfl) ?_
  refine m_geti 27 X hK hP hM hin rfl (by decide) k258 rfl dX12_goesActs_1 (show M 0 27 = nI kd from h27) ?_
  refine lv_iconst (v := 2) X.1 X.2.1 dX12_goesActs_4 (by decide) ?_
  refine g_run_i (g_runS [.int (nI kd), .int 2] X hK hP hS hC hB (c_isUnder _ (kd := kd) (k := 2) (by omega) (by omega)) (va_cwS 2 X.2.2.2.2 gX12_goesActs_X12_isUnder rfl rfl rfl (by decide +kernel) ⟨Nat.le_of_ble_eq_true rfl, Nat.le_of_ble_eq_true rfl⟩) rfl hl.1 rfl (Nat.le_of_ble_eq_true rfl) dX12_goesActs_5 (by exact ⟨Nat.zero_le _, Nat.zero_le _⟩)) hS (fun r u H locs hq hP hS => ?_)
  obtain ⟨rfl, rfl⟩ := hq
  have hP : gP D cy B z T (gI o 12 M I0) R H := hP
  refine lv_if_eq (tgt := 24) X.1 X.2.1 dX12_goesActs_8 (by decide) (fun c8 => ?_) (fun c8 => ?_)
  · refine lv_aload_n X.1 X.2.1 dX12_goesActs_24 rfl (lv_at hl 0 rfl) ?_
    refine m_geti 27 X hK hP hM hin rfl (by decide) k258 rfl dX12_goesActs_25 (show M 0 27 = nI kd from h27) ?_
    refine lv_bipush (v := 6) X.1 X.2.1 dX12_goesActs_28 (by decide) ?_
    refine lv_icmp_ne (tgt := 50) X.1 X.2.1 dX12_goesActs_30 (by decide) (fun c30 => ?_) (fun c30 => ?_)
    · have n30 : ¬ kd = 6 := gq_ne c30 (Eq.refl (nI kd)) (show (6 : Int32) = nI 6 from rfl) (by omega) (by omega)
      refine lv_aload_n X.1 X.2.1 dX12_goesActs_50 rfl (lv_at hl 0 rfl) ?_
      refine lv_iload_n X.1 X.2.1 dX12_goesActs_51 rfl (lv_at hl 1 rfl) ?_
      refine g_run_i (g_runV (k := 14) [.int x] X hK hP hS hC hB (c_plainGoes hM h27 h28 h29 hkd htr (by (try simp only [List.length_append, List.length_cons, List.length_nil]); have := aPG_n kd nu vv x; omega) x) (cwV 1 X.2.2.2.2 gX12_goesActs_X12_plainGoes rfl rfl rfl (by decide +kernel) ⟨Nat.le_of_ble_eq_true rfl, Nat.le_of_ble_eq_true rfl⟩) (hM.1 0 _ rfl) rfl rfl hl.1 rfl (Nat.le_of_ble_eq_true rfl) dX12_goesActs_52 (by exact ⟨Nat.zero_le _, Nat.zero_le _⟩)) hS (fun r u H locs hq hP hS => ?_)
      obtain ⟨rfl, htN1, hkN1⟩ := hq
      generalize u = N1 at hP htN1 hkN1
      have hP : gP D cy B z T (gI o 12 N1 I0) R H := hP
      have haN1 : N1 0 27 = nI kd := (hkN1 0 27 (by unfold tS; omega)).trans h27
      have hbN1 : N1 0 28 = nI nu := (hkN1 0 28 (by unfold tS; omega)).trans h28
      have hcN1 : N1 0 29 = nI vv := (hkN1 0 29 (by unfold tS; omega)).trans h29
      exact g_iret N1 X hr hlk hK hP hS dX12_goesActs_55 ⟨(by unfold aG; rw [if_neg (show ¬ (kd = 2 ∨ kd = 5) by have := gt_0 c8; omega), if_neg n30] <;> rfl), (by have h9 := htN1; unfold aG; rw [if_neg (show ¬ (kd = 2 ∨ kd = 5) by have := gt_0 c8; omega), if_neg n30]; simpa [aPL, List.append_assoc] using h9), fun b i h => ((hkN1 b i h).trans rfl)⟩
    · have n30 : kd = 6 := gq_eq c30 (Eq.refl (nI kd)) (show (6 : Int32) = nI 6 from rfl) (by omega) (by omega)
      refine lv_aload_n X.1 X.2.1 dX12_goesActs_33 rfl (lv_at hl 0 rfl) ?_
      refine lv_bipush (v := 61) X.1 X.2.1 dX12_goesActs_34 (by decide) ?_
      refine g_run_v (g_runV (k := 14) [.int 61] X hK hP hS hC hB (c_ranBody hM htr (by (try simp only [List.length_append, List.length_cons, List.length_nil]); have := aPG_n kd nu vv x; omega) 61) (cwV 1 X.2.2.2.2 gX12_goesActs_X12_ranBody rfl rfl rfl (by decide +kernel) ⟨Nat.le_of_ble_eq_true rfl, Nat.le_of_ble_eq_true rfl⟩) (hM.1 0 _ rfl) rfl rfl hl.1 rfl (Nat.le_of_ble_eq_true rfl) dX12_goesActs_36 (by exact ⟨Nat.zero_le _, Nat.zero_le _⟩)) hS (fun u H locs hq hP hS => ?_)
      obtain ⟨htN2, hkN2⟩ := hq
      generalize u = N2 at hP htN2 hkN2
      have hP : gP D cy B z T (gI o 12 N2 I0) R H := hP
      have haN2 : N2 0 27 = nI kd := (hkN2 0 27 (by unfold tS; omega)).trans h27
      have hbN2 : N2 0 28 = nI nu := (hkN2 0 28 (by unfold tS; omega)).trans h28
      have hcN2 : N2 0 29 = nI vv := (hkN2 0 29 (by unfold tS; omega)).trans h29
      refine lv_aload_n X.1 X.2.1 dX12_goesActs_39 rfl (lv_at hl 0 rfl) ?_
      refine lv_iload_n X.1 X.2.1 dX12_goesActs_40 rfl (lv_at hl 1 rfl) ?_
      refine g_run_i (g_runV (k := 14) [.int x] X hK hP hS hC hB (c_plainGoes hM haN2 hbN2 hcN2 hkd htN2 (by (try simp only [List.length_append, List.length_cons, List.length_nil]); have := aPG_n kd nu vv x; omega) x) (cwV 1 X.2.2.2.2 gX12_goesActs_X12_plainGoes rfl rfl rfl (by decide +kernel) ⟨Nat.le_of_ble_eq_true rfl, Nat.le_of_ble_eq_true rfl⟩) (hM.1 0 _ rfl) rfl rfl hl.1 rfl (Nat.le_of_ble_eq_true rfl) dX12_goesActs_41 (by exact ⟨Nat.zero_le _, Nat.zero_le _⟩)) hS (fun r u H locs hq hP hS => ?_)
      obtain ⟨rfl, htN3, hkN3⟩ := hq
      generalize u = N3 at hP htN3 hkN3
      have hP : gP D cy B z T (gI o 12 N3 I0) R H := hP
      have haN3 : N3 0 27 = nI kd := (hkN3 0 27 (by unfold tS; omega)).trans haN2
      have hbN3 : N3 0 28 = nI nu := (hkN3 0 28 (by unfold tS; omega)).trans hbN2
      have hcN3 : N3 0 29 = nI vv := (hkN3 0 29 (by unfold tS; omega)).trans hcN2
      refine lv_aload_n X.1 X.2.1 dX12_goesActs_44 rfl (lv_at hl 0 rfl) ?_
      refine m_geti 29 X hK hP hM hin rfl (by decide) k270 rfl dX12_goesActs_45 (show N3 0 29 = nI vv from hcN3) ?_
      refine lv_iadd X.1 X.2.1 dX12_goesActs_48 ?_
      exact g_iret N3 X hr hlk hK hP hS dX12_goesActs_49 ⟨(by unfold aG; rw [if_neg (show ¬ (kd = 2 ∨ kd = 5) by have := gt_0 c8; omega), if_pos n30] <;> rfl), (by have h9 := htN3; unfold aG; rw [if_neg (show ¬ (kd = 2 ∨ kd = 5) by have := gt_0 c8; omega), if_pos n30]; simpa [aPL, List.append_assoc] using h9), fun b i h => ((hkN3 b i h).trans ((hkN2 b i h).trans rfl))⟩
  · refine lv_aload_n X.1 X.2.1 dX12_goesActs_11 rfl (lv_at hl 0 rfl) ?_
    refine lv_bipush (v := 21) X.1 X.2.1 dX12_goesActs_12 (by decide) ?_
    refine g_run_v (g_runV (k := 14) [.int 21] X hK hP hS hC hB (c_ranBody hM htr (by (try simp only [List.length_append, List.length_cons, List.length_nil]); have := aPG_n kd nu vv x; omega) 21) (cwV 1 X.2.2.2.2 gX12_goesActs_X12_ranBody rfl rfl rfl (by decide +kernel) ⟨Nat.le_of_ble_eq_true rfl, Nat.le_of_ble_eq_true rfl⟩) (hM.1 0 _ rfl) rfl rfl hl.1 rfl (Nat.le_of_ble_eq_true rfl) dX12_goesActs_14 (by exact ⟨Nat.zero_le _, Nat.zero_le _⟩)) hS (fun u H locs hq hP hS => ?_)
    obtain ⟨htN4, hkN4⟩ := hq
    generalize u = N4 at hP htN4 hkN4
    have hP : gP D cy B z T (gI o 12 N4 I0) R H := hP
    have haN4 : N4 0 27 = nI kd := (hkN4 0 27 (by unfold tS; omega)).trans h27
    have hbN4 : N4 0 28 = nI nu := (hkN4 0 28 (by unfold tS; omega)).trans h28
    have hcN4 : N4 0 29 = nI vv := (hkN4 0 29 (by unfold tS; omega)).trans h29
    refine lv_aload_n X.1 X.2.1 dX12_goesActs_17 rfl (lv_at hl 0 rfl) ?_
    refine lv_iload_n X.1 X.2.1 dX12_goesActs_18 rfl (lv_at hl 1 rfl) ?_
    refine g_run_i (g_runV (k := 14) [.int x] X hK hP hS hC hB (c_plainGoes hM haN4 hbN4 hcN4 hkd htN4 (by (try simp only [List.length_append, List.length_cons, List.length_nil]); have := aPG_n kd nu vv x; omega) x) (cwV 1 X.2.2.2.2 gX12_goesActs_X12_plainGoes rfl rfl rfl (by decide +kernel) ⟨Nat.le_of_ble_eq_true rfl, Nat.le_of_ble_eq_true rfl⟩) (hM.1 0 _ rfl) rfl rfl hl.1 rfl (Nat.le_of_ble_eq_true rfl) dX12_goesActs_19 (by exact ⟨Nat.zero_le _, Nat.zero_le _⟩)) hS (fun r u H locs hq hP hS => ?_)
    obtain ⟨rfl, htN5, hkN5⟩ := hq
    generalize u = N5 at hP htN5 hkN5
    have hP : gP D cy B z T (gI o 12 N5 I0) R H := hP
    have haN5 : N5 0 27 = nI kd := (hkN5 0 27 (by unfold tS; omega)).trans haN4
    have hbN5 : N5 0 28 = nI nu := (hkN5 0 28 (by unfold tS; omega)).trans hbN4
    have hcN5 : N5 0 29 = nI vv := (hkN5 0 29 (by unfold tS; omega)).trans hcN4
    refine lv_ineg X.1 X.2.1 dX12_goesActs_22 ?_
    exact g_iret N5 X hr hlk hK hP hS dX12_goesActs_23 ⟨(by unfold aG; rw [if_pos (show kd = 2 ∨ kd = 5 by have := gt_1 c8; omega)] <;> rfl), (by have h9 := htN5; unfold aG; rw [if_pos (show kd = 2 ∨ kd = 5 by have := gt_1 c8; omega)]; simpa [aPL, List.append_assoc] using h9), fun b i h => ((hkN5 b i h).trans ((hkN4 b i h).trans rfl))⟩

set_option maxHeartbeats 4000000 in
set_option maxRecDepth 100000 in
/-- plainTires -/
theorem c_plainTires (hM : gMod o T R) (h27 : M 0 27 = nI kd) (h28 : M 0 28 = nI nu) (h29 : M 0 29 = nI vv) (hkd : kd ≤ 6) (htr : mTr M tr) (h20 : tr.length + 5 ≤ 20) (x : Int32) : Met l yX12_plainTires wsX12_plainTires ({ frames := 5, cells := 0, slots := 0, locals := 105 }) (mPre s0 D cy B o z T R I0 M [.int x]) (mQi D cy B o z T R I0 (fun r u => r = (aPT kd nu vv x).1 ∧ mTr u (tr ++ (aPT kd nu vv x).2) ∧ mSame tS M u)) 0 0 (gA B) := by
  refine g_met (maxL := 2) (ret := (some .int)) (by decide) rfl (Nat.le_of_ble_eq_true rfl) (fun p e s m args below meth c ls X hr hlk hnm hK hP hC hS hl => ?_)
  have hl : lv_has ls 2 [(0, .ref o), (1, .int x)] := hl
  have hP : gP D cy B z T (gI o 12 M I0) R s.heap := hP
  have hB : B ≤ s.heap.size := by rw [hP.1]; exact hP.2.1
  refine lv_aload_n X.1 X.2.1 dX12_plainTires_0 rfl (lv_at hl 0 rfl) ?_
  refine lv_iconst (v := 3) X.1 X.2.1 dX12_plainTires_1 (by decide) ?_
  refine g_run_v (g_runV (k := 14) [.int 3] X hK hP hS hC hB (c_ranBody hM htr (by (try simp only [List.length_append, List.length_cons, List.length_nil]); have := aG_n kd nu vv x; omega) 3) (cwV 1 X.2.2.2.2 gX12_plainTires_X12_ranBody rfl rfl rfl (by decide +kernel) ⟨Nat.le_of_ble_eq_true rfl, Nat.le_of_ble_eq_true rfl⟩) (hM.1 0 _ rfl) rfl rfl hl.1 rfl (Nat.le_of_ble_eq_true rfl) dX12_plainTires_2 (by exact ⟨Nat.zero_le _, Nat.zero_le _⟩)) hS (fun u H locs hq hP hS => ?_)
  obtain ⟨htN1, hkN1⟩ := hq
  generalize u = N1 at hP htN1 hkN1
  have hP : gP D cy B z T (gI o 12 N1 I0) R H := hP
  have haN1 : N1 0 27 = nI kd := (hkN1 0 27 (by unfold tS; omega)).trans h27
  have hbN1 : N1 0 28 = nI nu := (hkN1 0 28 (by unfold tS; omega)).trans h28
  have hcN1 : N1 0 29 = nI vv := (hkN1 0 29 (by unfold tS; omega)).trans h29
  refine lv_aload_n X.1 X.2.1 dX12_plainTires_5 rfl (lv_at hl 0 rfl) ?_
  refine lv_iload_n X.1 X.2.1 dX12_plainTires_6 rfl (lv_at hl 1 rfl) ?_
  refine g_run_i (g_runV (k := 14) [.int x] X hK hP hS hC hB (c_goesActs hM haN1 hbN1 hcN1 hkd htN1 (by (try simp only [List.length_append, List.length_cons, List.length_nil]); have := aG_n kd nu vv x; omega) x) (cwV 1 X.2.2.2.2 gX12_plainTires_X12_goesActs rfl rfl rfl (by decide +kernel) ⟨Nat.le_of_ble_eq_true rfl, Nat.le_of_ble_eq_true rfl⟩) (hM.1 0 _ rfl) rfl rfl hl.1 rfl (Nat.le_of_ble_eq_true rfl) dX12_plainTires_7 (by exact ⟨Nat.zero_le _, Nat.zero_le _⟩)) hS (fun r u H locs hq hP hS => ?_)
  obtain ⟨rfl, htN2, hkN2⟩ := hq
  generalize u = N2 at hP htN2 hkN2
  have hP : gP D cy B z T (gI o 12 N2 I0) R H := hP
  have haN2 : N2 0 27 = nI kd := (hkN2 0 27 (by unfold tS; omega)).trans haN1
  have hbN2 : N2 0 28 = nI nu := (hkN2 0 28 (by unfold tS; omega)).trans hbN1
  have hcN2 : N2 0 29 = nI vv := (hkN2 0 29 (by unfold tS; omega)).trans hcN1
  refine lv_iconst (v := 2) X.1 X.2.1 dX12_plainTires_10 (by decide) ?_
  refine lv_imul X.1 X.2.1 dX12_plainTires_11 ?_
  exact g_iret N2 X hr hlk hK hP hS dX12_plainTires_12 ⟨(by unfold aPT; rfl), (by have h9 := htN2; unfold aPT; simpa [aPL, List.append_assoc] using h9), fun b i h => ((hkN2 b i h).trans ((hkN1 b i h).trans rfl))⟩

set_option maxHeartbeats 4000000 in
set_option maxRecDepth 100000 in
/-- tiresActs -/
theorem c_tiresActs (hM : gMod o T R) (h27 : M 0 27 = nI kd) (h28 : M 0 28 = nI nu) (h29 : M 0 29 = nI vv) (hkd : kd ≤ 6) (htr : mTr M tr) (h20 : tr.length + 8 ≤ 20) (x : Int32) : Met l yX12_tiresActs wsX12_tiresActs ({ frames := 6, cells := 0, slots := 0, locals := 126 }) (mPre s0 D cy B o z T R I0 M [.int x]) (mQi D cy B o z T R I0 (fun r u => r = (aT kd nu vv x).1 ∧ mTr u (tr ++ (aT kd nu vv x).2) ∧ mSame tS M u)) 0 0 (gA B) := by
  refine g_met (maxL := 3) (ret := (some .int)) (by decide) rfl (Nat.le_of_ble_eq_true rfl) (fun p e s m args below meth c ls X hr hlk hnm hK hP hC hS hl => ?_)
  have hl : lv_has ls 3 [(0, .ref o), (1, .int x)] := hl
  have hP : gP D cy B z T (gI o 12 M I0) R s.heap := hP
  have hB : B ≤ s.heap.size := by rw [hP.1]; exact hP.2.1
  have hin : ∀ w ∈ wsX120, w ∈ wsX12_tiresActs := fun _ h => List.mem_cons_of_mem _ (List.mem_append_right _ h)
  have k258 : Cond.fieldLink RX12 258 "BarrowPlankModel" "kind" "I" ∈ wsX12_tiresActs := by decide +kernel
  refine lv_aload_n X.1 X.2.1 dX12_tiresActs_0 rfl (lv_at hl 0 rfl) ?_
  refine m_geti 27 X hK hP hM hin rfl (by decide) k258 rfl dX12_tiresActs_1 (show M 0 27 = nI kd from h27) ?_
  refine lv_iconst (v := 3) X.1 X.2.1 dX12_tiresActs_4 (by decide) ?_
  refine g_run_i (g_runS [.int (nI kd), .int 3] X hK hP hS hC hB (c_isUnder _ (kd := kd) (k := 3) (by omega) (by omega)) (va_cwS 2 X.2.2.2.2 gX12_tiresActs_X12_isUnder rfl rfl rfl (by decide +kernel) ⟨Nat.le_of_ble_eq_true rfl, Nat.le_of_ble_eq_true rfl⟩) rfl hl.1 rfl (Nat.le_of_ble_eq_true rfl) dX12_tiresActs_5 (by exact ⟨Nat.zero_le _, Nat.zero_le _⟩)) hS (fun r u H locs hq hP hS => ?_)
  obtain ⟨rfl, rfl⟩ := hq
  have hP : gP D cy B z T (gI o 12 M I0) R H := hP
  refine lv_if_eq (tgt := 26) X.1 X.2.1 dX12_tiresActs_8 (by decide) (fun c8 => ?_) (fun c8 => ?_)
  · refine lv_aload_n X.1 X.2.1 dX12_tiresActs_26 rfl (lv_at hl 0 rfl) ?_
    refine m_geti 27 X hK hP hM hin rfl (by decide) k258 rfl dX12_tiresActs_27 (show M 0 27 = nI kd from h27) ?_
    refine lv_iconst (v := 4) X.1 X.2.1 dX12_tiresActs_30 (by decide) ?_
    refine lv_icmp_ne (tgt := 56) X.1 X.2.1 dX12_tiresActs_31 (by decide) (fun c31 => ?_) (fun c31 => ?_)
    · have n31 : ¬ kd = 4 := gq_ne c31 (Eq.refl (nI kd)) (show (4 : Int32) = nI 4 from rfl) (by omega) (by omega)
      refine lv_aload_n X.1 X.2.1 dX12_tiresActs_56 rfl (lv_at hl 0 rfl) ?_
      refine lv_iload_n X.1 X.2.1 dX12_tiresActs_57 rfl (lv_at hl 1 rfl) ?_
      refine g_run_i (g_runV (k := 14) [.int x] X hK hP hS hC hB (c_plainTires hM h27 h28 h29 hkd htr (by (try simp only [List.length_append, List.length_cons, List.length_nil]); have := aPT_n kd nu vv x; have := aPT_n kd nu vv (x - 1); omega) x) (cwV 1 X.2.2.2.2 gX12_tiresActs_X12_plainTires rfl rfl rfl (by decide +kernel) ⟨Nat.le_of_ble_eq_true rfl, Nat.le_of_ble_eq_true rfl⟩) (hM.1 0 _ rfl) rfl rfl hl.1 rfl (Nat.le_of_ble_eq_true rfl) dX12_tiresActs_58 (by exact ⟨Nat.zero_le _, Nat.zero_le _⟩)) hS (fun r u H locs hq hP hS => ?_)
      obtain ⟨rfl, htN1, hkN1⟩ := hq
      generalize u = N1 at hP htN1 hkN1
      have hP : gP D cy B z T (gI o 12 N1 I0) R H := hP
      have haN1 : N1 0 27 = nI kd := (hkN1 0 27 (by unfold tS; omega)).trans h27
      have hbN1 : N1 0 28 = nI nu := (hkN1 0 28 (by unfold tS; omega)).trans h28
      have hcN1 : N1 0 29 = nI vv := (hkN1 0 29 (by unfold tS; omega)).trans h29
      exact g_iret N1 X hr hlk hK hP hS dX12_tiresActs_61 ⟨(by unfold aT; rw [if_neg (show ¬ (kd = 3 ∨ kd = 6) by have := gt_0 c8; omega), if_neg n31] <;> rfl), (by have h9 := htN1; unfold aT; rw [if_neg (show ¬ (kd = 3 ∨ kd = 6) by have := gt_0 c8; omega), if_neg n31]; simpa [aPL, List.append_assoc] using h9), fun b i h => ((hkN1 b i h).trans rfl)⟩
    · have n31 : kd = 4 := gq_eq c31 (Eq.refl (nI kd)) (show (4 : Int32) = nI 4 from rfl) (by omega) (by omega)
      refine lv_aload_n X.1 X.2.1 dX12_tiresActs_34 rfl (lv_at hl 0 rfl) ?_
      refine lv_bipush (v := 41) X.1 X.2.1 dX12_tiresActs_35 (by decide) ?_
      refine g_run_v (g_runV (k := 14) [.int 41] X hK hP hS hC hB (c_ranBody hM htr (by (try simp only [List.length_append, List.length_cons, List.length_nil]); have := aPT_n kd nu vv x; have := aPT_n kd nu vv (x - 1); omega) 41) (cwV 1 X.2.2.2.2 gX12_tiresActs_X12_ranBody rfl rfl rfl (by decide +kernel) ⟨Nat.le_of_ble_eq_true rfl, Nat.le_of_ble_eq_true rfl⟩) (hM.1 0 _ rfl) rfl rfl hl.1 rfl (Nat.le_of_ble_eq_true rfl) dX12_tiresActs_37 (by exact ⟨Nat.zero_le _, Nat.zero_le _⟩)) hS (fun u H locs hq hP hS => ?_)
      obtain ⟨htN2, hkN2⟩ := hq
      generalize u = N2 at hP htN2 hkN2
      have hP : gP D cy B z T (gI o 12 N2 I0) R H := hP
      have haN2 : N2 0 27 = nI kd := (hkN2 0 27 (by unfold tS; omega)).trans h27
      have hbN2 : N2 0 28 = nI nu := (hkN2 0 28 (by unfold tS; omega)).trans h28
      have hcN2 : N2 0 29 = nI vv := (hkN2 0 29 (by unfold tS; omega)).trans h29
      refine lv_aload_n X.1 X.2.1 dX12_tiresActs_40 rfl (lv_at hl 0 rfl) ?_
      refine lv_iload_n X.1 X.2.1 dX12_tiresActs_41 rfl (lv_at hl 1 rfl) ?_
      refine lv_iconst (v := 1) X.1 X.2.1 dX12_tiresActs_42 (by decide) ?_
      refine lv_isub X.1 X.2.1 dX12_tiresActs_43 ?_
      refine g_run_i (g_runV (k := 14) [.int (x - 1)] X hK hP hS hC hB (c_plainTires hM haN2 hbN2 hcN2 hkd htN2 (by (try simp only [List.length_append, List.length_cons, List.length_nil]); have := aPT_n kd nu vv x; have := aPT_n kd nu vv (x - 1); omega) (x - 1)) (cwV 1 X.2.2.2.2 gX12_tiresActs_X12_plainTires rfl rfl rfl (by decide +kernel) ⟨Nat.le_of_ble_eq_true rfl, Nat.le_of_ble_eq_true rfl⟩) (hM.1 0 _ rfl) rfl rfl hl.1 rfl (Nat.le_of_ble_eq_true rfl) dX12_tiresActs_44 (by exact ⟨Nat.zero_le _, Nat.zero_le _⟩)) hS (fun r u H locs hq hP hS => ?_)
      obtain ⟨rfl, htN3, hkN3⟩ := hq
      generalize u = N3 at hP htN3 hkN3
      have hP : gP D cy B z T (gI o 12 N3 I0) R H := hP
      have haN3 : N3 0 27 = nI kd := (hkN3 0 27 (by unfold tS; omega)).trans haN2
      have hbN3 : N3 0 28 = nI nu := (hkN3 0 28 (by unfold tS; omega)).trans hbN2
      have hcN3 : N3 0 29 = nI vv := (hkN3 0 29 (by unfold tS; omega)).trans hcN2
      refine lv_istore_n (lv' := [(2, .int ((aPT kd nu vv (x - 1)).1)), (0, .ref o), (1, .int x)]) X.1 X.2.1 dX12_tiresActs_47 rfl hl (by decide) rfl (fun ls hl => ?_)
      refine lv_iload_n X.1 X.2.1 dX12_tiresActs_48 rfl (lv_at hl 0 rfl) ?_
      refine lv_aload_n X.1 X.2.1 dX12_tiresActs_49 rfl (lv_at hl 1 rfl) ?_
      refine lv_iconst (v := 2) X.1 X.2.1 dX12_tiresActs_50 (by decide) ?_
      refine g_run_i (g_runV (k := 14) [.int 2] X hK hP hS hC hB (c_liftsActs hM haN3 hbN3 hcN3 hkd htN3 (by (try simp only [List.length_append, List.length_cons, List.length_nil]); have := aPT_n kd nu vv x; have := aPT_n kd nu vv (x - 1); omega) 2) (cwV 1 X.2.2.2.2 gX12_tiresActs_X12_liftsActs rfl rfl rfl (by decide +kernel) ⟨Nat.le_of_ble_eq_true rfl, Nat.le_of_ble_eq_true rfl⟩) (hM.1 0 _ rfl) rfl rfl hl.1 rfl (Nat.le_of_ble_eq_true rfl) dX12_tiresActs_51 (by exact ⟨Nat.zero_le _, Nat.zero_le _⟩)) hS (fun r u H locs hq hP hS => ?_)
      obtain ⟨rfl, htN4, hkN4⟩ := hq
      generalize u = N4 at hP htN4 hkN4
      have hP : gP D cy B z T (gI o 12 N4 I0) R H := hP
      have haN4 : N4 0 27 = nI kd := (hkN4 0 27 (by unfold tS; omega)).trans haN3
      have hbN4 : N4 0 28 = nI nu := (hkN4 0 28 (by unfold tS; omega)).trans hbN3
      have hcN4 : N4 0 29 = nI vv := (hkN4 0 29 (by unfold tS; omega)).trans hcN3
      refine lv_iadd X.1 X.2.1 dX12_tiresActs_54 ?_
      exact g_iret N4 X hr hlk hK hP hS dX12_tiresActs_55 ⟨(by unfold aT; rw [if_neg (show ¬ (kd = 3 ∨ kd = 6) by have := gt_0 c8; omega), if_pos n31] <;> rfl), (by have h9 := htN4; unfold aT; rw [if_neg (show ¬ (kd = 3 ∨ kd = 6) by have := gt_0 c8; omega), if_pos n31]; simpa [aPL, List.append_assoc] using h9), fun b i h => ((hkN4 b i h).trans ((hkN3 b i h).trans ((hkN2 b i h).trans rfl)))⟩
  · refine lv_aload_n X.1 X.2.1 dX12_tiresActs_11 rfl (lv_at hl 0 rfl) ?_
    refine lv_bipush (v := 31) X.1 X.2.1 dX12_tiresActs_12 (by decide) ?_
    refine g_run_v (g_runV (k := 14) [.int 31] X hK hP hS hC hB (c_ranBody hM htr (by (try simp only [List.length_append, List.length_cons, List.length_nil]); have := aPT_n kd nu vv x; have := aPT_n kd nu vv (x - 1); omega) 31) (cwV 1 X.2.2.2.2 gX12_tiresActs_X12_ranBody rfl rfl rfl (by decide +kernel) ⟨Nat.le_of_ble_eq_true rfl, Nat.le_of_ble_eq_true rfl⟩) (hM.1 0 _ rfl) rfl rfl hl.1 rfl (Nat.le_of_ble_eq_true rfl) dX12_tiresActs_14 (by exact ⟨Nat.zero_le _, Nat.zero_le _⟩)) hS (fun u H locs hq hP hS => ?_)
    obtain ⟨htN5, hkN5⟩ := hq
    generalize u = N5 at hP htN5 hkN5
    have hP : gP D cy B z T (gI o 12 N5 I0) R H := hP
    have haN5 : N5 0 27 = nI kd := (hkN5 0 27 (by unfold tS; omega)).trans h27
    have hbN5 : N5 0 28 = nI nu := (hkN5 0 28 (by unfold tS; omega)).trans h28
    have hcN5 : N5 0 29 = nI vv := (hkN5 0 29 (by unfold tS; omega)).trans h29
    refine lv_aload_n X.1 X.2.1 dX12_tiresActs_17 rfl (lv_at hl 0 rfl) ?_
    refine lv_iload_n X.1 X.2.1 dX12_tiresActs_18 rfl (lv_at hl 1 rfl) ?_
    refine g_run_i (g_runV (k := 14) [.int x] X hK hP hS hC hB (c_plainTires hM haN5 hbN5 hcN5 hkd htN5 (by (try simp only [List.length_append, List.length_cons, List.length_nil]); have := aPT_n kd nu vv x; have := aPT_n kd nu vv (x - 1); omega) x) (cwV 1 X.2.2.2.2 gX12_tiresActs_X12_plainTires rfl rfl rfl (by decide +kernel) ⟨Nat.le_of_ble_eq_true rfl, Nat.le_of_ble_eq_true rfl⟩) (hM.1 0 _ rfl) rfl rfl hl.1 rfl (Nat.le_of_ble_eq_true rfl) dX12_tiresActs_19 (by exact ⟨Nat.zero_le _, Nat.zero_le _⟩)) hS (fun r u H locs hq hP hS => ?_)
    obtain ⟨rfl, htN6, hkN6⟩ := hq
    generalize u = N6 at hP htN6 hkN6
    have hP : gP D cy B z T (gI o 12 N6 I0) R H := hP
    have haN6 : N6 0 27 = nI kd := (hkN6 0 27 (by unfold tS; omega)).trans haN5
    have hbN6 : N6 0 28 = nI nu := (hkN6 0 28 (by unfold tS; omega)).trans hbN5
    have hcN6 : N6 0 29 = nI vv := (hkN6 0 29 (by unfold tS; omega)).trans hcN5
    refine lv_bipush (v := 7) X.1 X.2.1 dX12_tiresActs_22 (by decide) ?_
    refine lv_ixor X.1 X.2.1 dX12_tiresActs_24 ?_
    exact g_iret N6 X hr hlk hK hP hS dX12_tiresActs_25 ⟨(by unfold aT; rw [if_pos (show kd = 3 ∨ kd = 6 by have := gt_1 c8; omega)] <;> rfl), (by have h9 := htN6; unfold aT; rw [if_pos (show kd = 3 ∨ kd = 6 by have := gt_1 c8; omega)]; simpa [aPL, List.append_assoc] using h9), fun b i h => ((hkN6 b i h).trans ((hkN5 b i h).trans rfl))⟩

set_option maxHeartbeats 4000000 in
set_option maxRecDepth 100000 in
/-- c_act_n -/
theorem c_act_n (hM : gMod o T R) (hi : mInv M σ fl ti sh K τ ms) {v q x : Int32} (hno : ¬ ((0 ≤ v ∧ v ≤ nI (σ 38) - 1) ∧ (0 ≤ q ∧ q ≤ 2))) : Met l yX12_act wsX12_act ({ frames := 2, cells := 0, slots := 0, locals := 43 }) (mPre s0 D cy B o z T R I0 M [.int v, .int q, .int x]) (mQi D cy B o z T R I0 (fun r u => r = 0 ∧ u = g2 M 0 26 0)) 0 0 (gA B) := by
  refine g_met (maxL := 4) (ret := (some .int)) (by decide) rfl (Nat.le_of_ble_eq_true rfl) (fun p e s m args below meth c ls X hr hlk hnm hK hP hC hS hl => ?_)
  have hl : lv_has ls 4 [(0, .ref o), (1, .int v), (2, .int q), (3, .int x)] := hl
  have hP : gP D cy B z T (gI o 12 M I0) R s.heap := hP
  have hB : B ≤ s.heap.size := by rw [hP.1]; exact hP.2.1
  have hin : ∀ w ∈ wsX120, w ∈ wsX12_act := fun _ h => List.mem_cons_of_mem _ (List.mem_append_right _ h)
  have k9 : Cond.fieldLink RX12 9 "BarrowPlankModel" "s" "[I" ∈ wsX12_act := by decide +kernel
  have k249 : Cond.fieldLink RX12 249 "BarrowPlankModel" "ran" "I" ∈ wsX12_act := by decide +kernel
  have k255 : Cond.fieldLink RX12 255 "BarrowPlankModel" "number" "I" ∈ wsX12_act := by decide +kernel
  have k258 : Cond.fieldLink RX12 258 "BarrowPlankModel" "kind" "I" ∈ wsX12_act := by decide +kernel
  have k270 : Cond.fieldLink RX12 270 "BarrowPlankModel" "tellsV" "I" ∈ wsX12_act := by decide +kernel
  have hσ := hi.1
  have hs := hi.2.1
  have hb := hi.2.2.1
  have hca := hi.2.2.2
  refine lv_aload_n X.1 X.2.1 dX12_act_0 rfl (lv_at hl 0 rfl) ?_
  refine lv_iconst (v := 0) X.1 X.2.1 dX12_act_1 (by decide) ?_
  refine m_puti 26 X hK hP hS hM hin rfl (by decide) k249 rfl rfl rfl rfl dX12_act_2 (fun H locs hP hS => ?_)
  generalize eM1 : g2 M 0 26 0 = M1 at hP
  have hi1 : M1 1 38 = M 1 38 := gs_ne eM1 (by omega) rfl
  refine lv_aload_n X.1 X.2.1 dX12_act_5 rfl (lv_at hl 0 rfl) ?_
  refine lv_iload_n X.1 X.2.1 dX12_act_6 rfl (lv_at hl 1 rfl) ?_
  refine g_run_i (g_runV (k := 14) [.int v] X hK hP hS hC hB (c_isMan hM _ v) (cwV 1 X.2.2.2.2 gX12_act_X12_isMan rfl rfl rfl (by decide +kernel) ⟨Nat.le_of_ble_eq_true rfl, Nat.le_of_ble_eq_true rfl⟩) (hM.1 0 _ rfl) rfl rfl hl.1 rfl (Nat.le_of_ble_eq_true rfl) dX12_act_7 (by exact ⟨Nat.zero_le _, Nat.zero_le _⟩)) hS (fun r u H locs hq hP hS => ?_)
  obtain ⟨rfl, rfl⟩ := hq
  have hP : gP D cy B z T (gI o 12 M1 I0) R H := hP
  refine lv_if_eq (tgt := 22) X.1 X.2.1 dX12_act_10 (by decide) (fun c10 => ?_) (fun c10 => ?_)
  · refine lv_iconst (v := 0) X.1 X.2.1 dX12_act_22 (by decide) ?_
    exact g_iret M1 X hr hlk hK hP hS dX12_act_23 ⟨rfl, (by rw [← eM1])⟩
  · refine lv_iload_n X.1 X.2.1 dX12_act_13 rfl (lv_at hl 2 rfl) ?_
    refine lv_iconst (v := 0) X.1 X.2.1 dX12_act_14 (by decide) ?_
    refine lv_iconst (v := 2) X.1 X.2.1 dX12_act_15 (by decide) ?_
    refine g_run_i (g_runS [.int q, .int 0, .int 2] X hK hP hS hC hB (c_in _ q 0 2) (va_cwS 3 X.2.2.2.2 gX12_act_X12_in rfl rfl rfl (by decide +kernel) ⟨Nat.le_of_ble_eq_true rfl, Nat.le_of_ble_eq_true rfl⟩) rfl hl.1 rfl (Nat.le_of_ble_eq_true rfl) dX12_act_16 (by exact ⟨Nat.zero_le _, Nat.zero_le _⟩)) hS (fun r u H locs hq hP hS => ?_)
    obtain ⟨rfl, rfl⟩ := hq
    have hP : gP D cy B z T (gI o 12 M1 I0) R H := hP
    refine lv_if_ne (tgt := 24) X.1 X.2.1 dX12_act_19 (by decide) (fun c19 => ?_) (fun c19 => ?_)
    · exact absurd ⟨(by have h9 := gt_1 c10; rw [hi1, hσ 38 (by decide) (by decide)] at h9; exact h9), gt_1 c19⟩ hno
    · refine lv_iconst (v := 0) X.1 X.2.1 dX12_act_22 (by decide) ?_
      exact g_iret M1 X hr hlk hK hP hS dX12_act_23 ⟨rfl, (by rw [← eM1])⟩

def aA (σ : Nat → Nat) (μ q : Nat) (x : Int32) : Int32 × List Nat := if q = 0 then aL (σ (44 + μ)) μ x else if q = 1 then aG (σ (44 + μ)) μ (σ (48 + μ)) x else aT (σ (44 + μ)) μ (σ (48 + μ)) x
set_option maxHeartbeats 4000000 in
set_option maxRecDepth 100000 in
/-- c_act -/
theorem c_act (hM : gMod o T R) (hi : mInv M σ fl ti sh K τ ms) {μ : Nat} (hμn : μ < σ 38) {q : Nat} (hq2 : q ≤ 2) (x : Int32) : Met l yX12_act wsX12_act ({ frames := 7, cells := 0, slots := 0, locals := 148 }) (mPre s0 D cy B o z T R I0 M [.int (nI μ), .int (nI q), .int x]) (mQi D cy B o z T R I0 (fun r u => r = (aA σ μ q x).1 ∧ mTr u (aA σ μ q x).2 ∧ ∀ b i, ¬ (b = 11 ∨ (b = 0 ∧ (26 ≤ i ∧ i ≤ 29))) → u b i = M b i)) 0 0 (gA B) := by
  refine g_met (maxL := 4) (ret := (some .int)) (by decide) rfl (Nat.le_of_ble_eq_true rfl) (fun p e s m args below meth c ls X hr hlk hnm hK hP hC hS hl => ?_)
  have hl : lv_has ls 4 [(0, .ref o), (1, .int (nI μ)), (2, .int (nI q)), (3, .int x)] := hl
  have hP : gP D cy B z T (gI o 12 M I0) R s.heap := hP
  have hB : B ≤ s.heap.size := by rw [hP.1]; exact hP.2.1
  have hin : ∀ w ∈ wsX120, w ∈ wsX12_act := fun _ h => List.mem_cons_of_mem _ (List.mem_append_right _ h)
  have k9 : Cond.fieldLink RX12 9 "BarrowPlankModel" "s" "[I" ∈ wsX12_act := by decide +kernel
  have k249 : Cond.fieldLink RX12 249 "BarrowPlankModel" "ran" "I" ∈ wsX12_act := by decide +kernel
  have k255 : Cond.fieldLink RX12 255 "BarrowPlankModel" "number" "I" ∈ wsX12_act := by decide +kernel
  have k258 : Cond.fieldLink RX12 258 "BarrowPlankModel" "kind" "I" ∈ wsX12_act := by decide +kernel
  have k270 : Cond.fieldLink RX12 270 "BarrowPlankModel" "tellsV" "I" ∈ wsX12_act := by decide +kernel
  have hσ := hi.1
  have hs := hi.2.1
  have hb := hi.2.2.1
  have hca := hi.2.2.2
  have hμ : μ < 4 := Nat.lt_of_lt_of_le hμn hi.2.2.1.2.2.2.2.1
  have h38 := hμn
  have b44 : σ (44 + μ) ≤ 6 := (hb.2.2.2.2.2.2.2.2.1 μ hμ).1
  refine lv_aload_n X.1 X.2.1 dX12_act_0 rfl (lv_at hl 0 rfl) ?_
  refine lv_iconst (v := 0) X.1 X.2.1 dX12_act_1 (by decide) ?_
  refine m_puti 26 X hK hP hS hM hin rfl (by decide) k249 rfl rfl rfl rfl dX12_act_2 (fun H locs hP hS => ?_)
  generalize eM1 : g2 M 0 26 0 = M1 at hP
  have hmn : 0 ≤ nI μ ∧ nI μ ≤ M1 1 38 - 1 := by rw [gs_ne eM1 (by omega) rfl]; exact g_man hi hμn
  refine lv_aload_n X.1 X.2.1 dX12_act_5 rfl (lv_at hl 0 rfl) ?_
  refine lv_iload_n X.1 X.2.1 dX12_act_6 rfl (lv_at hl 1 rfl) ?_
  refine g_run_i (g_runV (k := 14) [.int (nI μ)] X hK hP hS hC hB (c_isMan hM _ (nI μ)) (cwV 1 X.2.2.2.2 gX12_act_X12_isMan rfl rfl rfl (by decide +kernel) ⟨Nat.le_of_ble_eq_true rfl, Nat.le_of_ble_eq_true rfl⟩) (hM.1 0 _ rfl) rfl rfl hl.1 rfl (Nat.le_of_ble_eq_true rfl) dX12_act_7 (by exact ⟨Nat.zero_le _, Nat.zero_le _⟩)) hS (fun r u H locs hq hP hS => ?_)
  obtain ⟨rfl, rfl⟩ := hq
  have hP : gP D cy B z T (gI o 12 M1 I0) R H := hP
  refine lv_if_eq (tgt := 22) X.1 X.2.1 dX12_act_10 (by decide) (fun c10 => ?_) (fun c10 => ?_)
  · exact absurd hmn (gt_0 c10)
  · refine lv_iload_n X.1 X.2.1 dX12_act_13 rfl (lv_at hl 2 rfl) ?_
    refine lv_iconst (v := 0) X.1 X.2.1 dX12_act_14 (by decide) ?_
    refine lv_iconst (v := 2) X.1 X.2.1 dX12_act_15 (by decide) ?_
    refine g_run_i (g_runS [.int (nI q), .int 0, .int 2] X hK hP hS hC hB (c_in _ (nI q) 0 2) (va_cwS 3 X.2.2.2.2 gX12_act_X12_in rfl rfl rfl (by decide +kernel) ⟨Nat.le_of_ble_eq_true rfl, Nat.le_of_ble_eq_true rfl⟩) rfl hl.1 rfl (Nat.le_of_ble_eq_true rfl) dX12_act_16 (by exact ⟨Nat.zero_le _, Nat.zero_le _⟩)) hS (fun r u H locs hq hP hS => ?_)
    obtain ⟨rfl, rfl⟩ := hq
    have hP : gP D cy B z T (gI o 12 M1 I0) R H := hP
    refine lv_if_ne (tgt := 24) X.1 X.2.1 dX12_act_19 (by decide) (fun c19 => ?_) (fun c19 => ?_)
    · refine lv_aload_n X.1 X.2.1 dX12_act_24 rfl (lv_at hl 0 rfl) ?_
      refine lv_aload_n X.1 X.2.1 dX12_act_25 rfl (lv_at hl 0 rfl) ?_
      refine m_getr 1 1 X hK hP hM hin rfl (by decide) k9 rfl dX12_act_26 (by decide) ?_
      refine lv_bipush (v := 44) X.1 X.2.1 dX12_act_29 (by decide) ?_
      refine lv_iload_n X.1 X.2.1 dX12_act_31 rfl (lv_at hl 1 rfl) ?_
      refine lv_iadd X.1 X.2.1 dX12_act_32 ?_
      refine m_ald 1 (44 + μ) 883 X hK hP hM rfl (gIx_of (gn_add (show (44 : Int32) = nI 44 from rfl) (Eq.refl (nI μ))) (by omega) (by omega)) dX12_act_33 (show M1 1 (44 + μ) = nI (σ (44 + μ)) from (gs_ne eM1 (by omega) (hσ (44 + μ) (by omega) (by omega)))) ?_
      refine m_puti 27 X hK hP hS hM hin rfl (by decide) k258 rfl rfl rfl rfl dX12_act_34 (fun H locs hP hS => ?_)
      generalize eM2 : g2 M1 0 27 (nI (σ (44 + μ))) = M2 at hP
      refine lv_aload_n X.1 X.2.1 dX12_act_37 rfl (lv_at hl 0 rfl) ?_
      refine lv_iload_n X.1 X.2.1 dX12_act_38 rfl (lv_at hl 1 rfl) ?_
      refine m_puti 28 X hK hP hS hM hin rfl (by decide) k255 rfl rfl rfl rfl dX12_act_39 (fun H locs hP hS => ?_)
      generalize eM3 : g2 M2 0 28 (nI μ) = M3 at hP
      refine lv_aload_n X.1 X.2.1 dX12_act_42 rfl (lv_at hl 0 rfl) ?_
      refine lv_aload_n X.1 X.2.1 dX12_act_43 rfl (lv_at hl 0 rfl) ?_
      refine m_getr 1 1 X hK hP hM hin rfl (by decide) k9 rfl dX12_act_44 (by decide) ?_
      refine lv_bipush (v := 48) X.1 X.2.1 dX12_act_47 (by decide) ?_
      refine lv_iload_n X.1 X.2.1 dX12_act_49 rfl (lv_at hl 1 rfl) ?_
      refine lv_iadd X.1 X.2.1 dX12_act_50 ?_
      refine m_ald 1 (48 + μ) 883 X hK hP hM rfl (gIx_of (gn_add (show (48 : Int32) = nI 48 from rfl) (Eq.refl (nI μ))) (by omega) (by omega)) dX12_act_51 (show M3 1 (48 + μ) = nI (σ (48 + μ)) from (gs_ne eM3 (by omega) (gs_ne eM2 (by omega) (gs_ne eM1 (by omega) (hσ (48 + μ) (by omega) (by omega)))))) ?_
      refine m_puti 29 X hK hP hS hM hin rfl (by decide) k270 rfl rfl rfl rfl dX12_act_52 (fun H locs hP hS => ?_)
      generalize eM4 : g2 M3 0 29 (nI (σ (48 + μ))) = M4 at hP
      have a27 : M4 0 27 = nI (σ (44 + μ)) := (gs_ne eM4 (by omega) (gs_ne eM3 (by omega) (gs_same eM2)))
      have a28 : M4 0 28 = nI μ := (gs_ne eM4 (by omega) (gs_same eM3))
      have a29 : M4 0 29 = nI (σ (48 + μ)) := (gs_same eM4)
      have atr : mTr M4 [] := ⟨(gs_ne eM4 (by omega) (gs_ne eM3 (by omega) (gs_ne eM2 (by omega) (gs_same eM1)))), fun k hk => absurd hk (Nat.not_lt_zero k)⟩
      have akp : ∀ b i, ¬ (b = 0 ∧ (i = 26 ∨ i = 27 ∨ i = 28 ∨ i = 29)) → M4 b i = M b i := fun b i h => (gs_ne eM4 (by omega) (gs_ne eM3 (by omega) (gs_ne eM2 (by omega) (gs_ne eM1 (by omega) rfl))))
      refine lv_iload_n X.1 X.2.1 dX12_act_55 rfl (lv_at hl 2 rfl) ?_
      refine lv_if_ne (tgt := 67) X.1 X.2.1 dX12_act_56 (by decide) (fun c56 => ?_) (fun c56 => ?_)
      · have n56 : ¬ q = 0 := gq_ne c56 (Eq.refl (nI q)) (show (0 : Int32) = nI 0 from rfl) (by omega) (by omega)
        refine lv_iload_n X.1 X.2.1 dX12_act_67 rfl (lv_at hl 2 rfl) ?_
        refine lv_iconst (v := 1) X.1 X.2.1 dX12_act_68 (by decide) ?_
        refine lv_icmp_ne (tgt := 80) X.1 X.2.1 dX12_act_69 (by decide) (fun c69 => ?_) (fun c69 => ?_)
        · have n69 : ¬ q = 1 := gq_ne c69 (Eq.refl (nI q)) (show (1 : Int32) = nI 1 from rfl) (by omega) (by omega)
          refine lv_aload_n X.1 X.2.1 dX12_act_80 rfl (lv_at hl 0 rfl) ?_
          refine lv_iload_n X.1 X.2.1 dX12_act_81 rfl (lv_at hl 3 rfl) ?_
          refine g_run_i (g_runV (k := 14) [.int x] X hK hP hS hC hB (c_tiresActs hM a27 a28 a29 b44 atr (by decide) x) (cwV 1 X.2.2.2.2 gX12_act_X12_tiresActs rfl rfl rfl (by decide +kernel) ⟨Nat.le_of_ble_eq_true rfl, Nat.le_of_ble_eq_true rfl⟩) (hM.1 0 _ rfl) rfl rfl hl.1 rfl (Nat.le_of_ble_eq_true rfl) dX12_act_82 (by exact ⟨Nat.zero_le _, Nat.zero_le _⟩)) hS (fun r u H locs hq hP hS => ?_)
          obtain ⟨rfl, htN5, hkN5⟩ := hq
          generalize u = N5 at hP htN5 hkN5
          have hP : gP D cy B z T (gI o 12 N5 I0) R H := hP
          exact g_iret N5 X hr hlk hK hP hS dX12_act_85 ⟨(by unfold aA; rw [if_neg n56, if_neg n69]), (by have h9 := htN5; unfold aA; rw [if_neg n56, if_neg n69]; exact h9), fun b i h => (hkN5 b i (by unfold tS; omega)).trans (akp b i (by omega))⟩
        · have n69 : q = 1 := gq_eq c69 (Eq.refl (nI q)) (show (1 : Int32) = nI 1 from rfl) (by omega) (by omega)
          refine lv_aload_n X.1 X.2.1 dX12_act_72 rfl (lv_at hl 0 rfl) ?_
          refine lv_iload_n X.1 X.2.1 dX12_act_73 rfl (lv_at hl 3 rfl) ?_
          refine g_run_i (g_runV (k := 14) [.int x] X hK hP hS hC hB (c_goesActs hM a27 a28 a29 b44 atr (by decide) x) (cwV 1 X.2.2.2.2 gX12_act_X12_goesActs rfl rfl rfl (by decide +kernel) ⟨Nat.le_of_ble_eq_true rfl, Nat.le_of_ble_eq_true rfl⟩) (hM.1 0 _ rfl) rfl rfl hl.1 rfl (Nat.le_of_ble_eq_true rfl) dX12_act_74 (by exact ⟨Nat.zero_le _, Nat.zero_le _⟩)) hS (fun r u H locs hq hP hS => ?_)
          obtain ⟨rfl, htN6, hkN6⟩ := hq
          generalize u = N6 at hP htN6 hkN6
          have hP : gP D cy B z T (gI o 12 N6 I0) R H := hP
          refine lv_goto (tgt := 85) X.1 X.2.1 dX12_act_77 (by decide) ?_
          exact g_iret N6 X hr hlk hK hP hS dX12_act_85 ⟨(by unfold aA; rw [if_neg n56, if_pos n69]), (by have h9 := htN6; unfold aA; rw [if_neg n56, if_pos n69]; exact h9), fun b i h => (hkN6 b i (by unfold tS; omega)).trans (akp b i (by omega))⟩
      · have n56 : q = 0 := gq_eq c56 (Eq.refl (nI q)) (show (0 : Int32) = nI 0 from rfl) (by omega) (by omega)
        refine lv_aload_n X.1 X.2.1 dX12_act_59 rfl (lv_at hl 0 rfl) ?_
        refine lv_iload_n X.1 X.2.1 dX12_act_60 rfl (lv_at hl 3 rfl) ?_
        refine g_run_i (g_runV (k := 14) [.int x] X hK hP hS hC hB (c_liftsActs hM a27 a28 a29 b44 atr (by decide) x) (cwV 1 X.2.2.2.2 gX12_act_X12_liftsActs rfl rfl rfl (by decide +kernel) ⟨Nat.le_of_ble_eq_true rfl, Nat.le_of_ble_eq_true rfl⟩) (hM.1 0 _ rfl) rfl rfl hl.1 rfl (Nat.le_of_ble_eq_true rfl) dX12_act_61 (by exact ⟨Nat.zero_le _, Nat.zero_le _⟩)) hS (fun r u H locs hq hP hS => ?_)
        obtain ⟨rfl, htN7, hkN7⟩ := hq
        generalize u = N7 at hP htN7 hkN7
        have hP : gP D cy B z T (gI o 12 N7 I0) R H := hP
        refine lv_goto (tgt := 85) X.1 X.2.1 dX12_act_64 (by decide) ?_
        exact g_iret N7 X hr hlk hK hP hS dX12_act_85 ⟨(by unfold aA; rw [if_pos n56]), (by have h9 := htN7; unfold aA; rw [if_pos n56]; exact h9), fun b i h => (hkN7 b i (by unfold tS; omega)).trans (akp b i (by omega))⟩
    · exact absurd (g_le (a := 0) (b := 2) (x := 0) (y := 2) rfl rfl (by omega) (by omega) (by omega)) (gt_0 c19)

end MY9
