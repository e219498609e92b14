def gLit (s0 : State) (B : Nat) (own : String) (k : Nat) (w : String) (tx : List Nat) : Prop := ∃ a q, vk_R own k w a s0 ∧ gSo s0 B tx a q ∧ gTx tx
def gLits : List (String × Nat × String × List Nat) := [(RX12, 99, "ysublk", [121, 115, 117, 98, 108, 107]), (RX12, 105, "<=>", [60, 61, 62]), (RX12, 117, "pill ", [112, 105, 108, 108, 32]), (RX12, 123, "hovel ", [104, 111, 118, 101, 108, 32]), (RX12, 128, "pace ", [112, 97, 99, 101, 32]), (RX12, 130, "ease ", [101, 97, 115, 101, 32]), (RX12, 135, "tire ", [116, 105, 114, 101, 32]), (RX4, 31, "pace", [112, 97, 99, 101]), (RX4, 33, "ease", [101, 97, 115, 101]), (RX4, 35, "spill", [115, 112, 105, 108, 108]), (RX4, 37, "tire", [116, 105, 114, 101]), (RX4, 38, "shovel", [115, 104, 111, 118, 101, 108]), (RX5, 101, "!", [33]), (RX5, 103, "(", [40]), (RX5, 105, ")", [41]), (RX5, 110, "ysublk", [121, 115, 117, 98, 108, 107]), (RX5, 112, "<=>", [60, 61, 62]), (RX5, 39, ";", [59]), (RX5, 49, " ", [32]), (RX5, 85, "0123456789", [48, 49, 50, 51, 52, 53, 54, 55, 56, 57]), (RX5, 97, "&", [38]), (RX5, 99, "|", [124])]
def gStr (s0 : State) (B : Nat) : Prop := gSt2 s0 B ∧ ∀ e ∈ gLits, gLit s0 B e.1 e.2.1 e.2.2.1 e.2.2.2
theorem gStr.at {s0 : State} {B : Nat} (h : gStr s0 B) (k : Nat) {e : String × Nat × String × List Nat} (hk : gLits[k]? = some e) : gLit s0 B e.1 e.2.1 e.2.2.1 e.2.2.2 := h.2 e (List.mem_of_getElem? hk)
abbrev rmP (fr lo : Nat) : Room := { frames := fr, cells := 0, slots := 0, locals := lo }

section NC
variable {l : Launch} {s0 : State} {D : va_G} {cy : Nat → ClassId} {B o z : Nat} {T : Nat → Nat × Nat} {R : Nat → Nat → Option Nat} {I0 : Nat → Nat → Int32} {M : Nat → Nat → Int32} {tp : Nat → Nat} {n act op fr lo d : Nat} {F : PS → PS}
/-- what a reading method does: F -/
def CalC (l : Launch) (s0 : State) (D : va_G) (cy : Nat → ClassId) (B o z : Nat) (T : Nat → Nat × Nat) (R : Nat → Nat → Option Nat) (I0 : Nat → Nat → Int32) (tp : Nat → Nat) (n act op : Nat) (y : MethodName) (ws : List Cond) (fr lo : Nat) (F : PS → PS) : Prop :=
  ∀ (M : Nat → Nat → Int32) (s1 : PS), mPz M tp n act → mPs M act s1 → M 0 9 = nI op → s1.2.1 ≤ n → s1.2.2.length ≤ s1.2.1 → Met l y ws (rmP fr lo) (mPre s0 D cy B o z T R I0 M []) (mQv D cy B o z T R I0 (fun u => mPs u act (F s1) ∧ mSame (pS act) M u)) 0 0 (gA B)
theorem pLoop_stop {x t : Nat} : ∀ {k : Nat} {c9 : PS}, ¬ (c9.1 = false ∧ sH tp n c9.2.1 = x) → pLoop tp n x t F k c9 = c9
  | 0, _, _ => rfl
  | k + 1, _, h => if_neg h
theorem pLoop_go {x t k : Nat} {c9 : PS} (hk : k < 101) (h : c9.1 = false ∧ sH tp n c9.2.1 = x) : pLoop tp n x t F (101 - k) c9 = pLoop tp n x t F (101 - (k + 1)) (pEm t (F (false, c9.2.1 + 1, c9.2.2))) := by
  rw [show 101 - k = (101 - (k + 1)) + 1 by omega]
  exact if_pos h

set_option maxHeartbeats 4000000 in
set_option maxRecDepth 100000 in
/-- factor, wrong already -/
theorem c_factor_w (hM : gMod o T R) (h8 : M 0 8 = 1) : Met l yX12_factor wsX12_factor ({ frames := 0, cells := 0, slots := 0, locals := 0 }) (mPre s0 D cy B o z T R I0 M []) (mQv D cy B o z T R I0 (fun u => M = u)) 0 0 (gA B) := by
  refine g_met (maxL := 5) (ret := none) (by decide) rfl (Nat.le_of_ble_eq_true rfl) (fun p e s m args below meth c ls X hr hlk hnm hK hP hC hS hl => ?_)
  have hl : lv_has ls 5 [(0, .ref o)] := hl
  have hP : gP D cy B z T (gI o 12 M I0) R s.heap := hP
  have hB : B ≤ s.heap.size := by rw [hP.1]; exact hP.2.1
  have hin : ∀ w ∈ wsX120, w ∈ wsX12_factor := fun _ h => List.mem_cons_of_mem _ (List.mem_append_right _ h)
  have k57 : Cond.fieldLink RX12 57 "BarrowPlankModel" "spot" "I" ∈ wsX12_factor := by decide +kernel
  have k63 : Cond.fieldLink RX12 63 "BarrowPlankModel" "isWrong" "Z" ∈ wsX12_factor := by decide +kernel
  have k87 : Cond.fieldLink RX12 87 "BarrowPlankModel" "open" "I" ∈ wsX12_factor := by decide +kernel
  refine lv_aload_n X.1 X.2.1 dX12_factor_0 rfl (lv_at hl 0 rfl) ?_
  refine m_geti 8 X hK hP hM hin rfl (by decide) k63 rfl dX12_factor_1 (show M 0 8 = 1 from h8) ?_
  refine lv_if_eq (tgt := 8) X.1 X.2.1 dX12_factor_4 (by decide) (fun c4 => ?_) (fun c4 => ?_)
  · exact absurd c4 (by decide)
  · exact g_vret M X hr hlk hK hP hS dX12_factor_7 rfl

set_option maxHeartbeats 4000000 in
set_option maxRecDepth 100000 in
/-- every, wrong already -/
theorem c_every_w (hM : gMod o T R) (h8 : M 0 8 = 1) : Met l yX12_every wsX12_every ({ frames := 1, cells := 0, slots := 0, locals := 24 }) (mPre s0 D cy B o z T R I0 M []) (mQv D cy B o z T R I0 (fun u => M = u)) 0 0 (gA B) := by
  refine g_met (maxL := 1) (ret := none) (by decide) rfl (Nat.le_of_ble_eq_true rfl) (fun p e s m args below meth c ls X hr hlk hnm hK hP hC hS hl => ?_)
  have hl : lv_has ls 1 [(0, .ref o)] := hl
  have hP : gP D cy B z T (gI o 12 M I0) R s.heap := hP
  have hB : B ≤ s.heap.size := by rw [hP.1]; exact hP.2.1
  have hin : ∀ w ∈ wsX120, w ∈ wsX12_every := fun _ h => List.mem_cons_of_mem _ (List.mem_append_right _ h)
  have k57 : Cond.fieldLink RX12 57 "BarrowPlankModel" "spot" "I" ∈ wsX12_every := by decide +kernel
  have k63 : Cond.fieldLink RX12 63 "BarrowPlankModel" "isWrong" "Z" ∈ wsX12_every := by decide +kernel
  refine lv_aload_n X.1 X.2.1 dX12_every_0 rfl (lv_at hl 0 rfl) ?_
  refine g_run_v (g_runV (k := 14) [] X hK hP hS hC hB (c_factor_w hM h8) (cwV 0 X.2.2.2.2 gX12_every_X12_factor rfl rfl rfl (by decide +kernel) ⟨Nat.le_of_ble_eq_true rfl, Nat.le_of_ble_eq_true rfl⟩) (hM.1 0 _ rfl) rfl rfl hl.1 rfl (Nat.le_of_ble_eq_true rfl) dX12_every_1 (by exact ⟨Nat.zero_le _, Nat.zero_le _⟩)) hS (fun u H locs hq hP hS => ?_)
  obtain rfl := hq
  have hP : gP D cy B z T (gI o 12 M I0) R H := hP
  refine lv_aload_n X.1 X.2.1 dX12_every_4 rfl (lv_at hl 0 rfl) ?_
  refine m_geti 8 X hK hP hM hin rfl (by decide) k63 rfl dX12_every_5 (show M 0 8 = 1 from h8) ?_
  refine lv_if_ne (tgt := 43) X.1 X.2.1 dX12_every_8 (by decide) (fun c8 => ?_) (fun c8 => ?_)
  · exact g_vret M X hr hlk hK hP hS dX12_every_43 rfl
  · exact absurd c8 (by decide)

set_option maxHeartbeats 4000000 in
set_option maxRecDepth 100000 in
/-- some, wrong already -/
theorem c_some_w (hM : gMod o T R) (h8 : M 0 8 = 1) : Met l yX12_some wsX12_some ({ frames := 2, cells := 0, slots := 0, locals := 44 }) (mPre s0 D cy B o z T R I0 M []) (mQv D cy B o z T R I0 (fun u => M = u)) 0 0 (gA B) := by
  refine g_met (maxL := 1) (ret := none) (by decide) rfl (Nat.le_of_ble_eq_true rfl) (fun p e s m args below meth c ls X hr hlk hnm hK hP hC hS hl => ?_)
  have hl : lv_has ls 1 [(0, .ref o)] := hl
  have hP : gP D cy B z T (gI o 12 M I0) R s.heap := hP
  have hB : B ≤ s.heap.size := by rw [hP.1]; exact hP.2.1
  have hin : ∀ w ∈ wsX120, w ∈ wsX12_some := fun _ h => List.mem_cons_of_mem _ (List.mem_append_right _ h)
  have k57 : Cond.fieldLink RX12 57 "BarrowPlankModel" "spot" "I" ∈ wsX12_some := by decide +kernel
  have k63 : Cond.fieldLink RX12 63 "BarrowPlankModel" "isWrong" "Z" ∈ wsX12_some := by decide +kernel
  refine lv_aload_n X.1 X.2.1 dX12_some_0 rfl (lv_at hl 0 rfl) ?_
  refine g_run_v (g_runV (k := 14) [] X hK hP hS hC hB (c_every_w hM h8) (cwV 0 X.2.2.2.2 gX12_some_X12_every rfl rfl rfl (by decide +kernel) ⟨Nat.le_of_ble_eq_true rfl, Nat.le_of_ble_eq_true rfl⟩) (hM.1 0 _ rfl) rfl rfl hl.1 rfl (Nat.le_of_ble_eq_true rfl) dX12_some_1 (by exact ⟨Nat.zero_le _, Nat.zero_le _⟩)) hS (fun u H locs hq hP hS => ?_)
  obtain rfl := hq
  have hP : gP D cy B z T (gI o 12 M I0) R H := hP
  refine lv_aload_n X.1 X.2.1 dX12_some_4 rfl (lv_at hl 0 rfl) ?_
  refine m_geti 8 X hK hP hM hin rfl (by decide) k63 rfl dX12_some_5 (show M 0 8 = 1 from h8) ?_
  refine lv_if_ne (tgt := 43) X.1 X.2.1 dX12_some_8 (by decide) (fun c8 => ?_) (fun c8 => ?_)
  · exact g_vret M X hr hlk hK hP hS dX12_some_43 rfl
  · exact absurd c8 (by decide)

set_option maxHeartbeats 4000000 in
set_option maxRecDepth 100000 in
/-- every -/
theorem c_every_ (hM : gMod o T R) (hz : mPz M tp n act) {s1 : PS} (hp : mPs M act s1) (ho : M 0 9 = nI op) (hi3 : s1.2.1 ≤ n) (hL : s1.2.2.length ≤ s1.2.1) (hW : pW n F) (hF : CalC l s0 D cy B o z T R I0 tp n act op yX12_factor wsX12_factor fr lo F) : Met l yX12_every wsX12_every (rmP (fr + 1) (lo + 24)) (mPre s0 D cy B o z T R I0 M []) (mQv D cy B o z T R I0 (fun u => mPs u act (pEvery tp n F s1) ∧ mSame (pS act) M u)) 0 0 (gA B) := by
  refine g_met (maxL := 1) (ret := none) (by decide) rfl (Nat.le_of_ble_eq_true rfl) (fun p e s m args below meth c ls X hr hlk hnm hK hP hC hS hl => ?_)
  have hl : lv_has ls 1 [(0, .ref o)] := hl
  have hP : gP D cy B z T (gI o 12 M I0) R s.heap := hP
  have hB : B ≤ s.heap.size := by rw [hP.1]; exact hP.2.1
  have hin : ∀ w ∈ wsX120, w ∈ wsX12_every := fun _ h => List.mem_cons_of_mem _ (List.mem_append_right _ h)
  have k57 : Cond.fieldLink RX12 57 "BarrowPlankModel" "spot" "I" ∈ wsX12_every := by decide +kernel
  have k63 : Cond.fieldLink RX12 63 "BarrowPlankModel" "isWrong" "Z" ∈ wsX12_every := by decide +kernel
  have hn100 := hz.1.2.1
  refine lv_aload_n X.1 X.2.1 dX12_every_0 rfl (lv_at hl 0 rfl) ?_
  refine g_run_v (g_runV (k := 14) [] X hK hP hS hC hB (hF _ s1 hz ⟨hp.1, hp.2⟩ ho hi3 hL) (cwV 0 X.2.2.2.2 gX12_every_X12_factor rfl rfl rfl (by decide +kernel) (by refine ⟨?_, ?_⟩ <;> dsimp only <;> omega)) (hM.1 0 _ rfl) rfl rfl hl.1 rfl (Nat.le_of_ble_eq_true rfl) dX12_every_1 (by exact ⟨Nat.zero_le _, Nat.zero_le _⟩)) hS (fun u H locs hq hP hS => ?_)
  obtain ⟨⟨hqN1, hlsN1⟩, hkN1⟩ := hq
  generalize u = N1 at hP hqN1 hlsN1 hkN1
  have hP : gP D cy B z T (gI o 12 N1 I0) R H := hP
  have hk9N1 : mSame (pS9 act) M N1 := fun b j h => (hkN1 b j (pS9_S h)).trans ((fun _ _ _ => rfl) b j h)
  have hzN1 : mPz N1 tp n act := mPz_9 hz hk9N1
  have hoN1 : N1 0 9 = nI op := (hkN1 0 9 (by unfold pS wS; omega)).trans ho
  have hw0 := hW s1 hi3
  refine m_loop (M := N1) 101 4 [] (fun k Q9 ls => (∃ c9 : PS, mPs Q9 act c9 ∧ c9.2.1 ≤ n ∧ c9.2.2.length ≤ c9.2.1 ∧ k ≤ c9.2.1 ∧ pLoop tp n 38 10001 F 101 (F s1) = pLoop tp n 38 10001 F (101 - k) c9 ∧ mSame (pS act) M Q9) ∧ lv_has ls 1 [(0, .ref o)]) 0 (by omega) ⟨⟨F s1, ⟨hqN1, hlsN1⟩, hw0.2.1, by omega, by omega, rfl, hkN1⟩, lv_sub hl [0] rfl⟩ hP hS (fun k Q9 H locs ls hk hiv hP hS ih => ?_)
  obtain ⟨⟨c9, ⟨hq1, hq2⟩, hq3, hq4, hq5, hq6, hq7⟩, hl⟩ := hiv
  have hk9 : mSame (pS9 act) M Q9 := mSame_wk hq7 (fun _ _ g => Or.inl g)
  have hz9 := mPz_9 hz hk9
  have ho9 : Q9 0 9 = nI op := (hq7 0 9 (by unfold pS wS; omega)).trans ho
  refine lv_aload_n X.1 X.2.1 dX12_every_4 rfl (lv_at hl 0 rfl) ?_
  refine m_geti 8 X hK hP hM hin rfl (by decide) k63 rfl dX12_every_5 (show Q9 0 8 = bI (c9).1 from (hq1.2)) ?_
  refine lv_if_ne (tgt := 43) X.1 X.2.1 dX12_every_8 (by decide) (fun c8 => ?_) (fun c8 => ?_)
  · exact g_vret Q9 X hr hlk hK hP hS dX12_every_43 (by rw [show pEvery tp n F s1 = c9 from hq6.trans (pLoop_stop (fun g => by rw [bI_1 c8] at g; cases g.1))]; exact ⟨⟨hq1, hq2⟩, hq7⟩)
  · have hw9 : c9.1 = false := bI_0 c8
    refine lv_aload_n X.1 X.2.1 dX12_every_11 rfl (lv_at hl 0 rfl) ?_
    refine g_run_i (g_runV (k := 14) [] X hK hP hS hC hB (c_here hM (i := (c9).2.1) hz9 hq1.1 (by have := hz.1.2.1; omega)) (cwV 0 X.2.2.2.2 gX12_every_X12_here rfl rfl rfl (by decide +kernel) (by refine ⟨?_, ?_⟩ <;> dsimp only <;> omega)) (hM.1 0 _ rfl) rfl rfl hl.1 rfl (Nat.le_of_ble_eq_true rfl) dX12_every_12 (by exact ⟨Nat.zero_le _, Nat.zero_le _⟩)) hS (fun r u H locs hq hP hS => ?_)
    obtain ⟨rfl, rfl⟩ := hq
    have hP : gP D cy B z T (gI o 12 Q9 I0) R H := hP
    refine lv_bipush (v := 38) X.1 X.2.1 dX12_every_15 (by decide) ?_
    refine lv_icmp_ne (tgt := 43) X.1 X.2.1 dX12_every_17 (by decide) (fun c17 => ?_) (fun c17 => ?_)
    · exact g_vret Q9 X hr hlk hK hP hS dX12_every_43 (by rw [show pEvery tp n F s1 = c9 from hq6.trans (pLoop_stop (fun g => c17 ((hI_eq (y := 38) (by decide)).mpr g.2)))]; exact ⟨⟨hq1, hq2⟩, hq7⟩)
    · have hgo : c9.1 = false ∧ sH tp n c9.2.1 = 38 := ⟨hw9, (hI_eq (y := 38) (by decide)).mp c17⟩
      have hin9 := sH_in hgo.2 (by decide)
      refine lv_aload_n X.1 X.2.1 dX12_every_20 rfl (lv_at hl 0 rfl) ?_
      refine lv_dup X.1 X.2.1 dX12_every_21 rfl ?_
      refine m_geti 6 X hK hP hM hin rfl (by decide) k57 rfl dX12_every_22 (show Q9 0 6 = nI ((c9).2.1) from (hq1.1)) ?_
      refine lv_iconst (v := 1) X.1 X.2.1 dX12_every_25 (by decide) ?_
      refine lv_iadd X.1 X.2.1 dX12_every_26 ?_
      refine m_puti 6 X hK hP hS hM hin rfl (by decide) k57 rfl rfl rfl rfl dX12_every_27 (fun H locs hP hS => ?_)
      generalize eM2 : g2 Q9 0 6 ((nI ((c9).2.1)) + 1) = M2 at hP
      have hw8 : Q9 0 8 = 0 := by rw [hq1.2, hw9]; rfl
      refine lv_aload_n X.1 X.2.1 dX12_every_30 rfl (lv_at hl 0 rfl) ?_
      have hdy3 : mSame d9 Q9 M2 := fun b j h => by unfold d9 at h; exact (gs_ne eM2 (by omega) rfl)
      have hky3 : mSame (pS9 act) M M2 := fun b j h => (hdy3 b j (d9_S h)).trans (hk9 b j h)
      have hzy3 : mPz M2 tp n act := mPz_9 hz hky3
      have hlsy3 : mLs M2 act c9.2.2 := mLs_d hq2 hdy3
      have hpy3 : mWp M2 (false, c9.2.1 + 1, c9.2.2) := ⟨((gs_same eM2)).trans (gn_eq (x := ((c9).2.1 + 1)) (gn_add (Eq.refl (nI ((c9).2.1))) (show (1 : Int32) = nI 1 from rfl)) (by rfl)), (gs_ne eM2 (by omega) hw8)⟩
      have hoy3 : M2 0 9 = nI op := ((gs_ne eM2 (by omega) ho9)).trans ((Eq.refl (nI op)))
      refine g_run_v (g_runV (k := 14) [] X hK hP hS hC hB (hF _ (false, c9.2.1 + 1, c9.2.2) hzy3 ⟨hpy3, hlsy3⟩ hoy3 (by dsimp only; omega) (by dsimp only; omega)) (cwV 0 X.2.2.2.2 gX12_every_X12_factor rfl rfl rfl (by decide +kernel) (by refine ⟨?_, ?_⟩ <;> dsimp only <;> omega)) (hM.1 0 _ rfl) rfl rfl hl.1 rfl (Nat.le_of_ble_eq_true rfl) dX12_every_31 (by exact ⟨Nat.zero_le _, Nat.zero_le _⟩)) hS (fun u H locs hq hP hS => ?_)
      obtain ⟨⟨hqN4, hlsN4⟩, hkN4⟩ := hq
      generalize u = N4 at hP hqN4 hlsN4 hkN4
      have hP : gP D cy B z T (gI o 12 N4 I0) R H := hP
      have hk9N4 : mSame (pS9 act) M N4 := fun b j h => (hkN4 b j (pS9_S h)).trans (hky3 b j h)
      have hzN4 : mPz N4 tp n act := mPz_9 hz hk9N4
      have hoN4 : N4 0 9 = nI op := (hkN4 0 9 (by unfold pS wS; omega)).trans hoy3
      refine lv_aload_n X.1 X.2.1 dX12_every_34 rfl (lv_at hl 0 rfl) ?_
      refine lv_bipush (v := (-2)) X.1 X.2.1 dX12_every_35 (by decide) ?_
      refine g_run_v (g_runV (k := 14) [.int (-2)] X hK hP hS hC hB (c_emits hM (s1 := F (false, c9.2.1 + 1, c9.2.2)) (t := 10001) hzN4 ⟨hqN4, hlsN4⟩ (by have hw2 := hW (false, c9.2.1 + 1, c9.2.2) (by dsimp only; omega); dsimp only at hw2; omega) (fun _ => by rfl)) (cwV 1 X.2.2.2.2 gX12_every_X12_emits rfl rfl rfl (by decide +kernel) (by refine ⟨?_, ?_⟩ <;> dsimp only <;> omega)) (hM.1 0 _ rfl) rfl rfl hl.1 rfl (Nat.le_of_ble_eq_true rfl) dX12_every_37 (by exact ⟨Nat.zero_le _, Nat.zero_le _⟩)) hS (fun u H locs hq hP hS => ?_)
      obtain ⟨⟨hqN5, hlsN5⟩, hkN5⟩ := hq
      generalize u = N5 at hP hqN5 hlsN5 hkN5
      have hP : gP D cy B z T (gI o 12 N5 I0) R H := hP
      have hk9N5 : mSame (pS9 act) M N5 := fun b j h => (hkN5 b j (pS9_S h)).trans (hk9N4 b j h)
      have hzN5 : mPz N5 tp n act := mPz_9 hz hk9N5
      have hoN5 : N5 0 9 = nI op := (hkN5 0 9 (by unfold pS wS; omega)).trans hoN4
      refine lv_goto (tgt := 4) X.1 X.2.1 dX12_every_40 (by decide) ?_
      have hw1 := hW (false, c9.2.1 + 1, c9.2.2) (by dsimp only; omega)
      dsimp only at hw1
      have hem := pEm_l (t := 10001) (s := F (false, c9.2.1 + 1, c9.2.2))
      exact ih _ _ _ _ (by omega) ⟨⟨_, ⟨hqN5, hlsN5⟩, (by rw [pEm_p]; omega), (by rw [pEm_p]; omega), (by rw [pEm_p]; omega), hq6.trans (pLoop_go (by omega) hgo), fun b j h => by by_cases e9 : b = 0 ∧ j = 9; (· obtain ⟨rfl, rfl⟩ := e9; exact (hoN5).trans ho.symm); exact hk9N5 b j (fun g => g.elim h e9)⟩, lv_sub hl [0] rfl⟩ hP hS

theorem C_every (hM : gMod o T R) (hW : pW n F) (hF : CalC l s0 D cy B o z T R I0 tp n act op yX12_factor wsX12_factor fr lo F) : CalC l s0 D cy B o z T R I0 tp n act op yX12_every wsX12_every (fr + 1) (lo + 24) (pEvery tp n F) := fun M s1 hz hp ho hi3 hL => c_every_ hM hz hp ho hi3 hL hW hF
def pSm (tp : Nat → Nat) (n : Nat) (F : PS → PS) (s : PS) : PS := pLoop tp n 124 10002 F 101 (F s)
set_option maxHeartbeats 4000000 in
set_option maxRecDepth 100000 in
/-- some -/
theorem c_some_ (hM : gMod o T R) (hz : mPz M tp n act) {s1 : PS} (hp : mPs M act s1) (ho : M 0 9 = nI op) (hi3 : s1.2.1 ≤ n) (hL : s1.2.2.length ≤ s1.2.1) (hW : pW n F) (hF : CalC l s0 D cy B o z T R I0 tp n act op yX12_every wsX12_every fr lo F) : Met l yX12_some wsX12_some (rmP (fr + 1) (lo + 24)) (mPre s0 D cy B o z T R I0 M []) (mQv D cy B o z T R I0 (fun u => mPs u act (pSm tp n F s1) ∧ mSame (pS act) M u)) 0 0 (gA B) := by
  refine g_met (maxL := 1) (ret := none) (by decide) rfl (Nat.le_of_ble_eq_true rfl) (fun p e s m args below meth c ls X hr hlk hnm hK hP hC hS hl => ?_)
  have hl : lv_has ls 1 [(0, .ref o)] := hl
  have hP : gP D cy B z T (gI o 12 M I0) R s.heap := hP
  have hB : B ≤ s.heap.size := by rw [hP.1]; exact hP.2.1
  have hin : ∀ w ∈ wsX120, w ∈ wsX12_some := fun _ h => List.mem_cons_of_mem _ (List.mem_append_right _ h)
  have k57 : Cond.fieldLink RX12 57 "BarrowPlankModel" "spot" "I" ∈ wsX12_some := by decide +kernel
  have k63 : Cond.fieldLink RX12 63 "BarrowPlankModel" "isWrong" "Z" ∈ wsX12_some := by decide +kernel
  have hn100 := hz.1.2.1
  refine lv_aload_n X.1 X.2.1 dX12_some_0 rfl (lv_at hl 0 rfl) ?_
  refine g_run_v (g_runV (k := 14) [] X hK hP hS hC hB (hF _ s1 hz ⟨hp.1, hp.2⟩ ho hi3 hL) (cwV 0 X.2.2.2.2 gX12_some_X12_every rfl rfl rfl (by decide +kernel) (by refine ⟨?_, ?_⟩ <;> dsimp only <;> omega)) (hM.1 0 _ rfl) rfl rfl hl.1 rfl (Nat.le_of_ble_eq_true rfl) dX12_some_1 (by exact ⟨Nat.zero_le _, Nat.zero_le _⟩)) hS (fun u H locs hq hP hS => ?_)
  obtain ⟨⟨hqN1, hlsN1⟩, hkN1⟩ := hq
  generalize u = N1 at hP hqN1 hlsN1 hkN1
  have hP : gP D cy B z T (gI o 12 N1 I0) R H := hP
  have hk9N1 : mSame (pS9 act) M N1 := fun b j h => (hkN1 b j (pS9_S h)).trans ((fun _ _ _ => rfl) b j h)
  have hzN1 : mPz N1 tp n act := mPz_9 hz hk9N1
  have hoN1 : N1 0 9 = nI op := (hkN1 0 9 (by unfold pS wS; omega)).trans ho
  have hw0 := hW s1 hi3
  refine m_loop (M := N1) 101 4 [] (fun k Q9 ls => (∃ c9 : PS, mPs Q9 act c9 ∧ c9.2.1 ≤ n ∧ c9.2.2.length ≤ c9.2.1 ∧ k ≤ c9.2.1 ∧ pLoop tp n 124 10002 F 101 (F s1) = pLoop tp n 124 10002 F (101 - k) c9 ∧ mSame (pS act) M Q9) ∧ lv_has ls 1 [(0, .ref o)]) 0 (by omega) ⟨⟨F s1, ⟨hqN1, hlsN1⟩, hw0.2.1, by omega, by omega, rfl, hkN1⟩, lv_sub hl [0] rfl⟩ hP hS (fun k Q9 H locs ls hk hiv hP hS ih => ?_)
  obtain ⟨⟨c9, ⟨hq1, hq2⟩, hq3, hq4, hq5, hq6, hq7⟩, hl⟩ := hiv
  have hk9 : mSame (pS9 act) M Q9 := mSame_wk hq7 (fun _ _ g => Or.inl g)
  have hz9 := mPz_9 hz hk9
  have ho9 : Q9 0 9 = nI op := (hq7 0 9 (by unfold pS wS; omega)).trans ho
  refine lv_aload_n X.1 X.2.1 dX12_some_4 rfl (lv_at hl 0 rfl) ?_
  refine m_geti 8 X hK hP hM hin rfl (by decide) k63 rfl dX12_some_5 (show Q9 0 8 = bI (c9).1 from (hq1.2)) ?_
  refine lv_if_ne (tgt := 43) X.1 X.2.1 dX12_some_8 (by decide) (fun c8 => ?_) (fun c8 => ?_)
  · exact g_vret Q9 X hr hlk hK hP hS dX12_some_43 (by rw [show pSm tp n F s1 = c9 from hq6.trans (pLoop_stop (fun g => by rw [bI_1 c8] at g; cases g.1))]; exact ⟨⟨hq1, hq2⟩, hq7⟩)
  · have hw9 : c9.1 = false := bI_0 c8
    refine lv_aload_n X.1 X.2.1 dX12_some_11 rfl (lv_at hl 0 rfl) ?_
    refine g_run_i (g_runV (k := 14) [] X hK hP hS hC hB (c_here hM (i := (c9).2.1) hz9 hq1.1 (by have := hz.1.2.1; omega)) (cwV 0 X.2.2.2.2 gX12_some_X12_here rfl rfl rfl (by decide +kernel) (by refine ⟨?_, ?_⟩ <;> dsimp only <;> omega)) (hM.1 0 _ rfl) rfl rfl hl.1 rfl (Nat.le_of_ble_eq_true rfl) dX12_some_12 (by exact ⟨Nat.zero_le _, Nat.zero_le _⟩)) hS (fun r u H locs hq hP hS => ?_)
    obtain ⟨rfl, rfl⟩ := hq
    have hP : gP D cy B z T (gI o 12 Q9 I0) R H := hP
    refine lv_bipush (v := 124) X.1 X.2.1 dX12_some_15 (by decide) ?_
    refine lv_icmp_ne (tgt := 43) X.1 X.2.1 dX12_some_17 (by decide) (fun c17 => ?_) (fun c17 => ?_)
    · exact g_vret Q9 X hr hlk hK hP hS dX12_some_43 (by rw [show pSm tp n F s1 = c9 from hq6.trans (pLoop_stop (fun g => c17 ((hI_eq (y := 124) (by decide)).mpr g.2)))]; exact ⟨⟨hq1, hq2⟩, hq7⟩)
    · have hgo : c9.1 = false ∧ sH tp n c9.2.1 = 124 := ⟨hw9, (hI_eq (y := 124) (by decide)).mp c17⟩
      have hin9 := sH_in hgo.2 (by decide)
      refine lv_aload_n X.1 X.2.1 dX12_some_20 rfl (lv_at hl 0 rfl) ?_
      refine lv_dup X.1 X.2.1 dX12_some_21 rfl ?_
      refine m_geti 6 X hK hP hM hin rfl (by decide) k57 rfl dX12_some_22 (show Q9 0 6 = nI ((c9).2.1) from (hq1.1)) ?_
      refine lv_iconst (v := 1) X.1 X.2.1 dX12_some_25 (by decide) ?_
      refine lv_iadd X.1 X.2.1 dX12_some_26 ?_
      refine m_puti 6 X hK hP hS hM hin rfl (by decide) k57 rfl rfl rfl rfl dX12_some_27 (fun H locs hP hS => ?_)
      generalize eM2 : g2 Q9 0 6 ((nI ((c9).2.1)) + 1) = M2 at hP
      have hw8 : Q9 0 8 = 0 := by rw [hq1.2, hw9]; rfl
      refine lv_aload_n X.1 X.2.1 dX12_some_30 rfl (lv_at hl 0 rfl) ?_
      have hdy3 : mSame d9 Q9 M2 := fun b j h => by unfold d9 at h; exact (gs_ne eM2 (by omega) rfl)
      have hky3 : mSame (pS9 act) M M2 := fun b j h => (hdy3 b j (d9_S h)).trans (hk9 b j h)
      have hzy3 : mPz M2 tp n act := mPz_9 hz hky3
      have hlsy3 : mLs M2 act c9.2.2 := mLs_d hq2 hdy3
      have hpy3 : mWp M2 (false, c9.2.1 + 1, c9.2.2) := ⟨((gs_same eM2)).trans (gn_eq (x := ((c9).2.1 + 1)) (gn_add (Eq.refl (nI ((c9).2.1))) (show (1 : Int32) = nI 1 from rfl)) (by rfl)), (gs_ne eM2 (by omega) hw8)⟩
      have hoy3 : M2 0 9 = nI op := ((gs_ne eM2 (by omega) ho9)).trans ((Eq.refl (nI op)))
      refine g_run_v (g_runV (k := 14) [] X hK hP hS hC hB (hF _ (false, c9.2.1 + 1, c9.2.2) hzy3 ⟨hpy3, hlsy3⟩ hoy3 (by dsimp only; omega) (by dsimp only; omega)) (cwV 0 X.2.2.2.2 gX12_some_X12_every rfl rfl rfl (by decide +kernel) (by refine ⟨?_, ?_⟩ <;> dsimp only <;> omega)) (hM.1 0 _ rfl) rfl rfl hl.1 rfl (Nat.le_of_ble_eq_true rfl) dX12_some_31 (by exact ⟨Nat.zero_le _, Nat.zero_le _⟩)) hS (fun u H locs hq hP hS => ?_)
      obtain ⟨⟨hqN4, hlsN4⟩, hkN4⟩ := hq
      generalize u = N4 at hP hqN4 hlsN4 hkN4
      have hP : gP D cy B z T (gI o 12 N4 I0) R H := hP
      have hk9N4 : mSame (pS9 act) M N4 := fun b j h => (hkN4 b j (pS9_S h)).trans (hky3 b j h)
      have hzN4 : mPz N4 tp n act := mPz_9 hz hk9N4
      have hoN4 : N4 0 9 = nI op := (hkN4 0 9 (by unfold pS wS; omega)).trans hoy3
      refine lv_aload_n X.1 X.2.1 dX12_some_34 rfl (lv_at hl 0 rfl) ?_
      refine lv_bipush (v := (-3)) X.1 X.2.1 dX12_some_35 (by decide) ?_
      refine g_run_v (g_runV (k := 14) [.int (-3)] X hK hP hS hC hB (c_emits hM (s1 := F (false, c9.2.1 + 1, c9.2.2)) (t := 10002) hzN4 ⟨hqN4, hlsN4⟩ (by have hw2 := hW (false, c9.2.1 + 1, c9.2.2) (by dsimp only; omega); dsimp only at hw2; omega) (fun _ => by rfl)) (cwV 1 X.2.2.2.2 gX12_some_X12_emits rfl rfl rfl (by decide +kernel) (by refine ⟨?_, ?_⟩ <;> dsimp only <;> omega)) (hM.1 0 _ rfl) rfl rfl hl.1 rfl (Nat.le_of_ble_eq_true rfl) dX12_some_37 (by exact ⟨Nat.zero_le _, Nat.zero_le _⟩)) hS (fun u H locs hq hP hS => ?_)
      obtain ⟨⟨hqN5, hlsN5⟩, hkN5⟩ := hq
      generalize u = N5 at hP hqN5 hlsN5 hkN5
      have hP : gP D cy B z T (gI o 12 N5 I0) R H := hP
      have hk9N5 : mSame (pS9 act) M N5 := fun b j h => (hkN5 b j (pS9_S h)).trans (hk9N4 b j h)
      have hzN5 : mPz N5 tp n act := mPz_9 hz hk9N5
      have hoN5 : N5 0 9 = nI op := (hkN5 0 9 (by unfold pS wS; omega)).trans hoN4
      refine lv_goto (tgt := 4) X.1 X.2.1 dX12_some_40 (by decide) ?_
      have hw1 := hW (false, c9.2.1 + 1, c9.2.2) (by dsimp only; omega)
      dsimp only at hw1
      have hem := pEm_l (t := 10002) (s := F (false, c9.2.1 + 1, c9.2.2))
      exact ih _ _ _ _ (by omega) ⟨⟨_, ⟨hqN5, hlsN5⟩, (by rw [pEm_p]; omega), (by rw [pEm_p]; omega), (by rw [pEm_p]; omega), hq6.trans (pLoop_go (by omega) hgo), fun b j h => by by_cases e9 : b = 0 ∧ j = 9; (· obtain ⟨rfl, rfl⟩ := e9; exact (hoN5).trans ho.symm); exact hk9N5 b j (fun g => g.elim h e9)⟩, lv_sub hl [0] rfl⟩ hP hS

theorem C_some (hM : gMod o T R) (hW : pW n F) (hF : CalC l s0 D cy B o z T R I0 tp n act op yX12_every wsX12_every fr lo F) : CalC l s0 D cy B o z T R I0 tp n act op yX12_some wsX12_some (fr + 1) (lo + 24) (pSm tp n F) := fun M s1 hz hp ho hi3 hL => c_some_ hM hz hp ho hi3 hL hW hF
theorem C_sm (hM : gMod o T R) (hW : pW n F) (hF : CalC l s0 D cy B o z T R I0 tp n act op yX12_factor wsX12_factor fr lo F) : CalC l s0 D cy B o z T R I0 tp n act op yX12_some wsX12_some (fr + 2) (lo + 48) (pSome tp n F) := C_some hM (pW_every hW) (C_every hM hW hF)
theorem pAtom_y {i : Nat} {L : List Nat} (h1 : pAm tA (sH tp n i) < 6) (h2 : pAm tC (sH tp n (i + 1)) < 3) : pAtom tp n (false, i, L) = pEm (pAm tA (sH tp n i) + 8 * pAm tC (sH tp n (i + 1)) + 32 * (pFig tp n (false, i + 2, L)).2) (pFig tp n (false, i + 2, L)).1 := by
  unfold pAtom
  rw [if_pos h1, if_pos h2]
theorem pAtom_c {i : Nat} {L : List Nat} (h1 : pAm tA (sH tp n i) < 6) (h2 : ¬ pAm tC (sH tp n (i + 1)) < 3) : pAtom tp n (false, i, L) = (true, i + 1, L) := by
  unfold pAtom
  rw [if_pos h1, if_neg h2]
theorem pAtom_a {i : Nat} {L : List Nat} (h1 : ¬ pAm tA (sH tp n i) < 6) : pAtom tp n (false, i, L) = (true, i, L) := by
  unfold pAtom
  rw [if_neg h1]
theorem pFac_t {i : Nat} {L : List Nat} : ∀ d, pFac tp n d (true, i, L) = (true, i, L)
  | 0 => rfl
  | _ + 1 => rfl
theorem pFac_a {i : Nat} {L : List Nat} (h1 : ¬ sH tp n i = 33) (h2 : ¬ sH tp n i = 40) : ∀ d, pFac tp n d (false, i, L) = pAtom tp n (false, i, L)
  | 0 => by
    unfold pFac
    rw [if_neg (fun q => by cases q), if_neg (fun q => q.elim h1 h2)]
  | _ + 1 => by
    unfold pFac
    rw [if_neg (fun q => by cases q), if_neg h1, if_neg h2]
theorem pFac_0 {i : Nat} {L : List Nat} (h : sH tp n i = 33 ∨ sH tp n i = 40) : pFac tp n 0 (false, i, L) = (true, i, L) := by
  unfold pFac
  rw [if_neg (fun q => by cases q), if_pos h]
theorem pFac_n {i : Nat} {L : List Nat} (h : sH tp n i = 33) : pFac tp n (d + 1) (false, i, L) = pEm 10000 (pFac tp n d (false, i + 1, L)) := by
  conv => lhs; unfold pFac
  rw [if_neg (fun q => by cases q), if_pos h]
theorem pFac_p {i : Nat} {L : List Nat} (h : sH tp n i = 40) : pFac tp n (d + 1) (false, i, L) = pMust tp n 41 (pSome tp n (pFac tp n d) (false, i + 1, L)) := by
  conv => lhs; unfold pFac
  rw [if_neg (fun q => by cases q), if_neg (show ¬ sH tp n i = 33 by omega), if_pos h]

theorem gn_opm (x : Nat) : nI x + 1 - 1 = nI x := by
  rw [← nI_succ, nI_pred]
set_option maxHeartbeats 4000000 in
set_option maxRecDepth 100000 in
/-- factor, five open -/
theorem c_factor_0 (hM : gMod o T R) (hz : mPz M tp n act) {s1 : PS} (hp : mPs M act s1) (ho : M 0 9 = nI op) (hi3 : s1.2.1 ≤ n) (hL : s1.2.2.length ≤ s1.2.1) (hstr : gStr s0 B) (hop : op = 5) : Met l yX12_factor wsX12_factor (rmP 5 107) (mPre s0 D cy B o z T R I0 M []) (mQv D cy B o z T R I0 (fun u => mPs u act (pFac tp n 0 s1) ∧ mSame (pS act) M u)) 0 0 (gA B) := by
  refine g_met (maxL := 5) (ret := none) (by decide) rfl (Nat.le_of_ble_eq_true rfl) (fun p e s m args below meth c ls X hr hlk hnm hK hP hC hS hl => ?_)
  have hl : lv_has ls 5 [(0, .ref o)] := hl
  have hP : gP D cy B z T (gI o 12 M I0) R s.heap := hP
  have hB : B ≤ s.heap.size := by rw [hP.1]; exact hP.2.1
  have hin : ∀ w ∈ wsX120, w ∈ wsX12_factor := fun _ h => List.mem_cons_of_mem _ (List.mem_append_right _ h)
  have k57 : Cond.fieldLink RX12 57 "BarrowPlankModel" "spot" "I" ∈ wsX12_factor := by decide +kernel
  have k63 : Cond.fieldLink RX12 63 "BarrowPlankModel" "isWrong" "Z" ∈ wsX12_factor := by decide +kernel
  have k87 : Cond.fieldLink RX12 87 "BarrowPlankModel" "open" "I" ∈ wsX12_factor := by decide +kernel
  obtain ⟨ha5, hn100, htp⟩ := hz.1
  obtain ⟨h2, -⟩ : gSt2 s0 B ∧ True := ⟨hstr.1, trivial⟩
  obtain ⟨aA, qA, hRA, hsA, htA⟩ := hstr.at 0 rfl
  obtain ⟨aC, qC, hRC, hsC, htC⟩ := hstr.at 1 rfl
  have htA : gTx tA := htA
  have htC : gTx tC := htC
  have hsA : gSo s0 B tA aA qA := hsA
  have hsC : gSo s0 B tC aC qC := hsC
  obtain ⟨wr, i, L⟩ := s1
  obtain ⟨hp, hls⟩ := hp
  have hls : mLs M act L := hls
  have hi3 : i ≤ n := hi3
  have hL : L.length ≤ i := hL
  cases wr with
  | true =>
    refine lv_aload_n X.1 X.2.1 dX12_factor_0 rfl (lv_at hl 0 rfl) ?_
    refine m_geti 8 X hK hP hM hin rfl (by decide) k63 rfl dX12_factor_1 (show M 0 8 = 1 from (hp.2)) ?_
    refine lv_if_eq (tgt := 8) X.1 X.2.1 dX12_factor_4 (by decide) (fun c4 => ?_) (fun c4 => ?_)
    · exact absurd c4 (by decide)
    · exact g_vret M X hr hlk hK hP hS dX12_factor_7 ⟨⟨hp, hls⟩, fun _ _ _ => rfl⟩
  | false =>
    refine lv_aload_n X.1 X.2.1 dX12_factor_0 rfl (lv_at hl 0 rfl) ?_
    refine m_geti 8 X hK hP hM hin rfl (by decide) k63 rfl dX12_factor_1 (show M 0 8 = 0 from (hp.2)) ?_
    refine lv_if_eq (tgt := 8) X.1 X.2.1 dX12_factor_4 (by decide) (fun c4 => ?_) (fun c4 => ?_)
    · refine lv_aload_n X.1 X.2.1 dX12_factor_8 rfl (lv_at hl 0 rfl) ?_
      refine g_run_i (g_runV (k := 14) [] X hK hP hS hC hB (c_here hM (i := i) hz hp.1 (by have := hz.1.2.1; omega)) (cwV 0 X.2.2.2.2 gX12_factor_X12_here rfl rfl rfl (by decide +kernel) ⟨Nat.le_of_ble_eq_true rfl, Nat.le_of_ble_eq_true rfl⟩) (hM.1 0 _ rfl) rfl rfl hl.1 rfl (Nat.le_of_ble_eq_true rfl) dX12_factor_9 (by exact ⟨Nat.zero_le _, Nat.zero_le _⟩)) hS (fun r u H locs hq hP hS => ?_)
      obtain ⟨rfl, rfl⟩ := hq
      have hP : gP D cy B z T (gI o 12 M I0) R H := hP
      refine lv_istore_n (lv' := [(1, .int (hI (sH tp n i))), (0, .ref o)]) X.1 X.2.1 dX12_factor_12 rfl hl (by decide) rfl (fun ls hl => ?_)
      refine lv_iload_n X.1 X.2.1 dX12_factor_13 rfl (lv_at hl 0 rfl) ?_
      refine lv_bipush (v := 33) X.1 X.2.1 dX12_factor_14 (by decide) ?_
      refine lv_icmp_eq (tgt := 25) X.1 X.2.1 dX12_factor_16 (by decide) (fun c16 => ?_) (fun c16 => ?_)
      · have h33 : sH tp n i = 33 := (hI_eq (y := 33) (by decide)).mp c16
        have hin9 := sH_in h33 (by decide)
        refine lv_aload_n X.1 X.2.1 dX12_factor_25 rfl (lv_at hl 1 rfl) ?_
        refine lv_aload_n X.1 X.2.1 dX12_factor_26 rfl (lv_at hl 1 rfl) ?_
        refine m_geti 9 X hK hP hM hin rfl (by decide) k87 rfl dX12_factor_27 (show M 0 9 = nI op from ho) ?_
        refine lv_iconst (v := 5) X.1 X.2.1 dX12_factor_30 (by decide) ?_
        refine lv_icmp_ne (tgt := 38) X.1 X.2.1 dX12_factor_31 (by decide) (fun c31 => ?_) (fun c31 => ?_)
        · exact absurd (show nI op = 5 by rw [show op = 5 by omega]; rfl) c31
        · refine lv_iconst (v := 1) X.1 X.2.1 dX12_factor_34 (by decide) ?_
          refine lv_goto (tgt := 39) X.1 X.2.1 dX12_factor_35 (by decide) ?_
          refine m_puti 8 X hK hP hS hM hin rfl (by decide) k63 rfl rfl rfl rfl dX12_factor_39 (fun H locs hP hS => ?_)
          generalize eM1 : g2 M 0 8 1 = M1 at hP
          refine lv_aload_n X.1 X.2.1 dX12_factor_42 rfl (lv_at hl 1 rfl) ?_
          refine lv_dup X.1 X.2.1 dX12_factor_43 rfl ?_
          refine m_geti 9 X hK hP hM hin rfl (by decide) k87 rfl dX12_factor_44 (show M1 0 9 = nI op from (gs_ne eM1 (by omega) ho)) ?_
          refine lv_iconst (v := 1) X.1 X.2.1 dX12_factor_47 (by decide) ?_
          refine lv_iadd X.1 X.2.1 dX12_factor_48 ?_
          refine m_puti 9 X hK hP hS hM hin rfl (by decide) k87 rfl rfl rfl rfl dX12_factor_49 (fun H locs hP hS => ?_)
          generalize eM2 : g2 M1 0 9 ((nI op) + 1) = M2 at hP
          refine lv_aload_n X.1 X.2.1 dX12_factor_52 rfl (lv_at hl 1 rfl) ?_
          refine lv_dup X.1 X.2.1 dX12_factor_53 rfl ?_
          refine m_geti 6 X hK hP hM hin rfl (by decide) k57 rfl dX12_factor_54 (show M2 0 6 = nI i from (gs_ne eM2 (by omega) (gs_ne eM1 (by omega) (hp.1)))) ?_
          refine lv_aload_n X.1 X.2.1 dX12_factor_57 rfl (lv_at hl 1 rfl) ?_
          refine m_geti 8 X hK hP hM hin rfl (by decide) k63 rfl dX12_factor_58 (show M2 0 8 = 1 from (gs_ne eM2 (by omega) (gs_same eM1))) ?_
          refine lv_if_eq (tgt := 68) X.1 X.2.1 dX12_factor_61 (by decide) (fun c61 => ?_) (fun c61 => ?_)
          · exact absurd c61 (by decide)
          · refine lv_iconst (v := 0) X.1 X.2.1 dX12_factor_64 (by decide) ?_
            refine lv_goto (tgt := 69) X.1 X.2.1 dX12_factor_65 (by decide) ?_
            refine lv_iadd X.1 X.2.1 dX12_factor_69 ?_
            refine m_puti 6 X hK hP hS hM hin rfl (by decide) k57 rfl rfl rfl rfl dX12_factor_70 (fun H locs hP hS => ?_)
            generalize eM3 : g2 M2 0 6 ((nI i) + 0) = M3 at hP
            refine lv_iload_n X.1 X.2.1 dX12_factor_73 rfl (lv_at hl 0 rfl) ?_
            refine lv_bipush (v := 33) X.1 X.2.1 dX12_factor_74 (by decide) ?_
            refine lv_icmp_ne (tgt := 91) X.1 X.2.1 dX12_factor_76 (by decide) (fun c76 => ?_) (fun c76 => ?_)
            · exact absurd c16 c76
            · refine lv_aload_n X.1 X.2.1 dX12_factor_79 rfl (lv_at hl 1 rfl) ?_
              have hdy4 : mSame d9 M M3 := fun b j h => by unfold d9 at h; exact (gs_ne eM3 (by omega) (gs_ne eM2 (by omega) (gs_ne eM1 (by omega) rfl)))
              have hky4 : mSame (pS9 act) M M3 := fun b j h => (hdy4 b j (d9_S h)).trans ((fun _ _ _ => rfl) b j h)
              have hzy4 : mPz M3 tp n act := mPz_9 hz hky4
              have hlsy4 : mLs M3 act L := mLs_d hls hdy4
              have hpy4 : mWp M3 (true, i, L) := ⟨((gs_same eM3)).trans (gn_eq (x := (i + 0)) (gn_add (Eq.refl (nI i)) (show (0 : Int32) = nI 0 from rfl)) (by rfl)), (gs_ne eM3 (by omega) (gs_ne eM2 (by omega) (gs_same eM1)))⟩
              have hoy4 : M3 0 9 = nI (op + 1) := ((gs_ne eM3 (by omega) (gs_same eM2))).trans ((gn_add (Eq.refl (nI op)) (show (1 : Int32) = nI 1 from rfl)))
              refine g_run_v (g_runV (k := 14) [] X hK hP hS hC hB (c_factor_w hM hpy4.2) (cwV 0 X.2.2.2.2 gX12_factor_X12_factor rfl rfl rfl (by decide +kernel) ⟨Nat.le_of_ble_eq_true rfl, Nat.le_of_ble_eq_true rfl⟩) (hM.1 0 _ rfl) rfl rfl hl.1 rfl (Nat.le_of_ble_eq_true rfl) dX12_factor_80 (by exact ⟨Nat.zero_le _, Nat.zero_le _⟩)) hS (fun u H locs hq hP hS => ?_)
              obtain rfl := hq
              have hP : gP D cy B z T (gI o 12 M3 I0) R H := hP
              refine lv_aload_n X.1 X.2.1 dX12_factor_83 rfl (lv_at hl 1 rfl) ?_
              refine lv_iconst (v := (-1)) X.1 X.2.1 dX12_factor_84 (by decide) ?_
              refine g_run_v (g_runV (k := 14) [.int (-1)] X hK hP hS hC hB (c_emits hM (s1 := (true, i, L)) (t := 0) hzy4 ⟨hpy4, hlsy4⟩ (by dsimp only; omega) (fun g => by cases g)) (cwV 1 X.2.2.2.2 gX12_factor_X12_emits rfl rfl rfl (by decide +kernel) ⟨Nat.le_of_ble_eq_true rfl, Nat.le_of_ble_eq_true rfl⟩) (hM.1 0 _ rfl) rfl rfl hl.1 rfl (Nat.le_of_ble_eq_true rfl) dX12_factor_85 (by exact ⟨Nat.zero_le _, Nat.zero_le _⟩)) hS (fun u H locs hq hP hS => ?_)
              obtain ⟨⟨hqN5, hlsN5⟩, hkN5⟩ := hq
              generalize u = N5 at hP hqN5 hlsN5 hkN5
              have hP : gP D cy B z T (gI o 12 N5 I0) R H := hP
              have hk9N5 : mSame (pS9 act) M N5 := fun b j h => (hkN5 b j (pS9_S h)).trans (hky4 b j h)
              have hzN5 : mPz N5 tp n act := mPz_9 hz hk9N5
              have hoN5 : N5 0 9 = nI (op + 1) := (hkN5 0 9 (by unfold pS wS; omega)).trans hoy4
              refine lv_goto (tgt := 101) X.1 X.2.1 dX12_factor_88 (by decide) ?_
              refine lv_aload_n X.1 X.2.1 dX12_factor_101 rfl (lv_at hl 1 rfl) ?_
              refine lv_dup X.1 X.2.1 dX12_factor_102 rfl ?_
              refine m_geti 9 X hK hP hM hin rfl (by decide) k87 rfl dX12_factor_103 (show N5 0 9 = nI (op + 1) from hoN5) ?_
              refine lv_iconst (v := 1) X.1 X.2.1 dX12_factor_106 (by decide) ?_
              refine lv_isub X.1 X.2.1 dX12_factor_107 ?_
              refine m_puti 9 X hK hP hS hM hin rfl (by decide) k87 rfl rfl rfl rfl dX12_factor_108 (fun H locs hP hS => ?_)
              generalize eM6 : g2 N5 0 9 ((nI (op + 1)) - 1) = M6 at hP
              have hdz : mSame d9 N5 M6 := fun b j h => by unfold d9 at h; exact (gs_ne eM6 (by omega) rfl)
              have hoz : M6 0 9 = nI op := ((gs_same eM6)).trans (nI_pred op)
              have hkz : ∀ b j, ¬ pS act b j → M6 b j = M b j := fun b j h => by by_cases e9 : b = 0 ∧ j = 9; (· obtain ⟨rfl, rfl⟩ := e9; exact hoz.trans ho.symm); exact (hdz b j (by unfold d9; unfold pS wS at h; omega)).trans (hk9N5 b j (fun g => g.elim h e9))
              exact g_vret M6 X hr hlk hK hP hS dX12_factor_111 (by rw [pFac_0 (Or.inl h33), ← (show pEm 0 (true, i, L) = (true, i, L) from rfl)]; exact ⟨⟨⟨gs_ne eM6 (by omega) hqN5.1, gs_ne eM6 (by omega) hqN5.2⟩, mLs_d hlsN5 hdz⟩, hkz⟩)
      · refine lv_iload_n X.1 X.2.1 dX12_factor_19 rfl (lv_at hl 0 rfl) ?_
        refine lv_bipush (v := 40) X.1 X.2.1 dX12_factor_20 (by decide) ?_
        refine lv_icmp_ne (tgt := 112) X.1 X.2.1 dX12_factor_22 (by decide) (fun c22 => ?_) (fun c22 => ?_)
        · have h33 : ¬ sH tp n i = 33 := fun g => c16 ((hI_eq (y := 33) (by decide)).mpr g)
          have h40 : ¬ sH tp n i = 40 := fun g => c22 ((hI_eq (y := 40) (by decide)).mpr g)
          by_cases hA9 : pAm tA (sH tp n i) < 6
          · have hA8 := sH_in (tp := tp) (n := n) (i := i) rfl (pAm_A hA9)
            by_cases hC9 : pAm tC (sH tp n (i + 1)) < 3
            · have hC8 := sH_in (tp := tp) (n := n) (i := i + 1) rfl (pAm_C hC9)
              refine lv_aload_n X.1 X.2.1 dX12_factor_112 rfl (lv_at hl 1 rfl) ?_
              refine va_ldcS X.1 X.2.1 X.2.2.2.1 (vk_R.warm hC.1 hRA) dX12_factor_113 ?_
              refine g_run_i (g_runV (k := 14) [.ref aA] X hK hP hS hC hB (c_among hM (tx := tA) (i := i) hz hp.1 (by omega) hsA h2 htA) (cwV 1 X.2.2.2.2 gX12_factor_X12_among rfl rfl rfl (by decide +kernel) ⟨Nat.le_of_ble_eq_true rfl, Nat.le_of_ble_eq_true rfl⟩) (hM.1 0 _ rfl) rfl rfl hl.1 rfl (Nat.le_of_ble_eq_true rfl) dX12_factor_115 (by exact ⟨Nat.zero_le _, Nat.zero_le _⟩)) hS (fun r u H locs hq hP hS => ?_)
              obtain ⟨hrN7, hpN7, hkN7⟩ := hq
              generalize u = N7 at hP hpN7 hkN7
              rw [if_pos (show pAm tA (sH tp n i) < tA.length from hA9)] at hrN7 hpN7
              subst hrN7
              have hp8N7 : mWp N7 (false, i + 1, L) := ⟨hpN7, (hkN7 0 8 (by omega)).trans hp.2⟩
              have hdN7 : mSame d9 M N7 := fun b j h => hkN7 b j (by unfold d9 at h; omega)
              have hlsN7 : mLs N7 act L := mLs_d hls hdN7
              have hP : gP D cy B z T (gI o 12 N7 I0) R H := hP
              have hk9N7 : mSame (pS9 act) M N7 := fun b j h => (hdN7 b j (d9_S h)).trans ((fun _ _ _ => rfl) b j h)
              have hzN7 : mPz N7 tp n act := mPz_9 hz hk9N7
              have hoN7 : N7 0 9 = nI op := (hkN7 0 9 (by omega)).trans ho
              refine lv_istore_n (lv' := [(2, .int (nI (pAm tA (sH tp n i)))), (1, .int (hI (sH tp n i))), (0, .ref o)]) X.1 X.2.1 dX12_factor_118 rfl hl (by decide) rfl (fun ls hl => ?_)
              refine lv_aload_n X.1 X.2.1 dX12_factor_119 rfl (lv_at hl 2 rfl) ?_
              refine lv_iload_n X.1 X.2.1 dX12_factor_120 rfl (lv_at hl 0 rfl) ?_
              refine lv_iconst (v := (-1)) X.1 X.2.1 dX12_factor_121 (by decide) ?_
              refine lv_icmp_ne (tgt := 129) X.1 X.2.1 dX12_factor_122 (by decide) (fun c122 => ?_) (fun c122 => ?_)
              · refine lv_iconst (v := 0) X.1 X.2.1 dX12_factor_129 (by decide) ?_
                refine m_puti 8 X hK hP hS hM hin rfl (by decide) k63 rfl rfl rfl rfl dX12_factor_130 (fun H locs hP hS => ?_)
                generalize eM8 : g2 N7 0 8 0 = M8 at hP
                refine lv_aload_n X.1 X.2.1 dX12_factor_133 rfl (lv_at hl 2 rfl) ?_
                refine m_geti 8 X hK hP hM hin rfl (by decide) k63 rfl dX12_factor_134 (show M8 0 8 = 0 from (gs_same eM8)) ?_
                refine lv_if_eq (tgt := 144) X.1 X.2.1 dX12_factor_137 (by decide) (fun c137 => ?_) (fun c137 => ?_)
                · refine lv_aload_n X.1 X.2.1 dX12_factor_144 rfl (lv_at hl 2 rfl) ?_
                  refine va_ldcS X.1 X.2.1 X.2.2.2.1 (vk_R.warm hC.1 hRC) dX12_factor_145 ?_
                  have hdy9 : mSame d9 N7 M8 := fun b j h => by unfold d9 at h; exact (gs_ne eM8 (by omega) rfl)
                  have hky9 : mSame (pS9 act) M M8 := fun b j h => (hdy9 b j (d9_S h)).trans (hk9N7 b j h)
                  have hzy9 : mPz M8 tp n act := mPz_9 hz hky9
                  have hlsy9 : mLs M8 act L := mLs_d hlsN7 hdy9
                  have hpy9 : mWp M8 (false, i + 1, L) := ⟨((gs_ne eM8 (by omega) (hp8N7.1))).trans (gn_eq (x := i + 1) (Eq.refl (nI (i + 1))) (by rfl)), (gs_same eM8)⟩
                  have hoy9 : M8 0 9 = nI op := ((gs_ne eM8 (by omega) hoN7)).trans ((Eq.refl (nI op)))
                  refine g_run_i (g_runV (k := 14) [.ref aC] X hK hP hS hC hB (c_among hM (tx := tC) (i := i + 1) hzy9 hpy9.1 (by omega) hsC h2 htC) (cwV 1 X.2.2.2.2 gX12_factor_X12_among rfl rfl rfl (by decide +kernel) ⟨Nat.le_of_ble_eq_true rfl, Nat.le_of_ble_eq_true rfl⟩) (hM.1 0 _ rfl) rfl rfl hl.1 rfl (Nat.le_of_ble_eq_true rfl) dX12_factor_147 (by exact ⟨Nat.zero_le _, Nat.zero_le _⟩)) hS (fun r u H locs hq hP hS => ?_)
                  obtain ⟨hrN10, hpN10, hkN10⟩ := hq
                  generalize u = N10 at hP hpN10 hkN10
                  rw [if_pos (show pAm tC (sH tp n (i + 1)) < tC.length from hC9)] at hrN10 hpN10
                  subst hrN10
                  have hp8N10 : mWp N10 (false, i + 1 + 1, L) := ⟨hpN10, (hkN10 0 8 (by omega)).trans hpy9.2⟩
                  have hdN10 : mSame d9 M8 N10 := fun b j h => hkN10 b j (by unfold d9 at h; omega)
                  have hlsN10 : mLs N10 act L := mLs_d hlsy9 hdN10
                  have hP : gP D cy B z T (gI o 12 N10 I0) R H := hP
                  have hk9N10 : mSame (pS9 act) M N10 := fun b j h => (hdN10 b j (d9_S h)).trans (hky9 b j h)
                  have hzN10 : mPz N10 tp n act := mPz_9 hz hk9N10
                  have hoN10 : N10 0 9 = nI op := (hkN10 0 9 (by omega)).trans hoy9
                  refine lv_istore_n (lv' := [(3, .int (nI (pAm tC (sH tp n (i + 1))))), (2, .int (nI (pAm tA (sH tp n i)))), (1, .int (hI (sH tp n i))), (0, .ref o)]) X.1 X.2.1 dX12_factor_150 rfl hl (by decide) rfl (fun ls hl => ?_)
                  refine lv_aload_n X.1 X.2.1 dX12_factor_151 rfl (lv_at hl 3 rfl) ?_
                  refine lv_aload_n X.1 X.2.1 dX12_factor_152 rfl (lv_at hl 3 rfl) ?_
                  refine m_geti 8 X hK hP hM hin rfl (by decide) k63 rfl dX12_factor_153 (show N10 0 8 = 0 from (hp8N10.2)) ?_
                  refine lv_if_ne (tgt := 164) X.1 X.2.1 dX12_factor_156 (by decide) (fun c156 => ?_) (fun c156 => ?_)
                  · exact absurd rfl c156
                  · refine lv_iload_n X.1 X.2.1 dX12_factor_159 rfl (lv_at hl 0 rfl) ?_
                    refine lv_iconst (v := (-1)) X.1 X.2.1 dX12_factor_160 (by decide) ?_
                    refine lv_icmp_ne (tgt := 168) X.1 X.2.1 dX12_factor_161 (by decide) (fun c161 => ?_) (fun c161 => ?_)
                    · refine lv_iconst (v := 0) X.1 X.2.1 dX12_factor_168 (by decide) ?_
                      refine m_puti 8 X hK hP hS hM hin rfl (by decide) k63 rfl rfl rfl rfl dX12_factor_169 (fun H locs hP hS => ?_)
                      generalize eM11 : g2 N10 0 8 0 = M11 at hP
                      refine lv_aload_n X.1 X.2.1 dX12_factor_172 rfl (lv_at hl 3 rfl) ?_
                      have hdy12 : mSame d9 N10 M11 := fun b j h => by unfold d9 at h; exact (gs_ne eM11 (by omega) rfl)
                      have hky12 : mSame (pS9 act) M M11 := fun b j h => (hdy12 b j (d9_S h)).trans (hk9N10 b j h)
                      have hzy12 : mPz M11 tp n act := mPz_9 hz hky12
                      have hlsy12 : mLs M11 act L := mLs_d hlsN10 hdy12
                      have hpy12 : mWp M11 (false, i + 2, L) := ⟨((gs_ne eM11 (by omega) (hp8N10.1))).trans (gn_eq (x := i + 1 + 1) (Eq.refl (nI (i + 1 + 1))) (by rfl)), (gs_same eM11)⟩
                      have hoy12 : M11 0 9 = nI op := ((gs_ne eM11 (by omega) hoN10)).trans ((Eq.refl (nI op)))
                      refine g_run_i (g_runV (k := 14) [] X hK hP hS hC hB (c_figures hM (s1 := (false, i + 2, L)) hzy12 hpy12 (by dsimp only; omega)) (cwV 0 X.2.2.2.2 gX12_factor_X12_figures rfl rfl rfl (by decide +kernel) ⟨Nat.le_of_ble_eq_true rfl, Nat.le_of_ble_eq_true rfl⟩) (hM.1 0 _ rfl) rfl rfl hl.1 rfl (Nat.le_of_ble_eq_true rfl) dX12_factor_173 (by exact ⟨Nat.zero_le _, Nat.zero_le _⟩)) hS (fun r u H locs hq hP hS => ?_)
                      obtain ⟨rfl, hqN13, hkN13⟩ := hq
                      generalize u = N13 at hP hqN13 hkN13
                      have hlsN13 : mLs N13 act ((pFig tp n (false, i + 2, L)).1).2.2 := by rw [pFig_l]; exact mLs_w hlsy12 hkN13
                      have hP : gP D cy B z T (gI o 12 N13 I0) R H := hP
                      have hk9N13 : mSame (pS9 act) M N13 := fun b j h => (hkN13 b j (pS_w h)).trans (hky12 b j h)
                      have hzN13 : mPz N13 tp n act := mPz_9 hz hk9N13
                      have hoN13 : N13 0 9 = nI op := (hkN13 0 9 (by unfold wS; omega)).trans hoy12
                      refine lv_istore (lv' := [(4, .int (nI ((pFig tp n (false, i + 2, L)).2))), (3, .int (nI (pAm tC (sH tp n (i + 1))))), (2, .int (nI (pAm tA (sH tp n i)))), (1, .int (hI (sH tp n i))), (0, .ref o)]) X.1 X.2.1 dX12_factor_176 hl (by decide) rfl (fun ls hl => ?_)
                      refine lv_aload_n X.1 X.2.1 dX12_factor_178 rfl (lv_at hl 4 rfl) ?_
                      refine lv_iload_n X.1 X.2.1 dX12_factor_179 rfl (lv_at hl 2 rfl) ?_
                      refine lv_bipush (v := 8) X.1 X.2.1 dX12_factor_180 (by decide) ?_
                      refine lv_iload_n X.1 X.2.1 dX12_factor_182 rfl (lv_at hl 1 rfl) ?_
                      refine lv_imul X.1 X.2.1 dX12_factor_183 ?_
                      refine lv_iadd X.1 X.2.1 dX12_factor_184 ?_
                      refine lv_bipush (v := 32) X.1 X.2.1 dX12_factor_185 (by decide) ?_
                      refine lv_iload X.1 X.2.1 dX12_factor_187 (lv_at hl 0 rfl) ?_
                      refine lv_imul X.1 X.2.1 dX12_factor_189 ?_
                      refine lv_iadd X.1 X.2.1 dX12_factor_190 ?_
                      refine g_run_v (g_runV (k := 14) [.int (((nI (pAm tA (sH tp n i))) + (8 * (nI (pAm tC (sH tp n (i + 1)))))) + (32 * (nI ((pFig tp n (false, i + 2, L)).2))))] X hK hP hS hC hB (c_emits hM (s1 := (pFig tp n (false, i + 2, L)).1) (t := pAm tA (sH tp n i) + 8 * pAm tC (sH tp n (i + 1)) + 32 * (pFig tp n (false, i + 2, L)).2) hzN13 ⟨hqN13, hlsN13⟩ (by rw [pFig_l]; dsimp only; omega) (fun _ => by rw [encR_A (by have := pFig_v (n := n) htp (false, i + 2, L); omega)]; exact gn_add (gn_add rfl (gn_mul (show (8 : Int32) = nI 8 from rfl) rfl)) (gn_mul (show (32 : Int32) = nI 32 from rfl) rfl))) (cwV 1 X.2.2.2.2 gX12_factor_X12_emits rfl rfl rfl (by decide +kernel) ⟨Nat.le_of_ble_eq_true rfl, Nat.le_of_ble_eq_true rfl⟩) (hM.1 0 _ rfl) rfl rfl hl.1 rfl (Nat.le_of_ble_eq_true rfl) dX12_factor_191 (by exact ⟨Nat.zero_le _, Nat.zero_le _⟩)) hS (fun u H locs hq hP hS => ?_)
                      obtain ⟨⟨hqN14, hlsN14⟩, hkN14⟩ := hq
                      generalize u = N14 at hP hqN14 hlsN14 hkN14
                      have hP : gP D cy B z T (gI o 12 N14 I0) R H := hP
                      have hk9N14 : mSame (pS9 act) M N14 := fun b j h => (hkN14 b j (pS9_S h)).trans (hk9N13 b j h)
                      have hzN14 : mPz N14 tp n act := mPz_9 hz hk9N14
                      have hoN14 : N14 0 9 = nI op := (hkN14 0 9 (by unfold pS wS; omega)).trans hoN13
                      exact g_vret N14 X hr hlk hK hP hS dX12_factor_194 (by rw [pFac_a h33 h40, pAtom_y hA9 hC9]; exact ⟨⟨hqN14, hlsN14⟩, fun b j h => by by_cases e9 : b = 0 ∧ j = 9; (· obtain ⟨rfl, rfl⟩ := e9; exact hoN14.trans ho.symm); exact hk9N14 b j (fun g => g.elim h e9)⟩)
                    · exact absurd c161 (gn_m1 (by omega))
                · exact absurd rfl c137
              · exact absurd c122 (gn_m1 (by omega))
            · refine lv_aload_n X.1 X.2.1 dX12_factor_112 rfl (lv_at hl 1 rfl) ?_
              refine va_ldcS X.1 X.2.1 X.2.2.2.1 (vk_R.warm hC.1 hRA) dX12_factor_113 ?_
              refine g_run_i (g_runV (k := 14) [.ref aA] X hK hP hS hC hB (c_among hM (tx := tA) (i := i) hz hp.1 (by omega) hsA h2 htA) (cwV 1 X.2.2.2.2 gX12_factor_X12_among rfl rfl rfl (by decide +kernel) ⟨Nat.le_of_ble_eq_true rfl, Nat.le_of_ble_eq_true rfl⟩) (hM.1 0 _ rfl) rfl rfl hl.1 rfl (Nat.le_of_ble_eq_true rfl) dX12_factor_115 (by exact ⟨Nat.zero_le _, Nat.zero_le _⟩)) hS (fun r u H locs hq hP hS => ?_)
              obtain ⟨hrN15, hpN15, hkN15⟩ := hq
              generalize u = N15 at hP hpN15 hkN15
              rw [if_pos (show pAm tA (sH tp n i) < tA.length from hA9)] at hrN15 hpN15
              subst hrN15
              have hp8N15 : mWp N15 (false, i + 1, L) := ⟨hpN15, (hkN15 0 8 (by omega)).trans hp.2⟩
              have hdN15 : mSame d9 M N15 := fun b j h => hkN15 b j (by unfold d9 at h; omega)
              have hlsN15 : mLs N15 act L := mLs_d hls hdN15
              have hP : gP D cy B z T (gI o 12 N15 I0) R H := hP
              have hk9N15 : mSame (pS9 act) M N15 := fun b j h => (hdN15 b j (d9_S h)).trans ((fun _ _ _ => rfl) b j h)
              have hzN15 : mPz N15 tp n act := mPz_9 hz hk9N15
              have hoN15 : N15 0 9 = nI op := (hkN15 0 9 (by omega)).trans ho
              refine lv_istore_n (lv' := [(2, .int (nI (pAm tA (sH tp n i)))), (1, .int (hI (sH tp n i))), (0, .ref o)]) X.1 X.2.1 dX12_factor_118 rfl hl (by decide) rfl (fun ls hl => ?_)
              refine lv_aload_n X.1 X.2.1 dX12_factor_119 rfl (lv_at hl 2 rfl) ?_
              refine lv_iload_n X.1 X.2.1 dX12_factor_120 rfl (lv_at hl 0 rfl) ?_
              refine lv_iconst (v := (-1)) X.1 X.2.1 dX12_factor_121 (by decide) ?_
              refine lv_icmp_ne (tgt := 129) X.1 X.2.1 dX12_factor_122 (by decide) (fun c122 => ?_) (fun c122 => ?_)
              · refine lv_iconst (v := 0) X.1 X.2.1 dX12_factor_129 (by decide) ?_
                refine m_puti 8 X hK hP hS hM hin rfl (by decide) k63 rfl rfl rfl rfl dX12_factor_130 (fun H locs hP hS => ?_)
                generalize eM16 : g2 N15 0 8 0 = M16 at hP
                refine lv_aload_n X.1 X.2.1 dX12_factor_133 rfl (lv_at hl 2 rfl) ?_
                refine m_geti 8 X hK hP hM hin rfl (by decide) k63 rfl dX12_factor_134 (show M16 0 8 = 0 from (gs_same eM16)) ?_
                refine lv_if_eq (tgt := 144) X.1 X.2.1 dX12_factor_137 (by decide) (fun c137 => ?_) (fun c137 => ?_)
                · refine lv_aload_n X.1 X.2.1 dX12_factor_144 rfl (lv_at hl 2 rfl) ?_
                  refine va_ldcS X.1 X.2.1 X.2.2.2.1 (vk_R.warm hC.1 hRC) dX12_factor_145 ?_
                  have hdy17 : mSame d9 N15 M16 := fun b j h => by unfold d9 at h; exact (gs_ne eM16 (by omega) rfl)
                  have hky17 : mSame (pS9 act) M M16 := fun b j h => (hdy17 b j (d9_S h)).trans (hk9N15 b j h)
                  have hzy17 : mPz M16 tp n act := mPz_9 hz hky17
                  have hlsy17 : mLs M16 act L := mLs_d hlsN15 hdy17
                  have hpy17 : mWp M16 (false, i + 1, L) := ⟨((gs_ne eM16 (by omega) (hp8N15.1))).trans (gn_eq (x := i + 1) (Eq.refl (nI (i + 1))) (by rfl)), (gs_same eM16)⟩
                  have hoy17 : M16 0 9 = nI op := ((gs_ne eM16 (by omega) hoN15)).trans ((Eq.refl (nI op)))
                  refine g_run_i (g_runV (k := 14) [.ref aC] X hK hP hS hC hB (c_among hM (tx := tC) (i := i + 1) hzy17 hpy17.1 (by omega) hsC h2 htC) (cwV 1 X.2.2.2.2 gX12_factor_X12_among rfl rfl rfl (by decide +kernel) ⟨Nat.le_of_ble_eq_true rfl, Nat.le_of_ble_eq_true rfl⟩) (hM.1 0 _ rfl) rfl rfl hl.1 rfl (Nat.le_of_ble_eq_true rfl) dX12_factor_147 (by exact ⟨Nat.zero_le _, Nat.zero_le _⟩)) hS (fun r u H locs hq hP hS => ?_)
                  obtain ⟨hrN18, hpN18, hkN18⟩ := hq
                  generalize u = N18 at hP hpN18 hkN18
                  rw [if_neg (show ¬ pAm tC (sH tp n (i + 1)) < tC.length from hC9)] at hrN18 hpN18
                  subst hrN18
                  have hp8N18 : mWp N18 (false, i + 1, L) := ⟨hpN18, (hkN18 0 8 (by omega)).trans hpy17.2⟩
                  have hdN18 : mSame d9 M16 N18 := fun b j h => hkN18 b j (by unfold d9 at h; omega)
                  have hlsN18 : mLs N18 act L := mLs_d hlsy17 hdN18
                  have hP : gP D cy B z T (gI o 12 N18 I0) R H := hP
                  have hk9N18 : mSame (pS9 act) M N18 := fun b j h => (hdN18 b j (d9_S h)).trans (hky17 b j h)
                  have hzN18 : mPz N18 tp n act := mPz_9 hz hk9N18
                  have hoN18 : N18 0 9 = nI op := (hkN18 0 9 (by omega)).trans hoy17
                  refine lv_istore_n (lv' := [(3, .int (-1)), (2, .int (nI (pAm tA (sH tp n i)))), (1, .int (hI (sH tp n i))), (0, .ref o)]) X.1 X.2.1 dX12_factor_150 rfl hl (by decide) rfl (fun ls hl => ?_)
                  refine lv_aload_n X.1 X.2.1 dX12_factor_151 rfl (lv_at hl 3 rfl) ?_
                  refine lv_aload_n X.1 X.2.1 dX12_factor_152 rfl (lv_at hl 3 rfl) ?_
                  refine m_geti 8 X hK hP hM hin rfl (by decide) k63 rfl dX12_factor_153 (show N18 0 8 = 0 from (hp8N18.2)) ?_
                  refine lv_if_ne (tgt := 164) X.1 X.2.1 dX12_factor_156 (by decide) (fun c156 => ?_) (fun c156 => ?_)
                  · exact absurd rfl c156
                  · refine lv_iload_n X.1 X.2.1 dX12_factor_159 rfl (lv_at hl 0 rfl) ?_
                    refine lv_iconst (v := (-1)) X.1 X.2.1 dX12_factor_160 (by decide) ?_
                    refine lv_icmp_ne (tgt := 168) X.1 X.2.1 dX12_factor_161 (by decide) (fun c161 => ?_) (fun c161 => ?_)
                    · exact absurd rfl c161
                    · refine lv_iconst (v := 1) X.1 X.2.1 dX12_factor_164 (by decide) ?_
                      refine lv_goto (tgt := 169) X.1 X.2.1 dX12_factor_165 (by decide) ?_
                      refine m_puti 8 X hK hP hS hM hin rfl (by decide) k63 rfl rfl rfl rfl dX12_factor_169 (fun H locs hP hS => ?_)
                      generalize eM19 : g2 N18 0 8 1 = M19 at hP
                      refine lv_aload_n X.1 X.2.1 dX12_factor_172 rfl (lv_at hl 3 rfl) ?_
                      have hdy20 : mSame d9 N18 M19 := fun b j h => by unfold d9 at h; exact (gs_ne eM19 (by omega) rfl)
                      have hky20 : mSame (pS9 act) M M19 := fun b j h => (hdy20 b j (d9_S h)).trans (hk9N18 b j h)
                      have hzy20 : mPz M19 tp n act := mPz_9 hz hky20
                      have hlsy20 : mLs M19 act L := mLs_d hlsN18 hdy20
                      have hpy20 : mWp M19 (true, i + 1, L) := ⟨((gs_ne eM19 (by omega) (hp8N18.1))).trans (gn_eq (x := i + 1) (Eq.refl (nI (i + 1))) (by rfl)), (gs_same eM19)⟩
                      have hoy20 : M19 0 9 = nI op := ((gs_ne eM19 (by omega) hoN18)).trans ((Eq.refl (nI op)))
                      refine g_run_i (g_runV (k := 14) [] X hK hP hS hC hB (c_figures hM (s1 := (true, i + 1, L)) hzy20 hpy20 (by dsimp only; omega)) (cwV 0 X.2.2.2.2 gX12_factor_X12_figures rfl rfl rfl (by decide +kernel) ⟨Nat.le_of_ble_eq_true rfl, Nat.le_of_ble_eq_true rfl⟩) (hM.1 0 _ rfl) rfl rfl hl.1 rfl (Nat.le_of_ble_eq_true rfl) dX12_factor_173 (by exact ⟨Nat.zero_le _, Nat.zero_le _⟩)) hS (fun r u H locs hq hP hS => ?_)
                      obtain ⟨rfl, hqN21, hkN21⟩ := hq
                      generalize u = N21 at hP hqN21 hkN21
                      have hlsN21 : mLs N21 act ((pFig tp n (true, i + 1, L)).1).2.2 := by rw [pFig_l]; exact mLs_w hlsy20 hkN21
                      have hP : gP D cy B z T (gI o 12 N21 I0) R H := hP
                      have hk9N21 : mSame (pS9 act) M N21 := fun b j h => (hkN21 b j (pS_w h)).trans (hky20 b j h)
                      have hzN21 : mPz N21 tp n act := mPz_9 hz hk9N21
                      have hoN21 : N21 0 9 = nI op := (hkN21 0 9 (by unfold wS; omega)).trans hoy20
                      refine lv_istore (lv' := [(4, .int (nI ((pFig tp n (true, i + 1, L)).2))), (3, .int (-1)), (2, .int (nI (pAm tA (sH tp n i)))), (1, .int (hI (sH tp n i))), (0, .ref o)]) X.1 X.2.1 dX12_factor_176 hl (by decide) rfl (fun ls hl => ?_)
                      refine lv_aload_n X.1 X.2.1 dX12_factor_178 rfl (lv_at hl 4 rfl) ?_
                      refine lv_iload_n X.1 X.2.1 dX12_factor_179 rfl (lv_at hl 2 rfl) ?_
                      refine lv_bipush (v := 8) X.1 X.2.1 dX12_factor_180 (by decide) ?_
                      refine lv_iload_n X.1 X.2.1 dX12_factor_182 rfl (lv_at hl 1 rfl) ?_
                      refine lv_imul X.1 X.2.1 dX12_factor_183 ?_
                      refine lv_iadd X.1 X.2.1 dX12_factor_184 ?_
                      refine lv_bipush (v := 32) X.1 X.2.1 dX12_factor_185 (by decide) ?_
                      refine lv_iload X.1 X.2.1 dX12_factor_187 (lv_at hl 0 rfl) ?_
                      refine lv_imul X.1 X.2.1 dX12_factor_189 ?_
                      refine lv_iadd X.1 X.2.1 dX12_factor_190 ?_
                      refine g_run_v (g_runV (k := 14) [.int (((nI (pAm tA (sH tp n i))) + (8 * (-1))) + (32 * (nI ((pFig tp n (true, i + 1, L)).2))))] X hK hP hS hC hB (c_emits hM (s1 := (pFig tp n (true, i + 1, L)).1) (t := 0) hzN21 ⟨hqN21, hlsN21⟩ (by rw [pFig_l]; dsimp only; omega) (fun g => by rw [pFig_t] at g; cases g)) (cwV 1 X.2.2.2.2 gX12_factor_X12_emits rfl rfl rfl (by decide +kernel) ⟨Nat.le_of_ble_eq_true rfl, Nat.le_of_ble_eq_true rfl⟩) (hM.1 0 _ rfl) rfl rfl hl.1 rfl (Nat.le_of_ble_eq_true rfl) dX12_factor_191 (by exact ⟨Nat.zero_le _, Nat.zero_le _⟩)) hS (fun u H locs hq hP hS => ?_)
                      obtain ⟨⟨hqN22, hlsN22⟩, hkN22⟩ := hq
                      generalize u = N22 at hP hqN22 hlsN22 hkN22
                      have hP : gP D cy B z T (gI o 12 N22 I0) R H := hP
                      have hk9N22 : mSame (pS9 act) M N22 := fun b j h => (hkN22 b j (pS9_S h)).trans (hk9N21 b j h)
                      have hzN22 : mPz N22 tp n act := mPz_9 hz hk9N22
                      have hoN22 : N22 0 9 = nI op := (hkN22 0 9 (by unfold pS wS; omega)).trans hoN21
                      exact g_vret N22 X hr hlk hK hP hS dX12_factor_194 (by rw [pFac_a h33 h40, pAtom_c hA9 hC9, ← (show pEm 0 (pFig tp n (true, i + 1, L)).1 = (true, i + 1, L) by rw [pFig_t]; rfl)]; exact ⟨⟨hqN22, hlsN22⟩, fun b j h => by by_cases e9 : b = 0 ∧ j = 9; (· obtain ⟨rfl, rfl⟩ := e9; exact hoN22.trans ho.symm); exact hk9N22 b j (fun g => g.elim h e9)⟩)
                · exact absurd rfl c137
              · exact absurd c122 (gn_m1 (by omega))
          · refine lv_aload_n X.1 X.2.1 dX12_factor_112 rfl (lv_at hl 1 rfl) ?_
            refine va_ldcS X.1 X.2.1 X.2.2.2.1 (vk_R.warm hC.1 hRA) dX12_factor_113 ?_
            refine g_run_i (g_runV (k := 14) [.ref aA] X hK hP hS hC hB (c_among hM (tx := tA) (i := i) hz hp.1 (by omega) hsA h2 htA) (cwV 1 X.2.2.2.2 gX12_factor_X12_among rfl rfl rfl (by decide +kernel) ⟨Nat.le_of_ble_eq_true rfl, Nat.le_of_ble_eq_true rfl⟩) (hM.1 0 _ rfl) rfl rfl hl.1 rfl (Nat.le_of_ble_eq_true rfl) dX12_factor_115 (by exact ⟨Nat.zero_le _, Nat.zero_le _⟩)) hS (fun r u H locs hq hP hS => ?_)
            obtain ⟨hrN23, hpN23, hkN23⟩ := hq
            generalize u = N23 at hP hpN23 hkN23
            rw [if_neg (show ¬ pAm tA (sH tp n i) < tA.length from hA9)] at hrN23 hpN23
            subst hrN23
            have hp8N23 : mWp N23 (false, i, L) := ⟨hpN23, (hkN23 0 8 (by omega)).trans hp.2⟩
            have hdN23 : mSame d9 M N23 := fun b j h => hkN23 b j (by unfold d9 at h; omega)
            have hlsN23 : mLs N23 act L := mLs_d hls hdN23
            have hP : gP D cy B z T (gI o 12 N23 I0) R H := hP
            have hk9N23 : mSame (pS9 act) M N23 := fun b j h => (hdN23 b j (d9_S h)).trans ((fun _ _ _ => rfl) b j h)
            have hzN23 : mPz N23 tp n act := mPz_9 hz hk9N23
            have hoN23 : N23 0 9 = nI op := (hkN23 0 9 (by omega)).trans ho
            refine lv_istore_n (lv' := [(2, .int (-1)), (1, .int (hI (sH tp n i))), (0, .ref o)]) X.1 X.2.1 dX12_factor_118 rfl hl (by decide) rfl (fun ls hl => ?_)
            refine lv_aload_n X.1 X.2.1 dX12_factor_119 rfl (lv_at hl 2 rfl) ?_
            refine lv_iload_n X.1 X.2.1 dX12_factor_120 rfl (lv_at hl 0 rfl) ?_
            refine lv_iconst (v := (-1)) X.1 X.2.1 dX12_factor_121 (by decide) ?_
            refine lv_icmp_ne (tgt := 129) X.1 X.2.1 dX12_factor_122 (by decide) (fun c122 => ?_) (fun c122 => ?_)
            · exact absurd rfl c122
            · refine lv_iconst (v := 1) X.1 X.2.1 dX12_factor_125 (by decide) ?_
              refine lv_goto (tgt := 130) X.1 X.2.1 dX12_factor_126 (by decide) ?_
              refine m_puti 8 X hK hP hS hM hin rfl (by decide) k63 rfl rfl rfl rfl dX12_factor_130 (fun H locs hP hS => ?_)
              generalize eM24 : g2 N23 0 8 1 = M24 at hP
              refine lv_aload_n X.1 X.2.1 dX12_factor_133 rfl (lv_at hl 2 rfl) ?_
              refine m_geti 8 X hK hP hM hin rfl (by decide) k63 rfl dX12_factor_134 (show M24 0 8 = 1 from (gs_same eM24)) ?_
              refine lv_if_eq (tgt := 144) X.1 X.2.1 dX12_factor_137 (by decide) (fun c137 => ?_) (fun c137 => ?_)
              · exact absurd c137 (by decide)
              · refine lv_iconst (v := 0) X.1 X.2.1 dX12_factor_140 (by decide) ?_
                refine lv_goto (tgt := 150) X.1 X.2.1 dX12_factor_141 (by decide) ?_
                refine lv_istore_n (lv' := [(3, .int 0), (2, .int (-1)), (1, .int (hI (sH tp n i))), (0, .ref o)]) X.1 X.2.1 dX12_factor_150 rfl hl (by decide) rfl (fun ls hl => ?_)
                refine lv_aload_n X.1 X.2.1 dX12_factor_151 rfl (lv_at hl 3 rfl) ?_
                refine lv_aload_n X.1 X.2.1 dX12_factor_152 rfl (lv_at hl 3 rfl) ?_
                refine m_geti 8 X hK hP hM hin rfl (by decide) k63 rfl dX12_factor_153 (show M24 0 8 = 1 from (gs_same eM24)) ?_
                refine lv_if_ne (tgt := 164) X.1 X.2.1 dX12_factor_156 (by decide) (fun c156 => ?_) (fun c156 => ?_)
                · refine lv_iconst (v := 1) X.1 X.2.1 dX12_factor_164 (by decide) ?_
                  refine lv_goto (tgt := 169) X.1 X.2.1 dX12_factor_165 (by decide) ?_
                  refine m_puti 8 X hK hP hS hM hin rfl (by decide) k63 rfl rfl rfl rfl dX12_factor_169 (fun H locs hP hS => ?_)
                  generalize eM25 : g2 M24 0 8 1 = M25 at hP
                  refine lv_aload_n X.1 X.2.1 dX12_factor_172 rfl (lv_at hl 3 rfl) ?_
                  have hdy26 : mSame d9 N23 M25 := fun b j h => by unfold d9 at h; exact (gs_ne eM25 (by omega) (gs_ne eM24 (by omega) rfl))
                  have hky26 : mSame (pS9 act) M M25 := fun b j h => (hdy26 b j (d9_S h)).trans (hk9N23 b j h)
                  have hzy26 : mPz M25 tp n act := mPz_9 hz hky26
                  have hlsy26 : mLs M25 act L := mLs_d hlsN23 hdy26
                  have hpy26 : mWp M25 (true, i, L) := ⟨((gs_ne eM25 (by omega) (gs_ne eM24 (by omega) (hp8N23.1)))).trans (gn_eq (x := i) (Eq.refl (nI i)) (by rfl)), (gs_same eM25)⟩
                  have hoy26 : M25 0 9 = nI op := ((gs_ne eM25 (by omega) (gs_ne eM24 (by omega) hoN23))).trans ((Eq.refl (nI op)))
                  refine g_run_i (g_runV (k := 14) [] X hK hP hS hC hB (c_figures hM (s1 := (true, i, L)) hzy26 hpy26 (by dsimp only; omega)) (cwV 0 X.2.2.2.2 gX12_factor_X12_figures rfl rfl rfl (by decide +kernel) ⟨Nat.le_of_ble_eq_true rfl, Nat.le_of_ble_eq_true rfl⟩) (hM.1 0 _ rfl) rfl rfl hl.1 rfl (Nat.le_of_ble_eq_true rfl) dX12_factor_173 (by exact ⟨Nat.zero_le _, Nat.zero_le _⟩)) hS (fun r u H locs hq hP hS => ?_)
                  obtain ⟨rfl, hqN27, hkN27⟩ := hq
                  generalize u = N27 at hP hqN27 hkN27
                  have hlsN27 : mLs N27 act ((pFig tp n (true, i, L)).1).2.2 := by rw [pFig_l]; exact mLs_w hlsy26 hkN27
                  have hP : gP D cy B z T (gI o 12 N27 I0) R H := hP
                  have hk9N27 : mSame (pS9 act) M N27 := fun b j h => (hkN27 b j (pS_w h)).trans (hky26 b j h)
                  have hzN27 : mPz N27 tp n act := mPz_9 hz hk9N27
                  have hoN27 : N27 0 9 = nI op := (hkN27 0 9 (by unfold wS; omega)).trans hoy26
                  refine lv_istore (lv' := [(4, .int (nI ((pFig tp n (true, i, L)).2))), (3, .int 0), (2, .int (-1)), (1, .int (hI (sH tp n i))), (0, .ref o)]) X.1 X.2.1 dX12_factor_176 hl (by decide) rfl (fun ls hl => ?_)
                  refine lv_aload_n X.1 X.2.1 dX12_factor_178 rfl (lv_at hl 4 rfl) ?_
                  refine lv_iload_n X.1 X.2.1 dX12_factor_179 rfl (lv_at hl 2 rfl) ?_
                  refine lv_bipush (v := 8) X.1 X.2.1 dX12_factor_180 (by decide) ?_
                  refine lv_iload_n X.1 X.2.1 dX12_factor_182 rfl (lv_at hl 1 rfl) ?_
                  refine lv_imul X.1 X.2.1 dX12_factor_183 ?_
                  refine lv_iadd X.1 X.2.1 dX12_factor_184 ?_
                  refine lv_bipush (v := 32) X.1 X.2.1 dX12_factor_185 (by decide) ?_
                  refine lv_iload X.1 X.2.1 dX12_factor_187 (lv_at hl 0 rfl) ?_
                  refine lv_imul X.1 X.2.1 dX12_factor_189 ?_
                  refine lv_iadd X.1 X.2.1 dX12_factor_190 ?_
                  refine g_run_v (g_runV (k := 14) [.int (((-1) + (8 * 0)) + (32 * (nI ((pFig tp n (true, i, L)).2))))] X hK hP hS hC hB (c_emits hM (s1 := (pFig tp n (true, i, L)).1) (t := 0) hzN27 ⟨hqN27, hlsN27⟩ (by rw [pFig_l]; dsimp only; omega) (fun g => by rw [pFig_t] at g; cases g)) (cwV 1 X.2.2.2.2 gX12_factor_X12_emits rfl rfl rfl (by decide +kernel) ⟨Nat.le_of_ble_eq_true rfl, Nat.le_of_ble_eq_true rfl⟩) (hM.1 0 _ rfl) rfl rfl hl.1 rfl (Nat.le_of_ble_eq_true rfl) dX12_factor_191 (by exact ⟨Nat.zero_le _, Nat.zero_le _⟩)) hS (fun u H locs hq hP hS => ?_)
                  obtain ⟨⟨hqN28, hlsN28⟩, hkN28⟩ := hq
                  generalize u = N28 at hP hqN28 hlsN28 hkN28
                  have hP : gP D cy B z T (gI o 12 N28 I0) R H := hP
                  have hk9N28 : mSame (pS9 act) M N28 := fun b j h => (hkN28 b j (pS9_S h)).trans (hk9N27 b j h)
                  have hzN28 : mPz N28 tp n act := mPz_9 hz hk9N28
                  have hoN28 : N28 0 9 = nI op := (hkN28 0 9 (by unfold pS wS; omega)).trans hoN27
                  exact g_vret N28 X hr hlk hK hP hS dX12_factor_194 (by rw [pFac_a h33 h40, pAtom_a hA9, ← (show pEm 0 (pFig tp n (true, i, L)).1 = (true, i, L) by rw [pFig_t]; rfl)]; exact ⟨⟨hqN28, hlsN28⟩, fun b j h => by by_cases e9 : b = 0 ∧ j = 9; (· obtain ⟨rfl, rfl⟩ := e9; exact hoN28.trans ho.symm); exact hk9N28 b j (fun g => g.elim h e9)⟩)
                · exact absurd c156 (by decide)
        · have h40 : sH tp n i = 40 := (hI_eq (y := 40) (by decide)).mp c22
          have hin9 := sH_in h40 (by decide)
          refine lv_aload_n X.1 X.2.1 dX12_factor_25 rfl (lv_at hl 1 rfl) ?_
          refine lv_aload_n X.1 X.2.1 dX12_factor_26 rfl (lv_at hl 1 rfl) ?_
          refine m_geti 9 X hK hP hM hin rfl (by decide) k87 rfl dX12_factor_27 (show M 0 9 = nI op from ho) ?_
          refine lv_iconst (v := 5) X.1 X.2.1 dX12_factor_30 (by decide) ?_
          refine lv_icmp_ne (tgt := 38) X.1 X.2.1 dX12_factor_31 (by decide) (fun c31 => ?_) (fun c31 => ?_)
          · exact absurd (show nI op = 5 by rw [show op = 5 by omega]; rfl) c31
          · refine lv_iconst (v := 1) X.1 X.2.1 dX12_factor_34 (by decide) ?_
            refine lv_goto (tgt := 39) X.1 X.2.1 dX12_factor_35 (by decide) ?_
            refine m_puti 8 X hK hP hS hM hin rfl (by decide) k63 rfl rfl rfl rfl dX12_factor_39 (fun H locs hP hS => ?_)
            generalize eM29 : g2 M 0 8 1 = M29 at hP
            refine lv_aload_n X.1 X.2.1 dX12_factor_42 rfl (lv_at hl 1 rfl) ?_
            refine lv_dup X.1 X.2.1 dX12_factor_43 rfl ?_
            refine m_geti 9 X hK hP hM hin rfl (by decide) k87 rfl dX12_factor_44 (show M29 0 9 = nI op from (gs_ne eM29 (by omega) ho)) ?_
            refine lv_iconst (v := 1) X.1 X.2.1 dX12_factor_47 (by decide) ?_
            refine lv_iadd X.1 X.2.1 dX12_factor_48 ?_
            refine m_puti 9 X hK hP hS hM hin rfl (by decide) k87 rfl rfl rfl rfl dX12_factor_49 (fun H locs hP hS => ?_)
            generalize eM30 : g2 M29 0 9 ((nI op) + 1) = M30 at hP
            refine lv_aload_n X.1 X.2.1 dX12_factor_52 rfl (lv_at hl 1 rfl) ?_
            refine lv_dup X.1 X.2.1 dX12_factor_53 rfl ?_
            refine m_geti 6 X hK hP hM hin rfl (by decide) k57 rfl dX12_factor_54 (show M30 0 6 = nI i from (gs_ne eM30 (by omega) (gs_ne eM29 (by omega) (hp.1)))) ?_
            refine lv_aload_n X.1 X.2.1 dX12_factor_57 rfl (lv_at hl 1 rfl) ?_
            refine m_geti 8 X hK hP hM hin rfl (by decide) k63 rfl dX12_factor_58 (show M30 0 8 = 1 from (gs_ne eM30 (by omega) (gs_same eM29))) ?_
            refine lv_if_eq (tgt := 68) X.1 X.2.1 dX12_factor_61 (by decide) (fun c61 => ?_) (fun c61 => ?_)
            · exact absurd c61 (by decide)
            · refine lv_iconst (v := 0) X.1 X.2.1 dX12_factor_64 (by decide) ?_
              refine lv_goto (tgt := 69) X.1 X.2.1 dX12_factor_65 (by decide) ?_
              refine lv_iadd X.1 X.2.1 dX12_factor_69 ?_
              refine m_puti 6 X hK hP hS hM hin rfl (by decide) k57 rfl rfl rfl rfl dX12_factor_70 (fun H locs hP hS => ?_)
              generalize eM31 : g2 M30 0 6 ((nI i) + 0) = M31 at hP
              refine lv_iload_n X.1 X.2.1 dX12_factor_73 rfl (lv_at hl 0 rfl) ?_
              refine lv_bipush (v := 33) X.1 X.2.1 dX12_factor_74 (by decide) ?_
              refine lv_icmp_ne (tgt := 91) X.1 X.2.1 dX12_factor_76 (by decide) (fun c76 => ?_) (fun c76 => ?_)
              · refine lv_aload_n X.1 X.2.1 dX12_factor_91 rfl (lv_at hl 1 rfl) ?_
                have hdy32 : mSame d9 M M31 := fun b j h => by unfold d9 at h; exact (gs_ne eM31 (by omega) (gs_ne eM30 (by omega) (gs_ne eM29 (by omega) rfl)))
                have hky32 : mSame (pS9 act) M M31 := fun b j h => (hdy32 b j (d9_S h)).trans ((fun _ _ _ => rfl) b j h)
                have hzy32 : mPz M31 tp n act := mPz_9 hz hky32
                have hlsy32 : mLs M31 act L := mLs_d hls hdy32
                have hpy32 : mWp M31 (true, i, L) := ⟨((gs_same eM31)).trans (gn_eq (x := (i + 0)) (gn_add (Eq.refl (nI i)) (show (0 : Int32) = nI 0 from rfl)) (by rfl)), (gs_ne eM31 (by omega) (gs_ne eM30 (by omega) (gs_same eM29)))⟩
                have hoy32 : M31 0 9 = nI (op + 1) := ((gs_ne eM31 (by omega) (gs_same eM30))).trans ((gn_add (Eq.refl (nI op)) (show (1 : Int32) = nI 1 from rfl)))
                refine g_run_v (g_runV (k := 14) [] X hK hP hS hC hB (c_some_w hM hpy32.2) (cwV 0 X.2.2.2.2 gX12_factor_X12_some rfl rfl rfl (by decide +kernel) ⟨Nat.le_of_ble_eq_true rfl, Nat.le_of_ble_eq_true rfl⟩) (hM.1 0 _ rfl) rfl rfl hl.1 rfl (Nat.le_of_ble_eq_true rfl) dX12_factor_92 (by exact ⟨Nat.zero_le _, Nat.zero_le _⟩)) hS (fun u H locs hq hP hS => ?_)
                obtain rfl := hq
                have hP : gP D cy B z T (gI o 12 M31 I0) R H := hP
                refine lv_aload_n X.1 X.2.1 dX12_factor_95 rfl (lv_at hl 1 rfl) ?_
                refine lv_bipush (v := 41) X.1 X.2.1 dX12_factor_96 (by decide) ?_
                refine g_run_v (g_runV (k := 14) [.int 41] X hK hP hS hC hB (c_must hM (s1 := (true, i, L)) hzy32 hpy32 (by have := hz.1.2.1; dsimp only; omega) (by decide)) (cwV 1 X.2.2.2.2 gX12_factor_X12_must rfl rfl rfl (by decide +kernel) ⟨Nat.le_of_ble_eq_true rfl, Nat.le_of_ble_eq_true rfl⟩) (hM.1 0 _ rfl) rfl rfl hl.1 rfl (Nat.le_of_ble_eq_true rfl) dX12_factor_98 (by exact ⟨Nat.zero_le _, Nat.zero_le _⟩)) hS (fun u H locs hq hP hS => ?_)
                obtain ⟨hqN33, hkN33⟩ := hq
                generalize u = N33 at hP hqN33 hkN33
                have hlsN33 : mLs N33 act (pMust tp n 41 (true, i, L)).2.2 := by rw [pMust_l]; exact mLs_w hlsy32 hkN33
                have hP : gP D cy B z T (gI o 12 N33 I0) R H := hP
                have hk9N33 : mSame (pS9 act) M N33 := fun b j h => (hkN33 b j (pS_w h)).trans (hky32 b j h)
                have hzN33 : mPz N33 tp n act := mPz_9 hz hk9N33
                have hoN33 : N33 0 9 = nI (op + 1) := (hkN33 0 9 (by unfold wS; omega)).trans hoy32
                refine lv_aload_n X.1 X.2.1 dX12_factor_101 rfl (lv_at hl 1 rfl) ?_
                refine lv_dup X.1 X.2.1 dX12_factor_102 rfl ?_
                refine m_geti 9 X hK hP hM hin rfl (by decide) k87 rfl dX12_factor_103 (show N33 0 9 = nI (op + 1) from hoN33) ?_
                refine lv_iconst (v := 1) X.1 X.2.1 dX12_factor_106 (by decide) ?_
                refine lv_isub X.1 X.2.1 dX12_factor_107 ?_
                refine m_puti 9 X hK hP hS hM hin rfl (by decide) k87 rfl rfl rfl rfl dX12_factor_108 (fun H locs hP hS => ?_)
                generalize eM34 : g2 N33 0 9 ((nI (op + 1)) - 1) = M34 at hP
                have hdz : mSame d9 N33 M34 := fun b j h => by unfold d9 at h; exact (gs_ne eM34 (by omega) rfl)
                have hoz : M34 0 9 = nI op := ((gs_same eM34)).trans (nI_pred op)
                have hkz : ∀ b j, ¬ pS act b j → M34 b j = M b j := fun b j h => by by_cases e9 : b = 0 ∧ j = 9; (· obtain ⟨rfl, rfl⟩ := e9; exact hoz.trans ho.symm); exact (hdz b j (by unfold d9; unfold pS wS at h; omega)).trans (hk9N33 b j (fun g => g.elim h e9))
                exact g_vret M34 X hr hlk hK hP hS dX12_factor_111 (by rw [pFac_0 (Or.inr h40), ← (show pMust tp n 41 (true, i, L) = (true, i, L) from pMust_t)]; exact ⟨⟨⟨gs_ne eM34 (by omega) hqN33.1, gs_ne eM34 (by omega) hqN33.2⟩, mLs_d hlsN33 hdz⟩, hkz⟩)
              · exact absurd c76 c16
    · exact absurd rfl c4

set_option maxHeartbeats 4000000 in
set_option maxRecDepth 100000 in
/-- factor -/
theorem c_factor_s (hM : gMod o T R) (hz : mPz M tp n act) {s1 : PS} (hp : mPs M act s1) (ho : M 0 9 = nI op) (hi3 : s1.2.1 ≤ n) (hL : s1.2.2.length ≤ s1.2.1) (hstr : gStr s0 B) (hop : op + (d + 1) = 5) (hfr : 5 ≤ fr) (hlo : 107 ≤ lo) (hF : CalC l s0 D cy B o z T R I0 tp n act (op + 1) yX12_factor wsX12_factor fr lo (pFac tp n d)) (hF2 : CalC l s0 D cy B o z T R I0 tp n act (op + 1) yX12_some wsX12_some (fr + 2) (lo + 48) (pSome tp n (pFac tp n d))) : Met l yX12_factor wsX12_factor (rmP (fr + 3) (lo + 68)) (mPre s0 D cy B o z T R I0 M []) (mQv D cy B o z T R I0 (fun u => mPs u act (pFac tp n (d + 1) s1) ∧ mSame (pS act) M u)) 0 0 (gA B) := by
  refine g_met (maxL := 5) (ret := none) (by decide) rfl (Nat.le_of_ble_eq_true rfl) (fun p e s m args below meth c ls X hr hlk hnm hK hP hC hS hl => ?_)
  have hl : lv_has ls 5 [(0, .ref o)] := hl
  have hP : gP D cy B z T (gI o 12 M I0) R s.heap := hP
  have hB : B ≤ s.heap.size := by rw [hP.1]; exact hP.2.1
  have hin : ∀ w ∈ wsX120, w ∈ wsX12_factor := fun _ h => List.mem_cons_of_mem _ (List.mem_append_right _ h)
  have k57 : Cond.fieldLink RX12 57 "BarrowPlankModel" "spot" "I" ∈ wsX12_factor := by decide +kernel
  have k63 : Cond.fieldLink RX12 63 "BarrowPlankModel" "isWrong" "Z" ∈ wsX12_factor := by decide +kernel
  have k87 : Cond.fieldLink RX12 87 "BarrowPlankModel" "open" "I" ∈ wsX12_factor := by decide +kernel
  obtain ⟨ha5, hn100, htp⟩ := hz.1
  obtain ⟨h2, -⟩ : gSt2 s0 B ∧ True := ⟨hstr.1, trivial⟩
  obtain ⟨aA, qA, hRA, hsA, htA⟩ := hstr.at 0 rfl
  obtain ⟨aC, qC, hRC, hsC, htC⟩ := hstr.at 1 rfl
  have htA : gTx tA := htA
  have htC : gTx tC := htC
  have hsA : gSo s0 B tA aA qA := hsA
  have hsC : gSo s0 B tC aC qC := hsC
  obtain ⟨wr, i, L⟩ := s1
  obtain ⟨hp, hls⟩ := hp
  have hls : mLs M act L := hls
  have hi3 : i ≤ n := hi3
  have hL : L.length ≤ i := hL
  cases wr with
  | true =>
    refine lv_aload_n X.1 X.2.1 dX12_factor_0 rfl (lv_at hl 0 rfl) ?_
    refine m_geti 8 X hK hP hM hin rfl (by decide) k63 rfl dX12_factor_1 (show M 0 8 = 1 from (hp.2)) ?_
    refine lv_if_eq (tgt := 8) X.1 X.2.1 dX12_factor_4 (by decide) (fun c4 => ?_) (fun c4 => ?_)
    · exact absurd c4 (by decide)
    · exact g_vret M X hr hlk hK hP hS dX12_factor_7 ⟨⟨hp, hls⟩, fun _ _ _ => rfl⟩
  | false =>
    refine lv_aload_n X.1 X.2.1 dX12_factor_0 rfl (lv_at hl 0 rfl) ?_
    refine m_geti 8 X hK hP hM hin rfl (by decide) k63 rfl dX12_factor_1 (show M 0 8 = 0 from (hp.2)) ?_
    refine lv_if_eq (tgt := 8) X.1 X.2.1 dX12_factor_4 (by decide) (fun c4 => ?_) (fun c4 => ?_)
    · refine lv_aload_n X.1 X.2.1 dX12_factor_8 rfl (lv_at hl 0 rfl) ?_
      refine g_run_i (g_runV (k := 14) [] X hK hP hS hC hB (c_here hM (i := i) hz hp.1 (by have := hz.1.2.1; omega)) (cwV 0 X.2.2.2.2 gX12_factor_X12_here rfl rfl rfl (by decide +kernel) (by refine ⟨?_, ?_⟩ <;> dsimp only <;> omega)) (hM.1 0 _ rfl) rfl rfl hl.1 rfl (Nat.le_of_ble_eq_true rfl) dX12_factor_9 (by exact ⟨Nat.zero_le _, Nat.zero_le _⟩)) hS (fun r u H locs hq hP hS => ?_)
      obtain ⟨rfl, rfl⟩ := hq
      have hP : gP D cy B z T (gI o 12 M I0) R H := hP
      refine lv_istore_n (lv' := [(1, .int (hI (sH tp n i))), (0, .ref o)]) X.1 X.2.1 dX12_factor_12 rfl hl (by decide) rfl (fun ls hl => ?_)
      refine lv_iload_n X.1 X.2.1 dX12_factor_13 rfl (lv_at hl 0 rfl) ?_
      refine lv_bipush (v := 33) X.1 X.2.1 dX12_factor_14 (by decide) ?_
      refine lv_icmp_eq (tgt := 25) X.1 X.2.1 dX12_factor_16 (by decide) (fun c16 => ?_) (fun c16 => ?_)
      · have h33 : sH tp n i = 33 := (hI_eq (y := 33) (by decide)).mp c16
        have hin9 := sH_in h33 (by decide)
        refine lv_aload_n X.1 X.2.1 dX12_factor_25 rfl (lv_at hl 1 rfl) ?_
        refine lv_aload_n X.1 X.2.1 dX12_factor_26 rfl (lv_at hl 1 rfl) ?_
        refine m_geti 9 X hK hP hM hin rfl (by decide) k87 rfl dX12_factor_27 (show M 0 9 = nI op from ho) ?_
        refine lv_iconst (v := 5) X.1 X.2.1 dX12_factor_30 (by decide) ?_
        refine lv_icmp_ne (tgt := 38) X.1 X.2.1 dX12_factor_31 (by decide) (fun c31 => ?_) (fun c31 => ?_)
        · refine lv_iconst (v := 0) X.1 X.2.1 dX12_factor_38 (by decide) ?_
          refine m_puti 8 X hK hP hS hM hin rfl (by decide) k63 rfl rfl rfl rfl dX12_factor_39 (fun H locs hP hS => ?_)
          generalize eM1 : g2 M 0 8 0 = M1 at hP
          refine lv_aload_n X.1 X.2.1 dX12_factor_42 rfl (lv_at hl 1 rfl) ?_
          refine lv_dup X.1 X.2.1 dX12_factor_43 rfl ?_
          refine m_geti 9 X hK hP hM hin rfl (by decide) k87 rfl dX12_factor_44 (show M1 0 9 = nI op from (gs_ne eM1 (by omega) ho)) ?_
          refine lv_iconst (v := 1) X.1 X.2.1 dX12_factor_47 (by decide) ?_
          refine lv_iadd X.1 X.2.1 dX12_factor_48 ?_
          refine m_puti 9 X hK hP hS hM hin rfl (by decide) k87 rfl rfl rfl rfl dX12_factor_49 (fun H locs hP hS => ?_)
          generalize eM2 : g2 M1 0 9 ((nI op) + 1) = M2 at hP
          refine lv_aload_n X.1 X.2.1 dX12_factor_52 rfl (lv_at hl 1 rfl) ?_
          refine lv_dup X.1 X.2.1 dX12_factor_53 rfl ?_
          refine m_geti 6 X hK hP hM hin rfl (by decide) k57 rfl dX12_factor_54 (show M2 0 6 = nI i from (gs_ne eM2 (by omega) (gs_ne eM1 (by omega) (hp.1)))) ?_
          refine lv_aload_n X.1 X.2.1 dX12_factor_57 rfl (lv_at hl 1 rfl) ?_
          refine m_geti 8 X hK hP hM hin rfl (by decide) k63 rfl dX12_factor_58 (show M2 0 8 = 0 from (gs_ne eM2 (by omega) (gs_same eM1))) ?_
          refine lv_if_eq (tgt := 68) X.1 X.2.1 dX12_factor_61 (by decide) (fun c61 => ?_) (fun c61 => ?_)
          · refine lv_iconst (v := 1) X.1 X.2.1 dX12_factor_68 (by decide) ?_
            refine lv_iadd X.1 X.2.1 dX12_factor_69 ?_
            refine m_puti 6 X hK hP hS hM hin rfl (by decide) k57 rfl rfl rfl rfl dX12_factor_70 (fun H locs hP hS => ?_)
            generalize eM3 : g2 M2 0 6 ((nI i) + 1) = M3 at hP
            refine lv_iload_n X.1 X.2.1 dX12_factor_73 rfl (lv_at hl 0 rfl) ?_
            refine lv_bipush (v := 33) X.1 X.2.1 dX12_factor_74 (by decide) ?_
            refine lv_icmp_ne (tgt := 91) X.1 X.2.1 dX12_factor_76 (by decide) (fun c76 => ?_) (fun c76 => ?_)
            · exact absurd c16 c76
            · refine lv_aload_n X.1 X.2.1 dX12_factor_79 rfl (lv_at hl 1 rfl) ?_
              have hdy4 : mSame d9 M M3 := fun b j h => by unfold d9 at h; exact (gs_ne eM3 (by omega) (gs_ne eM2 (by omega) (gs_ne eM1 (by omega) rfl)))
              have hky4 : mSame (pS9 act) M M3 := fun b j h => (hdy4 b j (d9_S h)).trans ((fun _ _ _ => rfl) b j h)
              have hzy4 : mPz M3 tp n act := mPz_9 hz hky4
              have hlsy4 : mLs M3 act L := mLs_d hls hdy4
              have hpy4 : mWp M3 (false, i + 1, L) := ⟨((gs_same eM3)).trans (gn_eq (x := (i + 1)) (gn_add (Eq.refl (nI i)) (show (1 : Int32) = nI 1 from rfl)) (by rfl)), (gs_ne eM3 (by omega) (gs_ne eM2 (by omega) (gs_same eM1)))⟩
              have hoy4 : M3 0 9 = nI (op + 1) := ((gs_ne eM3 (by omega) (gs_same eM2))).trans ((gn_add (Eq.refl (nI op)) (show (1 : Int32) = nI 1 from rfl)))
              refine g_run_v (g_runV (k := 14) [] X hK hP hS hC hB (hF _ (false, i + 1, L) hzy4 ⟨hpy4, hlsy4⟩ hoy4 (by dsimp only; omega) (by dsimp only; omega)) (cwV 0 X.2.2.2.2 gX12_factor_X12_factor rfl rfl rfl (by decide +kernel) (by refine ⟨?_, ?_⟩ <;> dsimp only <;> omega)) (hM.1 0 _ rfl) rfl rfl hl.1 rfl (Nat.le_of_ble_eq_true rfl) dX12_factor_80 (by exact ⟨Nat.zero_le _, Nat.zero_le _⟩)) hS (fun u H locs hq hP hS => ?_)
              obtain ⟨⟨hqN5, hlsN5⟩, hkN5⟩ := hq
              generalize u = N5 at hP hqN5 hlsN5 hkN5
              have hP : gP D cy B z T (gI o 12 N5 I0) R H := hP
              have hk9N5 : mSame (pS9 act) M N5 := fun b j h => (hkN5 b j (pS9_S h)).trans (hky4 b j h)
              have hzN5 : mPz N5 tp n act := mPz_9 hz hk9N5
              have hoN5 : N5 0 9 = nI (op + 1) := (hkN5 0 9 (by unfold pS wS; omega)).trans hoy4
              refine lv_aload_n X.1 X.2.1 dX12_factor_83 rfl (lv_at hl 1 rfl) ?_
              refine lv_iconst (v := (-1)) X.1 X.2.1 dX12_factor_84 (by decide) ?_
              refine g_run_v (g_runV (k := 14) [.int (-1)] X hK hP hS hC hB (c_emits hM (s1 := pFac tp n d (false, i + 1, L)) (t := 10000) hzN5 ⟨hqN5, hlsN5⟩ (by have hw2 := pW_fac (tp := tp) (n := n) d (false, i + 1, L) hin9; dsimp only at hw2; omega) (fun _ => rfl)) (cwV 1 X.2.2.2.2 gX12_factor_X12_emits rfl rfl rfl (by decide +kernel) (by refine ⟨?_, ?_⟩ <;> dsimp only <;> omega)) (hM.1 0 _ rfl) rfl rfl hl.1 rfl (Nat.le_of_ble_eq_true rfl) dX12_factor_85 (by exact ⟨Nat.zero_le _, Nat.zero_le _⟩)) hS (fun u H locs hq hP hS => ?_)
              obtain ⟨⟨hqN6, hlsN6⟩, hkN6⟩ := hq
              generalize u = N6 at hP hqN6 hlsN6 hkN6
              have hP : gP D cy B z T (gI o 12 N6 I0) R H := hP
              have hk9N6 : mSame (pS9 act) M N6 := fun b j h => (hkN6 b j (pS9_S h)).trans (hk9N5 b j h)
              have hzN6 : mPz N6 tp n act := mPz_9 hz hk9N6
              have hoN6 : N6 0 9 = nI (op + 1) := (hkN6 0 9 (by unfold pS wS; omega)).trans hoN5
              refine lv_goto (tgt := 101) X.1 X.2.1 dX12_factor_88 (by decide) ?_
              refine lv_aload_n X.1 X.2.1 dX12_factor_101 rfl (lv_at hl 1 rfl) ?_
              refine lv_dup X.1 X.2.1 dX12_factor_102 rfl ?_
              refine m_geti 9 X hK hP hM hin rfl (by decide) k87 rfl dX12_factor_103 (show N6 0 9 = nI (op + 1) from hoN6) ?_
              refine lv_iconst (v := 1) X.1 X.2.1 dX12_factor_106 (by decide) ?_
              refine lv_isub X.1 X.2.1 dX12_factor_107 ?_
              refine m_puti 9 X hK hP hS hM hin rfl (by decide) k87 rfl rfl rfl rfl dX12_factor_108 (fun H locs hP hS => ?_)
              generalize eM7 : g2 N6 0 9 ((nI (op + 1)) - 1) = M7 at hP
              have hdz : mSame d9 N6 M7 := fun b j h => by unfold d9 at h; exact (gs_ne eM7 (by omega) rfl)
              have hoz : M7 0 9 = nI op := ((gs_same eM7)).trans (nI_pred op)
              have hkz : ∀ b j, ¬ pS act b j → M7 b j = M b j := fun b j h => by by_cases e9 : b = 0 ∧ j = 9; (· obtain ⟨rfl, rfl⟩ := e9; exact hoz.trans ho.symm); exact (hdz b j (by unfold d9; unfold pS wS at h; omega)).trans (hk9N6 b j (fun g => g.elim h e9))
              exact g_vret M7 X hr hlk hK hP hS dX12_factor_111 (by rw [pFac_n h33]; exact ⟨⟨⟨gs_ne eM7 (by omega) hqN6.1, gs_ne eM7 (by omega) hqN6.2⟩, mLs_d hlsN6 hdz⟩, hkz⟩)
          · exact absurd rfl c61
        · exact absurd (gq_eq c31 (Eq.refl (nI op)) (show (5 : Int32) = nI 5 from rfl) (by omega) (by omega)) (by omega)
      · refine lv_iload_n X.1 X.2.1 dX12_factor_19 rfl (lv_at hl 0 rfl) ?_
        refine lv_bipush (v := 40) X.1 X.2.1 dX12_factor_20 (by decide) ?_
        refine lv_icmp_ne (tgt := 112) X.1 X.2.1 dX12_factor_22 (by decide) (fun c22 => ?_) (fun c22 => ?_)
        · have h33 : ¬ sH tp n i = 33 := fun g => c16 ((hI_eq (y := 33) (by decide)).mpr g)
          have h40 : ¬ sH tp n i = 40 := fun g => c22 ((hI_eq (y := 40) (by decide)).mpr g)
          by_cases hA9 : pAm tA (sH tp n i) < 6
          · have hA8 := sH_in (tp := tp) (n := n) (i := i) rfl (pAm_A hA9)
            by_cases hC9 : pAm tC (sH tp n (i + 1)) < 3
            · have hC8 := sH_in (tp := tp) (n := n) (i := i + 1) rfl (pAm_C hC9)
              refine lv_aload_n X.1 X.2.1 dX12_factor_112 rfl (lv_at hl 1 rfl) ?_
              refine va_ldcS X.1 X.2.1 X.2.2.2.1 (vk_R.warm hC.1 hRA) dX12_factor_113 ?_
              refine g_run_i (g_runV (k := 14) [.ref aA] X hK hP hS hC hB (c_among hM (tx := tA) (i := i) hz hp.1 (by omega) hsA h2 htA) (cwV 1 X.2.2.2.2 gX12_factor_X12_among rfl rfl rfl (by decide +kernel) (by refine ⟨?_, ?_⟩ <;> dsimp only <;> omega)) (hM.1 0 _ rfl) rfl rfl hl.1 rfl (Nat.le_of_ble_eq_true rfl) dX12_factor_115 (by exact ⟨Nat.zero_le _, Nat.zero_le _⟩)) hS (fun r u H locs hq hP hS => ?_)
              obtain ⟨hrN8, hpN8, hkN8⟩ := hq
              generalize u = N8 at hP hpN8 hkN8
              rw [if_pos (show pAm tA (sH tp n i) < tA.length from hA9)] at hrN8 hpN8
              subst hrN8
              have hp8N8 : mWp N8 (false, i + 1, L) := ⟨hpN8, (hkN8 0 8 (by omega)).trans hp.2⟩
              have hdN8 : mSame d9 M N8 := fun b j h => hkN8 b j (by unfold d9 at h; omega)
              have hlsN8 : mLs N8 act L := mLs_d hls hdN8
              have hP : gP D cy B z T (gI o 12 N8 I0) R H := hP
              have hk9N8 : mSame (pS9 act) M N8 := fun b j h => (hdN8 b j (d9_S h)).trans ((fun _ _ _ => rfl) b j h)
              have hzN8 : mPz N8 tp n act := mPz_9 hz hk9N8
              have hoN8 : N8 0 9 = nI op := (hkN8 0 9 (by omega)).trans ho
              refine lv_istore_n (lv' := [(2, .int (nI (pAm tA (sH tp n i)))), (1, .int (hI (sH tp n i))), (0, .ref o)]) X.1 X.2.1 dX12_factor_118 rfl hl (by decide) rfl (fun ls hl => ?_)
              refine lv_aload_n X.1 X.2.1 dX12_factor_119 rfl (lv_at hl 2 rfl) ?_
              refine lv_iload_n X.1 X.2.1 dX12_factor_120 rfl (lv_at hl 0 rfl) ?_
              refine lv_iconst (v := (-1)) X.1 X.2.1 dX12_factor_121 (by decide) ?_
              refine lv_icmp_ne (tgt := 129) X.1 X.2.1 dX12_factor_122 (by decide) (fun c122 => ?_) (fun c122 => ?_)
              · refine lv_iconst (v := 0) X.1 X.2.1 dX12_factor_129 (by decide) ?_
                refine m_puti 8 X hK hP hS hM hin rfl (by decide) k63 rfl rfl rfl rfl dX12_factor_130 (fun H locs hP hS => ?_)
                generalize eM9 : g2 N8 0 8 0 = M9 at hP
                refine lv_aload_n X.1 X.2.1 dX12_factor_133 rfl (lv_at hl 2 rfl) ?_
                refine m_geti 8 X hK hP hM hin rfl (by decide) k63 rfl dX12_factor_134 (show M9 0 8 = 0 from (gs_same eM9)) ?_
                refine lv_if_eq (tgt := 144) X.1 X.2.1 dX12_factor_137 (by decide) (fun c137 => ?_) (fun c137 => ?_)
                · refine lv_aload_n X.1 X.2.1 dX12_factor_144 rfl (lv_at hl 2 rfl) ?_
                  refine va_ldcS X.1 X.2.1 X.2.2.2.1 (vk_R.warm hC.1 hRC) dX12_factor_145 ?_
                  have hdy10 : mSame d9 N8 M9 := fun b j h => by unfold d9 at h; exact (gs_ne eM9 (by omega) rfl)
                  have hky10 : mSame (pS9 act) M M9 := fun b j h => (hdy10 b j (d9_S h)).trans (hk9N8 b j h)
                  have hzy10 : mPz M9 tp n act := mPz_9 hz hky10
                  have hlsy10 : mLs M9 act L := mLs_d hlsN8 hdy10
                  have hpy10 : mWp M9 (false, i + 1, L) := ⟨((gs_ne eM9 (by omega) (hp8N8.1))).trans (gn_eq (x := i + 1) (Eq.refl (nI (i + 1))) (by rfl)), (gs_same eM9)⟩
                  have hoy10 : M9 0 9 = nI op := ((gs_ne eM9 (by omega) hoN8)).trans ((Eq.refl (nI op)))
                  refine g_run_i (g_runV (k := 14) [.ref aC] X hK hP hS hC hB (c_among hM (tx := tC) (i := i + 1) hzy10 hpy10.1 (by omega) hsC h2 htC) (cwV 1 X.2.2.2.2 gX12_factor_X12_among rfl rfl rfl (by decide +kernel) (by refine ⟨?_, ?_⟩ <;> dsimp only <;> omega)) (hM.1 0 _ rfl) rfl rfl hl.1 rfl (Nat.le_of_ble_eq_true rfl) dX12_factor_147 (by exact ⟨Nat.zero_le _, Nat.zero_le _⟩)) hS (fun r u H locs hq hP hS => ?_)
                  obtain ⟨hrN11, hpN11, hkN11⟩ := hq
                  generalize u = N11 at hP hpN11 hkN11
                  rw [if_pos (show pAm tC (sH tp n (i + 1)) < tC.length from hC9)] at hrN11 hpN11
                  subst hrN11
                  have hp8N11 : mWp N11 (false, i + 1 + 1, L) := ⟨hpN11, (hkN11 0 8 (by omega)).trans hpy10.2⟩
                  have hdN11 : mSame d9 M9 N11 := fun b j h => hkN11 b j (by unfold d9 at h; omega)
                  have hlsN11 : mLs N11 act L := mLs_d hlsy10 hdN11
                  have hP : gP D cy B z T (gI o 12 N11 I0) R H := hP
                  have hk9N11 : mSame (pS9 act) M N11 := fun b j h => (hdN11 b j (d9_S h)).trans (hky10 b j h)
                  have hzN11 : mPz N11 tp n act := mPz_9 hz hk9N11
                  have hoN11 : N11 0 9 = nI op := (hkN11 0 9 (by omega)).trans hoy10
                  refine lv_istore_n (lv' := [(3, .int (nI (pAm tC (sH tp n (i + 1))))), (2, .int (nI (pAm tA (sH tp n i)))), (1, .int (hI (sH tp n i))), (0, .ref o)]) X.1 X.2.1 dX12_factor_150 rfl hl (by decide) rfl (fun ls hl => ?_)
                  refine lv_aload_n X.1 X.2.1 dX12_factor_151 rfl (lv_at hl 3 rfl) ?_
                  refine lv_aload_n X.1 X.2.1 dX12_factor_152 rfl (lv_at hl 3 rfl) ?_
                  refine m_geti 8 X hK hP hM hin rfl (by decide) k63 rfl dX12_factor_153 (show N11 0 8 = 0 from (hp8N11.2)) ?_
                  refine lv_if_ne (tgt := 164) X.1 X.2.1 dX12_factor_156 (by decide) (fun c156 => ?_) (fun c156 => ?_)
                  · exact absurd rfl c156
                  · refine lv_iload_n X.1 X.2.1 dX12_factor_159 rfl (lv_at hl 0 rfl) ?_
                    refine lv_iconst (v := (-1)) X.1 X.2.1 dX12_factor_160 (by decide) ?_
                    refine lv_icmp_ne (tgt := 168) X.1 X.2.1 dX12_factor_161 (by decide) (fun c161 => ?_) (fun c161 => ?_)
                    · refine lv_iconst (v := 0) X.1 X.2.1 dX12_factor_168 (by decide) ?_
                      refine m_puti 8 X hK hP hS hM hin rfl (by decide) k63 rfl rfl rfl rfl dX12_factor_169 (fun H locs hP hS => ?_)
                      generalize eM12 : g2 N11 0 8 0 = M12 at hP
                      refine lv_aload_n X.1 X.2.1 dX12_factor_172 rfl (lv_at hl 3 rfl) ?_
                      have hdy13 : mSame d9 N11 M12 := fun b j h => by unfold d9 at h; exact (gs_ne eM12 (by omega) rfl)
                      have hky13 : mSame (pS9 act) M M12 := fun b j h => (hdy13 b j (d9_S h)).trans (hk9N11 b j h)
                      have hzy13 : mPz M12 tp n act := mPz_9 hz hky13
                      have hlsy13 : mLs M12 act L := mLs_d hlsN11 hdy13
                      have hpy13 : mWp M12 (false, i + 2, L) := ⟨((gs_ne eM12 (by omega) (hp8N11.1))).trans (gn_eq (x := i + 1 + 1) (Eq.refl (nI (i + 1 + 1))) (by rfl)), (gs_same eM12)⟩
                      have hoy13 : M12 0 9 = nI op := ((gs_ne eM12 (by omega) hoN11)).trans ((Eq.refl (nI op)))
                      refine g_run_i (g_runV (k := 14) [] X hK hP hS hC hB (c_figures hM (s1 := (false, i + 2, L)) hzy13 hpy13 (by dsimp only; omega)) (cwV 0 X.2.2.2.2 gX12_factor_X12_figures rfl rfl rfl (by decide +kernel) (by refine ⟨?_, ?_⟩ <;> dsimp only <;> omega)) (hM.1 0 _ rfl) rfl rfl hl.1 rfl (Nat.le_of_ble_eq_true rfl) dX12_factor_173 (by exact ⟨Nat.zero_le _, Nat.zero_le _⟩)) hS (fun r u H locs hq hP hS => ?_)
                      obtain ⟨rfl, hqN14, hkN14⟩ := hq
                      generalize u = N14 at hP hqN14 hkN14
                      have hlsN14 : mLs N14 act ((pFig tp n (false, i + 2, L)).1).2.2 := by rw [pFig_l]; exact mLs_w hlsy13 hkN14
                      have hP : gP D cy B z T (gI o 12 N14 I0) R H := hP
                      have hk9N14 : mSame (pS9 act) M N14 := fun b j h => (hkN14 b j (pS_w h)).trans (hky13 b j h)
                      have hzN14 : mPz N14 tp n act := mPz_9 hz hk9N14
                      have hoN14 : N14 0 9 = nI op := (hkN14 0 9 (by unfold wS; omega)).trans hoy13
                      refine lv_istore (lv' := [(4, .int (nI ((pFig tp n (false, i + 2, L)).2))), (3, .int (nI (pAm tC (sH tp n (i + 1))))), (2, .int (nI (pAm tA (sH tp n i)))), (1, .int (hI (sH tp n i))), (0, .ref o)]) X.1 X.2.1 dX12_factor_176 hl (by decide) rfl (fun ls hl => ?_)
                      refine lv_aload_n X.1 X.2.1 dX12_factor_178 rfl (lv_at hl 4 rfl) ?_
                      refine lv_iload_n X.1 X.2.1 dX12_factor_179 rfl (lv_at hl 2 rfl) ?_
                      refine lv_bipush (v := 8) X.1 X.2.1 dX12_factor_180 (by decide) ?_
                      refine lv_iload_n X.1 X.2.1 dX12_factor_182 rfl (lv_at hl 1 rfl) ?_
                      refine lv_imul X.1 X.2.1 dX12_factor_183 ?_
                      refine lv_iadd X.1 X.2.1 dX12_factor_184 ?_
                      refine lv_bipush (v := 32) X.1 X.2.1 dX12_factor_185 (by decide) ?_
                      refine lv_iload X.1 X.2.1 dX12_factor_187 (lv_at hl 0 rfl) ?_
                      refine lv_imul X.1 X.2.1 dX12_factor_189 ?_
                      refine lv_iadd X.1 X.2.1 dX12_factor_190 ?_
                      refine g_run_v (g_runV (k := 14) [.int (((nI (pAm tA (sH tp n i))) + (8 * (nI (pAm tC (sH tp n (i + 1)))))) + (32 * (nI ((pFig tp n (false, i + 2, L)).2))))] X hK hP hS hC hB (c_emits hM (s1 := (pFig tp n (false, i + 2, L)).1) (t := pAm tA (sH tp n i) + 8 * pAm tC (sH tp n (i + 1)) + 32 * (pFig tp n (false, i + 2, L)).2) hzN14 ⟨hqN14, hlsN14⟩ (by rw [pFig_l]; dsimp only; omega) (fun _ => by rw [encR_A (by have := pFig_v (n := n) htp (false, i + 2, L); omega)]; exact gn_add (gn_add rfl (gn_mul (show (8 : Int32) = nI 8 from rfl) rfl)) (gn_mul (show (32 : Int32) = nI 32 from rfl) rfl))) (cwV 1 X.2.2.2.2 gX12_factor_X12_emits rfl rfl rfl (by decide +kernel) (by refine ⟨?_, ?_⟩ <;> dsimp only <;> omega)) (hM.1 0 _ rfl) rfl rfl hl.1 rfl (Nat.le_of_ble_eq_true rfl) dX12_factor_191 (by exact ⟨Nat.zero_le _, Nat.zero_le _⟩)) hS (fun u H locs hq hP hS => ?_)
                      obtain ⟨⟨hqN15, hlsN15⟩, hkN15⟩ := hq
                      generalize u = N15 at hP hqN15 hlsN15 hkN15
                      have hP : gP D cy B z T (gI o 12 N15 I0) R H := hP
                      have hk9N15 : mSame (pS9 act) M N15 := fun b j h => (hkN15 b j (pS9_S h)).trans (hk9N14 b j h)
                      have hzN15 : mPz N15 tp n act := mPz_9 hz hk9N15
                      have hoN15 : N15 0 9 = nI op := (hkN15 0 9 (by unfold pS wS; omega)).trans hoN14
                      exact g_vret N15 X hr hlk hK hP hS dX12_factor_194 (by rw [pFac_a h33 h40, pAtom_y hA9 hC9]; exact ⟨⟨hqN15, hlsN15⟩, fun b j h => by by_cases e9 : b = 0 ∧ j = 9; (· obtain ⟨rfl, rfl⟩ := e9; exact hoN15.trans ho.symm); exact hk9N15 b j (fun g => g.elim h e9)⟩)
                    · exact absurd c161 (gn_m1 (by omega))
                · exact absurd rfl c137
              · exact absurd c122 (gn_m1 (by omega))
            · refine lv_aload_n X.1 X.2.1 dX12_factor_112 rfl (lv_at hl 1 rfl) ?_
              refine va_ldcS X.1 X.2.1 X.2.2.2.1 (vk_R.warm hC.1 hRA) dX12_factor_113 ?_
              refine g_run_i (g_runV (k := 14) [.ref aA] X hK hP hS hC hB (c_among hM (tx := tA) (i := i) hz hp.1 (by omega) hsA h2 htA) (cwV 1 X.2.2.2.2 gX12_factor_X12_among rfl rfl rfl (by decide +kernel) (by refine ⟨?_, ?_⟩ <;> dsimp only <;> omega)) (hM.1 0 _ rfl) rfl rfl hl.1 rfl (Nat.le_of_ble_eq_true rfl) dX12_factor_115 (by exact ⟨Nat.zero_le _, Nat.zero_le _⟩)) hS (fun r u H locs hq hP hS => ?_)
              obtain ⟨hrN16, hpN16, hkN16⟩ := hq
              generalize u = N16 at hP hpN16 hkN16
              rw [if_pos (show pAm tA (sH tp n i) < tA.length from hA9)] at hrN16 hpN16
              subst hrN16
              have hp8N16 : mWp N16 (false, i + 1, L) := ⟨hpN16, (hkN16 0 8 (by omega)).trans hp.2⟩
              have hdN16 : mSame d9 M N16 := fun b j h => hkN16 b j (by unfold d9 at h; omega)
              have hlsN16 : mLs N16 act L := mLs_d hls hdN16
              have hP : gP D cy B z T (gI o 12 N16 I0) R H := hP
              have hk9N16 : mSame (pS9 act) M N16 := fun b j h => (hdN16 b j (d9_S h)).trans ((fun _ _ _ => rfl) b j h)
              have hzN16 : mPz N16 tp n act := mPz_9 hz hk9N16
              have hoN16 : N16 0 9 = nI op := (hkN16 0 9 (by omega)).trans ho
              refine lv_istore_n (lv' := [(2, .int (nI (pAm tA (sH tp n i)))), (1, .int (hI (sH tp n i))), (0, .ref o)]) X.1 X.2.1 dX12_factor_118 rfl hl (by decide) rfl (fun ls hl => ?_)
              refine lv_aload_n X.1 X.2.1 dX12_factor_119 rfl (lv_at hl 2 rfl) ?_
              refine lv_iload_n X.1 X.2.1 dX12_factor_120 rfl (lv_at hl 0 rfl) ?_
              refine lv_iconst (v := (-1)) X.1 X.2.1 dX12_factor_121 (by decide) ?_
              refine lv_icmp_ne (tgt := 129) X.1 X.2.1 dX12_factor_122 (by decide) (fun c122 => ?_) (fun c122 => ?_)
              · refine lv_iconst (v := 0) X.1 X.2.1 dX12_factor_129 (by decide) ?_
                refine m_puti 8 X hK hP hS hM hin rfl (by decide) k63 rfl rfl rfl rfl dX12_factor_130 (fun H locs hP hS => ?_)
                generalize eM17 : g2 N16 0 8 0 = M17 at hP
                refine lv_aload_n X.1 X.2.1 dX12_factor_133 rfl (lv_at hl 2 rfl) ?_
                refine m_geti 8 X hK hP hM hin rfl (by decide) k63 rfl dX12_factor_134 (show M17 0 8 = 0 from (gs_same eM17)) ?_
                refine lv_if_eq (tgt := 144) X.1 X.2.1 dX12_factor_137 (by decide) (fun c137 => ?_) (fun c137 => ?_)
                · refine lv_aload_n X.1 X.2.1 dX12_factor_144 rfl (lv_at hl 2 rfl) ?_
                  refine va_ldcS X.1 X.2.1 X.2.2.2.1 (vk_R.warm hC.1 hRC) dX12_factor_145 ?_
                  have hdy18 : mSame d9 N16 M17 := fun b j h => by unfold d9 at h; exact (gs_ne eM17 (by omega) rfl)
                  have hky18 : mSame (pS9 act) M M17 := fun b j h => (hdy18 b j (d9_S h)).trans (hk9N16 b j h)
                  have hzy18 : mPz M17 tp n act := mPz_9 hz hky18
                  have hlsy18 : mLs M17 act L := mLs_d hlsN16 hdy18
                  have hpy18 : mWp M17 (false, i + 1, L) := ⟨((gs_ne eM17 (by omega) (hp8N16.1))).trans (gn_eq (x := i + 1) (Eq.refl (nI (i + 1))) (by rfl)), (gs_same eM17)⟩
                  have hoy18 : M17 0 9 = nI op := ((gs_ne eM17 (by omega) hoN16)).trans ((Eq.refl (nI op)))
                  refine g_run_i (g_runV (k := 14) [.ref aC] X hK hP hS hC hB (c_among hM (tx := tC) (i := i + 1) hzy18 hpy18.1 (by omega) hsC h2 htC) (cwV 1 X.2.2.2.2 gX12_factor_X12_among rfl rfl rfl (by decide +kernel) (by refine ⟨?_, ?_⟩ <;> dsimp only <;> omega)) (hM.1 0 _ rfl) rfl rfl hl.1 rfl (Nat.le_of_ble_eq_true rfl) dX12_factor_147 (by exact ⟨Nat.zero_le _, Nat.zero_le _⟩)) hS (fun r u H locs hq hP hS => ?_)
                  obtain ⟨hrN19, hpN19, hkN19⟩ := hq
                  generalize u = N19 at hP hpN19 hkN19
                  rw [if_neg (show ¬ pAm tC (sH tp n (i + 1)) < tC.length from hC9)] at hrN19 hpN19
                  subst hrN19
                  have hp8N19 : mWp N19 (false, i + 1, L) := ⟨hpN19, (hkN19 0 8 (by omega)).trans hpy18.2⟩
                  have hdN19 : mSame d9 M17 N19 := fun b j h => hkN19 b j (by unfold d9 at h; omega)
                  have hlsN19 : mLs N19 act L := mLs_d hlsy18 hdN19
                  have hP : gP D cy B z T (gI o 12 N19 I0) R H := hP
                  have hk9N19 : mSame (pS9 act) M N19 := fun b j h => (hdN19 b j (d9_S h)).trans (hky18 b j h)
                  have hzN19 : mPz N19 tp n act := mPz_9 hz hk9N19
                  have hoN19 : N19 0 9 = nI op := (hkN19 0 9 (by omega)).trans hoy18
                  refine lv_istore_n (lv' := [(3, .int (-1)), (2, .int (nI (pAm tA (sH tp n i)))), (1, .int (hI (sH tp n i))), (0, .ref o)]) X.1 X.2.1 dX12_factor_150 rfl hl (by decide) rfl (fun ls hl => ?_)
                  refine lv_aload_n X.1 X.2.1 dX12_factor_151 rfl (lv_at hl 3 rfl) ?_
                  refine lv_aload_n X.1 X.2.1 dX12_factor_152 rfl (lv_at hl 3 rfl) ?_
                  refine m_geti 8 X hK hP hM hin rfl (by decide) k63 rfl dX12_factor_153 (show N19 0 8 = 0 from (hp8N19.2)) ?_
                  refine lv_if_ne (tgt := 164) X.1 X.2.1 dX12_factor_156 (by decide) (fun c156 => ?_) (fun c156 => ?_)
                  · exact absurd rfl c156
                  · refine lv_iload_n X.1 X.2.1 dX12_factor_159 rfl (lv_at hl 0 rfl) ?_
                    refine lv_iconst (v := (-1)) X.1 X.2.1 dX12_factor_160 (by decide) ?_
                    refine lv_icmp_ne (tgt := 168) X.1 X.2.1 dX12_factor_161 (by decide) (fun c161 => ?_) (fun c161 => ?_)
                    · exact absurd rfl c161
                    · refine lv_iconst (v := 1) X.1 X.2.1 dX12_factor_164 (by decide) ?_
                      refine lv_goto (tgt := 169) X.1 X.2.1 dX12_factor_165 (by decide) ?_
                      refine m_puti 8 X hK hP hS hM hin rfl (by decide) k63 rfl rfl rfl rfl dX12_factor_169 (fun H locs hP hS => ?_)
                      generalize eM20 : g2 N19 0 8 1 = M20 at hP
                      refine lv_aload_n X.1 X.2.1 dX12_factor_172 rfl (lv_at hl 3 rfl) ?_
                      have hdy21 : mSame d9 N19 M20 := fun b j h => by unfold d9 at h; exact (gs_ne eM20 (by omega) rfl)
                      have hky21 : mSame (pS9 act) M M20 := fun b j h => (hdy21 b j (d9_S h)).trans (hk9N19 b j h)
                      have hzy21 : mPz M20 tp n act := mPz_9 hz hky21
                      have hlsy21 : mLs M20 act L := mLs_d hlsN19 hdy21
                      have hpy21 : mWp M20 (true, i + 1, L) := ⟨((gs_ne eM20 (by omega) (hp8N19.1))).trans (gn_eq (x := i + 1) (Eq.refl (nI (i + 1))) (by rfl)), (gs_same eM20)⟩
                      have hoy21 : M20 0 9 = nI op := ((gs_ne eM20 (by omega) hoN19)).trans ((Eq.refl (nI op)))
                      refine g_run_i (g_runV (k := 14) [] X hK hP hS hC hB (c_figures hM (s1 := (true, i + 1, L)) hzy21 hpy21 (by dsimp only; omega)) (cwV 0 X.2.2.2.2 gX12_factor_X12_figures rfl rfl rfl (by decide +kernel) (by refine ⟨?_, ?_⟩ <;> dsimp only <;> omega)) (hM.1 0 _ rfl) rfl rfl hl.1 rfl (Nat.le_of_ble_eq_true rfl) dX12_factor_173 (by exact ⟨Nat.zero_le _, Nat.zero_le _⟩)) hS (fun r u H locs hq hP hS => ?_)
                      obtain ⟨rfl, hqN22, hkN22⟩ := hq
                      generalize u = N22 at hP hqN22 hkN22
                      have hlsN22 : mLs N22 act ((pFig tp n (true, i + 1, L)).1).2.2 := by rw [pFig_l]; exact mLs_w hlsy21 hkN22
                      have hP : gP D cy B z T (gI o 12 N22 I0) R H := hP
                      have hk9N22 : mSame (pS9 act) M N22 := fun b j h => (hkN22 b j (pS_w h)).trans (hky21 b j h)
                      have hzN22 : mPz N22 tp n act := mPz_9 hz hk9N22
                      have hoN22 : N22 0 9 = nI op := (hkN22 0 9 (by unfold wS; omega)).trans hoy21
                      refine lv_istore (lv' := [(4, .int (nI ((pFig tp n (true, i + 1, L)).2))), (3, .int (-1)), (2, .int (nI (pAm tA (sH tp n i)))), (1, .int (hI (sH tp n i))), (0, .ref o)]) X.1 X.2.1 dX12_factor_176 hl (by decide) rfl (fun ls hl => ?_)
                      refine lv_aload_n X.1 X.2.1 dX12_factor_178 rfl (lv_at hl 4 rfl) ?_
                      refine lv_iload_n X.1 X.2.1 dX12_factor_179 rfl (lv_at hl 2 rfl) ?_
                      refine lv_bipush (v := 8) X.1 X.2.1 dX12_factor_180 (by decide) ?_
                      refine lv_iload_n X.1 X.2.1 dX12_factor_182 rfl (lv_at hl 1 rfl) ?_
                      refine lv_imul X.1 X.2.1 dX12_factor_183 ?_
                      refine lv_iadd X.1 X.2.1 dX12_factor_184 ?_
                      refine lv_bipush (v := 32) X.1 X.2.1 dX12_factor_185 (by decide) ?_
                      refine lv_iload X.1 X.2.1 dX12_factor_187 (lv_at hl 0 rfl) ?_
                      refine lv_imul X.1 X.2.1 dX12_factor_189 ?_
                      refine lv_iadd X.1 X.2.1 dX12_factor_190 ?_
                      refine g_run_v (g_runV (k := 14) [.int (((nI (pAm tA (sH tp n i))) + (8 * (-1))) + (32 * (nI ((pFig tp n (true, i + 1, L)).2))))] X hK hP hS hC hB (c_emits hM (s1 := (pFig tp n (true, i + 1, L)).1) (t := 0) hzN22 ⟨hqN22, hlsN22⟩ (by rw [pFig_l]; dsimp only; omega) (fun g => by rw [pFig_t] at g; cases g)) (cwV 1 X.2.2.2.2 gX12_factor_X12_emits rfl rfl rfl (by decide +kernel) (by refine ⟨?_, ?_⟩ <;> dsimp only <;> omega)) (hM.1 0 _ rfl) rfl rfl hl.1 rfl (Nat.le_of_ble_eq_true rfl) dX12_factor_191 (by exact ⟨Nat.zero_le _, Nat.zero_le _⟩)) hS (fun u H locs hq hP hS => ?_)
                      obtain ⟨⟨hqN23, hlsN23⟩, hkN23⟩ := hq
                      generalize u = N23 at hP hqN23 hlsN23 hkN23
                      have hP : gP D cy B z T (gI o 12 N23 I0) R H := hP
                      have hk9N23 : mSame (pS9 act) M N23 := fun b j h => (hkN23 b j (pS9_S h)).trans (hk9N22 b j h)
                      have hzN23 : mPz N23 tp n act := mPz_9 hz hk9N23
                      have hoN23 : N23 0 9 = nI op := (hkN23 0 9 (by unfold pS wS; omega)).trans hoN22
                      exact g_vret N23 X hr hlk hK hP hS dX12_factor_194 (by rw [pFac_a h33 h40, pAtom_c hA9 hC9, ← (show pEm 0 (pFig tp n (true, i + 1, L)).1 = (true, i + 1, L) by rw [pFig_t]; rfl)]; exact ⟨⟨hqN23, hlsN23⟩, fun b j h => by by_cases e9 : b = 0 ∧ j = 9; (· obtain ⟨rfl, rfl⟩ := e9; exact hoN23.trans ho.symm); exact hk9N23 b j (fun g => g.elim h e9)⟩)
                · exact absurd rfl c137
              · exact absurd c122 (gn_m1 (by omega))
          · refine lv_aload_n X.1 X.2.1 dX12_factor_112 rfl (lv_at hl 1 rfl) ?_
            refine va_ldcS X.1 X.2.1 X.2.2.2.1 (vk_R.warm hC.1 hRA) dX12_factor_113 ?_
            refine g_run_i (g_runV (k := 14) [.ref aA] X hK hP hS hC hB (c_among hM (tx := tA) (i := i) hz hp.1 (by omega) hsA h2 htA) (cwV 1 X.2.2.2.2 gX12_factor_X12_among rfl rfl rfl (by decide +kernel) (by refine ⟨?_, ?_⟩ <;> dsimp only <;> omega)) (hM.1 0 _ rfl) rfl rfl hl.1 rfl (Nat.le_of_ble_eq_true rfl) dX12_factor_115 (by exact ⟨Nat.zero_le _, Nat.zero_le _⟩)) hS (fun r u H locs hq hP hS => ?_)
            obtain ⟨hrN24, hpN24, hkN24⟩ := hq
            generalize u = N24 at hP hpN24 hkN24
            rw [if_neg (show ¬ pAm tA (sH tp n i) < tA.length from hA9)] at hrN24 hpN24
            subst hrN24
            have hp8N24 : mWp N24 (false, i, L) := ⟨hpN24, (hkN24 0 8 (by omega)).trans hp.2⟩
            have hdN24 : mSame d9 M N24 := fun b j h => hkN24 b j (by unfold d9 at h; omega)
            have hlsN24 : mLs N24 act L := mLs_d hls hdN24
            have hP : gP D cy B z T (gI o 12 N24 I0) R H := hP
            have hk9N24 : mSame (pS9 act) M N24 := fun b j h => (hdN24 b j (d9_S h)).trans ((fun _ _ _ => rfl) b j h)
            have hzN24 : mPz N24 tp n act := mPz_9 hz hk9N24
            have hoN24 : N24 0 9 = nI op := (hkN24 0 9 (by omega)).trans ho
            refine lv_istore_n (lv' := [(2, .int (-1)), (1, .int (hI (sH tp n i))), (0, .ref o)]) X.1 X.2.1 dX12_factor_118 rfl hl (by decide) rfl (fun ls hl => ?_)
            refine lv_aload_n X.1 X.2.1 dX12_factor_119 rfl (lv_at hl 2 rfl) ?_
            refine lv_iload_n X.1 X.2.1 dX12_factor_120 rfl (lv_at hl 0 rfl) ?_
            refine lv_iconst (v := (-1)) X.1 X.2.1 dX12_factor_121 (by decide) ?_
            refine lv_icmp_ne (tgt := 129) X.1 X.2.1 dX12_factor_122 (by decide) (fun c122 => ?_) (fun c122 => ?_)
            · exact absurd rfl c122
            · refine lv_iconst (v := 1) X.1 X.2.1 dX12_factor_125 (by decide) ?_
              refine lv_goto (tgt := 130) X.1 X.2.1 dX12_factor_126 (by decide) ?_
              refine m_puti 8 X hK hP hS hM hin rfl (by decide) k63 rfl rfl rfl rfl dX12_factor_130 (fun H locs hP hS => ?_)
              generalize eM25 : g2 N24 0 8 1 = M25 at hP
              refine lv_aload_n X.1 X.2.1 dX12_factor_133 rfl (lv_at hl 2 rfl) ?_
              refine m_geti 8 X hK hP hM hin rfl (by decide) k63 rfl dX12_factor_134 (show M25 0 8 = 1 from (gs_same eM25)) ?_
              refine lv_if_eq (tgt := 144) X.1 X.2.1 dX12_factor_137 (by decide) (fun c137 => ?_) (fun c137 => ?_)
              · exact absurd c137 (by decide)
              · refine lv_iconst (v := 0) X.1 X.2.1 dX12_factor_140 (by decide) ?_
                refine lv_goto (tgt := 150) X.1 X.2.1 dX12_factor_141 (by decide) ?_
                refine lv_istore_n (lv' := [(3, .int 0), (2, .int (-1)), (1, .int (hI (sH tp n i))), (0, .ref o)]) X.1 X.2.1 dX12_factor_150 rfl hl (by decide) rfl (fun ls hl => ?_)
                refine lv_aload_n X.1 X.2.1 dX12_factor_151 rfl (lv_at hl 3 rfl) ?_
                refine lv_aload_n X.1 X.2.1 dX12_factor_152 rfl (lv_at hl 3 rfl) ?_
                refine m_geti 8 X hK hP hM hin rfl (by decide) k63 rfl dX12_factor_153 (show M25 0 8 = 1 from (gs_same eM25)) ?_
                refine lv_if_ne (tgt := 164) X.1 X.2.1 dX12_factor_156 (by decide) (fun c156 => ?_) (fun c156 => ?_)
                · refine lv_iconst (v := 1) X.1 X.2.1 dX12_factor_164 (by decide) ?_
                  refine lv_goto (tgt := 169) X.1 X.2.1 dX12_factor_165 (by decide) ?_
                  refine m_puti 8 X hK hP hS hM hin rfl (by decide) k63 rfl rfl rfl rfl dX12_factor_169 (fun H locs hP hS => ?_)
                  generalize eM26 : g2 M25 0 8 1 = M26 at hP
                  refine lv_aload_n X.1 X.2.1 dX12_factor_172 rfl (lv_at hl 3 rfl) ?_
                  have hdy27 : mSame d9 N24 M26 := fun b j h => by unfold d9 at h; exact (gs_ne eM26 (by omega) (gs_ne eM25 (by omega) rfl))
                  have hky27 : mSame (pS9 act) M M26 := fun b j h => (hdy27 b j (d9_S h)).trans (hk9N24 b j h)
                  have hzy27 : mPz M26 tp n act := mPz_9 hz hky27
                  have hlsy27 : mLs M26 act L := mLs_d hlsN24 hdy27
                  have hpy27 : mWp M26 (true, i, L) := ⟨((gs_ne eM26 (by omega) (gs_ne eM25 (by omega) (hp8N24.1)))).trans (gn_eq (x := i) (Eq.refl (nI i)) (by rfl)), (gs_same eM26)⟩
                  have hoy27 : M26 0 9 = nI op := ((gs_ne eM26 (by omega) (gs_ne eM25 (by omega) hoN24))).trans ((Eq.refl (nI op)))
                  refine g_run_i (g_runV (k := 14) [] X hK hP hS hC hB (c_figures hM (s1 := (true, i, L)) hzy27 hpy27 (by dsimp only; omega)) (cwV 0 X.2.2.2.2 gX12_factor_X12_figures rfl rfl rfl (by decide +kernel) (by refine ⟨?_, ?_⟩ <;> dsimp only <;> omega)) (hM.1 0 _ rfl) rfl rfl hl.1 rfl (Nat.le_of_ble_eq_true rfl) dX12_factor_173 (by exact ⟨Nat.zero_le _, Nat.zero_le _⟩)) hS (fun r u H locs hq hP hS => ?_)
                  obtain ⟨rfl, hqN28, hkN28⟩ := hq
                  generalize u = N28 at hP hqN28 hkN28
                  have hlsN28 : mLs N28 act ((pFig tp n (true, i, L)).1).2.2 := by rw [pFig_l]; exact mLs_w hlsy27 hkN28
                  have hP : gP D cy B z T (gI o 12 N28 I0) R H := hP
                  have hk9N28 : mSame (pS9 act) M N28 := fun b j h => (hkN28 b j (pS_w h)).trans (hky27 b j h)
                  have hzN28 : mPz N28 tp n act := mPz_9 hz hk9N28
                  have hoN28 : N28 0 9 = nI op := (hkN28 0 9 (by unfold wS; omega)).trans hoy27
                  refine lv_istore (lv' := [(4, .int (nI ((pFig tp n (true, i, L)).2))), (3, .int 0), (2, .int (-1)), (1, .int (hI (sH tp n i))), (0, .ref o)]) X.1 X.2.1 dX12_factor_176 hl (by decide) rfl (fun ls hl => ?_)
                  refine lv_aload_n X.1 X.2.1 dX12_factor_178 rfl (lv_at hl 4 rfl) ?_
                  refine lv_iload_n X.1 X.2.1 dX12_factor_179 rfl (lv_at hl 2 rfl) ?_
                  refine lv_bipush (v := 8) X.1 X.2.1 dX12_factor_180 (by decide) ?_
                  refine lv_iload_n X.1 X.2.1 dX12_factor_182 rfl (lv_at hl 1 rfl) ?_
                  refine lv_imul X.1 X.2.1 dX12_factor_183 ?_
                  refine lv_iadd X.1 X.2.1 dX12_factor_184 ?_
                  refine lv_bipush (v := 32) X.1 X.2.1 dX12_factor_185 (by decide) ?_
                  refine lv_iload X.1 X.2.1 dX12_factor_187 (lv_at hl 0 rfl) ?_
                  refine lv_imul X.1 X.2.1 dX12_factor_189 ?_
                  refine lv_iadd X.1 X.2.1 dX12_factor_190 ?_
                  refine g_run_v (g_runV (k := 14) [.int (((-1) + (8 * 0)) + (32 * (nI ((pFig tp n (true, i, L)).2))))] X hK hP hS hC hB (c_emits hM (s1 := (pFig tp n (true, i, L)).1) (t := 0) hzN28 ⟨hqN28, hlsN28⟩ (by rw [pFig_l]; dsimp only; omega) (fun g => by rw [pFig_t] at g; cases g)) (cwV 1 X.2.2.2.2 gX12_factor_X12_emits rfl rfl rfl (by decide +kernel) (by refine ⟨?_, ?_⟩ <;> dsimp only <;> omega)) (hM.1 0 _ rfl) rfl rfl hl.1 rfl (Nat.le_of_ble_eq_true rfl) dX12_factor_191 (by exact ⟨Nat.zero_le _, Nat.zero_le _⟩)) hS (fun u H locs hq hP hS => ?_)
                  obtain ⟨⟨hqN29, hlsN29⟩, hkN29⟩ := hq
                  generalize u = N29 at hP hqN29 hlsN29 hkN29
                  have hP : gP D cy B z T (gI o 12 N29 I0) R H := hP
                  have hk9N29 : mSame (pS9 act) M N29 := fun b j h => (hkN29 b j (pS9_S h)).trans (hk9N28 b j h)
                  have hzN29 : mPz N29 tp n act := mPz_9 hz hk9N29
                  have hoN29 : N29 0 9 = nI op := (hkN29 0 9 (by unfold pS wS; omega)).trans hoN28
                  exact g_vret N29 X hr hlk hK hP hS dX12_factor_194 (by rw [pFac_a h33 h40, pAtom_a hA9, ← (show pEm 0 (pFig tp n (true, i, L)).1 = (true, i, L) by rw [pFig_t]; rfl)]; exact ⟨⟨hqN29, hlsN29⟩, fun b j h => by by_cases e9 : b = 0 ∧ j = 9; (· obtain ⟨rfl, rfl⟩ := e9; exact hoN29.trans ho.symm); exact hk9N29 b j (fun g => g.elim h e9)⟩)
                · exact absurd c156 (by decide)
        · have h40 : sH tp n i = 40 := (hI_eq (y := 40) (by decide)).mp c22
          have hin9 := sH_in h40 (by decide)
          refine lv_aload_n X.1 X.2.1 dX12_factor_25 rfl (lv_at hl 1 rfl) ?_
          refine lv_aload_n X.1 X.2.1 dX12_factor_26 rfl (lv_at hl 1 rfl) ?_
          refine m_geti 9 X hK hP hM hin rfl (by decide) k87 rfl dX12_factor_27 (show M 0 9 = nI op from ho) ?_
          refine lv_iconst (v := 5) X.1 X.2.1 dX12_factor_30 (by decide) ?_
          refine lv_icmp_ne (tgt := 38) X.1 X.2.1 dX12_factor_31 (by decide) (fun c31 => ?_) (fun c31 => ?_)
          · refine lv_iconst (v := 0) X.1 X.2.1 dX12_factor_38 (by decide) ?_
            refine m_puti 8 X hK hP hS hM hin rfl (by decide) k63 rfl rfl rfl rfl dX12_factor_39 (fun H locs hP hS => ?_)
            generalize eM30 : g2 M 0 8 0 = M30 at hP
            refine lv_aload_n X.1 X.2.1 dX12_factor_42 rfl (lv_at hl 1 rfl) ?_
            refine lv_dup X.1 X.2.1 dX12_factor_43 rfl ?_
            refine m_geti 9 X hK hP hM hin rfl (by decide) k87 rfl dX12_factor_44 (show M30 0 9 = nI op from (gs_ne eM30 (by omega) ho)) ?_
            refine lv_iconst (v := 1) X.1 X.2.1 dX12_factor_47 (by decide) ?_
            refine lv_iadd X.1 X.2.1 dX12_factor_48 ?_
            refine m_puti 9 X hK hP hS hM hin rfl (by decide) k87 rfl rfl rfl rfl dX12_factor_49 (fun H locs hP hS => ?_)
            generalize eM31 : g2 M30 0 9 ((nI op) + 1) = M31 at hP
            refine lv_aload_n X.1 X.2.1 dX12_factor_52 rfl (lv_at hl 1 rfl) ?_
            refine lv_dup X.1 X.2.1 dX12_factor_53 rfl ?_
            refine m_geti 6 X hK hP hM hin rfl (by decide) k57 rfl dX12_factor_54 (show M31 0 6 = nI i from (gs_ne eM31 (by omega) (gs_ne eM30 (by omega) (hp.1)))) ?_
            refine lv_aload_n X.1 X.2.1 dX12_factor_57 rfl (lv_at hl 1 rfl) ?_
            refine m_geti 8 X hK hP hM hin rfl (by decide) k63 rfl dX12_factor_58 (show M31 0 8 = 0 from (gs_ne eM31 (by omega) (gs_same eM30))) ?_
            refine lv_if_eq (tgt := 68) X.1 X.2.1 dX12_factor_61 (by decide) (fun c61 => ?_) (fun c61 => ?_)
            · refine lv_iconst (v := 1) X.1 X.2.1 dX12_factor_68 (by decide) ?_
              refine lv_iadd X.1 X.2.1 dX12_factor_69 ?_
              refine m_puti 6 X hK hP hS hM hin rfl (by decide) k57 rfl rfl rfl rfl dX12_factor_70 (fun H locs hP hS => ?_)
              generalize eM32 : g2 M31 0 6 ((nI i) + 1) = M32 at hP
              refine lv_iload_n X.1 X.2.1 dX12_factor_73 rfl (lv_at hl 0 rfl) ?_
              refine lv_bipush (v := 33) X.1 X.2.1 dX12_factor_74 (by decide) ?_
              refine lv_icmp_ne (tgt := 91) X.1 X.2.1 dX12_factor_76 (by decide) (fun c76 => ?_) (fun c76 => ?_)
              · refine lv_aload_n X.1 X.2.1 dX12_factor_91 rfl (lv_at hl 1 rfl) ?_
                have hdy33 : mSame d9 M M32 := fun b j h => by unfold d9 at h; exact (gs_ne eM32 (by omega) (gs_ne eM31 (by omega) (gs_ne eM30 (by omega) rfl)))
                have hky33 : mSame (pS9 act) M M32 := fun b j h => (hdy33 b j (d9_S h)).trans ((fun _ _ _ => rfl) b j h)
                have hzy33 : mPz M32 tp n act := mPz_9 hz hky33
                have hlsy33 : mLs M32 act L := mLs_d hls hdy33
                have hpy33 : mWp M32 (false, i + 1, L) := ⟨((gs_same eM32)).trans (gn_eq (x := (i + 1)) (gn_add (Eq.refl (nI i)) (show (1 : Int32) = nI 1 from rfl)) (by rfl)), (gs_ne eM32 (by omega) (gs_ne eM31 (by omega) (gs_same eM30)))⟩
                have hoy33 : M32 0 9 = nI (op + 1) := ((gs_ne eM32 (by omega) (gs_same eM31))).trans ((gn_add (Eq.refl (nI op)) (show (1 : Int32) = nI 1 from rfl)))
                refine g_run_v (g_runV (k := 14) [] X hK hP hS hC hB (hF2 _ (false, i + 1, L) hzy33 ⟨hpy33, hlsy33⟩ hoy33 (by dsimp only; omega) (by dsimp only; omega)) (cwV 0 X.2.2.2.2 gX12_factor_X12_some rfl rfl rfl (by decide +kernel) (by refine ⟨?_, ?_⟩ <;> dsimp only <;> omega)) (hM.1 0 _ rfl) rfl rfl hl.1 rfl (Nat.le_of_ble_eq_true rfl) dX12_factor_92 (by exact ⟨Nat.zero_le _, Nat.zero_le _⟩)) hS (fun u H locs hq hP hS => ?_)
                obtain ⟨⟨hqN34, hlsN34⟩, hkN34⟩ := hq
                generalize u = N34 at hP hqN34 hlsN34 hkN34
                have hP : gP D cy B z T (gI o 12 N34 I0) R H := hP
                have hk9N34 : mSame (pS9 act) M N34 := fun b j h => (hkN34 b j (pS9_S h)).trans (hky33 b j h)
                have hzN34 : mPz N34 tp n act := mPz_9 hz hk9N34
                have hoN34 : N34 0 9 = nI (op + 1) := (hkN34 0 9 (by unfold pS wS; omega)).trans hoy33
                refine lv_aload_n X.1 X.2.1 dX12_factor_95 rfl (lv_at hl 1 rfl) ?_
                refine lv_bipush (v := 41) X.1 X.2.1 dX12_factor_96 (by decide) ?_
                refine g_run_v (g_runV (k := 14) [.int 41] X hK hP hS hC hB (c_must hM (s1 := pSome tp n (pFac tp n d) (false, i + 1, L)) hzN34 hqN34 (by have := hz.1.2.1; have hw2 := pW_some (tp := tp) (n := n) (F := pFac tp n d) (pW_fac d) (false, i + 1, L) hin9; omega) (by decide)) (cwV 1 X.2.2.2.2 gX12_factor_X12_must rfl rfl rfl (by decide +kernel) (by refine ⟨?_, ?_⟩ <;> dsimp only <;> omega)) (hM.1 0 _ rfl) rfl rfl hl.1 rfl (Nat.le_of_ble_eq_true rfl) dX12_factor_98 (by exact ⟨Nat.zero_le _, Nat.zero_le _⟩)) hS (fun u H locs hq hP hS => ?_)
                obtain ⟨hqN35, hkN35⟩ := hq
                generalize u = N35 at hP hqN35 hkN35
                have hlsN35 : mLs N35 act (pMust tp n 41 (pSome tp n (pFac tp n d) (false, i + 1, L))).2.2 := by rw [pMust_l]; exact mLs_w hlsN34 hkN35
                have hP : gP D cy B z T (gI o 12 N35 I0) R H := hP
                have hk9N35 : mSame (pS9 act) M N35 := fun b j h => (hkN35 b j (pS_w h)).trans (hk9N34 b j h)
                have hzN35 : mPz N35 tp n act := mPz_9 hz hk9N35
                have hoN35 : N35 0 9 = nI (op + 1) := (hkN35 0 9 (by unfold wS; omega)).trans hoN34
                refine lv_aload_n X.1 X.2.1 dX12_factor_101 rfl (lv_at hl 1 rfl) ?_
                refine lv_dup X.1 X.2.1 dX12_factor_102 rfl ?_
                refine m_geti 9 X hK hP hM hin rfl (by decide) k87 rfl dX12_factor_103 (show N35 0 9 = nI (op + 1) from hoN35) ?_
                refine lv_iconst (v := 1) X.1 X.2.1 dX12_factor_106 (by decide) ?_
                refine lv_isub X.1 X.2.1 dX12_factor_107 ?_
                refine m_puti 9 X hK hP hS hM hin rfl (by decide) k87 rfl rfl rfl rfl dX12_factor_108 (fun H locs hP hS => ?_)
                generalize eM36 : g2 N35 0 9 ((nI (op + 1)) - 1) = M36 at hP
                have hdz : mSame d9 N35 M36 := fun b j h => by unfold d9 at h; exact (gs_ne eM36 (by omega) rfl)
                have hoz : M36 0 9 = nI op := ((gs_same eM36)).trans (nI_pred op)
                have hkz : ∀ b j, ¬ pS act b j → M36 b j = M b j := fun b j h => by by_cases e9 : b = 0 ∧ j = 9; (· obtain ⟨rfl, rfl⟩ := e9; exact hoz.trans ho.symm); exact (hdz b j (by unfold d9; unfold pS wS at h; omega)).trans (hk9N35 b j (fun g => g.elim h e9))
                exact g_vret M36 X hr hlk hK hP hS dX12_factor_111 (by rw [pFac_p h40]; exact ⟨⟨⟨gs_ne eM36 (by omega) hqN35.1, gs_ne eM36 (by omega) hqN35.2⟩, mLs_d hlsN35 hdz⟩, hkz⟩)
              · exact absurd c76 c16
            · exact absurd rfl c61
          · exact absurd (gq_eq c31 (Eq.refl (nI op)) (show (5 : Int32) = nI 5 from rfl) (by omega) (by omega)) (by omega)
    · exact absurd rfl c4

theorem C_factor (hM : gMod o T R) (hstr : gStr s0 B) : ∀ (d op : Nat), op + d = 5 → CalC l s0 D cy B o z T R I0 tp n act op yX12_factor wsX12_factor (5 + 3 * d) (107 + 68 * d) (pFac tp n d)
  | 0, op, h => fun M s1 hz hp ho hi3 hL => c_factor_0 hM hz hp ho hi3 hL hstr h
  | d + 1, op, h => fun M s1 hz hp ho hi3 hL => c_factor_s (fr := 5 + 3 * d) (lo := 107 + 68 * d) hM hz hp ho hi3 hL hstr h (by omega) (by omega) (C_factor hM hstr d (op + 1) (by omega)) (C_sm hM (pW_fac d) (C_factor hM hstr d (op + 1) (by omega)))
theorem C_fac5 (hM : gMod o T R) (hstr : gStr s0 B) : CalC l s0 D cy B o z T R I0 tp n act 0 yX12_some wsX12_some 22 495 (pSome tp n (pFac tp n 5)) := C_sm hM (pW_fac 5) (C_factor hM hstr 5 0 rfl)
end NC