section MX9
variable {l : Launch} {s0 : State} {D : va_G} {cy : Nat → ClassId} {B o z : Nat} {T : Nat → Nat × Nat} {R : Nat → Nat → Option Nat} {I0 : Nat → Nat → Int32} {M : Nat → Nat → Int32} {σ : Nat → Nat} {fl : List Nat} {ti sh K τ ms : Nat}
theorem gl_mul {a b : Int64} {x y : Nat} (ha : a = lN x) (hb : b = lN y) : a * b = lN (x * y) := by rw [ha, hb, lN_mul]
theorem gl_rem {a b : Int64} {x y : Nat} (ha : a = lN x) (hb : b = lN y) (h0 : 0 < y) (hx : x < 2 ^ 63) (hy : y < 2 ^ 63) : a - a / b * b = lN (x % y) := by rw [ha, hb, pk_lRem hx h0 hy]
theorem gl_div {a b : Int64} {x y : Nat} (ha : a = lN x) (hb : b = lN y) (h0 : 0 < y) (hx : x < 2 ^ 63) (hy : y < 2 ^ 63) : a / b = lN (x / y) := by rw [ha, hb, pk_lDiv hx h0 hy]
theorem gl_ne0 {a : Int64} {y : Nat} (ha : a = lN y) (h0 : 0 < y) (hy : y < 2 ^ 63) : ¬ a = 0 := fun e => by
  rw [ha] at e
  have := (pk_lEQ hy (by decide)).mp (e.trans (show (0 : Int64) = lN 0 from rfl))
  omega
theorem gl_i2l {x : Int32} {n : Nat} (h : x = nI n) (hn : n < 2 ^ 31) : x.toInt64 = lN n := by rw [h, nI_l hn]
/-- in how many of the first n YARDS something would be lost of β -/
def sRk (fl : List Nat) (σ : Nat → Nat) (μ β : Nat) : Nat → Nat
  | 0 => 0
  | n + 1 => sRk fl σ μ β n + (if 0 < sLs fl σ μ n β then 1 else 0)
theorem sRk_le (fl : List Nat) (σ : Nat → Nat) (μ β : Nat) : ∀ n, sRk fl σ μ β n ≤ n
  | 0 => Nat.le_refl _
  | n + 1 => by
    have h := sRk_le fl σ μ β n
    show sRk fl σ μ β n + (if 0 < sLs fl σ μ n β then 1 else 0) ≤ n + 1
    split <;> omega
def sOd (part p q : Nat) : Nat := (if part = 0 then (10 - p) ^ q else 10 ^ q) / Nat.gcd ((10 - p) ^ q) (10 ^ q)
theorem pw10 {a q : Nat} (ha : a ≤ 10) (hq : q ≤ 10) : a ^ q ≤ 10000000000 := Nat.le_trans (Nat.pow_le_pow_left ha q) (Nat.le_trans (Nat.pow_le_pow_right (by decide) hq) (by decide))

set_option maxHeartbeats 4000000 in
set_option maxRecDepth 100000 in
/-- lowest -/
theorem c_lowest (x : gSt) {a b q : Nat} (ha : a < 2 ^ 62) (hb : b < 2 ^ 62) (hb0 : 0 < b) (hq : q ≤ 1) : Met l yX12_lowest wsX12_lowest ({ frames := 0, cells := 0, slots := 0, locals := 0 }) (va_Pc [.long (lN a), .long (lN b), .int (nI q)] (gW0 s0 D cy B x)) (va_Ql (fun r u => r = lN ((if q = 0 then a else b) / Nat.gcd a b) ∧ u = x) (fun u t => gW1 D cy B u t) (gA B)) 0 0 (gA B) := by
  refine g_met (maxL := 11) (ret := (some .long)) (by decide) rfl (Nat.le_of_ble_eq_true rfl) (fun p e s m args below meth c ls X hr hlk hnm hK hP hC hS hl => ?_)
  have hl : lv_has ls 11 [(0, .long (lN a)), (2, .long (lN b)), (4, .int (nI q))] := hl
  have hP : gP D cy B x.1 x.2.1 x.2.2.1 x.2.2.2 s.heap := hP
  have hB : B ≤ s.heap.size := by rw [hP.1]; exact hP.2.1
  refine lv_lload_n X.1 X.2.1 dX12_lowest_0 rfl (lv_at hl 0 rfl) ?_
  refine lv_lstore (lv' := [(5, .long (lN a)), (0, .long (lN a)), (2, .long (lN b)), (4, .int (nI q))]) X.1 X.2.1 dX12_lowest_1 hl (by decide) rfl (fun ls hl => ?_)
  refine lv_lload_n X.1 X.2.1 dX12_lowest_3 rfl (lv_at hl 2 rfl) ?_
  refine lv_lstore (lv' := [(7, .long (lN b)), (5, .long (lN a)), (0, .long (lN a)), (2, .long (lN b)), (4, .int (nI q))]) X.1 X.2.1 dX12_lowest_4 hl (by decide) rfl (fun ls hl => ?_)
  refine k_loop b 6 [] (fun k ls => ∃ x9 y9 : Nat, x9 < 2 ^ 62 ∧ y9 + k ≤ b ∧ (0 < x9 ∨ 0 < y9) ∧ Nat.gcd x9 y9 = Nat.gcd a b ∧ lv_has ls 11 [(0, .long (lN a)), (2, .long (lN b)), (4, .int (nI q)), (5, .long (lN x9)), (7, .long (lN y9))]) 0 (by omega) ⟨a, b, by omega, by omega, Or.inr hb0, rfl, lv_sub hl [2, 3, 4, 1, 0] rfl⟩ (fun k ls hk hiv ih => ?_)
  obtain ⟨x9, y9, hx9, hy9, hxy, hgcd, hl⟩ := hiv
  refine lv_lload X.1 X.2.1 dX12_lowest_6 (lv_at hl 4 rfl) ?_
  refine lv_lconst (v := 0) X.1 X.2.1 dX12_lowest_8 rfl ?_
  refine W.lcmp X.1 X.2.1 dX12_lowest_9 ?_
  refine lv_if_eq (tgt := 31) X.1 X.2.1 dX12_lowest_10 (by decide) (fun c10 => ?_) (fun c10 => ?_)
  · have hy0 : y9 = 0 := (pk_lEQ (by omega) (by decide)).mp (((lg_cmp_eq _ _).mp c10).trans (show (0 : Int64) = lN 0 from rfl))
    subst hy0
    have hx0 : 0 < x9 := by omega
    refine lv_iload X.1 X.2.1 dX12_lowest_31 (lv_at hl 2 rfl) ?_
    refine lv_if_ne (tgt := 40) X.1 X.2.1 dX12_lowest_33 (by decide) (fun c33 => ?_) (fun c33 => ?_)
    · have n33 : ¬ q = 0 := gq_ne c33 (Eq.refl (nI q)) (show (0 : Int32) = nI 0 from rfl) (by omega) (by omega)
      refine lv_lload_n X.1 X.2.1 dX12_lowest_40 rfl (lv_at hl 1 rfl) ?_
      refine lv_lload X.1 X.2.1 dX12_lowest_41 (lv_at hl 3 rfl) ?_
      refine lv_ldiv X.1 X.2.1 dX12_lowest_43 (gl_ne0 (Eq.refl (lN x9)) (by omega) (by omega)) ?_
      exact g_lret x X hr hlk hK hP hS dX12_lowest_44 ⟨((gl_div (Eq.refl (lN b)) (Eq.refl (lN x9)) (by omega) (by omega) (by omega))).trans (congrArg lN (by rw [if_neg n33, ← hgcd, Nat.gcd_zero_right])), rfl⟩
    · have n33 : q = 0 := gq_eq c33 (Eq.refl (nI q)) (show (0 : Int32) = nI 0 from rfl) (by omega) (by omega)
      refine lv_lload_n X.1 X.2.1 dX12_lowest_36 rfl (lv_at hl 0 rfl) ?_
      refine lv_goto (tgt := 41) X.1 X.2.1 dX12_lowest_37 (by decide) ?_
      refine lv_lload X.1 X.2.1 dX12_lowest_41 (lv_at hl 3 rfl) ?_
      refine lv_ldiv X.1 X.2.1 dX12_lowest_43 (gl_ne0 (Eq.refl (lN x9)) (by omega) (by omega)) ?_
      exact g_lret x X hr hlk hK hP hS dX12_lowest_44 ⟨((gl_div (Eq.refl (lN a)) (Eq.refl (lN x9)) (by omega) (by omega) (by omega))).trans (congrArg lN (by rw [if_pos n33, ← hgcd, Nat.gcd_zero_right])), rfl⟩
  · have hy0 : 0 < y9 := Nat.pos_of_ne_zero (fun e => c10 ((lg_cmp_eq _ _).mpr (by rw [e]; rfl)))
    refine lv_lload X.1 X.2.1 dX12_lowest_13 (lv_at hl 3 rfl) ?_
    refine lv_lload X.1 X.2.1 dX12_lowest_15 (lv_at hl 4 rfl) ?_
    refine lv_lrem X.1 X.2.1 dX12_lowest_17 (gl_ne0 (Eq.refl (lN y9)) (by omega) (by omega)) ?_
    refine lv_lstore (lv' := [(9, .long ((lN x9) - (lN x9) / (lN y9) * (lN y9))), (0, .long (lN a)), (2, .long (lN b)), (4, .int (nI q)), (5, .long (lN x9)), (7, .long (lN y9))]) X.1 X.2.1 dX12_lowest_18 hl (by decide) rfl (fun ls hl => ?_)
    refine lv_lload X.1 X.2.1 dX12_lowest_20 (lv_at hl 5 rfl) ?_
    refine lv_lstore (lv' := [(5, .long (lN y9)), (9, .long ((lN x9) - (lN x9) / (lN y9) * (lN y9))), (0, .long (lN a)), (2, .long (lN b)), (4, .int (nI q)), (7, .long (lN y9))]) X.1 X.2.1 dX12_lowest_22 hl (by decide) rfl (fun ls hl => ?_)
    refine lv_lload X.1 X.2.1 dX12_lowest_24 (lv_at hl 1 rfl) ?_
    refine lv_lstore (lv' := [(7, .long ((lN x9) - (lN x9) / (lN y9) * (lN y9))), (5, .long (lN y9)), (9, .long ((lN x9) - (lN x9) / (lN y9) * (lN y9))), (0, .long (lN a)), (2, .long (lN b)), (4, .int (nI q))]) X.1 X.2.1 dX12_lowest_26 hl (by decide) rfl (fun ls hl => ?_)
    refine lv_goto (tgt := 6) X.1 X.2.1 dX12_lowest_28 (by decide) ?_
    have hmod := Nat.mod_lt x9 hy0
    have hv : (lN x9) - (lN x9) / (lN y9) * (lN y9) = lN (x9 % y9) := (gl_rem (Eq.refl (lN x9)) (Eq.refl (lN y9)) (by omega) (by omega) (by omega))
    exact ih _ (by omega) ⟨y9, x9 % y9, by omega, by omega, Or.inl hy0, by rw [← hgcd, Nat.gcd_comm y9, Nat.gcd_comm x9 y9]; exact (Nat.gcd_rec y9 x9).symm, by rw [← hv]; exact lv_sub hl [3, 4, 5, 1, 0] rfl⟩

set_option maxHeartbeats 4000000 in
set_option maxRecDepth 100000 in
/-- c_odds_n -/
theorem c_odds_n (hM : gMod o T R) (hi : mInv M σ fl ti sh K τ ms) {v a p9 q : Int32} (hno : ¬ ((0 ≤ v ∧ v ≤ nI (σ 38) - 1) ∧ (1 ≤ a ∧ a ≤ 20) ∧ (0 ≤ p9 ∧ p9 ≤ 10) ∧ (0 ≤ q ∧ q ≤ 1))) : Met l yX12_odds wsX12_odds ({ frames := 2, cells := 0, slots := 0, locals := 43 }) (mPre s0 D cy B o z T R I0 M [.int v, .int a, .int p9, .int q]) (mQl D cy B o z T R I0 (fun r u => r = -9223372036854775808 ∧ M = u)) 0 0 (gA B) := by
  refine g_met (maxL := 12) (ret := (some .long)) (by decide) rfl (Nat.le_of_ble_eq_true rfl) (fun p e s m args below meth c ls X hr hlk hnm hK hP hC hS hl => ?_)
  have hl : lv_has ls 12 [(0, .ref o), (1, .int v), (2, .int a), (3, .int p9), (4, .int q)] := hl
  have hP : gP D cy B z T (gI o 12 M I0) R s.heap := hP
  have hB : B ≤ s.heap.size := by rw [hP.1]; exact hP.2.1
  have hσ := hi.1
  have hs := hi.2.1
  have hb := hi.2.2.1
  have hca := hi.2.2.2
  refine lv_aload_n X.1 X.2.1 dX12_odds_0 rfl (lv_at hl 0 rfl) ?_
  refine lv_iload_n X.1 X.2.1 dX12_odds_1 rfl (lv_at hl 1 rfl) ?_
  refine g_run_i (g_runV (k := 14) [.int v] X hK hP hS hC hB (c_isMan hM _ v) (cwV 1 X.2.2.2.2 gX12_odds_X12_isMan rfl rfl rfl (by decide +kernel) ⟨Nat.le_of_ble_eq_true rfl, Nat.le_of_ble_eq_true rfl⟩) (hM.1 0 _ rfl) rfl rfl hl.1 rfl (Nat.le_of_ble_eq_true rfl) dX12_odds_2 (by exact ⟨Nat.zero_le _, Nat.zero_le _⟩)) hS (fun r u H locs hq hP hS => ?_)
  obtain ⟨rfl, rfl⟩ := hq
  have hP : gP D cy B z T (gI o 12 M I0) R H := hP
  refine lv_if_eq (tgt := 35) X.1 X.2.1 dX12_odds_5 (by decide) (fun c5 => ?_) (fun c5 => ?_)
  · refine lv_ldc2 (v := (-9223372036854775808)) X.1 X.2.1 X.2.2.2.1 (X.2.2.2.2 (.constantLong RX12 241 (-9223372036854775808)) (by decide +kernel)) dX12_odds_35 ?_
    exact g_lret M X hr hlk hK hP hS dX12_odds_38 ⟨rfl, rfl⟩
  · refine lv_iload_n X.1 X.2.1 dX12_odds_8 rfl (lv_at hl 2 rfl) ?_
    refine g_run_i (g_runS [.int a] X hK hP hS hC hB (c_isLoad _ a) (va_cwS 1 X.2.2.2.2 gX12_odds_X12_isLoad rfl rfl rfl (by decide +kernel) ⟨Nat.le_of_ble_eq_true rfl, Nat.le_of_ble_eq_true rfl⟩) rfl hl.1 rfl (Nat.le_of_ble_eq_true rfl) dX12_odds_9 (by exact ⟨Nat.zero_le _, Nat.zero_le _⟩)) hS (fun r u H locs hq hP hS => ?_)
    obtain ⟨rfl, rfl⟩ := hq
    have hP : gP D cy B z T (gI o 12 M I0) R H := hP
    refine lv_if_eq (tgt := 35) X.1 X.2.1 dX12_odds_12 (by decide) (fun c12 => ?_) (fun c12 => ?_)
    · refine lv_ldc2 (v := (-9223372036854775808)) X.1 X.2.1 X.2.2.2.1 (X.2.2.2.2 (.constantLong RX12 241 (-9223372036854775808)) (by decide +kernel)) dX12_odds_35 ?_
      exact g_lret M X hr hlk hK hP hS dX12_odds_38 ⟨rfl, rfl⟩
    · refine lv_iload_n X.1 X.2.1 dX12_odds_15 rfl (lv_at hl 3 rfl) ?_
      refine lv_iconst (v := 0) X.1 X.2.1 dX12_odds_16 (by decide) ?_
      refine lv_bipush (v := 10) X.1 X.2.1 dX12_odds_17 (by decide) ?_
      refine g_run_i (g_runS [.int p9, .int 0, .int 10] X hK hP hS hC hB (c_in _ p9 0 10) (va_cwS 3 X.2.2.2.2 gX12_odds_X12_in rfl rfl rfl (by decide +kernel) ⟨Nat.le_of_ble_eq_true rfl, Nat.le_of_ble_eq_true rfl⟩) rfl hl.1 rfl (Nat.le_of_ble_eq_true rfl) dX12_odds_19 (by exact ⟨Nat.zero_le _, Nat.zero_le _⟩)) hS (fun r u H locs hq hP hS => ?_)
      obtain ⟨rfl, rfl⟩ := hq
      have hP : gP D cy B z T (gI o 12 M I0) R H := hP
      refine lv_if_eq (tgt := 35) X.1 X.2.1 dX12_odds_22 (by decide) (fun c22 => ?_) (fun c22 => ?_)
      · refine lv_ldc2 (v := (-9223372036854775808)) X.1 X.2.1 X.2.2.2.1 (X.2.2.2.2 (.constantLong RX12 241 (-9223372036854775808)) (by decide +kernel)) dX12_odds_35 ?_
        exact g_lret M X hr hlk hK hP hS dX12_odds_38 ⟨rfl, rfl⟩
      · refine lv_iload X.1 X.2.1 dX12_odds_25 (lv_at hl 4 rfl) ?_
        refine lv_iconst (v := 0) X.1 X.2.1 dX12_odds_27 (by decide) ?_
        refine lv_iconst (v := 1) X.1 X.2.1 dX12_odds_28 (by decide) ?_
        refine g_run_i (g_runS [.int q, .int 0, .int 1] X hK hP hS hC hB (c_in _ q 0 1) (va_cwS 3 X.2.2.2.2 gX12_odds_X12_in rfl rfl rfl (by decide +kernel) ⟨Nat.le_of_ble_eq_true rfl, Nat.le_of_ble_eq_true rfl⟩) rfl hl.1 rfl (Nat.le_of_ble_eq_true rfl) dX12_odds_29 (by exact ⟨Nat.zero_le _, Nat.zero_le _⟩)) hS (fun r u H locs hq hP hS => ?_)
        obtain ⟨rfl, rfl⟩ := hq
        have hP : gP D cy B z T (gI o 12 M I0) R H := hP
        refine lv_if_ne (tgt := 39) X.1 X.2.1 dX12_odds_32 (by decide) (fun c32 => ?_) (fun c32 => ?_)
        · exact absurd ⟨(by rw [← hσ 38 (by decide) (by decide)]; exact gt_1 c5), gt_1 c12, gt_1 c22, gt_1 c32⟩ hno
        · refine lv_ldc2 (v := (-9223372036854775808)) X.1 X.2.1 X.2.2.2.1 (X.2.2.2.2 (.constantLong RX12 241 (-9223372036854775808)) (by decide +kernel)) dX12_odds_35 ?_
          exact g_lret M X hr hlk hK hP hS dX12_odds_38 ⟨rfl, rfl⟩


set_option maxHeartbeats 4000000 in
set_option maxRecDepth 100000 in
/-- c_odds -/
theorem c_odds (hM : gMod o T R) (hi : mInv M σ fl ti sh K τ ms) {μ : Nat} (hμn : μ < σ 38) {ld : Nat} (hl1 : 1 ≤ ld) (hld : ld ≤ 20) {p9 q : Nat} (hp9 : p9 ≤ 10) (hq1 : q ≤ 1) (hτ : τ + 40 < 2 ^ 30) (hK : K < 2 ^ 28) : Met l yX12_odds wsX12_odds ({ frames := 4, cells := 0, slots := 0, locals := 101 }) (mPre s0 D cy B o z T R I0 M [.int (nI μ), .int (nI ld), .int (nI p9), .int (nI q)]) (mQl D cy B o z T R I0 (fun r u => r = lN (sOd q p9 (sRk fl σ μ (sCm σ μ ld) 10)) ∧ mSame qS M u ∧ ∃ τ' ms', τ ≤ τ' ∧ τ' ≤ τ + 10 ∧ mCache u fl σ τ' ms')) 0 0 (gA B) := by
  refine g_met (maxL := 12) (ret := (some .long)) (by decide) rfl (Nat.le_of_ble_eq_true rfl) (fun p e s m args below meth c ls X hr hlk hnm hK hP hC hS hl => ?_)
  have hl : lv_has ls 12 [(0, .ref o), (1, .int (nI μ)), (2, .int (nI ld)), (3, .int (nI p9)), (4, .int (nI q))] := hl
  have hP : gP D cy B z T (gI o 12 M I0) R s.heap := hP
  have hB : B ≤ s.heap.size := by rw [hP.1]; exact hP.2.1
  have hσ := hi.1
  have hs := hi.2.1
  have hb := hi.2.2.1
  have hca := hi.2.2.2
  have hμ : μ < 4 := Nat.lt_of_lt_of_le hμn hi.2.2.1.2.2.2.2.1
  have h38 := hμn
  refine lv_aload_n X.1 X.2.1 dX12_odds_0 rfl (lv_at hl 0 rfl) ?_
  refine lv_iload_n X.1 X.2.1 dX12_odds_1 rfl (lv_at hl 1 rfl) ?_
  refine g_run_i (g_runV (k := 14) [.int (nI μ)] X hK hP hS hC hB (c_isMan hM _ (nI μ)) (cwV 1 X.2.2.2.2 gX12_odds_X12_isMan rfl rfl rfl (by decide +kernel) ⟨Nat.le_of_ble_eq_true rfl, Nat.le_of_ble_eq_true rfl⟩) (hM.1 0 _ rfl) rfl rfl hl.1 rfl (Nat.le_of_ble_eq_true rfl) dX12_odds_2 (by exact ⟨Nat.zero_le _, Nat.zero_le _⟩)) hS (fun r u H locs hq hP hS => ?_)
  obtain ⟨rfl, rfl⟩ := hq
  have hP : gP D cy B z T (gI o 12 M I0) R H := hP
  refine lv_if_eq (tgt := 35) X.1 X.2.1 dX12_odds_5 (by decide) (fun c5 => ?_) (fun c5 => ?_)
  · exact absurd (g_man hi hμn) (gt_0 c5)
  · refine lv_iload_n X.1 X.2.1 dX12_odds_8 rfl (lv_at hl 2 rfl) ?_
    refine g_run_i (g_runS [.int (nI ld)] X hK hP hS hC hB (c_isLoad _ (nI ld)) (va_cwS 1 X.2.2.2.2 gX12_odds_X12_isLoad rfl rfl rfl (by decide +kernel) ⟨Nat.le_of_ble_eq_true rfl, Nat.le_of_ble_eq_true rfl⟩) rfl hl.1 rfl (Nat.le_of_ble_eq_true rfl) dX12_odds_9 (by exact ⟨Nat.zero_le _, Nat.zero_le _⟩)) hS (fun r u H locs hq hP hS => ?_)
    obtain ⟨rfl, rfl⟩ := hq
    have hP : gP D cy B z T (gI o 12 M I0) R H := hP
    refine lv_if_eq (tgt := 35) X.1 X.2.1 dX12_odds_12 (by decide) (fun c12 => ?_) (fun c12 => ?_)
    · exact absurd (g_le (a := 1) (b := 20) (x := 1) (y := 20) rfl rfl (by omega) (by omega) (by omega)) (gt_0 c12)
    · refine lv_iload_n X.1 X.2.1 dX12_odds_15 rfl (lv_at hl 3 rfl) ?_
      refine lv_iconst (v := 0) X.1 X.2.1 dX12_odds_16 (by decide) ?_
      refine lv_bipush (v := 10) X.1 X.2.1 dX12_odds_17 (by decide) ?_
      refine g_run_i (g_runS [.int (nI p9), .int 0, .int 10] X hK hP hS hC hB (c_in _ (nI p9) 0 10) (va_cwS 3 X.2.2.2.2 gX12_odds_X12_in rfl rfl rfl (by decide +kernel) ⟨Nat.le_of_ble_eq_true rfl, Nat.le_of_ble_eq_true rfl⟩) rfl hl.1 rfl (Nat.le_of_ble_eq_true rfl) dX12_odds_19 (by exact ⟨Nat.zero_le _, Nat.zero_le _⟩)) hS (fun r u H locs hq hP hS => ?_)
      obtain ⟨rfl, rfl⟩ := hq
      have hP : gP D cy B z T (gI o 12 M I0) R H := hP
      refine lv_if_eq (tgt := 35) X.1 X.2.1 dX12_odds_22 (by decide) (fun c22 => ?_) (fun c22 => ?_)
      · exact absurd (g_le (a := 0) (b := 10) (x := 0) (y := 10) rfl rfl (by omega) (by omega) (by omega)) (gt_0 c22)
      · refine lv_iload X.1 X.2.1 dX12_odds_25 (lv_at hl 4 rfl) ?_
        refine lv_iconst (v := 0) X.1 X.2.1 dX12_odds_27 (by decide) ?_
        refine lv_iconst (v := 1) X.1 X.2.1 dX12_odds_28 (by decide) ?_
        refine g_run_i (g_runS [.int (nI q), .int 0, .int 1] X hK hP hS hC hB (c_in _ (nI q) 0 1) (va_cwS 3 X.2.2.2.2 gX12_odds_X12_in rfl rfl rfl (by decide +kernel) ⟨Nat.le_of_ble_eq_true rfl, Nat.le_of_ble_eq_true rfl⟩) rfl hl.1 rfl (Nat.le_of_ble_eq_true rfl) dX12_odds_29 (by exact ⟨Nat.zero_le _, Nat.zero_le _⟩)) hS (fun r u H locs hq hP hS => ?_)
        obtain ⟨rfl, rfl⟩ := hq
        have hP : gP D cy B z T (gI o 12 M I0) R H := hP
        refine lv_if_ne (tgt := 39) X.1 X.2.1 dX12_odds_32 (by decide) (fun c32 => ?_) (fun c32 => ?_)
        · refine lv_aload_n X.1 X.2.1 dX12_odds_39 rfl (lv_at hl 0 rfl) ?_
          refine lv_iload_n X.1 X.2.1 dX12_odds_40 rfl (lv_at hl 1 rfl) ?_
          refine lv_iload_n X.1 X.2.1 dX12_odds_41 rfl (lv_at hl 2 rfl) ?_
          refine g_run_i (g_runV (k := 14) [.int (nI μ), .int (nI ld)] X hK hP hS hC hB (c_comes hM hσ hb hμ hld) (cwV 2 X.2.2.2.2 gX12_odds_X12_comes rfl rfl rfl (by decide +kernel) ⟨Nat.le_of_ble_eq_true rfl, Nat.le_of_ble_eq_true rfl⟩) (hM.1 0 _ rfl) rfl rfl hl.1 rfl (Nat.le_of_ble_eq_true rfl) dX12_odds_42 (by exact ⟨Nat.zero_le _, Nat.zero_le _⟩)) hS (fun r u H locs hq hP hS => ?_)
          obtain ⟨rfl, rfl⟩ := hq
          have hP : gP D cy B z T (gI o 12 M I0) R H := hP
          refine lv_istore (lv' := [(5, .int (nI (sCm σ μ ld))), (0, .ref o), (1, .int (nI μ)), (2, .int (nI ld)), (3, .int (nI p9)), (4, .int (nI q))]) X.1 X.2.1 dX12_odds_45 hl (by decide) rfl (fun ls hl => ?_)
          refine lv_lconst (v := 1) X.1 X.2.1 dX12_odds_47 rfl ?_
          refine lv_lstore (lv' := [(6, .long 1), (5, .int (nI (sCm σ μ ld))), (0, .ref o), (1, .int (nI μ)), (2, .int (nI ld)), (3, .int (nI p9)), (4, .int (nI q))]) X.1 X.2.1 dX12_odds_48 hl (by decide) rfl (fun ls hl => ?_)
          refine lv_lconst (v := 1) X.1 X.2.1 dX12_odds_50 rfl ?_
          refine lv_lstore (lv' := [(8, .long 1), (6, .long 1), (5, .int (nI (sCm σ μ ld))), (0, .ref o), (1, .int (nI μ)), (2, .int (nI ld)), (3, .int (nI p9)), (4, .int (nI q))]) X.1 X.2.1 dX12_odds_51 hl (by decide) rfl (fun ls hl => ?_)
          refine lv_iconst (v := 0) X.1 X.2.1 dX12_odds_53 (by decide) ?_
          refine lv_istore (lv' := [(10, .int 0), (8, .long 1), (6, .long 1), (5, .int (nI (sCm σ μ ld))), (0, .ref o), (1, .int (nI μ)), (2, .int (nI ld)), (3, .int (nI p9)), (4, .int (nI q))]) X.1 X.2.1 dX12_odds_54 hl (by decide) rfl (fun ls hl => ?_)
          refine m_loop (M := M) 10 56 [] (fun k N ls => ∃ (τk msk : Nat), mInv N σ fl ti sh K τk msk ∧ τ ≤ τk ∧ τk ≤ τ + k ∧ mSame qS M N ∧ lv_has ls 12 [(0, .ref o), (1, .int (nI μ)), (2, .int (nI ld)), (3, .int (nI p9)), (4, .int (nI q)), (5, .int (nI (sCm σ μ ld))), (6, .long (lN ((10 - p9) ^ (sRk fl σ μ (sCm σ μ ld) k)))), (8, .long (lN (10 ^ (sRk fl σ μ (sCm σ μ ld) k)))), (10, .int (nI k))]) 0 (by omega) ⟨τ, ms, hi, by omega, by omega, fun _ _ _ => rfl, lv_sub hl [4, 5, 6, 7, 8, 3, 2, 1, 0] rfl⟩ hP hS (fun k N H locs ls hk hiv hP hS ih => ?_)
          obtain ⟨τk, msk, hvN, hτ1, hτ2, hqs, hl⟩ := hiv
          have hrk := sRk_le fl σ μ (sCm σ μ ld) k
          have hp1 := pw10 (show 10 - p9 ≤ 10 by omega) (show sRk fl σ μ (sCm σ μ ld) k ≤ 10 by omega)
          have hp2 := pw10 (show 10 ≤ 10 by omega) (show sRk fl σ μ (sCm σ μ ld) k ≤ 10 by omega)
          have hp3 : 0 < 10 ^ sRk fl σ μ (sCm σ μ ld) k := Nat.pow_pos (by decide)
          have hcm := sCm_le σ μ ld
          refine lv_iload X.1 X.2.1 dX12_odds_56 (lv_at hl 8 rfl) ?_
          refine lv_bipush (v := 10) X.1 X.2.1 dX12_odds_58 (by decide) ?_
          refine lv_icmp_ge (tgt := 124) X.1 X.2.1 dX12_odds_60 (by decide) (fun c60 => ?_) (fun c60 => ?_)
          · have n60 : 10 ≤ k := gq_le c60 (show (10 : Int32) = nI 10 from rfl) (Eq.refl (nI k)) (by omega) (by omega)
            obtain rfl : k = 10 := gk18 hk c60
            refine lv_lload X.1 X.2.1 dX12_odds_124 (lv_at hl 6 rfl) ?_
            refine lv_lload X.1 X.2.1 dX12_odds_126 (lv_at hl 7 rfl) ?_
            refine lv_iload X.1 X.2.1 dX12_odds_128 (lv_at hl 4 rfl) ?_
            refine g_run_l (g_runS [.long (lN ((10 - p9) ^ (sRk fl σ μ (sCm σ μ ld) 10))), .long (lN (10 ^ (sRk fl σ μ (sCm σ μ ld) 10))), .int (nI q)] X hK hP hS hC hB (c_lowest _ (a := ((10 - p9) ^ (sRk fl σ μ (sCm σ μ ld) 10))) (b := (10 ^ (sRk fl σ μ (sCm σ μ ld) 10))) (q := q) (by omega) (by omega) (by omega) (by omega)) (va_cwS 3 X.2.2.2.2 gX12_odds_X12_lowest rfl rfl rfl (by decide +kernel) ⟨Nat.le_of_ble_eq_true rfl, Nat.le_of_ble_eq_true rfl⟩) rfl hl.1 rfl (Nat.le_of_ble_eq_true rfl) dX12_odds_130 (by exact ⟨Nat.zero_le _, Nat.zero_le _⟩)) hS (fun r u H locs hq hP hS => ?_)
            obtain ⟨rfl, rfl⟩ := hq
            have hP : gP D cy B z T (gI o 12 N I0) R H := hP
            exact g_lret N X hr hlk hK hP hS dX12_odds_133 ⟨rfl, hqs, τk, msk, by omega, by omega, hvN.2.2.2⟩
          · have n60 : k < 10 := gq_nle c60 (show (10 : Int32) = nI 10 from rfl) (Eq.refl (nI k)) (by omega) (by omega)
            have hk9 : k < 10 := gk_lt hk c60
            refine lv_aload_n X.1 X.2.1 dX12_odds_63 rfl (lv_at hl 0 rfl) ?_
            refine lv_iload_n X.1 X.2.1 dX12_odds_64 rfl (lv_at hl 1 rfl) ?_
            refine lv_iload X.1 X.2.1 dX12_odds_65 (lv_at hl 8 rfl) ?_
            refine lv_iload X.1 X.2.1 dX12_odds_67 (lv_at hl 5 rfl) ?_
            refine g_run_i (g_runV (k := 14) [.int (nI μ), .int (nI k), .int (nI (sCm σ μ ld))] X hK hP hS hC hB (c_lostIn hM hvN.1 hvN.2.1 hb hμ h38 (υ := k) (β := (sCm σ μ ld)) (by omega) (by omega) hvN.2.2.2 (by omega)) (cwV 3 X.2.2.2.2 gX12_odds_X12_lostIn rfl rfl rfl (by decide +kernel) ⟨Nat.le_of_ble_eq_true rfl, Nat.le_of_ble_eq_true rfl⟩) (hM.1 0 _ rfl) rfl rfl hl.1 rfl (Nat.le_of_ble_eq_true rfl) dX12_odds_69 (by exact ⟨Nat.zero_le _, Nat.zero_le _⟩)) hS (fun r u H locs hq hP hS => ?_)
            obtain ⟨rfl, τN1, hτaN1, hτbN1, hcaN1, hkN1⟩ := hq
            generalize u = N1 at hP hcaN1 hkN1
            have hP : gP D cy B z T (gI o 12 N1 I0) R H := hP
            have hσN1 : mS N1 σ := mS_c hvN.1 (fun i => hkN1 1 i (by unfold lS; omega))
            have hsN1 : mSite N1 fl ti sh := mSite_c hvN.2.1 (fun i _ _ => hkN1 1 i (by unfold lS; omega))
            have hls : sLs fl σ μ k (sCm σ μ ld) ≤ (sCm σ μ ld) := by unfold sLs; omega
            refine lv_if_le (tgt := 79) X.1 X.2.1 dX12_odds_72 (by decide) (fun c72 => ?_) (fun c72 => ?_)
            · have n72 : (sLs fl σ μ k (sCm σ μ ld)) ≤ 0 := gq_le c72 (Eq.refl (nI (sLs fl σ μ k (sCm σ μ ld)))) (show (0 : Int32) = nI 0 from rfl) (by omega) (by omega)
              refine lv_iconst (v := 0) X.1 X.2.1 dX12_odds_79 (by decide) ?_
              refine lv_istore (lv' := [(11, .int 0), (0, .ref o), (1, .int (nI μ)), (2, .int (nI ld)), (3, .int (nI p9)), (4, .int (nI q)), (5, .int (nI (sCm σ μ ld))), (6, .long (lN ((10 - p9) ^ (sRk fl σ μ (sCm σ μ ld) k)))), (8, .long (lN (10 ^ (sRk fl σ μ (sCm σ μ ld) k)))), (10, .int (nI k))]) X.1 X.2.1 dX12_odds_80 hl (by decide) rfl (fun ls hl => ?_)
              refine lv_lload X.1 X.2.1 dX12_odds_82 (lv_at hl 7 rfl) ?_
              refine lv_iload X.1 X.2.1 dX12_odds_84 (lv_at hl 0 rfl) ?_
              refine lv_if_eq (tgt := 97) X.1 X.2.1 dX12_odds_86 (by decide) (fun c86 => ?_) (fun c86 => ?_)
              · have n86 : 0 = 0 := gq_eq c86 (show (0 : Int32) = nI 0 from rfl) (show (0 : Int32) = nI 0 from rfl) (by omega) (by omega)
                refine lv_lconst (v := 1) X.1 X.2.1 dX12_odds_97 rfl ?_
                refine lv_lmul X.1 X.2.1 dX12_odds_98 ?_
                refine lv_lstore (lv' := [(6, .long ((lN ((10 - p9) ^ (sRk fl σ μ (sCm σ μ ld) k))) * 1)), (11, .int 0), (0, .ref o), (1, .int (nI μ)), (2, .int (nI ld)), (3, .int (nI p9)), (4, .int (nI q)), (5, .int (nI (sCm σ μ ld))), (8, .long (lN (10 ^ (sRk fl σ μ (sCm σ μ ld) k)))), (10, .int (nI k))]) X.1 X.2.1 dX12_odds_99 hl (by decide) rfl (fun ls hl => ?_)
                refine lv_lload X.1 X.2.1 dX12_odds_101 (lv_at hl 8 rfl) ?_
                refine lv_iload X.1 X.2.1 dX12_odds_103 (lv_at hl 1 rfl) ?_
                refine lv_if_eq (tgt := 114) X.1 X.2.1 dX12_odds_105 (by decide) (fun c105 => ?_) (fun c105 => ?_)
                · have n105 : 0 = 0 := gq_eq c105 (show (0 : Int32) = nI 0 from rfl) (show (0 : Int32) = nI 0 from rfl) (by omega) (by omega)
                  refine lv_lconst (v := 1) X.1 X.2.1 dX12_odds_114 rfl ?_
                  refine lv_lmul X.1 X.2.1 dX12_odds_115 ?_
                  refine lv_lstore (lv' := [(8, .long ((lN (10 ^ (sRk fl σ μ (sCm σ μ ld) k))) * 1)), (6, .long ((lN ((10 - p9) ^ (sRk fl σ μ (sCm σ μ ld) k))) * 1)), (11, .int 0), (0, .ref o), (1, .int (nI μ)), (2, .int (nI ld)), (3, .int (nI p9)), (4, .int (nI q)), (5, .int (nI (sCm σ μ ld))), (10, .int (nI k))]) X.1 X.2.1 dX12_odds_116 hl (by decide) rfl (fun ls hl => ?_)
                  refine lv_iinc (v := nI (k + 1)) (lv' := [(10, .int (nI (k + 1))), (8, .long ((lN (10 ^ (sRk fl σ μ (sCm σ μ ld) k))) * 1)), (6, .long ((lN ((10 - p9) ^ (sRk fl σ μ (sCm σ μ ld) k))) * 1)), (11, .int 0), (0, .ref o), (1, .int (nI μ)), (2, .int (nI ld)), (3, .int (nI p9)), (4, .int (nI q)), (5, .int (nI (sCm σ μ ld)))]) X.1 X.2.1 dX12_odds_118 hl (k := 9) rfl (gn_inc (Eq.refl (nI k)) 1) (by decide) rfl (fun ls hl => ?_)
                  refine lv_goto (tgt := 56) X.1 X.2.1 dX12_odds_121 (by decide) ?_
                  have hr9 : sRk fl σ μ (sCm σ μ ld) (k + 1) = sRk fl σ μ (sCm σ μ ld) k + 0 := by show sRk fl σ μ (sCm σ μ ld) k + (if 0 < sLs fl σ μ k (sCm σ μ ld) then 1 else 0) = _; rw [if_neg (by omega)]
                  have hv6 : (lN ((10 - p9) ^ (sRk fl σ μ (sCm σ μ ld) k))) * 1 = lN ((10 - p9) ^ sRk fl σ μ (sCm σ μ ld) (k + 1)) := ((gl_mul (Eq.refl (lN ((10 - p9) ^ (sRk fl σ μ (sCm σ μ ld) k)))) (show (1 : Int64) = lN 1 from rfl))).trans (congrArg lN (by rw [hr9]; exact Nat.mul_one _))
                  have hv8 : (lN (10 ^ (sRk fl σ μ (sCm σ μ ld) k))) * 1 = lN (10 ^ sRk fl σ μ (sCm σ μ ld) (k + 1)) := ((gl_mul (Eq.refl (lN (10 ^ (sRk fl σ μ (sCm σ μ ld) k)))) (show (1 : Int64) = lN 1 from rfl))).trans (congrArg lN (by rw [hr9]; exact Nat.mul_one _))
                  have hqN : mSame qS N N1 := fun b i h => hkN1 b i (fun q => h (by unfold lS at q; unfold qS; omega))
                  exact ih _ _ _ _ (by omega) ⟨τN1, μ, inv_q hvN hqN hcaN1, by omega, by omega, fun b i h => (hqN b i h).trans (hqs b i h), by rw [← hv6, ← hv8]; exact lv_sub hl [4, 5, 6, 7, 8, 9, 2, 1, 0] rfl⟩ hP hS
                · exact absurd rfl c105
              · exact absurd rfl c86
            · have n72 : 0 < (sLs fl σ μ k (sCm σ μ ld)) := gq_nle c72 (Eq.refl (nI (sLs fl σ μ k (sCm σ μ ld)))) (show (0 : Int32) = nI 0 from rfl) (by omega) (by omega)
              refine lv_iconst (v := 1) X.1 X.2.1 dX12_odds_75 (by decide) ?_
              refine lv_goto (tgt := 80) X.1 X.2.1 dX12_odds_76 (by decide) ?_
              refine lv_istore (lv' := [(11, .int 1), (0, .ref o), (1, .int (nI μ)), (2, .int (nI ld)), (3, .int (nI p9)), (4, .int (nI q)), (5, .int (nI (sCm σ μ ld))), (6, .long (lN ((10 - p9) ^ (sRk fl σ μ (sCm σ μ ld) k)))), (8, .long (lN (10 ^ (sRk fl σ μ (sCm σ μ ld) k)))), (10, .int (nI k))]) X.1 X.2.1 dX12_odds_80 hl (by decide) rfl (fun ls hl => ?_)
              refine lv_lload X.1 X.2.1 dX12_odds_82 (lv_at hl 7 rfl) ?_
              refine lv_iload X.1 X.2.1 dX12_odds_84 (lv_at hl 0 rfl) ?_
              refine lv_if_eq (tgt := 97) X.1 X.2.1 dX12_odds_86 (by decide) (fun c86 => ?_) (fun c86 => ?_)
              · exact absurd c86 (by decide)
              · have n86 : ¬ 1 = 0 := gq_ne c86 (show (1 : Int32) = nI 1 from rfl) (show (0 : Int32) = nI 0 from rfl) (by omega) (by omega)
                refine lv_bipush (v := 10) X.1 X.2.1 dX12_odds_89 (by decide) ?_
                refine lv_iload_n X.1 X.2.1 dX12_odds_91 rfl (lv_at hl 4 rfl) ?_
                refine lv_isub X.1 X.2.1 dX12_odds_92 ?_
                refine lv_i2l (v := lN (10 - p9)) X.1 X.2.1 dX12_odds_93 (gl_i2l (gn_sub (show (10 : Int32) = nI 10 from rfl) (Eq.refl (nI p9)) (by omega)) (by omega)) ?_
                refine lv_goto (tgt := 98) X.1 X.2.1 dX12_odds_94 (by decide) ?_
                refine lv_lmul X.1 X.2.1 dX12_odds_98 ?_
                refine lv_lstore (lv' := [(6, .long ((lN ((10 - p9) ^ (sRk fl σ μ (sCm σ μ ld) k))) * (lN (10 - p9)))), (11, .int 1), (0, .ref o), (1, .int (nI μ)), (2, .int (nI ld)), (3, .int (nI p9)), (4, .int (nI q)), (5, .int (nI (sCm σ μ ld))), (8, .long (lN (10 ^ (sRk fl σ μ (sCm σ μ ld) k)))), (10, .int (nI k))]) X.1 X.2.1 dX12_odds_99 hl (by decide) rfl (fun ls hl => ?_)
                refine lv_lload X.1 X.2.1 dX12_odds_101 (lv_at hl 8 rfl) ?_
                refine lv_iload X.1 X.2.1 dX12_odds_103 (lv_at hl 1 rfl) ?_
                refine lv_if_eq (tgt := 114) X.1 X.2.1 dX12_odds_105 (by decide) (fun c105 => ?_) (fun c105 => ?_)
                · exact absurd c105 (by decide)
                · have n105 : ¬ 1 = 0 := gq_ne c105 (show (1 : Int32) = nI 1 from rfl) (show (0 : Int32) = nI 0 from rfl) (by omega) (by omega)
                  refine lv_ldc2 (v := (10)) X.1 X.2.1 X.2.2.2.1 (X.2.2.2.2 (.constantLong RX12 243 (10)) (by decide +kernel)) dX12_odds_108 ?_
                  refine lv_goto (tgt := 115) X.1 X.2.1 dX12_odds_111 (by decide) ?_
                  refine lv_lmul X.1 X.2.1 dX12_odds_115 ?_
                  refine lv_lstore (lv' := [(8, .long ((lN (10 ^ (sRk fl σ μ (sCm σ μ ld) k))) * (10))), (6, .long ((lN ((10 - p9) ^ (sRk fl σ μ (sCm σ μ ld) k))) * (lN (10 - p9)))), (11, .int 1), (0, .ref o), (1, .int (nI μ)), (2, .int (nI ld)), (3, .int (nI p9)), (4, .int (nI q)), (5, .int (nI (sCm σ μ ld))), (10, .int (nI k))]) X.1 X.2.1 dX12_odds_116 hl (by decide) rfl (fun ls hl => ?_)
                  refine lv_iinc (v := nI (k + 1)) (lv' := [(10, .int (nI (k + 1))), (8, .long ((lN (10 ^ (sRk fl σ μ (sCm σ μ ld) k))) * (10))), (6, .long ((lN ((10 - p9) ^ (sRk fl σ μ (sCm σ μ ld) k))) * (lN (10 - p9)))), (11, .int 1), (0, .ref o), (1, .int (nI μ)), (2, .int (nI ld)), (3, .int (nI p9)), (4, .int (nI q)), (5, .int (nI (sCm σ μ ld)))]) X.1 X.2.1 dX12_odds_118 hl (k := 9) rfl (gn_inc (Eq.refl (nI k)) 1) (by decide) rfl (fun ls hl => ?_)
                  refine lv_goto (tgt := 56) X.1 X.2.1 dX12_odds_121 (by decide) ?_
                  have hr9 : sRk fl σ μ (sCm σ μ ld) (k + 1) = sRk fl σ μ (sCm σ μ ld) k + 1 := by show sRk fl σ μ (sCm σ μ ld) k + (if 0 < sLs fl σ μ k (sCm σ μ ld) then 1 else 0) = _; rw [if_pos (by omega)]
                  have hv6 : (lN ((10 - p9) ^ (sRk fl σ μ (sCm σ μ ld) k))) * (lN (10 - p9)) = lN ((10 - p9) ^ sRk fl σ μ (sCm σ μ ld) (k + 1)) := ((gl_mul (Eq.refl (lN ((10 - p9) ^ (sRk fl σ μ (sCm σ μ ld) k)))) (Eq.refl (lN (10 - p9))))).trans (congrArg lN (by rw [hr9]; exact (Nat.pow_succ _ _).symm))
                  have hv8 : (lN (10 ^ (sRk fl σ μ (sCm σ μ ld) k))) * (10) = lN (10 ^ sRk fl σ μ (sCm σ μ ld) (k + 1)) := ((gl_mul (Eq.refl (lN (10 ^ (sRk fl σ μ (sCm σ μ ld) k)))) (show (10 : Int64) = lN 10 from rfl))).trans (congrArg lN (by rw [hr9]; exact (Nat.pow_succ _ _).symm))
                  have hqN : mSame qS N N1 := fun b i h => hkN1 b i (fun q => h (by unfold lS at q; unfold qS; omega))
                  exact ih _ _ _ _ (by omega) ⟨τN1, μ, inv_q hvN hqN hcaN1, by omega, by omega, fun b i h => (hqN b i h).trans (hqs b i h), by rw [← hv6, ← hv8]; exact lv_sub hl [4, 5, 6, 7, 8, 9, 2, 1, 0] rfl⟩ hP hS
        · exact absurd (g_le (a := 0) (b := 1) (x := 0) (y := 1) rfl rfl (by omega) (by omega) (by omega)) (gt_0 c32)

end MX9
