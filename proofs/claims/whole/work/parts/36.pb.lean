section PB
variable {l : Launch} {s0 : State} {D : va_G} {cy : Nat → ClassId} {B z : Nat} {T : Nat → Nat × Nat} {I : Nat → Nat → Int32} {R : Nat → Nat → Option Nat} {w b μ : Nat} {σ : Nat → Nat} {K : Nat}
set_option maxHeartbeats 4000000 in
set_option maxRecDepth 100000 in
/-- d_find -/
theorem d_find (hW : cWk w T R) (h38 : I w 5 = nI (σ 38)) (h4 : σ 38 ≤ 4) (hμ : μ < σ 38) (hb : R (w + 5) μ = some b) : Met l yX10_find wsX10_find ({ frames := 0, cells := 0, slots := 0, locals := 0 }) (va_Pc [.ref w, .int (nI μ)] (gW0 s0 D cy B (z, T, I, R))) (va_Qq (fun r u => r = some b ∧ (z, T, I, R) = u) (fun u t => gW1 D cy B u t) (gA B)) 0 0 (gA B) := by
  refine g_met (maxL := 2) (ret := (some (.object "BarrowPlank$Man"))) (by decide) rfl (Nat.le_of_ble_eq_true rfl) (fun p e s m args below meth c ls X hr hlk hnm hK hP hC hS hl => ?_)
  have hl : lv_has ls 2 [(0, .ref w), (1, .int (nI μ))] := hl
  have hP : gP D cy B z T I R s.heap := hP
  have hB : B ≤ s.heap.size := by rw [hP.1]; exact hP.2.1
  have hinRX10 : ∀ w ∈ wsX100, w ∈ wsX10_find := fun _ h => List.mem_cons_of_mem _ (List.mem_append_right _ h)
  have k18 : Cond.fieldLink RX10 18 "BarrowPlank$Works" "men" "[LBarrowPlank$Man;" ∈ wsX10_find := by decide +kernel
  have k53 : Cond.fieldLink RX10 53 "BarrowPlank$Works" "crew" "I" ∈ wsX10_find := by decide +kernel
  have hμ4 : μ < 4 := by omega
  refine lv_iload_n X.1 X.2.1 dX10_find_0 rfl (lv_at hl 1 rfl) ?_
  refine lv_if_lt (tgt := 17) X.1 X.2.1 dX10_find_1 (by decide) (fun c1 => ?_) (fun c1 => ?_)
  · exact absurd c1 (nI_pos (by omega))
  · have n1 : 0 ≤ μ := gq_nlt c1 (Eq.refl (nI μ)) (show (0 : Int32) = nI 0 from rfl) (by omega) (by omega)
    refine lv_iload_n X.1 X.2.1 dX10_find_4 rfl (lv_at hl 1 rfl) ?_
    refine lv_aload_n X.1 X.2.1 dX10_find_5 rfl (lv_at hl 0 rfl) ?_
    refine g_geti 12 5 X hK hP hW.t0 rfl hinRX10 rfl (by decide) k53 (fun _ h => h) dX10_find_6 (show I w 5 = nI (σ 38) from h38) ?_
    refine lv_icmp_ge (tgt := 17) X.1 X.2.1 dX10_find_9 (by decide) (fun c9 => ?_) (fun c9 => ?_)
    · exact absurd (gq_le c9 (Eq.refl (nI (σ 38))) (Eq.refl (nI μ)) (by omega) (by omega)) (by omega)
    · have n9 : μ < (σ 38) := gq_nle c9 (Eq.refl (nI (σ 38))) (Eq.refl (nI μ)) (by omega) (by omega)
      refine lv_iload_n X.1 X.2.1 dX10_find_12 rfl (lv_at hl 1 rfl) ?_
      refine lv_iconst (v := 4) X.1 X.2.1 dX10_find_13 (by decide) ?_
      refine lv_icmp_lt (tgt := 21) X.1 X.2.1 dX10_find_14 (by decide) (fun c14 => ?_) (fun c14 => ?_)
      · have n14 : μ < 4 := gq_lt c14 (Eq.refl (nI μ)) (show (4 : Int32) = nI 4 from rfl) (by omega) (by omega)
        refine lv_aload_n X.1 X.2.1 dX10_find_21 rfl (lv_at hl 0 rfl) ?_
        refine g_getr 12 1 X hK hP hW.t0 rfl hinRX10 rfl (by decide) k18 (fun _ h => h) dX10_find_22 (show va_rf (R w 1) = .ref (w + 5) from by rw [(show R w 1 = some (w + 5) from hW.r 1 rfl)]; rfl) ?_
        refine lv_iload_n X.1 X.2.1 dX10_find_25 rfl (lv_at hl 1 rfl) ?_
        refine g_maald μ X hK hP (hW.t 5 rfl) (gIx_of (Eq.refl (nI μ)) (by omega) (by omega)) dX10_find_26 (show va_rf (R (w + 5) μ) = .ref b from by rw [hb]; rfl) ?_
        exact g_aret (f := fun u => u) (some b) (z, T, I, R) X hr (Or.inl ⟨_, rfl⟩) hlk hK hP hS dX10_find_27 rfl ⟨rfl, rfl⟩
      · exact absurd (nI_lt hμ4 (by omega)) c14

theorem fnd_le {x : Int32} {n : Nat} (hn : n ≤ 4) (h : x < nI n) : x ≤ nI n - 1 := by
  rw [Int32.lt_iff_toInt_lt, nI_toInt (by omega)] at h
  rw [Int32.le_iff_toInt_le, Int32.toInt_sub, nI_toInt (by omega), Int.bmod_def]
  have h1 : (1 : Int32).toInt = 1 := by decide
  have h2 : -2147483648 ≤ x.toInt := Int32.le_toInt x
  rw [h1]
  omega
set_option maxHeartbeats 4000000 in
set_option maxRecDepth 100000 in
/-- d_find_n -/
theorem d_find_n (hW : cWk w T R) (h38 : I w 5 = nI (σ 38)) (h4 : σ 38 ≤ 4) {x : Int32} (hno : ¬ (0 ≤ x ∧ x ≤ nI (σ 38) - 1)) : Met l yX10_find wsX10_find ({ frames := 0, cells := 0, slots := 0, locals := 0 }) (va_Pc [.ref w, .int x] (gW0 s0 D cy B (z, T, I, R))) (va_Qq (fun r u => r = none ∧ (z, T, I, R) = u) (fun u t => gW1 D cy B u t) (gA B)) 0 0 (gA B) := by
  refine g_met (maxL := 2) (ret := (some (.object "BarrowPlank$Man"))) (by decide) rfl (Nat.le_of_ble_eq_true rfl) (fun p e s m args below meth c ls X hr hlk hnm hK hP hC hS hl => ?_)
  have hl : lv_has ls 2 [(0, .ref w), (1, .int x)] := hl
  have hP : gP D cy B z T I R s.heap := hP
  have hB : B ≤ s.heap.size := by rw [hP.1]; exact hP.2.1
  have hinRX10 : ∀ w ∈ wsX100, w ∈ wsX10_find := fun _ h => List.mem_cons_of_mem _ (List.mem_append_right _ h)
  have k18 : Cond.fieldLink RX10 18 "BarrowPlank$Works" "men" "[LBarrowPlank$Man;" ∈ wsX10_find := by decide +kernel
  have k53 : Cond.fieldLink RX10 53 "BarrowPlank$Works" "crew" "I" ∈ wsX10_find := by decide +kernel
  refine lv_iload_n X.1 X.2.1 dX10_find_0 rfl (lv_at hl 1 rfl) ?_
  refine lv_if_lt (tgt := 17) X.1 X.2.1 dX10_find_1 (by decide) (fun c1 => ?_) (fun c1 => ?_)
  · refine lv_null X.1 X.2.1 dX10_find_17 ?_
    refine lv_goto (tgt := 27) X.1 X.2.1 dX10_find_18 (by decide) ?_
    exact g_aret (f := fun u => u) none (z, T, I, R) X hr (Or.inl ⟨_, rfl⟩) hlk hK hP hS dX10_find_27 rfl ⟨rfl, rfl⟩
  · refine lv_iload_n X.1 X.2.1 dX10_find_4 rfl (lv_at hl 1 rfl) ?_
    refine lv_aload_n X.1 X.2.1 dX10_find_5 rfl (lv_at hl 0 rfl) ?_
    refine g_geti 12 5 X hK hP hW.t0 rfl hinRX10 rfl (by decide) k53 (fun _ h => h) dX10_find_6 (show I w 5 = nI (σ 38) from h38) ?_
    refine lv_icmp_ge (tgt := 17) X.1 X.2.1 dX10_find_9 (by decide) (fun c9 => ?_) (fun c9 => ?_)
    · refine lv_null X.1 X.2.1 dX10_find_17 ?_
      refine lv_goto (tgt := 27) X.1 X.2.1 dX10_find_18 (by decide) ?_
      exact g_aret (f := fun u => u) none (z, T, I, R) X hr (Or.inl ⟨_, rfl⟩) hlk hK hP hS dX10_find_27 rfl ⟨rfl, rfl⟩
    · refine lv_iload_n X.1 X.2.1 dX10_find_12 rfl (lv_at hl 1 rfl) ?_
      refine lv_iconst (v := 4) X.1 X.2.1 dX10_find_13 (by decide) ?_
      refine lv_icmp_lt (tgt := 21) X.1 X.2.1 dX10_find_14 (by decide) (fun c14 => ?_) (fun c14 => ?_)
      · exact absurd ⟨Int32.not_lt.mp c1, fnd_le (by omega) (Int32.not_le.mp c9)⟩ hno
      · refine lv_null X.1 X.2.1 dX10_find_17 ?_
        refine lv_goto (tgt := 27) X.1 X.2.1 dX10_find_18 (by decide) ?_
        exact g_aret (f := fun u => u) none (z, T, I, R) X hr (Or.inl ⟨_, rfl⟩) hlk hK hP hS dX10_find_27 rfl ⟨rfl, rfl⟩

/-- the Trips from k on are known or not, the rest is I's -/
def iFg (w : Nat) (I : Nat → Nat → Int32) (n : Nat) : Nat → Nat → Int32 := fun a j => if j = 0 ∧ w + 11 ≤ a ∧ a < w + 11 + n then 0 else I a j
theorem iFg_0 : iFg w I 0 = I := by
  funext a j
  unfold iFg
  rw [if_neg (by omega)]
theorem iFg_s {k : Nat} : g2 (iFg w I k) (w + 11 + k) 0 0 = iFg w I (k + 1) := by
  funext a j
  unfold iFg g2
  dsimp only
  by_cases h : a = w + 11 + k ∧ j = 0
  · rw [if_pos h, if_pos (by omega)]
  · rw [if_neg h]
    by_cases h2 : j = 0 ∧ w + 11 ≤ a ∧ a < w + 11 + k
    · rw [if_pos h2, if_pos (by omega)]
    · rw [if_neg h2, if_neg (by omega)]
theorem iFg_r {n a j : Nat} (h : ¬ (j = 0 ∧ w + 11 ≤ a ∧ a < w + 11 + n)) : iFg w I n a j = I a j := by
  unfold iFg
  rw [if_neg h]
theorem iFg_k {n a : Nat} (h1 : w + 11 ≤ a) (h2 : a < w + 11 + n) : iFg w I n a 0 = 0 := by
  unfold iFg
  rw [if_pos ⟨rfl, h1, h2⟩]
section GLc
variable {p : Program} {e : Env} {Rm : Room} {s : State} {m : MethodId} {args : Array Value} {below : List Frame} {meth : Method} {c : Code} {H : Heap} {locs : List Loc} {cells slots : Nat} {Q : State → Prop} {ls : Array Slot} {H0 : Heap}
/-- a loop of at most N turns over I -/
theorem i_loop (N head : Nat) (st : List Value) (Inv : Nat → (Nat → Nat → Int32) → Array Slot → Prop) (k0 : Nat) (h0 : k0 ≤ N) (hi : Inv k0 I ls) (hP : gP D cy B z T I R H) (hS : va_S (gA B) H0 H locs)
    (step : ∀ (k : Nat) (I : Nat → Nat → Int32) (H : Heap) (locs : List Loc) (ls : Array Slot), k ≤ N → Inv k I ls → gP D cy B z T I R H → va_S (gA B) H0 H locs →
      (∀ (I' : Nat → Nat → Int32) (H' : Heap) (locs' : List Loc) (ls' : Array Slot), k + 1 ≤ N → Inv (k + 1) I' ls' → gP D cy B z T I' R H' → va_S (gA B) H0 H' locs' → W p l e Rm s m args below meth c H' locs' cells slots Q (F0 m head ls' st)) →
      W p l e Rm s m args below meth c H locs cells slots Q (F0 m head ls st)) : W p l e Rm s m args below meth c H locs cells slots Q (F0 m head ls st) := by
  have main : ∀ (d k : Nat) (I : Nat → Nat → Int32) (H : Heap) (locs : List Loc) (ls : Array Slot), k + d = N → Inv k I ls → gP D cy B z T I R H → va_S (gA B) H0 H locs → W p l e Rm s m args below meth c H locs cells slots Q (F0 m head ls st) := by
    intro d
    induction d with
    | zero =>
      intro k I H locs ls hk hi hP hS
      exact step k I H locs ls (by omega) hi hP hS (fun _ _ _ _ h => absurd h (by omega))
    | succ d ih =>
      intro k I H locs ls hk hi hP hS
      exact step k I H locs ls (by omega) hi hP hS (fun I' H' l' ls' h1 h2 h3 h4 => ih (k + 1) I' H' l' ls' (by omega) h2 h3 h4)
  exact main (N - k0) k0 I H locs ls (by omega) hi hP hS
end GLc

set_option maxHeartbeats 4000000 in
set_option maxRecDepth 100000 in
/-- d_forget -/
theorem d_forget (hW : cWk w T R) : Met l yX10_forget wsX10_forget ({ frames := 0, cells := 0, slots := 0, locals := 0 }) (va_Pc [.ref w] (gW0 s0 D cy B (z, T, I, R))) (va_Qv (fun u => u = (z, T, iFg w I 4, R)) (fun u t => gW1 D cy B u t) (gA B)) 0 0 (gA B) := by
  refine g_met (maxL := 2) (ret := none) (by decide) rfl (Nat.le_of_ble_eq_true rfl) (fun p e s m args below meth c ls X hr hlk hnm hK hP hC hS hl => ?_)
  have hl : lv_has ls 2 [(0, .ref w)] := hl
  have hP : gP D cy B z T I R s.heap := hP
  have hB : B ≤ s.heap.size := by rw [hP.1]; exact hP.2.1
  have hinRX10 : ∀ w ∈ wsX100, w ∈ wsX10_forget := fun _ h => List.mem_cons_of_mem _ (List.mem_append_left _ (List.mem_append_right _ h))
  have hinRX8 : ∀ w ∈ wsX80, w ∈ wsX10_forget := fun _ h => List.mem_cons_of_mem _ (List.mem_append_right _ h)
  have k39 : Cond.fieldLink RX10 39 "BarrowPlank$Works" "trips" "[LBarrowPlank$Trip;" ∈ wsX10_forget := by decide +kernel
  have k82 : Cond.fieldLink RX10 82 "BarrowPlank$Trip" "known" "Z" ∈ wsX10_forget := by decide +kernel
  refine lv_iconst (v := 0) X.1 X.2.1 dX10_forget_0 (by decide) ?_
  refine lv_istore_n (lv' := [(1, .int 0), (0, .ref w)]) X.1 X.2.1 dX10_forget_1 rfl hl (by decide) rfl (fun ls hl => ?_)
  refine i_loop (I := I) 4 2 [] (fun k Q9 ls => (Q9 = iFg w I k) ∧ lv_has ls 2 [(0, .ref w), (1, .int (nI k))]) 0 (by omega) ⟨iFg_0.symm, lv_sub hl [1, 0] rfl⟩ hP hS (fun k Q9 H locs ls hk hiv hP hS ih => ?_)
  obtain ⟨hq, hl⟩ := hiv
  refine lv_iload_n X.1 X.2.1 dX10_forget_2 rfl (lv_at hl 1 rfl) ?_
  refine lv_iconst (v := 4) X.1 X.2.1 dX10_forget_3 (by decide) ?_
  refine lv_icmp_ge (tgt := 23) X.1 X.2.1 dX10_forget_4 (by decide) (fun c4 => ?_) (fun c4 => ?_)
  · have n4 : 4 ≤ k := gq_le c4 (show (4 : Int32) = nI 4 from rfl) (Eq.refl (nI k)) (by omega) (by omega)
    exact g_vret (f := fun u => u) (z, T, Q9, R) X hr hlk hK hP hS dX10_forget_23 (by rw [hq, show k = 4 by omega])
  · have n4 : k < 4 := gq_nle c4 (show (4 : Int32) = nI 4 from rfl) (Eq.refl (nI k)) (by omega) (by omega)
    refine lv_aload_n X.1 X.2.1 dX10_forget_7 rfl (lv_at hl 0 rfl) ?_
    refine g_getr 12 14 X hK hP hW.t0 rfl hinRX10 rfl (by decide) k39 (fun _ h => h) dX10_forget_8 (show va_rf (R w 14) = .ref (w + 9) from by rw [(show R w 14 = some (w + 9) from hW.r 5 rfl)]; rfl) ?_
    refine lv_iload_n X.1 X.2.1 dX10_forget_11 rfl (lv_at hl 1 rfl) ?_
    refine g_taald k X hK hP (hW.t 9 rfl) (gIx_of (Eq.refl (nI k)) (by omega) (by omega)) dX10_forget_12 (show va_rf (R (w + 9) k) = .ref (w + 11 + k) from by rw [(hW.trip (μ := k) (by omega))]; rfl) ?_
    refine lv_iconst (v := 0) X.1 X.2.1 dX10_forget_13 (by decide) ?_
    refine g_puti 10 0 X hK hP hS (hW.tript (by omega)) rfl hinRX8 tyX8 tyX8_ok nmX8 rfl (by decide) k82 (fun _ h => h) rfl rfl rfl dX10_forget_14 (fun H locs hP hS => ?_)
    generalize eI1 : g2 Q9 (w + 11 + k) 0 0 = I1 at hP
    refine lv_iinc (v := nI (k + 1)) (lv' := [(1, .int (nI (k + 1))), (0, .ref w)]) X.1 X.2.1 dX10_forget_17 hl (k := 1) rfl (gn_inc (Eq.refl (nI k)) 1) (by decide) rfl (fun ls hl => ?_)
    refine lv_goto (tgt := 2) X.1 X.2.1 dX10_forget_20 (by decide) ?_
    exact ih _ _ _ _ (by omega) ⟨(by rw [← eI1, hq]; exact iFg_s), lv_sub hl [1, 0] rfl⟩ hP hS

def cF (w : Nat) (I : Nat → Nat → Int32) (f : Nat → Nat) : Prop := ∀ j, j < 6 → I (w + 10) j = nI (f j)
theorem j6 {j : Nat} (h : j < 6) : j = 0 ∨ j = 1 ∨ j = 2 ∨ j = 3 ∨ j = 4 ∨ j = 5 := by omega
set_option maxHeartbeats 4000000 in
set_option maxRecDepth 100000 in
/-- d_look -/
theorem d_look (hW : cWk w T R) (hA : cA w I σ) (hm : cMn T I σ μ b) (hob : oW w b) (h6 : σ (44 + μ) ≤ 6) {y q : Nat} (hy : y < 10) : Met l yX10_look wsX10_look ({ frames := 0, cells := 0, slots := 0, locals := 0 }) (va_Pc [.ref w, .ref b, .int (nI y), .int (nI q)] (gW0 s0 D cy B (z, T, I, R))) (va_Qv (fun u => ∃ I', u = (z, T, I', R) ∧ cF w I' (fF σ μ y q) ∧ ∀ a j, ¬ a = w + 10 → I' a j = I a j) (fun u t => gW1 D cy B u t) (gA B)) 0 0 (gA B) := by
  refine g_met (maxL := 4) (ret := none) (by decide) rfl (Nat.le_of_ble_eq_true rfl) (fun p e s m args below meth c ls X hr hlk hnm hK hP hC hS hl => ?_)
  have hl : lv_has ls 4 [(0, .ref w), (1, .ref b), (2, .int (nI y)), (3, .int (nI q))] := hl
  have hP : gP D cy B z T I R s.heap := hP
  have hB : B ≤ s.heap.size := by rw [hP.1]; exact hP.2.1
  have hinRX10 : ∀ w ∈ wsX100, w ∈ wsX10_look := fun _ h => List.mem_cons_of_mem _ (List.mem_append_left _ (List.mem_append_left _ (List.mem_append_left _ (List.mem_append_left _ (List.mem_append_left _ (List.mem_append_left _ (List.mem_append_left _ (List.mem_append_right _ h))))))))
  have hin7 : ∀ κ, κ ≤ 6 → ∀ w ∈ mws κ, w ∈ wsX10_look := fun κ hκ => by
    rcases k7 hκ with rfl | rfl | rfl | rfl | rfl | rfl | rfl
    · exact fun _ h => List.mem_cons_of_mem _ (List.mem_append_left _ (List.mem_append_left _ (List.mem_append_left _ (List.mem_append_left _ (List.mem_append_right _ h)))))
    · exact fun _ h => List.mem_cons_of_mem _ (List.mem_append_left _ (List.mem_append_left _ (List.mem_append_left _ (List.mem_append_left _ (List.mem_append_left _ (List.mem_append_left _ (List.mem_append_right _ h)))))))
    · exact fun _ h => List.mem_cons_of_mem _ (List.mem_append_right _ h)
    · exact fun _ h => List.mem_cons_of_mem _ (List.mem_append_left _ (List.mem_append_left _ (List.mem_append_right _ h)))
    · exact fun _ h => List.mem_cons_of_mem _ (List.mem_append_left _ (List.mem_append_left _ (List.mem_append_left _ (List.mem_append_left _ (List.mem_append_left _ (List.mem_append_right _ h))))))
    · exact fun _ h => List.mem_cons_of_mem _ (List.mem_append_left _ (List.mem_append_right _ h))
    · exact fun _ h => List.mem_cons_of_mem _ (List.mem_append_left _ (List.mem_append_left _ (List.mem_append_left _ (List.mem_append_right _ h))))
  have k11 : Cond.fieldLink RX10 11 "BarrowPlank$Works" "yards" "[[I" ∈ wsX10_look := by decide +kernel
  have k45 : Cond.fieldLink RX10 45 "BarrowPlank$Works" "facts" "[I" ∈ wsX10_look := by decide +kernel
  have k182 : Cond.fieldLink RX10 182 "BarrowPlank$Man" "kind" "I" ∈ wsX10_look := by decide +kernel
  have hk6 : σ (44 + μ) ≤ 6 := h6
  unfold oW at hob
  refine lv_aload_n X.1 X.2.1 dX10_look_0 rfl (lv_at hl 0 rfl) ?_
  refine g_getr 12 15 X hK hP hW.t0 rfl hinRX10 rfl (by decide) k45 (fun _ h => h) dX10_look_1 (show va_rf (R w 15) = .ref (w + 10) from by rw [(show R w 15 = some (w + 10) from hW.r 6 rfl)]; rfl) ?_
  refine lv_iconst (v := 0) X.1 X.2.1 dX10_look_4 (by decide) ?_
  refine lv_iload_n X.1 X.2.1 dX10_look_5 rfl (lv_at hl 2 rfl) ?_
  refine g_iast 0 X hK hP hS (hW.t 10 rfl) (gIx_of (show (0 : Int32) = nI 0 from rfl) (by omega) (by omega)) dX10_look_6 (fun H locs hP hS => ?_)
  generalize eI1 : g2 I (w + 10) 0 (nI y) = I1 at hP
  refine lv_aload_n X.1 X.2.1 dX10_look_7 rfl (lv_at hl 0 rfl) ?_
  refine g_getr 12 15 X hK hP hW.t0 rfl hinRX10 rfl (by decide) k45 (fun _ h => h) dX10_look_8 (show va_rf (R w 15) = .ref (w + 10) from by rw [(show R w 15 = some (w + 10) from hW.r 6 rfl)]; rfl) ?_
  refine lv_iconst (v := 1) X.1 X.2.1 dX10_look_11 (by decide) ?_
  refine lv_aload_n X.1 X.2.1 dX10_look_12 rfl (lv_at hl 0 rfl) ?_
  refine g_getr 12 0 X hK hP hW.t0 rfl hinRX10 rfl (by decide) k11 (fun _ h => h) dX10_look_13 (show va_rf (R w 0) = .ref (w + 1) from by rw [(show R w 0 = some (w + 1) from hW.r 0 rfl)]; rfl) ?_
  refine lv_iconst (v := 0) X.1 X.2.1 dX10_look_16 (by decide) ?_
  refine g_2aald 0 X hK hP (hW.t 1 rfl) (gIx_of (show (0 : Int32) = nI 0 from rfl) (by omega) (by omega)) dX10_look_17 (show va_rf (R (w + 1) 0) = .ref (w + 2) from by rw [(hW.r 7 rfl)]; rfl) ?_
  refine lv_iload_n X.1 X.2.1 dX10_look_18 rfl (lv_at hl 2 rfl) ?_
  refine g_iald y X hK hP (hW.t 2 rfl) (gIx_of (Eq.refl (nI y)) (by omega) (by omega)) dX10_look_19 (show I1 (w + 2) y = nI (σ (8 + y)) from (gs_ne eI1 (by omega) (hA.s (y := y) (by omega)))) ?_
  refine g_iast 1 X hK hP hS (hW.t 10 rfl) (gIx_of (show (1 : Int32) = nI 1 from rfl) (by omega) (by omega)) dX10_look_20 (fun H locs hP hS => ?_)
  generalize eI2 : g2 I1 (w + 10) 1 (nI (σ (8 + y))) = I2 at hP
  refine lv_aload_n X.1 X.2.1 dX10_look_21 rfl (lv_at hl 0 rfl) ?_
  refine g_getr 12 15 X hK hP hW.t0 rfl hinRX10 rfl (by decide) k45 (fun _ h => h) dX10_look_22 (show va_rf (R w 15) = .ref (w + 10) from by rw [(show R w 15 = some (w + 10) from hW.r 6 rfl)]; rfl) ?_
  refine lv_iconst (v := 2) X.1 X.2.1 dX10_look_25 (by decide) ?_
  refine lv_aload_n X.1 X.2.1 dX10_look_26 rfl (lv_at hl 0 rfl) ?_
  refine g_getr 12 0 X hK hP hW.t0 rfl hinRX10 rfl (by decide) k11 (fun _ h => h) dX10_look_27 (show va_rf (R w 0) = .ref (w + 1) from by rw [(show R w 0 = some (w + 1) from hW.r 0 rfl)]; rfl) ?_
  refine lv_iconst (v := 1) X.1 X.2.1 dX10_look_30 (by decide) ?_
  refine g_2aald 1 X hK hP (hW.t 1 rfl) (gIx_of (show (1 : Int32) = nI 1 from rfl) (by omega) (by omega)) dX10_look_31 (show va_rf (R (w + 1) 1) = .ref (w + 3) from by rw [(hW.r 8 rfl)]; rfl) ?_
  refine lv_iload_n X.1 X.2.1 dX10_look_32 rfl (lv_at hl 2 rfl) ?_
  refine g_iald y X hK hP (hW.t 3 rfl) (gIx_of (Eq.refl (nI y)) (by omega) (by omega)) dX10_look_33 (show I2 (w + 3) y = nI (σ (18 + y)) from (gs_ne eI2 (by omega) (gs_ne eI1 (by omega) (hA.l (y := y) (by omega))))) ?_
  refine g_iast 2 X hK hP hS (hW.t 10 rfl) (gIx_of (show (2 : Int32) = nI 2 from rfl) (by omega) (by omega)) dX10_look_34 (fun H locs hP hS => ?_)
  generalize eI3 : g2 I2 (w + 10) 2 (nI (σ (18 + y))) = I3 at hP
  refine lv_aload_n X.1 X.2.1 dX10_look_35 rfl (lv_at hl 0 rfl) ?_
  refine g_getr 12 15 X hK hP hW.t0 rfl hinRX10 rfl (by decide) k45 (fun _ h => h) dX10_look_36 (show va_rf (R w 15) = .ref (w + 10) from by rw [(show R w 15 = some (w + 10) from hW.r 6 rfl)]; rfl) ?_
  refine lv_iconst (v := 3) X.1 X.2.1 dX10_look_39 (by decide) ?_
  refine lv_aload_n X.1 X.2.1 dX10_look_40 rfl (lv_at hl 0 rfl) ?_
  refine g_getr 12 0 X hK hP hW.t0 rfl hinRX10 rfl (by decide) k11 (fun _ h => h) dX10_look_41 (show va_rf (R w 0) = .ref (w + 1) from by rw [(show R w 0 = some (w + 1) from hW.r 0 rfl)]; rfl) ?_
  refine lv_iconst (v := 2) X.1 X.2.1 dX10_look_44 (by decide) ?_
  refine g_2aald 2 X hK hP (hW.t 1 rfl) (gIx_of (show (2 : Int32) = nI 2 from rfl) (by omega) (by omega)) dX10_look_45 (show va_rf (R (w + 1) 2) = .ref (w + 4) from by rw [(hW.r 9 rfl)]; rfl) ?_
  refine lv_iload_n X.1 X.2.1 dX10_look_46 rfl (lv_at hl 2 rfl) ?_
  refine g_iald y X hK hP (hW.t 4 rfl) (gIx_of (Eq.refl (nI y)) (by omega) (by omega)) dX10_look_47 (show I3 (w + 4) y = nI (σ (28 + y)) from (gs_ne eI3 (by omega) (gs_ne eI2 (by omega) (gs_ne eI1 (by omega) (hA.b (y := y) (by omega)))))) ?_
  refine g_iast 3 X hK hP hS (hW.t 10 rfl) (gIx_of (show (3 : Int32) = nI 3 from rfl) (by omega) (by omega)) dX10_look_48 (fun H locs hP hS => ?_)
  generalize eI4 : g2 I3 (w + 10) 3 (nI (σ (28 + y))) = I4 at hP
  refine lv_aload_n X.1 X.2.1 dX10_look_49 rfl (lv_at hl 0 rfl) ?_
  refine g_getr 12 15 X hK hP hW.t0 rfl hinRX10 rfl (by decide) k45 (fun _ h => h) dX10_look_50 (show va_rf (R w 15) = .ref (w + 10) from by rw [(show R w 15 = some (w + 10) from hW.r 6 rfl)]; rfl) ?_
  refine lv_iconst (v := 4) X.1 X.2.1 dX10_look_53 (by decide) ?_
  refine lv_iload_n X.1 X.2.1 dX10_look_54 rfl (lv_at hl 3 rfl) ?_
  refine g_iast 4 X hK hP hS (hW.t 10 rfl) (gIx_of (show (4 : Int32) = nI 4 from rfl) (by omega) (by omega)) dX10_look_55 (fun H locs hP hS => ?_)
  generalize eI5 : g2 I4 (w + 10) 4 (nI q) = I5 at hP
  refine lv_aload_n X.1 X.2.1 dX10_look_56 rfl (lv_at hl 0 rfl) ?_
  refine g_getr 12 15 X hK hP hW.t0 rfl hinRX10 rfl (by decide) k45 (fun _ h => h) dX10_look_57 (show va_rf (R w 15) = .ref (w + 10) from by rw [(show R w 15 = some (w + 10) from hW.r 6 rfl)]; rfl) ?_
  refine lv_iconst (v := 5) X.1 X.2.1 dX10_look_60 (by decide) ?_
  refine lv_aload_n X.1 X.2.1 dX10_look_61 rfl (lv_at hl 1 rfl) ?_
  refine g_mget 0 (by decide) hk6 X hK hP hm.1 (hin7 _ hk6) k182 (fun _ h => h) dX10_look_62 (show I5 b 0 = nI (σ (44 + μ)) from (gs_ne eI5 (by omega) (gs_ne eI4 (by omega) (gs_ne eI3 (by omega) (gs_ne eI2 (by omega) (gs_ne eI1 (by omega) hm.2.1)))))) ?_
  refine g_iast 5 X hK hP hS (hW.t 10 rfl) (gIx_of (show (5 : Int32) = nI 5 from rfl) (by omega) (by omega)) dX10_look_65 (fun H locs hP hS => ?_)
  generalize eI6 : g2 I5 (w + 10) 5 (nI (σ (44 + μ))) = I6 at hP
  have hff : cF w I6 (fF σ μ y q) := fun j hj => by
    rcases j6 hj with rfl | rfl | rfl | rfl | rfl | rfl
    · exact ((gs_ne eI6 (by omega) (gs_ne eI5 (by omega) (gs_ne eI4 (by omega) (gs_ne eI3 (by omega) (gs_ne eI2 (by omega) (gs_same eI1))))))).trans (Eq.refl (nI y))
    · exact ((gs_ne eI6 (by omega) (gs_ne eI5 (by omega) (gs_ne eI4 (by omega) (gs_ne eI3 (by omega) (gs_same eI2)))))).trans (Eq.refl (nI (σ (8 + y))))
    · exact ((gs_ne eI6 (by omega) (gs_ne eI5 (by omega) (gs_ne eI4 (by omega) (gs_same eI3))))).trans (Eq.refl (nI (σ (18 + y))))
    · exact ((gs_ne eI6 (by omega) (gs_ne eI5 (by omega) (gs_same eI4)))).trans (Eq.refl (nI (σ (28 + y))))
    · exact ((gs_ne eI6 (by omega) (gs_same eI5))).trans (Eq.refl (nI q))
    · exact ((gs_same eI6)).trans (Eq.refl (nI (σ (44 + μ))))
  exact g_vret (f := fun u => u) (z, T, I6, R) X hr hlk hK hP hS dX10_look_66 ⟨I6, rfl, hff, fun a j h => (gs_ne eI6 (by omega) (gs_ne eI5 (by omega) (gs_ne eI4 (by omega) (gs_ne eI3 (by omega) (gs_ne eI2 (by omega) (gs_ne eI1 (by omega) rfl))))))⟩

end PB