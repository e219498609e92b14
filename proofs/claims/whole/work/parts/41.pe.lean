section PE
variable {l : Launch} {s0 : State} {D : va_G} {cy : Nat → ClassId} {B z : Nat} {T : Nat → Nat × Nat} {I : Nat → Nat → Int32} {R : Nat → Nat → Option Nat} {a fa kc ti sh : Nat} {cs : Cls} {pd : List Nat} {f : Nat → Nat}
def cmpI (x y : Int32) : Int32 := if x < y then -1 else if x = y then 0 else 1
theorem cmpI_nI {x y h : Nat} (hx : x < 2 ^ 31) (hy : y < 2 ^ 31) (hh : h < 3) : (cmpI (nI x) (nI y) = nI h - 1) ↔ (if h = 0 then x < y else if h = 1 then x = y else y < x) := by
  unfold cmpI
  by_cases h1 : x < y
  · rw [if_pos (nI_lt h1 hy)]
    rcases (show h = 0 ∨ h = 1 ∨ h = 2 by omega) with rfl | rfl | rfl
    · simp only [if_pos]; exact ⟨fun _ => h1, fun _ => by decide⟩
    · exact ⟨fun q => absurd q (by decide), fun q => absurd (show x = y from q) (by omega)⟩
    · exact ⟨fun q => absurd q (by decide), fun q => absurd (show y < x from q) (by omega)⟩
  · rw [if_neg (nI_nlt (by omega) hx)]
    by_cases h2 : x = y
    · rw [if_pos (by rw [h2])]
      rcases (show h = 0 ∨ h = 1 ∨ h = 2 by omega) with rfl | rfl | rfl
      · exact ⟨fun q => absurd q (by decide), fun q => absurd (show x < y from q) h1⟩
      · exact ⟨fun _ => h2, fun _ => by decide⟩
      · exact ⟨fun q => absurd q (by decide), fun q => absurd (show y < x from q) (by omega)⟩
    · rw [if_neg (fun q => h2 ((nI_eq hx hy).mp q))]
      rcases (show h = 0 ∨ h = 1 ∨ h = 2 by omega) with rfl | rfl | rfl
      · exact ⟨fun q => absurd q (by decide), fun q => absurd (show x < y from q) h1⟩
      · exact ⟨fun q => absurd q (by decide), fun q => absurd (show x = y from q) h2⟩
      · exact ⟨fun _ => show y < x by omega, fun _ => by decide⟩
theorem tTest_h {t : Nat} : (tTest f t = true) ↔ (if t / 8 % 4 = 0 then f (t % 8) < t / 32 else if t / 8 % 4 = 1 then f (t % 8) = t / 32 else t / 32 < f (t % 8)) := by
  unfold tTest
  by_cases h0 : t / 8 % 4 = 0
  · rw [if_pos h0, if_pos h0]; simp
  · rw [if_neg h0, if_neg h0]
    by_cases h1 : t / 8 % 4 = 1
    · rw [if_pos h1, if_pos h1]; simp
    · rw [if_neg h1, if_neg h1]; simp
theorem tSt_r {X : List Nat} (hX : ∀ t ∈ X, t ≤ 10002) (k : Nat) : tRun f (X.take k) ([], 0, 0, 0) = (tSt f (X.take k), 0, 0, 0) := Prod.ext rfl (tRun_c (fun t ht => hX t (List.mem_of_mem_take ht))).1
theorem tSt_s {X : List Nat} {k : Nat} (hX : ∀ t ∈ X, t ≤ 10002) (hk : k < X.length) : tSt f (X.take (k + 1)) = (tStep f (tSt f (X.take k), 0, 0, 0) (X.getD k 0)).1 := by
  conv => lhs; unfold tSt
  rw [tRun_s hk, tSt_r hX k]
theorem t4 {t m nn : Nat} {LL : List Nat} (ht : t ≤ 10002) (h : tOk m (t :: LL) nn) : (t < 3200 ∧ t % 8 < 6 ∧ t / 8 % 4 < 3) ∨ t = 10000 ∨ t = 10001 ∨ t = 10002 := by
  by_cases h1 : t < 10000
  · have h2 := tOk_A h h1
    exact Or.inl ⟨h2.2.2.1, h2.1, h2.2.1⟩
  · omega

set_option maxHeartbeats 4000000 in
set_option maxRecDepth 100000 in
/-- j_cmp -/
theorem j_cmp {x y : Int32} : Met l yJ6_compare_7cf53 wsJ6_compare_7cf53 ({ frames := 0, cells := 0, slots := 0, locals := 0 }) (va_Pc [.int x, .int y] (gW0 s0 D cy B (z, T, I, R))) (va_Qi (fun r u => r = cmpI x y ∧ (z, T, I, R) = u) (fun u t => gW1 D cy B u t) (gA B)) 0 0 (gA B) := by
  refine g_met (maxL := 2) (ret := (some .int)) (by decide) rfl (Nat.le_of_ble_eq_true rfl) (fun p e s m args below meth c ls X hr hlk hnm hK hP hC hS hl => ?_)
  have hl : lv_has ls 2 [(0, .int x), (1, .int y)] := hl
  have hP : gP D cy B z T I R s.heap := hP
  have hB : B ≤ s.heap.size := by rw [hP.1]; exact hP.2.1
  refine lv_iload_n X.1 X.2.1 dJ6_compare_7cf53_0 rfl (lv_at hl 0 rfl) ?_
  refine lv_iload_n X.1 X.2.1 dJ6_compare_7cf53_1 rfl (lv_at hl 1 rfl) ?_
  refine lv_icmp_ge (tgt := 9) X.1 X.2.1 dJ6_compare_7cf53_2 (by decide) (fun c2 => ?_) (fun c2 => ?_)
  · refine lv_iload_n X.1 X.2.1 dJ6_compare_7cf53_9 rfl (lv_at hl 0 rfl) ?_
    refine lv_iload_n X.1 X.2.1 dJ6_compare_7cf53_10 rfl (lv_at hl 1 rfl) ?_
    refine lv_icmp_ne (tgt := 18) X.1 X.2.1 dJ6_compare_7cf53_11 (by decide) (fun c11 => ?_) (fun c11 => ?_)
    · refine lv_iconst (v := 1) X.1 X.2.1 dJ6_compare_7cf53_18 (by decide) ?_
      exact g_iret (f := fun u => u) (z, T, I, R) X hr hlk hK hP hS dJ6_compare_7cf53_19 ⟨(by unfold cmpI; rw [if_neg (Int32.not_lt.mpr c2), if_neg c11]), rfl⟩
    · refine lv_iconst (v := 0) X.1 X.2.1 dJ6_compare_7cf53_14 (by decide) ?_
      refine lv_goto (tgt := 19) X.1 X.2.1 dJ6_compare_7cf53_15 (by decide) ?_
      exact g_iret (f := fun u => u) (z, T, I, R) X hr hlk hK hP hS dJ6_compare_7cf53_19 ⟨(by unfold cmpI; rw [if_neg (Int32.not_lt.mpr c2), if_pos c11]), rfl⟩
  · refine lv_iconst (v := (-1)) X.1 X.2.1 dJ6_compare_7cf53_5 (by decide) ?_
    refine lv_goto (tgt := 19) X.1 X.2.1 dJ6_compare_7cf53_6 (by decide) ?_
    exact g_iret (f := fun u => u) (z, T, I, R) X hr hlk hK hP hS dJ6_compare_7cf53_19 ⟨(by unfold cmpI; rw [if_pos (Int32.not_le.mp c2)]), rfl⟩

theorem getD_mem (h : kc < cs.length) : cs.getD kc ([], 0, 0) ∈ cs := by
  rw [List.getD_eq_getElem?_getD, List.getElem?_eq_getElem h]
  exact List.getElem_mem h
theorem getD_memN {X : List Nat} {k : Nat} (h : k < X.length) : X.getD k 0 ∈ X := by
  rw [List.getD_eq_getElem?_getD, List.getElem?_eq_getElem h]
  exact List.getElem_mem h
theorem coC_le {X : List Nat} (hk : kc < cs.length) (hX : (cs.getD kc ([], 0, 0)).1 = X) (h : (coC cs ++ pd).length ≤ 100) : (coC (cs.take kc)).length + X.length ≤ 100 := by
  have h1 : coC cs = coC (cs.take kc) ++ ((cs.getD kc ([], 0, 0)).1 ++ coC (cs.drop (kc + 1))) := by
    conv => lhs; rw [cls_split hk]
    rw [coC_app]
    rfl
  rw [h1, hX] at h
  simp only [List.length_append] at h
  omega
theorem gn_neg {x : Nat} {y : Int32} (hx : x < 2 ^ 31) (hy : y < 0) : ¬ nI x = y := fun h => by
  rw [← h] at hy
  exact nI_pos hx hy
theorem list_1 {st : List Bool} (h : 1 ≤ st.length) : ∃ b r, st = b :: r := by
  cases st with
  | nil => simp at h
  | cons b r => exact ⟨b, r, rfl⟩
theorem list_2 {st : List Bool} (h : 2 ≤ st.length) : ∃ a b r, st = a :: b :: r := by
  cases st with
  | nil => simp at h
  | cons a r => cases r with
    | nil => simp at h
    | cons b r => exact ⟨a, b, r, rfl⟩
theorem tst_y {t : Nat} (h1 : f (t % 8) < 2 ^ 30) (h2 : t / 32 < 2 ^ 31) (h3 : t / 8 % 4 < 3) (h : cmpI (nI (f (t % 8))) (nI (t / 32)) = nI (t / 8 % 4) - 1) : tTest f t = true := tTest_h.mpr ((cmpI_nI (by omega) h2 h3).mp h)
theorem tst_n {t : Nat} (h1 : f (t % 8) < 2 ^ 30) (h2 : t / 32 < 2 ^ 31) (h3 : t / 8 % 4 < 3) (h : ¬ cmpI (nI (f (t % 8))) (nI (t / 32)) = nI (t / 8 % 4) - 1) : tTest f t = false := by
  cases e : tTest f t with
  | false => rfl
  | true => exact absurd ((cmpI_nI (by omega) h2 h3).mpr (tTest_h.mp e)) h

set_option maxHeartbeats 4000000 in
set_option maxRecDepth 100000 in
/-- d_holds -/
theorem d_holds (hT : cSt a T R) (hsr : cSr a I cs pd) (hkc : kc < cs.length) (htf : T fa = (1, 6)) (hff : ∀ j, j < 6 → I fa j = nI (f j)) (hfs : ∀ j, f j < 2 ^ 30) {LL : List Nat} {b1 : Bool} (hb1 : tSt f (cs.getD kc ([], 0, 0)).1 = [b1]) (hok : tOk 20 ((cs.getD kc ([], 0, 0)).1 ++ LL) 0) : Met l yX4_holds wsX4_holds ({ frames := 1, cells := 0, slots := 0, locals := 21 }) (va_Pc [.ref a, .int (nI kc), .ref fa] (gW0 s0 D cy B (z, T, I, R))) (va_Qi (fun r u => r = bI b1 ∧ (z, T, I, R) = u) (fun u t => gW1 D cy B u t) (gA B)) 0 0 (gA B) := by
  refine g_met (maxL := 9) (ret := (some .boolean)) (by decide) rfl (Nat.le_of_ble_eq_true rfl) (fun p e s m args below meth c ls X hr hlk hnm hK hP hC hS hl => ?_)
  have hl : lv_has ls 9 [(0, .ref a), (1, .int (nI kc)), (2, .ref fa)] := hl
  have hP : gP D cy B z T I R s.heap := hP
  have hB : B ≤ s.heap.size := by rw [hP.1]; exact hP.2.1
  have hinRX4 : ∀ w ∈ wsX40, w ∈ wsX4_holds := fun _ h => List.mem_cons_of_mem _ (List.mem_append_right _ h)
  have k25 : Cond.fieldLink RX4 25 "BarrowPlank$Site" "ends" "[I" ∈ wsX4_holds := by decide +kernel
  have k28 : Cond.fieldLink RX4 28 "BarrowPlank$Site" "codes" "[I" ∈ wsX4_holds := by decide +kernel
  obtain ⟨hcl, hco⟩ : cs.length ≤ 10 ∧ (coC cs ++ pd).length ≤ 100 := ⟨hsr.1, hsr.2.1⟩
  generalize hX : (cs.getD kc ([], 0, 0)).1 = XL at hok
  have hXm : ∀ t ∈ XL, t ≤ 10002 := by rw [← hX]; exact (hsr.2.2.2.2.2.2.1 _ (getD_mem hkc)).2.2
  have hSe : (coC (cs.take (kc + 1))).length = (coC (cs.take kc)).length + XL.length := by rw [coC_take hkc, List.length_append, hX]
  have hSl : (coC (cs.take kc)).length + XL.length ≤ 100 := coC_le hkc hX hco
  have hat : ∀ i, i < XL.length → I (a + 4) ((coC (cs.take kc)).length + i) = encC (XL.getD i 0) := fun i hi => by have h9 := coC_at (pd := pd) hkc (show i < (cs.getD kc ([], 0, 0)).1.length by rw [hX]; exact hi); rw [hsr.2.2.2.2.2.1 _ h9.2, h9.1, hX]
  skip
  have hbl := bN_le b1
  refine lv_iconst (v := 0) X.1 X.2.1 dX4_holds_0 (by decide) ?_
  refine lv_istore_n (lv' := [(3, .int 0), (0, .ref a), (1, .int (nI kc)), (2, .ref fa)]) X.1 X.2.1 dX4_holds_1 rfl hl (by decide) rfl (fun ls hl => ?_)
  refine lv_iload_n X.1 X.2.1 dX4_holds_2 rfl (lv_at hl 2 rfl) ?_
  refine lv_if_ne (tgt := 10) X.1 X.2.1 dX4_holds_3 (by decide) (fun c3 => ?_) (fun c3 => ?_)
  · have n3 : ¬ kc = 0 := gq_ne c3 (Eq.refl (nI kc)) (show (0 : Int32) = nI 0 from rfl) (by omega) (by omega)
    refine lv_aload_n X.1 X.2.1 dX4_holds_10 rfl (lv_at hl 1 rfl) ?_
    refine g_getr 6 4 X hK hP hT.1 rfl hinRX4 rfl (by decide) k25 (fun _ h => h) dX4_holds_11 (show va_rf (R a 4) = .ref (a + 3) from by rw [hT.2.2.2.2.2.2.2.1]; rfl) ?_
    refine lv_iload_n X.1 X.2.1 dX4_holds_14 rfl (lv_at hl 2 rfl) ?_
    refine lv_iconst (v := 1) X.1 X.2.1 dX4_holds_15 (by decide) ?_
    refine lv_isub X.1 X.2.1 dX4_holds_16 ?_
    refine g_iald (kc - 1) X hK hP hT.2.2.2.1 (gIx_of (gn_sub (Eq.refl (nI kc)) (show (1 : Int32) = nI 1 from rfl) (by omega)) (by omega) (by omega)) dX4_holds_17 (show I (a + 3) (kc - 1) = nI ((coC (cs.take kc)).length) from (by have h9 := (hsr.2.2.2.2.1 (kc - 1) (by omega)).2.2; rw [show kc - 1 + 1 = kc by omega] at h9; exact h9)) ?_
    refine lv_istore (lv' := [(4, .int (nI ((coC (cs.take kc)).length))), (3, .int 0), (0, .ref a), (1, .int (nI kc)), (2, .ref fa)]) X.1 X.2.1 dX4_holds_18 hl (by decide) rfl (fun ls hl => ?_)
    refine i_loop (I := I) XL.length 20 [] (fun k Q9 ls => (I = Q9 ∧ tOk 20 (XL.drop k ++ LL) (tSt f (XL.take k)).length ∧ (tSt f (XL.take k)).length ≤ 20) ∧ lv_has ls 9 [(0, .ref a), (1, .int (nI kc)), (2, .ref fa), (3, .int (nI (bv (tSt f (XL.take k))))), (4, .int (nI ((coC (cs.take kc)).length + k)))]) 0 (by omega) ⟨⟨rfl, hok, Nat.zero_le _⟩, lv_sub hl [2, 3, 4, 1, 0] rfl⟩ hP hS (fun k Q9 H locs ls hk hiv hP hS ih => ?_)
    obtain ⟨⟨rfl, hq, hlen⟩, hl⟩ := hiv
    refine lv_iload X.1 X.2.1 dX4_holds_20 (lv_at hl 4 rfl) ?_
    refine lv_aload_n X.1 X.2.1 dX4_holds_22 rfl (lv_at hl 0 rfl) ?_
    refine g_getr 6 4 X hK hP hT.1 rfl hinRX4 rfl (by decide) k25 (fun _ h => h) dX4_holds_23 (show va_rf (R a 4) = .ref (a + 3) from by rw [hT.2.2.2.2.2.2.2.1]; rfl) ?_
    refine lv_iload_n X.1 X.2.1 dX4_holds_26 rfl (lv_at hl 1 rfl) ?_
    refine g_iald kc X hK hP hT.2.2.2.1 (gIx_of (Eq.refl (nI kc)) (by omega) (by omega)) dX4_holds_27 (show I (a + 3) kc = nI ((coC (cs.take (kc + 1))).length) from (hsr.2.2.2.2.1 kc hkc).2.2) ?_
    refine lv_icmp_ge (tgt := 145) X.1 X.2.1 dX4_holds_28 (by decide) (fun c28 => ?_) (fun c28 => ?_)
    · have n28 : (coC (cs.take (kc + 1))).length ≤ ((coC (cs.take kc)).length + k) := gq_le c28 (Eq.refl (nI ((coC (cs.take (kc + 1))).length))) (Eq.refl (nI ((coC (cs.take kc)).length + k))) (by omega) (by omega)
      obtain rfl : k = XL.length := by omega
      rw [List.drop_length, List.nil_append] at hq
      rw [List.take_length] at hl
      have hb1 : tSt f XL = [b1] := by rw [← hX]; exact hb1
      rw [hb1] at hl
      refine lv_iload_n X.1 X.2.1 dX4_holds_145 rfl (lv_at hl 3 rfl) ?_
      refine lv_iconst (v := 1) X.1 X.2.1 dX4_holds_146 (by decide) ?_
      refine lv_iand X.1 X.2.1 dX4_holds_147 ?_
      refine lv_cv (show nI (bv [b1]) &&& 1 = nI (bN b1) from bx_top b1 0 (by have := bN_le b1; omega)) ?_
      refine lv_iconst (v := 1) X.1 X.2.1 dX4_holds_148 (by decide) ?_
      refine lv_icmp_ne (tgt := 156) X.1 X.2.1 dX4_holds_149 (by decide) (fun c149 => ?_) (fun c149 => ?_)
      · have n149 : ¬ (bN b1) = 1 := gq_ne c149 (Eq.refl (nI (bN b1))) (show (1 : Int32) = nI 1 from rfl) (by omega) (by omega)
        refine lv_iconst (v := 0) X.1 X.2.1 dX4_holds_156 (by decide) ?_
        skip
        exact g_zret (f := fun u => u) (z, T, I, R) X hr hlk hK hP hS dX4_holds_157 rfl ⟨(by cases b1; (· rfl); exact absurd rfl n149), rfl⟩
      · have n149 : (bN b1) = 1 := gq_eq c149 (Eq.refl (nI (bN b1))) (show (1 : Int32) = nI 1 from rfl) (by omega) (by omega)
        refine lv_iconst (v := 1) X.1 X.2.1 dX4_holds_152 (by decide) ?_
        refine lv_goto (tgt := 157) X.1 X.2.1 dX4_holds_153 (by decide) ?_
        skip
        exact g_zret (f := fun u => u) (z, T, I, R) X hr hlk hK hP hS dX4_holds_157 rfl ⟨(by cases b1; (· exact absurd n149 (by decide)); rfl), rfl⟩
    · have n28 : ((coC (cs.take kc)).length + k) < (coC (cs.take (kc + 1))).length := gq_nle c28 (Eq.refl (nI ((coC (cs.take (kc + 1))).length))) (Eq.refl (nI ((coC (cs.take kc)).length + k))) (by omega) (by omega)
      have hk9 : k < XL.length := by omega
      have ht9 : XL.getD k 0 ≤ 10002 := hXm _ (getD_memN hk9)
      have hq9 := hq
      rw [drop_c hk9] at hq9
      have hs9 := tSt_s (f := f) hXm hk9
      have hc9 := hat k hk9
      have hn9 := tOk_st (f := f) (y := (0, 0, 0)) ht9 hq9
      rw [← hs9] at hn9
      rcases t4 ht9 hq9 with ht | ht | ht | ht
      · have hle1 := (tOk_A hq9 (by omega)).2.2.2.1
        have hbv := bv_20 hlen
        generalize hte : XL.getD k 0 = t at *
        refine lv_aload_n X.1 X.2.1 dX4_holds_31 rfl (lv_at hl 0 rfl) ?_
        refine g_getr 6 5 X hK hP hT.1 rfl hinRX4 rfl (by decide) k28 (fun _ h => h) dX4_holds_32 (show va_rf (R a 5) = .ref (a + 4) from by rw [hT.2.2.2.2.2.2.2.2]; rfl) ?_
        refine lv_iload X.1 X.2.1 dX4_holds_35 (lv_at hl 4 rfl) ?_
        refine g_iald ((coC (cs.take kc)).length + k) X hK hP hT.2.2.2.2.1 (gIx_of (Eq.refl (nI ((coC (cs.take kc)).length + k))) (by omega) (by omega)) dX4_holds_37 (show I (a + 4) ((coC (cs.take kc)).length + k) = nI ((t % 8 * 3 + t / 8 % 4) * 100 + t / 32) from (hc9.trans (encC_t ht.1))) ?_
        refine lv_istore (lv' := [(5, .int (nI ((t % 8 * 3 + t / 8 % 4) * 100 + t / 32))), (0, .ref a), (1, .int (nI kc)), (2, .ref fa), (3, .int (nI (bv (tSt f (XL.take k))))), (4, .int (nI ((coC (cs.take kc)).length + k)))]) X.1 X.2.1 dX4_holds_38 hl (by decide) rfl (fun ls hl => ?_)
        refine lv_iload_n X.1 X.2.1 dX4_holds_40 rfl (lv_at hl 4 rfl) ?_
        refine lv_iconst (v := 1) X.1 X.2.1 dX4_holds_41 (by decide) ?_
        refine lv_iand X.1 X.2.1 dX4_holds_42 ?_
        refine lv_istore (lv' := [(6, .int ((nI (bv (tSt f (XL.take k)))) &&& 1)), (5, .int (nI ((t % 8 * 3 + t / 8 % 4) * 100 + t / 32))), (0, .ref a), (1, .int (nI kc)), (2, .ref fa), (3, .int (nI (bv (tSt f (XL.take k))))), (4, .int (nI ((coC (cs.take kc)).length + k)))]) X.1 X.2.1 dX4_holds_43 hl (by decide) rfl (fun ls hl => ?_)
        refine lv_iload X.1 X.2.1 dX4_holds_45 (lv_at hl 1 rfl) ?_
        refine lv_iconst (v := (-1)) X.1 X.2.1 dX4_holds_47 (by decide) ?_
        refine lv_icmp_ne (tgt := 58) X.1 X.2.1 dX4_holds_48 (by decide) (fun c48 => ?_) (fun c48 => ?_)
        · refine lv_iload X.1 X.2.1 dX4_holds_58 (lv_at hl 1 rfl) ?_
          refine lv_bipush (v := (-2)) X.1 X.2.1 dX4_holds_60 (by decide) ?_
          refine lv_icmp_ne (tgt := 78) X.1 X.2.1 dX4_holds_62 (by decide) (fun c62 => ?_) (fun c62 => ?_)
          · refine lv_iload X.1 X.2.1 dX4_holds_78 (lv_at hl 1 rfl) ?_
            refine lv_bipush (v := (-3)) X.1 X.2.1 dX4_holds_80 (by decide) ?_
            refine lv_icmp_ne (tgt := 95) X.1 X.2.1 dX4_holds_82 (by decide) (fun c82 => ?_) (fun c82 => ?_)
            · refine lv_iload X.1 X.2.1 dX4_holds_95 (lv_at hl 1 rfl) ?_
              refine lv_bipush (v := 100) X.1 X.2.1 dX4_holds_97 (by decide) ?_
              refine lv_idiv X.1 X.2.1 dX4_holds_99 (by decide) ?_
              refine lv_cv (((gn_div (Eq.refl (nI ((t % 8 * 3 + t / 8 % 4) * 100 + t / 32))) (show (100 : Int32) = nI 100 from rfl) (by omega) (by omega) (by omega))).trans (congrArg nI (show _ = (t % 8 * 3 + t / 8 % 4) by omega))) ?_
              refine lv_istore (lv' := [(7, .int (nI (t % 8 * 3 + t / 8 % 4))), (6, .int ((nI (bv (tSt f (XL.take k)))) &&& 1)), (5, .int (nI ((t % 8 * 3 + t / 8 % 4) * 100 + t / 32))), (0, .ref a), (1, .int (nI kc)), (2, .ref fa), (3, .int (nI (bv (tSt f (XL.take k))))), (4, .int (nI ((coC (cs.take kc)).length + k)))]) X.1 X.2.1 dX4_holds_100 hl (by decide) rfl (fun ls hl => ?_)
              refine lv_aload_n X.1 X.2.1 dX4_holds_102 rfl (lv_at hl 5 rfl) ?_
              refine lv_iload X.1 X.2.1 dX4_holds_103 (lv_at hl 0 rfl) ?_
              refine lv_iconst (v := 3) X.1 X.2.1 dX4_holds_105 (by decide) ?_
              refine lv_idiv X.1 X.2.1 dX4_holds_106 (by decide) ?_
              refine lv_cv (((gn_div (Eq.refl (nI (t % 8 * 3 + t / 8 % 4))) (show (3 : Int32) = nI 3 from rfl) (by omega) (by omega) (by omega))).trans (congrArg nI (show _ = t % 8 by omega))) ?_
              refine g_iald (t % 8) X hK hP htf (gIx_of (Eq.refl (nI (t % 8))) (by omega) (by omega)) dX4_holds_107 (show I fa (t % 8) = nI (f (t % 8)) from (hff (t % 8) (by omega))) ?_
              refine lv_iload X.1 X.2.1 dX4_holds_108 (lv_at hl 2 rfl) ?_
              refine lv_bipush (v := 100) X.1 X.2.1 dX4_holds_110 (by decide) ?_
              refine lv_irem X.1 X.2.1 dX4_holds_112 (by decide) ?_
              refine lv_cv (((gn_rem (Eq.refl (nI ((t % 8 * 3 + t / 8 % 4) * 100 + t / 32))) (show (100 : Int32) = nI 100 from rfl) (by omega) (by omega) (by omega))).trans (congrArg nI (show _ = t / 32 by omega))) ?_
              refine g_run_i (f := fun u => u) (g_runS [.int (nI (f (t % 8))), .int (nI (t / 32))] X hK hP hS hC hB (j_cmp) (va_cwS 2 X.2.2.2.2 gX4_holds_J6_compare_7cf53 rfl rfl rfl (by decide +kernel) ⟨Nat.le_of_ble_eq_true rfl, Nat.le_of_ble_eq_true rfl⟩) rfl hl.1 rfl (Nat.le_of_ble_eq_true rfl) dX4_holds_113 (by exact ⟨Nat.zero_le _, Nat.zero_le _⟩)) hS (fun r u H locs hq hP hS => ?_)
              obtain ⟨rfl, rfl⟩ := hq
              have hP : gP D cy B z T I R H := hP
              refine lv_istore (lv' := [(8, .int (cmpI (nI (f (t % 8))) (nI (t / 32)))), (7, .int (nI (t % 8 * 3 + t / 8 % 4))), (6, .int ((nI (bv (tSt f (XL.take k)))) &&& 1)), (5, .int (nI ((t % 8 * 3 + t / 8 % 4) * 100 + t / 32))), (0, .ref a), (1, .int (nI kc)), (2, .ref fa), (3, .int (nI (bv (tSt f (XL.take k))))), (4, .int (nI ((coC (cs.take kc)).length + k)))]) X.1 X.2.1 dX4_holds_116 hl (by decide) rfl (fun ls hl => ?_)
              refine lv_iload_n X.1 X.2.1 dX4_holds_118 rfl (lv_at hl 7 rfl) ?_
              refine lv_iconst (v := 1) X.1 X.2.1 dX4_holds_119 (by decide) ?_
              refine lv_ishl X.1 X.2.1 dX4_holds_120 ?_
              refine lv_iload X.1 X.2.1 dX4_holds_121 (lv_at hl 0 rfl) ?_
              refine lv_iload X.1 X.2.1 dX4_holds_123 (lv_at hl 1 rfl) ?_
              refine lv_iconst (v := 3) X.1 X.2.1 dX4_holds_125 (by decide) ?_
              refine lv_irem X.1 X.2.1 dX4_holds_126 (by decide) ?_
              refine lv_cv (((gn_rem (Eq.refl (nI (t % 8 * 3 + t / 8 % 4))) (show (3 : Int32) = nI 3 from rfl) (by omega) (by omega) (by omega))).trans (congrArg nI (show _ = t / 8 % 4 by omega))) ?_
              refine lv_iconst (v := 1) X.1 X.2.1 dX4_holds_127 (by decide) ?_
              refine lv_isub X.1 X.2.1 dX4_holds_128 ?_
              refine lv_icmp_ne (tgt := 136) X.1 X.2.1 dX4_holds_129 (by decide) (fun c129 => ?_) (fun c129 => ?_)
              · refine lv_iconst (v := 0) X.1 X.2.1 dX4_holds_136 (by decide) ?_
                refine lv_ior X.1 X.2.1 dX4_holds_137 ?_
                have htt : tTest f t = false := tst_n (hfs _) (by omega) ht.2.2 c129
                refine lv_cv (show (nI (bv (tSt f (XL.take k))) <<< ((1 : Int32) &&& 31)) ||| 0 = nI (bv (false :: tSt f (XL.take k))) from bx_shl false _ (by omega)) ?_
                refine lv_istore_n (lv' := [(3, .int (nI (bv (false :: tSt f (XL.take k))))), (8, .int (cmpI (nI (f (t % 8))) (nI (t / 32)))), (7, .int (nI (t % 8 * 3 + t / 8 % 4))), (6, .int ((nI (bv (tSt f (XL.take k)))) &&& 1)), (5, .int (nI ((t % 8 * 3 + t / 8 % 4) * 100 + t / 32))), (0, .ref a), (1, .int (nI kc)), (2, .ref fa), (4, .int (nI ((coC (cs.take kc)).length + k)))]) X.1 X.2.1 dX4_holds_138 rfl hl (by decide) rfl (fun ls hl => ?_)
                refine lv_iinc (v := nI (((coC (cs.take kc)).length + k) + 1)) (lv' := [(4, .int (nI (((coC (cs.take kc)).length + k) + 1))), (3, .int (nI (bv (false :: tSt f (XL.take k))))), (8, .int (cmpI (nI (f (t % 8))) (nI (t / 32)))), (7, .int (nI (t % 8 * 3 + t / 8 % 4))), (6, .int ((nI (bv (tSt f (XL.take k)))) &&& 1)), (5, .int (nI ((t % 8 * 3 + t / 8 % 4) * 100 + t / 32))), (0, .ref a), (1, .int (nI kc)), (2, .ref fa)]) X.1 X.2.1 dX4_holds_139 hl (k := 8) rfl (gn_inc (Eq.refl (nI ((coC (cs.take kc)).length + k))) 1) (by decide) rfl (fun ls hl => ?_)
                refine lv_goto (tgt := 20) X.1 X.2.1 dX4_holds_142 (by decide) ?_
                have hs9 : tSt f (XL.take (k + 1)) = false :: tSt f (XL.take k) := by rw [hs9, tStep_A (by omega), htt]
                exact ih _ _ _ _ (by omega) ⟨⟨rfl, hn9, (by rw [hs9]; simp only [List.length_cons] at hlen ⊢; omega)⟩, (by rw [hs9]; exact lv_sub hl [6, 7, 8, 1, 0] rfl)⟩ hP hS
              · refine lv_iconst (v := 1) X.1 X.2.1 dX4_holds_132 (by decide) ?_
                refine lv_goto (tgt := 137) X.1 X.2.1 dX4_holds_133 (by decide) ?_
                refine lv_ior X.1 X.2.1 dX4_holds_137 ?_
                have htt : tTest f t = true := tst_y (hfs _) (by omega) ht.2.2 c129
                refine lv_cv (show (nI (bv (tSt f (XL.take k))) <<< ((1 : Int32) &&& 31)) ||| 1 = nI (bv (true :: tSt f (XL.take k))) from bx_shl true _ (by omega)) ?_
                refine lv_istore_n (lv' := [(3, .int (nI (bv (true :: tSt f (XL.take k))))), (8, .int (cmpI (nI (f (t % 8))) (nI (t / 32)))), (7, .int (nI (t % 8 * 3 + t / 8 % 4))), (6, .int ((nI (bv (tSt f (XL.take k)))) &&& 1)), (5, .int (nI ((t % 8 * 3 + t / 8 % 4) * 100 + t / 32))), (0, .ref a), (1, .int (nI kc)), (2, .ref fa), (4, .int (nI ((coC (cs.take kc)).length + k)))]) X.1 X.2.1 dX4_holds_138 rfl hl (by decide) rfl (fun ls hl => ?_)
                refine lv_iinc (v := nI (((coC (cs.take kc)).length + k) + 1)) (lv' := [(4, .int (nI (((coC (cs.take kc)).length + k) + 1))), (3, .int (nI (bv (true :: tSt f (XL.take k))))), (8, .int (cmpI (nI (f (t % 8))) (nI (t / 32)))), (7, .int (nI (t % 8 * 3 + t / 8 % 4))), (6, .int ((nI (bv (tSt f (XL.take k)))) &&& 1)), (5, .int (nI ((t % 8 * 3 + t / 8 % 4) * 100 + t / 32))), (0, .ref a), (1, .int (nI kc)), (2, .ref fa)]) X.1 X.2.1 dX4_holds_139 hl (k := 8) rfl (gn_inc (Eq.refl (nI ((coC (cs.take kc)).length + k))) 1) (by decide) rfl (fun ls hl => ?_)
                refine lv_goto (tgt := 20) X.1 X.2.1 dX4_holds_142 (by decide) ?_
                have hs9 : tSt f (XL.take (k + 1)) = true :: tSt f (XL.take k) := by rw [hs9, tStep_A (by omega), htt]
                exact ih _ _ _ _ (by omega) ⟨⟨rfl, hn9, (by rw [hs9]; simp only [List.length_cons] at hlen ⊢; omega)⟩, (by rw [hs9]; exact lv_sub hl [6, 7, 8, 1, 0] rfl)⟩ hP hS
            · exact absurd c82 (gn_neg (by omega) (by decide))
          · exact absurd c62 (gn_neg (by omega) (by decide))
        · exact absurd c48 (gn_m1 (by omega))
      · rw [ht] at hc9 hq9 hs9
        obtain ⟨b9, r9, hst⟩ := list_1 (tOk_N hq9).1
        rw [hst] at hl hs9 hlen
        have hs9 : tSt f (XL.take (k + 1)) = (!b9) :: r9 := hs9
        refine lv_aload_n X.1 X.2.1 dX4_holds_31 rfl (lv_at hl 0 rfl) ?_
        refine g_getr 6 5 X hK hP hT.1 rfl hinRX4 rfl (by decide) k28 (fun _ h => h) dX4_holds_32 (show va_rf (R a 5) = .ref (a + 4) from by rw [hT.2.2.2.2.2.2.2.2]; rfl) ?_
        refine lv_iload X.1 X.2.1 dX4_holds_35 (lv_at hl 4 rfl) ?_
        refine g_iald ((coC (cs.take kc)).length + k) X hK hP hT.2.2.2.2.1 (gIx_of (Eq.refl (nI ((coC (cs.take kc)).length + k))) (by omega) (by omega)) dX4_holds_37 (show I (a + 4) ((coC (cs.take kc)).length + k) = (-1) from hc9) ?_
        refine lv_istore (lv' := [(5, .int (-1)), (0, .ref a), (1, .int (nI kc)), (2, .ref fa), (3, .int (nI (bv (b9 :: r9)))), (4, .int (nI ((coC (cs.take kc)).length + k)))]) X.1 X.2.1 dX4_holds_38 hl (by decide) rfl (fun ls hl => ?_)
        refine lv_iload_n X.1 X.2.1 dX4_holds_40 rfl (lv_at hl 4 rfl) ?_
        refine lv_iconst (v := 1) X.1 X.2.1 dX4_holds_41 (by decide) ?_
        refine lv_iand X.1 X.2.1 dX4_holds_42 ?_
        refine lv_istore (lv' := [(6, .int ((nI (bv (b9 :: r9))) &&& 1)), (5, .int (-1)), (0, .ref a), (1, .int (nI kc)), (2, .ref fa), (3, .int (nI (bv (b9 :: r9)))), (4, .int (nI ((coC (cs.take kc)).length + k)))]) X.1 X.2.1 dX4_holds_43 hl (by decide) rfl (fun ls hl => ?_)
        refine lv_iload X.1 X.2.1 dX4_holds_45 (lv_at hl 1 rfl) ?_
        refine lv_iconst (v := (-1)) X.1 X.2.1 dX4_holds_47 (by decide) ?_
        refine lv_icmp_ne (tgt := 58) X.1 X.2.1 dX4_holds_48 (by decide) (fun c48 => ?_) (fun c48 => ?_)
        · exact absurd rfl c48
        · refine lv_iload_n X.1 X.2.1 dX4_holds_51 rfl (lv_at hl 5 rfl) ?_
          refine lv_iconst (v := 1) X.1 X.2.1 dX4_holds_52 (by decide) ?_
          refine lv_ixor X.1 X.2.1 dX4_holds_53 ?_
          refine lv_cv (show nI (bv (b9 :: r9)) ^^^ 1 = nI (bv ((!b9) :: r9)) from bx_not b9 (bv r9)) ?_
          refine lv_istore_n (lv' := [(3, .int (nI (bv ((!b9) :: r9)))), (6, .int ((nI (bv (b9 :: r9))) &&& 1)), (5, .int (-1)), (0, .ref a), (1, .int (nI kc)), (2, .ref fa), (4, .int (nI ((coC (cs.take kc)).length + k)))]) X.1 X.2.1 dX4_holds_54 rfl hl (by decide) rfl (fun ls hl => ?_)
          refine lv_goto (tgt := 139) X.1 X.2.1 dX4_holds_55 (by decide) ?_
          refine lv_iinc (v := nI (((coC (cs.take kc)).length + k) + 1)) (lv' := [(4, .int (nI (((coC (cs.take kc)).length + k) + 1))), (3, .int (nI (bv ((!b9) :: r9)))), (6, .int ((nI (bv (b9 :: r9))) &&& 1)), (5, .int (-1)), (0, .ref a), (1, .int (nI kc)), (2, .ref fa)]) X.1 X.2.1 dX4_holds_139 hl (k := 6) rfl (gn_inc (Eq.refl (nI ((coC (cs.take kc)).length + k))) 1) (by decide) rfl (fun ls hl => ?_)
          refine lv_goto (tgt := 20) X.1 X.2.1 dX4_holds_142 (by decide) ?_
          exact ih _ _ _ _ (by omega) ⟨⟨rfl, hn9, (by rw [hs9]; simp only [List.length_cons] at hlen ⊢; omega)⟩, (by rw [hs9]; exact lv_sub hl [4, 5, 6, 1, 0] rfl)⟩ hP hS
      · rw [ht] at hc9 hq9 hs9
        obtain ⟨a9, b9, r9, hst⟩ := list_2 (tOk_B hq9 (by omega)).1
        have hbv := bv_20 hlen
        rw [hst] at hl hs9 hbv hlen
        have hbv : bN a9 + 2 * bv (b9 :: r9) < 2 ^ 20 := hbv
        have hs9 : tSt f (XL.take (k + 1)) = (b9 && a9) :: r9 := hs9
        refine lv_aload_n X.1 X.2.1 dX4_holds_31 rfl (lv_at hl 0 rfl) ?_
        refine g_getr 6 5 X hK hP hT.1 rfl hinRX4 rfl (by decide) k28 (fun _ h => h) dX4_holds_32 (show va_rf (R a 5) = .ref (a + 4) from by rw [hT.2.2.2.2.2.2.2.2]; rfl) ?_
        refine lv_iload X.1 X.2.1 dX4_holds_35 (lv_at hl 4 rfl) ?_
        refine g_iald ((coC (cs.take kc)).length + k) X hK hP hT.2.2.2.2.1 (gIx_of (Eq.refl (nI ((coC (cs.take kc)).length + k))) (by omega) (by omega)) dX4_holds_37 (show I (a + 4) ((coC (cs.take kc)).length + k) = (-2) from hc9) ?_
        refine lv_istore (lv' := [(5, .int (-2)), (0, .ref a), (1, .int (nI kc)), (2, .ref fa), (3, .int (nI (bv (a9 :: b9 :: r9)))), (4, .int (nI ((coC (cs.take kc)).length + k)))]) X.1 X.2.1 dX4_holds_38 hl (by decide) rfl (fun ls hl => ?_)
        refine lv_iload_n X.1 X.2.1 dX4_holds_40 rfl (lv_at hl 4 rfl) ?_
        refine lv_iconst (v := 1) X.1 X.2.1 dX4_holds_41 (by decide) ?_
        refine lv_iand X.1 X.2.1 dX4_holds_42 ?_
        refine lv_cv (show nI (bv (a9 :: b9 :: r9)) &&& 1 = nI (bN a9) from bx_top a9 (bv (b9 :: r9)) (by omega)) ?_
        refine lv_istore (lv' := [(6, .int (nI (bN a9))), (5, .int (-2)), (0, .ref a), (1, .int (nI kc)), (2, .ref fa), (3, .int (nI (bv (a9 :: b9 :: r9)))), (4, .int (nI ((coC (cs.take kc)).length + k)))]) X.1 X.2.1 dX4_holds_43 hl (by decide) rfl (fun ls hl => ?_)
        refine lv_iload X.1 X.2.1 dX4_holds_45 (lv_at hl 1 rfl) ?_
        refine lv_iconst (v := (-1)) X.1 X.2.1 dX4_holds_47 (by decide) ?_
        refine lv_icmp_ne (tgt := 58) X.1 X.2.1 dX4_holds_48 (by decide) (fun c48 => ?_) (fun c48 => ?_)
        · refine lv_iload X.1 X.2.1 dX4_holds_58 (lv_at hl 1 rfl) ?_
          refine lv_bipush (v := (-2)) X.1 X.2.1 dX4_holds_60 (by decide) ?_
          refine lv_icmp_ne (tgt := 78) X.1 X.2.1 dX4_holds_62 (by decide) (fun c62 => ?_) (fun c62 => ?_)
          · exact absurd rfl c62
          · refine lv_iload_n X.1 X.2.1 dX4_holds_65 rfl (lv_at hl 5 rfl) ?_
            refine lv_iconst (v := 1) X.1 X.2.1 dX4_holds_66 (by decide) ?_
            refine lv_ishr X.1 X.2.1 dX4_holds_67 ?_
            refine lv_cv (show nI (bv (a9 :: b9 :: r9)) >>> ((1 : Int32) &&& 31) = nI (bv (b9 :: r9)) from bx_shr a9 (bv (b9 :: r9)) (by omega)) ?_
            refine lv_iload X.1 X.2.1 dX4_holds_68 (lv_at hl 0 rfl) ?_
            refine lv_bipush (v := (-2)) X.1 X.2.1 dX4_holds_70 (by decide) ?_
            refine lv_ior X.1 X.2.1 dX4_holds_72 ?_
            refine lv_iand X.1 X.2.1 dX4_holds_73 ?_
            refine lv_cv (show nI (bv (b9 :: r9)) &&& (nI (bN a9) ||| (-2)) = nI (bv ((b9 && a9) :: r9)) from bx_and a9 b9 (bv r9)) ?_
            refine lv_istore_n (lv' := [(3, .int (nI (bv ((b9 && a9) :: r9)))), (6, .int (nI (bN a9))), (5, .int (-2)), (0, .ref a), (1, .int (nI kc)), (2, .ref fa), (4, .int (nI ((coC (cs.take kc)).length + k)))]) X.1 X.2.1 dX4_holds_74 rfl hl (by decide) rfl (fun ls hl => ?_)
            refine lv_goto (tgt := 139) X.1 X.2.1 dX4_holds_75 (by decide) ?_
            refine lv_iinc (v := nI (((coC (cs.take kc)).length + k) + 1)) (lv' := [(4, .int (nI (((coC (cs.take kc)).length + k) + 1))), (3, .int (nI (bv ((b9 && a9) :: r9)))), (6, .int (nI (bN a9))), (5, .int (-2)), (0, .ref a), (1, .int (nI kc)), (2, .ref fa)]) X.1 X.2.1 dX4_holds_139 hl (k := 6) rfl (gn_inc (Eq.refl (nI ((coC (cs.take kc)).length + k))) 1) (by decide) rfl (fun ls hl => ?_)
            refine lv_goto (tgt := 20) X.1 X.2.1 dX4_holds_142 (by decide) ?_
            exact ih _ _ _ _ (by omega) ⟨⟨rfl, hn9, (by rw [hs9]; simp only [List.length_cons] at hlen ⊢; omega)⟩, (by rw [hs9]; exact lv_sub hl [4, 5, 6, 1, 0] rfl)⟩ hP hS
        · exact absurd c48 (by decide)
      · rw [ht] at hc9 hq9 hs9
        obtain ⟨a9, b9, r9, hst⟩ := list_2 (tOk_B hq9 (by omega)).1
        have hbv := bv_20 hlen
        rw [hst] at hl hs9 hbv hlen
        have hbv : bN a9 + 2 * bv (b9 :: r9) < 2 ^ 20 := hbv
        have hs9 : tSt f (XL.take (k + 1)) = (b9 || a9) :: r9 := hs9
        refine lv_aload_n X.1 X.2.1 dX4_holds_31 rfl (lv_at hl 0 rfl) ?_
        refine g_getr 6 5 X hK hP hT.1 rfl hinRX4 rfl (by decide) k28 (fun _ h => h) dX4_holds_32 (show va_rf (R a 5) = .ref (a + 4) from by rw [hT.2.2.2.2.2.2.2.2]; rfl) ?_
        refine lv_iload X.1 X.2.1 dX4_holds_35 (lv_at hl 4 rfl) ?_
        refine g_iald ((coC (cs.take kc)).length + k) X hK hP hT.2.2.2.2.1 (gIx_of (Eq.refl (nI ((coC (cs.take kc)).length + k))) (by omega) (by omega)) dX4_holds_37 (show I (a + 4) ((coC (cs.take kc)).length + k) = (-3) from hc9) ?_
        refine lv_istore (lv' := [(5, .int (-3)), (0, .ref a), (1, .int (nI kc)), (2, .ref fa), (3, .int (nI (bv (a9 :: b9 :: r9)))), (4, .int (nI ((coC (cs.take kc)).length + k)))]) X.1 X.2.1 dX4_holds_38 hl (by decide) rfl (fun ls hl => ?_)
        refine lv_iload_n X.1 X.2.1 dX4_holds_40 rfl (lv_at hl 4 rfl) ?_
        refine lv_iconst (v := 1) X.1 X.2.1 dX4_holds_41 (by decide) ?_
        refine lv_iand X.1 X.2.1 dX4_holds_42 ?_
        refine lv_cv (show nI (bv (a9 :: b9 :: r9)) &&& 1 = nI (bN a9) from bx_top a9 (bv (b9 :: r9)) (by omega)) ?_
        refine lv_istore (lv' := [(6, .int (nI (bN a9))), (5, .int (-3)), (0, .ref a), (1, .int (nI kc)), (2, .ref fa), (3, .int (nI (bv (a9 :: b9 :: r9)))), (4, .int (nI ((coC (cs.take kc)).length + k)))]) X.1 X.2.1 dX4_holds_43 hl (by decide) rfl (fun ls hl => ?_)
        refine lv_iload X.1 X.2.1 dX4_holds_45 (lv_at hl 1 rfl) ?_
        refine lv_iconst (v := (-1)) X.1 X.2.1 dX4_holds_47 (by decide) ?_
        refine lv_icmp_ne (tgt := 58) X.1 X.2.1 dX4_holds_48 (by decide) (fun c48 => ?_) (fun c48 => ?_)
        · refine lv_iload X.1 X.2.1 dX4_holds_58 (lv_at hl 1 rfl) ?_
          refine lv_bipush (v := (-2)) X.1 X.2.1 dX4_holds_60 (by decide) ?_
          refine lv_icmp_ne (tgt := 78) X.1 X.2.1 dX4_holds_62 (by decide) (fun c62 => ?_) (fun c62 => ?_)
          · refine lv_iload X.1 X.2.1 dX4_holds_78 (lv_at hl 1 rfl) ?_
            refine lv_bipush (v := (-3)) X.1 X.2.1 dX4_holds_80 (by decide) ?_
            refine lv_icmp_ne (tgt := 95) X.1 X.2.1 dX4_holds_82 (by decide) (fun c82 => ?_) (fun c82 => ?_)
            · exact absurd rfl c82
            · refine lv_iload_n X.1 X.2.1 dX4_holds_85 rfl (lv_at hl 5 rfl) ?_
              refine lv_iconst (v := 1) X.1 X.2.1 dX4_holds_86 (by decide) ?_
              refine lv_ishr X.1 X.2.1 dX4_holds_87 ?_
              refine lv_cv (show nI (bv (a9 :: b9 :: r9)) >>> ((1 : Int32) &&& 31) = nI (bv (b9 :: r9)) from bx_shr a9 (bv (b9 :: r9)) (by omega)) ?_
              refine lv_iload X.1 X.2.1 dX4_holds_88 (lv_at hl 0 rfl) ?_
              refine lv_ior X.1 X.2.1 dX4_holds_90 ?_
              refine lv_cv (show nI (bv (b9 :: r9)) ||| nI (bN a9) = nI (bv ((b9 || a9) :: r9)) from bx_or a9 b9 (bv r9)) ?_
              refine lv_istore_n (lv' := [(3, .int (nI (bv ((b9 || a9) :: r9)))), (6, .int (nI (bN a9))), (5, .int (-3)), (0, .ref a), (1, .int (nI kc)), (2, .ref fa), (4, .int (nI ((coC (cs.take kc)).length + k)))]) X.1 X.2.1 dX4_holds_91 rfl hl (by decide) rfl (fun ls hl => ?_)
              refine lv_goto (tgt := 139) X.1 X.2.1 dX4_holds_92 (by decide) ?_
              refine lv_iinc (v := nI (((coC (cs.take kc)).length + k) + 1)) (lv' := [(4, .int (nI (((coC (cs.take kc)).length + k) + 1))), (3, .int (nI (bv ((b9 || a9) :: r9)))), (6, .int (nI (bN a9))), (5, .int (-3)), (0, .ref a), (1, .int (nI kc)), (2, .ref fa)]) X.1 X.2.1 dX4_holds_139 hl (k := 6) rfl (gn_inc (Eq.refl (nI ((coC (cs.take kc)).length + k))) 1) (by decide) rfl (fun ls hl => ?_)
              refine lv_goto (tgt := 20) X.1 X.2.1 dX4_holds_142 (by decide) ?_
              exact ih _ _ _ _ (by omega) ⟨⟨rfl, hn9, (by rw [hs9]; simp only [List.length_cons] at hlen ⊢; omega)⟩, (by rw [hs9]; exact lv_sub hl [4, 5, 6, 1, 0] rfl)⟩ hP hS
          · exact absurd c62 (by decide)
        · exact absurd c48 (by decide)
  · have n3 : kc = 0 := gq_eq c3 (Eq.refl (nI kc)) (show (0 : Int32) = nI 0 from rfl) (by omega) (by omega)
    refine lv_iconst (v := 0) X.1 X.2.1 dX4_holds_6 (by decide) ?_
    refine lv_goto (tgt := 18) X.1 X.2.1 dX4_holds_7 (by decide) ?_
    refine lv_cv (show (0 : Int32) = nI (coC (cs.take kc)).length from by rw [n3]; rfl) ?_
    refine lv_istore (lv' := [(4, .int (nI ((coC (cs.take kc)).length))), (3, .int 0), (0, .ref a), (1, .int (nI kc)), (2, .ref fa)]) X.1 X.2.1 dX4_holds_18 hl (by decide) rfl (fun ls hl => ?_)
    refine i_loop (I := I) XL.length 20 [] (fun k Q9 ls => (I = Q9 ∧ tOk 20 (XL.drop k ++ LL) (tSt f (XL.take k)).length ∧ (tSt f (XL.take k)).length ≤ 20) ∧ lv_has ls 9 [(0, .ref a), (1, .int (nI kc)), (2, .ref fa), (3, .int (nI (bv (tSt f (XL.take k))))), (4, .int (nI ((coC (cs.take kc)).length + k)))]) 0 (by omega) ⟨⟨rfl, hok, Nat.zero_le _⟩, lv_sub hl [2, 3, 4, 1, 0] rfl⟩ hP hS (fun k Q9 H locs ls hk hiv hP hS ih => ?_)
    obtain ⟨⟨rfl, hq, hlen⟩, hl⟩ := hiv
    refine lv_iload X.1 X.2.1 dX4_holds_20 (lv_at hl 4 rfl) ?_
    refine lv_aload_n X.1 X.2.1 dX4_holds_22 rfl (lv_at hl 0 rfl) ?_
    refine g_getr 6 4 X hK hP hT.1 rfl hinRX4 rfl (by decide) k25 (fun _ h => h) dX4_holds_23 (show va_rf (R a 4) = .ref (a + 3) from by rw [hT.2.2.2.2.2.2.2.1]; rfl) ?_
    refine lv_iload_n X.1 X.2.1 dX4_holds_26 rfl (lv_at hl 1 rfl) ?_
    refine g_iald kc X hK hP hT.2.2.2.1 (gIx_of (Eq.refl (nI kc)) (by omega) (by omega)) dX4_holds_27 (show I (a + 3) kc = nI ((coC (cs.take (kc + 1))).length) from (hsr.2.2.2.2.1 kc hkc).2.2) ?_
    refine lv_icmp_ge (tgt := 145) X.1 X.2.1 dX4_holds_28 (by decide) (fun c28 => ?_) (fun c28 => ?_)
    · have n28 : (coC (cs.take (kc + 1))).length ≤ ((coC (cs.take kc)).length + k) := gq_le c28 (Eq.refl (nI ((coC (cs.take (kc + 1))).length))) (Eq.refl (nI ((coC (cs.take kc)).length + k))) (by omega) (by omega)
      obtain rfl : k = XL.length := by omega
      rw [List.drop_length, List.nil_append] at hq
      rw [List.take_length] at hl
      have hb1 : tSt f XL = [b1] := by rw [← hX]; exact hb1
      rw [hb1] at hl
      refine lv_iload_n X.1 X.2.1 dX4_holds_145 rfl (lv_at hl 3 rfl) ?_
      refine lv_iconst (v := 1) X.1 X.2.1 dX4_holds_146 (by decide) ?_
      refine lv_iand X.1 X.2.1 dX4_holds_147 ?_
      refine lv_cv (show nI (bv [b1]) &&& 1 = nI (bN b1) from bx_top b1 0 (by have := bN_le b1; omega)) ?_
      refine lv_iconst (v := 1) X.1 X.2.1 dX4_holds_148 (by decide) ?_
      refine lv_icmp_ne (tgt := 156) X.1 X.2.1 dX4_holds_149 (by decide) (fun c149 => ?_) (fun c149 => ?_)
      · have n149 : ¬ (bN b1) = 1 := gq_ne c149 (Eq.refl (nI (bN b1))) (show (1 : Int32) = nI 1 from rfl) (by omega) (by omega)
        refine lv_iconst (v := 0) X.1 X.2.1 dX4_holds_156 (by decide) ?_
        skip
        exact g_zret (f := fun u => u) (z, T, I, R) X hr hlk hK hP hS dX4_holds_157 rfl ⟨(by cases b1; (· rfl); exact absurd rfl n149), rfl⟩
      · have n149 : (bN b1) = 1 := gq_eq c149 (Eq.refl (nI (bN b1))) (show (1 : Int32) = nI 1 from rfl) (by omega) (by omega)
        refine lv_iconst (v := 1) X.1 X.2.1 dX4_holds_152 (by decide) ?_
        refine lv_goto (tgt := 157) X.1 X.2.1 dX4_holds_153 (by decide) ?_
        skip
        exact g_zret (f := fun u => u) (z, T, I, R) X hr hlk hK hP hS dX4_holds_157 rfl ⟨(by cases b1; (· exact absurd n149 (by decide)); rfl), rfl⟩
    · have n28 : ((coC (cs.take kc)).length + k) < (coC (cs.take (kc + 1))).length := gq_nle c28 (Eq.refl (nI ((coC (cs.take (kc + 1))).length))) (Eq.refl (nI ((coC (cs.take kc)).length + k))) (by omega) (by omega)
      have hk9 : k < XL.length := by omega
      have ht9 : XL.getD k 0 ≤ 10002 := hXm _ (getD_memN hk9)
      have hq9 := hq
      rw [drop_c hk9] at hq9
      have hs9 := tSt_s (f := f) hXm hk9
      have hc9 := hat k hk9
      have hn9 := tOk_st (f := f) (y := (0, 0, 0)) ht9 hq9
      rw [← hs9] at hn9
      rcases t4 ht9 hq9 with ht | ht | ht | ht
      · have hle1 := (tOk_A hq9 (by omega)).2.2.2.1
        have hbv := bv_20 hlen
        generalize hte : XL.getD k 0 = t at *
        refine lv_aload_n X.1 X.2.1 dX4_holds_31 rfl (lv_at hl 0 rfl) ?_
        refine g_getr 6 5 X hK hP hT.1 rfl hinRX4 rfl (by decide) k28 (fun _ h => h) dX4_holds_32 (show va_rf (R a 5) = .ref (a + 4) from by rw [hT.2.2.2.2.2.2.2.2]; rfl) ?_
        refine lv_iload X.1 X.2.1 dX4_holds_35 (lv_at hl 4 rfl) ?_
        refine g_iald ((coC (cs.take kc)).length + k) X hK hP hT.2.2.2.2.1 (gIx_of (Eq.refl (nI ((coC (cs.take kc)).length + k))) (by omega) (by omega)) dX4_holds_37 (show I (a + 4) ((coC (cs.take kc)).length + k) = nI ((t % 8 * 3 + t / 8 % 4) * 100 + t / 32) from (hc9.trans (encC_t ht.1))) ?_
        refine lv_istore (lv' := [(5, .int (nI ((t % 8 * 3 + t / 8 % 4) * 100 + t / 32))), (0, .ref a), (1, .int (nI kc)), (2, .ref fa), (3, .int (nI (bv (tSt f (XL.take k))))), (4, .int (nI ((coC (cs.take kc)).length + k)))]) X.1 X.2.1 dX4_holds_38 hl (by decide) rfl (fun ls hl => ?_)
        refine lv_iload_n X.1 X.2.1 dX4_holds_40 rfl (lv_at hl 4 rfl) ?_
        refine lv_iconst (v := 1) X.1 X.2.1 dX4_holds_41 (by decide) ?_
        refine lv_iand X.1 X.2.1 dX4_holds_42 ?_
        refine lv_istore (lv' := [(6, .int ((nI (bv (tSt f (XL.take k)))) &&& 1)), (5, .int (nI ((t % 8 * 3 + t / 8 % 4) * 100 + t / 32))), (0, .ref a), (1, .int (nI kc)), (2, .ref fa), (3, .int (nI (bv (tSt f (XL.take k))))), (4, .int (nI ((coC (cs.take kc)).length + k)))]) X.1 X.2.1 dX4_holds_43 hl (by decide) rfl (fun ls hl => ?_)
        refine lv_iload X.1 X.2.1 dX4_holds_45 (lv_at hl 1 rfl) ?_
        refine lv_iconst (v := (-1)) X.1 X.2.1 dX4_holds_47 (by decide) ?_
        refine lv_icmp_ne (tgt := 58) X.1 X.2.1 dX4_holds_48 (by decide) (fun c48 => ?_) (fun c48 => ?_)
        · refine lv_iload X.1 X.2.1 dX4_holds_58 (lv_at hl 1 rfl) ?_
          refine lv_bipush (v := (-2)) X.1 X.2.1 dX4_holds_60 (by decide) ?_
          refine lv_icmp_ne (tgt := 78) X.1 X.2.1 dX4_holds_62 (by decide) (fun c62 => ?_) (fun c62 => ?_)
          · refine lv_iload X.1 X.2.1 dX4_holds_78 (lv_at hl 1 rfl) ?_
            refine lv_bipush (v := (-3)) X.1 X.2.1 dX4_holds_80 (by decide) ?_
            refine lv_icmp_ne (tgt := 95) X.1 X.2.1 dX4_holds_82 (by decide) (fun c82 => ?_) (fun c82 => ?_)
            · refine lv_iload X.1 X.2.1 dX4_holds_95 (lv_at hl 1 rfl) ?_
              refine lv_bipush (v := 100) X.1 X.2.1 dX4_holds_97 (by decide) ?_
              refine lv_idiv X.1 X.2.1 dX4_holds_99 (by decide) ?_
              refine lv_cv (((gn_div (Eq.refl (nI ((t % 8 * 3 + t / 8 % 4) * 100 + t / 32))) (show (100 : Int32) = nI 100 from rfl) (by omega) (by omega) (by omega))).trans (congrArg nI (show _ = (t % 8 * 3 + t / 8 % 4) by omega))) ?_
              refine lv_istore (lv' := [(7, .int (nI (t % 8 * 3 + t / 8 % 4))), (6, .int ((nI (bv (tSt f (XL.take k)))) &&& 1)), (5, .int (nI ((t % 8 * 3 + t / 8 % 4) * 100 + t / 32))), (0, .ref a), (1, .int (nI kc)), (2, .ref fa), (3, .int (nI (bv (tSt f (XL.take k))))), (4, .int (nI ((coC (cs.take kc)).length + k)))]) X.1 X.2.1 dX4_holds_100 hl (by decide) rfl (fun ls hl => ?_)
              refine lv_aload_n X.1 X.2.1 dX4_holds_102 rfl (lv_at hl 5 rfl) ?_
              refine lv_iload X.1 X.2.1 dX4_holds_103 (lv_at hl 0 rfl) ?_
              refine lv_iconst (v := 3) X.1 X.2.1 dX4_holds_105 (by decide) ?_
              refine lv_idiv X.1 X.2.1 dX4_holds_106 (by decide) ?_
              refine lv_cv (((gn_div (Eq.refl (nI (t % 8 * 3 + t / 8 % 4))) (show (3 : Int32) = nI 3 from rfl) (by omega) (by omega) (by omega))).trans (congrArg nI (show _ = t % 8 by omega))) ?_
              refine g_iald (t % 8) X hK hP htf (gIx_of (Eq.refl (nI (t % 8))) (by omega) (by omega)) dX4_holds_107 (show I fa (t % 8) = nI (f (t % 8)) from (hff (t % 8) (by omega))) ?_
              refine lv_iload X.1 X.2.1 dX4_holds_108 (lv_at hl 2 rfl) ?_
              refine lv_bipush (v := 100) X.1 X.2.1 dX4_holds_110 (by decide) ?_
              refine lv_irem X.1 X.2.1 dX4_holds_112 (by decide) ?_
              refine lv_cv (((gn_rem (Eq.refl (nI ((t % 8 * 3 + t / 8 % 4) * 100 + t / 32))) (show (100 : Int32) = nI 100 from rfl) (by omega) (by omega) (by omega))).trans (congrArg nI (show _ = t / 32 by omega))) ?_
              refine g_run_i (f := fun u => u) (g_runS [.int (nI (f (t % 8))), .int (nI (t / 32))] X hK hP hS hC hB (j_cmp) (va_cwS 2 X.2.2.2.2 gX4_holds_J6_compare_7cf53 rfl rfl rfl (by decide +kernel) ⟨Nat.le_of_ble_eq_true rfl, Nat.le_of_ble_eq_true rfl⟩) rfl hl.1 rfl (Nat.le_of_ble_eq_true rfl) dX4_holds_113 (by exact ⟨Nat.zero_le _, Nat.zero_le _⟩)) hS (fun r u H locs hq hP hS => ?_)
              obtain ⟨rfl, rfl⟩ := hq
              have hP : gP D cy B z T I R H := hP
              refine lv_istore (lv' := [(8, .int (cmpI (nI (f (t % 8))) (nI (t / 32)))), (7, .int (nI (t % 8 * 3 + t / 8 % 4))), (6, .int ((nI (bv (tSt f (XL.take k)))) &&& 1)), (5, .int (nI ((t % 8 * 3 + t / 8 % 4) * 100 + t / 32))), (0, .ref a), (1, .int (nI kc)), (2, .ref fa), (3, .int (nI (bv (tSt f (XL.take k))))), (4, .int (nI ((coC (cs.take kc)).length + k)))]) X.1 X.2.1 dX4_holds_116 hl (by decide) rfl (fun ls hl => ?_)
              refine lv_iload_n X.1 X.2.1 dX4_holds_118 rfl (lv_at hl 7 rfl) ?_
              refine lv_iconst (v := 1) X.1 X.2.1 dX4_holds_119 (by decide) ?_
              refine lv_ishl X.1 X.2.1 dX4_holds_120 ?_
              refine lv_iload X.1 X.2.1 dX4_holds_121 (lv_at hl 0 rfl) ?_
              refine lv_iload X.1 X.2.1 dX4_holds_123 (lv_at hl 1 rfl) ?_
              refine lv_iconst (v := 3) X.1 X.2.1 dX4_holds_125 (by decide) ?_
              refine lv_irem X.1 X.2.1 dX4_holds_126 (by decide) ?_
              refine lv_cv (((gn_rem (Eq.refl (nI (t % 8 * 3 + t / 8 % 4))) (show (3 : Int32) = nI 3 from rfl) (by omega) (by omega) (by omega))).trans (congrArg nI (show _ = t / 8 % 4 by omega))) ?_
              refine lv_iconst (v := 1) X.1 X.2.1 dX4_holds_127 (by decide) ?_
              refine lv_isub X.1 X.2.1 dX4_holds_128 ?_
              refine lv_icmp_ne (tgt := 136) X.1 X.2.1 dX4_holds_129 (by decide) (fun c129 => ?_) (fun c129 => ?_)
              · refine lv_iconst (v := 0) X.1 X.2.1 dX4_holds_136 (by decide) ?_
                refine lv_ior X.1 X.2.1 dX4_holds_137 ?_
                have htt : tTest f t = false := tst_n (hfs _) (by omega) ht.2.2 c129
                refine lv_cv (show (nI (bv (tSt f (XL.take k))) <<< ((1 : Int32) &&& 31)) ||| 0 = nI (bv (false :: tSt f (XL.take k))) from bx_shl false _ (by omega)) ?_
                refine lv_istore_n (lv' := [(3, .int (nI (bv (false :: tSt f (XL.take k))))), (8, .int (cmpI (nI (f (t % 8))) (nI (t / 32)))), (7, .int (nI (t % 8 * 3 + t / 8 % 4))), (6, .int ((nI (bv (tSt f (XL.take k)))) &&& 1)), (5, .int (nI ((t % 8 * 3 + t / 8 % 4) * 100 + t / 32))), (0, .ref a), (1, .int (nI kc)), (2, .ref fa), (4, .int (nI ((coC (cs.take kc)).length + k)))]) X.1 X.2.1 dX4_holds_138 rfl hl (by decide) rfl (fun ls hl => ?_)
                refine lv_iinc (v := nI (((coC (cs.take kc)).length + k) + 1)) (lv' := [(4, .int (nI (((coC (cs.take kc)).length + k) + 1))), (3, .int (nI (bv (false :: tSt f (XL.take k))))), (8, .int (cmpI (nI (f (t % 8))) (nI (t / 32)))), (7, .int (nI (t % 8 * 3 + t / 8 % 4))), (6, .int ((nI (bv (tSt f (XL.take k)))) &&& 1)), (5, .int (nI ((t % 8 * 3 + t / 8 % 4) * 100 + t / 32))), (0, .ref a), (1, .int (nI kc)), (2, .ref fa)]) X.1 X.2.1 dX4_holds_139 hl (k := 8) rfl (gn_inc (Eq.refl (nI ((coC (cs.take kc)).length + k))) 1) (by decide) rfl (fun ls hl => ?_)
                refine lv_goto (tgt := 20) X.1 X.2.1 dX4_holds_142 (by decide) ?_
                have hs9 : tSt f (XL.take (k + 1)) = false :: tSt f (XL.take k) := by rw [hs9, tStep_A (by omega), htt]
                exact ih _ _ _ _ (by omega) ⟨⟨rfl, hn9, (by rw [hs9]; simp only [List.length_cons] at hlen ⊢; omega)⟩, (by rw [hs9]; exact lv_sub hl [6, 7, 8, 1, 0] rfl)⟩ hP hS
              · refine lv_iconst (v := 1) X.1 X.2.1 dX4_holds_132 (by decide) ?_
                refine lv_goto (tgt := 137) X.1 X.2.1 dX4_holds_133 (by decide) ?_
                refine lv_ior X.1 X.2.1 dX4_holds_137 ?_
                have htt : tTest f t = true := tst_y (hfs _) (by omega) ht.2.2 c129
                refine lv_cv (show (nI (bv (tSt f (XL.take k))) <<< ((1 : Int32) &&& 31)) ||| 1 = nI (bv (true :: tSt f (XL.take k))) from bx_shl true _ (by omega)) ?_
                refine lv_istore_n (lv' := [(3, .int (nI (bv (true :: tSt f (XL.take k))))), (8, .int (cmpI (nI (f (t % 8))) (nI (t / 32)))), (7, .int (nI (t % 8 * 3 + t / 8 % 4))), (6, .int ((nI (bv (tSt f (XL.take k)))) &&& 1)), (5, .int (nI ((t % 8 * 3 + t / 8 % 4) * 100 + t / 32))), (0, .ref a), (1, .int (nI kc)), (2, .ref fa), (4, .int (nI ((coC (cs.take kc)).length + k)))]) X.1 X.2.1 dX4_holds_138 rfl hl (by decide) rfl (fun ls hl => ?_)
                refine lv_iinc (v := nI (((coC (cs.take kc)).length + k) + 1)) (lv' := [(4, .int (nI (((coC (cs.take kc)).length + k) + 1))), (3, .int (nI (bv (true :: tSt f (XL.take k))))), (8, .int (cmpI (nI (f (t % 8))) (nI (t / 32)))), (7, .int (nI (t % 8 * 3 + t / 8 % 4))), (6, .int ((nI (bv (tSt f (XL.take k)))) &&& 1)), (5, .int (nI ((t % 8 * 3 + t / 8 % 4) * 100 + t / 32))), (0, .ref a), (1, .int (nI kc)), (2, .ref fa)]) X.1 X.2.1 dX4_holds_139 hl (k := 8) rfl (gn_inc (Eq.refl (nI ((coC (cs.take kc)).length + k))) 1) (by decide) rfl (fun ls hl => ?_)
                refine lv_goto (tgt := 20) X.1 X.2.1 dX4_holds_142 (by decide) ?_
                have hs9 : tSt f (XL.take (k + 1)) = true :: tSt f (XL.take k) := by rw [hs9, tStep_A (by omega), htt]
                exact ih _ _ _ _ (by omega) ⟨⟨rfl, hn9, (by rw [hs9]; simp only [List.length_cons] at hlen ⊢; omega)⟩, (by rw [hs9]; exact lv_sub hl [6, 7, 8, 1, 0] rfl)⟩ hP hS
            · exact absurd c82 (gn_neg (by omega) (by decide))
          · exact absurd c62 (gn_neg (by omega) (by decide))
        · exact absurd c48 (gn_m1 (by omega))
      · rw [ht] at hc9 hq9 hs9
        obtain ⟨b9, r9, hst⟩ := list_1 (tOk_N hq9).1
        rw [hst] at hl hs9 hlen
        have hs9 : tSt f (XL.take (k + 1)) = (!b9) :: r9 := hs9
        refine lv_aload_n X.1 X.2.1 dX4_holds_31 rfl (lv_at hl 0 rfl) ?_
        refine g_getr 6 5 X hK hP hT.1 rfl hinRX4 rfl (by decide) k28 (fun _ h => h) dX4_holds_32 (show va_rf (R a 5) = .ref (a + 4) from by rw [hT.2.2.2.2.2.2.2.2]; rfl) ?_
        refine lv_iload X.1 X.2.1 dX4_holds_35 (lv_at hl 4 rfl) ?_
        refine g_iald ((coC (cs.take kc)).length + k) X hK hP hT.2.2.2.2.1 (gIx_of (Eq.refl (nI ((coC (cs.take kc)).length + k))) (by omega) (by omega)) dX4_holds_37 (show I (a + 4) ((coC (cs.take kc)).length + k) = (-1) from hc9) ?_
        refine lv_istore (lv' := [(5, .int (-1)), (0, .ref a), (1, .int (nI kc)), (2, .ref fa), (3, .int (nI (bv (b9 :: r9)))), (4, .int (nI ((coC (cs.take kc)).length + k)))]) X.1 X.2.1 dX4_holds_38 hl (by decide) rfl (fun ls hl => ?_)
        refine lv_iload_n X.1 X.2.1 dX4_holds_40 rfl (lv_at hl 4 rfl) ?_
        refine lv_iconst (v := 1) X.1 X.2.1 dX4_holds_41 (by decide) ?_
        refine lv_iand X.1 X.2.1 dX4_holds_42 ?_
        refine lv_istore (lv' := [(6, .int ((nI (bv (b9 :: r9))) &&& 1)), (5, .int (-1)), (0, .ref a), (1, .int (nI kc)), (2, .ref fa), (3, .int (nI (bv (b9 :: r9)))), (4, .int (nI ((coC (cs.take kc)).length + k)))]) X.1 X.2.1 dX4_holds_43 hl (by decide) rfl (fun ls hl => ?_)
        refine lv_iload X.1 X.2.1 dX4_holds_45 (lv_at hl 1 rfl) ?_
        refine lv_iconst (v := (-1)) X.1 X.2.1 dX4_holds_47 (by decide) ?_
        refine lv_icmp_ne (tgt := 58) X.1 X.2.1 dX4_holds_48 (by decide) (fun c48 => ?_) (fun c48 => ?_)
        · exact absurd rfl c48
        · refine lv_iload_n X.1 X.2.1 dX4_holds_51 rfl (lv_at hl 5 rfl) ?_
          refine lv_iconst (v := 1) X.1 X.2.1 dX4_holds_52 (by decide) ?_
          refine lv_ixor X.1 X.2.1 dX4_holds_53 ?_
          refine lv_cv (show nI (bv (b9 :: r9)) ^^^ 1 = nI (bv ((!b9) :: r9)) from bx_not b9 (bv r9)) ?_
          refine lv_istore_n (lv' := [(3, .int (nI (bv ((!b9) :: r9)))), (6, .int ((nI (bv (b9 :: r9))) &&& 1)), (5, .int (-1)), (0, .ref a), (1, .int (nI kc)), (2, .ref fa), (4, .int (nI ((coC (cs.take kc)).length + k)))]) X.1 X.2.1 dX4_holds_54 rfl hl (by decide) rfl (fun ls hl => ?_)
          refine lv_goto (tgt := 139) X.1 X.2.1 dX4_holds_55 (by decide) ?_
          refine lv_iinc (v := nI (((coC (cs.take kc)).length + k) + 1)) (lv' := [(4, .int (nI (((coC (cs.take kc)).length + k) + 1))), (3, .int (nI (bv ((!b9) :: r9)))), (6, .int ((nI (bv (b9 :: r9))) &&& 1)), (5, .int (-1)), (0, .ref a), (1, .int (nI kc)), (2, .ref fa)]) X.1 X.2.1 dX4_holds_139 hl (k := 6) rfl (gn_inc (Eq.refl (nI ((coC (cs.take kc)).length + k))) 1) (by decide) rfl (fun ls hl => ?_)
          refine lv_goto (tgt := 20) X.1 X.2.1 dX4_holds_142 (by decide) ?_
          exact ih _ _ _ _ (by omega) ⟨⟨rfl, hn9, (by rw [hs9]; simp only [List.length_cons] at hlen ⊢; omega)⟩, (by rw [hs9]; exact lv_sub hl [4, 5, 6, 1, 0] rfl)⟩ hP hS
      · rw [ht] at hc9 hq9 hs9
        obtain ⟨a9, b9, r9, hst⟩ := list_2 (tOk_B hq9 (by omega)).1
        have hbv := bv_20 hlen
        rw [hst] at hl hs9 hbv hlen
        have hbv : bN a9 + 2 * bv (b9 :: r9) < 2 ^ 20 := hbv
        have hs9 : tSt f (XL.take (k + 1)) = (b9 && a9) :: r9 := hs9
        refine lv_aload_n X.1 X.2.1 dX4_holds_31 rfl (lv_at hl 0 rfl) ?_
        refine g_getr 6 5 X hK hP hT.1 rfl hinRX4 rfl (by decide) k28 (fun _ h => h) dX4_holds_32 (show va_rf (R a 5) = .ref (a + 4) from by rw [hT.2.2.2.2.2.2.2.2]; rfl) ?_
        refine lv_iload X.1 X.2.1 dX4_holds_35 (lv_at hl 4 rfl) ?_
        refine g_iald ((coC (cs.take kc)).length + k) X hK hP hT.2.2.2.2.1 (gIx_of (Eq.refl (nI ((coC (cs.take kc)).length + k))) (by omega) (by omega)) dX4_holds_37 (show I (a + 4) ((coC (cs.take kc)).length + k) = (-2) from hc9) ?_
        refine lv_istore (lv' := [(5, .int (-2)), (0, .ref a), (1, .int (nI kc)), (2, .ref fa), (3, .int (nI (bv (a9 :: b9 :: r9)))), (4, .int (nI ((coC (cs.take kc)).length + k)))]) X.1 X.2.1 dX4_holds_38 hl (by decide) rfl (fun ls hl => ?_)
        refine lv_iload_n X.1 X.2.1 dX4_holds_40 rfl (lv_at hl 4 rfl) ?_
        refine lv_iconst (v := 1) X.1 X.2.1 dX4_holds_41 (by decide) ?_
        refine lv_iand X.1 X.2.1 dX4_holds_42 ?_
        refine lv_cv (show nI (bv (a9 :: b9 :: r9)) &&& 1 = nI (bN a9) from bx_top a9 (bv (b9 :: r9)) (by omega)) ?_
        refine lv_istore (lv' := [(6, .int (nI (bN a9))), (5, .int (-2)), (0, .ref a), (1, .int (nI kc)), (2, .ref fa), (3, .int (nI (bv (a9 :: b9 :: r9)))), (4, .int (nI ((coC (cs.take kc)).length + k)))]) X.1 X.2.1 dX4_holds_43 hl (by decide) rfl (fun ls hl => ?_)
        refine lv_iload X.1 X.2.1 dX4_holds_45 (lv_at hl 1 rfl) ?_
        refine lv_iconst (v := (-1)) X.1 X.2.1 dX4_holds_47 (by decide) ?_
        refine lv_icmp_ne (tgt := 58) X.1 X.2.1 dX4_holds_48 (by decide) (fun c48 => ?_) (fun c48 => ?_)
        · refine lv_iload X.1 X.2.1 dX4_holds_58 (lv_at hl 1 rfl) ?_
          refine lv_bipush (v := (-2)) X.1 X.2.1 dX4_holds_60 (by decide) ?_
          refine lv_icmp_ne (tgt := 78) X.1 X.2.1 dX4_holds_62 (by decide) (fun c62 => ?_) (fun c62 => ?_)
          · exact absurd rfl c62
          · refine lv_iload_n X.1 X.2.1 dX4_holds_65 rfl (lv_at hl 5 rfl) ?_
            refine lv_iconst (v := 1) X.1 X.2.1 dX4_holds_66 (by decide) ?_
            refine lv_ishr X.1 X.2.1 dX4_holds_67 ?_
            refine lv_cv (show nI (bv (a9 :: b9 :: r9)) >>> ((1 : Int32) &&& 31) = nI (bv (b9 :: r9)) from bx_shr a9 (bv (b9 :: r9)) (by omega)) ?_
            refine lv_iload X.1 X.2.1 dX4_holds_68 (lv_at hl 0 rfl) ?_
            refine lv_bipush (v := (-2)) X.1 X.2.1 dX4_holds_70 (by decide) ?_
            refine lv_ior X.1 X.2.1 dX4_holds_72 ?_
            refine lv_iand X.1 X.2.1 dX4_holds_73 ?_
            refine lv_cv (show nI (bv (b9 :: r9)) &&& (nI (bN a9) ||| (-2)) = nI (bv ((b9 && a9) :: r9)) from bx_and a9 b9 (bv r9)) ?_
            refine lv_istore_n (lv' := [(3, .int (nI (bv ((b9 && a9) :: r9)))), (6, .int (nI (bN a9))), (5, .int (-2)), (0, .ref a), (1, .int (nI kc)), (2, .ref fa), (4, .int (nI ((coC (cs.take kc)).length + k)))]) X.1 X.2.1 dX4_holds_74 rfl hl (by decide) rfl (fun ls hl => ?_)
            refine lv_goto (tgt := 139) X.1 X.2.1 dX4_holds_75 (by decide) ?_
            refine lv_iinc (v := nI (((coC (cs.take kc)).length + k) + 1)) (lv' := [(4, .int (nI (((coC (cs.take kc)).length + k) + 1))), (3, .int (nI (bv ((b9 && a9) :: r9)))), (6, .int (nI (bN a9))), (5, .int (-2)), (0, .ref a), (1, .int (nI kc)), (2, .ref fa)]) X.1 X.2.1 dX4_holds_139 hl (k := 6) rfl (gn_inc (Eq.refl (nI ((coC (cs.take kc)).length + k))) 1) (by decide) rfl (fun ls hl => ?_)
            refine lv_goto (tgt := 20) X.1 X.2.1 dX4_holds_142 (by decide) ?_
            exact ih _ _ _ _ (by omega) ⟨⟨rfl, hn9, (by rw [hs9]; simp only [List.length_cons] at hlen ⊢; omega)⟩, (by rw [hs9]; exact lv_sub hl [4, 5, 6, 1, 0] rfl)⟩ hP hS
        · exact absurd c48 (by decide)
      · rw [ht] at hc9 hq9 hs9
        obtain ⟨a9, b9, r9, hst⟩ := list_2 (tOk_B hq9 (by omega)).1
        have hbv := bv_20 hlen
        rw [hst] at hl hs9 hbv hlen
        have hbv : bN a9 + 2 * bv (b9 :: r9) < 2 ^ 20 := hbv
        have hs9 : tSt f (XL.take (k + 1)) = (b9 || a9) :: r9 := hs9
        refine lv_aload_n X.1 X.2.1 dX4_holds_31 rfl (lv_at hl 0 rfl) ?_
        refine g_getr 6 5 X hK hP hT.1 rfl hinRX4 rfl (by decide) k28 (fun _ h => h) dX4_holds_32 (show va_rf (R a 5) = .ref (a + 4) from by rw [hT.2.2.2.2.2.2.2.2]; rfl) ?_
        refine lv_iload X.1 X.2.1 dX4_holds_35 (lv_at hl 4 rfl) ?_
        refine g_iald ((coC (cs.take kc)).length + k) X hK hP hT.2.2.2.2.1 (gIx_of (Eq.refl (nI ((coC (cs.take kc)).length + k))) (by omega) (by omega)) dX4_holds_37 (show I (a + 4) ((coC (cs.take kc)).length + k) = (-3) from hc9) ?_
        refine lv_istore (lv' := [(5, .int (-3)), (0, .ref a), (1, .int (nI kc)), (2, .ref fa), (3, .int (nI (bv (a9 :: b9 :: r9)))), (4, .int (nI ((coC (cs.take kc)).length + k)))]) X.1 X.2.1 dX4_holds_38 hl (by decide) rfl (fun ls hl => ?_)
        refine lv_iload_n X.1 X.2.1 dX4_holds_40 rfl (lv_at hl 4 rfl) ?_
        refine lv_iconst (v := 1) X.1 X.2.1 dX4_holds_41 (by decide) ?_
        refine lv_iand X.1 X.2.1 dX4_holds_42 ?_
        refine lv_cv (show nI (bv (a9 :: b9 :: r9)) &&& 1 = nI (bN a9) from bx_top a9 (bv (b9 :: r9)) (by omega)) ?_
        refine lv_istore (lv' := [(6, .int (nI (bN a9))), (5, .int (-3)), (0, .ref a), (1, .int (nI kc)), (2, .ref fa), (3, .int (nI (bv (a9 :: b9 :: r9)))), (4, .int (nI ((coC (cs.take kc)).length + k)))]) X.1 X.2.1 dX4_holds_43 hl (by decide) rfl (fun ls hl => ?_)
        refine lv_iload X.1 X.2.1 dX4_holds_45 (lv_at hl 1 rfl) ?_
        refine lv_iconst (v := (-1)) X.1 X.2.1 dX4_holds_47 (by decide) ?_
        refine lv_icmp_ne (tgt := 58) X.1 X.2.1 dX4_holds_48 (by decide) (fun c48 => ?_) (fun c48 => ?_)
        · refine lv_iload X.1 X.2.1 dX4_holds_58 (lv_at hl 1 rfl) ?_
          refine lv_bipush (v := (-2)) X.1 X.2.1 dX4_holds_60 (by decide) ?_
          refine lv_icmp_ne (tgt := 78) X.1 X.2.1 dX4_holds_62 (by decide) (fun c62 => ?_) (fun c62 => ?_)
          · refine lv_iload X.1 X.2.1 dX4_holds_78 (lv_at hl 1 rfl) ?_
            refine lv_bipush (v := (-3)) X.1 X.2.1 dX4_holds_80 (by decide) ?_
            refine lv_icmp_ne (tgt := 95) X.1 X.2.1 dX4_holds_82 (by decide) (fun c82 => ?_) (fun c82 => ?_)
            · exact absurd rfl c82
            · refine lv_iload_n X.1 X.2.1 dX4_holds_85 rfl (lv_at hl 5 rfl) ?_
              refine lv_iconst (v := 1) X.1 X.2.1 dX4_holds_86 (by decide) ?_
              refine lv_ishr X.1 X.2.1 dX4_holds_87 ?_
              refine lv_cv (show nI (bv (a9 :: b9 :: r9)) >>> ((1 : Int32) &&& 31) = nI (bv (b9 :: r9)) from bx_shr a9 (bv (b9 :: r9)) (by omega)) ?_
              refine lv_iload X.1 X.2.1 dX4_holds_88 (lv_at hl 0 rfl) ?_
              refine lv_ior X.1 X.2.1 dX4_holds_90 ?_
              refine lv_cv (show nI (bv (b9 :: r9)) ||| nI (bN a9) = nI (bv ((b9 || a9) :: r9)) from bx_or a9 b9 (bv r9)) ?_
              refine lv_istore_n (lv' := [(3, .int (nI (bv ((b9 || a9) :: r9)))), (6, .int (nI (bN a9))), (5, .int (-3)), (0, .ref a), (1, .int (nI kc)), (2, .ref fa), (4, .int (nI ((coC (cs.take kc)).length + k)))]) X.1 X.2.1 dX4_holds_91 rfl hl (by decide) rfl (fun ls hl => ?_)
              refine lv_goto (tgt := 139) X.1 X.2.1 dX4_holds_92 (by decide) ?_
              refine lv_iinc (v := nI (((coC (cs.take kc)).length + k) + 1)) (lv' := [(4, .int (nI (((coC (cs.take kc)).length + k) + 1))), (3, .int (nI (bv ((b9 || a9) :: r9)))), (6, .int (nI (bN a9))), (5, .int (-3)), (0, .ref a), (1, .int (nI kc)), (2, .ref fa)]) X.1 X.2.1 dX4_holds_139 hl (k := 6) rfl (gn_inc (Eq.refl (nI ((coC (cs.take kc)).length + k))) 1) (by decide) rfl (fun ls hl => ?_)
              refine lv_goto (tgt := 20) X.1 X.2.1 dX4_holds_142 (by decide) ?_
              exact ih _ _ _ _ (by omega) ⟨⟨rfl, hn9, (by rw [hs9]; simp only [List.length_cons] at hlen ⊢; omega)⟩, (by rw [hs9]; exact lv_sub hl [4, 5, 6, 1, 0] rfl)⟩ hP hS
          · exact absurd c62 (by decide)
        · exact absurd c48 (by decide)

def sY (f : Nat → Nat) (cs : Cls) (k : Nat) : Nat × Nat × Nat := (tRun f (flC (cs.take k)) ([], 0, 0, 0)).2
theorem sY_s {k : Nat} (hx : ∀ x ∈ cs, x.2.1 ≤ 2 ∧ x.2.2 ≤ 99 ∧ ∀ t ∈ x.1, t ≤ 10002) (h : tOk 20 (flC cs) 0) (hk : k < cs.length) : ∃ b, tSt f (cs.getD k ([], 0, 0)).1 = [b] ∧ tOk 20 ((cs.getD k ([], 0, 0)).1 ++ ([20000 + 100 * (cs.getD k ([], 0, 0)).2.1 + (cs.getD k ([], 0, 0)).2.2] ++ flC (cs.drop (k + 1)))) 0 ∧ sY f cs (k + 1) = (if b = true then (if (cs.getD k ([], 0, 0)).2.1 = 0 then ((sY f cs k).1 + (cs.getD k ([], 0, 0)).2.2, (sY f cs k).2) else if (cs.getD k ([], 0, 0)).2.1 = 1 then ((sY f cs k).1, (sY f cs k).2.1 + (cs.getD k ([], 0, 0)).2.2, (sY f cs k).2.2) else ((sY f cs k).1, (sY f cs k).2.1, (sY f cs k).2.2 + (cs.getD k ([], 0, 0)).2.2)) else sY f cs k) := by
  obtain ⟨h1, h2⟩ := tRun_cs (f := f) hx h k (by omega)
  have hd : cs.drop k = cs.getD k ([], 0, 0) :: cs.drop (k + 1) := by
    rw [List.drop_eq_getElem_cons hk]
    simp [List.getD_eq_getElem?_getD, hk]
  rw [hd] at h1
  obtain ⟨q1, q2, q3⟩ := hx _ (getD_mem hk)
  obtain ⟨b, e1, e2, -⟩ := tRun_cl (f := f) (y := sY f cs k) q3 q1 q2 h1
  refine ⟨b, e1, ?_, ?_⟩
  · have h3 : tOk 20 (clT (cs.getD k ([], 0, 0)) ++ flC (cs.drop (k + 1))) 0 := h1
    unfold clT at h3
    rw [List.append_assoc] at h3
    exact h3
  · show (tRun f (flC (cs.take (k + 1))) ([], 0, 0, 0)).2 = _
    rw [flC_take hk, tRun_app, show tRun f (flC (cs.take k)) ([], 0, 0, 0) = ([], sY f cs k) from Prod.ext h2 rfl, e2]
theorem gsl_p1 (a b n : Nat) : (nI a - nI b) + nI n = nI (a + n) - nI b := by
  rw [← nI_add, Int32.sub_eq_add_neg, Int32.sub_eq_add_neg, Int32.add_assoc, Int32.add_assoc, Int32.add_comm (-nI b)]
theorem gsl_e1 (a b n : Nat) : (nI a - nI b) + -nI n = nI a - nI (b + n) := by
  rw [← nI_add, Int32.sub_eq_add_neg, Int32.sub_eq_add_neg, Int32.neg_add, Int32.sub_eq_add_neg, Int32.add_assoc]
theorem sY_le (hx : ∀ x ∈ cs, x.2.1 ≤ 2 ∧ x.2.2 ≤ 99 ∧ ∀ t ∈ x.1, t ≤ 10002) (h : tOk 20 (flC cs) 0) : ∀ k, k ≤ cs.length → (sY f cs k).1 ≤ 99 * k ∧ (sY f cs k).2.1 ≤ 99 * k ∧ (sY f cs k).2.2 ≤ 99 * k
  | 0, _ => ⟨Nat.le_refl _, Nat.le_refl _, Nat.le_refl _⟩
  | k + 1, hk => by
    have ih := sY_le hx h k (by omega)
    obtain ⟨b, -, -, e⟩ := sY_s (f := f) hx h (show k < cs.length by omega)
    have q := (hx _ (getD_mem (kc := k) (by omega))).2.1
    rw [e]
    split
    · split
      · dsimp only; omega
      · split <;> (dsimp only; omega)
    · omega

set_option maxHeartbeats 4000000 in
set_option maxRecDepth 100000 in
/-- d_slower -/
theorem d_slower {fl : List Nat} (hT : cSt a T R) (hsi : cSi a I fl ti sh) (hok : tOk 20 fl 0) (htf : T fa = (1, 6)) (hff : ∀ j, j < 6 → I fa j = nI (f j)) (hfs : ∀ j, f j < 2 ^ 30) : Met l yX4_slower wsX4_slower ({ frames := 2, cells := 0, slots := 0, locals := 49 }) (va_Pc [.ref a, .ref fa] (gW0 s0 D cy B (z, T, I, R))) (va_Qi (fun r u => r = nI (sX fl f).1 - nI (sX fl f).2.1 ∧ (z, T, I, R) = u) (fun u t => gW1 D cy B u t) (gA B)) 0 0 (gA B) := by
  refine g_met (maxL := 4) (ret := (some .int)) (by decide) rfl (Nat.le_of_ble_eq_true rfl) (fun p e s m args below meth c ls X hr hlk hnm hK hP hC hS hl => ?_)
  have hl : lv_has ls 4 [(0, .ref a), (1, .ref fa)] := hl
  have hP : gP D cy B z T I R s.heap := hP
  have hB : B ≤ s.heap.size := by rw [hP.1]; exact hP.2.1
  have hinRX4 : ∀ w ∈ wsX40, w ∈ wsX4_slower := fun _ h => List.mem_cons_of_mem _ (List.mem_append_right _ h)
  have k18 : Cond.fieldLink RX4 18 "BarrowPlank$Site" "words" "[I" ∈ wsX4_slower := by decide +kernel
  have k22 : Cond.fieldLink RX4 22 "BarrowPlank$Site" "numbers" "[I" ∈ wsX4_slower := by decide +kernel
  have k46 : Cond.fieldLink RX4 46 "BarrowPlank$Site" "clauses" "I" ∈ wsX4_slower := by decide +kernel
  obtain ⟨tiq, shq, cs, rfl, hsr⟩ := hsi
  have hcl := hsr.1
  have hx9 := hsr.2.2.2.2.2.2.1
  refine lv_iconst (v := 0) X.1 X.2.1 dX4_slower_0 (by decide) ?_
  refine lv_istore_n (lv' := [(2, .int 0), (0, .ref a), (1, .ref fa)]) X.1 X.2.1 dX4_slower_1 rfl hl (by decide) rfl (fun ls hl => ?_)
  refine lv_iconst (v := 0) X.1 X.2.1 dX4_slower_2 (by decide) ?_
  refine lv_istore_n (lv' := [(3, .int 0), (2, .int 0), (0, .ref a), (1, .ref fa)]) X.1 X.2.1 dX4_slower_3 rfl hl (by decide) rfl (fun ls hl => ?_)
  refine i_loop (I := I) cs.length 4 [] (fun k Q9 ls => I = Q9 ∧ lv_has ls 4 [(0, .ref a), (1, .ref fa), (2, .int (nI (sY f cs k).1 - nI (sY f cs k).2.1)), (3, .int (nI k))]) 0 (by omega) ⟨rfl, (by rw [show nI (sY f cs 0).1 - nI (sY f cs 0).2.1 = 0 from Int32.sub_self _]; exact lv_sub hl [2, 3, 1, 0] rfl)⟩ hP hS (fun k Q9 H locs ls hk hiv hP hS ih => ?_)
  obtain ⟨rfl, hl⟩ := hiv
  have hyl := sY_le (f := f) hx9 hok k hk
  refine lv_iload_n X.1 X.2.1 dX4_slower_4 rfl (lv_at hl 3 rfl) ?_
  refine lv_aload_n X.1 X.2.1 dX4_slower_5 rfl (lv_at hl 0 rfl) ?_
  refine g_geti 6 6 X hK hP hT.1 rfl hinRX4 rfl (by decide) k46 (fun _ h => h) dX4_slower_6 (show I a 6 = nI cs.length from hsr.2.2.1) ?_
  refine lv_icmp_ge (tgt := 65) X.1 X.2.1 dX4_slower_9 (by decide) (fun c9 => ?_) (fun c9 => ?_)
  · have n9 : cs.length ≤ k := gq_le c9 (Eq.refl (nI cs.length)) (Eq.refl (nI k)) (by omega) (by omega)
    refine lv_iload_n X.1 X.2.1 dX4_slower_65 rfl (lv_at hl 2 rfl) ?_
    exact g_iret (f := fun u => u) (z, T, I, R) X hr hlk hK hP hS dX4_slower_66 ⟨(by rw [show flC cs = flC (cs.take k) by rw [show k = cs.length by omega, List.take_length]]; rfl), rfl⟩
  · have n9 : k < cs.length := gq_nle c9 (Eq.refl (nI cs.length)) (Eq.refl (nI k)) (by omega) (by omega)
    have hkc : k < cs.length := by omega
    obtain ⟨b9, hb9, ho9, hY9⟩ := sY_s (f := f) hx9 hok hkc
    have hw9 := (hx9 _ (getD_mem hkc)).1
    have hn9 := (hx9 _ (getD_mem hkc)).2.1
    refine lv_aload_n X.1 X.2.1 dX4_slower_12 rfl (lv_at hl 0 rfl) ?_
    refine g_getr 6 2 X hK hP hT.1 rfl hinRX4 rfl (by decide) k18 (fun _ h => h) dX4_slower_13 (show va_rf (R a 2) = .ref (a + 1) from by rw [hT.2.2.2.2.2.1]; rfl) ?_
    refine lv_iload_n X.1 X.2.1 dX4_slower_16 rfl (lv_at hl 3 rfl) ?_
    refine g_iald k X hK hP hT.2.1 (gIx_of (Eq.refl (nI k)) (by omega) (by omega)) dX4_slower_17 (show I (a + 1) k = nI ((cs.getD k ([], 0, 0)).2.1) from (hsr.2.2.2.2.1 k hkc).1) ?_
    refine lv_iconst (v := 2) X.1 X.2.1 dX4_slower_18 (by decide) ?_
    refine lv_icmp_eq (tgt := 59) X.1 X.2.1 dX4_slower_19 (by decide) (fun c19 => ?_) (fun c19 => ?_)
    · have n19 : (cs.getD k ([], 0, 0)).2.1 = 2 := gq_eq c19 (Eq.refl (nI ((cs.getD k ([], 0, 0)).2.1))) (show (2 : Int32) = nI 2 from rfl) (by omega) (by omega)
      refine lv_iinc (v := nI (k + 1)) (lv' := [(3, .int (nI (k + 1))), (0, .ref a), (1, .ref fa), (2, .int (nI (sY f cs k).1 - nI (sY f cs k).2.1))]) X.1 X.2.1 dX4_slower_59 hl (k := 3) rfl (gn_inc (Eq.refl (nI k)) 1) (by decide) rfl (fun ls hl => ?_)
      refine lv_goto (tgt := 4) X.1 X.2.1 dX4_slower_62 (by decide) ?_
      have hv9 : nI (sY f cs k).1 - nI (sY f cs k).2.1 = nI (sY f cs (k + 1)).1 - nI (sY f cs (k + 1)).2.1 := by
        rw [hY9]
        rw [n19]
        split <;> rfl
      exact ih _ _ _ _ (by omega) ⟨rfl, (by rw [← hv9]; exact lv_sub hl [1, 2, 3, 0] rfl)⟩ hP hS
    · have n19 : ¬ (cs.getD k ([], 0, 0)).2.1 = 2 := gq_ne c19 (Eq.refl (nI ((cs.getD k ([], 0, 0)).2.1))) (show (2 : Int32) = nI 2 from rfl) (by omega) (by omega)
      refine lv_aload_n X.1 X.2.1 dX4_slower_22 rfl (lv_at hl 0 rfl) ?_
      refine lv_iload_n X.1 X.2.1 dX4_slower_23 rfl (lv_at hl 3 rfl) ?_
      refine lv_aload_n X.1 X.2.1 dX4_slower_24 rfl (lv_at hl 1 rfl) ?_
      refine g_run_i (f := fun u => u) (g_runV (k := 6) [.int (nI k), .ref fa] X hK hP hS hC hB (d_holds hT hsr hkc htf hff hfs hb9 ho9) (cwV 2 X.2.2.2.2 gX4_slower_X4_holds rfl rfl rfl (by decide +kernel) ⟨Nat.le_of_ble_eq_true rfl, Nat.le_of_ble_eq_true rfl⟩) hT.1 rfl rfl hl.1 rfl (Nat.le_of_ble_eq_true rfl) dX4_slower_25 (by exact ⟨Nat.zero_le _, Nat.zero_le _⟩)) hS (fun r u H locs hq hP hS => ?_)
      obtain ⟨rfl, rfl⟩ := hq
      have hP : gP D cy B z T I R H := hP
      refine lv_if_eq (tgt := 59) X.1 X.2.1 dX4_slower_28 (by decide) (fun c28 => ?_) (fun c28 => ?_)
      · refine lv_iinc (v := nI (k + 1)) (lv' := [(3, .int (nI (k + 1))), (0, .ref a), (1, .ref fa), (2, .int (nI (sY f cs k).1 - nI (sY f cs k).2.1))]) X.1 X.2.1 dX4_slower_59 hl (k := 3) rfl (gn_inc (Eq.refl (nI k)) 1) (by decide) rfl (fun ls hl => ?_)
        refine lv_goto (tgt := 4) X.1 X.2.1 dX4_slower_62 (by decide) ?_
        have hv9 : nI (sY f cs k).1 - nI (sY f cs k).2.1 = nI (sY f cs (k + 1)).1 - nI (sY f cs (k + 1)).2.1 := by
          rw [hY9]
          rw [if_neg (by rw [bI_0 c28]; decide)]
        exact ih _ _ _ _ (by omega) ⟨rfl, (by rw [← hv9]; exact lv_sub hl [1, 2, 3, 0] rfl)⟩ hP hS
      · refine lv_iload_n X.1 X.2.1 dX4_slower_31 rfl (lv_at hl 2 rfl) ?_
        refine lv_aload_n X.1 X.2.1 dX4_slower_32 rfl (lv_at hl 0 rfl) ?_
        refine g_getr 6 2 X hK hP hT.1 rfl hinRX4 rfl (by decide) k18 (fun _ h => h) dX4_slower_33 (show va_rf (R a 2) = .ref (a + 1) from by rw [hT.2.2.2.2.2.1]; rfl) ?_
        refine lv_iload_n X.1 X.2.1 dX4_slower_36 rfl (lv_at hl 3 rfl) ?_
        refine g_iald k X hK hP hT.2.1 (gIx_of (Eq.refl (nI k)) (by omega) (by omega)) dX4_slower_37 (show I (a + 1) k = nI ((cs.getD k ([], 0, 0)).2.1) from (hsr.2.2.2.2.1 k hkc).1) ?_
        refine lv_if_ne (tgt := 50) X.1 X.2.1 dX4_slower_38 (by decide) (fun c38 => ?_) (fun c38 => ?_)
        · have n38 : ¬ (cs.getD k ([], 0, 0)).2.1 = 0 := gq_ne c38 (Eq.refl (nI ((cs.getD k ([], 0, 0)).2.1))) (show (0 : Int32) = nI 0 from rfl) (by omega) (by omega)
          refine lv_aload_n X.1 X.2.1 dX4_slower_50 rfl (lv_at hl 0 rfl) ?_
          refine g_getr 6 3 X hK hP hT.1 rfl hinRX4 rfl (by decide) k22 (fun _ h => h) dX4_slower_51 (show va_rf (R a 3) = .ref (a + 2) from by rw [hT.2.2.2.2.2.2.1]; rfl) ?_
          refine lv_iload_n X.1 X.2.1 dX4_slower_54 rfl (lv_at hl 3 rfl) ?_
          refine g_iald k X hK hP hT.2.2.1 (gIx_of (Eq.refl (nI k)) (by omega) (by omega)) dX4_slower_55 (show I (a + 2) k = nI ((cs.getD k ([], 0, 0)).2.2) from (hsr.2.2.2.2.1 k hkc).2.1) ?_
          refine lv_ineg X.1 X.2.1 dX4_slower_56 ?_
          refine lv_iadd X.1 X.2.1 dX4_slower_57 ?_
          refine lv_istore_n (lv' := [(2, .int ((nI (sY f cs k).1 - nI (sY f cs k).2.1) + (-(nI ((cs.getD k ([], 0, 0)).2.2))))), (0, .ref a), (1, .ref fa), (3, .int (nI k))]) X.1 X.2.1 dX4_slower_58 rfl hl (by decide) rfl (fun ls hl => ?_)
          refine lv_iinc (v := nI (k + 1)) (lv' := [(3, .int (nI (k + 1))), (2, .int ((nI (sY f cs k).1 - nI (sY f cs k).2.1) + (-(nI ((cs.getD k ([], 0, 0)).2.2))))), (0, .ref a), (1, .ref fa)]) X.1 X.2.1 dX4_slower_59 hl (k := 3) rfl (gn_inc (Eq.refl (nI k)) 1) (by decide) rfl (fun ls hl => ?_)
          refine lv_goto (tgt := 4) X.1 X.2.1 dX4_slower_62 (by decide) ?_
          have hv9 : (nI (sY f cs k).1 - nI (sY f cs k).2.1) + (-(nI ((cs.getD k ([], 0, 0)).2.2))) = nI (sY f cs (k + 1)).1 - nI (sY f cs (k + 1)).2.1 := by
            rw [hY9]
            rw [if_pos (bI_1 c28)]
            rw [if_neg n38, if_pos (show (cs.getD k ([], 0, 0)).2.1 = 1 by omega)]
            exact gsl_e1 _ _ _
          exact ih _ _ _ _ (by omega) ⟨rfl, (by rw [← hv9]; exact lv_sub hl [2, 3, 1, 0] rfl)⟩ hP hS
        · have n38 : (cs.getD k ([], 0, 0)).2.1 = 0 := gq_eq c38 (Eq.refl (nI ((cs.getD k ([], 0, 0)).2.1))) (show (0 : Int32) = nI 0 from rfl) (by omega) (by omega)
          refine lv_aload_n X.1 X.2.1 dX4_slower_41 rfl (lv_at hl 0 rfl) ?_
          refine g_getr 6 3 X hK hP hT.1 rfl hinRX4 rfl (by decide) k22 (fun _ h => h) dX4_slower_42 (show va_rf (R a 3) = .ref (a + 2) from by rw [hT.2.2.2.2.2.2.1]; rfl) ?_
          refine lv_iload_n X.1 X.2.1 dX4_slower_45 rfl (lv_at hl 3 rfl) ?_
          refine g_iald k X hK hP hT.2.2.1 (gIx_of (Eq.refl (nI k)) (by omega) (by omega)) dX4_slower_46 (show I (a + 2) k = nI ((cs.getD k ([], 0, 0)).2.2) from (hsr.2.2.2.2.1 k hkc).2.1) ?_
          refine lv_goto (tgt := 57) X.1 X.2.1 dX4_slower_47 (by decide) ?_
          refine lv_iadd X.1 X.2.1 dX4_slower_57 ?_
          refine lv_istore_n (lv' := [(2, .int ((nI (sY f cs k).1 - nI (sY f cs k).2.1) + (nI ((cs.getD k ([], 0, 0)).2.2)))), (0, .ref a), (1, .ref fa), (3, .int (nI k))]) X.1 X.2.1 dX4_slower_58 rfl hl (by decide) rfl (fun ls hl => ?_)
          refine lv_iinc (v := nI (k + 1)) (lv' := [(3, .int (nI (k + 1))), (2, .int ((nI (sY f cs k).1 - nI (sY f cs k).2.1) + (nI ((cs.getD k ([], 0, 0)).2.2)))), (0, .ref a), (1, .ref fa)]) X.1 X.2.1 dX4_slower_59 hl (k := 3) rfl (gn_inc (Eq.refl (nI k)) 1) (by decide) rfl (fun ls hl => ?_)
          refine lv_goto (tgt := 4) X.1 X.2.1 dX4_slower_62 (by decide) ?_
          have hv9 : (nI (sY f cs k).1 - nI (sY f cs k).2.1) + (nI ((cs.getD k ([], 0, 0)).2.2)) = nI (sY f cs (k + 1)).1 - nI (sY f cs (k + 1)).2.1 := by
            rw [hY9]
            rw [if_pos (bI_1 c28)]
            rw [if_pos n38]
            exact gsl_p1 _ _ _
          exact ih _ _ _ _ (by omega) ⟨rfl, (by rw [← hv9]; exact lv_sub hl [2, 3, 1, 0] rfl)⟩ hP hS

set_option maxHeartbeats 4000000 in
set_option maxRecDepth 100000 in
/-- d_lost -/
theorem d_lost {fl : List Nat} (hT : cSt a T R) (hsi : cSi a I fl ti sh) (hok : tOk 20 fl 0) (htf : T fa = (1, 6)) (hff : ∀ j, j < 6 → I fa j = nI (f j)) (hfs : ∀ j, f j < 2 ^ 30) : Met l yX4_lost wsX4_lost ({ frames := 2, cells := 0, slots := 0, locals := 49 }) (va_Pc [.ref a, .ref fa] (gW0 s0 D cy B (z, T, I, R))) (va_Qi (fun r u => r = nI (sX fl f).2.2 ∧ (z, T, I, R) = u) (fun u t => gW1 D cy B u t) (gA B)) 0 0 (gA B) := by
  refine g_met (maxL := 4) (ret := (some .int)) (by decide) rfl (Nat.le_of_ble_eq_true rfl) (fun p e s m args below meth c ls X hr hlk hnm hK hP hC hS hl => ?_)
  have hl : lv_has ls 4 [(0, .ref a), (1, .ref fa)] := hl
  have hP : gP D cy B z T I R s.heap := hP
  have hB : B ≤ s.heap.size := by rw [hP.1]; exact hP.2.1
  have hinRX4 : ∀ w ∈ wsX40, w ∈ wsX4_lost := fun _ h => List.mem_cons_of_mem _ (List.mem_append_right _ h)
  have k18 : Cond.fieldLink RX4 18 "BarrowPlank$Site" "words" "[I" ∈ wsX4_lost := by decide +kernel
  have k22 : Cond.fieldLink RX4 22 "BarrowPlank$Site" "numbers" "[I" ∈ wsX4_lost := by decide +kernel
  have k46 : Cond.fieldLink RX4 46 "BarrowPlank$Site" "clauses" "I" ∈ wsX4_lost := by decide +kernel
  obtain ⟨tiq, shq, cs, rfl, hsr⟩ := hsi
  have hcl := hsr.1
  have hx9 := hsr.2.2.2.2.2.2.1
  refine lv_iconst (v := 0) X.1 X.2.1 dX4_lost_0 (by decide) ?_
  refine lv_istore_n (lv' := [(2, .int 0), (0, .ref a), (1, .ref fa)]) X.1 X.2.1 dX4_lost_1 rfl hl (by decide) rfl (fun ls hl => ?_)
  refine lv_iconst (v := 0) X.1 X.2.1 dX4_lost_2 (by decide) ?_
  refine lv_istore_n (lv' := [(3, .int 0), (2, .int 0), (0, .ref a), (1, .ref fa)]) X.1 X.2.1 dX4_lost_3 rfl hl (by decide) rfl (fun ls hl => ?_)
  refine i_loop (I := I) cs.length 4 [] (fun k Q9 ls => I = Q9 ∧ lv_has ls 4 [(0, .ref a), (1, .ref fa), (2, .int (nI ((sY f cs k).2.2))), (3, .int (nI k))]) 0 (by omega) ⟨rfl, lv_sub hl [2, 3, 1, 0] rfl⟩ hP hS (fun k Q9 H locs ls hk hiv hP hS ih => ?_)
  obtain ⟨rfl, hl⟩ := hiv
  have hyl := sY_le (f := f) hx9 hok k hk
  refine lv_iload_n X.1 X.2.1 dX4_lost_4 rfl (lv_at hl 3 rfl) ?_
  refine lv_aload_n X.1 X.2.1 dX4_lost_5 rfl (lv_at hl 0 rfl) ?_
  refine g_geti 6 6 X hK hP hT.1 rfl hinRX4 rfl (by decide) k46 (fun _ h => h) dX4_lost_6 (show I a 6 = nI cs.length from hsr.2.2.1) ?_
  refine lv_icmp_ge (tgt := 46) X.1 X.2.1 dX4_lost_9 (by decide) (fun c9 => ?_) (fun c9 => ?_)
  · have n9 : cs.length ≤ k := gq_le c9 (Eq.refl (nI cs.length)) (Eq.refl (nI k)) (by omega) (by omega)
    refine lv_iload_n X.1 X.2.1 dX4_lost_46 rfl (lv_at hl 2 rfl) ?_
    exact g_iret (f := fun u => u) (z, T, I, R) X hr hlk hK hP hS dX4_lost_47 ⟨(by rw [show flC cs = flC (cs.take k) by rw [show k = cs.length by omega, List.take_length]]; rfl), rfl⟩
  · have n9 : k < cs.length := gq_nle c9 (Eq.refl (nI cs.length)) (Eq.refl (nI k)) (by omega) (by omega)
    have hkc : k < cs.length := by omega
    obtain ⟨b9, hb9, ho9, hY9⟩ := sY_s (f := f) hx9 hok hkc
    have hw9 := (hx9 _ (getD_mem hkc)).1
    have hn9 := (hx9 _ (getD_mem hkc)).2.1
    refine lv_aload_n X.1 X.2.1 dX4_lost_12 rfl (lv_at hl 0 rfl) ?_
    refine g_getr 6 2 X hK hP hT.1 rfl hinRX4 rfl (by decide) k18 (fun _ h => h) dX4_lost_13 (show va_rf (R a 2) = .ref (a + 1) from by rw [hT.2.2.2.2.2.1]; rfl) ?_
    refine lv_iload_n X.1 X.2.1 dX4_lost_16 rfl (lv_at hl 3 rfl) ?_
    refine g_iald k X hK hP hT.2.1 (gIx_of (Eq.refl (nI k)) (by omega) (by omega)) dX4_lost_17 (show I (a + 1) k = nI ((cs.getD k ([], 0, 0)).2.1) from (hsr.2.2.2.2.1 k hkc).1) ?_
    refine lv_iconst (v := 2) X.1 X.2.1 dX4_lost_18 (by decide) ?_
    refine lv_icmp_ne (tgt := 40) X.1 X.2.1 dX4_lost_19 (by decide) (fun c19 => ?_) (fun c19 => ?_)
    · have n19 : ¬ (cs.getD k ([], 0, 0)).2.1 = 2 := gq_ne c19 (Eq.refl (nI ((cs.getD k ([], 0, 0)).2.1))) (show (2 : Int32) = nI 2 from rfl) (by omega) (by omega)
      refine lv_iinc (v := nI (k + 1)) (lv' := [(3, .int (nI (k + 1))), (0, .ref a), (1, .ref fa), (2, .int (nI ((sY f cs k).2.2)))]) X.1 X.2.1 dX4_lost_40 hl (k := 3) rfl (gn_inc (Eq.refl (nI k)) 1) (by decide) rfl (fun ls hl => ?_)
      refine lv_goto (tgt := 4) X.1 X.2.1 dX4_lost_43 (by decide) ?_
      have hv9 : nI ((sY f cs k).2.2) = nI ((sY f cs (k + 1)).2.2) := by
        rw [hY9]
        split
        · by_cases q0 : (cs.getD k ([], 0, 0)).2.1 = 0
          · rw [if_pos q0]
          · rw [if_neg q0, if_pos (show (cs.getD k ([], 0, 0)).2.1 = 1 by omega)]
        · rfl
      exact ih _ _ _ _ (by omega) ⟨rfl, (by rw [← hv9]; exact lv_sub hl [1, 2, 3, 0] rfl)⟩ hP hS
    · have n19 : (cs.getD k ([], 0, 0)).2.1 = 2 := gq_eq c19 (Eq.refl (nI ((cs.getD k ([], 0, 0)).2.1))) (show (2 : Int32) = nI 2 from rfl) (by omega) (by omega)
      refine lv_aload_n X.1 X.2.1 dX4_lost_22 rfl (lv_at hl 0 rfl) ?_
      refine lv_iload_n X.1 X.2.1 dX4_lost_23 rfl (lv_at hl 3 rfl) ?_
      refine lv_aload_n X.1 X.2.1 dX4_lost_24 rfl (lv_at hl 1 rfl) ?_
      refine g_run_i (f := fun u => u) (g_runV (k := 6) [.int (nI k), .ref fa] X hK hP hS hC hB (d_holds hT hsr hkc htf hff hfs hb9 ho9) (cwV 2 X.2.2.2.2 gX4_lost_X4_holds rfl rfl rfl (by decide +kernel) ⟨Nat.le_of_ble_eq_true rfl, Nat.le_of_ble_eq_true rfl⟩) hT.1 rfl rfl hl.1 rfl (Nat.le_of_ble_eq_true rfl) dX4_lost_25 (by exact ⟨Nat.zero_le _, Nat.zero_le _⟩)) hS (fun r u H locs hq hP hS => ?_)
      obtain ⟨rfl, rfl⟩ := hq
      have hP : gP D cy B z T I R H := hP
      refine lv_if_eq (tgt := 40) X.1 X.2.1 dX4_lost_28 (by decide) (fun c28 => ?_) (fun c28 => ?_)
      · refine lv_iinc (v := nI (k + 1)) (lv' := [(3, .int (nI (k + 1))), (0, .ref a), (1, .ref fa), (2, .int (nI ((sY f cs k).2.2)))]) X.1 X.2.1 dX4_lost_40 hl (k := 3) rfl (gn_inc (Eq.refl (nI k)) 1) (by decide) rfl (fun ls hl => ?_)
        refine lv_goto (tgt := 4) X.1 X.2.1 dX4_lost_43 (by decide) ?_
        have hv9 : nI ((sY f cs k).2.2) = nI ((sY f cs (k + 1)).2.2) := by
          rw [hY9]
          rw [if_neg (by rw [bI_0 c28]; decide)]
        exact ih _ _ _ _ (by omega) ⟨rfl, (by rw [← hv9]; exact lv_sub hl [1, 2, 3, 0] rfl)⟩ hP hS
      · refine lv_iload_n X.1 X.2.1 dX4_lost_31 rfl (lv_at hl 2 rfl) ?_
        refine lv_aload_n X.1 X.2.1 dX4_lost_32 rfl (lv_at hl 0 rfl) ?_
        refine g_getr 6 3 X hK hP hT.1 rfl hinRX4 rfl (by decide) k22 (fun _ h => h) dX4_lost_33 (show va_rf (R a 3) = .ref (a + 2) from by rw [hT.2.2.2.2.2.2.1]; rfl) ?_
        refine lv_iload_n X.1 X.2.1 dX4_lost_36 rfl (lv_at hl 3 rfl) ?_
        refine g_iald k X hK hP hT.2.2.1 (gIx_of (Eq.refl (nI k)) (by omega) (by omega)) dX4_lost_37 (show I (a + 2) k = nI ((cs.getD k ([], 0, 0)).2.2) from (hsr.2.2.2.2.1 k hkc).2.1) ?_
        refine lv_iadd X.1 X.2.1 dX4_lost_38 ?_
        refine lv_istore_n (lv' := [(2, .int ((nI ((sY f cs k).2.2)) + (nI ((cs.getD k ([], 0, 0)).2.2)))), (0, .ref a), (1, .ref fa), (3, .int (nI k))]) X.1 X.2.1 dX4_lost_39 rfl hl (by decide) rfl (fun ls hl => ?_)
        refine lv_iinc (v := nI (k + 1)) (lv' := [(3, .int (nI (k + 1))), (2, .int ((nI ((sY f cs k).2.2)) + (nI ((cs.getD k ([], 0, 0)).2.2)))), (0, .ref a), (1, .ref fa)]) X.1 X.2.1 dX4_lost_40 hl (k := 3) rfl (gn_inc (Eq.refl (nI k)) 1) (by decide) rfl (fun ls hl => ?_)
        refine lv_goto (tgt := 4) X.1 X.2.1 dX4_lost_43 (by decide) ?_
        have hv9 : (nI ((sY f cs k).2.2)) + (nI ((cs.getD k ([], 0, 0)).2.2)) = nI ((sY f cs (k + 1)).2.2) := by
          rw [hY9]
          rw [if_pos (bI_1 c28), if_neg (by omega), if_neg (by omega)]
          exact (gn_add (Eq.refl (nI ((sY f cs k).2.2))) (Eq.refl (nI ((cs.getD k ([], 0, 0)).2.2))))
        exact ih _ _ _ _ (by omega) ⟨rfl, (by rw [← hv9]; exact lv_sub hl [2, 3, 1, 0] rfl)⟩ hP hS

end PE