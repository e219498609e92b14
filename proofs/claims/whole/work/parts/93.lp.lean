section LP
variable {p : Program} {l : Launch} {e : Env} {s : State} {m : MethodId} {args : Array Value} {below : List Frame} {meth : Method} {c : Code} {D : va_G} {cy : Nat → ClassId} {b L q C E : Nat} {ad : Nat → Nat} {xs : Nat → Int32} {Q : State → Prop}
set_option maxRecDepth 100000 in
set_option maxHeartbeats 4000000 in
/-- one turn -/
theorem lw_turn {k : Nat} {x : gSt} {H : Heap} {locs : List Loc} {cells slots : Nat} {ls : Array Slot} (X : CallFix p m c cL_law 4 s args wsL_law RL) (hK : va_K D vwCl (gtys cy) s) (hG : jG s s.heap.size ad C E) (hE : E < s.heap.size) (hX : va_X b L xs s s.heap) (hbl : b < s.heap.size) (hL : L ≤ 384) (hi6 : 6 * k + 6 ≤ L) (hl : lv_has ls 4 [(0, .ref b), (1, .ref q), (2, .ref (q + 53)), (3, .int (nI (6 * k)))]) (hJ : jI q E ad (300000 * k) (140000 * k + 1) x) (hP : gP D cy s.heap.size x.1 x.2.1 x.2.2.1 x.2.2.2 H) (hS : va_S (gA s.heap.size) s.heap H locs) (hr : cells ≤ 65 + 8 * k ∧ slots ≤ 3400 + 138 * k) (kk : ∀ (u : gSt) (H1 : Heap) (l1 : List Loc), jI q E ad (300000 * k + 300000) (140000 * k + 1 + 140000) u → gP D cy s.heap.size u.1 u.2.1 u.2.2.1 u.2.2.2 H1 → va_S (gA s.heap.size) s.heap H1 l1 → W p l e room_1 s m args below meth c H1 l1 (cells + 8) (slots + 138) Q (F0 m 1021 ls [])) : W p l e room_1 s m args below meth c H locs cells slots Q (F0 m 27 ls []) := by
  obtain ⟨z, T, I, R⟩ := x
  obtain ⟨σ, fl, ti, sh, tl, im, σi, fi, t2, s2, M, hC, hA, hM, hMd, hMI⟩ := hJ
  have hC : jC q E ad z T I R σ fl ti sh tl im σi fi t2 s2 := hC
  have hMd : gMod (q + 53) T R := hMd
  have hMI : ∀ k j, k < 12 → I (q + 53 + k) j = M k j := hMI
  have hP : gP D cy s.heap.size z T I R H := hP
  have hTq : T q = (21, 0) := hC.2.1.2.2.2.1
  have hbA : ¬ gA s.heap.size b := s_A b hbl
  have hCs : gCst s s.heap.size s := ⟨State.WarmedH.refl s, Nat.le_refl _, fun _ _ => rfl⟩
  have hlt : ∀ c, (T c).1 ≠ 0 → c < z := fun c h => hP.lt h
  have hE0 : (T E).1 = 0 := Classical.not_not.mp fun g => Nat.not_le.mpr hE (hP.2.2.1 E g)
  have hKb : 300000 * k ≤ 24000000 := by omega
  have hτb : 140000 * k + 1 + 200000 < 2 ^ 30 := by omega
  have hr2 : cells + 8 ≤ 600000 ∧ slots + 138 ≤ 7302250 := by omega
  refine lv_aload_n X.1 X.2.1 dL_law_27 rfl (lv_at hl 0 rfl) ?_
  refine lv_iload_n X.1 X.2.1 dL_law_28 rfl (lv_at hl 3 rfl) ?_
  refine va_sld X.1 X.2.1 hX hbl hbA hS (vp_in_nI (show 6 * k < L by omega) (by omega)) dL_law_29 ?_
  refine lv_bipush (v := 31) X.1 X.2.1 dL_law_30 (by decide) ?_
  refine lv_iand X.1 X.2.1 dL_law_32 ?_
  refine lv_cv (pk_and _ 5 (by decide)) ?_
  generalize hv : (xs (nI (6 * k)).toNatClampNeg).toBitVec.toNat % 2 ^ 5 = v
  have hv31 : v < 32 := by rw [← hv]; exact Nat.mod_lt _ (by decide)
  by_cases h25 : v ≤ 25
  · rcases (show v = 0 ∨ v = 1 ∨ v = 2 ∨ v = 3 ∨ v = 4 ∨ v = 5 ∨ v = 6 ∨ v = 7 ∨ v = 8 ∨ v = 9 ∨ v = 10 ∨ v = 11 ∨ v = 12 ∨ v = 13 ∨ v = 14 ∨ v = 15 ∨ v = 16 ∨ v = 17 ∨ v = 18 ∨ v = 19 ∨ v = 20 ∨ v = 21 ∨ v = 22 ∨ v = 23 ∨ v = 24 ∨ v = 25 by omega) with rfl | rfl | rfl | rfl | rfl | rfl | rfl | rfl | rfl | rfl | rfl | rfl | rfl | rfl | rfl | rfl | rfl | rfl | rfl | rfl | rfl | rfl | rfl | rfl | rfl | rfl
    · refine lv_tableIn (off := 119) (tgt := 152) X.1 X.2.1 dL_law_33 (by decide) (by decide) (by decide) (by decide) ?_
      exact lw_feed (x := (z, T, I, R)) (Inv := jI q E ad (300000 * k + 300000) (140000 * k + 1 + 140000)) X hK hCs (Nat.le_refl _) hX hbl hbA hl hi6 hL hP hS hTq (jd_feed hG hC hA hM hMd hMI hlt hE0 hKb hτb (xs (6 * k + 1))) hr2 kk
    · refine lv_tableIn (off := 142) (tgt := 175) X.1 X.2.1 dL_law_33 (by decide) (by decide) (by decide) (by decide) ?_
      exact lw_site (x := (z, T, I, R)) (Inv := jI q E ad (300000 * k + 300000) (140000 * k + 1 + 140000)) X hK hCs (Nat.le_refl _) hX hbl hbA hl hi6 hL hP hS hTq (jd_site hG hC hA hM hMd hMI hlt hE0 hKb hτb) hr2 kk
    · refine lv_tableIn (off := 155) (tgt := 188) X.1 X.2.1 dL_law_33 (by decide) (by decide) (by decide) (by decide) ?_
      exact lw_yard (x := (z, T, I, R)) (Inv := jI q E ad (300000 * k + 300000) (140000 * k + 1 + 140000)) X hK hCs (Nat.le_refl _) hX hbl hbA hl hi6 hL hP hS hTq (jd_yard hG hC hA hM hMd hMI hlt hE0 hKb hτb (xs (6 * k + 1)) (xs (6 * k + 2)) (xs (6 * k + 3))) hr2 kk
    · refine lv_tableIn (off := 198) (tgt := 231) X.1 X.2.1 dL_law_33 (by decide) (by decide) (by decide) (by decide) ?_
      exact lw_at (x := (z, T, I, R)) (Inv := jI q E ad (300000 * k + 300000) (140000 * k + 1 + 140000)) X hK hCs (Nat.le_refl _) hX hbl hbA hl hi6 hL hP hS hTq (jd_at hG hC hA hM hMd hMI hlt hE0 hKb hτb (xs (6 * k + 1)) (xs (6 * k + 2))) hr2 kk
    · refine lv_tableIn (off := 231) (tgt := 264) X.1 X.2.1 dL_law_33 (by decide) (by decide) (by decide) (by decide) ?_
      exact lw_earth (x := (z, T, I, R)) (Inv := jI q E ad (300000 * k + 300000) (140000 * k + 1 + 140000)) X hK hCs (Nat.le_refl _) hX hbl hbA hl hi6 hL hP hS hTq (jd_earth hG hC hA hM hMd hMI hlt hE0 hKb hτb (xs (6 * k + 1))) hr2 kk
    · refine lv_tableIn (off := 254) (tgt := 287) X.1 X.2.1 dL_law_33 (by decide) (by decide) (by decide) (by decide) ?_
      exact lw_told (x := (z, T, I, R)) (Inv := jI q E ad (300000 * k + 300000) (140000 * k + 1 + 140000)) X hK hCs (Nat.le_refl _) hX hbl hbA hl hi6 hL hP hS hTq (jd_told hG hC hA hM hMd hMI hlt hE0 hKb hτb (xs (6 * k + 1))) hr2 kk
    · refine lv_tableIn (off := 277) (tgt := 310) X.1 X.2.1 dL_law_33 (by decide) (by decide) (by decide) (by decide) ?_
      exact lw_man (x := (z, T, I, R)) (Inv := jI q E ad (300000 * k + 300000) (140000 * k + 1 + 140000)) X hK hCs (Nat.le_refl _) hX hbl hbA hl hi6 hL hP hS hTq (jd_man hG hC hA hM hMd hMI hlt hE0 hKb hτb (xs (6 * k + 1)) (xs (6 * k + 2)) (xs (6 * k + 3))) hr2 kk
    · refine lv_tableIn (off := 320) (tgt := 353) X.1 X.2.1 dL_law_33 (by decide) (by decide) (by decide) (by decide) ?_
      exact lw_of (x := (z, T, I, R)) (Inv := jI q E ad (300000 * k + 300000) (140000 * k + 1 + 140000)) X hK hCs (Nat.le_refl _) hX hbl hbA hl hi6 hL hP hS hTq (jd_of hG hC hA hM hMd hMI hlt hE0 hKb hτb (xs (6 * k + 1)) (xs (6 * k + 2))) hr2 kk
    · refine lv_tableIn (off := 353) (tgt := 386) X.1 X.2.1 dL_law_33 (by decide) (by decide) (by decide) (by decide) ?_
      exact lw_round (x := (z, T, I, R)) (Inv := jI q E ad (300000 * k + 300000) (140000 * k + 1 + 140000)) X hK hCs (Nat.le_refl _) hX hbl hbA hl hi6 hL hP hS hTq (jd_round hG hC hA hM hMd hMI hlt hE0 hKb hτb (xs (6 * k + 1)) (xs (6 * k + 2))) hr2 kk
    · refine lv_tableIn (off := 386) (tgt := 419) X.1 X.2.1 dL_law_33 (by decide) (by decide) (by decide) (by decide) ?_
      exact lw_rest (x := (z, T, I, R)) (Inv := jI q E ad (300000 * k + 300000) (140000 * k + 1 + 140000)) X hK hCs (Nat.le_refl _) hX hbl hbA hl hi6 hL hP hS hTq (jd_rest hG hC hA hM hMd hMI hlt hE0 hKb hτb (xs (6 * k + 1)) (xs (6 * k + 2))) hr2 kk
    · refine lv_tableIn (off := 419) (tgt := 452) X.1 X.2.1 dL_law_33 (by decide) (by decide) (by decide) (by decide) ?_
      exact lw_run (x := (z, T, I, R)) (Inv := jI q E ad (300000 * k + 300000) (140000 * k + 1 + 140000)) X hK hCs (Nat.le_refl _) hX hbl hbA hl hi6 hL hP hS hTq (jd_run hG hC hA hM hMd hMI hlt hE0 hKb hτb (xs (6 * k + 1)) (xs (6 * k + 2)) (xs (6 * k + 3)) (xs (6 * k + 4))) hr2 kk
    · refine lv_tableIn (off := 472) (tgt := 505) X.1 X.2.1 dL_law_33 (by decide) (by decide) (by decide) (by decide) ?_
      exact lw_by (x := (z, T, I, R)) (Inv := jI q E ad (300000 * k + 300000) (140000 * k + 1 + 140000)) X hK hCs (Nat.le_refl _) hX hbl hbA hl hi6 hL hP hS hTq (jd_by hG hC hA hM hMd hMI hlt hE0 hKb hτb (xs (6 * k + 1)) (xs (6 * k + 2)) (xs (6 * k + 3))) hr2 kk
    · refine lv_tableIn (off := 515) (tgt := 548) X.1 X.2.1 dL_law_33 (by decide) (by decide) (by decide) (by decide) ?_
      exact lw_full (x := (z, T, I, R)) (Inv := jI q E ad (300000 * k + 300000) (140000 * k + 1 + 140000)) X hK hCs (Nat.le_refl _) hX hbl hbA hl hi6 hL hP hS hTq (jd_full hG hC hA hM hMd hMI hlt hE0 hKb hτb (xs (6 * k + 1)) (xs (6 * k + 2))) hr2 kk
    · refine lv_tableIn (off := 548) (tgt := 581) X.1 X.2.1 dL_law_33 (by decide) (by decide) (by decide) (by decide) ?_
      exact lw_boards (x := (z, T, I, R)) (Inv := jI q E ad (300000 * k + 300000) (140000 * k + 1 + 140000)) X hK hCs (Nat.le_refl _) hX hbl hbA hl hi6 hL hP hS hTq (jd_boards hG hC hA hM hMd hMI hlt hE0 hKb hτb (xs (6 * k + 1)) (xs (6 * k + 2)) (xs (6 * k + 3)) (xs (6 * k + 4)) (xs (6 * k + 5))) hr2 kk
    · refine lv_tableIn (off := 611) (tgt := 644) X.1 X.2.1 dL_law_33 (by decide) (by decide) (by decide) (by decide) ?_
      exact lw_turns (x := (z, T, I, R)) (Inv := jI q E ad (300000 * k + 300000) (140000 * k + 1 + 140000)) X hK hCs (Nat.le_refl _) hX hbl hbA hl hi6 hL hP hS hTq (jd_turns hG hC hA hM hMd hMI hlt hE0 hKb hτb (xs (6 * k + 1)) (xs (6 * k + 2)) (xs (6 * k + 3)) (xs (6 * k + 4))) hr2 kk
    · refine lv_tableIn (off := 664) (tgt := 697) X.1 X.2.1 dL_law_33 (by decide) (by decide) (by decide) (by decide) ?_
      exact lw_worth (x := (z, T, I, R)) (Inv := jI q E ad (300000 * k + 300000) (140000 * k + 1 + 140000)) X hK hCs (Nat.le_refl _) hX hbl hbA hl hi6 hL hP hS hTq (jd_worth hG hC hA hM hMd hMI hlt hE0 hKb hτb (xs (6 * k + 1)) (xs (6 * k + 2))) hr2 kk
    · refine lv_tableIn (off := 697) (tgt := 730) X.1 X.2.1 dL_law_33 (by decide) (by decide) (by decide) (by decide) ?_
      exact lw_pave (x := (z, T, I, R)) (Inv := jI q E ad (300000 * k + 300000) (140000 * k + 1 + 140000)) X hK hCs (Nat.le_refl _) hX hbl hbA hl hi6 hL hP hS hTq (jd_pave hG hC hA hM hMd hMI hlt hE0 hKb hτb (xs (6 * k + 1)) (xs (6 * k + 2))) hr2 kk
    · refine lv_tableIn (off := 730) (tgt := 763) X.1 X.2.1 dL_law_33 (by decide) (by decide) (by decide) (by decide) ?_
      exact lw_odds (x := (z, T, I, R)) (Inv := jI q E ad (300000 * k + 300000) (140000 * k + 1 + 140000)) X hK hCs (Nat.le_refl _) hX hbl hbA hl hi6 hL hP hS hTq (jd_odds hG hC hA hM hMd hMI hlt hE0 hKb hτb (xs (6 * k + 1)) (xs (6 * k + 2)) (xs (6 * k + 3)) (xs (6 * k + 4))) hr2 kk
    · refine lv_tableIn (off := 784) (tgt := 817) X.1 X.2.1 dL_law_33 (by decide) (by decide) (by decide) (by decide) ?_
      exact lw_book (x := (z, T, I, R)) (Inv := jI q E ad (300000 * k + 300000) (140000 * k + 1 + 140000)) X hK hCs (Nat.le_refl _) hX hbl hbA hl hi6 hL hP hS hTq (jd_book hG hC hA hM hMd hMI hlt hE0 hKb hτb (xs (6 * k + 1))) hr2 kk
    · refine lv_tableIn (off := 807) (tgt := 840) X.1 X.2.1 dL_law_33 (by decide) (by decide) (by decide) (by decide) ?_
      exact lw_looked (x := (z, T, I, R)) (Inv := jI q E ad (300000 * k + 300000) (140000 * k + 1 + 140000)) X hK hCs (Nat.le_refl _) hX hbl hbA hl hi6 hL hP hS hTq (jd_looked hG hC hA hM hMd hMI hlt hE0 hKb hτb (xs (6 * k + 1)) (xs (6 * k + 2))) hr2 kk
    · refine lv_tableIn (off := 840) (tgt := 873) X.1 X.2.1 dL_law_33 (by decide) (by decide) (by decide) (by decide) ?_
      exact lw_act (x := (z, T, I, R)) (Inv := jI q E ad (300000 * k + 300000) (140000 * k + 1 + 140000)) X hK hCs (Nat.le_refl _) hX hbl hbA hl hi6 hL hP hS hTq (jd_act hG hC hA hM hMd hMI hlt hE0 hKb hτb (xs (6 * k + 1)) (xs (6 * k + 2)) (xs (6 * k + 3))) hr2 kk
    · refine lv_tableIn (off := 883) (tgt := 916) X.1 X.2.1 dL_law_33 (by decide) (by decide) (by decide) (by decide) ?_
      exact lw_trace (x := (z, T, I, R)) (Inv := jI q E ad (300000 * k + 300000) (140000 * k + 1 + 140000)) X hK hCs (Nat.le_refl _) hX hbl hbA hl hi6 hL hP hS hTq (jd_trace hG hC hA hM hMd hMI hlt hE0 hKb hτb (xs (6 * k + 1))) hr2 kk
    · refine lv_tableIn (off := 906) (tgt := 939) X.1 X.2.1 dL_law_33 (by decide) (by decide) (by decide) (by decide) ?_
      exact lw_as (x := (z, T, I, R)) (Inv := jI q E ad (300000 * k + 300000) (140000 * k + 1 + 140000)) X hK hCs (Nat.le_refl _) hX hbl hbA hl hi6 hL hP hS hTq (jd_as hG hC hA hM hMd hMI hlt hE0 hKb hτb (xs (6 * k + 1)) (xs (6 * k + 2))) hr2 kk
    · refine lv_tableIn (off := 939) (tgt := 972) X.1 X.2.1 dL_law_33 (by decide) (by decide) (by decide) (by decide) ?_
      exact lw_image (x := (z, T, I, R)) (Inv := jI q E ad (300000 * k + 300000) (140000 * k + 1 + 140000)) X hK hCs (Nat.le_refl _) hX hbl hbA hl hi6 hL hP hS hTq (jd_image hG hC hA hM hMd hMI hlt hE0 hKb hτb) hr2 kk
    · refine lv_tableIn (off := 952) (tgt := 985) X.1 X.2.1 dL_law_33 (by decide) (by decide) (by decide) (by decide) ?_
      exact lw_undo (x := (z, T, I, R)) (Inv := jI q E ad (300000 * k + 300000) (140000 * k + 1 + 140000)) X hK hCs (Nat.le_refl _) hX hbl hbA hl hi6 hL hP hS hTq (jd_undo hG hC hA hM hMd hMI hlt hE0 hKb hτb) hr2 kk
    · refine lv_tableIn (off := 965) (tgt := 998) X.1 X.2.1 dL_law_33 (by decide) (by decide) (by decide) (by decide) ?_
      exact lw_count (x := (z, T, I, R)) (Inv := jI q E ad (300000 * k + 300000) (140000 * k + 1 + 140000)) X hK hCs (Nat.le_refl _) hX hbl hbA hl hi6 hL hP hS hTq (jd_count hG hC hA hM hMd hMI hlt hE0 hKb hτb (xs (6 * k + 1))) hr2 kk
  · refine lv_tableOut (tgt := 1021) X.1 X.2.1 dL_law_33 (Or.inr (by rw [nI_toInt (by omega)]; omega)) (by decide) ?_
    refine W.widen (by omega) (by omega) (kk (z, T, I, R) H locs ⟨σ, fl, ti, sh, tl, im, σi, fi, t2, s2, M, hC, hA.le (by omega), hM.le, hMd, hMI⟩ hP hS)
theorem j_gt {i L : Nat} (hi : i < 1000) (hL : L ≤ 384) : (nI L - 6 < nI i) ↔ L < i + 6 := by
  rw [Int32.lt_iff_toInt_lt, Int32.toInt_sub, nI_toInt (by omega), nI_toInt (by omega), show (6 : Int32).toInt = 6 by decide, Int.bmod_def]
  omega
set_option maxRecDepth 100000 in
set_option maxHeartbeats 4000000 in
/-- the law's loop; behind it 1027 -/
theorem lw_loop (X : CallFix p m c cL_law 4 s args wsL_law RL) (hK : va_K D vwCl (gtys cy) s) (hG : jG s s.heap.size ad C E) (hE : E < s.heap.size) (hX : va_X b L xs s s.heap) (hbl : b < s.heap.size) (hL : L ≤ 384) (hend : ∀ (H1 : Heap) (l1 : List Loc) (ls1 : Array Slot) (c1 s1 : Nat), va_S (gA s.heap.size) s.heap H1 l1 → c1 ≤ 600 → s1 ≤ 13000 → W p l e room_1 s m args below meth c H1 l1 c1 s1 Q (F0 m 1027 ls1 [])) : ∀ (n : Nat) {k : Nat} {x : gSt} {H : Heap} {locs : List Loc} {cells slots : Nat} {ls : Array Slot}, L < 6 * k + 6 + 6 * n → 6 * k ≤ L + 5 → lv_has ls 4 [(0, .ref b), (1, .ref q), (2, .ref (q + 53)), (3, .int (nI (6 * k)))] → jI q E ad (300000 * k) (140000 * k + 1) x → gP D cy s.heap.size x.1 x.2.1 x.2.2.1 x.2.2.2 H → va_S (gA s.heap.size) s.heap H locs → cells ≤ 65 + 8 * k ∧ slots ≤ 3400 + 138 * k → W p l e room_1 s m args below meth c H locs cells slots Q (F0 m 18 ls []) := by
  have hbA : ¬ gA s.heap.size b := s_A b hbl
  intro n
  induction n with
  | zero =>
    intro k x H locs cells slots ls hn hk hl hJ hP hS hr
    refine lv_iload_n X.1 X.2.1 dL_law_18 rfl (lv_at hl 3 rfl) ?_
    refine lv_aload_n X.1 X.2.1 dL_law_19 rfl (lv_at hl 0 rfl) ?_
    refine va_slen X.1 X.2.1 hX hbl hbA hS dL_law_20 ?_
    refine lv_bipush (v := 6) X.1 X.2.1 dL_law_21 (by decide) ?_
    refine lv_isub X.1 X.2.1 dL_law_23 ?_
    refine lv_icmp_gt (tgt := 1027) X.1 X.2.1 dL_law_24 (by decide) (fun c1 => ?_) (fun c1 => ?_)
    · exact hend H locs ls cells slots hS (by omega) (by omega)
    · exact absurd ((j_gt (by omega) hL).mpr (by omega)) c1
  | succ n ih =>
    intro k x H locs cells slots ls hn hk hl hJ hP hS hr
    refine lv_iload_n X.1 X.2.1 dL_law_18 rfl (lv_at hl 3 rfl) ?_
    refine lv_aload_n X.1 X.2.1 dL_law_19 rfl (lv_at hl 0 rfl) ?_
    refine va_slen X.1 X.2.1 hX hbl hbA hS dL_law_20 ?_
    refine lv_bipush (v := 6) X.1 X.2.1 dL_law_21 (by decide) ?_
    refine lv_isub X.1 X.2.1 dL_law_23 ?_
    refine lv_icmp_gt (tgt := 1027) X.1 X.2.1 dL_law_24 (by decide) (fun c1 => ?_) (fun c1 => ?_)
    · exact hend H locs ls cells slots hS (by omega) (by omega)
    · have hi6 : 6 * k + 6 ≤ L := Nat.not_lt.mp fun g => c1 ((j_gt (by omega) hL).mpr g)
      refine lw_turn X hK hG hE hX hbl hL hi6 hl hJ hP hS hr (fun u H1 l1 hJ1 hP1 hS1 => ?_)
      refine lv_iinc (k := 3) (v := nI (6 * (k + 1))) (lv' := [(3, .int (nI (6 * (k + 1)))), (0, .ref b), (1, .ref q), (2, .ref (q + 53))]) X.1 X.2.1 dL_law_1021 hl rfl (gn_inc (Eq.refl (nI (6 * k))) 6) (by decide) rfl (fun ls hl => ?_)
      refine lv_goto (tgt := 18) X.1 X.2.1 dL_law_1024 (by decide) ?_
      refine ih (k := k + 1) (by omega) (by omega) (lv_sub hl [1, 2, 3, 0] rfl) ?_ hP1 hS1 ⟨by omega, by omega⟩
      rw [show 300000 * (k + 1) = 300000 * k + 300000 by omega, show 140000 * (k + 1) + 1 = 140000 * k + 1 + 140000 by omega]
      exact hJ1
end LP
