section MT9
variable {l : Launch} {s0 : State} {D : va_G} {cy : Nat → ClassId} {B o z : Nat} {T : Nat → Nat × Nat} {R : Nat → Nat → Option Nat} {I0 : Nat → Nat → Int32} {M : Nat → Nat → Int32} {σ : Nat → Nat} {fl : List Nat} {ti sh K τ ms : Nat}
theorem gsh_l : ∀ n, n < 32 → ((nI n &&& 31).toBitVec.smod 32).toNat = n := by decide
theorem gbit {n k : Nat} (hn : n < 2 ^ 31) (hk : k < 32) : (nI n >>> (nI k &&& 31)) &&& 1 = nI (n / 2 ^ k % 2) := by
  rw [pk_shrN hn _ k (gsh_l k hk), pk_andN (show n / 2 ^ k < 2 ^ 32 from Nat.lt_of_le_of_lt (Nat.div_le_self _ _) (by omega)) 1 (by decide)]
def sBit (n k : Nat) : Nat := n / 2 ^ k % 2
theorem sBit_le (n k : Nat) : sBit n k < 2 := Nat.mod_lt _ (by decide)
def sPc (n : Nat) : Nat → Nat
  | 0 => 0
  | k + 1 => sPc n k + sBit n k
theorem sPc_le (n : Nat) : ∀ k, sPc n k ≤ k
  | 0 => Nat.le_refl _
  | k + 1 => by
    have h1 := sPc_le n k
    have h2 := sBit_le n k
    show sPc n k + sBit n k ≤ k + 1
    omega

section GLs
variable {p : Program} {l : Launch} {e : Env} {Rm : Room} {s : State} {m : MethodId} {args : Array Value} {below : List Frame} {meth : Method} {c : Code} {H : Heap} {locs : List Loc} {cells slots : Nat} {Q : State → Prop} {ls : Array Slot}
/-- a loop of at most N turns over a heap that stays -/
theorem k_loop (N head : Nat) (st : List Value) (Inv : Nat → Array Slot → Prop) (k0 : Nat) (h0 : k0 ≤ N) (hi : Inv k0 ls)
    (step : ∀ (k : Nat) (ls : Array Slot), k ≤ N → Inv k ls → (∀ (ls' : Array Slot), k + 1 ≤ N → Inv (k + 1) ls' → W p l e Rm s m args below meth c H locs cells slots Q (F0 m head ls' st)) →
      W p l e Rm s m args below meth c H locs cells slots Q (F0 m head ls st)) : W p l e Rm s m args below meth c H locs cells slots Q (F0 m head ls st) := by
  have main : ∀ (d k : Nat) (ls : Array Slot), k + d = N → Inv k ls → W p l e Rm s m args below meth c H locs cells slots Q (F0 m head ls st) := by
    intro d
    induction d with
    | zero =>
      intro k ls hk hi
      exact step k ls (by omega) hi (fun _ h => absurd h (by omega))
    | succ d ih =>
      intro k ls hk hi
      exact step k ls (by omega) hi (fun ls' h1 h2 => ih (k + 1) ls' (by omega) h2)
  exact main (N - k0) k0 ls (by omega) hi
end GLs

set_option maxHeartbeats 4000000 in
set_option maxRecDepth 100000 in
/-- count1 -/
theorem c_count1 (x : gSt) {n : Nat} (hn : n < 2 ^ 31) : Met l yX12_count1 wsX12_count1 ({ frames := 0, cells := 0, slots := 0, locals := 0 }) (va_Pc [.int (nI n)] (gW0 s0 D cy B x)) (va_Qi (fun r u => r = nI (sPc n 10) ∧ u = x) (fun u t => gW1 D cy B u t) (gA B)) 0 0 (gA B) := by
  refine g_met (maxL := 3) (ret := (some .int)) (by decide) rfl (Nat.le_of_ble_eq_true rfl) (fun p e s m args below meth c ls X hr hlk hnm hK hP hC hS hl => ?_)
  have hl : lv_has ls 3 [(0, .int (nI n))] := hl
  have hP : gP D cy B x.1 x.2.1 x.2.2.1 x.2.2.2 s.heap := hP
  have hB : B ≤ s.heap.size := by rw [hP.1]; exact hP.2.1
  refine lv_iconst (v := 0) X.1 X.2.1 dX12_count1_0 (by decide) ?_
  refine lv_istore_n (lv' := [(1, .int 0), (0, .int (nI n))]) X.1 X.2.1 dX12_count1_1 rfl hl (by decide) rfl (fun ls hl => ?_)
  refine lv_iconst (v := 0) X.1 X.2.1 dX12_count1_2 (by decide) ?_
  refine lv_istore_n (lv' := [(2, .int 0), (1, .int 0), (0, .int (nI n))]) X.1 X.2.1 dX12_count1_3 rfl hl (by decide) rfl (fun ls hl => ?_)
  refine k_loop 10 4 [] (fun k ls => lv_has ls 3 [(0, .int (nI n)), (1, .int (nI (sPc n k))), (2, .int (nI k))]) 0 (by omega) (lv_sub hl [2, 1, 0] rfl) (fun k ls hk hl ih => ?_)
  refine lv_iload_n X.1 X.2.1 dX12_count1_4 rfl (lv_at hl 2 rfl) ?_
  refine lv_bipush (v := 10) X.1 X.2.1 dX12_count1_5 (by decide) ?_
  refine lv_icmp_ge (tgt := 24) X.1 X.2.1 dX12_count1_7 (by decide) (fun c7 => ?_) (fun c7 => ?_)
  · refine lv_iload_n X.1 X.2.1 dX12_count1_24 rfl (lv_at hl 1 rfl) ?_
    obtain rfl : k = 10 := gk18 hk c7
    exact g_iret x X hr hlk hK hP hS dX12_count1_25 ⟨rfl, rfl⟩
  · have hk9 : k < 10 := gk_lt hk c7
    refine lv_iload_n X.1 X.2.1 dX12_count1_10 rfl (lv_at hl 1 rfl) ?_
    refine lv_iload_n X.1 X.2.1 dX12_count1_11 rfl (lv_at hl 0 rfl) ?_
    refine lv_iload_n X.1 X.2.1 dX12_count1_12 rfl (lv_at hl 2 rfl) ?_
    refine lv_ishr X.1 X.2.1 dX12_count1_13 ?_
    refine lv_iconst (v := 1) X.1 X.2.1 dX12_count1_14 (by decide) ?_
    refine lv_iand X.1 X.2.1 dX12_count1_15 ?_
    refine lv_iadd X.1 X.2.1 dX12_count1_16 ?_
    refine lv_istore_n (lv' := [(1, .int ((nI (sPc n k)) + (((nI n) >>> ((nI k) &&& 31)) &&& 1))), (0, .int (nI n)), (2, .int (nI k))]) X.1 X.2.1 dX12_count1_17 rfl hl (by decide) rfl (fun ls hl => ?_)
    refine lv_iinc (v := nI (k + 1)) (lv' := [(2, .int (nI (k + 1))), (1, .int ((nI (sPc n k)) + (((nI n) >>> ((nI k) &&& 31)) &&& 1))), (0, .int (nI n))]) X.1 X.2.1 dX12_count1_18 hl (k := 2) rfl (gn_inc (Eq.refl (nI k)) 1) (by decide) rfl (fun ls hl => ?_)
    refine lv_goto (tgt := 4) X.1 X.2.1 dX12_count1_21 (by decide) ?_
    have hv : (nI (sPc n k)) + (((nI n) >>> ((nI k) &&& 31)) &&& 1) = nI (sPc n (k + 1)) := by rw [gbit (by omega) (by omega), nI_add]; rfl
    exact ih _ (by omega) (by rw [← hv]; exact lv_sub hl [2, 1, 0] rfl)

def sBare (σ : Nat → Nat) : Nat → Nat
  | 0 => 0
  | k + 1 => sBare σ k + (if σ (28 + k) = 0 then 2 ^ k else 0)
theorem sBare_lt (σ : Nat → Nat) : ∀ k, sBare σ k < 2 ^ k
  | 0 => Nat.one_pos
  | k + 1 => by
    have h := sBare_lt σ k
    show sBare σ k + (if σ (28 + k) = 0 then 2 ^ k else 0) < 2 ^ (k + 1)
    rw [Nat.pow_succ]
    split <;> omega
theorem gshl1 : ∀ k, k < 10 → (1 : Int32) <<< (nI k &&& 31) = nI (2 ^ k) := by decide
theorem gor {a k : Nat} (h : a < 2 ^ k) (hk : k < 31) : nI a ||| nI (2 ^ k) = nI (a + 2 ^ k) := by
  have h1 : (nI a ||| nI (2 ^ k)) = nI (a ||| 2 ^ k) := by
    apply Int32.toBitVec_inj.mp
    apply BitVec.eq_of_toNat_eq
    show ((nI a).toBitVec ||| (nI (2 ^ k)).toBitVec).toNat = _
    have hp : 2 ^ k < 2 ^ 31 := Nat.pow_lt_pow_right (by decide) hk
    have ho : a ||| 2 ^ k < 2 ^ 32 := Nat.lt_of_lt_of_le (Nat.or_lt_two_pow (n := k + 1) (by rw [Nat.pow_succ]; omega) (by rw [Nat.pow_succ]; omega)) (Nat.pow_le_pow_right (by decide) (by omega))
    rw [BitVec.toNat_or, pk_tn (by omega), pk_tn (by omega), pk_tn ho]
  rw [h1]
  congr 1
  rw [Nat.or_comm, Nat.add_comm]
  have := Nat.two_pow_add_eq_or_of_lt h 1
  rw [Nat.mul_one] at this
  exact this.symm

set_option maxHeartbeats 4000000 in
set_option maxRecDepth 100000 in
/-- bare -/
theorem c_bare (hM : gMod o T R) (hi : mInv M σ fl ti sh K τ ms) : Met l yX12_bare wsX12_bare ({ frames := 0, cells := 0, slots := 0, locals := 0 }) (mPre s0 D cy B o z T R I0 M []) (mQi D cy B o z T R I0 (fun r u => r = nI (sBare σ 10) ∧ M = u)) 0 0 (gA B) := by
  refine g_met (maxL := 3) (ret := (some .int)) (by decide) rfl (Nat.le_of_ble_eq_true rfl) (fun p e s m args below meth c ls X hr hlk hnm hK hP hC hS hl => ?_)
  have hl : lv_has ls 3 [(0, .ref o)] := hl
  have hP : gP D cy B z T (gI o 12 M I0) R s.heap := hP
  have hB : B ≤ s.heap.size := by rw [hP.1]; exact hP.2.1
  have hin : ∀ w ∈ wsX120, w ∈ wsX12_bare := fun _ h => List.mem_cons_of_mem _ (List.mem_append_right _ h)
  have k9 : Cond.fieldLink RX12 9 "BarrowPlankModel" "s" "[I" ∈ wsX12_bare := by decide +kernel
  have hσ := hi.1
  have hs := hi.2.1
  have hb := hi.2.2.1
  have hca := hi.2.2.2
  refine lv_iconst (v := 0) X.1 X.2.1 dX12_bare_0 (by decide) ?_
  refine lv_istore_n (lv' := [(1, .int 0), (0, .ref o)]) X.1 X.2.1 dX12_bare_1 rfl hl (by decide) rfl (fun ls hl => ?_)
  refine lv_iconst (v := 0) X.1 X.2.1 dX12_bare_2 (by decide) ?_
  refine lv_istore_n (lv' := [(2, .int 0), (1, .int 0), (0, .ref o)]) X.1 X.2.1 dX12_bare_3 rfl hl (by decide) rfl (fun ls hl => ?_)
  refine k_loop 10 4 [] (fun k ls => lv_has ls 3 [(0, .ref o), (1, .int (nI (sBare σ k))), (2, .int (nI k))]) 0 (by omega) (lv_sub hl [2, 1, 0] rfl) (fun k ls hk hl ih => ?_)
  refine lv_iload_n X.1 X.2.1 dX12_bare_4 rfl (lv_at hl 2 rfl) ?_
  refine lv_bipush (v := 10) X.1 X.2.1 dX12_bare_5 (by decide) ?_
  refine lv_icmp_ge (tgt := 38) X.1 X.2.1 dX12_bare_7 (by decide) (fun c7 => ?_) (fun c7 => ?_)
  · have n7 : 10 ≤ k := gq_le c7 (show (10 : Int32) = nI 10 from rfl) (Eq.refl (nI k)) (by omega) (by omega)
    refine lv_iload_n X.1 X.2.1 dX12_bare_38 rfl (lv_at hl 1 rfl) ?_
    obtain rfl : k = 10 := gk18 hk c7
    exact g_iret M X hr hlk hK hP hS dX12_bare_39 ⟨rfl, rfl⟩
  · have n7 : k < 10 := gq_nle c7 (show (10 : Int32) = nI 10 from rfl) (Eq.refl (nI k)) (by omega) (by omega)
    have hk9 : k < 10 := gk_lt hk c7
    have b28 : σ (28 + k) ≤ 9 := by have h := hb.2.2.2.1 (20 + k) (by omega); rw [← Nat.add_assoc] at h; exact h
    refine lv_iload_n X.1 X.2.1 dX12_bare_10 rfl (lv_at hl 1 rfl) ?_
    refine lv_aload_n X.1 X.2.1 dX12_bare_11 rfl (lv_at hl 0 rfl) ?_
    refine m_getr 1 1 X hK hP hM hin rfl (by decide) k9 rfl dX12_bare_12 (by decide) ?_
    refine lv_bipush (v := 28) X.1 X.2.1 dX12_bare_15 (by decide) ?_
    refine lv_iload_n X.1 X.2.1 dX12_bare_17 rfl (lv_at hl 2 rfl) ?_
    refine lv_iadd X.1 X.2.1 dX12_bare_18 ?_
    refine m_ald 1 (28 + k) 883 X hK hP hM rfl (gIx_of (gn_add (show (28 : Int32) = nI 28 from rfl) (Eq.refl (nI k))) (by omega) (by omega)) dX12_bare_19 (show M 1 (28 + k) = nI (σ (28 + k)) from (hσ (28 + k) (by omega) (by omega))) ?_
    refine lv_if_ne (tgt := 29) X.1 X.2.1 dX12_bare_20 (by decide) (fun c20 => ?_) (fun c20 => ?_)
    · have n20 : ¬ σ (28 + k) = 0 := gq_ne c20 (Eq.refl (nI (σ (28 + k)))) (show (0 : Int32) = nI 0 from rfl) (by omega) (by omega)
      refine lv_iconst (v := 0) X.1 X.2.1 dX12_bare_29 (by decide) ?_
      refine lv_ior X.1 X.2.1 dX12_bare_30 ?_
      refine lv_istore_n (lv' := [(1, .int ((nI (sBare σ k)) ||| 0)), (0, .ref o), (2, .int (nI k))]) X.1 X.2.1 dX12_bare_31 rfl hl (by decide) rfl (fun ls hl => ?_)
      refine lv_iinc (v := nI (k + 1)) (lv' := [(2, .int (nI (k + 1))), (1, .int ((nI (sBare σ k)) ||| 0)), (0, .ref o)]) X.1 X.2.1 dX12_bare_32 hl (k := 2) rfl (gn_inc (Eq.refl (nI k)) 1) (by decide) rfl (fun ls hl => ?_)
      refine lv_goto (tgt := 4) X.1 X.2.1 dX12_bare_35 (by decide) ?_
      have hv : (nI (sBare σ k)) ||| 0 = nI (sBare σ (k + 1)) := by show (nI (sBare σ k) ||| 0) = nI (sBare σ k + (if σ (28 + k) = 0 then 2 ^ k else 0)); rw [if_neg n20]; simp
      exact ih _ (by omega) (by rw [← hv]; exact lv_sub hl [2, 1, 0] rfl)
    · have n20 : σ (28 + k) = 0 := gq_eq c20 (Eq.refl (nI (σ (28 + k)))) (show (0 : Int32) = nI 0 from rfl) (by omega) (by omega)
      refine lv_iconst (v := 1) X.1 X.2.1 dX12_bare_23 (by decide) ?_
      refine lv_iload_n X.1 X.2.1 dX12_bare_24 rfl (lv_at hl 2 rfl) ?_
      refine lv_ishl X.1 X.2.1 dX12_bare_25 ?_
      refine lv_goto (tgt := 30) X.1 X.2.1 dX12_bare_26 (by decide) ?_
      refine lv_ior X.1 X.2.1 dX12_bare_30 ?_
      refine lv_istore_n (lv' := [(1, .int ((nI (sBare σ k)) ||| (1 <<< ((nI k) &&& 31)))), (0, .ref o), (2, .int (nI k))]) X.1 X.2.1 dX12_bare_31 rfl hl (by decide) rfl (fun ls hl => ?_)
      refine lv_iinc (v := nI (k + 1)) (lv' := [(2, .int (nI (k + 1))), (1, .int ((nI (sBare σ k)) ||| (1 <<< ((nI k) &&& 31)))), (0, .ref o)]) X.1 X.2.1 dX12_bare_32 hl (k := 2) rfl (gn_inc (Eq.refl (nI k)) 1) (by decide) rfl (fun ls hl => ?_)
      refine lv_goto (tgt := 4) X.1 X.2.1 dX12_bare_35 (by decide) ?_
      have hv : (nI (sBare σ k)) ||| (1 <<< ((nI k) &&& 31)) = nI (sBare σ (k + 1)) := by rw [gshl1 k hk9, gor (sBare_lt σ k) (by omega)]; show nI (sBare σ k + 2 ^ k) = nI (sBare σ k + (if σ (28 + k) = 0 then 2 ^ k else 0)); rw [if_pos n20]
      exact ih _ (by omega) (by rw [← hv]; exact lv_sub hl [2, 1, 0] rfl)

/-- no YARD of the set has a BOARD -/
def sIsB (σ : Nat → Nat) (n : Nat) : Prop := ∀ y, y < 10 → sBit n y = 1 → σ (28 + y) = 0
theorem sBare_bit (σ : Nat → Nat) : ∀ k y, (sBare σ k).testBit y = decide (y < k ∧ σ (28 + y) = 0)
  | 0, y => by
    show Nat.testBit 0 y = _
    rw [Nat.zero_testBit, eq_comm, decide_eq_false_iff_not]
    omega
  | k + 1, y => by
    have ih := sBare_bit σ k y
    have hlt := sBare_lt σ k
    show (sBare σ k + (if σ (28 + k) = 0 then 2 ^ k else 0)).testBit y = _
    by_cases h0 : σ (28 + k) = 0
    · rw [if_pos h0]
      have h2 := Nat.two_pow_add_eq_or_of_lt hlt 1
      rw [Nat.mul_one, Nat.add_comm] at h2
      rw [h2, Nat.testBit_or, Nat.testBit_two_pow, ih]
      by_cases hy : k = y
      · subst hy
        simp [h0]
      · by_cases hy2 : y < k
        · simp [hy, hy2, show y < k + 1 by omega]
        · simp [hy, hy2, show ¬ y < k + 1 by omega]
    · rw [if_neg h0, Nat.add_zero, ih]
      by_cases hy : y = k
      · subst hy
        simp [h0]
      · by_cases hy2 : y < k
        · simp [hy2, show y < k + 1 by omega]
        · simp [hy2, show ¬ y < k + 1 by omega]
theorem nI_lsb {n i : Nat} (hi : i < 32) : (nI n).toBitVec.getLsbD i = n.testBit i := by
  show (BitVec.ofNat 32 n).getLsbD i = _
  rw [BitVec.getLsbD_ofNat]
  simp [hi]
theorem gnb {n : Nat} (hn : n < 1024) : (nI n &&& (nI (sBare σ 10) ^^^ -1)) = 0 ↔ sIsB σ n := by
  have hb : ∀ i, i < 32 → (nI n &&& (nI (sBare σ 10) ^^^ -1)).toBitVec.getLsbD i = (n.testBit i && !(sBare σ 10).testBit i) := fun i hi => by
    show ((nI n).toBitVec &&& ((nI (sBare σ 10)).toBitVec ^^^ (-1 : Int32).toBitVec)).getLsbD i = _
    rw [BitVec.getLsbD_and, BitVec.getLsbD_xor, nI_lsb hi, nI_lsb hi, show (-1 : Int32).toBitVec = BitVec.allOnes 32 by decide, BitVec.getLsbD_allOnes]
    simp [hi]
  constructor
  · intro h y hy hbit
    have h1 := hb y (by omega)
    rw [h] at h1
    have h2 : n.testBit y = true := by rw [Nat.testBit_eq_decide_div_mod_eq]; exact decide_eq_true hbit
    rw [h2, sBare_bit] at h1
    have h3 : decide (y < 10 ∧ σ (28 + y) = 0) = true := by simpa using h1
    exact (of_decide_eq_true h3).2
  · intro h
    apply Int32.toBitVec_inj.mp
    apply BitVec.eq_of_getLsbD_eq
    intro i hi
    rw [hb i hi]
    by_cases h2 : n.testBit i = true
    · have hi10 : i < 10 := by
        rcases Nat.lt_or_ge i 10 with q | q
        · exact q
        · exfalso
          rw [Nat.testBit_lt_two_pow (Nat.lt_of_lt_of_le (show n < 2 ^ 10 by omega) (Nat.pow_le_pow_right (by decide) q))] at h2
          cases h2
      have h3 : sBit n i = 1 := by rw [Nat.testBit_eq_decide_div_mod_eq] at h2; exact of_decide_eq_true h2
      have h4 := h i hi10 h3
      rw [h2, sBare_bit]
      simp [hi10, h4]
    · rw [Bool.not_eq_true] at h2
      rw [h2]
      simp
def sWb (σ : Nat → Nat) (n wd : Nat) : Nat → Nat := fun i => if 28 ≤ i ∧ i < 38 ∧ sBit n (i - 28) = 1 then wd else σ i
def mWb (M : Nat → Nat → Int32) (n : Nat) (x : Int32) (k : Nat) : Nat → Nat → Int32 := fun b i => if b = 1 ∧ 28 ≤ i ∧ i < 28 + k ∧ sBit n (i - 28) = 1 then x else M b i
theorem mWb_0 (M : Nat → Nat → Int32) (n : Nat) (x : Int32) : mWb M n x 0 = M := by
  funext b i
  unfold mWb
  rw [if_neg (by omega)]
theorem mWb_s1 (M : Nat → Nat → Int32) (n : Nat) (x : Int32) (k : Nat) (h : sBit n k = 1) : g2 (mWb M n x k) 1 (28 + k) x = mWb M n x (k + 1) := by
  funext b i
  unfold mWb g2
  dsimp only
  by_cases e : b = 1 ∧ i = 28 + k
  · obtain ⟨rfl, rfl⟩ := e
    rw [if_pos ⟨rfl, rfl⟩, if_pos ⟨rfl, by omega, by omega, by rw [show 28 + k - 28 = k by omega]; exact h⟩]
  · rw [if_neg e]
    by_cases h2 : b = 1 ∧ 28 ≤ i ∧ i < 28 + k ∧ sBit n (i - 28) = 1
    · rw [if_pos h2, if_pos ⟨h2.1, h2.2.1, by have := h2.2.2.1; omega, h2.2.2.2⟩]
    · rw [if_neg h2, if_neg (fun q => h2 ⟨q.1, q.2.1, by have h3 := q.2.2.1; have h4 : ¬ i = 28 + k := fun h5 => e ⟨q.1, h5⟩; omega, q.2.2.2⟩)]
theorem mWb_s0 (M : Nat → Nat → Int32) (n : Nat) (x : Int32) (k : Nat) (h : ¬ sBit n k = 1) : g2 (mWb M n x k) 1 (28 + k) (M 1 (28 + k)) = mWb M n x (k + 1) := by
  funext b i
  unfold mWb g2
  dsimp only
  by_cases e : b = 1 ∧ i = 28 + k
  · obtain ⟨rfl, rfl⟩ := e
    rw [if_pos ⟨rfl, rfl⟩, if_neg (by rw [show 28 + k - 28 = k by omega]; exact fun q => h q.2.2.2)]
  · rw [if_neg e]
    by_cases h2 : b = 1 ∧ 28 ≤ i ∧ i < 28 + k ∧ sBit n (i - 28) = 1
    · rw [if_pos h2, if_pos ⟨h2.1, h2.2.1, by have := h2.2.2.1; omega, h2.2.2.2⟩]
    · rw [if_neg h2, if_neg (fun q => h2 ⟨q.1, q.2.1, by have h3 := q.2.2.1; have h4 : ¬ i = 28 + k := fun h5 => e ⟨q.1, h5⟩; omega, q.2.2.2⟩)]
theorem mWb_r (M : Nat → Nat → Int32) (n : Nat) (x : Int32) (k b i : Nat) (h : ¬ (b = 1 ∧ 28 ≤ i ∧ i < 28 + k)) : mWb M n x k b i = M b i := by
  unfold mWb
  rw [if_neg (fun q => h ⟨q.1, q.2.1, q.2.2.1⟩)]
theorem sBd_28 {σ' : Nat → Nat} (h : sBd σ K) (h28 : ∀ υ, υ < 30 → σ' (8 + υ) ≤ 9) (ho : ∀ i, (i < 8 ∨ 38 ≤ i) → σ' i = σ i) : sBd σ' K := by
  obtain ⟨c0, ⟨c1, c2, c3⟩, c4, c5, c6, c7, c8, c9, c10, c11, c12⟩ := h
  refine ⟨by rw [ho 0 (by omega)]; exact c0, ⟨by rw [ho 1 (by omega)]; exact c1, by rw [ho 2 (by omega)]; exact c2, by rw [ho 3 (by omega)]; exact c3⟩, fun μ hμ => by rw [ho _ (by omega)]; exact c4 μ hμ, h28, by rw [ho 38 (by omega)]; exact c6, by rw [ho 39 (by omega)]; exact c7, by rw [ho 40 (by omega)]; exact c8, by rw [ho 41 (by omega)]; exact c9, fun μ hμ => ?_, fun k hk => by rw [ho _ (by omega)]; exact c11 k hk, fun k hk => by rw [ho _ (by omega)]; exact c12 k hk⟩
  rw [ho _ (by omega), ho _ (by omega), ho _ (by omega)]
  exact c10 μ hμ
theorem sBd_wb (h : sBd σ K) {n wd : Nat} (hw : wd ≤ 9) : sBd (sWb σ n wd) K := sBd_28 h (fun υ hυ => by unfold sWb; split <;> first | exact hw | exact h.2.2.2.1 υ hυ) (fun i hi => by unfold sWb; rw [if_neg (by omega)])
theorem mWb_S {n wd : Nat} (h : mS M σ) : mS (mWb M n (nI wd) 10) (sWb σ n wd) := fun i h1 h2 => by
  unfold mWb sWb
  by_cases e : 28 ≤ i ∧ i < 38 ∧ sBit n (i - 28) = 1
  · rw [if_pos ⟨rfl, e.1, by have := e.2.1; omega, e.2.2⟩, if_pos e]
  · rw [if_neg (fun q => e ⟨q.2.1, by have := q.2.2.1; omega, q.2.2.2⟩), if_neg e]
    exact h i h1 h2

set_option maxHeartbeats 4000000 in
set_option maxRecDepth 100000 in
/-- withBoards -/
theorem c_withBoards (hM : gMod o T R) (hi : mInv M σ fl ti sh K τ ms) {μ ld n wd : Nat} (hμ : μ < 4) (h38 : μ < σ 38) (hld : ld ≤ 20) (hn : n < 1024) (hwd : wd ≤ 9) (hbare : sIsB σ n) (hτ : τ + 60 < 2 ^ 30) (hK : K < 2 ^ 28) : Met l yX12_withBoards wsX12_withBoards ({ frames := 6, cells := 0, slots := 0, locals := 147 }) (mPre s0 D cy B o z T R I0 M [.int (nI μ), .int (nI ld), .int (nI n), .int (nI wd)]) (mQi D cy B o z T R I0 (fun r u => r = nI (sSe fl sh (sWb σ n wd) μ ld) ∧ mSame qS M u ∧ ∃ τ' ms', τ ≤ τ' ∧ τ' ≤ τ + 34 ∧ mCache u fl σ τ' ms')) 0 0 (gA B) := by
  refine g_met (maxL := 7) (ret := (some .int)) (by decide) rfl (Nat.le_of_ble_eq_true rfl) (fun p e s m args below meth c ls X hr hlk hnm hK hP hC hS hl => ?_)
  have hl : lv_has ls 7 [(0, .ref o), (1, .int (nI μ)), (2, .int (nI ld)), (3, .int (nI n)), (4, .int (nI wd))] := hl
  have hP : gP D cy B z T (gI o 12 M I0) R s.heap := hP
  have hB : B ≤ s.heap.size := by rw [hP.1]; exact hP.2.1
  have hin : ∀ w ∈ wsX120, w ∈ wsX12_withBoards := fun _ h => List.mem_cons_of_mem _ (List.mem_append_right _ h)
  have k9 : Cond.fieldLink RX12 9 "BarrowPlankModel" "s" "[I" ∈ wsX12_withBoards := by decide +kernel
  have k37 : Cond.fieldLink RX12 37 "BarrowPlankModel" "times" "I" ∈ wsX12_withBoards := by decide +kernel
  have hσ := hi.1
  have hs := hi.2.1
  have hb := hi.2.2.1
  have hca := hi.2.2.2
  have hmod : ∀ k, n / 2 ^ k % 2 < 2 := fun k => Nat.mod_lt _ (by decide)
  refine lv_iconst (v := 0) X.1 X.2.1 dX12_withBoards_0 (by decide) ?_
  refine lv_istore (lv' := [(5, .int 0), (0, .ref o), (1, .int (nI μ)), (2, .int (nI ld)), (3, .int (nI n)), (4, .int (nI wd))]) X.1 X.2.1 dX12_withBoards_1 hl (by decide) rfl (fun ls hl => ?_)
  refine m_loop (M := M) 10 3 [] (fun k Q9 ls => Q9 = mWb M n (nI wd) k ∧ lv_has ls 7 [(0, .ref o), (1, .int (nI μ)), (2, .int (nI ld)), (3, .int (nI n)), (4, .int (nI wd)), (5, .int (nI k))]) 0 (by omega) ⟨(mWb_0 M n (nI wd)).symm, lv_sub hl [1, 2, 3, 4, 5, 0] rfl⟩ hP hS (fun k Q9 H locs ls hk hiv hP hS ih => ?_)
  obtain ⟨rfl, hl⟩ := hiv
  generalize eQ1 : mWb M n (nI wd) k = Q1 at hP
  refine lv_iload X.1 X.2.1 dX12_withBoards_3 (lv_at hl 5 rfl) ?_
  refine lv_bipush (v := 10) X.1 X.2.1 dX12_withBoards_5 (by decide) ?_
  refine lv_icmp_ge (tgt := 51) X.1 X.2.1 dX12_withBoards_7 (by decide) (fun c7 => ?_) (fun c7 => ?_)
  · obtain rfl : k = 10 := gk18 hk c7
    have hσ1 : mS Q1 (sWb σ n wd) := by rw [← eQ1]; exact mWb_S hσ
    have hr1 : ∀ b i, ¬ (b = 1 ∧ 28 ≤ i ∧ i < 38) → Q1 b i = M b i := fun b i h => by rw [← eQ1]; exact mWb_r _ _ _ _ _ _ (by omega)
    have hs1 : mSite Q1 fl ti sh := mSite_c hs (fun i _ _ => hr1 1 i (by omega))
    refine lv_aload_n X.1 X.2.1 dX12_withBoards_51 rfl (lv_at hl 0 rfl) ?_
    refine lv_dup X.1 X.2.1 dX12_withBoards_52 rfl ?_
    refine m_geti 17 X hK hP hM hin rfl (by decide) k37 rfl dX12_withBoards_53 (show Q1 0 17 = nI τ from ((hr1 0 17 (by omega)).trans hca.2.2.1)) ?_
    refine lv_iconst (v := 1) X.1 X.2.1 dX12_withBoards_56 (by decide) ?_
    refine lv_iadd X.1 X.2.1 dX12_withBoards_57 ?_
    refine m_puti 17 X hK hP hS hM hin rfl (by decide) k37 rfl rfl rfl rfl dX12_withBoards_58 (fun H locs hP hS => ?_)
    generalize eM2 : g2 Q1 0 17 ((nI τ) + 1) = M2 at hP
    have hσ2 := mS_q hσ1 eM2 (by decide)
    have hs2 := mSite_p hs1 eM2 (Or.inl (by decide))
    have hr2 : ∀ b i, ¬ (b = 1 ∧ 28 ≤ i ∧ i < 38) → ¬ (b = 0 ∧ i = 17) → M2 b i = M b i := fun b i h1 h2 => gs_ne eM2 (by omega) (hr1 b i h1)
    have hca2 : mCache M2 fl (sWb σ n wd) (τ + 1) ms := mCache_tick hca (by omega) ((gs_same eM2).trans (gn_add (Eq.refl (nI τ)) (show (1 : Int32) = nI 1 from rfl))) (hr2 0 18 (by omega) (by omega)) (fun a => hr2 6 a (by omega) (by omega))
    have hi2 : mInv M2 (sWb σ n wd) fl ti sh K (τ + 1) ms := ⟨hσ2, hs2, sBd_wb hb hwd, hca2⟩
    refine lv_aload_n X.1 X.2.1 dX12_withBoards_61 rfl (lv_at hl 0 rfl) ?_
    refine lv_iload_n X.1 X.2.1 dX12_withBoards_62 rfl (lv_at hl 1 rfl) ?_
    refine lv_iload_n X.1 X.2.1 dX12_withBoards_63 rfl (lv_at hl 2 rfl) ?_
    refine g_run_i (g_runV (k := 14) [.int (nI μ), .int (nI ld)] X hK hP hS hC hB (c_oneRound hM hi2 hμ (by unfold sWb; rw [if_neg (fun q => absurd q.2.1 (by decide))]; exact h38) hld (by omega) (by omega)) (cwV 2 X.2.2.2.2 gX12_withBoards_X12_oneRound rfl rfl rfl (by decide +kernel) ⟨Nat.le_of_ble_eq_true rfl, Nat.le_of_ble_eq_true rfl⟩) (hM.1 0 _ rfl) rfl rfl hl.1 rfl (Nat.le_of_ble_eq_true rfl) dX12_withBoards_64 (by exact ⟨Nat.zero_le _, Nat.zero_le _⟩)) hS (fun r u H locs hq hP hS => ?_)
    obtain ⟨rfl, hkN3, τN3, msN3, hτaN3, hτbN3, hcaN3⟩ := hq
    generalize u = N3 at hP hkN3 hcaN3
    have hP : gP D cy B z T (gI o 12 N3 I0) R H := hP
    refine lv_istore (lv' := [(5, .int (nI (sSe fl sh (sWb σ n wd) μ ld))), (0, .ref o), (1, .int (nI μ)), (2, .int (nI ld)), (3, .int (nI n)), (4, .int (nI wd))]) X.1 X.2.1 dX12_withBoards_67 hl (by decide) rfl (fun ls hl => ?_)
    refine lv_iconst (v := 0) X.1 X.2.1 dX12_withBoards_69 (by decide) ?_
    refine lv_istore (lv' := [(6, .int 0), (5, .int (nI (sSe fl sh (sWb σ n wd) μ ld))), (0, .ref o), (1, .int (nI μ)), (2, .int (nI ld)), (3, .int (nI n)), (4, .int (nI wd))]) X.1 X.2.1 dX12_withBoards_70 hl (by decide) rfl (fun ls hl => ?_)
    refine m_loop (M := N3) 10 72 [] (fun k Q9 ls => Q9 = mWb N3 n 0 k ∧ lv_has ls 7 [(0, .ref o), (1, .int (nI μ)), (2, .int (nI ld)), (3, .int (nI n)), (4, .int (nI wd)), (5, .int (nI (sSe fl sh (sWb σ n wd) μ ld))), (6, .int (nI k))]) 0 (by omega) ⟨(mWb_0 N3 n 0).symm, lv_sub hl [2, 3, 4, 5, 6, 1, 0] rfl⟩ hP hS (fun k Q9 H locs ls hk hiv hP hS ih => ?_)
    obtain ⟨rfl, hl⟩ := hiv
    generalize eQ4 : mWb N3 n 0 k = Q4 at hP
    refine lv_iload X.1 X.2.1 dX12_withBoards_72 (lv_at hl 6 rfl) ?_
    refine lv_bipush (v := 10) X.1 X.2.1 dX12_withBoards_74 (by decide) ?_
    refine lv_icmp_ge (tgt := 119) X.1 X.2.1 dX12_withBoards_76 (by decide) (fun c76 => ?_) (fun c76 => ?_)
    · obtain rfl : k = 10 := gk18 hk c76
      have hr3 : ∀ b i, ¬ (b = 1 ∧ 28 ≤ i ∧ i < 38) → Q4 b i = N3 b i := fun b i h => by rw [← eQ4]; exact mWb_r _ _ _ _ _ _ (by omega)
      have hrow : ∀ i, Q4 1 i = M 1 i := fun i => by
        by_cases e : 28 ≤ i ∧ i < 38
        · rw [← eQ4]
          have h1 := hkN3 1 i (by unfold qS; omega)
          unfold mWb
          by_cases hbt : sBit n (i - 28) = 1
          · rw [if_pos ⟨rfl, e.1, by have := e.2; omega, hbt⟩, hσ i (by omega) (by omega)]
            have h2 := hbare (i - 28) (by omega) hbt
            rw [show 28 + (i - 28) = i by omega] at h2
            rw [h2]; rfl
          · rw [if_neg (fun q => hbt q.2.2.2), h1, hi2.1 i (by omega) (by omega), hσ i (by omega) (by omega)]
            unfold sWb; rw [if_neg (fun q => hbt q.2.2)]
        · rw [hr3 1 i (by omega), hkN3 1 i (by unfold qS; omega), hr2 1 i (by omega) (by omega)]
      refine lv_aload_n X.1 X.2.1 dX12_withBoards_119 rfl (lv_at hl 0 rfl) ?_
      refine lv_dup X.1 X.2.1 dX12_withBoards_120 rfl ?_
      refine m_geti 17 X hK hP hM hin rfl (by decide) k37 rfl dX12_withBoards_121 (show Q4 0 17 = nI τN3 from ((hr3 0 17 (by omega)).trans hcaN3.2.2.1)) ?_
      refine lv_iconst (v := 1) X.1 X.2.1 dX12_withBoards_124 (by decide) ?_
      refine lv_iadd X.1 X.2.1 dX12_withBoards_125 ?_
      refine m_puti 17 X hK hP hS hM hin rfl (by decide) k37 rfl rfl rfl rfl dX12_withBoards_126 (fun H locs hP hS => ?_)
      generalize eM5 : g2 Q4 0 17 ((nI τN3) + 1) = M5 at hP
      refine lv_iload X.1 X.2.1 dX12_withBoards_129 (lv_at hl 5 rfl) ?_
      exact g_iret M5 X hr hlk hK hP hS dX12_withBoards_131 ⟨rfl, (fun b i h => by by_cases e1 : b = 1; (· subst e1; exact gs_ne eM5 (by omega) (hrow i)); unfold qS at h; exact gs_ne eM5 (by omega) ((hr3 b i (by omega)).trans ((hkN3 b i (by unfold qS; omega)).trans (hr2 b i (by omega) (by omega))))), τN3 + 1, msN3, by omega, by omega, mCache_tick hcaN3 (by omega) ((gs_same eM5).trans (gn_add (Eq.refl (nI τN3)) (show (1 : Int32) = nI 1 from rfl))) (gs_ne eM5 (by omega) (hr3 0 18 (by omega))) (fun a => gs_ne eM5 (by omega) (hr3 6 a (by omega)))⟩
    · have hk9 : k < 10 := gk_lt hk c76
      refine lv_aload_n X.1 X.2.1 dX12_withBoards_79 rfl (lv_at hl 0 rfl) ?_
      refine m_getr 1 1 X hK hP hM hin rfl (by decide) k9 rfl dX12_withBoards_80 (by decide) ?_
      refine lv_bipush (v := 28) X.1 X.2.1 dX12_withBoards_83 (by decide) ?_
      refine lv_iload X.1 X.2.1 dX12_withBoards_85 (lv_at hl 6 rfl) ?_
      refine lv_iadd X.1 X.2.1 dX12_withBoards_87 ?_
      refine lv_iload_n X.1 X.2.1 dX12_withBoards_88 rfl (lv_at hl 3 rfl) ?_
      refine lv_iload X.1 X.2.1 dX12_withBoards_89 (lv_at hl 6 rfl) ?_
      refine lv_ishr X.1 X.2.1 dX12_withBoards_91 ?_
      refine lv_iconst (v := 1) X.1 X.2.1 dX12_withBoards_92 (by decide) ?_
      refine lv_iand X.1 X.2.1 dX12_withBoards_93 ?_
      refine lv_cv (gbit (by omega) (by omega)) ?_
      refine lv_iconst (v := 1) X.1 X.2.1 dX12_withBoards_94 (by decide) ?_
      refine lv_icmp_ne (tgt := 102) X.1 X.2.1 dX12_withBoards_95 (by decide) (fun c95 => ?_) (fun c95 => ?_)
      · have hbit : ¬ sBit n k = 1 := gq_ne c95 (Eq.refl (nI (n / 2 ^ k % 2))) (show (1 : Int32) = nI 1 from rfl) (Nat.lt_trans (sBit_le n k) (by decide)) (by omega)
        refine lv_aload_n X.1 X.2.1 dX12_withBoards_102 rfl (lv_at hl 0 rfl) ?_
        refine m_getr 1 1 X hK hP hM hin rfl (by decide) k9 rfl dX12_withBoards_103 (by decide) ?_
        refine lv_bipush (v := 28) X.1 X.2.1 dX12_withBoards_106 (by decide) ?_
        refine lv_iload X.1 X.2.1 dX12_withBoards_108 (lv_at hl 6 rfl) ?_
        refine lv_iadd X.1 X.2.1 dX12_withBoards_110 ?_
        refine m_ald 1 (28 + k) 883 X hK hP hM rfl (gIx_of (gn_add (show (28 : Int32) = nI 28 from rfl) (Eq.refl (nI k))) (by omega) (by omega)) dX12_withBoards_111 (show Q4 1 (28 + k) = N3 1 (28 + k) from (by rw [← eQ4]; exact mWb_r _ _ _ _ _ _ (by omega))) ?_
        refine m_ast 1 (28 + k) 883 X hK hP hS hM rfl (gIx_of (gn_add (show (28 : Int32) = nI 28 from rfl) (Eq.refl (nI k))) (by omega) (by omega)) dX12_withBoards_112 (fun H locs hP hS => ?_)
        generalize eM6 : g2 Q4 1 (28 + k) (N3 1 (28 + k)) = M6 at hP
        refine lv_iinc (v := nI (k + 1)) (lv' := [(6, .int (nI (k + 1))), (0, .ref o), (1, .int (nI μ)), (2, .int (nI ld)), (3, .int (nI n)), (4, .int (nI wd)), (5, .int (nI (sSe fl sh (sWb σ n wd) μ ld)))]) X.1 X.2.1 dX12_withBoards_113 hl (k := 6) rfl (gn_inc (Eq.refl (nI k)) 1) (by decide) rfl (fun ls hl => ?_)
        refine lv_goto (tgt := 72) X.1 X.2.1 dX12_withBoards_116 (by decide) ?_
        exact ih _ _ _ _ (by omega) ⟨(by rw [← eM6, ← eQ4]; exact mWb_s0 N3 n 0 k hbit), lv_sub hl [1, 2, 3, 4, 5, 6, 0] rfl⟩ hP hS
      · have hbit : sBit n k = 1 := gq_eq c95 (Eq.refl (nI (n / 2 ^ k % 2))) (show (1 : Int32) = nI 1 from rfl) (Nat.lt_trans (sBit_le n k) (by decide)) (by omega)
        refine lv_iconst (v := 0) X.1 X.2.1 dX12_withBoards_98 (by decide) ?_
        refine lv_goto (tgt := 112) X.1 X.2.1 dX12_withBoards_99 (by decide) ?_
        refine m_ast 1 (28 + k) 883 X hK hP hS hM rfl (gIx_of (gn_add (show (28 : Int32) = nI 28 from rfl) (Eq.refl (nI k))) (by omega) (by omega)) dX12_withBoards_112 (fun H locs hP hS => ?_)
        generalize eM7 : g2 Q4 1 (28 + k) 0 = M7 at hP
        refine lv_iinc (v := nI (k + 1)) (lv' := [(6, .int (nI (k + 1))), (0, .ref o), (1, .int (nI μ)), (2, .int (nI ld)), (3, .int (nI n)), (4, .int (nI wd)), (5, .int (nI (sSe fl sh (sWb σ n wd) μ ld)))]) X.1 X.2.1 dX12_withBoards_113 hl (k := 6) rfl (gn_inc (Eq.refl (nI k)) 1) (by decide) rfl (fun ls hl => ?_)
        refine lv_goto (tgt := 72) X.1 X.2.1 dX12_withBoards_116 (by decide) ?_
        exact ih _ _ _ _ (by omega) ⟨(by rw [← eM7, ← eQ4]; exact mWb_s1 N3 n 0 k hbit), lv_sub hl [1, 2, 3, 4, 5, 6, 0] rfl⟩ hP hS
  · have hk9 : k < 10 := gk_lt hk c7
    refine lv_aload_n X.1 X.2.1 dX12_withBoards_10 rfl (lv_at hl 0 rfl) ?_
    refine m_getr 1 1 X hK hP hM hin rfl (by decide) k9 rfl dX12_withBoards_11 (by decide) ?_
    refine lv_bipush (v := 28) X.1 X.2.1 dX12_withBoards_14 (by decide) ?_
    refine lv_iload X.1 X.2.1 dX12_withBoards_16 (lv_at hl 5 rfl) ?_
    refine lv_iadd X.1 X.2.1 dX12_withBoards_18 ?_
    refine lv_iload_n X.1 X.2.1 dX12_withBoards_19 rfl (lv_at hl 3 rfl) ?_
    refine lv_iload X.1 X.2.1 dX12_withBoards_20 (lv_at hl 5 rfl) ?_
    refine lv_ishr X.1 X.2.1 dX12_withBoards_22 ?_
    refine lv_iconst (v := 1) X.1 X.2.1 dX12_withBoards_23 (by decide) ?_
    refine lv_iand X.1 X.2.1 dX12_withBoards_24 ?_
    refine lv_cv (gbit (by omega) (by omega)) ?_
    refine lv_iconst (v := 1) X.1 X.2.1 dX12_withBoards_25 (by decide) ?_
    refine lv_icmp_ne (tgt := 34) X.1 X.2.1 dX12_withBoards_26 (by decide) (fun c26 => ?_) (fun c26 => ?_)
    · have hbit : ¬ sBit n k = 1 := gq_ne c26 (Eq.refl (nI (n / 2 ^ k % 2))) (show (1 : Int32) = nI 1 from rfl) (Nat.lt_trans (sBit_le n k) (by decide)) (by omega)
      refine lv_aload_n X.1 X.2.1 dX12_withBoards_34 rfl (lv_at hl 0 rfl) ?_
      refine m_getr 1 1 X hK hP hM hin rfl (by decide) k9 rfl dX12_withBoards_35 (by decide) ?_
      refine lv_bipush (v := 28) X.1 X.2.1 dX12_withBoards_38 (by decide) ?_
      refine lv_iload X.1 X.2.1 dX12_withBoards_40 (lv_at hl 5 rfl) ?_
      refine lv_iadd X.1 X.2.1 dX12_withBoards_42 ?_
      refine m_ald 1 (28 + k) 883 X hK hP hM rfl (gIx_of (gn_add (show (28 : Int32) = nI 28 from rfl) (Eq.refl (nI k))) (by omega) (by omega)) dX12_withBoards_43 (show Q1 1 (28 + k) = M 1 (28 + k) from (by rw [← eQ1]; exact mWb_r _ _ _ _ _ _ (by omega))) ?_
      refine m_ast 1 (28 + k) 883 X hK hP hS hM rfl (gIx_of (gn_add (show (28 : Int32) = nI 28 from rfl) (Eq.refl (nI k))) (by omega) (by omega)) dX12_withBoards_44 (fun H locs hP hS => ?_)
      generalize eM8 : g2 Q1 1 (28 + k) (M 1 (28 + k)) = M8 at hP
      refine lv_iinc (v := nI (k + 1)) (lv' := [(5, .int (nI (k + 1))), (0, .ref o), (1, .int (nI μ)), (2, .int (nI ld)), (3, .int (nI n)), (4, .int (nI wd))]) X.1 X.2.1 dX12_withBoards_45 hl (k := 5) rfl (gn_inc (Eq.refl (nI k)) 1) (by decide) rfl (fun ls hl => ?_)
      refine lv_goto (tgt := 3) X.1 X.2.1 dX12_withBoards_48 (by decide) ?_
      exact ih _ _ _ _ (by omega) ⟨(by rw [← eM8, ← eQ1]; exact mWb_s0 M n (nI wd) k hbit), lv_sub hl [1, 2, 3, 4, 5, 0] rfl⟩ hP hS
    · have hbit : sBit n k = 1 := gq_eq c26 (Eq.refl (nI (n / 2 ^ k % 2))) (show (1 : Int32) = nI 1 from rfl) (Nat.lt_trans (sBit_le n k) (by decide)) (by omega)
      refine lv_iload X.1 X.2.1 dX12_withBoards_29 (lv_at hl 4 rfl) ?_
      refine lv_goto (tgt := 44) X.1 X.2.1 dX12_withBoards_31 (by decide) ?_
      refine m_ast 1 (28 + k) 883 X hK hP hS hM rfl (gIx_of (gn_add (show (28 : Int32) = nI 28 from rfl) (Eq.refl (nI k))) (by omega) (by omega)) dX12_withBoards_44 (fun H locs hP hS => ?_)
      generalize eM9 : g2 Q1 1 (28 + k) (nI wd) = M9 at hP
      refine lv_iinc (v := nI (k + 1)) (lv' := [(5, .int (nI (k + 1))), (0, .ref o), (1, .int (nI μ)), (2, .int (nI ld)), (3, .int (nI n)), (4, .int (nI wd))]) X.1 X.2.1 dX12_withBoards_45 hl (k := 5) rfl (gn_inc (Eq.refl (nI k)) 1) (by decide) rfl (fun ls hl => ?_)
      refine lv_goto (tgt := 3) X.1 X.2.1 dX12_withBoards_48 (by decide) ?_
      exact ih _ _ _ _ (by omega) ⟨(by rw [← eM9, ← eQ1]; exact mWb_s1 M n (nI wd) k hbit), lv_sub hl [1, 2, 3, 4, 5, 0] rfl⟩ hP hS

end MT9
