/-! what a ROUND's walking takes, less what being TIRED adds; the Trips' cache -/
def sWt (fl : List Nat) (σ : Nat → Nat) (μ υ β : Nat) : Nat := max 1 (2 + (sX fl (fF σ μ υ β)).1 - (sX fl (fF σ μ υ β)).2.1) + slF (σ (44 + μ)) (σ (48 + μ)) (σ (28 + υ))
def sWg (fl : List Nat) (σ : Nat → Nat) (μ ca : Nat) : Nat → Nat
  | 0 => 0
  | y + 1 => sWg fl σ μ ca y + (sWt fl σ μ y (sBa fl σ μ ca y) + sWt fl σ μ y 0)
theorem sTk_wt (fl : List Nat) (σ : Nat → Nat) (μ υ β : Nat) : sTk fl σ μ υ β = sWt fl σ μ υ β + (σ (4 + μ) / 10 + drF (σ (44 + μ)) (σ (48 + μ)) (σ (4 + μ))) := by
  unfold sTk sWt drF slF
  omega
def sS0 (fl : List Nat) (σ : Nat → Nat) (μ : Nat) : Nat → Nat
  | 0 => 0
  | y + 1 => sS0 fl σ μ y + sTk fl σ μ y 0
theorem sHm_s0 (fl : List Nat) (σ : Nat → Nat) (μ : Nat) : ∀ n, n ≤ 10 → sHm fl σ μ n + sS0 fl σ μ (10 - n) = sS0 fl σ μ 10
  | 0, _ => by show 0 + _ = _; rw [Nat.zero_add]
  | n + 1, h => by
    have ih := sHm_s0 fl σ μ n (by omega)
    have e1 : 10 - n = (10 - (n + 1)) + 1 := by omega
    rw [e1] at ih
    have e2 : sS0 fl σ μ (10 - (n + 1) + 1) = sS0 fl σ μ (10 - (n + 1)) + sTk fl σ μ (10 - (n + 1)) 0 := rfl
    rw [e2, show 10 - (n + 1) = 9 - n by omega] at ih
    show sHm fl σ μ n + sTk fl σ μ (9 - n) 0 + sS0 fl σ μ (10 - (n + 1)) = _
    rw [show 10 - (n + 1) = 9 - n by omega]
    omega
theorem sTh_wg (fl : List Nat) (σ : Nat → Nat) (μ β : Nat) : ∀ n, sTh fl σ μ β n + sS0 fl σ μ n = sWg fl σ μ β n + 2 * n * (σ (4 + μ) / 10 + drF (σ (44 + μ)) (σ (48 + μ)) (σ (4 + μ)))
  | 0 => by simp [sTh, sS0, sWg]
  | n + 1 => by
    have ih := sTh_wg fl σ μ β n
    show sTh fl σ μ β n + sTk fl σ μ n (sBa fl σ μ β n) + (sS0 fl σ μ n + sTk fl σ μ n 0) = sWg fl σ μ β n + (sWt fl σ μ n (sBa fl σ μ β n) + sWt fl σ μ n 0) + _
    rw [sTk_wt, sTk_wt]
    generalize σ (4 + μ) / 10 + drF (σ (44 + μ)) (σ (48 + μ)) (σ (4 + μ)) = g at *
    rw [show 2 * (n + 1) * g = 2 * n * g + (g + g) by rw [Nat.mul_add, Nat.add_mul]; omega]
    omega
/-- a ROUND's seconds as the class reckons them -/
theorem sSe_wg (fl : List Nat) (sh : Nat) (σ : Nat → Nat) (μ ld : Nat) : sSe fl sh σ μ ld = sFi sh σ μ ld + sWg fl σ μ (sCm σ μ ld) 10 + 20 * (σ (4 + μ) / 10 + drF (σ (44 + μ)) (σ (48 + μ)) (σ (4 + μ))) := by
  have h1 := sTh_wg fl σ μ (sCm σ μ ld) 10
  have h2 := sHm_s0 fl σ μ 10 (by omega)
  unfold sSe
  have h3 : sS0 fl σ μ (10 - 10) = 0 := rfl
  rw [h3] at h2
  generalize σ (4 + μ) / 10 + drF (σ (44 + μ)) (σ (48 + μ)) (σ (4 + μ)) = g at *
  omega
theorem sCm_hp (σ : Nat → Nat) (μ ld : Nat) : sCm σ μ ld = min (min (ld + hpF (σ (44 + μ)) (σ (48 + μ))) 20) (σ 0) := rfl
theorem hpF_le {κ v : Nat} (h : v ≤ 9) : hpF κ v ≤ 9 := by unfold hpF; split <;> omega
theorem wtF_le {κ v : Nat} (h : v ≤ 9) : wtF κ v ≤ 9 := by unfold wtF; split <;> omega
theorem drF_le {κ v t : Nat} : drF κ v t ≤ 1 := by unfold drF; split <;> omega
theorem slF_le {κ v b : Nat} : slF κ v b ≤ 20 := by unfold slF; split <;> omega
theorem spF_le {κ v y b : Nat} (h : v ≤ 9) : spF κ v y b ≤ 9 := by
  unfold spF
  split
  · exact h
  · split <;> omega
theorem tpF_le {κ v q b : Nat} : tpF κ v q b ≤ q := by unfold tpF; split <;> omega
theorem sLs_sp (fl : List Nat) (σ : Nat → Nat) (μ υ β : Nat) : sLs fl σ μ υ β = min β ((sX fl (fF σ μ υ β)).2.2 + spF (σ (44 + μ)) (σ (48 + μ)) υ (σ (28 + υ))) := by
  unfold sLs spF
  by_cases h4 : σ (44 + μ) = 4
  · by_cases h0 : 0 < σ (28 + υ)
    · simp [h4, h0]
    · simp [h4, h0]
  · simp [h4]
theorem sAf_tp (fl : List Nat) (σ : Nat → Nat) (μ υ β : Nat) : sAf fl σ μ υ β = (β - sLs fl σ μ υ β) - tpF (σ (44 + μ)) (σ (48 + μ)) (β - sLs fl σ μ υ β) (σ (28 + υ)) := rfl
/-- what the walking of μ hangs on -/
def sLook (σ σ' : Nat → Nat) : Prop := ∀ i, (8 ≤ i ∧ i < 39) ∨ (44 ≤ i ∧ i < 52) → σ' i = σ i
theorem sLook.f {σ σ' : Nat → Nat} (h : sLook σ σ') {μ υ : Nat} (hμ : μ < 4) (hυ : υ < 10) (β : Nat) : fF σ' μ υ β = fF σ μ υ β := by
  funext j
  unfold fF
  rw [h (8 + υ) (by omega), h (18 + υ) (by omega), h (28 + υ) (by omega), h (44 + μ) (by omega)]
theorem sLook.ba {fl : List Nat} {σ σ' : Nat → Nat} (h : sLook σ σ') {μ : Nat} (hμ : μ < 4) (β : Nat) : ∀ υ, υ ≤ 10 → sBa fl σ' μ β υ = sBa fl σ μ β υ
  | 0, _ => rfl
  | υ + 1, hυ => by
    show sAf fl σ' μ υ (sBa fl σ' μ β υ) = sAf fl σ μ υ (sBa fl σ μ β υ)
    rw [h.ba hμ β υ (by omega)]
    unfold sAf sLs
    rw [h.f hμ (by omega) _, h (44 + μ) (by omega), h (48 + μ) (by omega), h (28 + υ) (by omega)]
theorem sLook.wg {fl : List Nat} {σ σ' : Nat → Nat} (h : sLook σ σ') {μ : Nat} (hμ : μ < 4) (β : Nat) : ∀ υ, υ ≤ 10 → sWg fl σ' μ β υ = sWg fl σ μ β υ
  | 0, _ => rfl
  | υ + 1, hυ => by
    show sWg fl σ' μ β υ + (sWt fl σ' μ υ (sBa fl σ' μ β υ) + sWt fl σ' μ υ 0) = sWg fl σ μ β υ + (sWt fl σ μ υ (sBa fl σ μ β υ) + sWt fl σ μ υ 0)
    rw [h.wg hμ β υ (by omega), h.ba hμ β υ (by omega)]
    unfold sWt
    rw [h.f hμ (by omega) _, h.f hμ (by omega) _, h (44 + μ) (by omega), h (48 + μ) (by omega), h (28 + υ) (by omega)]
def cT1 (I : Nat → Nat → Int32) (t : Nat) (fl : List Nat) (σ : Nat → Nat) (μ : Nat) : Prop := I t 0 = 0 ∨ (I t 0 = 1 ∧ ∃ ca, ca ≤ 20 ∧ I t 1 = nI ca ∧ I t 3 = nI (sWg fl σ μ ca 10) ∧ I t 5 = nI (sBa fl σ μ ca 10) ∧ μ < σ 38)
def cC (w : Nat) (I : Nat → Nat → Int32) (fl : List Nat) (σ : Nat → Nat) : Prop := ∀ μ, μ < 4 → cT1 I (w + 11 + μ) fl σ μ
theorem cC.lk {w : Nat} {I : Nat → Nat → Int32} {fl : List Nat} {σ σ' : Nat → Nat} (h : cC w I fl σ) (hk : sLook σ σ') : cC w I fl σ' := fun μ hμ => by
  rcases h μ hμ with h1 | ⟨h1, ca, h2, h3, h4, h5, h6⟩
  · exact Or.inl h1
  · exact Or.inr ⟨h1, ca, h2, h3, by rw [hk.wg hμ ca 10 (by omega)]; exact h4, by rw [hk.ba hμ ca 10 (by omega)]; exact h5, by rw [hk 38 (by omega)]; exact h6⟩
theorem cC.k {w : Nat} {I I' : Nat → Nat → Int32} {fl : List Nat} {σ : Nat → Nat} (h : cC w I fl σ) (hk : ∀ a j, w + 11 ≤ a → a < w + 15 → I' a j = I a j) : cC w I' fl σ := fun μ hμ => by
  unfold cT1
  rw [hk _ 0 (by omega) (by omega), hk _ 1 (by omega) (by omega), hk _ 3 (by omega) (by omega), hk _ 5 (by omega) (by omega)]
  exact h μ hμ
theorem cC.fg {w : Nat} {I : Nat → Nat → Int32} {fl : List Nat} {σ : Nat → Nat} (h : ∀ a, w + 11 ≤ a → a < w + 15 → I a 0 = 0) : cC w I fl σ := fun μ hμ => Or.inl (h _ (by omega) (by omega))
/-- TIRED, more or less -/
theorem tire_v {t : Nat} {x more : Int32} {d : Int} (ht : t ≤ 99) (hd : more.toInt = d) (h1 : -99 ≤ d) (h2 : d ≤ 99) (hx : x = nI t + more) : (if (0 : Int32) < (if x < 99 then x else 99) then (if x < 99 then x else 99) else 0) = nI (max 0 (min 99 ((t : Int) + d))).toNat := by
  have hxt : x.toInt = (t : Int) + d := by
    rw [hx, Int32.toInt_add, nI_toInt (by omega), hd, Int.bmod_def]
    omega
  have e99 : (99 : Int32).toInt = 99 := by decide
  have e0 : (0 : Int32).toInt = 0 := by decide
  apply Int32.toInt_inj.mp
  rw [nI_toInt (by omega)]
  by_cases c1 : x < 99
  · rw [if_pos c1]
    rw [Int32.lt_iff_toInt_lt, hxt, e99] at c1
    by_cases c2 : (0 : Int32) < x
    · rw [if_pos c2, hxt]
      rw [Int32.lt_iff_toInt_lt, hxt, e0] at c2
      omega
    · rw [if_neg c2, e0]
      rw [Int32.lt_iff_toInt_lt, hxt, e0] at c2
      omega
  · rw [if_neg c1, if_pos (by decide), e99]
    rw [Int32.lt_iff_toInt_lt, hxt, e99] at c1
    omega
