/-! THE LAW'S WORLD: one picture of both sides; a call of both. -/
section JC
variable {q E z z' w : Nat} {ad : Nat → Nat} {T T' : Nat → Nat × Nat} {I I' : Nat → Nat → Int32} {R R' : Nat → Nat → Option Nat} {σ σ' σi σi' : Nat → Nat} {fl fl' fi fi' tl tl' : List Nat} {ti sh ti' sh' t2 s2 t2' s2' im im' K K' τ τ' ms' : Nat} {M M' : Nat → Nat → Int32}
/-- the class -/
def jC (q E : Nat) (ad : Nat → Nat) (z : Nat) (T : Nat → Nat × Nat) (I : Nat → Nat → Int32) (R : Nat → Nat → Option Nat) (σ : Nat → Nat) (fl : List Nat) (ti sh : Nat) (tl : List Nat) (im : Nat) (σi : Nat → Nat) (fi : List Nat) (t2 s2 : Nat) : Prop :=
  q + 65 ≤ z ∧ cTop q (q + 6) (q + 21) (q + 36) T R ∧ cNw q (q + 6) T I R σ fl ti sh ∧ cC (q + 6) I fl σ ∧ cLs (q + 52) E ad T I R tl ∧ I q 5 = nI im ∧ (im = 1 → cNw q (q + 21) T I R σi fi t2 s2)
/-- the bounds -/
def aI (K : Nat) (σ : Nat → Nat) (fl : List Nat) (ti sh : Nat) (tl : List Nat) (im : Nat) (σi : Nat → Nat) (fi : List Nat) (t2 s2 : Nat) : Prop :=
  sGd fl ti sh ∧ sBd σ K ∧ (tl.length ≤ 8 ∧ ∀ i, tl.getD i 0 ≤ 100) ∧ im ≤ 1 ∧ (im = 1 → sGd fi t2 s2 ∧ sBd σi K) ∧ σ 3 ≤ 999 ∧ (im = 1 → σi 3 ≤ 999)
def mHd (M : Nat → Nat → Int32) (σ : Nat → Nat) : Prop := M 1 42 = -1 ∨ ∃ hd, hd < σ 39 ∧ M 1 42 = nI hd
def mRw (M : Nat → Nat → Int32) : Nat → Nat → Int32 := fun b i => if b = 1 then M 2 i else M b i
def jIm (M : Nat → Nat → Int32) (σi : Nat → Nat) (fi : List Nat) (t2 s2 : Nat) : Prop := mS (mRw M) σi ∧ mSite (mRw M) fi t2 s2 ∧ mHd (mRw M) σi
/-- the reference -/
def jM (M : Nat → Nat → Int32) (σ : Nat → Nat) (fl : List Nat) (ti sh : Nat) (tl : List Nat) (K τ im : Nat) (σi : Nat → Nat) (fi : List Nat) (t2 s2 : Nat) : Prop :=
  (∃ τ1 ms, τ1 ≤ τ ∧ mInv M σ fl ti sh K τ1 ms) ∧ mHd M σ ∧ mTr M tl ∧ M 0 3 = nI im ∧ (im = 1 → jIm M σi fi t2 s2)
/-- both, in one heap -/
def jI (q E : Nat) (ad : Nat → Nat) (K τ : Nat) (x : gSt) : Prop := ∃ (σ : Nat → Nat) (fl : List Nat) (ti sh : Nat) (tl : List Nat) (im : Nat) (σi : Nat → Nat) (fi : List Nat) (t2 s2 : Nat) (M : Nat → Nat → Int32),
  jC q E ad x.1 x.2.1 x.2.2.1 x.2.2.2 σ fl ti sh tl im σi fi t2 s2 ∧ aI K σ fl ti sh tl im σi fi t2 s2 ∧ jM M σ fl ti sh tl K τ im σi fi t2 s2 ∧ gMod (q + 53) x.2.1 x.2.2.2 ∧ ∀ k j, k < 12 → x.2.2.1 (q + 53 + k) j = M k j
theorem aI.le (h : aI K σ fl ti sh tl im σi fi t2 s2) (hK : K ≤ K') : aI K' σ fl ti sh tl im σi fi t2 s2 := ⟨h.1, sBd_le h.2.1 hK, h.2.2.1, h.2.2.2.1, (fun g => ⟨(h.2.2.2.2.1 g).1, sBd_le (h.2.2.2.2.1 g).2 hK⟩), h.2.2.2.2.2⟩
theorem mHd.c (h : mHd M σ) (h42 : M' 1 42 = M 1 42) (h39 : σ 39 ≤ σ' 39) : mHd M' σ' := by
  rcases h with h | ⟨hd, h1, h2⟩
  · exact Or.inl (h42.trans h)
  · exact Or.inr ⟨hd, by omega, h42.trans h2⟩
theorem jIm.c (h : jIm M σi fi t2 s2) (hr : ∀ i, M' 2 i = M 2 i) : jIm M' σi fi t2 s2 := by
  have h1 : ∀ i, mRw M' 1 i = mRw M 1 i := fun i => hr i
  exact ⟨mS_c h.1 h1, mSite_c h.2.1 (fun i _ _ => h1 i), h.2.2.c (h1 42) (Nat.le_refl _)⟩
theorem mTr.c (h : mTr M tl) (h26 : M' 0 26 = M 0 26) (h11 : ∀ i, M' 11 i = M 11 i) : mTr M' tl := ⟨h26.trans h.1, fun k hk => (h11 k).trans (h.2 k hk)⟩
theorem jM.up (h : jM M σ fl ti sh tl K τ im σi fi t2 s2) (hi : mInv M' σ' fl' ti' sh' K' τ' ms') (hτ : τ' ≤ τ + 140000) (hd : mHd M' σ') (h3 : M' 0 3 = M 0 3) (h26 : M' 0 26 = M 0 26) (h2 : ∀ i, M' 2 i = M 2 i) (h11 : ∀ i, M' 11 i = M 11 i) : jM M' σ' fl' ti' sh' tl K' (τ + 140000) im σi fi t2 s2 :=
  ⟨⟨τ', ms', hτ, hi⟩, hd, h.2.2.1.c h26 h11, h3.trans h.2.2.2.1, fun g => (h.2.2.2.2 g).c h2⟩
theorem jM.le (h : jM M σ fl ti sh tl K τ im σi fi t2 s2) : jM M σ fl ti sh tl (K + 300000) (τ + 140000) im σi fi t2 s2 := by
  obtain ⟨⟨τ1, ms, h1, h2⟩, hd, h3⟩ := h
  exact ⟨⟨τ1, ms, by omega, mInv_le h2 (by omega)⟩, hd, h3⟩
theorem jM.qy {N τ1 ms : Nat} (h : jM M σ fl ti sh tl K τ im σi fi t2 s2) (hi : mInv M σ fl ti sh K τ1 ms) (hτ1 : τ1 ≤ τ) (hN : N ≤ 140000) (hq : mSame qS M M') (hc : ∃ τ' ms', τ1 ≤ τ' ∧ τ' ≤ τ1 + N ∧ mCache M' fl σ τ' ms') : jM M' σ fl ti sh tl (K + 300000) (τ + 140000) im σi fi t2 s2 := by
  obtain ⟨τ', ms', g1, g2, g3⟩ := hc
  refine h.up (mInv_le (inv_q hi hq g3) (by omega)) (by omega) (h.2.1.c (hq 1 42 (by unfold qS; omega)) (Nat.le_refl _)) (hq 0 3 (by unfold qS; omega)) (hq 0 26 (by unfold qS; omega)) (fun i => hq 2 i (by unfold qS; omega)) (fun i => hq 11 i (by unfold qS; omega))
def jRy (q c j : Nat) : Prop := c = q + 11 ∨ c = q + 41 ∨ c = q + 51 ∨ ((c = q + 6 ∨ c = q + 36) ∧ j = 12)
/-- what a call that is no image, undo, act leaves -/
def jFm (q z z' : Nat) (T T' : Nat → Nat × Nat) (I I' : Nat → Nat → Int32) (R R' : Nat → Nat → Option Nat) : Prop :=
  z ≤ z' ∧ (∀ c, c < z → T' c = T c) ∧ (∀ c j, c < z → (q < c ∧ c < q + 6) ∨ (q + 21 ≤ c ∧ c < q + 36) ∨ q + 52 ≤ c ∨ (c = q ∧ j = 5) → I' c j = I c j) ∧ ∀ c j, c < z → ¬ jRy q c j → R' c j = R c j
theorem jFm.rf : jFm q z z T T I I R R := ⟨Nat.le_refl _, fun _ _ => rfl, fun _ _ _ _ => rfl, fun _ _ _ _ => rfl⟩
/-- what every call leaves of the reference -/
def jX (q : Nat) (T T' : Nat → Nat × Nat) (I I' : Nat → Nat → Int32) (R R' : Nat → Nat → Option Nat) : Prop := ∀ c, q + 53 ≤ c → c < q + 65 → T' c = T c ∧ (∀ j, I' c j = I c j) ∧ ∀ j, R' c j = R c j
theorem jFm.x (h : jFm q z z' T T' I I' R R') (hz : q + 65 ≤ z) : jX q T T' I I' R R' := fun c h1 h2 => ⟨h.2.1 c (by omega), fun j => h.2.2.1 c j (by omega) (by omega), fun j => h.2.2.2 c j (by omega) (by unfold jRy; omega)⟩
theorem cNw.img (h : cNw q (q + 21) T I R σi fi t2 s2) (h4 : σi 38 ≤ 4) (hlt : ∀ c, (T c).1 ≠ 0 → c < z) (hz : q + 65 ≤ z) (hf : jFm q z z' T T' I I' R R') : cNw q (q + 21) T' I' R' σi fi t2 s2 := by
  obtain ⟨f1, f2, f3, f4⟩ := hf
  have hr5 : ∀ j, R' (q + 21 + 5) j = R (q + 21 + 5) j := fun j => f4 _ j (by omega) (by unfold jRy; omega)
  exact cNw.mk (h.ab.k (fun c j g1 g2 => f3 c j (by omega) (by omega))) (jMen.up h.2.2.1 hlt h4 rfl (fun _ _ _ => rfl) f2 (fun c j g1 g2 => f3 c j g1 (by omega)) hr5) (cMe.up h.2.2.2.1 hlt f2 hr5) (jSt.up h.2.2.2.2 hlt f2 (fun c j g1 g2 => f3 c j g1 (by omega)) (fun c j g1 g2 _ => f4 c j g1 (by unfold jRy; omega)) (f4 _ 12 (by omega) (by unfold jRy; omega)))
theorem jC.up (h : jC q E ad z T I R σ fl ti sh tl im σi fi t2 s2) (hlt : ∀ c, (T c).1 ≠ 0 → c < z) (h4 : im = 1 → σi 38 ≤ 4) (hN : cNw q (q + 6) T' I' R' σ' fl' ti' sh') (hCc : cC (q + 6) I' fl' σ') (hf : jFm q z z' T T' I I' R R') : jC q E ad z' T' I' R' σ' fl' ti' sh' tl im σi fi t2 s2 := by
  obtain ⟨hz, h1, h2, h3, h5, h6, h7⟩ := h
  obtain ⟨f1, f2, f3, f4⟩ := hf
  exact ⟨Nat.le_trans hz f1, h1.up hz f2 (fun c j g1 g2 => f4 c j (by omega) (fun g => g2 (by unfold jRy at g; unfold jRx; omega))), hN, hCc, h5.up hlt f2 (f3 _ 2 (by omega) (by omega)) (f4 _ 1 (by omega) (by unfold jRy; omega)) (fun c j g1 g2 => f4 c j g1 (by unfold jRy; omega)), (f3 q 5 (by omega) (by omega)).trans h6, fun g => (h7 g).img (h4 g) hlt hz ⟨f1, f2, f3, f4⟩⟩
/-- a call that only tries out -/
theorem jC.qy (h : jC q E ad z T I R σ fl ti sh tl im σi fi t2 s2) (hlt : ∀ c, (T c).1 ≠ 0 → c < z) (h4 : im = 1 → σi 38 ≤ 4) (hQ : cQ q I I' R R') : jC q E ad z T I' R' σ fl ti sh tl im σi fi t2 s2 ∧ jX q T T I I' R R' := by
  have hf : jFm q z z T T I I' R R' := ⟨Nat.le_refl _, fun _ _ => rfl, fun c j g1 g2 => hQ.1 c j (by unfold qF; omega), fun c j g1 g2 => hQ.2 c j (fun g => g2 (by unfold qR at g; unfold jRy; omega))⟩
  exact ⟨h.up hlt h4 (h.2.2.1.fr (by omega) (by omega) hQ) (h.2.2.2.1.k (fun a j g1 g2 => hQ.1 a j (by unfold qF; omega))) hf, hf.x h.1⟩
/-- a call that changes numbers of Works alone -/
theorem jC.wk (h : jC q E ad z T I R σ fl ti sh tl im σi fi t2 s2) (hlt : ∀ c, (T c).1 ≠ 0 → c < z) (h4 : im = 1 → σi 38 ≤ 4) (h9 : σ 38 ≤ 4) (hab : cAB (q + 6) I' σ') (h38 : σ' 38 = σ 38) (hk : ∀ i, 44 ≤ i → i < 56 → σ' i = σ i) (hCc : cC (q + 6) I' fl σ') (hI : ∀ c j, ¬ (q + 6 ≤ c ∧ c < q + 21) → I' c j = I c j) : jC q E ad z T I' R σ' fl ti sh tl im σi fi t2 s2 ∧ jX q T T I I' R R := by
  have hf : jFm q z z T T I I' R R := ⟨Nat.le_refl _, fun _ _ => rfl, fun c j g1 g2 => hI c j (by omega), fun c j g1 g2 => rfl⟩
  have hN := h.2.2.1
  exact ⟨h.up hlt h4 (cNw.mk hab (jMen.up hN.2.2.1 hlt h9 h38 hk (fun _ _ => rfl) (fun c j g1 g2 => hI c j (by omega)) (fun _ => rfl)) hN.2.2.2.1 (jSt.up hN.2.2.2.2 hlt (fun _ _ => rfl) (fun c j g1 g2 => hI c j (by omega)) (fun _ _ _ _ _ => rfl) rfl)) hCc hf, hf.x h.1⟩
/-- the reference's own cells don't matter to the class -/
theorem jC.mod (h : jC q E ad z T I R σ fl ti sh tl im σi fi t2 s2) (hlt : ∀ c, (T c).1 ≠ 0 → c < z) (h4 : im = 1 → σi 38 ≤ 4) (h9 : σ 38 ≤ 4) (hI : ∀ c j, ¬ (q + 53 ≤ c ∧ c < q + 65) → I' c j = I c j) : jC q E ad z T I' R σ fl ti sh tl im σi fi t2 s2 := by
  obtain ⟨hz, h1, h2, h3, h5, h6, h7⟩ := h
  have key : ∀ {w : Nat} {σ : Nat → Nat} {fl : List Nat} {ti sh : Nat}, cNw q w T I R σ fl ti sh → σ 38 ≤ 4 → w + 9 ≤ q + 53 → cNw q w T I' R σ fl ti sh := fun {w σ fl ti sh} hN g4 gw => cNw.mk (hN.ab.k (fun c j g1 g2 => hI c j (by omega))) (jMen.up hN.2.2.1 hlt g4 rfl (fun _ _ _ => rfl) (fun _ _ => rfl) (fun c j g1 g2 => hI c j (by omega)) (fun _ => rfl)) hN.2.2.2.1 (jSt.up hN.2.2.2.2 hlt (fun _ _ => rfl) (fun c j g1 g2 => hI c j (by omega)) (fun _ _ _ _ _ => rfl) rfl)
  exact ⟨hz, h1, key h2 h9 (by omega), h3.k (fun a j g1 g2 => hI a j (by omega)), h5.up hlt (fun _ _ => rfl) (hI _ _ (by omega)) rfl (fun _ _ _ _ => rfl), (hI _ _ (by omega)).trans h6, fun g => key (h7 g) (h4 g) (by omega)⟩
end JC
/-- a contract, its room within the law's, what it leaves by P -/
def jMt (l : Launch) (s0 : State) (D : va_G) (cy : Nat → ClassId) (B : Nat) (y : MethodName) (ws : List Cond) (As : List Value) (x : gSt) (mc ms : Nat) (P : Int32 → gSt → Prop) : Prop :=
  ∃ (fr lo : Nat) (S : Type) (f : S → gSt) (post : Int32 → S → Prop), (fr ≤ 40 ∧ lo ≤ 1000) ∧ Met l y ws ({ frames := fr, cells := mc, slots := ms, locals := lo }) (va_Pc As (gW0 s0 D cy B x)) (va_Qi post (fun u t => gW1 D cy B (f u) t) (gA B)) mc ms (gA B) ∧ ∀ r u, post r u → P r (f u)
/-- the same call of the class and of the reference -/
def jDo (l : Launch) (s0 : State) (D : va_G) (cy : Nat → ClassId) (B q : Nat) (y1 : MethodName) (ws1 : List Cond) (y2 : MethodName) (ws2 : List Cond) (As : List Value) (x : gSt) (Q : gSt → Prop) : Prop :=
  ∃ mc ms, (mc ≤ 8 ∧ ms ≤ 138) ∧ jMt l s0 D cy B y1 ws1 (.ref q :: As) x mc ms (fun r u => u.2.1 (q + 53) = (22, 0) ∧ ((∀ c, (u.2.1 c).1 ≠ 0 → c < u.1) → jMt l s0 D cy B y2 ws2 (.ref (q + 53) :: As) u 0 0 (fun r' u' => r' = r ∧ Q u')))
section JD
variable {l : Launch} {s0 : State} {D : va_G} {cy : Nat → ClassId} {B q E z : Nat} {ad : Nat → Nat} {T : Nat → Nat × Nat} {I : Nat → Nat → Int32} {R : Nat → Nat → Option Nat} {σ σ' σi σi' : Nat → Nat} {fl fl' fi fi' tl tl' : List Nat} {ti sh ti' sh' t2 s2 t2' s2' im im' K τ : Nat} {M : Nat → Nat → Int32}
theorem j_two {y1 y2 : MethodName} {ws1 ws2 : List Cond} {As : List Value} {a1 b1 mc ms a2 b2 : Nat} {r0 : Int32} {P1 : Int32 → gSt → Prop} {P2 : Int32 → (Nat → Nat → Int32) → Prop} (hC : jC q E ad z T I R σ fl ti sh tl im σi fi t2 s2) (hMd : gMod (q + 53) T R) (hMI : ∀ k j, k < 12 → I (q + 53 + k) j = M k j)
    (h1 : Met l y1 ws1 ({ frames := a1, cells := mc, slots := ms, locals := b1 }) (va_Pc (.ref q :: As) (gW0 s0 D cy B (z, T, I, R))) (va_Qi P1 (fun u t => gW1 D cy B u t) (gA B)) mc ms (gA B))
    (h2 : ∀ (z : Nat) (T : Nat → Nat × Nat) (R : Nat → Nat → Option Nat) (I0 : Nat → Nat → Int32), gMod (q + 53) T R → Met l y2 ws2 ({ frames := a2, cells := 0, slots := 0, locals := b2 }) (mPre s0 D cy B (q + 53) z T R I0 M As) (mQi D cy B (q + 53) z T R I0 P2) 0 0 (gA B))
    (hn : (mc ≤ 8 ∧ ms ≤ 138) ∧ (a1 ≤ 40 ∧ b1 ≤ 1000) ∧ a2 ≤ 40 ∧ b2 ≤ 1000)
    (hc : ∀ r u, P1 r u → r = r0 ∧ ∃ z' T' I' R', (z', T', I', R') = u ∧ jC q E ad z' T' I' R' σ' fl' ti' sh' tl' im' σi' fi' t2' s2' ∧ jX q T T' I I' R R')
    (hm : ∀ r M', P2 r M' → r = r0 ∧ jM M' σ' fl' ti' sh' tl' (K + 300000) (τ + 140000) im' σi' fi' t2' s2') (ha : aI (K + 300000) σ' fl' ti' sh' tl' im' σi' fi' t2' s2') : jDo l s0 D cy B q y1 ws1 y2 ws2 As (z, T, I, R) (jI q E ad (K + 300000) (τ + 140000)) := by
  refine ⟨mc, ms, hn.1, a1, b1, gSt, fun u => u, P1, hn.2.1, h1, fun r u hp => ?_⟩
  obtain ⟨rfl, z', T', I', R', rfl, g1, g2⟩ := hc r u hp
  have hMd' : gMod (q + 53) T' R' := hMd.up (fun c e1 e2 => (g2 c e1 (by omega)).1) (fun j => (g2 (q + 53) (by omega) (by omega)).2.2 j)
  refine ⟨hMd'.1 0 _ rfl, fun hlt => ?_⟩
  have eI : gI (q + 53) 12 M I' = I' := by
    funext a j
    unfold gI
    split
    · rename_i h
      have e1 := hMI (a - (q + 53)) j (by omega)
      rw [show q + 53 + (a - (q + 53)) = a by omega] at e1
      rw [← e1]
      exact ((g2 a (by omega) (by omega)).2.1 j).symm
    · rfl
  have h2' := h2 z' T' R' I' hMd'
  have h2'' : Met l y2 ws2 ({ frames := a2, cells := 0, slots := 0, locals := b2 }) (va_Pc (.ref (q + 53) :: As) (gW0 s0 D cy B (z', T', I', R'))) (mQi D cy B (q + 53) z' T' R' I' P2) 0 0 (gA B) := by
    have e2 : mSt (q + 53) z' T' R' I' M = (z', T', I', R') := by
      show (z', T', gI (q + 53) 12 M I', R') = _
      rw [eI]
    rw [← e2]
    exact h2'
  refine ⟨a2, b2, _, fun u => (z', T', gI (q + 53) 12 u I', R'), P2, hn.2.2, h2'', fun r2 M' hp2 => ?_⟩
  obtain ⟨rfl, g3⟩ := hm r2 M' hp2
  refine ⟨rfl, σ', fl', ti', sh', tl', im', σi', fi', t2', s2', M', ?_, ha, g3, hMd', fun k j hk => ?_⟩
  · exact g1.mod hlt (fun g => (ha.2.2.2.2.1 g).2.2.2.2.2.1) ha.2.1.2.2.2.2.1 (fun c j h => by
      show gI (q + 53) 12 M' I' c j = I' c j
      unfold gI
      rw [if_neg (by omega)])
  · show gI (q + 53) 12 M' I' (q + 53 + k) j = M' k j
    unfold gI
    rw [if_pos (by omega), show q + 53 + k - (q + 53) = k by omega]
/-- nothing changes -/
theorem j_pure {y1 y2 : MethodName} {ws1 ws2 : List Cond} {As : List Value} {a1 b1 mc ms a2 b2 : Nat} {r0 : Int32} (hC : jC q E ad z T I R σ fl ti sh tl im σi fi t2 s2) (hA : aI K σ fl ti sh tl im σi fi t2 s2) (hJ : jM M σ fl ti sh tl K τ im σi fi t2 s2) (hMd : gMod (q + 53) T R) (hMI : ∀ k j, k < 12 → I (q + 53 + k) j = M k j)
    (h1 : Met l y1 ws1 ({ frames := a1, cells := mc, slots := ms, locals := b1 }) (va_Pc (.ref q :: As) (gW0 s0 D cy B (z, T, I, R))) (va_Qi (fun r u => r = r0 ∧ (z, T, I, R) = u) (fun u t => gW1 D cy B u t) (gA B)) mc ms (gA B))
    (h2 : ∀ (z : Nat) (T : Nat → Nat × Nat) (R : Nat → Nat → Option Nat) (I0 : Nat → Nat → Int32), gMod (q + 53) T R → Met l y2 ws2 ({ frames := a2, cells := 0, slots := 0, locals := b2 }) (mPre s0 D cy B (q + 53) z T R I0 M As) (mQi D cy B (q + 53) z T R I0 (fun r u => r = r0 ∧ M = u)) 0 0 (gA B))
    (hn : (mc ≤ 8 ∧ ms ≤ 138) ∧ (a1 ≤ 40 ∧ b1 ≤ 1000) ∧ a2 ≤ 40 ∧ b2 ≤ 1000) : jDo l s0 D cy B q y1 ws1 y2 ws2 As (z, T, I, R) (jI q E ad (K + 300000) (τ + 140000)) :=
  j_two hC hMd hMI h1 h2 hn (fun r u hp => ⟨hp.1, z, T, I, R, hp.2, hC, fun c _ _ => ⟨rfl, fun _ => rfl, fun _ => rfl⟩⟩) (fun r M' hp => ⟨hp.1, by rw [← hp.2]; exact hJ.le⟩) (hA.le (by omega))
/-- a call that tries out -/
theorem j_query {y1 y2 : MethodName} {ws1 ws2 : List Cond} {As : List Value} {a1 b1 mc ms a2 b2 N τ1 m1 : Nat} {r0 : Int32} (hC : jC q E ad z T I R σ fl ti sh tl im σi fi t2 s2) (hA : aI K σ fl ti sh tl im σi fi t2 s2) (hJ : jM M σ fl ti sh tl K τ im σi fi t2 s2) (hMd : gMod (q + 53) T R) (hMI : ∀ k j, k < 12 → I (q + 53 + k) j = M k j) (hlt : ∀ c, (T c).1 ≠ 0 → c < z) (hi : mInv M σ fl ti sh K τ1 m1) (hτ1 : τ1 ≤ τ)
    (h1 : Met l y1 ws1 ({ frames := a1, cells := mc, slots := ms, locals := b1 }) (va_Pc (.ref q :: As) (gW0 s0 D cy B (z, T, I, R))) (va_Qi (fun r u => r = r0 ∧ ∃ I' R', u = (z, T, I', R') ∧ cQ q I I' R R') (fun u t => gW1 D cy B u t) (gA B)) mc ms (gA B))
    (h2 : ∀ (z : Nat) (T : Nat → Nat × Nat) (R : Nat → Nat → Option Nat) (I0 : Nat → Nat → Int32), gMod (q + 53) T R → Met l y2 ws2 ({ frames := a2, cells := 0, slots := 0, locals := b2 }) (mPre s0 D cy B (q + 53) z T R I0 M As) (mQi D cy B (q + 53) z T R I0 (fun r u => r = r0 ∧ mSame qS M u ∧ ∃ τ' ms', τ1 ≤ τ' ∧ τ' ≤ τ1 + N ∧ mCache u fl σ τ' ms')) 0 0 (gA B))
    (hn : (mc ≤ 8 ∧ ms ≤ 138) ∧ (a1 ≤ 40 ∧ b1 ≤ 1000) ∧ a2 ≤ 40 ∧ b2 ≤ 1000) (hN : N ≤ 140000) : jDo l s0 D cy B q y1 ws1 y2 ws2 As (z, T, I, R) (jI q E ad (K + 300000) (τ + 140000)) :=
  j_two hC hMd hMI h1 h2 hn (fun r u hp => by
    obtain ⟨e1, I', R', e2, e3⟩ := hp
    have e4 := hC.qy hlt (fun g => (hA.2.2.2.2.1 g).2.2.2.2.2.1) e3
    exact ⟨e1, z, T, I', R', e2.symm, e4.1, e4.2⟩) (fun r M' hp => ⟨hp.1, hJ.qy hi hτ1 hN hp.2.1 hp.2.2⟩) (hA.le (by omega))
/-- a call that changes numbers of Works -/
theorem j_work {y1 y2 : MethodName} {ws1 ws2 : List Cond} {As : List Value} {a1 b1 mc ms a2 b2 : Nat} {r0 : Int32} {P1 : Int32 → gSt → Prop} {P2 : Int32 → (Nat → Nat → Int32) → Prop} (hC : jC q E ad z T I R σ fl ti sh tl im σi fi t2 s2) (hA : aI K σ fl ti sh tl im σi fi t2 s2) (hMd : gMod (q + 53) T R) (hMI : ∀ k j, k < 12 → I (q + 53 + k) j = M k j) (hlt : ∀ c, (T c).1 ≠ 0 → c < z)
    (h1 : Met l y1 ws1 ({ frames := a1, cells := mc, slots := ms, locals := b1 }) (va_Pc (.ref q :: As) (gW0 s0 D cy B (z, T, I, R))) (va_Qi P1 (fun u t => gW1 D cy B u t) (gA B)) mc ms (gA B))
    (h2 : ∀ (z : Nat) (T : Nat → Nat × Nat) (R : Nat → Nat → Option Nat) (I0 : Nat → Nat → Int32), gMod (q + 53) T R → Met l y2 ws2 ({ frames := a2, cells := 0, slots := 0, locals := b2 }) (mPre s0 D cy B (q + 53) z T R I0 M As) (mQi D cy B (q + 53) z T R I0 P2) 0 0 (gA B))
    (hn : (mc ≤ 8 ∧ ms ≤ 138) ∧ (a1 ≤ 40 ∧ b1 ≤ 1000) ∧ a2 ≤ 40 ∧ b2 ≤ 1000) (h38 : σ' 38 = σ 38) (hk : ∀ i, 44 ≤ i → i < 56 → σ' i = σ i)
    (hc : ∀ r u, P1 r u → r = r0 ∧ ∃ I', u = (z, T, I', R) ∧ cAB (q + 6) I' σ' ∧ cC (q + 6) I' fl σ' ∧ ∀ c j, ¬ (q + 6 ≤ c ∧ c < q + 21) → I' c j = I c j)
    (hm : ∀ r M', P2 r M' → r = r0 ∧ jM M' σ' fl ti sh tl (K + 300000) (τ + 140000) im σi fi t2 s2) (hb : sBd σ' (K + 300000)) (h3 : σ' 3 ≤ 999) : jDo l s0 D cy B q y1 ws1 y2 ws2 As (z, T, I, R) (jI q E ad (K + 300000) (τ + 140000)) :=
  j_two hC hMd hMI h1 h2 hn (fun r u hp => by
    obtain ⟨e1, I', e2, e3, e4, e5⟩ := hc r u hp
    have e6 := hC.wk hlt (fun g => (hA.2.2.2.2.1 g).2.2.2.2.2.1) hA.2.1.2.2.2.2.1 e3 h38 hk e4 e5
    exact ⟨e1, z, T, I', R, e2.symm, e6.1, e6.2⟩) hm ⟨hA.1, hb, hA.2.2.1, hA.2.2.2.1, (hA.le (K' := K + 300000) (by omega)).2.2.2.2.1, h3, hA.2.2.2.2.2.2⟩
end JD
/-- a contract, its room within the law's, what it leaves by P -/
def jMtl (l : Launch) (s0 : State) (D : va_G) (cy : Nat → ClassId) (B : Nat) (y : MethodName) (ws : List Cond) (As : List Value) (x : gSt) (mc ms : Nat) (P : Int64 → gSt → Prop) : Prop :=
  ∃ (fr lo : Nat) (S : Type) (f : S → gSt) (post : Int64 → S → Prop), (fr ≤ 40 ∧ lo ≤ 1000) ∧ Met l y ws ({ frames := fr, cells := mc, slots := ms, locals := lo }) (va_Pc As (gW0 s0 D cy B x)) (va_Ql post (fun u t => gW1 D cy B (f u) t) (gA B)) mc ms (gA B) ∧ ∀ r u, post r u → P r (f u)
/-- the same call of the class and of the reference -/
def jDol (l : Launch) (s0 : State) (D : va_G) (cy : Nat → ClassId) (B q : Nat) (y1 : MethodName) (ws1 : List Cond) (y2 : MethodName) (ws2 : List Cond) (As : List Value) (x : gSt) (Q : gSt → Prop) : Prop :=
  ∃ mc ms, (mc ≤ 8 ∧ ms ≤ 138) ∧ jMtl l s0 D cy B y1 ws1 (.ref q :: As) x mc ms (fun r u => u.2.1 (q + 53) = (22, 0) ∧ ((∀ c, (u.2.1 c).1 ≠ 0 → c < u.1) → jMtl l s0 D cy B y2 ws2 (.ref (q + 53) :: As) u 0 0 (fun r' u' => r' = r ∧ Q u')))
section JDl
variable {l : Launch} {s0 : State} {D : va_G} {cy : Nat → ClassId} {B q E z : Nat} {ad : Nat → Nat} {T : Nat → Nat × Nat} {I : Nat → Nat → Int32} {R : Nat → Nat → Option Nat} {σ σ' σi σi' : Nat → Nat} {fl fl' fi fi' tl tl' : List Nat} {ti sh ti' sh' t2 s2 t2' s2' im im' K τ : Nat} {M : Nat → Nat → Int32}
theorem j_twol {y1 y2 : MethodName} {ws1 ws2 : List Cond} {As : List Value} {a1 b1 mc ms a2 b2 : Nat} {r0 : Int64} {P1 : Int64 → gSt → Prop} {P2 : Int64 → (Nat → Nat → Int32) → Prop} (hC : jC q E ad z T I R σ fl ti sh tl im σi fi t2 s2) (hMd : gMod (q + 53) T R) (hMI : ∀ k j, k < 12 → I (q + 53 + k) j = M k j)
    (h1 : Met l y1 ws1 ({ frames := a1, cells := mc, slots := ms, locals := b1 }) (va_Pc (.ref q :: As) (gW0 s0 D cy B (z, T, I, R))) (va_Ql P1 (fun u t => gW1 D cy B u t) (gA B)) mc ms (gA B))
    (h2 : ∀ (z : Nat) (T : Nat → Nat × Nat) (R : Nat → Nat → Option Nat) (I0 : Nat → Nat → Int32), gMod (q + 53) T R → Met l y2 ws2 ({ frames := a2, cells := 0, slots := 0, locals := b2 }) (mPre s0 D cy B (q + 53) z T R I0 M As) (mQl D cy B (q + 53) z T R I0 P2) 0 0 (gA B))
    (hn : (mc ≤ 8 ∧ ms ≤ 138) ∧ (a1 ≤ 40 ∧ b1 ≤ 1000) ∧ a2 ≤ 40 ∧ b2 ≤ 1000)
    (hc : ∀ r u, P1 r u → r = r0 ∧ ∃ z' T' I' R', (z', T', I', R') = u ∧ jC q E ad z' T' I' R' σ' fl' ti' sh' tl' im' σi' fi' t2' s2' ∧ jX q T T' I I' R R')
    (hm : ∀ r M', P2 r M' → r = r0 ∧ jM M' σ' fl' ti' sh' tl' (K + 300000) (τ + 140000) im' σi' fi' t2' s2') (ha : aI (K + 300000) σ' fl' ti' sh' tl' im' σi' fi' t2' s2') : jDol l s0 D cy B q y1 ws1 y2 ws2 As (z, T, I, R) (jI q E ad (K + 300000) (τ + 140000)) := by
  refine ⟨mc, ms, hn.1, a1, b1, gSt, fun u => u, P1, hn.2.1, h1, fun r u hp => ?_⟩
  obtain ⟨rfl, z', T', I', R', rfl, g1, g2⟩ := hc r u hp
  have hMd' : gMod (q + 53) T' R' := hMd.up (fun c e1 e2 => (g2 c e1 (by omega)).1) (fun j => (g2 (q + 53) (by omega) (by omega)).2.2 j)
  refine ⟨hMd'.1 0 _ rfl, fun hlt => ?_⟩
  have eI : gI (q + 53) 12 M I' = I' := by
    funext a j
    unfold gI
    split
    · rename_i h
      have e1 := hMI (a - (q + 53)) j (by omega)
      rw [show q + 53 + (a - (q + 53)) = a by omega] at e1
      rw [← e1]
      exact ((g2 a (by omega) (by omega)).2.1 j).symm
    · rfl
  have h2' := h2 z' T' R' I' hMd'
  have h2'' : Met l y2 ws2 ({ frames := a2, cells := 0, slots := 0, locals := b2 }) (va_Pc (.ref (q + 53) :: As) (gW0 s0 D cy B (z', T', I', R'))) (mQl D cy B (q + 53) z' T' R' I' P2) 0 0 (gA B) := by
    have e2 : mSt (q + 53) z' T' R' I' M = (z', T', I', R') := by
      show (z', T', gI (q + 53) 12 M I', R') = _
      rw [eI]
    rw [← e2]
    exact h2'
  refine ⟨a2, b2, _, fun u => (z', T', gI (q + 53) 12 u I', R'), P2, hn.2.2, h2'', fun r2 M' hp2 => ?_⟩
  obtain ⟨rfl, g3⟩ := hm r2 M' hp2
  refine ⟨rfl, σ', fl', ti', sh', tl', im', σi', fi', t2', s2', M', ?_, ha, g3, hMd', fun k j hk => ?_⟩
  · exact g1.mod hlt (fun g => (ha.2.2.2.2.1 g).2.2.2.2.2.1) ha.2.1.2.2.2.2.1 (fun c j h => by
      show gI (q + 53) 12 M' I' c j = I' c j
      unfold gI
      rw [if_neg (by omega)])
  · show gI (q + 53) 12 M' I' (q + 53 + k) j = M' k j
    unfold gI
    rw [if_pos (by omega), show q + 53 + k - (q + 53) = k by omega]
/-- nothing changes -/
theorem j_purel {y1 y2 : MethodName} {ws1 ws2 : List Cond} {As : List Value} {a1 b1 mc ms a2 b2 : Nat} {r0 : Int64} (hC : jC q E ad z T I R σ fl ti sh tl im σi fi t2 s2) (hA : aI K σ fl ti sh tl im σi fi t2 s2) (hJ : jM M σ fl ti sh tl K τ im σi fi t2 s2) (hMd : gMod (q + 53) T R) (hMI : ∀ k j, k < 12 → I (q + 53 + k) j = M k j)
    (h1 : Met l y1 ws1 ({ frames := a1, cells := mc, slots := ms, locals := b1 }) (va_Pc (.ref q :: As) (gW0 s0 D cy B (z, T, I, R))) (va_Ql (fun r u => r = r0 ∧ (z, T, I, R) = u) (fun u t => gW1 D cy B u t) (gA B)) mc ms (gA B))
    (h2 : ∀ (z : Nat) (T : Nat → Nat × Nat) (R : Nat → Nat → Option Nat) (I0 : Nat → Nat → Int32), gMod (q + 53) T R → Met l y2 ws2 ({ frames := a2, cells := 0, slots := 0, locals := b2 }) (mPre s0 D cy B (q + 53) z T R I0 M As) (mQl D cy B (q + 53) z T R I0 (fun r u => r = r0 ∧ M = u)) 0 0 (gA B))
    (hn : (mc ≤ 8 ∧ ms ≤ 138) ∧ (a1 ≤ 40 ∧ b1 ≤ 1000) ∧ a2 ≤ 40 ∧ b2 ≤ 1000) : jDol l s0 D cy B q y1 ws1 y2 ws2 As (z, T, I, R) (jI q E ad (K + 300000) (τ + 140000)) :=
  j_twol hC hMd hMI h1 h2 hn (fun r u hp => ⟨hp.1, z, T, I, R, hp.2, hC, fun c _ _ => ⟨rfl, fun _ => rfl, fun _ => rfl⟩⟩) (fun r M' hp => ⟨hp.1, by rw [← hp.2]; exact hJ.le⟩) (hA.le (by omega))
end JDl
