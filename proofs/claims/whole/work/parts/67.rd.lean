/-! THE READER at rd: its tape tc, the Site that is being read at a; tp the signs, n how many, p the place. -/
def cRd (rd tc a : Nat) (T : Nat → Nat × Nat) (I : Nat → Nat → Int32) (R : Nat → Nat → Option Nat) (tp : Nat → Nat) (n p : Nat) : Prop := (T rd = (15, 0) ∧ R rd 1 = some tc ∧ R rd 3 = some a ∧ T tc = (2, 100) ∧ cSt a T R) ∧ (rd < a ∧ tc < a ∧ rd ≠ tc) ∧ (n ≤ 100 ∧ p ≤ n ∧ ∀ k, tp k ≤ 127) ∧ I rd 0 = nI p ∧ I rd 2 = nI n ∧ ∀ k, k < 100 → I tc k = nI (tp k)
def rFr (rd a : Nat) (I I' : Nat → Nat → Int32) : Prop := ∀ c j, ¬ (c = rd ∧ j = 0) → ¬ (a ≤ c ∧ c < a + 5 ∧ (¬ c = a ∨ 2 ≤ j)) → I' c j = I c j
def rFw (rd a : Nat) (I I' : Nat → Nat → Int32) : Prop := ∀ c j, ¬ (c = rd ∧ j = 0) → ¬ (a ≤ c ∧ c < a + 5) → I' c j = I c j
theorem rFr.wk {rd a : Nat} {I I' : Nat → Nat → Int32} (h : rFr rd a I I') : rFw rd a I I' := fun c j h1 h2 => h c j h1 (by omega)
theorem rFw.trs {rd a : Nat} {I I' I'' : Nat → Nat → Int32} (h : rFw rd a I I') (g : rFw rd a I' I'') : rFw rd a I I'' := fun c j h1 h2 => (g c j h1 h2).trans (h c j h1 h2)
section RD
variable {rd tc a : Nat} {T : Nat → Nat × Nat} {I I' I'' : Nat → Nat → Int32} {R : Nat → Nat → Option Nat} {tp : Nat → Nat} {n p p' : Nat} {cs : Cls} {pd L : List Nat}
theorem rFr.rf : rFr rd a I I := fun _ _ _ _ => rfl
theorem rFr.trs (h : rFr rd a I I') (g : rFr rd a I' I'') : rFr rd a I I'' := fun c j h1 h2 => (g c j h1 h2).trans (h c j h1 h2)
theorem rFr.one {v : Int32} (e : g2 I rd 0 v = I') : rFr rd a I I' := fun c j h1 _ => gs_ne e h1 rfl
theorem cRd.mv (h : cRd rd tc a T I R tp n p) (hf : rFr rd a I I') (hp : I' rd 0 = nI p') (hle : p' ≤ n) : cRd rd tc a T I' R tp n p' := by
  obtain ⟨h1, h2, h3, h4, h5, h6⟩ := h
  exact ⟨h1, h2, ⟨h3.1, hle, h3.2.2⟩, hp, (hf _ _ (by omega) (by omega)).trans h5, fun k hk => (hf _ _ (by omega) (by omega)).trans (h6 k hk)⟩
theorem cSr.k (h : cSr a I cs pd) (hk : ∀ c j, a ≤ c → c < a + 5 → I' c j = I c j) : cSr a I' cs pd := by
  obtain ⟨g1, g2, g3, g4, g5, g6, g7⟩ := h
  refine ⟨g1, g2, (hk _ _ (by omega) (by omega)).trans g3, (hk _ _ (by omega) (by omega)).trans g4, fun k q => ?_, fun k q => (hk _ _ (by omega) (by omega)).trans (g6 k q), g7⟩
  obtain ⟨e1, e2, e3⟩ := g5 k q
  exact ⟨(hk _ _ (by omega) (by omega)).trans e1, (hk _ _ (by omega) (by omega)).trans e2, (hk _ _ (by omega) (by omega)).trans e3⟩
theorem cSr.pl {v : Int32} (h : cSr a I cs pd) (hr : rd < a) (e : g2 I rd 0 v = I') : cSr a I' cs pd := h.k (fun c j g1 g2 => gs_ne e (by omega) rfl)
theorem coC_fl : ∀ cs : Cls, (coC cs).length ≤ (flC cs).length
  | [] => Nat.le_refl _
  | x :: r => by
    have h := coC_fl r
    show (x.1 ++ coC r).length ≤ (x.1 ++ [_] ++ flC r).length
    simp only [List.length_append, List.length_cons, List.length_nil]
    omega
theorem co_le : (coC cs ++ pd).length ≤ (flC cs ++ pd).length := by
  have h := coC_fl cs
  simp only [List.length_append]
  omega
/-- a code more -/
theorem cSr.push {I1 I2 : Nat → Nat → Int32} {t : Nat} {v : Int32} (h : cSr a I cs pd) (hL : (coC cs ++ pd).length < 100) (ht : t ≤ 10002) (hv : v = encC t) (e1 : g2 I (a + 4) (coC cs ++ pd).length v = I1) (e2 : g2 I1 a 7 (nI (coC cs ++ pd).length + 1) = I2) : cSr a I2 cs (pd ++ [t]) := by
  obtain ⟨g1, g2, g3, g4, g5, g6, g7, g8⟩ := h
  have hl : (coC cs ++ (pd ++ [t])).length = (coC cs ++ pd).length + 1 := by simp only [List.length_append, List.length_cons, List.length_nil]; omega
  refine ⟨g1, by rw [hl]; omega, gs_ne e2 (by omega) (gs_ne e1 (by omega) g3), ?_, fun k hk => ?_, fun k hk => ?_, g7, fun x hx => ?_⟩
  · rw [gs_same e2, hl]
    exact nI_add _ 1
  · obtain ⟨q1, q2, q3⟩ := g5 k hk
    exact ⟨gs_ne e2 (by omega) (gs_ne e1 (by omega) q1), gs_ne e2 (by omega) (gs_ne e1 (by omega) q2), gs_ne e2 (by omega) (gs_ne e1 (by omega) q3)⟩
  · rw [hl] at hk
    rw [← List.append_assoc]
    by_cases q : k = (coC cs ++ pd).length
    · subst q
      rw [gs_ne e2 (by omega) (gs_same e1), hv]
      congr 1
      simp
    · have hk2 : k < (coC cs ++ pd).length := by omega
      rw [gs_ne e2 (by omega) (gs_ne e1 (by omega) (g6 k hk2))]
      congr 1
      simp only [List.getD_eq_getElem?_getD]
      rw [List.getElem?_append_left hk2]
  · rcases List.mem_append.mp hx with q | q
    · exact g8 x q
    · rw [List.mem_singleton.mp q]
      exact ht
/-- a CLAUSE more -/
theorem cSr.add {I1 I2 I3 I4 : Nat → Nat → Int32} {w v : Nat} (h : cSr a I cs pd) (hc : cs.length < 10) (hw : w ≤ 2) (hv : v ≤ 99) (e1 : g2 I (a + 1) cs.length (nI w) = I1) (e2 : g2 I1 (a + 2) cs.length (nI v) = I2) (e3 : g2 I2 (a + 3) cs.length (nI (coC cs ++ pd).length) = I3) (e4 : g2 I3 a 6 (nI cs.length + 1) = I4) : cSr a I4 (cs ++ [(pd, w, v)]) [] := by
  obtain ⟨g1, g2, g3, g4, g5, g6, g7, g8⟩ := h
  have hco : coC (cs ++ [(pd, w, v)]) = coC cs ++ pd := by rw [coC_app]; show _ ++ (pd ++ []) = _; rw [List.append_nil]
  have ho : ∀ c j, ¬ (c = a + 1 ∧ j = cs.length) → ¬ (c = a + 2 ∧ j = cs.length) → ¬ (c = a + 3 ∧ j = cs.length) → ¬ (c = a ∧ j = 6) → I4 c j = I c j := fun c j q1 q2 q3 q4 => gs_ne e4 q4 (gs_ne e3 q3 (gs_ne e2 q2 (gs_ne e1 q1 rfl)))
  have hle : (cs ++ [(pd, w, v)]).length = cs.length + 1 := by simp
  refine ⟨by rw [hle]; omega, by rw [List.append_nil, hco]; exact g2, ?_, ?_, fun k hk => ?_, fun k hk => ?_, fun x hx => ?_, fun t ht => absurd ht (List.not_mem_nil)⟩
  · rw [gs_same e4, hle]
    exact nI_add _ 1
  · rw [List.append_nil, hco, ho _ _ (by omega) (by omega) (by omega) (by omega)]
    exact g4
  · rw [hle] at hk
    by_cases q : k = cs.length
    · subst q
      rw [show (cs ++ [(pd, w, v)]).getD cs.length ([], 0, 0) = (pd, w, v) by simp, List.take_of_length_le (by rw [hle]; omega), hco]
      exact ⟨gs_ne e4 (by omega) (gs_ne e3 (by omega) (gs_ne e2 (by omega) (gs_same e1))), gs_ne e4 (by omega) (gs_ne e3 (by omega) (gs_same e2)), gs_ne e4 (by omega) (gs_same e3)⟩
    · have hk2 : k < cs.length := by omega
      rw [show (cs ++ [(pd, w, v)]).getD k ([], 0, 0) = cs.getD k ([], 0, 0) by simp only [List.getD_eq_getElem?_getD]; rw [List.getElem?_append_left hk2], List.take_append_of_le_length (by omega)]
      obtain ⟨q1, q2, q3⟩ := g5 k hk2
      exact ⟨(ho _ _ (by omega) (by omega) (by omega) (by omega)).trans q1, (ho _ _ (by omega) (by omega) (by omega) (by omega)).trans q2, (ho _ _ (by omega) (by omega) (by omega) (by omega)).trans q3⟩
  · rw [List.append_nil, hco] at hk ⊢
    rw [ho _ _ (by omega) (by omega) (by omega) (by omega)]
    exact g6 k hk
  · rcases List.mem_append.mp hx with q | q
    · exact g7 x q
    · rw [List.mem_singleton.mp q]
      exact ⟨hw, hv, g8⟩
theorem flC_add {w v : Nat} : flC (cs ++ [(pd, w, v)]) = flC cs ++ pd ++ [20000 + 100 * w + v] := by
  rw [flC_app]
  show flC cs ++ (pd ++ [_] ++ []) = _
  rw [List.append_nil, List.append_assoc]
theorem enc_T {s c v : Nat} (hs : s < 6) (hc : c < 3) (hv : v ≤ 99) : encC (s + 8 * c + 32 * v) = nI ((s * 3 + c) * 100 + v) ∧ s + 8 * c + 32 * v ≤ 10002 := by
  constructor
  · unfold encC
    rw [if_pos (by omega), show (s + 8 * c + 32 * v) % 8 = s by omega, show (s + 8 * c + 32 * v) / 8 % 4 = c by omega, show (s + 8 * c + 32 * v) / 32 = v by omega]
  · omega
theorem pEm_f {t i : Nat} : pEm t (false, i, L) = (false, i, L ++ [t]) := rfl
theorem pEm_tr {t i : Nat} : pEm t (true, i, L) = (true, i, L) := rfl
/-- which of a text's signs -/
theorem sIx_am : ∀ (w : List Nat) (x k : Nat), sIx x w k = if pAm w x < w.length then nI (k + pAm w x) else -1
  | [], x, k => rfl
  | b :: r, x, k => by
    have ih := sIx_am r x (k + 1)
    show (if b = x then nI k else sIx x r (k + 1)) = _
    unfold pAm at ih ⊢
    rw [List.findIdx_cons]
    by_cases h : b = x
    · rw [if_pos h]
      simp [h]
    · rw [if_neg h, ih]
      have hb : (b == x) = false := by simp [h]
      rw [hb]
      simp only [cond_false, List.length_cons]
      by_cases h2 : List.findIdx (fun y => y == x) r < r.length
      · rw [if_pos h2, if_pos (by omega)]
        congr 1
        omega
      · rw [if_neg h2, if_neg (by omega)]
theorem pAm_le (w : List Nat) (x : Nat) : pAm w x ≤ w.length := List.findIdx_le_length
theorem pAm_128 {w : List Nat} (h : ∀ x ∈ w, x < 128) : ¬ pAm w 128 < w.length := fun g => by
  unfold pAm at g
  have h1 := List.findIdx_getElem (w := g)
  have h2 : w[List.findIdx (fun y => y == 128) w]'g = 128 := by simpa using h1
  have h3 := h _ (List.getElem_mem g)
  omega
theorem sH_lt {i : Nat} (h : i < n) : sH tp n i = tp i := if_pos h
theorem sH_ge {i : Nat} (h : ¬ i < n) : sH tp n i = 128 := if_neg h
theorem dg_am {x : Nat} : pAm [48, 49, 50, 51, 52, 53, 54, 55, 56, 57] x < 10 ↔ isD x := by
  unfold pAm isD
  by_cases h : 48 ≤ x ∧ x ≤ 57
  · refine ⟨fun _ => h, fun _ => ?_⟩
    have : ∀ x, x < 58 → 48 ≤ x → List.findIdx (fun y => y == x) [48, 49, 50, 51, 52, 53, 54, 55, 56, 57] < 10 := by decide
    exact this x (by omega) h.1
  · refine ⟨fun g => ?_, fun g => absurd g h⟩
    have h1 := List.findIdx_getElem (xs := [48, 49, 50, 51, 52, 53, 54, 55, 56, 57]) (p := fun y => y == x) (w := g)
    have h2 : ∀ y ∈ [48, 49, 50, 51, 52, 53, 54, 55, 56, 57], 48 ≤ y ∧ y ≤ 57 := by decide
    have h3 := h2 _ (List.getElem_mem g)
    have h4 : ([48, 49, 50, 51, 52, 53, 54, 55, 56, 57] : List Nat)[List.findIdx (fun y => y == x) [48, 49, 50, 51, 52, 53, 54, 55, 56, 57]]'g = x := by simpa using h1
    rw [h4] at h3
    exact h3
theorem dg_v {x : Nat} (h : isD x) : pAm [48, 49, 50, 51, 52, 53, 54, 55, 56, 57] x = x - 48 := by
  have : ∀ x, x < 58 → 48 ≤ x → pAm [48, 49, 50, 51, 52, 53, 54, 55, 56, 57] x = x - 48 := by decide
  exact this x (by have := h.2; omega) h.1
theorem one_am {x y : Nat} : pAm [x] y < 1 ↔ y = x := by
  unfold pAm
  rw [List.findIdx_cons]
  by_cases h : x = y
  · simp [h]
  · have hb : (x == y) = false := by simp [h]
    rw [hb]
    simp
    exact fun g => h g.symm
end RD
