/-! numbers of the script that are Nats -/
theorem j_nat {x c : Int32} {m : Nat} (hc : c = nI m) (h31 : m < 2 ^ 31) (h : 0 ≤ x ∧ x ≤ c) : ∃ k, k ≤ m ∧ x = nI k := by
  obtain ⟨h0, h1⟩ := h
  rw [hc] at h1
  have g0 := Int32.le_iff_toInt_le.mp h0
  have g1 := Int32.le_iff_toInt_le.mp h1
  rw [show (0 : Int32).toInt = 0 by decide] at g0
  rw [nI_toInt (by omega)] at g1
  refine ⟨x.toInt.toNat, by omega, ?_⟩
  apply Int32.toInt_inj.mp
  rw [nI_toInt (by omega)]
  omega
theorem j_nat1 {x c : Int32} {m : Nat} (hc : c = nI m) (h31 : m < 2 ^ 31) (h : 1 ≤ x ∧ x ≤ c) : ∃ k, 1 ≤ k ∧ k ≤ m ∧ x = nI k := by
  obtain ⟨h0, h1⟩ := h
  rw [hc] at h1
  have g0 := Int32.le_iff_toInt_le.mp h0
  have g1 := Int32.le_iff_toInt_le.mp h1
  rw [show (1 : Int32).toInt = 1 by decide] at g0
  rw [nI_toInt (by omega)] at g1
  refine ⟨x.toInt.toNat, by omega, by omega, ?_⟩
  apply Int32.toInt_inj.mp
  rw [nI_toInt (by omega)]
  omega
theorem j_int {x : Int32} {m : Nat} (h31 : m < 2 ^ 31) (h : ¬ (x.toInt < 0 ∨ (m : Int) < x.toInt)) : ∃ k, k ≤ m ∧ x = nI k := by
  refine ⟨x.toInt.toNat, by omega, ?_⟩
  apply Int32.toInt_inj.mp
  rw [nI_toInt (by omega)]
  omega
theorem j_noi {x c : Int32} {m : Nat} (h31 : m < 2 ^ 31) (h : x.toInt < 0 ∨ (m : Int) < x.toInt) (hc : c = nI m) : ¬ (0 ≤ x ∧ x ≤ c) := fun g => by
  obtain ⟨k, h1, rfl⟩ := j_nat hc h31 g
  rw [nI_toInt (by omega)] at h
  omega
theorem j_man {v : Int32} {n : Nat} (hn : n ≤ 100) (h : 0 ≤ v ∧ v ≤ nI n - 1) : ∃ μ, μ < n ∧ v = nI μ := by
  obtain ⟨h0, h1⟩ := h
  have g0 := Int32.le_iff_toInt_le.mp h0
  have g1 := Int32.le_iff_toInt_le.mp h1
  rw [show (0 : Int32).toInt = 0 by decide] at g0
  have e : (nI n - 1 : Int32).toInt = (n : Int) - 1 := by
    rw [Int32.toInt_sub, nI_toInt (by omega), show (1 : Int32).toInt = 1 by decide, Int.bmod_def]
    omega
  rw [e] at g1
  refine ⟨v.toInt.toNat, by omega, ?_⟩
  apply Int32.toInt_inj.mp
  rw [nI_toInt (by omega)]
  omega
theorem fTold_n {σ : Nat → Nat} {ti sh : Nat} {x : Int32} (h : x.toInt < 0 ∨ 5 < x.toInt) : fTold σ ti sh x = -1 := by
  unfold fTold
  rw [if_neg (fun e => by rw [e] at h; revert h; decide), if_neg (fun e => by rw [e] at h; revert h; decide), if_neg (show ¬ (0 ≤ x ∧ x ≤ 3) from j_noi (m := 3) (by decide) (by omega) rfl)]
/-- what is left from the start -/
def jG (s0 : State) (B : Nat) (ad : Nat → Nat) (C E : Nat) : Prop := gStr s0 B ∧ gCas s0 ∧ gIns s0 ∧ gBx s0 B ad C E ∧ gWs s0 [.arrayOver (.object "java/lang/Object")] ∧ gUp s0 ∧ gNst s0
theorem mInv.set {M : Nat → Nat → Int32} {σ : Nat → Nat} {fl : List Nat} {ti sh K τ ms k v : Nat} {x : Int32} (hi : mInv M σ fl ti sh K τ ms) (hx : x = nI v) (hk : k < 168 ∧ k ≠ 42) (hkc : ¬ ((8 ≤ k ∧ k < 39) ∨ (44 ≤ k ∧ k < 48))) (hv : v ≤ sBn K k) : mInv (g2 M 1 k x) (g1 σ k v) fl ti sh K τ ms :=
  ⟨mS_p hi.1 rfl hx, mSite_p hi.2.1 rfl (Or.inr hk), sBd_set hi.2.2.1 hv, mCache_σ (mCache_c hi.2.2.2 (gs_ne rfl (by omega) rfl) (gs_ne rfl (by omega) rfl) (fun a => ⟨gs_ne rfl (by omega) rfl, gs_ne rfl (by omega) rfl, gs_ne rfl (by omega) rfl⟩)) (fun i hi => g1_ne (by omega))⟩
theorem jM.set {M : Nat → Nat → Int32} {σ σi : Nat → Nat} {fl fi tl : List Nat} {ti sh K τ im t2 s2 k v : Nat} {x : Int32} (h : jM M σ fl ti sh tl K τ im σi fi t2 s2) (hx : x = nI v) (hk : k < 168 ∧ k ≠ 42 ∧ k ≠ 39) (hkc : ¬ ((8 ≤ k ∧ k < 39) ∨ (44 ≤ k ∧ k < 48))) (hv : v ≤ sBn K k) : jM (g2 M 1 k x) (g1 σ k v) fl ti sh tl K τ im σi fi t2 s2 := by
  obtain ⟨⟨τ1, ms, h1, h2⟩, hd, h3, h4, h5⟩ := h
  exact ⟨⟨τ1, ms, h1, h2.set hx ⟨hk.1, hk.2.1⟩ hkc hv⟩, hd.c (gs_ne rfl (by omega) rfl) (by rw [g1_ne (by omega)]; exact Nat.le_refl _), h3.c (gs_ne rfl (by omega) rfl) (fun i => gs_ne rfl (by omega) rfl), (gs_ne rfl (by omega) rfl : g2 M 1 k x 0 3 = M 0 3).trans h4, fun g => (h5 g).c (fun i => gs_ne rfl (by omega) rfl)⟩
section JE
variable {l : Launch} {s0 : State} {D : va_G} {cy : Nat → ClassId} {B q E C z : Nat} {ad : Nat → Nat} {T : Nat → Nat × Nat} {I : Nat → Nat → Int32} {R : Nat → Nat → Option Nat} {σ σi : Nat → Nat} {fl fi tl : List Nat} {ti sh t2 s2 im K τ : Nat} {M : Nat → Nat → Int32}
set_option maxRecDepth 100000 in
set_option maxHeartbeats 4000000 in
theorem jd_at (hG : jG s0 B ad C E) (hC : jC q E ad z T I R σ fl ti sh tl im σi fi t2 s2) (hA : aI K σ fl ti sh tl im σi fi t2 s2) (hJ : jM M σ fl ti sh tl K τ im σi fi t2 s2) (hMd : gMod (q + 53) T R) (hMI : ∀ k j, k < 12 → I (q + 53 + k) j = M k j) (hlt : ∀ c, (T c).1 ≠ 0 → c < z) (hE0 : (T E).1 = 0) (hK : K ≤ 24000000) (hτ : τ + 200000 < 2 ^ 30) (a b : Int32) : jDo l s0 D cy B q yX11_at wsX11_at yX12_at wsX12_at [.int a, .int b] (z, T, I, R) (jI q E ad (K + 300000) (τ + 140000)) := by
  have hTp := hC.2.1
  have hNw := hC.2.2.1
  have hg := hA.1
  have hb := hA.2.1
  obtain ⟨τ1, ms, hτ1, hi⟩ := hJ.1
  have h4 : σ 38 ≤ 4 := hb.2.2.2.2.1
  by_cases hh : (0 ≤ a ∧ a ≤ 9) ∧ (0 ≤ b ∧ b ≤ 2)
  · obtain ⟨x, hx, rfl⟩ := j_nat (m := 9) rfl (by decide) hh.1
    obtain ⟨y, hy, rfl⟩ := j_nat (m := 2) rfl (by decide) hh.2
    exact j_two hC hMd hMI (t_at hTp hNw hg hb (show x < 10 by omega) (show y < 3 by omega)) (fun z T R I0 hM => c_at hM hi (show x < 10 by omega) (show y < 3 by omega)) ⟨⟨by decide, by decide⟩, ⟨by decide, by decide⟩, by decide, by decide⟩ (fun r u hp => ⟨hp.1, z, T, I, R, hp.2, hC, fun c _ _ => ⟨rfl, fun _ => rfl, fun _ => rfl⟩⟩) (fun r M' hp => ⟨hp.1.trans (by rw [show 8 + x + 10 * y = 8 + 10 * y + x by omega]), by rw [← hp.2]; exact hJ.le⟩) (hA.le (by omega))
  · exact j_pure hC hA hJ hMd hMI (t_at_n hTp hNw hg hb hh) (fun z T R I0 hM => c_at_n hM hi hh) ⟨⟨by decide, by decide⟩, ⟨by decide, by decide⟩, by decide, by decide⟩
set_option maxRecDepth 100000 in
set_option maxHeartbeats 4000000 in
theorem jd_earth (hG : jG s0 B ad C E) (hC : jC q E ad z T I R σ fl ti sh tl im σi fi t2 s2) (hA : aI K σ fl ti sh tl im σi fi t2 s2) (hJ : jM M σ fl ti sh tl K τ im σi fi t2 s2) (hMd : gMod (q + 53) T R) (hMI : ∀ k j, k < 12 → I (q + 53 + k) j = M k j) (hlt : ∀ c, (T c).1 ≠ 0 → c < z) (hE0 : (T E).1 = 0) (hK : K ≤ 24000000) (hτ : τ + 200000 < 2 ^ 30) (n : Int32) : jDo l s0 D cy B q yX11_earth wsX11_earth yX12_earth wsX12_earth [.int n] (z, T, I, R) (jI q E ad (K + 300000) (τ + 140000)) := by
  have hTp := hC.2.1
  have hNw := hC.2.2.1
  have hg := hA.1
  have hb := hA.2.1
  obtain ⟨τ1, ms, hτ1, hi⟩ := hJ.1
  have h4 : σ 38 ≤ 4 := hb.2.2.2.2.1
  by_cases hh : 0 ≤ n ∧ n ≤ 999
  · obtain ⟨x, hx, rfl⟩ := j_nat (m := 999) rfl (by decide) hh
    exact j_work (σ' := g1 σ 0 x) hC hA hMd hMI hlt (t_earth hTp hNw hg hb hx) (fun z T R I0 hM => c_earth hM M (nI x)) ⟨⟨by decide, by decide⟩, ⟨by decide, by decide⟩, by decide, by decide⟩ (g1_ne (by decide)) (fun i h1 h2 => g1_ne (by omega)) (fun r u hp => ⟨hp.1, _, hp.2, hNw.ab.set (k := 0) (Or.inl (by decide)) rfl rfl, (hC.2.2.2.1.k (fun c j h1 h2 => gs_ne rfl (by omega) rfl)).lk (fun i hi => g1_ne (by omega)), fun c j h => gs_ne rfl (by omega) rfl⟩) (fun r M' hp => ⟨by rw [hp.1, if_pos hh]; exact hi.1 0 (by decide) (by decide), by rw [hp.2, if_pos hh]; exact (hJ.set (k := 0) rfl (by decide) (by decide) (show x ≤ 999 from hx)).le⟩) (sBd_le (sBd_set hb (show x ≤ 999 from hx)) (by omega)) (by rw [g1_ne (by decide)]; exact hA.2.2.2.2.2.1)
  · exact j_two hC hMd hMI (t_earth_b hTp hNw hg hb hh) (fun z T R I0 hM => c_earth hM M n) ⟨⟨by decide, by decide⟩, ⟨by decide, by decide⟩, by decide, by decide⟩ (fun r u hp => ⟨hp.1, z, T, I, R, hp.2, hC, fun c _ _ => ⟨rfl, fun _ => rfl, fun _ => rfl⟩⟩) (fun r M' hp => ⟨by rw [hp.1, if_neg hh], by rw [hp.2, if_neg hh]; exact hJ.le⟩) (hA.le (by omega))
set_option maxRecDepth 100000 in
set_option maxHeartbeats 4000000 in
theorem jd_feed (hG : jG s0 B ad C E) (hC : jC q E ad z T I R σ fl ti sh tl im σi fi t2 s2) (hA : aI K σ fl ti sh tl im σi fi t2 s2) (hJ : jM M σ fl ti sh tl K τ im σi fi t2 s2) (hMd : gMod (q + 53) T R) (hMI : ∀ k j, k < 12 → I (q + 53 + k) j = M k j) (hlt : ∀ c, (T c).1 ≠ 0 → c < z) (hE0 : (T E).1 = 0) (hK : K ≤ 24000000) (hτ : τ + 200000 < 2 ^ 30) (n : Int32) : jDo l s0 D cy B q yX11_feed wsX11_feed yX12_feed wsX12_feed [.int n] (z, T, I, R) (jI q E ad (K + 300000) (τ + 140000)) := by
  have hTp := hC.2.1
  have hNw := hC.2.2.1
  have hg := hA.1
  have hb := hA.2.1
  obtain ⟨τ1, ms, hτ1, hi⟩ := hJ.1
  have h4 : σ 38 ≤ 4 := hb.2.2.2.2.1
  have h41 := hb.2.2.2.2.2.2.2.1
  have e41 : M 1 41 = nI (σ 41) := hi.1 41 (by decide) (by decide)
  by_cases hh : 0 ≤ n ∧ n ≤ 127
  · obtain ⟨x, hx, rfl⟩ := j_nat (m := 127) rfl (by decide) hh
    by_cases h100 : σ 41 = 100
    · exact j_two hC hMd hMI (t_feed_f hTp hNw hg hb hx h100) (fun z T R I0 hM => c_feed hM M e41 h41 (nI x)) ⟨⟨by decide, by decide⟩, ⟨by decide, by decide⟩, by decide, by decide⟩ (fun r u hp => ⟨hp.1, z, T, I, R, hp.2, hC, fun c _ _ => ⟨rfl, fun _ => rfl, fun _ => rfl⟩⟩) (fun r M' hp => ⟨by rw [hp.1, if_pos hh, if_pos h100], by rw [hp.2, if_pos hh, if_pos h100]; exact hJ.le⟩) (hA.le (by omega))
    · generalize hj : σ 41 = jj at h41 h100 e41
      have hinc : nI jj + 1 = nI (jj + 1) := gn_add (Eq.refl (nI jj)) (show (1 : Int32) = nI 1 from rfl)
      have o1 : pOi (68 + jj) := Or.inr ⟨by omega, by omega⟩
      have o2 := pCJ o1
      have hb1 : sBd (g1 σ (68 + jj) x) K := sBd_set hb (by rw [sBn_h (by omega)]; exact hx)
      have hb2 : sBd (g1 (g1 σ (68 + jj) x) 41 (jj + 1)) K := sBd_set hb1 (show jj + 1 ≤ 100 by omega)
      exact j_work (σ' := g1 (g1 σ (68 + jj) x) 41 (jj + 1)) hC hA hMd hMI hlt (t_feed hTp hNw hg hb hx hj (by omega)) (fun z T R I0 hM => c_feed hM M e41 h41 (nI x)) ⟨⟨by decide, by decide⟩, ⟨by decide, by decide⟩, by decide, by decide⟩ (by rw [g1_ne (by decide), g1_ne (by omega)]) (fun i h1 h2 => by rw [g1_ne (by omega), g1_ne (by omega)]) (fun r u hp => ⟨hp.1, _, hp.2, (hNw.ab.set (k := 68 + jj) o1 (by omega) (by omega)).set (k := 41) (Or.inl (by decide)) rfl rfl, (hC.2.2.2.1.k (fun c j h1 h2 => gs_ne rfl (by omega) (gs_ne rfl (by omega) rfl))).lk (fun i hi => by rw [g1_ne (by omega), g1_ne (by omega)]), fun c j h => gs_ne rfl (by omega) (gs_ne rfl (by omega) rfl)⟩) (fun r M' hp => ⟨by rw [hp.1, if_pos hh, if_neg h100, hinc], by rw [hp.2, if_pos hh, if_neg h100]; exact ((hJ.set (k := 68 + jj) rfl (by omega) (by omega) (by rw [sBn_h (by omega)]; exact hx)).set (k := 41) hinc (by decide) (by decide) (show jj + 1 ≤ 100 by omega)).le⟩) (sBd_le hb2 (by omega)) (by rw [g1_ne (by decide), g1_ne (by omega)]; exact hA.2.2.2.2.2.1)
  · exact j_two hC hMd hMI (t_feed_b hTp hNw hg hb hh) (fun z T R I0 hM => c_feed hM M e41 h41 n) ⟨⟨by decide, by decide⟩, ⟨by decide, by decide⟩, by decide, by decide⟩ (fun r u hp => ⟨hp.1, z, T, I, R, hp.2, hC, fun c _ _ => ⟨rfl, fun _ => rfl, fun _ => rfl⟩⟩) (fun r M' hp => ⟨by rw [hp.1, if_neg hh], by rw [hp.2, if_neg hh]; exact hJ.le⟩) (hA.le (by omega))
set_option maxRecDepth 100000 in
set_option maxHeartbeats 4000000 in
theorem jd_told (hG : jG s0 B ad C E) (hC : jC q E ad z T I R σ fl ti sh tl im σi fi t2 s2) (hA : aI K σ fl ti sh tl im σi fi t2 s2) (hJ : jM M σ fl ti sh tl K τ im σi fi t2 s2) (hMd : gMod (q + 53) T R) (hMI : ∀ k j, k < 12 → I (q + 53 + k) j = M k j) (hlt : ∀ c, (T c).1 ≠ 0 → c < z) (hE0 : (T E).1 = 0) (hK : K ≤ 24000000) (hτ : τ + 200000 < 2 ^ 30) (n : Int32) : jDo l s0 D cy B q yX11_told wsX11_told yX12_told wsX12_told [.int n] (z, T, I, R) (jI q E ad (K + 300000) (τ + 140000)) := by
  have hTp := hC.2.1
  have hNw := hC.2.2.1
  have hg := hA.1
  have hb := hA.2.1
  obtain ⟨τ1, ms, hτ1, hi⟩ := hJ.1
  have h4 : σ 38 ≤ 4 := hb.2.2.2.2.1
  have hS := hi.2.1
  by_cases hx : n.toInt < 0 ∨ 5 < n.toInt
  · exact j_two hC hMd hMI (t_told_n hTp hNw hg hb hx) (fun z T R I0 hM => c_told hM hi.1 hS n) ⟨⟨by decide, by decide⟩, ⟨by decide, by decide⟩, by decide, by decide⟩ (fun r u hp => ⟨hp.1, z, T, I, R, hp.2, hC, fun c _ _ => ⟨rfl, fun _ => rfl, fun _ => rfl⟩⟩) (fun r M' hp => ⟨hp.1.trans (fTold_n hx), by rw [← hp.2]; exact hJ.le⟩) (hA.le (by omega))
  · obtain ⟨x, hx5, rfl⟩ := j_int (m := 5) (by decide) hx
    rcases (show x = 0 ∨ x = 1 ∨ x = 2 ∨ x = 3 ∨ x = 4 ∨ x = 5 by omega) with rfl | rfl | rfl | rfl | rfl | rfl
    · exact j_two hC hMd hMI (t_told_0 hTp hNw hg hb) (fun z T R I0 hM => c_told hM hi.1 hS (nI 0)) ⟨⟨by decide, by decide⟩, ⟨by decide, by decide⟩, by decide, by decide⟩ (fun r u hp => ⟨hp.1, z, T, I, R, hp.2, hC, fun c _ _ => ⟨rfl, fun _ => rfl, fun _ => rfl⟩⟩) (fun r M' hp => ⟨hp.1.trans (rfl), by rw [← hp.2]; exact hJ.le⟩) (hA.le (by omega))
    · exact j_two hC hMd hMI (t_told_1 hTp hNw hg hb) (fun z T R I0 hM => c_told hM hi.1 hS (nI 1)) ⟨⟨by decide, by decide⟩, ⟨by decide, by decide⟩, by decide, by decide⟩ (fun r u hp => ⟨hp.1, z, T, I, R, hp.2, hC, fun c _ _ => ⟨rfl, fun _ => rfl, fun _ => rfl⟩⟩) (fun r M' hp => ⟨hp.1.trans (rfl), by rw [← hp.2]; exact hJ.le⟩) (hA.le (by omega))
    · exact j_two hC hMd hMI (t_told_2 hTp hNw hg hb) (fun z T R I0 hM => c_told hM hi.1 hS (nI 2)) ⟨⟨by decide, by decide⟩, ⟨by decide, by decide⟩, by decide, by decide⟩ (fun r u hp => ⟨hp.1, z, T, I, R, hp.2, hC, fun c _ _ => ⟨rfl, fun _ => rfl, fun _ => rfl⟩⟩) (fun r M' hp => ⟨hp.1.trans (rfl), by rw [← hp.2]; exact hJ.le⟩) (hA.le (by omega))
    · exact j_two hC hMd hMI (t_told_3 hTp hNw hg hb) (fun z T R I0 hM => c_told hM hi.1 hS (nI 3)) ⟨⟨by decide, by decide⟩, ⟨by decide, by decide⟩, by decide, by decide⟩ (fun r u hp => ⟨hp.1, z, T, I, R, hp.2, hC, fun c _ _ => ⟨rfl, fun _ => rfl, fun _ => rfl⟩⟩) (fun r M' hp => ⟨hp.1.trans (rfl), by rw [← hp.2]; exact hJ.le⟩) (hA.le (by omega))
    · exact j_two hC hMd hMI (t_told_4 hTp hNw hg hb) (fun z T R I0 hM => c_told hM hi.1 hS (nI 4)) ⟨⟨by decide, by decide⟩, ⟨by decide, by decide⟩, by decide, by decide⟩ (fun r u hp => ⟨hp.1, z, T, I, R, hp.2, hC, fun c _ _ => ⟨rfl, fun _ => rfl, fun _ => rfl⟩⟩) (fun r M' hp => ⟨hp.1.trans (rfl), by rw [← hp.2]; exact hJ.le⟩) (hA.le (by omega))
    · exact j_two hC hMd hMI (t_told_5 hTp hNw hg hb) (fun z T R I0 hM => c_told hM hi.1 hS (nI 5)) ⟨⟨by decide, by decide⟩, ⟨by decide, by decide⟩, by decide, by decide⟩ (fun r u hp => ⟨hp.1, z, T, I, R, hp.2, hC, fun c _ _ => ⟨rfl, fun _ => rfl, fun _ => rfl⟩⟩) (fun r M' hp => ⟨hp.1.trans (rfl), by rw [← hp.2]; exact hJ.le⟩) (hA.le (by omega))
set_option maxRecDepth 100000 in
set_option maxHeartbeats 4000000 in
theorem jd_of (hG : jG s0 B ad C E) (hC : jC q E ad z T I R σ fl ti sh tl im σi fi t2 s2) (hA : aI K σ fl ti sh tl im σi fi t2 s2) (hJ : jM M σ fl ti sh tl K τ im σi fi t2 s2) (hMd : gMod (q + 53) T R) (hMI : ∀ k j, k < 12 → I (q + 53 + k) j = M k j) (hlt : ∀ c, (T c).1 ≠ 0 → c < z) (hE0 : (T E).1 = 0) (hK : K ≤ 24000000) (hτ : τ + 200000 < 2 ^ 30) (v n : Int32) : jDo l s0 D cy B q yX11_of wsX11_of yX12_of wsX12_of [.int v, .int n] (z, T, I, R) (jI q E ad (K + 300000) (τ + 140000)) := by
  have hTp := hC.2.1
  have hNw := hC.2.2.1
  have hg := hA.1
  have hb := hA.2.1
  obtain ⟨τ1, ms, hτ1, hi⟩ := hJ.1
  have h4 : σ 38 ≤ 4 := hb.2.2.2.2.1
  by_cases hv : 0 ≤ v ∧ v ≤ nI (σ 38) - 1
  · obtain ⟨μ, hμ, rfl⟩ := j_man (n := σ 38) (by omega) hv
    by_cases hw : n.toInt < 0 ∨ 3 < n.toInt
    · exact j_pure hC hA hJ hMd hMI (t_of_w hTp hNw hg hb hμ hw) (fun z T R I0 hM => c_of_n hM hi (fun g => j_noi (m := 3) (by decide) hw rfl g.2)) ⟨⟨by decide, by decide⟩, ⟨by decide, by decide⟩, by decide, by decide⟩
    · obtain ⟨x, hx3, rfl⟩ := j_int (m := 3) (by decide) hw
      rcases (show x = 0 ∨ x = 1 ∨ x = 2 ∨ x = 3 by omega) with rfl | rfl | rfl | rfl
      · exact j_two hC hMd hMI (t_of_0 hTp hNw hg hb hμ) (fun z T R I0 hM => c_of hM hi hμ (show 0 ≤ 3 by decide)) ⟨⟨by decide, by decide⟩, ⟨by decide, by decide⟩, by decide, by decide⟩ (fun r u hp => ⟨hp.1, z, T, I, R, hp.2, hC, fun c _ _ => ⟨rfl, fun _ => rfl, fun _ => rfl⟩⟩) (fun r M' hp => ⟨hp.1.trans (rfl), by rw [← hp.2]; exact hJ.le⟩) (hA.le (by omega))
      · exact j_two hC hMd hMI (t_of_1 hTp hNw hg hb hμ) (fun z T R I0 hM => c_of hM hi hμ (show 1 ≤ 3 by decide)) ⟨⟨by decide, by decide⟩, ⟨by decide, by decide⟩, by decide, by decide⟩ (fun r u hp => ⟨hp.1, z, T, I, R, hp.2, hC, fun c _ _ => ⟨rfl, fun _ => rfl, fun _ => rfl⟩⟩) (fun r M' hp => ⟨hp.1.trans (rfl), by rw [← hp.2]; exact hJ.le⟩) (hA.le (by omega))
      · exact j_two hC hMd hMI (t_of_2 hTp hNw hg hb hμ) (fun z T R I0 hM => c_of hM hi hμ (show 2 ≤ 3 by decide)) ⟨⟨by decide, by decide⟩, ⟨by decide, by decide⟩, by decide, by decide⟩ (fun r u hp => ⟨hp.1, z, T, I, R, hp.2, hC, fun c _ _ => ⟨rfl, fun _ => rfl, fun _ => rfl⟩⟩) (fun r M' hp => ⟨hp.1.trans (rfl), by rw [← hp.2]; exact hJ.le⟩) (hA.le (by omega))
      · exact j_two hC hMd hMI (t_of_3 hTp hNw hg hb hμ) (fun z T R I0 hM => c_of hM hi hμ (show 3 ≤ 3 by decide)) ⟨⟨by decide, by decide⟩, ⟨by decide, by decide⟩, by decide, by decide⟩ (fun r u hp => ⟨hp.1, z, T, I, R, hp.2, hC, fun c _ _ => ⟨rfl, fun _ => rfl, fun _ => rfl⟩⟩) (fun r M' hp => ⟨hp.1.trans (rfl), by rw [← hp.2]; exact hJ.le⟩) (hA.le (by omega))
  · exact j_pure hC hA hJ hMd hMI (t_of_n hTp hNw hg hb hv n) (fun z T R I0 hM => c_of_n hM hi (fun g => hv g.1)) ⟨⟨by decide, by decide⟩, ⟨by decide, by decide⟩, by decide, by decide⟩
set_option maxRecDepth 100000 in
set_option maxHeartbeats 4000000 in
theorem jd_count (hG : jG s0 B ad C E) (hC : jC q E ad z T I R σ fl ti sh tl im σi fi t2 s2) (hA : aI K σ fl ti sh tl im σi fi t2 s2) (hJ : jM M σ fl ti sh tl K τ im σi fi t2 s2) (hMd : gMod (q + 53) T R) (hMI : ∀ k j, k < 12 → I (q + 53 + k) j = M k j) (hlt : ∀ c, (T c).1 ≠ 0 → c < z) (hE0 : (T E).1 = 0) (hK : K ≤ 24000000) (hτ : τ + 200000 < 2 ^ 30) (n : Int32) : jDo l s0 D cy B q yX11_count wsX11_count yX12_count wsX12_count [.int n] (z, T, I, R) (jI q E ad (K + 300000) (τ + 140000)) := by
  have hTp := hC.2.1
  have hNw := hC.2.2.1
  have hg := hA.1
  have hb := hA.2.1
  obtain ⟨τ1, ms, hτ1, hi⟩ := hJ.1
  have h4 : σ 38 ≤ 4 := hb.2.2.2.2.1
  by_cases hx : n.toInt < 0 ∨ 4 < n.toInt
  · exact j_pure hC hA hJ hMd hMI (t_count_n hTp hNw hg hb hx) (fun z T R I0 hM => c_count_n hM hi hx) ⟨⟨by decide, by decide⟩, ⟨by decide, by decide⟩, by decide, by decide⟩
  · obtain ⟨x, hx5, rfl⟩ := j_int (m := 4) (by decide) hx
    rcases (show x = 0 ∨ x = 1 ∨ x = 2 ∨ x = 3 ∨ x = 4 by omega) with rfl | rfl | rfl | rfl | rfl
    · exact j_pure hC hA hJ hMd hMI (t_count_0 hTp hNw hg hb) (fun z T R I0 hM => c_count_0 hM hi) ⟨⟨by decide, by decide⟩, ⟨by decide, by decide⟩, by decide, by decide⟩
    · exact j_pure hC hA hJ hMd hMI (t_count_1 hTp hNw hg hb) (fun z T R I0 hM => c_count_1 hM hi) ⟨⟨by decide, by decide⟩, ⟨by decide, by decide⟩, by decide, by decide⟩
    · exact j_pure hC hA hJ hMd hMI (t_count_2 hTp hNw hg hb) (fun z T R I0 hM => c_count_2 hM hi) ⟨⟨by decide, by decide⟩, ⟨by decide, by decide⟩, by decide, by decide⟩
    · exact j_pure hC hA hJ hMd hMI (t_count_3 hTp hNw hg hb) (fun z T R I0 hM => c_count_3 hM hi) ⟨⟨by decide, by decide⟩, ⟨by decide, by decide⟩, by decide, by decide⟩
    · exact j_two hC hMd hMI (t_count_4 hTp hNw hg hb hC.2.2.2.2.1) (fun z T R I0 hM => c_count_4 hM hi) ⟨⟨by decide, by decide⟩, ⟨by decide, by decide⟩, by decide, by decide⟩ (fun r u hp => ⟨hp.1, z, T, I, R, hp.2, hC, fun c _ _ => ⟨rfl, fun _ => rfl, fun _ => rfl⟩⟩) (fun r M' hp => ⟨hp.1.trans (hJ.2.2.1.1), by rw [← hp.2]; exact hJ.le⟩) (hA.le (by omega))
set_option maxRecDepth 100000 in
set_option maxHeartbeats 4000000 in
theorem jd_yard (hG : jG s0 B ad C E) (hC : jC q E ad z T I R σ fl ti sh tl im σi fi t2 s2) (hA : aI K σ fl ti sh tl im σi fi t2 s2) (hJ : jM M σ fl ti sh tl K τ im σi fi t2 s2) (hMd : gMod (q + 53) T R) (hMI : ∀ k j, k < 12 → I (q + 53 + k) j = M k j) (hlt : ∀ c, (T c).1 ≠ 0 → c < z) (hE0 : (T E).1 = 0) (hK : K ≤ 24000000) (hτ : τ + 200000 < 2 ^ 30) (a b n : Int32) : jDo l s0 D cy B q yX11_yard wsX11_yard yX12_yard wsX12_yard [.int a, .int b, .int n] (z, T, I, R) (jI q E ad (K + 300000) (τ + 140000)) := by
  have hTp := hC.2.1
  have hNw := hC.2.2.1
  have hg := hA.1
  have hb := hA.2.1
  obtain ⟨τ1, ms, hτ1, hi⟩ := hJ.1
  have h4 : σ 38 ≤ 4 := hb.2.2.2.2.1
  by_cases hh : (0 ≤ a ∧ a ≤ 9) ∧ (0 ≤ b ∧ b ≤ 2)
  · obtain ⟨x, hx, rfl⟩ := j_nat (m := 9) rfl (by decide) hh.1
    obtain ⟨y, hy, rfl⟩ := j_nat (m := 2) rfl (by decide) hh.2
    by_cases hn : 0 ≤ n ∧ n ≤ 9
    · obtain ⟨k, hk, rfl⟩ := j_nat (m := 9) rfl (by decide) hn
      have o1 : pOi (8 + 10 * y + x) := Or.inl (by omega)
      have o2 := pCJ o1
      have hbd : k ≤ sBn K (8 + 10 * y + x) := by rw [sBn_c (by omega) (by omega)]; exact hk
      have hb1 : sBd (g1 σ (8 + 10 * y + x) k) K := sBd_set hb hbd
      exact j_work (σ' := g1 σ (8 + 10 * y + x) k) hC hA hMd hMI hlt (t_yard hTp hNw hg hb (show x < 10 by omega) (show y < 3 by omega) hk) (fun z T R I0 hM => c_yard hM hi (show x < 10 by omega) (show y < 3 by omega) hk) ⟨⟨by decide, by decide⟩, ⟨by decide, by decide⟩, by decide, by decide⟩ (g1_ne (by omega)) (fun i h1 h2 => g1_ne (by omega)) (fun r u hp => ⟨hp.1, _, hp.2, (hNw.ab.set (k := 8 + 10 * y + x) (v := k) (c := q + 6 + 2 + y) (j := x) o1 (by omega) (by omega)).k (fun c j h1 h2 => iFg_r (by omega)), cC.fg (fun c h1 h2 => iFg_k h1 (by omega)), fun c j h => (iFg_r (by omega)).trans (gs_ne rfl (by omega) rfl)⟩) (fun r M' hp => ⟨hp.1.trans (by rw [show 8 + x + 10 * y = 8 + 10 * y + x by omega]), by
        rw [hp.2, show 8 + x + 10 * y = 8 + 10 * y + x by omega]
        have e17 : M 0 17 + 1 = nI (τ1 + 1) := by rw [hi.2.2.2.2.2.1]; exact gn_add (Eq.refl (nI τ1)) (show (1 : Int32) = nI 1 from rfl)
        refine hJ.up (K' := K + 300000) (τ' := τ1 + 1) (ms' := ms) ⟨mS_p (mS_q hi.1 rfl (by decide)) rfl rfl, mSite_p (mSite_p hi.2.1 rfl (Or.inl (by decide))) rfl (Or.inr ⟨by omega, by omega⟩), sBd_le hb1 (by omega), mCache_tick hi.2.2.2 (by omega) (gs_ne rfl (by omega) ((gs_same rfl).trans e17)) (gs_ne rfl (by omega) (gs_ne rfl (by omega) rfl)) (fun a => gs_ne rfl (by omega) (gs_ne rfl (by omega) rfl))⟩ (by omega) (hJ.2.1.c (gs_ne rfl (by omega) (gs_ne rfl (by omega) rfl)) (by rw [g1_ne (by omega)]; exact Nat.le_refl _)) (gs_ne rfl (by omega) (gs_ne rfl (by omega) rfl)) (gs_ne rfl (by omega) (gs_ne rfl (by omega) rfl)) (fun i => gs_ne rfl (by omega) (gs_ne rfl (by omega) rfl)) (fun i => gs_ne rfl (by omega) (gs_ne rfl (by omega) rfl))⟩) (sBd_le hb1 (by omega)) (by rw [g1_ne (by omega)]; exact hA.2.2.2.2.2.1)
    · exact j_pure hC hA hJ hMd hMI (t_yard_b hTp hNw hg hb (show x < 10 by omega) (show y < 3 by omega) hn) (fun z T R I0 hM => c_yard_b hM hi (show x < 10 by omega) (show y < 3 by omega) hn) ⟨⟨by decide, by decide⟩, ⟨by decide, by decide⟩, by decide, by decide⟩
  · exact j_pure hC hA hJ hMd hMI (t_yard_n hTp hNw hg hb hh) (fun z T R I0 hM => c_yard_n hM hi hh) ⟨⟨by decide, by decide⟩, ⟨by decide, by decide⟩, by decide, by decide⟩
set_option maxRecDepth 100000 in
set_option maxHeartbeats 4000000 in
theorem jd_rest (hG : jG s0 B ad C E) (hC : jC q E ad z T I R σ fl ti sh tl im σi fi t2 s2) (hA : aI K σ fl ti sh tl im σi fi t2 s2) (hJ : jM M σ fl ti sh tl K τ im σi fi t2 s2) (hMd : gMod (q + 53) T R) (hMI : ∀ k j, k < 12 → I (q + 53 + k) j = M k j) (hlt : ∀ c, (T c).1 ≠ 0 → c < z) (hE0 : (T E).1 = 0) (hK : K ≤ 24000000) (hτ : τ + 200000 < 2 ^ 30) (v n : Int32) : jDo l s0 D cy B q yX11_rest wsX11_rest yX12_rest wsX12_rest [.int v, .int n] (z, T, I, R) (jI q E ad (K + 300000) (τ + 140000)) := by
  have hTp := hC.2.1
  have hNw := hC.2.2.1
  have hg := hA.1
  have hb := hA.2.1
  obtain ⟨τ1, ms, hτ1, hi⟩ := hJ.1
  have h4 : σ 38 ≤ 4 := hb.2.2.2.2.1
  by_cases hv : 0 ≤ v ∧ v ≤ nI (σ 38) - 1
  · obtain ⟨μ, hμ, rfl⟩ := j_man (n := σ 38) (by omega) hv
    by_cases hn : 0 ≤ n ∧ n ≤ 99
    · obtain ⟨k, hk, rfl⟩ := j_nat (m := 99) rfl (by decide) hn
      have o1 : pOi (4 + μ) := Or.inl (by omega)
      have o2 := pCJ o1
      have h99 : σ (4 + μ) ≤ 99 := hb.2.2.1 μ (by omega)
      have hbd : σ (4 + μ) - k ≤ sBn K (4 + μ) := by rw [sBn_b (by omega) (by omega)]; omega
      exact j_work (σ' := g1 σ (4 + μ) (σ (4 + μ) - k)) hC hA hMd hMI hlt (t_rest hTp hNw hg hb hμ hk) (fun z T R I0 hM => c_rest hM hi hμ hk) ⟨⟨by decide, by decide⟩, ⟨by decide, by decide⟩, by decide, by decide⟩ (g1_ne (by omega)) (fun i h1 h2 => g1_ne (by omega)) (fun r u hp => ⟨hp.1, _, hp.2, hNw.ab.set (k := 4 + μ) o1 (by omega) (by omega), (hC.2.2.2.1.k (fun c j h1 h2 => gs_ne rfl (by omega) rfl)).lk (fun i hi => g1_ne (by omega)), fun c j h => gs_ne rfl (by omega) rfl⟩) (fun r M' hp => ⟨hp.1, by rw [hp.2]; exact (hJ.set (k := 4 + μ) rfl (by omega) (by omega) hbd).le⟩) (sBd_le (sBd_set hb hbd) (by omega)) (by rw [g1_ne (by omega)]; exact hA.2.2.2.2.2.1)
    · exact j_pure hC hA hJ hMd hMI (t_rest_b hTp hNw hg hb hμ hn) (fun z T R I0 hM => c_rest_b hM hi hμ hn) ⟨⟨by decide, by decide⟩, ⟨by decide, by decide⟩, by decide, by decide⟩
  · exact j_pure hC hA hJ hMd hMI (t_rest_n hTp hNw hg hb hv n) (fun z T R I0 hM => c_rest_n hM hi hv n) ⟨⟨by decide, by decide⟩, ⟨by decide, by decide⟩, by decide, by decide⟩
set_option maxRecDepth 100000 in
set_option maxHeartbeats 4000000 in
theorem jd_book (hG : jG s0 B ad C E) (hC : jC q E ad z T I R σ fl ti sh tl im σi fi t2 s2) (hA : aI K σ fl ti sh tl im σi fi t2 s2) (hJ : jM M σ fl ti sh tl K τ im σi fi t2 s2) (hMd : gMod (q + 53) T R) (hMI : ∀ k j, k < 12 → I (q + 53 + k) j = M k j) (hlt : ∀ c, (T c).1 ≠ 0 → c < z) (hE0 : (T E).1 = 0) (hK : K ≤ 24000000) (hτ : τ + 200000 < 2 ^ 30) (n : Int32) : jDo l s0 D cy B q yX11_book wsX11_book yX12_book wsX12_book [.int n] (z, T, I, R) (jI q E ad (K + 300000) (τ + 140000)) := by
  have hTp := hC.2.1
  have hNw := hC.2.2.1
  have hg := hA.1
  have hb := hA.2.1
  obtain ⟨τ1, ms, hτ1, hi⟩ := hJ.1
  have h4 : σ 38 ≤ 4 := hb.2.2.2.2.1
  by_cases h1 : n = -1
  · subst h1
    exact j_work (σ' := g1 σ 40 0) hC hA hMd hMI hlt (t_book_e hTp hNw hg hb) (fun z T R I0 hM => c_book_e hM hi) ⟨⟨by decide, by decide⟩, ⟨by decide, by decide⟩, by decide, by decide⟩ (g1_ne (by decide)) (fun i h1 h2 => g1_ne (by omega)) (fun r u hp => ⟨hp.1, _, hp.2, hNw.ab.set (k := 40) (v := 0) (Or.inl (by decide)) rfl rfl, (hC.2.2.2.1.k (fun c j h1 h2 => gs_ne rfl (by omega) rfl)).lk (fun i hi => g1_ne (by omega)), fun c j h => gs_ne rfl (by omega) rfl⟩) (fun r M' hp => ⟨hp.1, by rw [hp.2]; exact (hJ.set (k := 40) (v := 0) rfl (by decide) (by decide) (Nat.zero_le _)).le⟩) (sBd_le (sBd_set hb (Nat.zero_le _)) (by omega)) (by rw [g1_ne (by decide)]; exact hA.2.2.2.2.2.1)
  · by_cases hn : 0 ≤ n ∧ n ≤ 9999
    · obtain ⟨x, hx, rfl⟩ := j_nat (m := 9999) rfl (by decide) hn
      have h40 := hb.2.2.2.2.2.2.1
      by_cases h12 : σ 40 = 12
      · exact j_pure hC hA hJ hMd hMI (t_book_f hTp hNw hg hb hx h12) (fun z T R I0 hM => c_book_f hM hi hx h12) ⟨⟨by decide, by decide⟩, ⟨by decide, by decide⟩, by decide, by decide⟩
      · generalize hj : σ 40 = jj at h40 h12
        have hinc : nI jj + 1 = nI (jj + 1) := gn_add (Eq.refl (nI jj)) (show (1 : Int32) = nI 1 from rfl)
        have o1 : pOi (56 + jj) := Or.inr ⟨by omega, by omega⟩
        have o2 := pCJ o1
        have hbd : x ≤ sBn K (56 + jj) := by rw [sBn_g (by omega) (by omega)]; exact hx
        exact j_work (σ' := g1 (g1 σ (56 + jj) x) 40 (jj + 1)) hC hA hMd hMI hlt (t_book hTp hNw hg hb hx hj (by omega)) (fun z T R I0 hM => c_book hM hi hx hj (by omega)) ⟨⟨by decide, by decide⟩, ⟨by decide, by decide⟩, by decide, by decide⟩ (by rw [g1_ne (by decide), g1_ne (by omega)]) (fun i h1 h2 => by rw [g1_ne (by omega), g1_ne (by omega)]) (fun r u hp => ⟨hp.1, _, hp.2, (hNw.ab.set (k := 56 + jj) o1 (by omega) (by omega)).set (k := 40) (Or.inl (by decide)) rfl rfl, (hC.2.2.2.1.k (fun c j h1 h2 => gs_ne rfl (by omega) (gs_ne rfl (by omega) rfl))).lk (fun i hi => by rw [g1_ne (by omega), g1_ne (by omega)]), fun c j h => gs_ne rfl (by omega) (gs_ne rfl (by omega) rfl)⟩) (fun r M' hp => ⟨hp.1.trans hinc, by rw [hp.2]; exact ((hJ.set (k := 56 + jj) rfl (by omega) (by omega) hbd).set (k := 40) hinc (by decide) (by decide) (show jj + 1 ≤ 12 by omega)).le⟩) (sBd_le (sBd_set (sBd_set hb hbd) (show jj + 1 ≤ 12 by omega)) (by omega)) (by rw [g1_ne (by decide), g1_ne (by omega)]; exact hA.2.2.2.2.2.1)
    · exact j_pure hC hA hJ hMd hMI (t_book_b hTp hNw hg hb h1 hn) (fun z T R I0 hM => c_book_b hM hi h1 hn) ⟨⟨by decide, by decide⟩, ⟨by decide, by decide⟩, by decide, by decide⟩
set_option maxRecDepth 100000 in
set_option maxHeartbeats 4000000 in
theorem jd_round (hG : jG s0 B ad C E) (hC : jC q E ad z T I R σ fl ti sh tl im σi fi t2 s2) (hA : aI K σ fl ti sh tl im σi fi t2 s2) (hJ : jM M σ fl ti sh tl K τ im σi fi t2 s2) (hMd : gMod (q + 53) T R) (hMI : ∀ k j, k < 12 → I (q + 53 + k) j = M k j) (hlt : ∀ c, (T c).1 ≠ 0 → c < z) (hE0 : (T E).1 = 0) (hK : K ≤ 24000000) (hτ : τ + 200000 < 2 ^ 30) (v n : Int32) : jDo l s0 D cy B q yX11_round wsX11_round yX12_round wsX12_round [.int v, .int n] (z, T, I, R) (jI q E ad (K + 300000) (τ + 140000)) := by
  have hTp := hC.2.1
  have hNw := hC.2.2.1
  have hg := hA.1
  have hb := hA.2.1
  obtain ⟨τ1, ms, hτ1, hi⟩ := hJ.1
  have h4 : σ 38 ≤ 4 := hb.2.2.2.2.1
  by_cases hv : 0 ≤ v ∧ v ≤ nI (σ 38) - 1
  · obtain ⟨μ, hμ, rfl⟩ := j_man (n := σ 38) (by omega) hv
    by_cases hn : 1 ≤ n ∧ n ≤ 20
    · obtain ⟨k, hk1, hk, rfl⟩ := j_nat1 (m := 20) rfl (by decide) hn
      by_cases h999 : σ 3 = 999
      · exact j_pure hC hA hJ hMd hMI (t_round_s hTp hNw hg hb hμ hk1 hk h999) (fun z T R I0 hM => c_round_s hM hi hμ hk1 hk h999) ⟨⟨by decide, by decide⟩, ⟨by decide, by decide⟩, by decide, by decide⟩
      · have h3 := hb.2.1.2.2
        have h3' : σ 3 < 999 := by have := hA.2.2.2.2.2.1; omega
        have hμ4 : μ < 4 := by omega
        exact j_work (σ' := sGo fl ti sh σ μ k) hC hA hMd hMI hlt (t_round hTp hNw hg hb hμ hk1 hk h3' hC.2.2.2.1 (by omega)) (fun z T R I0 hM => c_round hM hi hμ hk1 hk h999 (by omega) (by omega) (by omega)) ⟨⟨by decide, by decide⟩, ⟨by decide, by decide⟩, by decide, by decide⟩ (sGo_18 hμ4 (by decide)) (fun i h1 h2 => sGo_18 hμ4 (by omega)) (fun r u hp => by
          obtain ⟨e1, I', e2, ⟨e3, e4⟩, e5⟩ := hp
          have hkk : ∀ c j, ¬ (q + 6 ≤ c ∧ c < q + 21) → I' c j = I c j := fun c j h => e5 c j (by unfold kW; omega)
          refine ⟨e1, I', e2, cAB_i e3 ?_, e4, hkk⟩
          have hB := hNw.2.1
          exact ⟨((e5 _ _ (by unfold kW; omega)).trans hB.1).trans (by rw [sGo_18 hμ4 (by decide)]), ((e5 _ _ (by unfold kW; omega)).trans hB.2.1).trans (by rw [sGo_18 hμ4 (by decide)]), fun k9 h9 => ((e5 _ _ (by unfold kW; omega)).trans (hB.2.2.1 k9 h9)).trans (by rw [sGo_18 hμ4 (by omega)]), fun k9 h9 => ((e5 _ _ (by unfold kW; omega)).trans (hB.2.2.2 k9 h9)).trans (by rw [sGo_18 hμ4 (by omega)])⟩) (fun r M' hp => by
          obtain ⟨e1, ⟨τ', ms', e2, e3, e4⟩, e5⟩ := hp
          exact ⟨e1, hJ.up e4 (by omega) (hJ.2.1.c (e5 1 42 (by unfold gS lS; omega)) (by rw [sGo_18 hμ4 (by decide)]; exact Nat.le_refl _)) (e5 0 3 (by unfold gS lS; omega)) (e5 0 26 (by unfold gS lS; omega)) (fun i => e5 2 i (by unfold gS lS; omega)) (fun i => e5 11 i (by unfold gS lS; omega))⟩) (sBd_go' hg hb hμ4 k) (by show σ 3 + 1 ≤ 999; omega)
    · exact j_pure hC hA hJ hMd hMI (t_round_b hTp hNw hg hb hμ hn) (fun z T R I0 hM => c_round_b hM hi hμ hn) ⟨⟨by decide, by decide⟩, ⟨by decide, by decide⟩, by decide, by decide⟩
  · exact j_pure hC hA hJ hMd hMI (t_round_n hTp hNw hg hb hv n) (fun z T R I0 hM => c_round_n hM hi hv n) ⟨⟨by decide, by decide⟩, ⟨by decide, by decide⟩, by decide, by decide⟩
set_option maxRecDepth 100000 in
set_option maxHeartbeats 4000000 in
theorem jd_run (hG : jG s0 B ad C E) (hC : jC q E ad z T I R σ fl ti sh tl im σi fi t2 s2) (hA : aI K σ fl ti sh tl im σi fi t2 s2) (hJ : jM M σ fl ti sh tl K τ im σi fi t2 s2) (hMd : gMod (q + 53) T R) (hMI : ∀ k j, k < 12 → I (q + 53 + k) j = M k j) (hlt : ∀ c, (T c).1 ≠ 0 → c < z) (hE0 : (T E).1 = 0) (hK : K ≤ 24000000) (hτ : τ + 200000 < 2 ^ 30) (v n a w : Int32) : jDo l s0 D cy B q yX11_run wsX11_run yX12_run wsX12_run [.int v, .int n, .int a, .int w] (z, T, I, R) (jI q E ad (K + 300000) (τ + 140000)) := by
  have hTp := hC.2.1
  have hNw := hC.2.2.1
  have hg := hA.1
  have hb := hA.2.1
  obtain ⟨τ1, ms, hτ1, hi⟩ := hJ.1
  have h4 : σ 38 ≤ 4 := hb.2.2.2.2.1
  by_cases hv : 0 ≤ v ∧ v ≤ nI (σ 38) - 1
  · obtain ⟨μ, hμ, rfl⟩ := j_man (n := σ 38) (by omega) hv
    by_cases hw : w.toInt < 0 ∨ 3 < w.toInt
    · have hw' := fun g => j_noi (m := 3) (by decide) hw rfl g
      exact j_pure hC hA hJ hMd hMI (t_run_w hTp hNw hg hb hμ hw' n a) (fun z T R I0 hM => c_run_n hM hi (fun g => hw' g.2) n a) ⟨⟨by decide, by decide⟩, ⟨by decide, by decide⟩, by decide, by decide⟩
    · obtain ⟨x, hx3, rfl⟩ := j_int (m := 3) (by decide) hw
      by_cases hn : (0 ≤ n ∧ n ≤ 30) ∧ (1 ≤ a ∧ a ≤ 20)
      · obtain ⟨k, hk, rfl⟩ := j_nat (m := 30) rfl (by decide) hn.1
        obtain ⟨d, hd1, hd, rfl⟩ := j_nat1 (m := 20) rfl (by decide) hn.2
        rcases (show x = 0 ∨ x = 1 ∨ x = 2 ∨ x = 3 by omega) with rfl | rfl | rfl | rfl
        · exact j_query hC hA hJ hMd hMI hlt hi hτ1 (t_run_0 hTp hNw hg hb hG.2.1 hμ hk hd1 hd (by omega)) (fun z T R I0 hM => c_run hM hi hμ (show 0 ≤ 3 by decide) hk hd1 hd (by omega) (by omega)) ⟨⟨by decide, by decide⟩, ⟨by decide, by decide⟩, by decide, by decide⟩ (by decide)
        · exact j_query hC hA hJ hMd hMI hlt hi hτ1 (t_run_1 hTp hNw hg hb hG.2.1 hμ hk hd1 hd (by omega)) (fun z T R I0 hM => c_run hM hi hμ (show 1 ≤ 3 by decide) hk hd1 hd (by omega) (by omega)) ⟨⟨by decide, by decide⟩, ⟨by decide, by decide⟩, by decide, by decide⟩ (by decide)
        · exact j_query hC hA hJ hMd hMI hlt hi hτ1 (t_run_2 hTp hNw hg hb hG.2.1 hμ hk hd1 hd (by omega)) (fun z T R I0 hM => c_run hM hi hμ (show 2 ≤ 3 by decide) hk hd1 hd (by omega) (by omega)) ⟨⟨by decide, by decide⟩, ⟨by decide, by decide⟩, by decide, by decide⟩ (by decide)
        · exact j_query hC hA hJ hMd hMI hlt hi hτ1 (t_run_3 hTp hNw hg hb hG.2.1 hμ hk hd1 hd (by omega)) (fun z T R I0 hM => c_run hM hi hμ (show 3 ≤ 3 by decide) hk hd1 hd (by omega) (by omega)) ⟨⟨by decide, by decide⟩, ⟨by decide, by decide⟩, by decide, by decide⟩ (by decide)
      · exact j_pure hC hA hJ hMd hMI (t_run_b hTp hNw hg hb hμ hx3 hn) (fun z T R I0 hM => c_run_b hM hi hμ hx3 hn) ⟨⟨by decide, by decide⟩, ⟨by decide, by decide⟩, by decide, by decide⟩
  · exact j_pure hC hA hJ hMd hMI (t_run_n hTp hNw hg hb hv n a) (fun z T R I0 hM => c_run_n hM hi (fun g => hv g.1) n a) ⟨⟨by decide, by decide⟩, ⟨by decide, by decide⟩, by decide, by decide⟩
set_option maxRecDepth 100000 in
set_option maxHeartbeats 4000000 in
theorem jd_by (hG : jG s0 B ad C E) (hC : jC q E ad z T I R σ fl ti sh tl im σi fi t2 s2) (hA : aI K σ fl ti sh tl im σi fi t2 s2) (hJ : jM M σ fl ti sh tl K τ im σi fi t2 s2) (hMd : gMod (q + 53) T R) (hMI : ∀ k j, k < 12 → I (q + 53 + k) j = M k j) (hlt : ∀ c, (T c).1 ≠ 0 → c < z) (hE0 : (T E).1 = 0) (hK : K ≤ 24000000) (hτ : τ + 200000 < 2 ^ 30) (v a t : Int32) : jDo l s0 D cy B q yX11_by wsX11_by yX12_by wsX12_by [.int v, .int a, .int t] (z, T, I, R) (jI q E ad (K + 300000) (τ + 140000)) := by
  have hTp := hC.2.1
  have hNw := hC.2.2.1
  have hg := hA.1
  have hb := hA.2.1
  obtain ⟨τ1, ms, hτ1, hi⟩ := hJ.1
  have h4 : σ 38 ≤ 4 := hb.2.2.2.2.1
  by_cases hv : 0 ≤ v ∧ v ≤ nI (σ 38) - 1
  · obtain ⟨μ, hμ, rfl⟩ := j_man (n := σ 38) (by omega) hv
    by_cases hn : (1 ≤ a ∧ a ≤ 20) ∧ (0 ≤ t ∧ t ≤ 9999)
    · obtain ⟨d, hd1, hd, rfl⟩ := j_nat1 (m := 20) rfl (by decide) hn.1
      obtain ⟨k, hk, rfl⟩ := j_nat (m := 9999) rfl (by decide) hn.2
      exact j_query hC hA hJ hMd hMI hlt hi hτ1 (t_by hTp hNw hg hb hG.2.1 hμ hd1 hd hk (by omega)) (fun z T R I0 hM => c_by hM hi hμ hd1 hd hk (by omega) (by omega)) ⟨⟨by decide, by decide⟩, ⟨by decide, by decide⟩, by decide, by decide⟩ (by decide)
    · exact j_pure hC hA hJ hMd hMI (t_by_b hTp hNw hg hb hμ hn) (fun z T R I0 hM => c_by_b hM hi hμ hn) ⟨⟨by decide, by decide⟩, ⟨by decide, by decide⟩, by decide, by decide⟩
  · exact j_pure hC hA hJ hMd hMI (t_by_n hTp hNw hg hb hv a t) (fun z T R I0 hM => c_by_n hM hi hv a t) ⟨⟨by decide, by decide⟩, ⟨by decide, by decide⟩, by decide, by decide⟩
set_option maxRecDepth 100000 in
set_option maxHeartbeats 4000000 in
theorem jd_full (hG : jG s0 B ad C E) (hC : jC q E ad z T I R σ fl ti sh tl im σi fi t2 s2) (hA : aI K σ fl ti sh tl im σi fi t2 s2) (hJ : jM M σ fl ti sh tl K τ im σi fi t2 s2) (hMd : gMod (q + 53) T R) (hMI : ∀ k j, k < 12 → I (q + 53 + k) j = M k j) (hlt : ∀ c, (T c).1 ≠ 0 → c < z) (hE0 : (T E).1 = 0) (hK : K ≤ 24000000) (hτ : τ + 200000 < 2 ^ 30) (v t : Int32) : jDo l s0 D cy B q yX11_full wsX11_full yX12_full wsX12_full [.int v, .int t] (z, T, I, R) (jI q E ad (K + 300000) (τ + 140000)) := by
  have hTp := hC.2.1
  have hNw := hC.2.2.1
  have hg := hA.1
  have hb := hA.2.1
  obtain ⟨τ1, ms, hτ1, hi⟩ := hJ.1
  have h4 : σ 38 ≤ 4 := hb.2.2.2.2.1
  by_cases hv : 0 ≤ v ∧ v ≤ nI (σ 38) - 1
  · obtain ⟨μ, hμ, rfl⟩ := j_man (n := σ 38) (by omega) hv
    by_cases hn : 0 ≤ t ∧ t ≤ 9999
    · obtain ⟨k, hk, rfl⟩ := j_nat (m := 9999) rfl (by decide) hn
      exact j_query hC hA hJ hMd hMI hlt hi hτ1 (t_full hTp hNw hg hb hG.2.1 hμ hk (by omega)) (fun z T R I0 hM => c_full hM hi hμ hk (by omega) (by omega)) ⟨⟨by decide, by decide⟩, ⟨by decide, by decide⟩, by decide, by decide⟩ (by decide)
    · exact j_pure hC hA hJ hMd hMI (t_full_b hTp hNw hg hb hμ hn) (fun z T R I0 hM => c_full_b hM hi hμ hn) ⟨⟨by decide, by decide⟩, ⟨by decide, by decide⟩, by decide, by decide⟩
  · exact j_pure hC hA hJ hMd hMI (t_full_n hTp hNw hg hb hv t) (fun z T R I0 hM => c_full_n hM hi hv t) ⟨⟨by decide, by decide⟩, ⟨by decide, by decide⟩, by decide, by decide⟩
set_option maxRecDepth 100000 in
set_option maxHeartbeats 4000000 in
theorem jd_boards (hG : jG s0 B ad C E) (hC : jC q E ad z T I R σ fl ti sh tl im σi fi t2 s2) (hA : aI K σ fl ti sh tl im σi fi t2 s2) (hJ : jM M σ fl ti sh tl K τ im σi fi t2 s2) (hMd : gMod (q + 53) T R) (hMI : ∀ k j, k < 12 → I (q + 53 + k) j = M k j) (hlt : ∀ c, (T c).1 ≠ 0 → c < z) (hE0 : (T E).1 = 0) (hK : K ≤ 24000000) (hτ : τ + 200000 < 2 ^ 30) (v a n d w : Int32) : jDo l s0 D cy B q yX11_boards wsX11_boards yX12_boards wsX12_boards [.int v, .int a, .int n, .int d, .int w] (z, T, I, R) (jI q E ad (K + 300000) (τ + 140000)) := by
  have hTp := hC.2.1
  have hNw := hC.2.2.1
  have hg := hA.1
  have hb := hA.2.1
  obtain ⟨τ1, ms, hτ1, hi⟩ := hJ.1
  have h4 : σ 38 ≤ 4 := hb.2.2.2.2.1
  by_cases hv : 0 ≤ v ∧ v ≤ nI (σ 38) - 1
  · obtain ⟨μ, hμ, rfl⟩ := j_man (n := σ 38) (by omega) hv
    by_cases hw : 0 ≤ w ∧ w ≤ 1
    · obtain ⟨x, hx, rfl⟩ := j_nat (m := 1) rfl (by decide) hw
      by_cases hn : (1 ≤ a ∧ a ≤ 20) ∧ (1 ≤ n ∧ n ≤ 3) ∧ (1 ≤ d ∧ d ≤ 9)
      · obtain ⟨k, hk1, hk, rfl⟩ := j_nat1 (m := 20) rfl (by decide) hn.1
        obtain ⟨nb, hnb1, hnb, rfl⟩ := j_nat1 (m := 3) rfl (by decide) hn.2.1
        obtain ⟨wd, hwd1, hwd, rfl⟩ := j_nat1 (m := 9) rfl (by decide) hn.2.2
        rcases (show x = 0 ∨ x = 1 by omega) with rfl | rfl
        · exact j_query hC hA hJ hMd hMI hlt hi hτ1 (t_boards_0 hTp hNw hg hb hG.2.1 hμ hk1 hk hnb1 hnb hwd1 hwd (by omega)) (fun z T R I0 hM => c_boards hM hi hμ (show 0 ≤ 1 by decide) hk1 hk hnb1 hnb hwd1 hwd (by omega) (by omega)) ⟨⟨by decide, by decide⟩, ⟨by decide, by decide⟩, by decide, by decide⟩ (by decide)
        · exact j_query hC hA hJ hMd hMI hlt hi hτ1 (t_boards_1 hTp hNw hg hb hG.2.1 hμ hk1 hk hnb1 hnb hwd1 hwd (by omega)) (fun z T R I0 hM => c_boards hM hi hμ (show 1 ≤ 1 by decide) hk1 hk hnb1 hnb hwd1 hwd (by omega) (by omega)) ⟨⟨by decide, by decide⟩, ⟨by decide, by decide⟩, by decide, by decide⟩ (by decide)
      · exact j_pure hC hA hJ hMd hMI (t_boards_b hTp hNw hg hb hμ hx hn) (fun z T R I0 hM => c_boards_b hM hi hμ hx hn) ⟨⟨by decide, by decide⟩, ⟨by decide, by decide⟩, by decide, by decide⟩
    · exact j_pure hC hA hJ hMd hMI (t_boards_w hTp hNw hg hb hμ hw a n d) (fun z T R I0 hM => c_boards_n hM hi (fun g => hw g.2) a n d) ⟨⟨by decide, by decide⟩, ⟨by decide, by decide⟩, by decide, by decide⟩
  · exact j_pure hC hA hJ hMd hMI (t_boards_n hTp hNw hg hb hv a n d w) (fun z T R I0 hM => c_boards_n hM hi (fun g => hv g.1) a n d) ⟨⟨by decide, by decide⟩, ⟨by decide, by decide⟩, by decide, by decide⟩
set_option maxRecDepth 100000 in
set_option maxHeartbeats 4000000 in
theorem jd_turns (hG : jG s0 B ad C E) (hC : jC q E ad z T I R σ fl ti sh tl im σi fi t2 s2) (hA : aI K σ fl ti sh tl im σi fi t2 s2) (hJ : jM M σ fl ti sh tl K τ im σi fi t2 s2) (hMd : gMod (q + 53) T R) (hMI : ∀ k j, k < 12 → I (q + 53 + k) j = M k j) (hlt : ∀ c, (T c).1 ≠ 0 → c < z) (hE0 : (T E).1 = 0) (hK : K ≤ 24000000) (hτ : τ + 200000 < 2 ^ 30) (v w a t : Int32) : jDo l s0 D cy B q yX11_turns wsX11_turns yX12_turns wsX12_turns [.int v, .int w, .int a, .int t] (z, T, I, R) (jI q E ad (K + 300000) (τ + 140000)) := by
  have hTp := hC.2.1
  have hNw := hC.2.2.1
  have hg := hA.1
  have hb := hA.2.1
  obtain ⟨τ1, ms, hτ1, hi⟩ := hJ.1
  have h4 : σ 38 ≤ 4 := hb.2.2.2.2.1
  by_cases hv : 0 ≤ v ∧ v ≤ nI (σ 38) - 1
  · obtain ⟨μ, hμ, rfl⟩ := j_man (n := σ 38) (by omega) hv
    by_cases hv2 : 0 ≤ w ∧ w ≤ nI (σ 38) - 1
    · obtain ⟨ν, hν, rfl⟩ := j_man (n := σ 38) (by omega) hv2
      by_cases hn : μ = ν ∨ ¬ (1 ≤ a ∧ a ≤ 20) ∨ ¬ (0 ≤ t ∧ t ≤ 999)
      · exact j_pure hC hA hJ hMd hMI (t_turns_b hTp hNw hg hb hμ hν hn) (fun z T R I0 hM => c_turns_b hM hi hμ hν hn) ⟨⟨by decide, by decide⟩, ⟨by decide, by decide⟩, by decide, by decide⟩
      · have hne : ¬ μ = ν := fun g => hn (Or.inl g)
        have ha9 : 1 ≤ a ∧ a ≤ 20 := Classical.not_not.mp fun g => hn (Or.inr (Or.inl g))
        have ht9 : 0 ≤ t ∧ t ≤ 999 := Classical.not_not.mp fun g => hn (Or.inr (Or.inr g))
        obtain ⟨d, hd1, hd, rfl⟩ := j_nat1 (m := 20) rfl (by decide) ha9
        obtain ⟨k, hk, rfl⟩ := j_nat (m := 999) rfl (by decide) ht9
        exact j_query hC hA hJ hMd hMI hlt hi hτ1 (t_turns hTp hNw hg hb hG.2.1 hμ hν hne hd1 hd hk (by omega)) (fun z T R I0 hM => c_turns hM hi hμ hν hne hd1 hd hk (by omega) (by omega)) ⟨⟨by decide, by decide⟩, ⟨by decide, by decide⟩, by decide, by decide⟩ (by decide)
    · exact j_pure hC hA hJ hMd hMI (t_turns_yn hTp hNw hg hb hμ hv2 a t) (fun z T R I0 hM => c_turns_n hM hi (fun g => hv2 g.2) a t) ⟨⟨by decide, by decide⟩, ⟨by decide, by decide⟩, by decide, by decide⟩
  · by_cases hv2 : 0 ≤ w ∧ w ≤ nI (σ 38) - 1
    · obtain ⟨ν, hν, rfl⟩ := j_man (n := σ 38) (by omega) hv2
      exact j_pure hC hA hJ hMd hMI (t_turns_ny hTp hNw hg hb hν hv a t) (fun z T R I0 hM => c_turns_n hM hi (fun g => hv g.1) a t) ⟨⟨by decide, by decide⟩, ⟨by decide, by decide⟩, by decide, by decide⟩
    · exact j_pure hC hA hJ hMd hMI (t_turns_nn hTp hNw hg hb hv hv2 a t) (fun z T R I0 hM => c_turns_n hM hi (fun g => hv g.1) a t) ⟨⟨by decide, by decide⟩, ⟨by decide, by decide⟩, by decide, by decide⟩
set_option maxRecDepth 100000 in
set_option maxHeartbeats 4000000 in
theorem jd_worth (hG : jG s0 B ad C E) (hC : jC q E ad z T I R σ fl ti sh tl im σi fi t2 s2) (hA : aI K σ fl ti sh tl im σi fi t2 s2) (hJ : jM M σ fl ti sh tl K τ im σi fi t2 s2) (hMd : gMod (q + 53) T R) (hMI : ∀ k j, k < 12 → I (q + 53 + k) j = M k j) (hlt : ∀ c, (T c).1 ≠ 0 → c < z) (hE0 : (T E).1 = 0) (hK : K ≤ 24000000) (hτ : τ + 200000 < 2 ^ 30) (v t : Int32) : jDo l s0 D cy B q yX11_worth wsX11_worth yX12_worth wsX12_worth [.int v, .int t] (z, T, I, R) (jI q E ad (K + 300000) (τ + 140000)) := by
  have hTp := hC.2.1
  have hNw := hC.2.2.1
  have hg := hA.1
  have hb := hA.2.1
  obtain ⟨τ1, ms, hτ1, hi⟩ := hJ.1
  have h4 : σ 38 ≤ 4 := hb.2.2.2.2.1
  by_cases hv : 0 ≤ v ∧ v ≤ nI (σ 38) - 1
  · obtain ⟨μ, hμ, rfl⟩ := j_man (n := σ 38) (by omega) hv
    by_cases hn : 0 ≤ t ∧ t ≤ 999
    · obtain ⟨k, hk, rfl⟩ := j_nat (m := 999) rfl (by decide) hn
      exact j_query hC hA hJ hMd hMI hlt hi hτ1 (t_worth hTp hNw hg hb hG.2.1 hμ hk (by omega)) (fun z T R I0 hM => c_worth hM hi hμ hk (by omega) (by omega)) ⟨⟨by decide, by decide⟩, ⟨by decide, by decide⟩, by decide, by decide⟩ (by decide)
    · exact j_pure hC hA hJ hMd hMI (t_worth_b hTp hNw hg hb hμ hn) (fun z T R I0 hM => c_worth_b hM hi hμ hn) ⟨⟨by decide, by decide⟩, ⟨by decide, by decide⟩, by decide, by decide⟩
  · exact j_pure hC hA hJ hMd hMI (t_worth_n hTp hNw hg hb hv t) (fun z T R I0 hM => c_worth_n hM hi hv t) ⟨⟨by decide, by decide⟩, ⟨by decide, by decide⟩, by decide, by decide⟩
set_option maxRecDepth 100000 in
set_option maxHeartbeats 4000000 in
theorem jd_pave (hG : jG s0 B ad C E) (hC : jC q E ad z T I R σ fl ti sh tl im σi fi t2 s2) (hA : aI K σ fl ti sh tl im σi fi t2 s2) (hJ : jM M σ fl ti sh tl K τ im σi fi t2 s2) (hMd : gMod (q + 53) T R) (hMI : ∀ k j, k < 12 → I (q + 53 + k) j = M k j) (hlt : ∀ c, (T c).1 ≠ 0 → c < z) (hE0 : (T E).1 = 0) (hK : K ≤ 24000000) (hτ : τ + 200000 < 2 ^ 30) (v a : Int32) : jDo l s0 D cy B q yX11_pave wsX11_pave yX12_pave wsX12_pave [.int v, .int a] (z, T, I, R) (jI q E ad (K + 300000) (τ + 140000)) := by
  have hTp := hC.2.1
  have hNw := hC.2.2.1
  have hg := hA.1
  have hb := hA.2.1
  obtain ⟨τ1, ms, hτ1, hi⟩ := hJ.1
  have h4 : σ 38 ≤ 4 := hb.2.2.2.2.1
  by_cases hv : 0 ≤ v ∧ v ≤ nI (σ 38) - 1
  · obtain ⟨μ, hμ, rfl⟩ := j_man (n := σ 38) (by omega) hv
    by_cases hn : 1 ≤ a ∧ a ≤ 20
    · obtain ⟨k, hk1, hk, rfl⟩ := j_nat1 (m := 20) rfl (by decide) hn
      exact j_query hC hA hJ hMd hMI hlt hi hτ1 (t_pave hTp hNw hg hb hG.2.1 hμ hk1 hk (by omega)) (fun z T R I0 hM => c_pave hM hi hμ hk1 hk (by omega) (by omega)) ⟨⟨by decide, by decide⟩, ⟨by decide, by decide⟩, by decide, by decide⟩ (by decide)
    · exact j_pure hC hA hJ hMd hMI (t_pave_b hTp hNw hg hb hμ hn) (fun z T R I0 hM => c_pave_b hM hi hμ hn) ⟨⟨by decide, by decide⟩, ⟨by decide, by decide⟩, by decide, by decide⟩
  · exact j_pure hC hA hJ hMd hMI (t_pave_n hTp hNw hg hb hv a) (fun z T R I0 hM => c_pave_n hM hi hv a) ⟨⟨by decide, by decide⟩, ⟨by decide, by decide⟩, by decide, by decide⟩
set_option maxRecDepth 100000 in
set_option maxHeartbeats 4000000 in
theorem jd_looked (hG : jG s0 B ad C E) (hC : jC q E ad z T I R σ fl ti sh tl im σi fi t2 s2) (hA : aI K σ fl ti sh tl im σi fi t2 s2) (hJ : jM M σ fl ti sh tl K τ im σi fi t2 s2) (hMd : gMod (q + 53) T R) (hMI : ∀ k j, k < 12 → I (q + 53 + k) j = M k j) (hlt : ∀ c, (T c).1 ≠ 0 → c < z) (hE0 : (T E).1 = 0) (hK : K ≤ 24000000) (hτ : τ + 200000 < 2 ^ 30) (v a : Int32) : jDo l s0 D cy B q yX11_looked wsX11_looked yX12_looked wsX12_looked [.int v, .int a] (z, T, I, R) (jI q E ad (K + 300000) (τ + 140000)) := by
  have hTp := hC.2.1
  have hNw := hC.2.2.1
  have hg := hA.1
  have hb := hA.2.1
  obtain ⟨τ1, ms, hτ1, hi⟩ := hJ.1
  have h4 : σ 38 ≤ 4 := hb.2.2.2.2.1
  by_cases hv : 0 ≤ v ∧ v ≤ nI (σ 38) - 1
  · obtain ⟨μ, hμ, rfl⟩ := j_man (n := σ 38) (by omega) hv
    by_cases hn : 1 ≤ a ∧ a ≤ 20
    · obtain ⟨k, hk1, hk, rfl⟩ := j_nat1 (m := 20) rfl (by decide) hn
      exact j_query hC hA hJ hMd hMI hlt hi hτ1 (t_looked hTp hNw hg hb hG.2.1 hμ hk1 hk (by omega)) (fun z T R I0 hM => c_looked hM hi hμ hk1 hk (by omega) (by omega)) ⟨⟨by decide, by decide⟩, ⟨by decide, by decide⟩, by decide, by decide⟩ (by decide)
    · exact j_pure hC hA hJ hMd hMI (t_looked_b hTp hNw hg hb hμ hn) (fun z T R I0 hM => c_looked_b hM hi hμ hn) ⟨⟨by decide, by decide⟩, ⟨by decide, by decide⟩, by decide, by decide⟩
  · exact j_pure hC hA hJ hMd hMI (t_looked_n hTp hNw hg hb hv a) (fun z T R I0 hM => c_looked_n hM hi hv a) ⟨⟨by decide, by decide⟩, ⟨by decide, by decide⟩, by decide, by decide⟩
set_option maxRecDepth 100000 in
set_option maxHeartbeats 4000000 in
theorem jd_as (hG : jG s0 B ad C E) (hC : jC q E ad z T I R σ fl ti sh tl im σi fi t2 s2) (hA : aI K σ fl ti sh tl im σi fi t2 s2) (hJ : jM M σ fl ti sh tl K τ im σi fi t2 s2) (hMd : gMod (q + 53) T R) (hMI : ∀ k j, k < 12 → I (q + 53 + k) j = M k j) (hlt : ∀ c, (T c).1 ≠ 0 → c < z) (hE0 : (T E).1 = 0) (hK : K ≤ 24000000) (hτ : τ + 200000 < 2 ^ 30) (v k : Int32) : jDo l s0 D cy B q yX11_as wsX11_as yX12_as wsX12_as [.int v, .int k] (z, T, I, R) (jI q E ad (K + 300000) (τ + 140000)) := by
  have hTp := hC.2.1
  have hNw := hC.2.2.1
  have hg := hA.1
  have hb := hA.2.1
  obtain ⟨τ1, ms, hτ1, hi⟩ := hJ.1
  have h4 : σ 38 ≤ 4 := hb.2.2.2.2.1
  by_cases hv : 0 ≤ v ∧ v ≤ nI (σ 38) - 1
  · obtain ⟨μ, hμ, rfl⟩ := j_man (n := σ 38) (by omega) hv
    by_cases hn : 0 ≤ k ∧ k ≤ 6
    · obtain ⟨x, hx, rfl⟩ := j_nat (m := 6) rfl (by decide) hn
      exact j_pure hC hA hJ hMd hMI (t_as hTp hNw hg hb hG.2.2.1 hμ hx) (fun z T R I0 hM => c_as hM hi hμ hx) ⟨⟨by decide, by decide⟩, ⟨by decide, by decide⟩, by decide, by decide⟩
    · exact j_pure hC hA hJ hMd hMI (t_as_b hTp hNw hg hb hμ hn) (fun z T R I0 hM => c_as_n hM hi (fun g => hn g.2)) ⟨⟨by decide, by decide⟩, ⟨by decide, by decide⟩, by decide, by decide⟩
  · exact j_pure hC hA hJ hMd hMI (t_as_n hTp hNw hg hb hv k) (fun z T R I0 hM => c_as_n hM hi (fun g => hv g.1)) ⟨⟨by decide, by decide⟩, ⟨by decide, by decide⟩, by decide, by decide⟩
set_option maxRecDepth 100000 in
set_option maxHeartbeats 4000000 in
theorem jd_trace (hG : jG s0 B ad C E) (hC : jC q E ad z T I R σ fl ti sh tl im σi fi t2 s2) (hA : aI K σ fl ti sh tl im σi fi t2 s2) (hJ : jM M σ fl ti sh tl K τ im σi fi t2 s2) (hMd : gMod (q + 53) T R) (hMI : ∀ k j, k < 12 → I (q + 53 + k) j = M k j) (hlt : ∀ c, (T c).1 ≠ 0 → c < z) (hE0 : (T E).1 = 0) (hK : K ≤ 24000000) (hτ : τ + 200000 < 2 ^ 30) (n : Int32) : jDo l s0 D cy B q yX11_trace wsX11_trace yX12_trace wsX12_trace [.int n] (z, T, I, R) (jI q E ad (K + 300000) (τ + 140000)) := by
  have hTp := hC.2.1
  have hNw := hC.2.2.1
  have hg := hA.1
  have hb := hA.2.1
  obtain ⟨τ1, ms, hτ1, hi⟩ := hJ.1
  have h4 : σ 38 ≤ 4 := hb.2.2.2.2.1
  have hLs := hC.2.2.2.2.1
  have htr := hJ.2.2.1
  have ht8 := hA.2.2.1.1
  by_cases hn : 0 ≤ n ∧ n ≤ nI tl.length - 1
  · obtain ⟨x, hx, rfl⟩ := j_man (n := tl.length) (by omega) hn
    exact j_two hC hMd hMI (t_trace hTp hNw hg hb hG.2.2.2.1 hLs hx (by omega) rfl (hA.2.2.1.2 x)) (fun z T R I0 hM => c_trace hM htr.1 (by omega) hx) ⟨⟨by decide, by decide⟩, ⟨by decide, by decide⟩, by decide, by decide⟩ (fun r u hp => ⟨hp.1, z, T, I, R, hp.2, hC, fun c _ _ => ⟨rfl, fun _ => rfl, fun _ => rfl⟩⟩) (fun r M' hp => ⟨hp.1.trans (htr.2 x hx), by rw [← hp.2]; exact hJ.le⟩) (hA.le (by omega))
  · exact j_pure hC hA hJ hMd hMI (t_trace_n hTp hNw hg hb hLs hn (by omega)) (fun z T R I0 hM => c_trace_n hM htr.1 (by omega) hn) ⟨⟨by decide, by decide⟩, ⟨by decide, by decide⟩, by decide, by decide⟩
set_option maxRecDepth 100000 in
set_option maxHeartbeats 4000000 in
theorem jd_odds (hG : jG s0 B ad C E) (hC : jC q E ad z T I R σ fl ti sh tl im σi fi t2 s2) (hA : aI K σ fl ti sh tl im σi fi t2 s2) (hJ : jM M σ fl ti sh tl K τ im σi fi t2 s2) (hMd : gMod (q + 53) T R) (hMI : ∀ k j, k < 12 → I (q + 53 + k) j = M k j) (hlt : ∀ c, (T c).1 ≠ 0 → c < z) (hE0 : (T E).1 = 0) (hK : K ≤ 24000000) (hτ : τ + 200000 < 2 ^ 30) (v a p w : Int32) : jDol l s0 D cy B q yX11_odds wsX11_odds yX12_odds wsX12_odds [.int v, .int a, .int p, .int w] (z, T, I, R) (jI q E ad (K + 300000) (τ + 140000)) := by
  have hTp := hC.2.1
  have hNw := hC.2.2.1
  have hg := hA.1
  have hb := hA.2.1
  obtain ⟨τ1, ms, hτ1, hi⟩ := hJ.1
  have h4 : σ 38 ≤ 4 := hb.2.2.2.2.1
  by_cases hv : 0 ≤ v ∧ v ≤ nI (σ 38) - 1
  · obtain ⟨μ, hμ, rfl⟩ := j_man (n := σ 38) (by omega) hv
    by_cases hn : (1 ≤ a ∧ a ≤ 20) ∧ (0 ≤ p ∧ p ≤ 10) ∧ (0 ≤ w ∧ w ≤ 1)
    · obtain ⟨d, hd1, hd, rfl⟩ := j_nat1 (m := 20) rfl (by decide) hn.1
      obtain ⟨k, hk, rfl⟩ := j_nat (m := 10) rfl (by decide) hn.2.1
      obtain ⟨x, hx, rfl⟩ := j_nat (m := 1) rfl (by decide) hn.2.2
      exact j_twol hC hMd hMI (t_odds hTp hNw hg hb hμ hd1 hd hk hx) (fun z T R I0 hM => c_odds hM hi hμ hd1 hd hk hx (by omega) (by omega)) ⟨⟨by decide, by decide⟩, ⟨by decide, by decide⟩, by decide, by decide⟩ (fun r u hp => by
        obtain ⟨e1, I', e2, e3⟩ := hp
        have e6 := hC.wk (I' := I') (σ' := σ) hlt (fun g => (hA.2.2.2.2.1 g).2.2.2.2.2.1) h4 (hNw.ab.k (fun c j h1 h2 => e3 c j (by omega))) rfl (fun _ _ _ => rfl) (hC.2.2.2.1.k (fun c j h1 h2 => e3 c j (by omega))) (fun c j h => e3 c j (by omega))
        exact ⟨e1, z, T, I', R, e2.symm, e6.1, e6.2⟩) (fun r M' hp => ⟨hp.1, hJ.qy hi hτ1 (by decide) hp.2.1 hp.2.2⟩) (hA.le (by omega))
    · exact j_purel hC hA hJ hMd hMI (t_odds_b hTp hNw hg hb hμ hn) (fun z T R I0 hM => c_odds_n hM hi (fun g => hn g.2)) ⟨⟨by decide, by decide⟩, ⟨by decide, by decide⟩, by decide, by decide⟩
  · exact j_purel hC hA hJ hMd hMI (t_odds_n hTp hNw hg hb hv a p w) (fun z T R I0 hM => c_odds_n hM hi (fun g => hv g.1)) ⟨⟨by decide, by decide⟩, ⟨by decide, by decide⟩, by decide, by decide⟩
end JE
