section LW
variable {p : Program} {l : Launch} {e : Env} {s : State} {m : MethodId} {args : Array Value} {below : List Frame} {meth : Method} {c : Code} {H : Heap} {locs : List Loc} {cells slots : Nat} {Q : State → Prop}
variable {ls : Array Slot} {rest : List Value} {D : va_G} {cy : Nat → ClassId} {B b L i q : Nat} {xs : Nat → Int32} {x : gSt} {Inv : gSt → Prop}
/-- a number of the script -/
theorem j_arg {k pc : Nat} {n : Int} (X : CallFix p m c cL_law 4 s args wsL_law RL) (hX : va_X b L xs s s.heap) (hbl : b < s.heap.size) (hbA : ¬ gA B b) (hS : va_S (gA B) s.heap H locs) (hl : lv_has ls 4 [(0, .ref b), (1, .ref q), (2, .ref (q + 53)), (3, .int (nI i))]) (hv : Int32.ofInt n = nI k) (hk : i + k < L) (hL : L ≤ 384) (d1 : decode cL_law pc = .ok (.aload_n 0, 1)) (d2 : decode cL_law (pc + 1) = .ok (.iload_n 3, 1)) (d3 : decode cL_law (pc + 1 + 1) = .ok (.iconst n, 1)) (d4 : decode cL_law (pc + 1 + 1 + 1) = .ok (.iadd, 1)) (d5 : decode cL_law (pc + 1 + 1 + 1 + 1) = .ok (.iaload, 1))
    (kk : W p l e room_1 s m args below meth c H locs cells slots Q (F0 m (pc + 1 + 1 + 1 + 1 + 1) ls (.int (xs (i + k)) :: rest))) : W p l e room_1 s m args below meth c H locs cells slots Q (F0 m pc ls rest) := by
  refine lv_aload_n X.1 X.2.1 d1 rfl (lv_at hl 0 rfl) ?_
  refine lv_iload_n X.1 X.2.1 d2 rfl (lv_at hl 3 rfl) ?_
  refine lv_iconst (v := nI k) X.1 X.2.1 d3 hv ?_
  refine lv_iadd X.1 X.2.1 d4 ?_
  refine lv_cv (y := nI (i + k)) (nI_add i k) ?_
  refine va_sld X.1 X.2.1 hX hbl hbA hS (vp_in_nI hk (by omega)) d5 ?_
  rw [nI_clamp (by omega)]
  exact kk

set_option maxRecDepth 100000 in
set_option maxHeartbeats 4000000 in
theorem lw_feed (X : CallFix p m c cL_law 4 s args wsL_law RL) (hK : va_K D vwCl (gtys cy) s) (hCs : gCst s B s) (hB : B ≤ s.heap.size) (hX : va_X b L xs s s.heap) (hbl : b < s.heap.size) (hbA : ¬ gA B b) (hl : lv_has ls 4 [(0, .ref b), (1, .ref q), (2, .ref (q + 53)), (3, .int (nI i))]) (hi6 : i + 6 ≤ L) (hL : L ≤ 384) (hP : gP D cy B x.1 x.2.1 x.2.2.1 x.2.2.2 H) (hS : va_S (gA B) s.heap H locs) (hTq : x.2.1 q = (21, 0)) (hdo : jDo l s D cy B q yX11_feed wsX11_feed yX12_feed wsX12_feed [.int (xs (i + 1))] x Inv) (hr : cells + 8 ≤ 600000 ∧ slots + 138 ≤ 7302250) (kk : ∀ (u : gSt) (H1 : Heap) (l1 : List Loc), Inv u → gP D cy B u.1 u.2.1 u.2.2.1 u.2.2.2 H1 → va_S (gA B) s.heap H1 l1 → W p l e room_1 s m args below meth c H1 l1 (cells + 8) (slots + 138) Q (F0 m 1021 ls [])) : W p l e room_1 s m args below meth c H locs cells slots Q (F0 m 152 ls []) := by
  obtain ⟨mc, ms, hmm, fr, lo, S, f, post, hfl, hM, hpost⟩ := hdo
  refine lv_aload_n X.1 X.2.1 dL_law_152 rfl (lv_at hl 1 rfl) ?_
  refine j_arg (k := 1) X hX hbl hbA hS hl rfl (by omega) hL dL_law_153 dL_law_154 dL_law_155 dL_law_156 dL_law_157 ?_
  refine g_run_i (f := f) (g_runV (k := 13) [.int (xs (i + 1))] X hK hP hS hCs hB hM (cwV 1 X.2.2.2.2 gL_law_X11_feed rfl rfl rfl (by decide +kernel) ⟨by show fr + 1 ≤ 2048; omega, by show 8 + (2 + 11) + lo ≤ 84000; omega⟩) hTq rfl rfl hl.1 rfl (Nat.le_of_ble_eq_true rfl) dL_law_158 ⟨by show cells + mc ≤ 600000; omega, by show slots + ms ≤ 7302250; omega⟩) hS (fun r u H locs hq hP hS => ?_)
  obtain ⟨hTo, hdo2⟩ := hpost r u hq
  obtain ⟨fr2, lo2, S2, f2, post2, hfl2, hM2, hpost2⟩ := hdo2 (fun c h => hP.lt h)
  refine lv_aload_n X.1 X.2.1 dL_law_161 rfl (lv_at hl 2 rfl) ?_
  refine j_arg (k := 1) X hX hbl hbA hS hl rfl (by omega) hL dL_law_162 dL_law_163 dL_law_164 dL_law_165 dL_law_166 ?_
  refine g_run_i (f := f2) (g_runV (k := 14) [.int (xs (i + 1))] X hK hP hS hCs hB hM2 (cwV 1 X.2.2.2.2 gL_law_X12_feed rfl rfl rfl (by decide +kernel) ⟨by show fr2 + 1 ≤ 2048; omega, by show 8 + (2 + 11) + lo2 ≤ 84000; omega⟩) hTo rfl rfl hl.1 rfl (Nat.le_of_ble_eq_true rfl) dL_law_167 ⟨by show cells + mc + 0 ≤ 600000; omega, by show slots + ms + 0 ≤ 7302250; omega⟩) hS (fun r2 u2 H locs hq2 hP hS => ?_)
  obtain ⟨hre, hInv⟩ := hpost2 r2 u2 hq2
  refine lv_icmp_eq (tgt := 1021) X.1 X.2.1 dL_law_170 (by decide) (fun c1 => ?_) (fun c1 => ?_)
  · exact W.widen (by omega) (by omega) (kk (f2 u2) H locs hInv hP hS)
  · exact absurd hre.symm c1
set_option maxRecDepth 100000 in
set_option maxHeartbeats 4000000 in
theorem lw_site (X : CallFix p m c cL_law 4 s args wsL_law RL) (hK : va_K D vwCl (gtys cy) s) (hCs : gCst s B s) (hB : B ≤ s.heap.size) (hX : va_X b L xs s s.heap) (hbl : b < s.heap.size) (hbA : ¬ gA B b) (hl : lv_has ls 4 [(0, .ref b), (1, .ref q), (2, .ref (q + 53)), (3, .int (nI i))]) (hi6 : i + 6 ≤ L) (hL : L ≤ 384) (hP : gP D cy B x.1 x.2.1 x.2.2.1 x.2.2.2 H) (hS : va_S (gA B) s.heap H locs) (hTq : x.2.1 q = (21, 0)) (hdo : jDo l s D cy B q yX11_site wsX11_site yX12_site wsX12_site [] x Inv) (hr : cells + 8 ≤ 600000 ∧ slots + 138 ≤ 7302250) (kk : ∀ (u : gSt) (H1 : Heap) (l1 : List Loc), Inv u → gP D cy B u.1 u.2.1 u.2.2.1 u.2.2.2 H1 → va_S (gA B) s.heap H1 l1 → W p l e room_1 s m args below meth c H1 l1 (cells + 8) (slots + 138) Q (F0 m 1021 ls [])) : W p l e room_1 s m args below meth c H locs cells slots Q (F0 m 175 ls []) := by
  obtain ⟨mc, ms, hmm, fr, lo, S, f, post, hfl, hM, hpost⟩ := hdo
  refine lv_aload_n X.1 X.2.1 dL_law_175 rfl (lv_at hl 1 rfl) ?_
  refine g_run_i (f := f) (g_runV (k := 13) [] X hK hP hS hCs hB hM (cwV 0 X.2.2.2.2 gL_law_X11_site rfl rfl rfl (by decide +kernel) ⟨by show fr + 1 ≤ 2048; omega, by show 8 + (2 + 11) + lo ≤ 84000; omega⟩) hTq rfl rfl hl.1 rfl (Nat.le_of_ble_eq_true rfl) dL_law_176 ⟨by show cells + mc ≤ 600000; omega, by show slots + ms ≤ 7302250; omega⟩) hS (fun r u H locs hq hP hS => ?_)
  obtain ⟨hTo, hdo2⟩ := hpost r u hq
  obtain ⟨fr2, lo2, S2, f2, post2, hfl2, hM2, hpost2⟩ := hdo2 (fun c h => hP.lt h)
  refine lv_aload_n X.1 X.2.1 dL_law_179 rfl (lv_at hl 2 rfl) ?_
  refine g_run_i (f := f2) (g_runV (k := 14) [] X hK hP hS hCs hB hM2 (cwV 0 X.2.2.2.2 gL_law_X12_site rfl rfl rfl (by decide +kernel) ⟨by show fr2 + 1 ≤ 2048; omega, by show 8 + (2 + 11) + lo2 ≤ 84000; omega⟩) hTo rfl rfl hl.1 rfl (Nat.le_of_ble_eq_true rfl) dL_law_180 ⟨by show cells + mc + 0 ≤ 600000; omega, by show slots + ms + 0 ≤ 7302250; omega⟩) hS (fun r2 u2 H locs hq2 hP hS => ?_)
  obtain ⟨hre, hInv⟩ := hpost2 r2 u2 hq2
  refine lv_icmp_eq (tgt := 1021) X.1 X.2.1 dL_law_183 (by decide) (fun c1 => ?_) (fun c1 => ?_)
  · exact W.widen (by omega) (by omega) (kk (f2 u2) H locs hInv hP hS)
  · exact absurd hre.symm c1
set_option maxRecDepth 100000 in
set_option maxHeartbeats 4000000 in
theorem lw_yard (X : CallFix p m c cL_law 4 s args wsL_law RL) (hK : va_K D vwCl (gtys cy) s) (hCs : gCst s B s) (hB : B ≤ s.heap.size) (hX : va_X b L xs s s.heap) (hbl : b < s.heap.size) (hbA : ¬ gA B b) (hl : lv_has ls 4 [(0, .ref b), (1, .ref q), (2, .ref (q + 53)), (3, .int (nI i))]) (hi6 : i + 6 ≤ L) (hL : L ≤ 384) (hP : gP D cy B x.1 x.2.1 x.2.2.1 x.2.2.2 H) (hS : va_S (gA B) s.heap H locs) (hTq : x.2.1 q = (21, 0)) (hdo : jDo l s D cy B q yX11_yard wsX11_yard yX12_yard wsX12_yard [.int (xs (i + 1)), .int (xs (i + 2)), .int (xs (i + 3))] x Inv) (hr : cells + 8 ≤ 600000 ∧ slots + 138 ≤ 7302250) (kk : ∀ (u : gSt) (H1 : Heap) (l1 : List Loc), Inv u → gP D cy B u.1 u.2.1 u.2.2.1 u.2.2.2 H1 → va_S (gA B) s.heap H1 l1 → W p l e room_1 s m args below meth c H1 l1 (cells + 8) (slots + 138) Q (F0 m 1021 ls [])) : W p l e room_1 s m args below meth c H locs cells slots Q (F0 m 188 ls []) := by
  obtain ⟨mc, ms, hmm, fr, lo, S, f, post, hfl, hM, hpost⟩ := hdo
  refine lv_aload_n X.1 X.2.1 dL_law_188 rfl (lv_at hl 1 rfl) ?_
  refine j_arg (k := 1) X hX hbl hbA hS hl rfl (by omega) hL dL_law_189 dL_law_190 dL_law_191 dL_law_192 dL_law_193 ?_
  refine j_arg (k := 2) X hX hbl hbA hS hl rfl (by omega) hL dL_law_194 dL_law_195 dL_law_196 dL_law_197 dL_law_198 ?_
  refine j_arg (k := 3) X hX hbl hbA hS hl rfl (by omega) hL dL_law_199 dL_law_200 dL_law_201 dL_law_202 dL_law_203 ?_
  refine g_run_i (f := f) (g_runV (k := 13) [.int (xs (i + 1)), .int (xs (i + 2)), .int (xs (i + 3))] X hK hP hS hCs hB hM (cwV 3 X.2.2.2.2 gL_law_X11_yard rfl rfl rfl (by decide +kernel) ⟨by show fr + 1 ≤ 2048; omega, by show 8 + (4 + 11) + lo ≤ 84000; omega⟩) hTq rfl rfl hl.1 rfl (Nat.le_of_ble_eq_true rfl) dL_law_204 ⟨by show cells + mc ≤ 600000; omega, by show slots + ms ≤ 7302250; omega⟩) hS (fun r u H locs hq hP hS => ?_)
  obtain ⟨hTo, hdo2⟩ := hpost r u hq
  obtain ⟨fr2, lo2, S2, f2, post2, hfl2, hM2, hpost2⟩ := hdo2 (fun c h => hP.lt h)
  refine lv_aload_n X.1 X.2.1 dL_law_207 rfl (lv_at hl 2 rfl) ?_
  refine j_arg (k := 1) X hX hbl hbA hS hl rfl (by omega) hL dL_law_208 dL_law_209 dL_law_210 dL_law_211 dL_law_212 ?_
  refine j_arg (k := 2) X hX hbl hbA hS hl rfl (by omega) hL dL_law_213 dL_law_214 dL_law_215 dL_law_216 dL_law_217 ?_
  refine j_arg (k := 3) X hX hbl hbA hS hl rfl (by omega) hL dL_law_218 dL_law_219 dL_law_220 dL_law_221 dL_law_222 ?_
  refine g_run_i (f := f2) (g_runV (k := 14) [.int (xs (i + 1)), .int (xs (i + 2)), .int (xs (i + 3))] X hK hP hS hCs hB hM2 (cwV 3 X.2.2.2.2 gL_law_X12_yard rfl rfl rfl (by decide +kernel) ⟨by show fr2 + 1 ≤ 2048; omega, by show 8 + (6 + 11) + lo2 ≤ 84000; omega⟩) hTo rfl rfl hl.1 rfl (Nat.le_of_ble_eq_true rfl) dL_law_223 ⟨by show cells + mc + 0 ≤ 600000; omega, by show slots + ms + 0 ≤ 7302250; omega⟩) hS (fun r2 u2 H locs hq2 hP hS => ?_)
  obtain ⟨hre, hInv⟩ := hpost2 r2 u2 hq2
  refine lv_icmp_eq (tgt := 1021) X.1 X.2.1 dL_law_226 (by decide) (fun c1 => ?_) (fun c1 => ?_)
  · exact W.widen (by omega) (by omega) (kk (f2 u2) H locs hInv hP hS)
  · exact absurd hre.symm c1
set_option maxRecDepth 100000 in
set_option maxHeartbeats 4000000 in
theorem lw_at (X : CallFix p m c cL_law 4 s args wsL_law RL) (hK : va_K D vwCl (gtys cy) s) (hCs : gCst s B s) (hB : B ≤ s.heap.size) (hX : va_X b L xs s s.heap) (hbl : b < s.heap.size) (hbA : ¬ gA B b) (hl : lv_has ls 4 [(0, .ref b), (1, .ref q), (2, .ref (q + 53)), (3, .int (nI i))]) (hi6 : i + 6 ≤ L) (hL : L ≤ 384) (hP : gP D cy B x.1 x.2.1 x.2.2.1 x.2.2.2 H) (hS : va_S (gA B) s.heap H locs) (hTq : x.2.1 q = (21, 0)) (hdo : jDo l s D cy B q yX11_at wsX11_at yX12_at wsX12_at [.int (xs (i + 1)), .int (xs (i + 2))] x Inv) (hr : cells + 8 ≤ 600000 ∧ slots + 138 ≤ 7302250) (kk : ∀ (u : gSt) (H1 : Heap) (l1 : List Loc), Inv u → gP D cy B u.1 u.2.1 u.2.2.1 u.2.2.2 H1 → va_S (gA B) s.heap H1 l1 → W p l e room_1 s m args below meth c H1 l1 (cells + 8) (slots + 138) Q (F0 m 1021 ls [])) : W p l e room_1 s m args below meth c H locs cells slots Q (F0 m 231 ls []) := by
  obtain ⟨mc, ms, hmm, fr, lo, S, f, post, hfl, hM, hpost⟩ := hdo
  refine lv_aload_n X.1 X.2.1 dL_law_231 rfl (lv_at hl 1 rfl) ?_
  refine j_arg (k := 1) X hX hbl hbA hS hl rfl (by omega) hL dL_law_232 dL_law_233 dL_law_234 dL_law_235 dL_law_236 ?_
  refine j_arg (k := 2) X hX hbl hbA hS hl rfl (by omega) hL dL_law_237 dL_law_238 dL_law_239 dL_law_240 dL_law_241 ?_
  refine g_run_i (f := f) (g_runV (k := 13) [.int (xs (i + 1)), .int (xs (i + 2))] X hK hP hS hCs hB hM (cwV 2 X.2.2.2.2 gL_law_X11_at rfl rfl rfl (by decide +kernel) ⟨by show fr + 1 ≤ 2048; omega, by show 8 + (3 + 11) + lo ≤ 84000; omega⟩) hTq rfl rfl hl.1 rfl (Nat.le_of_ble_eq_true rfl) dL_law_242 ⟨by show cells + mc ≤ 600000; omega, by show slots + ms ≤ 7302250; omega⟩) hS (fun r u H locs hq hP hS => ?_)
  obtain ⟨hTo, hdo2⟩ := hpost r u hq
  obtain ⟨fr2, lo2, S2, f2, post2, hfl2, hM2, hpost2⟩ := hdo2 (fun c h => hP.lt h)
  refine lv_aload_n X.1 X.2.1 dL_law_245 rfl (lv_at hl 2 rfl) ?_
  refine j_arg (k := 1) X hX hbl hbA hS hl rfl (by omega) hL dL_law_246 dL_law_247 dL_law_248 dL_law_249 dL_law_250 ?_
  refine j_arg (k := 2) X hX hbl hbA hS hl rfl (by omega) hL dL_law_251 dL_law_252 dL_law_253 dL_law_254 dL_law_255 ?_
  refine g_run_i (f := f2) (g_runV (k := 14) [.int (xs (i + 1)), .int (xs (i + 2))] X hK hP hS hCs hB hM2 (cwV 2 X.2.2.2.2 gL_law_X12_at rfl rfl rfl (by decide +kernel) ⟨by show fr2 + 1 ≤ 2048; omega, by show 8 + (3 + 11) + lo2 ≤ 84000; omega⟩) hTo rfl rfl hl.1 rfl (Nat.le_of_ble_eq_true rfl) dL_law_256 ⟨by show cells + mc + 0 ≤ 600000; omega, by show slots + ms + 0 ≤ 7302250; omega⟩) hS (fun r2 u2 H locs hq2 hP hS => ?_)
  obtain ⟨hre, hInv⟩ := hpost2 r2 u2 hq2
  refine lv_icmp_eq (tgt := 1021) X.1 X.2.1 dL_law_259 (by decide) (fun c1 => ?_) (fun c1 => ?_)
  · exact W.widen (by omega) (by omega) (kk (f2 u2) H locs hInv hP hS)
  · exact absurd hre.symm c1
set_option maxRecDepth 100000 in
set_option maxHeartbeats 4000000 in
theorem lw_earth (X : CallFix p m c cL_law 4 s args wsL_law RL) (hK : va_K D vwCl (gtys cy) s) (hCs : gCst s B s) (hB : B ≤ s.heap.size) (hX : va_X b L xs s s.heap) (hbl : b < s.heap.size) (hbA : ¬ gA B b) (hl : lv_has ls 4 [(0, .ref b), (1, .ref q), (2, .ref (q + 53)), (3, .int (nI i))]) (hi6 : i + 6 ≤ L) (hL : L ≤ 384) (hP : gP D cy B x.1 x.2.1 x.2.2.1 x.2.2.2 H) (hS : va_S (gA B) s.heap H locs) (hTq : x.2.1 q = (21, 0)) (hdo : jDo l s D cy B q yX11_earth wsX11_earth yX12_earth wsX12_earth [.int (xs (i + 1))] x Inv) (hr : cells + 8 ≤ 600000 ∧ slots + 138 ≤ 7302250) (kk : ∀ (u : gSt) (H1 : Heap) (l1 : List Loc), Inv u → gP D cy B u.1 u.2.1 u.2.2.1 u.2.2.2 H1 → va_S (gA B) s.heap H1 l1 → W p l e room_1 s m args below meth c H1 l1 (cells + 8) (slots + 138) Q (F0 m 1021 ls [])) : W p l e room_1 s m args below meth c H locs cells slots Q (F0 m 264 ls []) := by
  obtain ⟨mc, ms, hmm, fr, lo, S, f, post, hfl, hM, hpost⟩ := hdo
  refine lv_aload_n X.1 X.2.1 dL_law_264 rfl (lv_at hl 1 rfl) ?_
  refine j_arg (k := 1) X hX hbl hbA hS hl rfl (by omega) hL dL_law_265 dL_law_266 dL_law_267 dL_law_268 dL_law_269 ?_
  refine g_run_i (f := f) (g_runV (k := 13) [.int (xs (i + 1))] X hK hP hS hCs hB hM (cwV 1 X.2.2.2.2 gL_law_X11_earth rfl rfl rfl (by decide +kernel) ⟨by show fr + 1 ≤ 2048; omega, by show 8 + (3 + 11) + lo ≤ 84000; omega⟩) hTq rfl rfl hl.1 rfl (Nat.le_of_ble_eq_true rfl) dL_law_270 ⟨by show cells + mc ≤ 600000; omega, by show slots + ms ≤ 7302250; omega⟩) hS (fun r u H locs hq hP hS => ?_)
  obtain ⟨hTo, hdo2⟩ := hpost r u hq
  obtain ⟨fr2, lo2, S2, f2, post2, hfl2, hM2, hpost2⟩ := hdo2 (fun c h => hP.lt h)
  refine lv_aload_n X.1 X.2.1 dL_law_273 rfl (lv_at hl 2 rfl) ?_
  refine j_arg (k := 1) X hX hbl hbA hS hl rfl (by omega) hL dL_law_274 dL_law_275 dL_law_276 dL_law_277 dL_law_278 ?_
  refine g_run_i (f := f2) (g_runV (k := 14) [.int (xs (i + 1))] X hK hP hS hCs hB hM2 (cwV 1 X.2.2.2.2 gL_law_X12_earth rfl rfl rfl (by decide +kernel) ⟨by show fr2 + 1 ≤ 2048; omega, by show 8 + (3 + 11) + lo2 ≤ 84000; omega⟩) hTo rfl rfl hl.1 rfl (Nat.le_of_ble_eq_true rfl) dL_law_279 ⟨by show cells + mc + 0 ≤ 600000; omega, by show slots + ms + 0 ≤ 7302250; omega⟩) hS (fun r2 u2 H locs hq2 hP hS => ?_)
  obtain ⟨hre, hInv⟩ := hpost2 r2 u2 hq2
  refine lv_icmp_eq (tgt := 1021) X.1 X.2.1 dL_law_282 (by decide) (fun c1 => ?_) (fun c1 => ?_)
  · exact W.widen (by omega) (by omega) (kk (f2 u2) H locs hInv hP hS)
  · exact absurd hre.symm c1
set_option maxRecDepth 100000 in
set_option maxHeartbeats 4000000 in
theorem lw_told (X : CallFix p m c cL_law 4 s args wsL_law RL) (hK : va_K D vwCl (gtys cy) s) (hCs : gCst s B s) (hB : B ≤ s.heap.size) (hX : va_X b L xs s s.heap) (hbl : b < s.heap.size) (hbA : ¬ gA B b) (hl : lv_has ls 4 [(0, .ref b), (1, .ref q), (2, .ref (q + 53)), (3, .int (nI i))]) (hi6 : i + 6 ≤ L) (hL : L ≤ 384) (hP : gP D cy B x.1 x.2.1 x.2.2.1 x.2.2.2 H) (hS : va_S (gA B) s.heap H locs) (hTq : x.2.1 q = (21, 0)) (hdo : jDo l s D cy B q yX11_told wsX11_told yX12_told wsX12_told [.int (xs (i + 1))] x Inv) (hr : cells + 8 ≤ 600000 ∧ slots + 138 ≤ 7302250) (kk : ∀ (u : gSt) (H1 : Heap) (l1 : List Loc), Inv u → gP D cy B u.1 u.2.1 u.2.2.1 u.2.2.2 H1 → va_S (gA B) s.heap H1 l1 → W p l e room_1 s m args below meth c H1 l1 (cells + 8) (slots + 138) Q (F0 m 1021 ls [])) : W p l e room_1 s m args below meth c H locs cells slots Q (F0 m 287 ls []) := by
  obtain ⟨mc, ms, hmm, fr, lo, S, f, post, hfl, hM, hpost⟩ := hdo
  refine lv_aload_n X.1 X.2.1 dL_law_287 rfl (lv_at hl 1 rfl) ?_
  refine j_arg (k := 1) X hX hbl hbA hS hl rfl (by omega) hL dL_law_288 dL_law_289 dL_law_290 dL_law_291 dL_law_292 ?_
  refine g_run_i (f := f) (g_runV (k := 13) [.int (xs (i + 1))] X hK hP hS hCs hB hM (cwV 1 X.2.2.2.2 gL_law_X11_told rfl rfl rfl (by decide +kernel) ⟨by show fr + 1 ≤ 2048; omega, by show 8 + (2 + 11) + lo ≤ 84000; omega⟩) hTq rfl rfl hl.1 rfl (Nat.le_of_ble_eq_true rfl) dL_law_293 ⟨by show cells + mc ≤ 600000; omega, by show slots + ms ≤ 7302250; omega⟩) hS (fun r u H locs hq hP hS => ?_)
  obtain ⟨hTo, hdo2⟩ := hpost r u hq
  obtain ⟨fr2, lo2, S2, f2, post2, hfl2, hM2, hpost2⟩ := hdo2 (fun c h => hP.lt h)
  refine lv_aload_n X.1 X.2.1 dL_law_296 rfl (lv_at hl 2 rfl) ?_
  refine j_arg (k := 1) X hX hbl hbA hS hl rfl (by omega) hL dL_law_297 dL_law_298 dL_law_299 dL_law_300 dL_law_301 ?_
  refine g_run_i (f := f2) (g_runV (k := 14) [.int (xs (i + 1))] X hK hP hS hCs hB hM2 (cwV 1 X.2.2.2.2 gL_law_X12_told rfl rfl rfl (by decide +kernel) ⟨by show fr2 + 1 ≤ 2048; omega, by show 8 + (2 + 11) + lo2 ≤ 84000; omega⟩) hTo rfl rfl hl.1 rfl (Nat.le_of_ble_eq_true rfl) dL_law_302 ⟨by show cells + mc + 0 ≤ 600000; omega, by show slots + ms + 0 ≤ 7302250; omega⟩) hS (fun r2 u2 H locs hq2 hP hS => ?_)
  obtain ⟨hre, hInv⟩ := hpost2 r2 u2 hq2
  refine lv_icmp_eq (tgt := 1021) X.1 X.2.1 dL_law_305 (by decide) (fun c1 => ?_) (fun c1 => ?_)
  · exact W.widen (by omega) (by omega) (kk (f2 u2) H locs hInv hP hS)
  · exact absurd hre.symm c1
set_option maxRecDepth 100000 in
set_option maxHeartbeats 4000000 in
theorem lw_man (X : CallFix p m c cL_law 4 s args wsL_law RL) (hK : va_K D vwCl (gtys cy) s) (hCs : gCst s B s) (hB : B ≤ s.heap.size) (hX : va_X b L xs s s.heap) (hbl : b < s.heap.size) (hbA : ¬ gA B b) (hl : lv_has ls 4 [(0, .ref b), (1, .ref q), (2, .ref (q + 53)), (3, .int (nI i))]) (hi6 : i + 6 ≤ L) (hL : L ≤ 384) (hP : gP D cy B x.1 x.2.1 x.2.2.1 x.2.2.2 H) (hS : va_S (gA B) s.heap H locs) (hTq : x.2.1 q = (21, 0)) (hdo : jDo l s D cy B q yX11_man wsX11_man yX12_man wsX12_man [.int (xs (i + 1)), .int (xs (i + 2)), .int (xs (i + 3))] x Inv) (hr : cells + 8 ≤ 600000 ∧ slots + 138 ≤ 7302250) (kk : ∀ (u : gSt) (H1 : Heap) (l1 : List Loc), Inv u → gP D cy B u.1 u.2.1 u.2.2.1 u.2.2.2 H1 → va_S (gA B) s.heap H1 l1 → W p l e room_1 s m args below meth c H1 l1 (cells + 8) (slots + 138) Q (F0 m 1021 ls [])) : W p l e room_1 s m args below meth c H locs cells slots Q (F0 m 310 ls []) := by
  obtain ⟨mc, ms, hmm, fr, lo, S, f, post, hfl, hM, hpost⟩ := hdo
  refine lv_aload_n X.1 X.2.1 dL_law_310 rfl (lv_at hl 1 rfl) ?_
  refine j_arg (k := 1) X hX hbl hbA hS hl rfl (by omega) hL dL_law_311 dL_law_312 dL_law_313 dL_law_314 dL_law_315 ?_
  refine j_arg (k := 2) X hX hbl hbA hS hl rfl (by omega) hL dL_law_316 dL_law_317 dL_law_318 dL_law_319 dL_law_320 ?_
  refine j_arg (k := 3) X hX hbl hbA hS hl rfl (by omega) hL dL_law_321 dL_law_322 dL_law_323 dL_law_324 dL_law_325 ?_
  refine g_run_i (f := f) (g_runV (k := 13) [.int (xs (i + 1)), .int (xs (i + 2)), .int (xs (i + 3))] X hK hP hS hCs hB hM (cwV 3 X.2.2.2.2 gL_law_X11_man rfl rfl rfl (by decide +kernel) ⟨by show fr + 1 ≤ 2048; omega, by show 8 + (4 + 11) + lo ≤ 84000; omega⟩) hTq rfl rfl hl.1 rfl (Nat.le_of_ble_eq_true rfl) dL_law_326 ⟨by show cells + mc ≤ 600000; omega, by show slots + ms ≤ 7302250; omega⟩) hS (fun r u H locs hq hP hS => ?_)
  obtain ⟨hTo, hdo2⟩ := hpost r u hq
  obtain ⟨fr2, lo2, S2, f2, post2, hfl2, hM2, hpost2⟩ := hdo2 (fun c h => hP.lt h)
  refine lv_aload_n X.1 X.2.1 dL_law_329 rfl (lv_at hl 2 rfl) ?_
  refine j_arg (k := 1) X hX hbl hbA hS hl rfl (by omega) hL dL_law_330 dL_law_331 dL_law_332 dL_law_333 dL_law_334 ?_
  refine j_arg (k := 2) X hX hbl hbA hS hl rfl (by omega) hL dL_law_335 dL_law_336 dL_law_337 dL_law_338 dL_law_339 ?_
  refine j_arg (k := 3) X hX hbl hbA hS hl rfl (by omega) hL dL_law_340 dL_law_341 dL_law_342 dL_law_343 dL_law_344 ?_
  refine g_run_i (f := f2) (g_runV (k := 14) [.int (xs (i + 1)), .int (xs (i + 2)), .int (xs (i + 3))] X hK hP hS hCs hB hM2 (cwV 3 X.2.2.2.2 gL_law_X12_man rfl rfl rfl (by decide +kernel) ⟨by show fr2 + 1 ≤ 2048; omega, by show 8 + (5 + 11) + lo2 ≤ 84000; omega⟩) hTo rfl rfl hl.1 rfl (Nat.le_of_ble_eq_true rfl) dL_law_345 ⟨by show cells + mc + 0 ≤ 600000; omega, by show slots + ms + 0 ≤ 7302250; omega⟩) hS (fun r2 u2 H locs hq2 hP hS => ?_)
  obtain ⟨hre, hInv⟩ := hpost2 r2 u2 hq2
  refine lv_icmp_eq (tgt := 1021) X.1 X.2.1 dL_law_348 (by decide) (fun c1 => ?_) (fun c1 => ?_)
  · exact W.widen (by omega) (by omega) (kk (f2 u2) H locs hInv hP hS)
  · exact absurd hre.symm c1
set_option maxRecDepth 100000 in
set_option maxHeartbeats 4000000 in
theorem lw_of (X : CallFix p m c cL_law 4 s args wsL_law RL) (hK : va_K D vwCl (gtys cy) s) (hCs : gCst s B s) (hB : B ≤ s.heap.size) (hX : va_X b L xs s s.heap) (hbl : b < s.heap.size) (hbA : ¬ gA B b) (hl : lv_has ls 4 [(0, .ref b), (1, .ref q), (2, .ref (q + 53)), (3, .int (nI i))]) (hi6 : i + 6 ≤ L) (hL : L ≤ 384) (hP : gP D cy B x.1 x.2.1 x.2.2.1 x.2.2.2 H) (hS : va_S (gA B) s.heap H locs) (hTq : x.2.1 q = (21, 0)) (hdo : jDo l s D cy B q yX11_of wsX11_of yX12_of wsX12_of [.int (xs (i + 1)), .int (xs (i + 2))] x Inv) (hr : cells + 8 ≤ 600000 ∧ slots + 138 ≤ 7302250) (kk : ∀ (u : gSt) (H1 : Heap) (l1 : List Loc), Inv u → gP D cy B u.1 u.2.1 u.2.2.1 u.2.2.2 H1 → va_S (gA B) s.heap H1 l1 → W p l e room_1 s m args below meth c H1 l1 (cells + 8) (slots + 138) Q (F0 m 1021 ls [])) : W p l e room_1 s m args below meth c H locs cells slots Q (F0 m 353 ls []) := by
  obtain ⟨mc, ms, hmm, fr, lo, S, f, post, hfl, hM, hpost⟩ := hdo
  refine lv_aload_n X.1 X.2.1 dL_law_353 rfl (lv_at hl 1 rfl) ?_
  refine j_arg (k := 1) X hX hbl hbA hS hl rfl (by omega) hL dL_law_354 dL_law_355 dL_law_356 dL_law_357 dL_law_358 ?_
  refine j_arg (k := 2) X hX hbl hbA hS hl rfl (by omega) hL dL_law_359 dL_law_360 dL_law_361 dL_law_362 dL_law_363 ?_
  refine g_run_i (f := f) (g_runV (k := 13) [.int (xs (i + 1)), .int (xs (i + 2))] X hK hP hS hCs hB hM (cwV 2 X.2.2.2.2 gL_law_X11_of rfl rfl rfl (by decide +kernel) ⟨by show fr + 1 ≤ 2048; omega, by show 8 + (4 + 11) + lo ≤ 84000; omega⟩) hTq rfl rfl hl.1 rfl (Nat.le_of_ble_eq_true rfl) dL_law_364 ⟨by show cells + mc ≤ 600000; omega, by show slots + ms ≤ 7302250; omega⟩) hS (fun r u H locs hq hP hS => ?_)
  obtain ⟨hTo, hdo2⟩ := hpost r u hq
  obtain ⟨fr2, lo2, S2, f2, post2, hfl2, hM2, hpost2⟩ := hdo2 (fun c h => hP.lt h)
  refine lv_aload_n X.1 X.2.1 dL_law_367 rfl (lv_at hl 2 rfl) ?_
  refine j_arg (k := 1) X hX hbl hbA hS hl rfl (by omega) hL dL_law_368 dL_law_369 dL_law_370 dL_law_371 dL_law_372 ?_
  refine j_arg (k := 2) X hX hbl hbA hS hl rfl (by omega) hL dL_law_373 dL_law_374 dL_law_375 dL_law_376 dL_law_377 ?_
  refine g_run_i (f := f2) (g_runV (k := 14) [.int (xs (i + 1)), .int (xs (i + 2))] X hK hP hS hCs hB hM2 (cwV 2 X.2.2.2.2 gL_law_X12_of rfl rfl rfl (by decide +kernel) ⟨by show fr2 + 1 ≤ 2048; omega, by show 8 + (3 + 11) + lo2 ≤ 84000; omega⟩) hTo rfl rfl hl.1 rfl (Nat.le_of_ble_eq_true rfl) dL_law_378 ⟨by show cells + mc + 0 ≤ 600000; omega, by show slots + ms + 0 ≤ 7302250; omega⟩) hS (fun r2 u2 H locs hq2 hP hS => ?_)
  obtain ⟨hre, hInv⟩ := hpost2 r2 u2 hq2
  refine lv_icmp_eq (tgt := 1021) X.1 X.2.1 dL_law_381 (by decide) (fun c1 => ?_) (fun c1 => ?_)
  · exact W.widen (by omega) (by omega) (kk (f2 u2) H locs hInv hP hS)
  · exact absurd hre.symm c1
set_option maxRecDepth 100000 in
set_option maxHeartbeats 4000000 in
theorem lw_round (X : CallFix p m c cL_law 4 s args wsL_law RL) (hK : va_K D vwCl (gtys cy) s) (hCs : gCst s B s) (hB : B ≤ s.heap.size) (hX : va_X b L xs s s.heap) (hbl : b < s.heap.size) (hbA : ¬ gA B b) (hl : lv_has ls 4 [(0, .ref b), (1, .ref q), (2, .ref (q + 53)), (3, .int (nI i))]) (hi6 : i + 6 ≤ L) (hL : L ≤ 384) (hP : gP D cy B x.1 x.2.1 x.2.2.1 x.2.2.2 H) (hS : va_S (gA B) s.heap H locs) (hTq : x.2.1 q = (21, 0)) (hdo : jDo l s D cy B q yX11_round wsX11_round yX12_round wsX12_round [.int (xs (i + 1)), .int (xs (i + 2))] x Inv) (hr : cells + 8 ≤ 600000 ∧ slots + 138 ≤ 7302250) (kk : ∀ (u : gSt) (H1 : Heap) (l1 : List Loc), Inv u → gP D cy B u.1 u.2.1 u.2.2.1 u.2.2.2 H1 → va_S (gA B) s.heap H1 l1 → W p l e room_1 s m args below meth c H1 l1 (cells + 8) (slots + 138) Q (F0 m 1021 ls [])) : W p l e room_1 s m args below meth c H locs cells slots Q (F0 m 386 ls []) := by
  obtain ⟨mc, ms, hmm, fr, lo, S, f, post, hfl, hM, hpost⟩ := hdo
  refine lv_aload_n X.1 X.2.1 dL_law_386 rfl (lv_at hl 1 rfl) ?_
  refine j_arg (k := 1) X hX hbl hbA hS hl rfl (by omega) hL dL_law_387 dL_law_388 dL_law_389 dL_law_390 dL_law_391 ?_
  refine j_arg (k := 2) X hX hbl hbA hS hl rfl (by omega) hL dL_law_392 dL_law_393 dL_law_394 dL_law_395 dL_law_396 ?_
  refine g_run_i (f := f) (g_runV (k := 13) [.int (xs (i + 1)), .int (xs (i + 2))] X hK hP hS hCs hB hM (cwV 2 X.2.2.2.2 gL_law_X11_round rfl rfl rfl (by decide +kernel) ⟨by show fr + 1 ≤ 2048; omega, by show 8 + (5 + 11) + lo ≤ 84000; omega⟩) hTq rfl rfl hl.1 rfl (Nat.le_of_ble_eq_true rfl) dL_law_397 ⟨by show cells + mc ≤ 600000; omega, by show slots + ms ≤ 7302250; omega⟩) hS (fun r u H locs hq hP hS => ?_)
  obtain ⟨hTo, hdo2⟩ := hpost r u hq
  obtain ⟨fr2, lo2, S2, f2, post2, hfl2, hM2, hpost2⟩ := hdo2 (fun c h => hP.lt h)
  refine lv_aload_n X.1 X.2.1 dL_law_400 rfl (lv_at hl 2 rfl) ?_
  refine j_arg (k := 1) X hX hbl hbA hS hl rfl (by omega) hL dL_law_401 dL_law_402 dL_law_403 dL_law_404 dL_law_405 ?_
  refine j_arg (k := 2) X hX hbl hbA hS hl rfl (by omega) hL dL_law_406 dL_law_407 dL_law_408 dL_law_409 dL_law_410 ?_
  refine g_run_i (f := f2) (g_runV (k := 14) [.int (xs (i + 1)), .int (xs (i + 2))] X hK hP hS hCs hB hM2 (cwV 2 X.2.2.2.2 gL_law_X12_round rfl rfl rfl (by decide +kernel) ⟨by show fr2 + 1 ≤ 2048; omega, by show 8 + (3 + 11) + lo2 ≤ 84000; omega⟩) hTo rfl rfl hl.1 rfl (Nat.le_of_ble_eq_true rfl) dL_law_411 ⟨by show cells + mc + 0 ≤ 600000; omega, by show slots + ms + 0 ≤ 7302250; omega⟩) hS (fun r2 u2 H locs hq2 hP hS => ?_)
  obtain ⟨hre, hInv⟩ := hpost2 r2 u2 hq2
  refine lv_icmp_eq (tgt := 1021) X.1 X.2.1 dL_law_414 (by decide) (fun c1 => ?_) (fun c1 => ?_)
  · exact W.widen (by omega) (by omega) (kk (f2 u2) H locs hInv hP hS)
  · exact absurd hre.symm c1
set_option maxRecDepth 100000 in
set_option maxHeartbeats 4000000 in
theorem lw_rest (X : CallFix p m c cL_law 4 s args wsL_law RL) (hK : va_K D vwCl (gtys cy) s) (hCs : gCst s B s) (hB : B ≤ s.heap.size) (hX : va_X b L xs s s.heap) (hbl : b < s.heap.size) (hbA : ¬ gA B b) (hl : lv_has ls 4 [(0, .ref b), (1, .ref q), (2, .ref (q + 53)), (3, .int (nI i))]) (hi6 : i + 6 ≤ L) (hL : L ≤ 384) (hP : gP D cy B x.1 x.2.1 x.2.2.1 x.2.2.2 H) (hS : va_S (gA B) s.heap H locs) (hTq : x.2.1 q = (21, 0)) (hdo : jDo l s D cy B q yX11_rest wsX11_rest yX12_rest wsX12_rest [.int (xs (i + 1)), .int (xs (i + 2))] x Inv) (hr : cells + 8 ≤ 600000 ∧ slots + 138 ≤ 7302250) (kk : ∀ (u : gSt) (H1 : Heap) (l1 : List Loc), Inv u → gP D cy B u.1 u.2.1 u.2.2.1 u.2.2.2 H1 → va_S (gA B) s.heap H1 l1 → W p l e room_1 s m args below meth c H1 l1 (cells + 8) (slots + 138) Q (F0 m 1021 ls [])) : W p l e room_1 s m args below meth c H locs cells slots Q (F0 m 419 ls []) := by
  obtain ⟨mc, ms, hmm, fr, lo, S, f, post, hfl, hM, hpost⟩ := hdo
  refine lv_aload_n X.1 X.2.1 dL_law_419 rfl (lv_at hl 1 rfl) ?_
  refine j_arg (k := 1) X hX hbl hbA hS hl rfl (by omega) hL dL_law_420 dL_law_421 dL_law_422 dL_law_423 dL_law_424 ?_
  refine j_arg (k := 2) X hX hbl hbA hS hl rfl (by omega) hL dL_law_425 dL_law_426 dL_law_427 dL_law_428 dL_law_429 ?_
  refine g_run_i (f := f) (g_runV (k := 13) [.int (xs (i + 1)), .int (xs (i + 2))] X hK hP hS hCs hB hM (cwV 2 X.2.2.2.2 gL_law_X11_rest rfl rfl rfl (by decide +kernel) ⟨by show fr + 1 ≤ 2048; omega, by show 8 + (4 + 11) + lo ≤ 84000; omega⟩) hTq rfl rfl hl.1 rfl (Nat.le_of_ble_eq_true rfl) dL_law_430 ⟨by show cells + mc ≤ 600000; omega, by show slots + ms ≤ 7302250; omega⟩) hS (fun r u H locs hq hP hS => ?_)
  obtain ⟨hTo, hdo2⟩ := hpost r u hq
  obtain ⟨fr2, lo2, S2, f2, post2, hfl2, hM2, hpost2⟩ := hdo2 (fun c h => hP.lt h)
  refine lv_aload_n X.1 X.2.1 dL_law_433 rfl (lv_at hl 2 rfl) ?_
  refine j_arg (k := 1) X hX hbl hbA hS hl rfl (by omega) hL dL_law_434 dL_law_435 dL_law_436 dL_law_437 dL_law_438 ?_
  refine j_arg (k := 2) X hX hbl hbA hS hl rfl (by omega) hL dL_law_439 dL_law_440 dL_law_441 dL_law_442 dL_law_443 ?_
  refine g_run_i (f := f2) (g_runV (k := 14) [.int (xs (i + 1)), .int (xs (i + 2))] X hK hP hS hCs hB hM2 (cwV 2 X.2.2.2.2 gL_law_X12_rest rfl rfl rfl (by decide +kernel) ⟨by show fr2 + 1 ≤ 2048; omega, by show 8 + (3 + 11) + lo2 ≤ 84000; omega⟩) hTo rfl rfl hl.1 rfl (Nat.le_of_ble_eq_true rfl) dL_law_444 ⟨by show cells + mc + 0 ≤ 600000; omega, by show slots + ms + 0 ≤ 7302250; omega⟩) hS (fun r2 u2 H locs hq2 hP hS => ?_)
  obtain ⟨hre, hInv⟩ := hpost2 r2 u2 hq2
  refine lv_icmp_eq (tgt := 1021) X.1 X.2.1 dL_law_447 (by decide) (fun c1 => ?_) (fun c1 => ?_)
  · exact W.widen (by omega) (by omega) (kk (f2 u2) H locs hInv hP hS)
  · exact absurd hre.symm c1
set_option maxRecDepth 100000 in
set_option maxHeartbeats 4000000 in
theorem lw_run (X : CallFix p m c cL_law 4 s args wsL_law RL) (hK : va_K D vwCl (gtys cy) s) (hCs : gCst s B s) (hB : B ≤ s.heap.size) (hX : va_X b L xs s s.heap) (hbl : b < s.heap.size) (hbA : ¬ gA B b) (hl : lv_has ls 4 [(0, .ref b), (1, .ref q), (2, .ref (q + 53)), (3, .int (nI i))]) (hi6 : i + 6 ≤ L) (hL : L ≤ 384) (hP : gP D cy B x.1 x.2.1 x.2.2.1 x.2.2.2 H) (hS : va_S (gA B) s.heap H locs) (hTq : x.2.1 q = (21, 0)) (hdo : jDo l s D cy B q yX11_run wsX11_run yX12_run wsX12_run [.int (xs (i + 1)), .int (xs (i + 2)), .int (xs (i + 3)), .int (xs (i + 4))] x Inv) (hr : cells + 8 ≤ 600000 ∧ slots + 138 ≤ 7302250) (kk : ∀ (u : gSt) (H1 : Heap) (l1 : List Loc), Inv u → gP D cy B u.1 u.2.1 u.2.2.1 u.2.2.2 H1 → va_S (gA B) s.heap H1 l1 → W p l e room_1 s m args below meth c H1 l1 (cells + 8) (slots + 138) Q (F0 m 1021 ls [])) : W p l e room_1 s m args below meth c H locs cells slots Q (F0 m 452 ls []) := by
  obtain ⟨mc, ms, hmm, fr, lo, S, f, post, hfl, hM, hpost⟩ := hdo
  refine lv_aload_n X.1 X.2.1 dL_law_452 rfl (lv_at hl 1 rfl) ?_
  refine j_arg (k := 1) X hX hbl hbA hS hl rfl (by omega) hL dL_law_453 dL_law_454 dL_law_455 dL_law_456 dL_law_457 ?_
  refine j_arg (k := 2) X hX hbl hbA hS hl rfl (by omega) hL dL_law_458 dL_law_459 dL_law_460 dL_law_461 dL_law_462 ?_
  refine j_arg (k := 3) X hX hbl hbA hS hl rfl (by omega) hL dL_law_463 dL_law_464 dL_law_465 dL_law_466 dL_law_467 ?_
  refine j_arg (k := 4) X hX hbl hbA hS hl rfl (by omega) hL dL_law_468 dL_law_469 dL_law_470 dL_law_471 dL_law_472 ?_
  refine g_run_i (f := f) (g_runV (k := 13) [.int (xs (i + 1)), .int (xs (i + 2)), .int (xs (i + 3)), .int (xs (i + 4))] X hK hP hS hCs hB hM (cwV 4 X.2.2.2.2 gL_law_X11_run rfl rfl rfl (by decide +kernel) ⟨by show fr + 1 ≤ 2048; omega, by show 8 + (7 + 11) + lo ≤ 84000; omega⟩) hTq rfl rfl hl.1 rfl (Nat.le_of_ble_eq_true rfl) dL_law_473 ⟨by show cells + mc ≤ 600000; omega, by show slots + ms ≤ 7302250; omega⟩) hS (fun r u H locs hq hP hS => ?_)
  obtain ⟨hTo, hdo2⟩ := hpost r u hq
  obtain ⟨fr2, lo2, S2, f2, post2, hfl2, hM2, hpost2⟩ := hdo2 (fun c h => hP.lt h)
  refine lv_aload_n X.1 X.2.1 dL_law_476 rfl (lv_at hl 2 rfl) ?_
  refine j_arg (k := 1) X hX hbl hbA hS hl rfl (by omega) hL dL_law_477 dL_law_478 dL_law_479 dL_law_480 dL_law_481 ?_
  refine j_arg (k := 2) X hX hbl hbA hS hl rfl (by omega) hL dL_law_482 dL_law_483 dL_law_484 dL_law_485 dL_law_486 ?_
  refine j_arg (k := 3) X hX hbl hbA hS hl rfl (by omega) hL dL_law_487 dL_law_488 dL_law_489 dL_law_490 dL_law_491 ?_
  refine j_arg (k := 4) X hX hbl hbA hS hl rfl (by omega) hL dL_law_492 dL_law_493 dL_law_494 dL_law_495 dL_law_496 ?_
  refine g_run_i (f := f2) (g_runV (k := 14) [.int (xs (i + 1)), .int (xs (i + 2)), .int (xs (i + 3)), .int (xs (i + 4))] X hK hP hS hCs hB hM2 (cwV 4 X.2.2.2.2 gL_law_X12_run rfl rfl rfl (by decide +kernel) ⟨by show fr2 + 1 ≤ 2048; omega, by show 8 + (7 + 11) + lo2 ≤ 84000; omega⟩) hTo rfl rfl hl.1 rfl (Nat.le_of_ble_eq_true rfl) dL_law_497 ⟨by show cells + mc + 0 ≤ 600000; omega, by show slots + ms + 0 ≤ 7302250; omega⟩) hS (fun r2 u2 H locs hq2 hP hS => ?_)
  obtain ⟨hre, hInv⟩ := hpost2 r2 u2 hq2
  refine lv_icmp_eq (tgt := 1021) X.1 X.2.1 dL_law_500 (by decide) (fun c1 => ?_) (fun c1 => ?_)
  · exact W.widen (by omega) (by omega) (kk (f2 u2) H locs hInv hP hS)
  · exact absurd hre.symm c1
set_option maxRecDepth 100000 in
set_option maxHeartbeats 4000000 in
theorem lw_by (X : CallFix p m c cL_law 4 s args wsL_law RL) (hK : va_K D vwCl (gtys cy) s) (hCs : gCst s B s) (hB : B ≤ s.heap.size) (hX : va_X b L xs s s.heap) (hbl : b < s.heap.size) (hbA : ¬ gA B b) (hl : lv_has ls 4 [(0, .ref b), (1, .ref q), (2, .ref (q + 53)), (3, .int (nI i))]) (hi6 : i + 6 ≤ L) (hL : L ≤ 384) (hP : gP D cy B x.1 x.2.1 x.2.2.1 x.2.2.2 H) (hS : va_S (gA B) s.heap H locs) (hTq : x.2.1 q = (21, 0)) (hdo : jDo l s D cy B q yX11_by wsX11_by yX12_by wsX12_by [.int (xs (i + 1)), .int (xs (i + 2)), .int (xs (i + 3))] x Inv) (hr : cells + 8 ≤ 600000 ∧ slots + 138 ≤ 7302250) (kk : ∀ (u : gSt) (H1 : Heap) (l1 : List Loc), Inv u → gP D cy B u.1 u.2.1 u.2.2.1 u.2.2.2 H1 → va_S (gA B) s.heap H1 l1 → W p l e room_1 s m args below meth c H1 l1 (cells + 8) (slots + 138) Q (F0 m 1021 ls [])) : W p l e room_1 s m args below meth c H locs cells slots Q (F0 m 505 ls []) := by
  obtain ⟨mc, ms, hmm, fr, lo, S, f, post, hfl, hM, hpost⟩ := hdo
  refine lv_aload_n X.1 X.2.1 dL_law_505 rfl (lv_at hl 1 rfl) ?_
  refine j_arg (k := 1) X hX hbl hbA hS hl rfl (by omega) hL dL_law_506 dL_law_507 dL_law_508 dL_law_509 dL_law_510 ?_
  refine j_arg (k := 2) X hX hbl hbA hS hl rfl (by omega) hL dL_law_511 dL_law_512 dL_law_513 dL_law_514 dL_law_515 ?_
  refine j_arg (k := 3) X hX hbl hbA hS hl rfl (by omega) hL dL_law_516 dL_law_517 dL_law_518 dL_law_519 dL_law_520 ?_
  refine g_run_i (f := f) (g_runV (k := 13) [.int (xs (i + 1)), .int (xs (i + 2)), .int (xs (i + 3))] X hK hP hS hCs hB hM (cwV 3 X.2.2.2.2 gL_law_X11_by rfl rfl rfl (by decide +kernel) ⟨by show fr + 1 ≤ 2048; omega, by show 8 + (5 + 11) + lo ≤ 84000; omega⟩) hTq rfl rfl hl.1 rfl (Nat.le_of_ble_eq_true rfl) dL_law_521 ⟨by show cells + mc ≤ 600000; omega, by show slots + ms ≤ 7302250; omega⟩) hS (fun r u H locs hq hP hS => ?_)
  obtain ⟨hTo, hdo2⟩ := hpost r u hq
  obtain ⟨fr2, lo2, S2, f2, post2, hfl2, hM2, hpost2⟩ := hdo2 (fun c h => hP.lt h)
  refine lv_aload_n X.1 X.2.1 dL_law_524 rfl (lv_at hl 2 rfl) ?_
  refine j_arg (k := 1) X hX hbl hbA hS hl rfl (by omega) hL dL_law_525 dL_law_526 dL_law_527 dL_law_528 dL_law_529 ?_
  refine j_arg (k := 2) X hX hbl hbA hS hl rfl (by omega) hL dL_law_530 dL_law_531 dL_law_532 dL_law_533 dL_law_534 ?_
  refine j_arg (k := 3) X hX hbl hbA hS hl rfl (by omega) hL dL_law_535 dL_law_536 dL_law_537 dL_law_538 dL_law_539 ?_
  refine g_run_i (f := f2) (g_runV (k := 14) [.int (xs (i + 1)), .int (xs (i + 2)), .int (xs (i + 3))] X hK hP hS hCs hB hM2 (cwV 3 X.2.2.2.2 gL_law_X12_by rfl rfl rfl (by decide +kernel) ⟨by show fr2 + 1 ≤ 2048; omega, by show 8 + (4 + 11) + lo2 ≤ 84000; omega⟩) hTo rfl rfl hl.1 rfl (Nat.le_of_ble_eq_true rfl) dL_law_540 ⟨by show cells + mc + 0 ≤ 600000; omega, by show slots + ms + 0 ≤ 7302250; omega⟩) hS (fun r2 u2 H locs hq2 hP hS => ?_)
  obtain ⟨hre, hInv⟩ := hpost2 r2 u2 hq2
  refine lv_icmp_eq (tgt := 1021) X.1 X.2.1 dL_law_543 (by decide) (fun c1 => ?_) (fun c1 => ?_)
  · exact W.widen (by omega) (by omega) (kk (f2 u2) H locs hInv hP hS)
  · exact absurd hre.symm c1
set_option maxRecDepth 100000 in
set_option maxHeartbeats 4000000 in
theorem lw_full (X : CallFix p m c cL_law 4 s args wsL_law RL) (hK : va_K D vwCl (gtys cy) s) (hCs : gCst s B s) (hB : B ≤ s.heap.size) (hX : va_X b L xs s s.heap) (hbl : b < s.heap.size) (hbA : ¬ gA B b) (hl : lv_has ls 4 [(0, .ref b), (1, .ref q), (2, .ref (q + 53)), (3, .int (nI i))]) (hi6 : i + 6 ≤ L) (hL : L ≤ 384) (hP : gP D cy B x.1 x.2.1 x.2.2.1 x.2.2.2 H) (hS : va_S (gA B) s.heap H locs) (hTq : x.2.1 q = (21, 0)) (hdo : jDo l s D cy B q yX11_full wsX11_full yX12_full wsX12_full [.int (xs (i + 1)), .int (xs (i + 2))] x Inv) (hr : cells + 8 ≤ 600000 ∧ slots + 138 ≤ 7302250) (kk : ∀ (u : gSt) (H1 : Heap) (l1 : List Loc), Inv u → gP D cy B u.1 u.2.1 u.2.2.1 u.2.2.2 H1 → va_S (gA B) s.heap H1 l1 → W p l e room_1 s m args below meth c H1 l1 (cells + 8) (slots + 138) Q (F0 m 1021 ls [])) : W p l e room_1 s m args below meth c H locs cells slots Q (F0 m 548 ls []) := by
  obtain ⟨mc, ms, hmm, fr, lo, S, f, post, hfl, hM, hpost⟩ := hdo
  refine lv_aload_n X.1 X.2.1 dL_law_548 rfl (lv_at hl 1 rfl) ?_
  refine j_arg (k := 1) X hX hbl hbA hS hl rfl (by omega) hL dL_law_549 dL_law_550 dL_law_551 dL_law_552 dL_law_553 ?_
  refine j_arg (k := 2) X hX hbl hbA hS hl rfl (by omega) hL dL_law_554 dL_law_555 dL_law_556 dL_law_557 dL_law_558 ?_
  refine g_run_i (f := f) (g_runV (k := 13) [.int (xs (i + 1)), .int (xs (i + 2))] X hK hP hS hCs hB hM (cwV 2 X.2.2.2.2 gL_law_X11_full rfl rfl rfl (by decide +kernel) ⟨by show fr + 1 ≤ 2048; omega, by show 8 + (8 + 11) + lo ≤ 84000; omega⟩) hTq rfl rfl hl.1 rfl (Nat.le_of_ble_eq_true rfl) dL_law_559 ⟨by show cells + mc ≤ 600000; omega, by show slots + ms ≤ 7302250; omega⟩) hS (fun r u H locs hq hP hS => ?_)
  obtain ⟨hTo, hdo2⟩ := hpost r u hq
  obtain ⟨fr2, lo2, S2, f2, post2, hfl2, hM2, hpost2⟩ := hdo2 (fun c h => hP.lt h)
  refine lv_aload_n X.1 X.2.1 dL_law_562 rfl (lv_at hl 2 rfl) ?_
  refine j_arg (k := 1) X hX hbl hbA hS hl rfl (by omega) hL dL_law_563 dL_law_564 dL_law_565 dL_law_566 dL_law_567 ?_
  refine j_arg (k := 2) X hX hbl hbA hS hl rfl (by omega) hL dL_law_568 dL_law_569 dL_law_570 dL_law_571 dL_law_572 ?_
  refine g_run_i (f := f2) (g_runV (k := 14) [.int (xs (i + 1)), .int (xs (i + 2))] X hK hP hS hCs hB hM2 (cwV 2 X.2.2.2.2 gL_law_X12_full rfl rfl rfl (by decide +kernel) ⟨by show fr2 + 1 ≤ 2048; omega, by show 8 + (7 + 11) + lo2 ≤ 84000; omega⟩) hTo rfl rfl hl.1 rfl (Nat.le_of_ble_eq_true rfl) dL_law_573 ⟨by show cells + mc + 0 ≤ 600000; omega, by show slots + ms + 0 ≤ 7302250; omega⟩) hS (fun r2 u2 H locs hq2 hP hS => ?_)
  obtain ⟨hre, hInv⟩ := hpost2 r2 u2 hq2
  refine lv_icmp_eq (tgt := 1021) X.1 X.2.1 dL_law_576 (by decide) (fun c1 => ?_) (fun c1 => ?_)
  · exact W.widen (by omega) (by omega) (kk (f2 u2) H locs hInv hP hS)
  · exact absurd hre.symm c1
set_option maxRecDepth 100000 in
set_option maxHeartbeats 4000000 in
theorem lw_boards (X : CallFix p m c cL_law 4 s args wsL_law RL) (hK : va_K D vwCl (gtys cy) s) (hCs : gCst s B s) (hB : B ≤ s.heap.size) (hX : va_X b L xs s s.heap) (hbl : b < s.heap.size) (hbA : ¬ gA B b) (hl : lv_has ls 4 [(0, .ref b), (1, .ref q), (2, .ref (q + 53)), (3, .int (nI i))]) (hi6 : i + 6 ≤ L) (hL : L ≤ 384) (hP : gP D cy B x.1 x.2.1 x.2.2.1 x.2.2.2 H) (hS : va_S (gA B) s.heap H locs) (hTq : x.2.1 q = (21, 0)) (hdo : jDo l s D cy B q yX11_boards wsX11_boards yX12_boards wsX12_boards [.int (xs (i + 1)), .int (xs (i + 2)), .int (xs (i + 3)), .int (xs (i + 4)), .int (xs (i + 5))] x Inv) (hr : cells + 8 ≤ 600000 ∧ slots + 138 ≤ 7302250) (kk : ∀ (u : gSt) (H1 : Heap) (l1 : List Loc), Inv u → gP D cy B u.1 u.2.1 u.2.2.1 u.2.2.2 H1 → va_S (gA B) s.heap H1 l1 → W p l e room_1 s m args below meth c H1 l1 (cells + 8) (slots + 138) Q (F0 m 1021 ls [])) : W p l e room_1 s m args below meth c H locs cells slots Q (F0 m 581 ls []) := by
  obtain ⟨mc, ms, hmm, fr, lo, S, f, post, hfl, hM, hpost⟩ := hdo
  refine lv_aload_n X.1 X.2.1 dL_law_581 rfl (lv_at hl 1 rfl) ?_
  refine j_arg (k := 1) X hX hbl hbA hS hl rfl (by omega) hL dL_law_582 dL_law_583 dL_law_584 dL_law_585 dL_law_586 ?_
  refine j_arg (k := 2) X hX hbl hbA hS hl rfl (by omega) hL dL_law_587 dL_law_588 dL_law_589 dL_law_590 dL_law_591 ?_
  refine j_arg (k := 3) X hX hbl hbA hS hl rfl (by omega) hL dL_law_592 dL_law_593 dL_law_594 dL_law_595 dL_law_596 ?_
  refine j_arg (k := 4) X hX hbl hbA hS hl rfl (by omega) hL dL_law_597 dL_law_598 dL_law_599 dL_law_600 dL_law_601 ?_
  refine j_arg (k := 5) X hX hbl hbA hS hl rfl (by omega) hL dL_law_602 dL_law_603 dL_law_604 dL_law_605 dL_law_606 ?_
  refine g_run_i (f := f) (g_runV (k := 13) [.int (xs (i + 1)), .int (xs (i + 2)), .int (xs (i + 3)), .int (xs (i + 4)), .int (xs (i + 5))] X hK hP hS hCs hB hM (cwV 5 X.2.2.2.2 gL_law_X11_boards rfl rfl rfl (by decide +kernel) ⟨by show fr + 1 ≤ 2048; omega, by show 8 + (12 + 11) + lo ≤ 84000; omega⟩) hTq rfl rfl hl.1 rfl (Nat.le_of_ble_eq_true rfl) dL_law_607 ⟨by show cells + mc ≤ 600000; omega, by show slots + ms ≤ 7302250; omega⟩) hS (fun r u H locs hq hP hS => ?_)
  obtain ⟨hTo, hdo2⟩ := hpost r u hq
  obtain ⟨fr2, lo2, S2, f2, post2, hfl2, hM2, hpost2⟩ := hdo2 (fun c h => hP.lt h)
  refine lv_aload_n X.1 X.2.1 dL_law_610 rfl (lv_at hl 2 rfl) ?_
  refine j_arg (k := 1) X hX hbl hbA hS hl rfl (by omega) hL dL_law_611 dL_law_612 dL_law_613 dL_law_614 dL_law_615 ?_
  refine j_arg (k := 2) X hX hbl hbA hS hl rfl (by omega) hL dL_law_616 dL_law_617 dL_law_618 dL_law_619 dL_law_620 ?_
  refine j_arg (k := 3) X hX hbl hbA hS hl rfl (by omega) hL dL_law_621 dL_law_622 dL_law_623 dL_law_624 dL_law_625 ?_
  refine j_arg (k := 4) X hX hbl hbA hS hl rfl (by omega) hL dL_law_626 dL_law_627 dL_law_628 dL_law_629 dL_law_630 ?_
  refine j_arg (k := 5) X hX hbl hbA hS hl rfl (by omega) hL dL_law_631 dL_law_632 dL_law_633 dL_law_634 dL_law_635 ?_
  refine g_run_i (f := f2) (g_runV (k := 14) [.int (xs (i + 1)), .int (xs (i + 2)), .int (xs (i + 3)), .int (xs (i + 4)), .int (xs (i + 5))] X hK hP hS hCs hB hM2 (cwV 5 X.2.2.2.2 gL_law_X12_boards rfl rfl rfl (by decide +kernel) ⟨by show fr2 + 1 ≤ 2048; omega, by show 8 + (12 + 11) + lo2 ≤ 84000; omega⟩) hTo rfl rfl hl.1 rfl (Nat.le_of_ble_eq_true rfl) dL_law_636 ⟨by show cells + mc + 0 ≤ 600000; omega, by show slots + ms + 0 ≤ 7302250; omega⟩) hS (fun r2 u2 H locs hq2 hP hS => ?_)
  obtain ⟨hre, hInv⟩ := hpost2 r2 u2 hq2
  refine lv_icmp_eq (tgt := 1021) X.1 X.2.1 dL_law_639 (by decide) (fun c1 => ?_) (fun c1 => ?_)
  · exact W.widen (by omega) (by omega) (kk (f2 u2) H locs hInv hP hS)
  · exact absurd hre.symm c1
set_option maxRecDepth 100000 in
set_option maxHeartbeats 4000000 in
theorem lw_turns (X : CallFix p m c cL_law 4 s args wsL_law RL) (hK : va_K D vwCl (gtys cy) s) (hCs : gCst s B s) (hB : B ≤ s.heap.size) (hX : va_X b L xs s s.heap) (hbl : b < s.heap.size) (hbA : ¬ gA B b) (hl : lv_has ls 4 [(0, .ref b), (1, .ref q), (2, .ref (q + 53)), (3, .int (nI i))]) (hi6 : i + 6 ≤ L) (hL : L ≤ 384) (hP : gP D cy B x.1 x.2.1 x.2.2.1 x.2.2.2 H) (hS : va_S (gA B) s.heap H locs) (hTq : x.2.1 q = (21, 0)) (hdo : jDo l s D cy B q yX11_turns wsX11_turns yX12_turns wsX12_turns [.int (xs (i + 1)), .int (xs (i + 2)), .int (xs (i + 3)), .int (xs (i + 4))] x Inv) (hr : cells + 8 ≤ 600000 ∧ slots + 138 ≤ 7302250) (kk : ∀ (u : gSt) (H1 : Heap) (l1 : List Loc), Inv u → gP D cy B u.1 u.2.1 u.2.2.1 u.2.2.2 H1 → va_S (gA B) s.heap H1 l1 → W p l e room_1 s m args below meth c H1 l1 (cells + 8) (slots + 138) Q (F0 m 1021 ls [])) : W p l e room_1 s m args below meth c H locs cells slots Q (F0 m 644 ls []) := by
  obtain ⟨mc, ms, hmm, fr, lo, S, f, post, hfl, hM, hpost⟩ := hdo
  refine lv_aload_n X.1 X.2.1 dL_law_644 rfl (lv_at hl 1 rfl) ?_
  refine j_arg (k := 1) X hX hbl hbA hS hl rfl (by omega) hL dL_law_645 dL_law_646 dL_law_647 dL_law_648 dL_law_649 ?_
  refine j_arg (k := 2) X hX hbl hbA hS hl rfl (by omega) hL dL_law_650 dL_law_651 dL_law_652 dL_law_653 dL_law_654 ?_
  refine j_arg (k := 3) X hX hbl hbA hS hl rfl (by omega) hL dL_law_655 dL_law_656 dL_law_657 dL_law_658 dL_law_659 ?_
  refine j_arg (k := 4) X hX hbl hbA hS hl rfl (by omega) hL dL_law_660 dL_law_661 dL_law_662 dL_law_663 dL_law_664 ?_
  refine g_run_i (f := f) (g_runV (k := 13) [.int (xs (i + 1)), .int (xs (i + 2)), .int (xs (i + 3)), .int (xs (i + 4))] X hK hP hS hCs hB hM (cwV 4 X.2.2.2.2 gL_law_X11_turns rfl rfl rfl (by decide +kernel) ⟨by show fr + 1 ≤ 2048; omega, by show 8 + (15 + 11) + lo ≤ 84000; omega⟩) hTq rfl rfl hl.1 rfl (Nat.le_of_ble_eq_true rfl) dL_law_665 ⟨by show cells + mc ≤ 600000; omega, by show slots + ms ≤ 7302250; omega⟩) hS (fun r u H locs hq hP hS => ?_)
  obtain ⟨hTo, hdo2⟩ := hpost r u hq
  obtain ⟨fr2, lo2, S2, f2, post2, hfl2, hM2, hpost2⟩ := hdo2 (fun c h => hP.lt h)
  refine lv_aload_n X.1 X.2.1 dL_law_668 rfl (lv_at hl 2 rfl) ?_
  refine j_arg (k := 1) X hX hbl hbA hS hl rfl (by omega) hL dL_law_669 dL_law_670 dL_law_671 dL_law_672 dL_law_673 ?_
  refine j_arg (k := 2) X hX hbl hbA hS hl rfl (by omega) hL dL_law_674 dL_law_675 dL_law_676 dL_law_677 dL_law_678 ?_
  refine j_arg (k := 3) X hX hbl hbA hS hl rfl (by omega) hL dL_law_679 dL_law_680 dL_law_681 dL_law_682 dL_law_683 ?_
  refine j_arg (k := 4) X hX hbl hbA hS hl rfl (by omega) hL dL_law_684 dL_law_685 dL_law_686 dL_law_687 dL_law_688 ?_
  refine g_run_i (f := f2) (g_runV (k := 14) [.int (xs (i + 1)), .int (xs (i + 2)), .int (xs (i + 3)), .int (xs (i + 4))] X hK hP hS hCs hB hM2 (cwV 4 X.2.2.2.2 gL_law_X12_turns rfl rfl rfl (by decide +kernel) ⟨by show fr2 + 1 ≤ 2048; omega, by show 8 + (9 + 11) + lo2 ≤ 84000; omega⟩) hTo rfl rfl hl.1 rfl (Nat.le_of_ble_eq_true rfl) dL_law_689 ⟨by show cells + mc + 0 ≤ 600000; omega, by show slots + ms + 0 ≤ 7302250; omega⟩) hS (fun r2 u2 H locs hq2 hP hS => ?_)
  obtain ⟨hre, hInv⟩ := hpost2 r2 u2 hq2
  refine lv_icmp_eq (tgt := 1021) X.1 X.2.1 dL_law_692 (by decide) (fun c1 => ?_) (fun c1 => ?_)
  · exact W.widen (by omega) (by omega) (kk (f2 u2) H locs hInv hP hS)
  · exact absurd hre.symm c1
set_option maxRecDepth 100000 in
set_option maxHeartbeats 4000000 in
theorem lw_worth (X : CallFix p m c cL_law 4 s args wsL_law RL) (hK : va_K D vwCl (gtys cy) s) (hCs : gCst s B s) (hB : B ≤ s.heap.size) (hX : va_X b L xs s s.heap) (hbl : b < s.heap.size) (hbA : ¬ gA B b) (hl : lv_has ls 4 [(0, .ref b), (1, .ref q), (2, .ref (q + 53)), (3, .int (nI i))]) (hi6 : i + 6 ≤ L) (hL : L ≤ 384) (hP : gP D cy B x.1 x.2.1 x.2.2.1 x.2.2.2 H) (hS : va_S (gA B) s.heap H locs) (hTq : x.2.1 q = (21, 0)) (hdo : jDo l s D cy B q yX11_worth wsX11_worth yX12_worth wsX12_worth [.int (xs (i + 1)), .int (xs (i + 2))] x Inv) (hr : cells + 8 ≤ 600000 ∧ slots + 138 ≤ 7302250) (kk : ∀ (u : gSt) (H1 : Heap) (l1 : List Loc), Inv u → gP D cy B u.1 u.2.1 u.2.2.1 u.2.2.2 H1 → va_S (gA B) s.heap H1 l1 → W p l e room_1 s m args below meth c H1 l1 (cells + 8) (slots + 138) Q (F0 m 1021 ls [])) : W p l e room_1 s m args below meth c H locs cells slots Q (F0 m 697 ls []) := by
  obtain ⟨mc, ms, hmm, fr, lo, S, f, post, hfl, hM, hpost⟩ := hdo
  refine lv_aload_n X.1 X.2.1 dL_law_697 rfl (lv_at hl 1 rfl) ?_
  refine j_arg (k := 1) X hX hbl hbA hS hl rfl (by omega) hL dL_law_698 dL_law_699 dL_law_700 dL_law_701 dL_law_702 ?_
  refine j_arg (k := 2) X hX hbl hbA hS hl rfl (by omega) hL dL_law_703 dL_law_704 dL_law_705 dL_law_706 dL_law_707 ?_
  refine g_run_i (f := f) (g_runV (k := 13) [.int (xs (i + 1)), .int (xs (i + 2))] X hK hP hS hCs hB hM (cwV 2 X.2.2.2.2 gL_law_X11_worth rfl rfl rfl (by decide +kernel) ⟨by show fr + 1 ≤ 2048; omega, by show 8 + (3 + 11) + lo ≤ 84000; omega⟩) hTq rfl rfl hl.1 rfl (Nat.le_of_ble_eq_true rfl) dL_law_708 ⟨by show cells + mc ≤ 600000; omega, by show slots + ms ≤ 7302250; omega⟩) hS (fun r u H locs hq hP hS => ?_)
  obtain ⟨hTo, hdo2⟩ := hpost r u hq
  obtain ⟨fr2, lo2, S2, f2, post2, hfl2, hM2, hpost2⟩ := hdo2 (fun c h => hP.lt h)
  refine lv_aload_n X.1 X.2.1 dL_law_711 rfl (lv_at hl 2 rfl) ?_
  refine j_arg (k := 1) X hX hbl hbA hS hl rfl (by omega) hL dL_law_712 dL_law_713 dL_law_714 dL_law_715 dL_law_716 ?_
  refine j_arg (k := 2) X hX hbl hbA hS hl rfl (by omega) hL dL_law_717 dL_law_718 dL_law_719 dL_law_720 dL_law_721 ?_
  refine g_run_i (f := f2) (g_runV (k := 14) [.int (xs (i + 1)), .int (xs (i + 2))] X hK hP hS hCs hB hM2 (cwV 2 X.2.2.2.2 gL_law_X12_worth rfl rfl rfl (by decide +kernel) ⟨by show fr2 + 1 ≤ 2048; omega, by show 8 + (3 + 11) + lo2 ≤ 84000; omega⟩) hTo rfl rfl hl.1 rfl (Nat.le_of_ble_eq_true rfl) dL_law_722 ⟨by show cells + mc + 0 ≤ 600000; omega, by show slots + ms + 0 ≤ 7302250; omega⟩) hS (fun r2 u2 H locs hq2 hP hS => ?_)
  obtain ⟨hre, hInv⟩ := hpost2 r2 u2 hq2
  refine lv_icmp_eq (tgt := 1021) X.1 X.2.1 dL_law_725 (by decide) (fun c1 => ?_) (fun c1 => ?_)
  · exact W.widen (by omega) (by omega) (kk (f2 u2) H locs hInv hP hS)
  · exact absurd hre.symm c1
set_option maxRecDepth 100000 in
set_option maxHeartbeats 4000000 in
theorem lw_pave (X : CallFix p m c cL_law 4 s args wsL_law RL) (hK : va_K D vwCl (gtys cy) s) (hCs : gCst s B s) (hB : B ≤ s.heap.size) (hX : va_X b L xs s s.heap) (hbl : b < s.heap.size) (hbA : ¬ gA B b) (hl : lv_has ls 4 [(0, .ref b), (1, .ref q), (2, .ref (q + 53)), (3, .int (nI i))]) (hi6 : i + 6 ≤ L) (hL : L ≤ 384) (hP : gP D cy B x.1 x.2.1 x.2.2.1 x.2.2.2 H) (hS : va_S (gA B) s.heap H locs) (hTq : x.2.1 q = (21, 0)) (hdo : jDo l s D cy B q yX11_pave wsX11_pave yX12_pave wsX12_pave [.int (xs (i + 1)), .int (xs (i + 2))] x Inv) (hr : cells + 8 ≤ 600000 ∧ slots + 138 ≤ 7302250) (kk : ∀ (u : gSt) (H1 : Heap) (l1 : List Loc), Inv u → gP D cy B u.1 u.2.1 u.2.2.1 u.2.2.2 H1 → va_S (gA B) s.heap H1 l1 → W p l e room_1 s m args below meth c H1 l1 (cells + 8) (slots + 138) Q (F0 m 1021 ls [])) : W p l e room_1 s m args below meth c H locs cells slots Q (F0 m 730 ls []) := by
  obtain ⟨mc, ms, hmm, fr, lo, S, f, post, hfl, hM, hpost⟩ := hdo
  refine lv_aload_n X.1 X.2.1 dL_law_730 rfl (lv_at hl 1 rfl) ?_
  refine j_arg (k := 1) X hX hbl hbA hS hl rfl (by omega) hL dL_law_731 dL_law_732 dL_law_733 dL_law_734 dL_law_735 ?_
  refine j_arg (k := 2) X hX hbl hbA hS hl rfl (by omega) hL dL_law_736 dL_law_737 dL_law_738 dL_law_739 dL_law_740 ?_
  refine g_run_i (f := f) (g_runV (k := 13) [.int (xs (i + 1)), .int (xs (i + 2))] X hK hP hS hCs hB hM (cwV 2 X.2.2.2.2 gL_law_X11_pave rfl rfl rfl (by decide +kernel) ⟨by show fr + 1 ≤ 2048; omega, by show 8 + (10 + 11) + lo ≤ 84000; omega⟩) hTq rfl rfl hl.1 rfl (Nat.le_of_ble_eq_true rfl) dL_law_741 ⟨by show cells + mc ≤ 600000; omega, by show slots + ms ≤ 7302250; omega⟩) hS (fun r u H locs hq hP hS => ?_)
  obtain ⟨hTo, hdo2⟩ := hpost r u hq
  obtain ⟨fr2, lo2, S2, f2, post2, hfl2, hM2, hpost2⟩ := hdo2 (fun c h => hP.lt h)
  refine lv_aload_n X.1 X.2.1 dL_law_744 rfl (lv_at hl 2 rfl) ?_
  refine j_arg (k := 1) X hX hbl hbA hS hl rfl (by omega) hL dL_law_745 dL_law_746 dL_law_747 dL_law_748 dL_law_749 ?_
  refine j_arg (k := 2) X hX hbl hbA hS hl rfl (by omega) hL dL_law_750 dL_law_751 dL_law_752 dL_law_753 dL_law_754 ?_
  refine g_run_i (f := f2) (g_runV (k := 14) [.int (xs (i + 1)), .int (xs (i + 2))] X hK hP hS hCs hB hM2 (cwV 2 X.2.2.2.2 gL_law_X12_pave rfl rfl rfl (by decide +kernel) ⟨by show fr2 + 1 ≤ 2048; omega, by show 8 + (10 + 11) + lo2 ≤ 84000; omega⟩) hTo rfl rfl hl.1 rfl (Nat.le_of_ble_eq_true rfl) dL_law_755 ⟨by show cells + mc + 0 ≤ 600000; omega, by show slots + ms + 0 ≤ 7302250; omega⟩) hS (fun r2 u2 H locs hq2 hP hS => ?_)
  obtain ⟨hre, hInv⟩ := hpost2 r2 u2 hq2
  refine lv_icmp_eq (tgt := 1021) X.1 X.2.1 dL_law_758 (by decide) (fun c1 => ?_) (fun c1 => ?_)
  · exact W.widen (by omega) (by omega) (kk (f2 u2) H locs hInv hP hS)
  · exact absurd hre.symm c1
set_option maxRecDepth 100000 in
set_option maxHeartbeats 4000000 in
theorem lw_odds (X : CallFix p m c cL_law 4 s args wsL_law RL) (hK : va_K D vwCl (gtys cy) s) (hCs : gCst s B s) (hB : B ≤ s.heap.size) (hX : va_X b L xs s s.heap) (hbl : b < s.heap.size) (hbA : ¬ gA B b) (hl : lv_has ls 4 [(0, .ref b), (1, .ref q), (2, .ref (q + 53)), (3, .int (nI i))]) (hi6 : i + 6 ≤ L) (hL : L ≤ 384) (hP : gP D cy B x.1 x.2.1 x.2.2.1 x.2.2.2 H) (hS : va_S (gA B) s.heap H locs) (hTq : x.2.1 q = (21, 0)) (hdo : jDol l s D cy B q yX11_odds wsX11_odds yX12_odds wsX12_odds [.int (xs (i + 1)), .int (xs (i + 2)), .int (xs (i + 3)), .int (xs (i + 4))] x Inv) (hr : cells + 8 ≤ 600000 ∧ slots + 138 ≤ 7302250) (kk : ∀ (u : gSt) (H1 : Heap) (l1 : List Loc), Inv u → gP D cy B u.1 u.2.1 u.2.2.1 u.2.2.2 H1 → va_S (gA B) s.heap H1 l1 → W p l e room_1 s m args below meth c H1 l1 (cells + 8) (slots + 138) Q (F0 m 1021 ls [])) : W p l e room_1 s m args below meth c H locs cells slots Q (F0 m 763 ls []) := by
  obtain ⟨mc, ms, hmm, fr, lo, S, f, post, hfl, hM, hpost⟩ := hdo
  refine lv_aload_n X.1 X.2.1 dL_law_763 rfl (lv_at hl 1 rfl) ?_
  refine j_arg (k := 1) X hX hbl hbA hS hl rfl (by omega) hL dL_law_764 dL_law_765 dL_law_766 dL_law_767 dL_law_768 ?_
  refine j_arg (k := 2) X hX hbl hbA hS hl rfl (by omega) hL dL_law_769 dL_law_770 dL_law_771 dL_law_772 dL_law_773 ?_
  refine j_arg (k := 3) X hX hbl hbA hS hl rfl (by omega) hL dL_law_774 dL_law_775 dL_law_776 dL_law_777 dL_law_778 ?_
  refine j_arg (k := 4) X hX hbl hbA hS hl rfl (by omega) hL dL_law_779 dL_law_780 dL_law_781 dL_law_782 dL_law_783 ?_
  refine g_run_l (f := f) (g_runV (k := 13) [.int (xs (i + 1)), .int (xs (i + 2)), .int (xs (i + 3)), .int (xs (i + 4))] X hK hP hS hCs hB hM (cwV 4 X.2.2.2.2 gL_law_X11_odds rfl rfl rfl (by decide +kernel) ⟨by show fr + 1 ≤ 2048; omega, by show 8 + (12 + 11) + lo ≤ 84000; omega⟩) hTq rfl rfl hl.1 rfl (Nat.le_of_ble_eq_true rfl) dL_law_784 ⟨by show cells + mc ≤ 600000; omega, by show slots + ms ≤ 7302250; omega⟩) hS (fun r u H locs hq hP hS => ?_)
  obtain ⟨hTo, hdo2⟩ := hpost r u hq
  obtain ⟨fr2, lo2, S2, f2, post2, hfl2, hM2, hpost2⟩ := hdo2 (fun c h => hP.lt h)
  refine lv_aload_n X.1 X.2.1 dL_law_787 rfl (lv_at hl 2 rfl) ?_
  refine j_arg (k := 1) X hX hbl hbA hS hl rfl (by omega) hL dL_law_788 dL_law_789 dL_law_790 dL_law_791 dL_law_792 ?_
  refine j_arg (k := 2) X hX hbl hbA hS hl rfl (by omega) hL dL_law_793 dL_law_794 dL_law_795 dL_law_796 dL_law_797 ?_
  refine j_arg (k := 3) X hX hbl hbA hS hl rfl (by omega) hL dL_law_798 dL_law_799 dL_law_800 dL_law_801 dL_law_802 ?_
  refine j_arg (k := 4) X hX hbl hbA hS hl rfl (by omega) hL dL_law_803 dL_law_804 dL_law_805 dL_law_806 dL_law_807 ?_
  refine g_run_l (f := f2) (g_runV (k := 14) [.int (xs (i + 1)), .int (xs (i + 2)), .int (xs (i + 3)), .int (xs (i + 4))] X hK hP hS hCs hB hM2 (cwV 4 X.2.2.2.2 gL_law_X12_odds rfl rfl rfl (by decide +kernel) ⟨by show fr2 + 1 ≤ 2048; omega, by show 8 + (12 + 11) + lo2 ≤ 84000; omega⟩) hTo rfl rfl hl.1 rfl (Nat.le_of_ble_eq_true rfl) dL_law_808 ⟨by show cells + mc + 0 ≤ 600000; omega, by show slots + ms + 0 ≤ 7302250; omega⟩) hS (fun r2 u2 H locs hq2 hP hS => ?_)
  obtain ⟨hre, hInv⟩ := hpost2 r2 u2 hq2
  refine W.lcmp X.1 X.2.1 dL_law_811 ?_
  refine lv_if_eq (tgt := 1021) X.1 X.2.1 dL_law_812 (by decide) (fun c1 => ?_) (fun c1 => ?_)
  · exact W.widen (by omega) (by omega) (kk (f2 u2) H locs hInv hP hS)
  · exact absurd (by rw [hre]; simp [lg_cmp]) c1
set_option maxRecDepth 100000 in
set_option maxHeartbeats 4000000 in
theorem lw_book (X : CallFix p m c cL_law 4 s args wsL_law RL) (hK : va_K D vwCl (gtys cy) s) (hCs : gCst s B s) (hB : B ≤ s.heap.size) (hX : va_X b L xs s s.heap) (hbl : b < s.heap.size) (hbA : ¬ gA B b) (hl : lv_has ls 4 [(0, .ref b), (1, .ref q), (2, .ref (q + 53)), (3, .int (nI i))]) (hi6 : i + 6 ≤ L) (hL : L ≤ 384) (hP : gP D cy B x.1 x.2.1 x.2.2.1 x.2.2.2 H) (hS : va_S (gA B) s.heap H locs) (hTq : x.2.1 q = (21, 0)) (hdo : jDo l s D cy B q yX11_book wsX11_book yX12_book wsX12_book [.int (xs (i + 1))] x Inv) (hr : cells + 8 ≤ 600000 ∧ slots + 138 ≤ 7302250) (kk : ∀ (u : gSt) (H1 : Heap) (l1 : List Loc), Inv u → gP D cy B u.1 u.2.1 u.2.2.1 u.2.2.2 H1 → va_S (gA B) s.heap H1 l1 → W p l e room_1 s m args below meth c H1 l1 (cells + 8) (slots + 138) Q (F0 m 1021 ls [])) : W p l e room_1 s m args below meth c H locs cells slots Q (F0 m 817 ls []) := by
  obtain ⟨mc, ms, hmm, fr, lo, S, f, post, hfl, hM, hpost⟩ := hdo
  refine lv_aload_n X.1 X.2.1 dL_law_817 rfl (lv_at hl 1 rfl) ?_
  refine j_arg (k := 1) X hX hbl hbA hS hl rfl (by omega) hL dL_law_818 dL_law_819 dL_law_820 dL_law_821 dL_law_822 ?_
  refine g_run_i (f := f) (g_runV (k := 13) [.int (xs (i + 1))] X hK hP hS hCs hB hM (cwV 1 X.2.2.2.2 gL_law_X11_book rfl rfl rfl (by decide +kernel) ⟨by show fr + 1 ≤ 2048; omega, by show 8 + (2 + 11) + lo ≤ 84000; omega⟩) hTq rfl rfl hl.1 rfl (Nat.le_of_ble_eq_true rfl) dL_law_823 ⟨by show cells + mc ≤ 600000; omega, by show slots + ms ≤ 7302250; omega⟩) hS (fun r u H locs hq hP hS => ?_)
  obtain ⟨hTo, hdo2⟩ := hpost r u hq
  obtain ⟨fr2, lo2, S2, f2, post2, hfl2, hM2, hpost2⟩ := hdo2 (fun c h => hP.lt h)
  refine lv_aload_n X.1 X.2.1 dL_law_826 rfl (lv_at hl 2 rfl) ?_
  refine j_arg (k := 1) X hX hbl hbA hS hl rfl (by omega) hL dL_law_827 dL_law_828 dL_law_829 dL_law_830 dL_law_831 ?_
  refine g_run_i (f := f2) (g_runV (k := 14) [.int (xs (i + 1))] X hK hP hS hCs hB hM2 (cwV 1 X.2.2.2.2 gL_law_X12_book rfl rfl rfl (by decide +kernel) ⟨by show fr2 + 1 ≤ 2048; omega, by show 8 + (2 + 11) + lo2 ≤ 84000; omega⟩) hTo rfl rfl hl.1 rfl (Nat.le_of_ble_eq_true rfl) dL_law_832 ⟨by show cells + mc + 0 ≤ 600000; omega, by show slots + ms + 0 ≤ 7302250; omega⟩) hS (fun r2 u2 H locs hq2 hP hS => ?_)
  obtain ⟨hre, hInv⟩ := hpost2 r2 u2 hq2
  refine lv_icmp_eq (tgt := 1021) X.1 X.2.1 dL_law_835 (by decide) (fun c1 => ?_) (fun c1 => ?_)
  · exact W.widen (by omega) (by omega) (kk (f2 u2) H locs hInv hP hS)
  · exact absurd hre.symm c1
set_option maxRecDepth 100000 in
set_option maxHeartbeats 4000000 in
theorem lw_looked (X : CallFix p m c cL_law 4 s args wsL_law RL) (hK : va_K D vwCl (gtys cy) s) (hCs : gCst s B s) (hB : B ≤ s.heap.size) (hX : va_X b L xs s s.heap) (hbl : b < s.heap.size) (hbA : ¬ gA B b) (hl : lv_has ls 4 [(0, .ref b), (1, .ref q), (2, .ref (q + 53)), (3, .int (nI i))]) (hi6 : i + 6 ≤ L) (hL : L ≤ 384) (hP : gP D cy B x.1 x.2.1 x.2.2.1 x.2.2.2 H) (hS : va_S (gA B) s.heap H locs) (hTq : x.2.1 q = (21, 0)) (hdo : jDo l s D cy B q yX11_looked wsX11_looked yX12_looked wsX12_looked [.int (xs (i + 1)), .int (xs (i + 2))] x Inv) (hr : cells + 8 ≤ 600000 ∧ slots + 138 ≤ 7302250) (kk : ∀ (u : gSt) (H1 : Heap) (l1 : List Loc), Inv u → gP D cy B u.1 u.2.1 u.2.2.1 u.2.2.2 H1 → va_S (gA B) s.heap H1 l1 → W p l e room_1 s m args below meth c H1 l1 (cells + 8) (slots + 138) Q (F0 m 1021 ls [])) : W p l e room_1 s m args below meth c H locs cells slots Q (F0 m 840 ls []) := by
  obtain ⟨mc, ms, hmm, fr, lo, S, f, post, hfl, hM, hpost⟩ := hdo
  refine lv_aload_n X.1 X.2.1 dL_law_840 rfl (lv_at hl 1 rfl) ?_
  refine j_arg (k := 1) X hX hbl hbA hS hl rfl (by omega) hL dL_law_841 dL_law_842 dL_law_843 dL_law_844 dL_law_845 ?_
  refine j_arg (k := 2) X hX hbl hbA hS hl rfl (by omega) hL dL_law_846 dL_law_847 dL_law_848 dL_law_849 dL_law_850 ?_
  refine g_run_i (f := f) (g_runV (k := 13) [.int (xs (i + 1)), .int (xs (i + 2))] X hK hP hS hCs hB hM (cwV 2 X.2.2.2.2 gL_law_X11_looked rfl rfl rfl (by decide +kernel) ⟨by show fr + 1 ≤ 2048; omega, by show 8 + (6 + 11) + lo ≤ 84000; omega⟩) hTq rfl rfl hl.1 rfl (Nat.le_of_ble_eq_true rfl) dL_law_851 ⟨by show cells + mc ≤ 600000; omega, by show slots + ms ≤ 7302250; omega⟩) hS (fun r u H locs hq hP hS => ?_)
  obtain ⟨hTo, hdo2⟩ := hpost r u hq
  obtain ⟨fr2, lo2, S2, f2, post2, hfl2, hM2, hpost2⟩ := hdo2 (fun c h => hP.lt h)
  refine lv_aload_n X.1 X.2.1 dL_law_854 rfl (lv_at hl 2 rfl) ?_
  refine j_arg (k := 1) X hX hbl hbA hS hl rfl (by omega) hL dL_law_855 dL_law_856 dL_law_857 dL_law_858 dL_law_859 ?_
  refine j_arg (k := 2) X hX hbl hbA hS hl rfl (by omega) hL dL_law_860 dL_law_861 dL_law_862 dL_law_863 dL_law_864 ?_
  refine g_run_i (f := f2) (g_runV (k := 14) [.int (xs (i + 1)), .int (xs (i + 2))] X hK hP hS hCs hB hM2 (cwV 2 X.2.2.2.2 gL_law_X12_looked rfl rfl rfl (by decide +kernel) ⟨by show fr2 + 1 ≤ 2048; omega, by show 8 + (5 + 11) + lo2 ≤ 84000; omega⟩) hTo rfl rfl hl.1 rfl (Nat.le_of_ble_eq_true rfl) dL_law_865 ⟨by show cells + mc + 0 ≤ 600000; omega, by show slots + ms + 0 ≤ 7302250; omega⟩) hS (fun r2 u2 H locs hq2 hP hS => ?_)
  obtain ⟨hre, hInv⟩ := hpost2 r2 u2 hq2
  refine lv_icmp_eq (tgt := 1021) X.1 X.2.1 dL_law_868 (by decide) (fun c1 => ?_) (fun c1 => ?_)
  · exact W.widen (by omega) (by omega) (kk (f2 u2) H locs hInv hP hS)
  · exact absurd hre.symm c1
set_option maxRecDepth 100000 in
set_option maxHeartbeats 4000000 in
theorem lw_act (X : CallFix p m c cL_law 4 s args wsL_law RL) (hK : va_K D vwCl (gtys cy) s) (hCs : gCst s B s) (hB : B ≤ s.heap.size) (hX : va_X b L xs s s.heap) (hbl : b < s.heap.size) (hbA : ¬ gA B b) (hl : lv_has ls 4 [(0, .ref b), (1, .ref q), (2, .ref (q + 53)), (3, .int (nI i))]) (hi6 : i + 6 ≤ L) (hL : L ≤ 384) (hP : gP D cy B x.1 x.2.1 x.2.2.1 x.2.2.2 H) (hS : va_S (gA B) s.heap H locs) (hTq : x.2.1 q = (21, 0)) (hdo : jDo l s D cy B q yX11_act wsX11_act yX12_act wsX12_act [.int (xs (i + 1)), .int (xs (i + 2)), .int (xs (i + 3))] x Inv) (hr : cells + 8 ≤ 600000 ∧ slots + 138 ≤ 7302250) (kk : ∀ (u : gSt) (H1 : Heap) (l1 : List Loc), Inv u → gP D cy B u.1 u.2.1 u.2.2.1 u.2.2.2 H1 → va_S (gA B) s.heap H1 l1 → W p l e room_1 s m args below meth c H1 l1 (cells + 8) (slots + 138) Q (F0 m 1021 ls [])) : W p l e room_1 s m args below meth c H locs cells slots Q (F0 m 873 ls []) := by
  obtain ⟨mc, ms, hmm, fr, lo, S, f, post, hfl, hM, hpost⟩ := hdo
  refine lv_aload_n X.1 X.2.1 dL_law_873 rfl (lv_at hl 1 rfl) ?_
  refine j_arg (k := 1) X hX hbl hbA hS hl rfl (by omega) hL dL_law_874 dL_law_875 dL_law_876 dL_law_877 dL_law_878 ?_
  refine j_arg (k := 2) X hX hbl hbA hS hl rfl (by omega) hL dL_law_879 dL_law_880 dL_law_881 dL_law_882 dL_law_883 ?_
  refine j_arg (k := 3) X hX hbl hbA hS hl rfl (by omega) hL dL_law_884 dL_law_885 dL_law_886 dL_law_887 dL_law_888 ?_
  refine g_run_i (f := f) (g_runV (k := 13) [.int (xs (i + 1)), .int (xs (i + 2)), .int (xs (i + 3))] X hK hP hS hCs hB hM (cwV 3 X.2.2.2.2 gL_law_X11_act rfl rfl rfl (by decide +kernel) ⟨by show fr + 1 ≤ 2048; omega, by show 8 + (5 + 11) + lo ≤ 84000; omega⟩) hTq rfl rfl hl.1 rfl (Nat.le_of_ble_eq_true rfl) dL_law_889 ⟨by show cells + mc ≤ 600000; omega, by show slots + ms ≤ 7302250; omega⟩) hS (fun r u H locs hq hP hS => ?_)
  obtain ⟨hTo, hdo2⟩ := hpost r u hq
  obtain ⟨fr2, lo2, S2, f2, post2, hfl2, hM2, hpost2⟩ := hdo2 (fun c h => hP.lt h)
  refine lv_aload_n X.1 X.2.1 dL_law_892 rfl (lv_at hl 2 rfl) ?_
  refine j_arg (k := 1) X hX hbl hbA hS hl rfl (by omega) hL dL_law_893 dL_law_894 dL_law_895 dL_law_896 dL_law_897 ?_
  refine j_arg (k := 2) X hX hbl hbA hS hl rfl (by omega) hL dL_law_898 dL_law_899 dL_law_900 dL_law_901 dL_law_902 ?_
  refine j_arg (k := 3) X hX hbl hbA hS hl rfl (by omega) hL dL_law_903 dL_law_904 dL_law_905 dL_law_906 dL_law_907 ?_
  refine g_run_i (f := f2) (g_runV (k := 14) [.int (xs (i + 1)), .int (xs (i + 2)), .int (xs (i + 3))] X hK hP hS hCs hB hM2 (cwV 3 X.2.2.2.2 gL_law_X12_act rfl rfl rfl (by decide +kernel) ⟨by show fr2 + 1 ≤ 2048; omega, by show 8 + (4 + 11) + lo2 ≤ 84000; omega⟩) hTo rfl rfl hl.1 rfl (Nat.le_of_ble_eq_true rfl) dL_law_908 ⟨by show cells + mc + 0 ≤ 600000; omega, by show slots + ms + 0 ≤ 7302250; omega⟩) hS (fun r2 u2 H locs hq2 hP hS => ?_)
  obtain ⟨hre, hInv⟩ := hpost2 r2 u2 hq2
  refine lv_icmp_eq (tgt := 1021) X.1 X.2.1 dL_law_911 (by decide) (fun c1 => ?_) (fun c1 => ?_)
  · exact W.widen (by omega) (by omega) (kk (f2 u2) H locs hInv hP hS)
  · exact absurd hre.symm c1
set_option maxRecDepth 100000 in
set_option maxHeartbeats 4000000 in
theorem lw_trace (X : CallFix p m c cL_law 4 s args wsL_law RL) (hK : va_K D vwCl (gtys cy) s) (hCs : gCst s B s) (hB : B ≤ s.heap.size) (hX : va_X b L xs s s.heap) (hbl : b < s.heap.size) (hbA : ¬ gA B b) (hl : lv_has ls 4 [(0, .ref b), (1, .ref q), (2, .ref (q + 53)), (3, .int (nI i))]) (hi6 : i + 6 ≤ L) (hL : L ≤ 384) (hP : gP D cy B x.1 x.2.1 x.2.2.1 x.2.2.2 H) (hS : va_S (gA B) s.heap H locs) (hTq : x.2.1 q = (21, 0)) (hdo : jDo l s D cy B q yX11_trace wsX11_trace yX12_trace wsX12_trace [.int (xs (i + 1))] x Inv) (hr : cells + 8 ≤ 600000 ∧ slots + 138 ≤ 7302250) (kk : ∀ (u : gSt) (H1 : Heap) (l1 : List Loc), Inv u → gP D cy B u.1 u.2.1 u.2.2.1 u.2.2.2 H1 → va_S (gA B) s.heap H1 l1 → W p l e room_1 s m args below meth c H1 l1 (cells + 8) (slots + 138) Q (F0 m 1021 ls [])) : W p l e room_1 s m args below meth c H locs cells slots Q (F0 m 916 ls []) := by
  obtain ⟨mc, ms, hmm, fr, lo, S, f, post, hfl, hM, hpost⟩ := hdo
  refine lv_aload_n X.1 X.2.1 dL_law_916 rfl (lv_at hl 1 rfl) ?_
  refine j_arg (k := 1) X hX hbl hbA hS hl rfl (by omega) hL dL_law_917 dL_law_918 dL_law_919 dL_law_920 dL_law_921 ?_
  refine g_run_i (f := f) (g_runV (k := 13) [.int (xs (i + 1))] X hK hP hS hCs hB hM (cwV 1 X.2.2.2.2 gL_law_X11_trace rfl rfl rfl (by decide +kernel) ⟨by show fr + 1 ≤ 2048; omega, by show 8 + (2 + 11) + lo ≤ 84000; omega⟩) hTq rfl rfl hl.1 rfl (Nat.le_of_ble_eq_true rfl) dL_law_922 ⟨by show cells + mc ≤ 600000; omega, by show slots + ms ≤ 7302250; omega⟩) hS (fun r u H locs hq hP hS => ?_)
  obtain ⟨hTo, hdo2⟩ := hpost r u hq
  obtain ⟨fr2, lo2, S2, f2, post2, hfl2, hM2, hpost2⟩ := hdo2 (fun c h => hP.lt h)
  refine lv_aload_n X.1 X.2.1 dL_law_925 rfl (lv_at hl 2 rfl) ?_
  refine j_arg (k := 1) X hX hbl hbA hS hl rfl (by omega) hL dL_law_926 dL_law_927 dL_law_928 dL_law_929 dL_law_930 ?_
  refine g_run_i (f := f2) (g_runV (k := 14) [.int (xs (i + 1))] X hK hP hS hCs hB hM2 (cwV 1 X.2.2.2.2 gL_law_X12_trace rfl rfl rfl (by decide +kernel) ⟨by show fr2 + 1 ≤ 2048; omega, by show 8 + (2 + 11) + lo2 ≤ 84000; omega⟩) hTo rfl rfl hl.1 rfl (Nat.le_of_ble_eq_true rfl) dL_law_931 ⟨by show cells + mc + 0 ≤ 600000; omega, by show slots + ms + 0 ≤ 7302250; omega⟩) hS (fun r2 u2 H locs hq2 hP hS => ?_)
  obtain ⟨hre, hInv⟩ := hpost2 r2 u2 hq2
  refine lv_icmp_eq (tgt := 1021) X.1 X.2.1 dL_law_934 (by decide) (fun c1 => ?_) (fun c1 => ?_)
  · exact W.widen (by omega) (by omega) (kk (f2 u2) H locs hInv hP hS)
  · exact absurd hre.symm c1
set_option maxRecDepth 100000 in
set_option maxHeartbeats 4000000 in
theorem lw_as (X : CallFix p m c cL_law 4 s args wsL_law RL) (hK : va_K D vwCl (gtys cy) s) (hCs : gCst s B s) (hB : B ≤ s.heap.size) (hX : va_X b L xs s s.heap) (hbl : b < s.heap.size) (hbA : ¬ gA B b) (hl : lv_has ls 4 [(0, .ref b), (1, .ref q), (2, .ref (q + 53)), (3, .int (nI i))]) (hi6 : i + 6 ≤ L) (hL : L ≤ 384) (hP : gP D cy B x.1 x.2.1 x.2.2.1 x.2.2.2 H) (hS : va_S (gA B) s.heap H locs) (hTq : x.2.1 q = (21, 0)) (hdo : jDo l s D cy B q yX11_as wsX11_as yX12_as wsX12_as [.int (xs (i + 1)), .int (xs (i + 2))] x Inv) (hr : cells + 8 ≤ 600000 ∧ slots + 138 ≤ 7302250) (kk : ∀ (u : gSt) (H1 : Heap) (l1 : List Loc), Inv u → gP D cy B u.1 u.2.1 u.2.2.1 u.2.2.2 H1 → va_S (gA B) s.heap H1 l1 → W p l e room_1 s m args below meth c H1 l1 (cells + 8) (slots + 138) Q (F0 m 1021 ls [])) : W p l e room_1 s m args below meth c H locs cells slots Q (F0 m 939 ls []) := by
  obtain ⟨mc, ms, hmm, fr, lo, S, f, post, hfl, hM, hpost⟩ := hdo
  refine lv_aload_n X.1 X.2.1 dL_law_939 rfl (lv_at hl 1 rfl) ?_
  refine j_arg (k := 1) X hX hbl hbA hS hl rfl (by omega) hL dL_law_940 dL_law_941 dL_law_942 dL_law_943 dL_law_944 ?_
  refine j_arg (k := 2) X hX hbl hbA hS hl rfl (by omega) hL dL_law_945 dL_law_946 dL_law_947 dL_law_948 dL_law_949 ?_
  refine g_run_i (f := f) (g_runV (k := 13) [.int (xs (i + 1)), .int (xs (i + 2))] X hK hP hS hCs hB hM (cwV 2 X.2.2.2.2 gL_law_X11_as rfl rfl rfl (by decide +kernel) ⟨by show fr + 1 ≤ 2048; omega, by show 8 + (4 + 11) + lo ≤ 84000; omega⟩) hTq rfl rfl hl.1 rfl (Nat.le_of_ble_eq_true rfl) dL_law_950 ⟨by show cells + mc ≤ 600000; omega, by show slots + ms ≤ 7302250; omega⟩) hS (fun r u H locs hq hP hS => ?_)
  obtain ⟨hTo, hdo2⟩ := hpost r u hq
  obtain ⟨fr2, lo2, S2, f2, post2, hfl2, hM2, hpost2⟩ := hdo2 (fun c h => hP.lt h)
  refine lv_aload_n X.1 X.2.1 dL_law_953 rfl (lv_at hl 2 rfl) ?_
  refine j_arg (k := 1) X hX hbl hbA hS hl rfl (by omega) hL dL_law_954 dL_law_955 dL_law_956 dL_law_957 dL_law_958 ?_
  refine j_arg (k := 2) X hX hbl hbA hS hl rfl (by omega) hL dL_law_959 dL_law_960 dL_law_961 dL_law_962 dL_law_963 ?_
  refine g_run_i (f := f2) (g_runV (k := 14) [.int (xs (i + 1)), .int (xs (i + 2))] X hK hP hS hCs hB hM2 (cwV 2 X.2.2.2.2 gL_law_X12_as rfl rfl rfl (by decide +kernel) ⟨by show fr2 + 1 ≤ 2048; omega, by show 8 + (3 + 11) + lo2 ≤ 84000; omega⟩) hTo rfl rfl hl.1 rfl (Nat.le_of_ble_eq_true rfl) dL_law_964 ⟨by show cells + mc + 0 ≤ 600000; omega, by show slots + ms + 0 ≤ 7302250; omega⟩) hS (fun r2 u2 H locs hq2 hP hS => ?_)
  obtain ⟨hre, hInv⟩ := hpost2 r2 u2 hq2
  refine lv_icmp_eq (tgt := 1021) X.1 X.2.1 dL_law_967 (by decide) (fun c1 => ?_) (fun c1 => ?_)
  · exact W.widen (by omega) (by omega) (kk (f2 u2) H locs hInv hP hS)
  · exact absurd hre.symm c1
set_option maxRecDepth 100000 in
set_option maxHeartbeats 4000000 in
theorem lw_image (X : CallFix p m c cL_law 4 s args wsL_law RL) (hK : va_K D vwCl (gtys cy) s) (hCs : gCst s B s) (hB : B ≤ s.heap.size) (hX : va_X b L xs s s.heap) (hbl : b < s.heap.size) (hbA : ¬ gA B b) (hl : lv_has ls 4 [(0, .ref b), (1, .ref q), (2, .ref (q + 53)), (3, .int (nI i))]) (hi6 : i + 6 ≤ L) (hL : L ≤ 384) (hP : gP D cy B x.1 x.2.1 x.2.2.1 x.2.2.2 H) (hS : va_S (gA B) s.heap H locs) (hTq : x.2.1 q = (21, 0)) (hdo : jDo l s D cy B q yX11_image wsX11_image yX12_image wsX12_image [] x Inv) (hr : cells + 8 ≤ 600000 ∧ slots + 138 ≤ 7302250) (kk : ∀ (u : gSt) (H1 : Heap) (l1 : List Loc), Inv u → gP D cy B u.1 u.2.1 u.2.2.1 u.2.2.2 H1 → va_S (gA B) s.heap H1 l1 → W p l e room_1 s m args below meth c H1 l1 (cells + 8) (slots + 138) Q (F0 m 1021 ls [])) : W p l e room_1 s m args below meth c H locs cells slots Q (F0 m 972 ls []) := by
  obtain ⟨mc, ms, hmm, fr, lo, S, f, post, hfl, hM, hpost⟩ := hdo
  refine lv_aload_n X.1 X.2.1 dL_law_972 rfl (lv_at hl 1 rfl) ?_
  refine g_run_i (f := f) (g_runV (k := 13) [] X hK hP hS hCs hB hM (cwV 0 X.2.2.2.2 gL_law_X11_image rfl rfl rfl (by decide +kernel) ⟨by show fr + 1 ≤ 2048; omega, by show 8 + (1 + 11) + lo ≤ 84000; omega⟩) hTq rfl rfl hl.1 rfl (Nat.le_of_ble_eq_true rfl) dL_law_973 ⟨by show cells + mc ≤ 600000; omega, by show slots + ms ≤ 7302250; omega⟩) hS (fun r u H locs hq hP hS => ?_)
  obtain ⟨hTo, hdo2⟩ := hpost r u hq
  obtain ⟨fr2, lo2, S2, f2, post2, hfl2, hM2, hpost2⟩ := hdo2 (fun c h => hP.lt h)
  refine lv_aload_n X.1 X.2.1 dL_law_976 rfl (lv_at hl 2 rfl) ?_
  refine g_run_i (f := f2) (g_runV (k := 14) [] X hK hP hS hCs hB hM2 (cwV 0 X.2.2.2.2 gL_law_X12_image rfl rfl rfl (by decide +kernel) ⟨by show fr2 + 1 ≤ 2048; omega, by show 8 + (2 + 11) + lo2 ≤ 84000; omega⟩) hTo rfl rfl hl.1 rfl (Nat.le_of_ble_eq_true rfl) dL_law_977 ⟨by show cells + mc + 0 ≤ 600000; omega, by show slots + ms + 0 ≤ 7302250; omega⟩) hS (fun r2 u2 H locs hq2 hP hS => ?_)
  obtain ⟨hre, hInv⟩ := hpost2 r2 u2 hq2
  refine lv_icmp_eq (tgt := 1021) X.1 X.2.1 dL_law_980 (by decide) (fun c1 => ?_) (fun c1 => ?_)
  · exact W.widen (by omega) (by omega) (kk (f2 u2) H locs hInv hP hS)
  · exact absurd hre.symm c1
set_option maxRecDepth 100000 in
set_option maxHeartbeats 4000000 in
theorem lw_undo (X : CallFix p m c cL_law 4 s args wsL_law RL) (hK : va_K D vwCl (gtys cy) s) (hCs : gCst s B s) (hB : B ≤ s.heap.size) (hX : va_X b L xs s s.heap) (hbl : b < s.heap.size) (hbA : ¬ gA B b) (hl : lv_has ls 4 [(0, .ref b), (1, .ref q), (2, .ref (q + 53)), (3, .int (nI i))]) (hi6 : i + 6 ≤ L) (hL : L ≤ 384) (hP : gP D cy B x.1 x.2.1 x.2.2.1 x.2.2.2 H) (hS : va_S (gA B) s.heap H locs) (hTq : x.2.1 q = (21, 0)) (hdo : jDo l s D cy B q yX11_undo wsX11_undo yX12_undo wsX12_undo [] x Inv) (hr : cells + 8 ≤ 600000 ∧ slots + 138 ≤ 7302250) (kk : ∀ (u : gSt) (H1 : Heap) (l1 : List Loc), Inv u → gP D cy B u.1 u.2.1 u.2.2.1 u.2.2.2 H1 → va_S (gA B) s.heap H1 l1 → W p l e room_1 s m args below meth c H1 l1 (cells + 8) (slots + 138) Q (F0 m 1021 ls [])) : W p l e room_1 s m args below meth c H locs cells slots Q (F0 m 985 ls []) := by
  obtain ⟨mc, ms, hmm, fr, lo, S, f, post, hfl, hM, hpost⟩ := hdo
  refine lv_aload_n X.1 X.2.1 dL_law_985 rfl (lv_at hl 1 rfl) ?_
  refine g_run_i (f := f) (g_runV (k := 13) [] X hK hP hS hCs hB hM (cwV 0 X.2.2.2.2 gL_law_X11_undo rfl rfl rfl (by decide +kernel) ⟨by show fr + 1 ≤ 2048; omega, by show 8 + (1 + 11) + lo ≤ 84000; omega⟩) hTq rfl rfl hl.1 rfl (Nat.le_of_ble_eq_true rfl) dL_law_986 ⟨by show cells + mc ≤ 600000; omega, by show slots + ms ≤ 7302250; omega⟩) hS (fun r u H locs hq hP hS => ?_)
  obtain ⟨hTo, hdo2⟩ := hpost r u hq
  obtain ⟨fr2, lo2, S2, f2, post2, hfl2, hM2, hpost2⟩ := hdo2 (fun c h => hP.lt h)
  refine lv_aload_n X.1 X.2.1 dL_law_989 rfl (lv_at hl 2 rfl) ?_
  refine g_run_i (f := f2) (g_runV (k := 14) [] X hK hP hS hCs hB hM2 (cwV 0 X.2.2.2.2 gL_law_X12_undo rfl rfl rfl (by decide +kernel) ⟨by show fr2 + 1 ≤ 2048; omega, by show 8 + (2 + 11) + lo2 ≤ 84000; omega⟩) hTo rfl rfl hl.1 rfl (Nat.le_of_ble_eq_true rfl) dL_law_990 ⟨by show cells + mc + 0 ≤ 600000; omega, by show slots + ms + 0 ≤ 7302250; omega⟩) hS (fun r2 u2 H locs hq2 hP hS => ?_)
  obtain ⟨hre, hInv⟩ := hpost2 r2 u2 hq2
  refine lv_icmp_eq (tgt := 1021) X.1 X.2.1 dL_law_993 (by decide) (fun c1 => ?_) (fun c1 => ?_)
  · exact W.widen (by omega) (by omega) (kk (f2 u2) H locs hInv hP hS)
  · exact absurd hre.symm c1
set_option maxRecDepth 100000 in
set_option maxHeartbeats 4000000 in
theorem lw_count (X : CallFix p m c cL_law 4 s args wsL_law RL) (hK : va_K D vwCl (gtys cy) s) (hCs : gCst s B s) (hB : B ≤ s.heap.size) (hX : va_X b L xs s s.heap) (hbl : b < s.heap.size) (hbA : ¬ gA B b) (hl : lv_has ls 4 [(0, .ref b), (1, .ref q), (2, .ref (q + 53)), (3, .int (nI i))]) (hi6 : i + 6 ≤ L) (hL : L ≤ 384) (hP : gP D cy B x.1 x.2.1 x.2.2.1 x.2.2.2 H) (hS : va_S (gA B) s.heap H locs) (hTq : x.2.1 q = (21, 0)) (hdo : jDo l s D cy B q yX11_count wsX11_count yX12_count wsX12_count [.int (xs (i + 1))] x Inv) (hr : cells + 8 ≤ 600000 ∧ slots + 138 ≤ 7302250) (kk : ∀ (u : gSt) (H1 : Heap) (l1 : List Loc), Inv u → gP D cy B u.1 u.2.1 u.2.2.1 u.2.2.2 H1 → va_S (gA B) s.heap H1 l1 → W p l e room_1 s m args below meth c H1 l1 (cells + 8) (slots + 138) Q (F0 m 1021 ls [])) : W p l e room_1 s m args below meth c H locs cells slots Q (F0 m 998 ls []) := by
  obtain ⟨mc, ms, hmm, fr, lo, S, f, post, hfl, hM, hpost⟩ := hdo
  refine lv_aload_n X.1 X.2.1 dL_law_998 rfl (lv_at hl 1 rfl) ?_
  refine j_arg (k := 1) X hX hbl hbA hS hl rfl (by omega) hL dL_law_999 dL_law_1000 dL_law_1001 dL_law_1002 dL_law_1003 ?_
  refine g_run_i (f := f) (g_runV (k := 13) [.int (xs (i + 1))] X hK hP hS hCs hB hM (cwV 1 X.2.2.2.2 gL_law_X11_count rfl rfl rfl (by decide +kernel) ⟨by show fr + 1 ≤ 2048; omega, by show 8 + (2 + 11) + lo ≤ 84000; omega⟩) hTq rfl rfl hl.1 rfl (Nat.le_of_ble_eq_true rfl) dL_law_1004 ⟨by show cells + mc ≤ 600000; omega, by show slots + ms ≤ 7302250; omega⟩) hS (fun r u H locs hq hP hS => ?_)
  obtain ⟨hTo, hdo2⟩ := hpost r u hq
  obtain ⟨fr2, lo2, S2, f2, post2, hfl2, hM2, hpost2⟩ := hdo2 (fun c h => hP.lt h)
  refine lv_aload_n X.1 X.2.1 dL_law_1007 rfl (lv_at hl 2 rfl) ?_
  refine j_arg (k := 1) X hX hbl hbA hS hl rfl (by omega) hL dL_law_1008 dL_law_1009 dL_law_1010 dL_law_1011 dL_law_1012 ?_
  refine g_run_i (f := f2) (g_runV (k := 14) [.int (xs (i + 1))] X hK hP hS hCs hB hM2 (cwV 1 X.2.2.2.2 gL_law_X12_count rfl rfl rfl (by decide +kernel) ⟨by show fr2 + 1 ≤ 2048; omega, by show 8 + (2 + 11) + lo2 ≤ 84000; omega⟩) hTo rfl rfl hl.1 rfl (Nat.le_of_ble_eq_true rfl) dL_law_1013 ⟨by show cells + mc + 0 ≤ 600000; omega, by show slots + ms + 0 ≤ 7302250; omega⟩) hS (fun r2 u2 H locs hq2 hP hS => ?_)
  obtain ⟨hre, hInv⟩ := hpost2 r2 u2 hq2
  refine lv_icmp_eq (tgt := 1021) X.1 X.2.1 dL_law_1016 (by decide) (fun c1 => ?_) (fun c1 => ?_)
  · exact W.widen (by omega) (by omega) (kk (f2 u2) H locs hInv hP hS)
  · exact absurd hre.symm c1
end LW
