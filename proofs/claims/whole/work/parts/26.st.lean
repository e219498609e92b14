/-! STRING CONSTANTS: a the String's cell, q its bytes', tx its signs (all below 128), as they stood at s0, below B. -/
def gSo (s0 : State) (B : Nat) (tx : List Nat) (a q : Nat) : Prop := va_O "java/lang/String" a (gA B) s0 s0.heap ∧ va_OF "java/lang/String" "coder" "B" (.int 0) a (gA B) s0 s0.heap ∧ va_OF "java/lang/String" "value" "[B" (.ref q) a (gA B) s0 s0.heap ∧ va_T .byte q tx.length (fun j => .int (nI (tx.getD j 0))) (gA B) s0 s0.heap
def gSt2 (s0 : State) (B : Nat) : Prop := va_Z "java/lang/String" "COMPACT_STRINGS" "Z" (.int 1) (gA B) s0 s0.heap ∧ va_Zq "jdk/internal/util/Preconditions" "SIOOBE_FORMATTER" "Ljava/util/function/BiFunction;" (gA B) s0 s0.heap
def gTx (tx : List Nat) : Prop := (0 < tx.length ∧ tx.length < 100) ∧ ∀ j, tx.getD j 0 < 128
theorem gC_kept {s0 s : State} {B : Nat} (h : gCst s0 B s) : ∀ a : Nat, a < s0.heap.size → ¬ gA B a → s.heap[a]? = s0.heap[a]? := fun a _ h2 => h.2.2 a (Nat.lt_of_not_le h2)
theorem gSo.now {s0 s : State} {B : Nat} {tx : List Nat} {a q : Nat} (hC : gCst s0 B s) (h : gSo s0 B tx a q) : gSo s B tx a q :=
  ⟨(va_O.moved hC.1.alike h.1).kept (gC_kept hC), (va_OF.moved hC.1.alike h.2.1).kept (gC_kept hC), (va_OF.moved hC.1.alike h.2.2.1).kept (gC_kept hC), (va_T.moved hC.1.alike h.2.2.2).kept (gC_kept hC)⟩
theorem gSt2.now {s0 s : State} {B : Nat} (hC : gCst s0 B s) (h : gSt2 s0 B) : gSt2 s B :=
  ⟨(va_Z.moved hC.1.alike h.1).kept (gC_kept hC), (va_Zq.moved hC.1.alike h.2).kept (gC_kept hC)⟩
section ST1
variable {p : Program} {l : Launch} {e : Env} {Rm : Room} {s : State} {m : MethodId} {args : Array Value} {below : List Frame} {meth : Method} {c : Code} {H : Heap} {locs : List Loc} {cells slots : Nat} {Q : State → Prop}
variable {cc : ByteArray} {nL : Nat} {Ts : List Cond} {own : String} {pc : Nat} {ls : Array Slot} {rest : List Value} {D : va_G} {cy : Nat → ClassId} {B z : Nat} {T : Nat → Nat × Nat} {I : Nat → Nat → Int32} {R : Nat → Nat → Option Nat} {s0 : State}
theorem g_cret {S : Type} {post : Int32 → S → Prop} {f : S → gSt} {v : Int32} (u : S) (X : CallFix p m c cc nL s args Ts own) (hr : meth.sig.returnType = some .char) (hlk : meth.locks = false) (hK : va_K D vwCl (gtys cy) s) (hP : gP D cy B (f u).1 (f u).2.1 (f u).2.2.1 (f u).2.2.2 H) (hS : va_S (gA B) s.heap H locs) (hdg : decode cc pc = .ok (.ireturn, 1)) (hn : narrow .char (.int v) = .int v) (hp : post v u) : W p l e Rm s m args below meth c H locs cells slots (MQ below (va_Qi post (fun u t => gW1 D cy B (f u) t) (gA B)) args s cells slots (gA B)) (F0 m pc ls [.int v]) :=
  W.zret (v := v) X.1 X.2.1 hr hn (fun t ht hW => ⟨⟨v, u, rfl, hp, by rw [ht]; exact hP, va_K.moved hW.alike hK⟩, hS.F ht⟩) hS.2.2 hdg hlk
theorem g_bret {S : Type} {post : Int32 → S → Prop} {f : S → gSt} {v : Int32} (u : S) (X : CallFix p m c cc nL s args Ts own) (hr : meth.sig.returnType = some .byte) (hlk : meth.locks = false) (hK : va_K D vwCl (gtys cy) s) (hP : gP D cy B (f u).1 (f u).2.1 (f u).2.2.1 (f u).2.2.2 H) (hS : va_S (gA B) s.heap H locs) (hdg : decode cc pc = .ok (.ireturn, 1)) (hn : narrow .byte (.int v) = .int v) (hp : post v u) : W p l e Rm s m args below meth c H locs cells slots (MQ below (va_Qi post (fun u t => gW1 D cy B (f u) t) (gA B)) args s cells slots (gA B)) (F0 m pc ls [.int v]) :=
  W.zret (v := v) X.1 X.2.1 hr hn (fun t ht hW => ⟨⟨v, u, rfl, hp, by rw [ht]; exact hP, va_K.moved hW.alike hK⟩, hS.F ht⟩) hS.2.2 hdg hlk
theorem g_runVO {y : MethodName} {bytes : ByteArray} {maxL mc ms index : Nat} {ret : Option FieldType} {ws : List Cond} {rm : Room} {Qc : Array Value → State → Outcome → State → Prop} {C : String} {b : Nat} (As : List Value) {nA : Nat} (X : CallFix p m c cc nL s args Ts own) (hK : va_K D vwCl (gtys cy) s) (hP : gP D cy B z T I R H) (hS : va_S (gA B) s.heap H locs) (hC : gCst s0 B s) (hB : B ≤ s.heap.size) (hM : Met l y ws rm (va_Pc (.ref b :: As) (gW0 s0 D cy B (z, T, I, R))) Qc mc ms (gA B)) (cw : CallW Rm s args own C index y bytes maxL ret ws rm mc ms nA) (hO : va_O C b (gA B) s s.heap) (hn : As.length = nA) (hl : ls.size = nL) {st0 : List Value} (hst : st0 = As.reverse ++ .ref b :: rest) (hW : (rest.map fun v => v.category).sum ≤ 8) (hdg : decode cc pc = .ok (.invokevirtual index, 3)) (hf : cells + mc ≤ Rm.cells ∧ slots + ms ≤ Rm.slots) :
    va_Run p l e Rm s m args below meth c H locs cells slots mc ms (F0 m pc ls st0) rest (Qc (Value.ref b :: As).toArray) (gA B) := by
  obtain ⟨cell, h1, h2, h3, -⟩ := hO.kept hS.2.1
  exact va_runV (As := As) (rest := rest) X hM cw ⟨gW0_blind, ⟨cell, h1, h2, h3⟩, g_pre hK hP hS hC hB⟩ rfl hn hl hst (lv_room hW) hdg hf
theorem gsr0 {n : Nat} (h : n < 2 ^ 31) : nI n >>> ((0 : Int32) &&& 31) = nI n := by
  rw [pk_shrN h _ 0 (by decide)]
  simp
theorem g_ch : ∀ x, x < 128 → ((nI x &&& 255).toUInt32 % 65536).toInt32 = nI x := by decide +kernel
theorem g_chn : ∀ x, x < 128 → narrow .char (.int (nI x)) = .int (nI x) := by decide +kernel
theorem g_i2b : ∀ x, x < 128 → (nI x).toInt8.toInt32 = nI x := by decide +kernel
end ST1
section ST2
variable {l : Launch} {s0 : State} {D : va_G} {cy : Nat → ClassId} {B : Nat} {x : gSt} {tx : List Nat} {a q : Nat}

set_option maxHeartbeats 4000000 in
set_option maxRecDepth 100000 in
/-- String.coder() -/
theorem j_coder (hs : gSo s0 B tx a q) (h2 : gSt2 s0 B) : Met l yJ0_coder_7d493 wsJ0_coder_7d493 ({ frames := 0, cells := 0, slots := 0, locals := 0 }) (va_Pc [.ref a] (gW0 s0 D cy B x)) (va_Qi (fun r u => r = 0 ∧ x = u) (fun u t => gW1 D cy B u t) (gA B)) 0 0 (gA B) := by
  refine g_met (maxL := 1) (ret := (some .byte)) (by decide) rfl (Nat.le_of_ble_eq_true rfl) (fun p e s m args below meth c ls X hr hlk hnm hK hP hC hS hl => ?_)
  have hl : lv_has ls 1 [(0, .ref a)] := hl
  have hP : gP D cy B x.1 x.2.1 x.2.2.1 x.2.2.2 s.heap := hP
  have hB : B ≤ s.heap.size := by rw [hP.1]; exact hP.2.1
  have hs0 := hs
  replace hs := hs.now hC
  have h20 := h2
  replace h2 := h2.now hC
  refine va_gets X.1 X.2.1 h2.1 hS X.2.2.2.1 (X.2.2.2.2 (.fieldLink RJ0 38 "java/lang/String" "COMPACT_STRINGS" "Z") (by decide +kernel)) (fun _ h => h) dJ0_coder_7d493_0 ?_
  refine lv_if_eq (tgt := 13) X.1 X.2.1 dJ0_coder_7d493_3 (by decide) (fun c3 => ?_) (fun c3 => ?_)
  · exact absurd c3 (by decide)
  · have n3 : ¬ 1 = 0 := gq_ne c3 (show (1 : Int32) = nI 1 from rfl) (show (0 : Int32) = nI 0 from rfl) (by omega) (by omega)
    refine lv_aload_n X.1 X.2.1 dJ0_coder_7d493_6 rfl (lv_at hl 0 rfl) ?_
    refine vk_getf X.1 X.2.1 hs.2.1 hS X.2.2.2.1 (X.2.2.2.2 (.fieldLink RJ0 15 "java/lang/String" "coder" "B") (by decide +kernel)) (fun _ h => h) dJ0_coder_7d493_7 ?_
    refine lv_goto (tgt := 14) X.1 X.2.1 dJ0_coder_7d493_10 (by decide) ?_
    exact g_bret x X hr hlk hK hP hS dJ0_coder_7d493_14 rfl ⟨rfl, rfl⟩

set_option maxHeartbeats 4000000 in
set_option maxRecDepth 100000 in
/-- String.isLatin1() -/
theorem j_lat (hs : gSo s0 B tx a q) (h2 : gSt2 s0 B) : Met l yJ0_isLatin1_aae02 wsJ0_isLatin1_aae02 ({ frames := 0, cells := 0, slots := 0, locals := 0 }) (va_Pc [.ref a] (gW0 s0 D cy B x)) (va_Qi (fun r u => r = 1 ∧ x = u) (fun u t => gW1 D cy B u t) (gA B)) 0 0 (gA B) := by
  refine g_met (maxL := 1) (ret := (some .boolean)) (by decide) rfl (Nat.le_of_ble_eq_true rfl) (fun p e s m args below meth c ls X hr hlk hnm hK hP hC hS hl => ?_)
  have hl : lv_has ls 1 [(0, .ref a)] := hl
  have hP : gP D cy B x.1 x.2.1 x.2.2.1 x.2.2.2 s.heap := hP
  have hB : B ≤ s.heap.size := by rw [hP.1]; exact hP.2.1
  have hs0 := hs
  replace hs := hs.now hC
  have h20 := h2
  replace h2 := h2.now hC
  refine va_gets X.1 X.2.1 h2.1 hS X.2.2.2.1 (X.2.2.2.2 (.fieldLink RJ0 38 "java/lang/String" "COMPACT_STRINGS" "Z") (by decide +kernel)) (fun _ h => h) dJ0_isLatin1_aae02_0 ?_
  refine lv_if_eq (tgt := 17) X.1 X.2.1 dJ0_isLatin1_aae02_3 (by decide) (fun c3 => ?_) (fun c3 => ?_)
  · exact absurd c3 (by decide)
  · have n3 : ¬ 1 = 0 := gq_ne c3 (show (1 : Int32) = nI 1 from rfl) (show (0 : Int32) = nI 0 from rfl) (by omega) (by omega)
    refine lv_aload_n X.1 X.2.1 dJ0_isLatin1_aae02_6 rfl (lv_at hl 0 rfl) ?_
    refine vk_getf X.1 X.2.1 hs.2.1 hS X.2.2.2.1 (X.2.2.2.2 (.fieldLink RJ0 15 "java/lang/String" "coder" "B") (by decide +kernel)) (fun _ h => h) dJ0_isLatin1_aae02_7 ?_
    refine lv_if_ne (tgt := 17) X.1 X.2.1 dJ0_isLatin1_aae02_10 (by decide) (fun c10 => ?_) (fun c10 => ?_)
    · exact absurd c10 (by decide)
    · have n10 : 0 = 0 := gq_eq c10 (show (0 : Int32) = nI 0 from rfl) (show (0 : Int32) = nI 0 from rfl) (by omega) (by omega)
      refine lv_iconst (v := 1) X.1 X.2.1 dJ0_isLatin1_aae02_13 (by decide) ?_
      refine lv_goto (tgt := 18) X.1 X.2.1 dJ0_isLatin1_aae02_14 (by decide) ?_
      exact g_zret x X hr hlk hK hP hS dJ0_isLatin1_aae02_18 rfl ⟨rfl, rfl⟩

set_option maxHeartbeats 4000000 in
set_option maxRecDepth 100000 in
/-- String.length() -/
theorem j_len (hs : gSo s0 B tx a q) (h2 : gSt2 s0 B) (htx : gTx tx) : Met l yJ0_length_8abf5 wsJ0_length_8abf5 ({ frames := 1, cells := 0, slots := 0, locals := 20 }) (va_Pc [.ref a] (gW0 s0 D cy B x)) (va_Qi (fun r u => r = nI tx.length ∧ x = u) (fun u t => gW1 D cy B u t) (gA B)) 0 0 (gA B) := by
  refine g_met (maxL := 1) (ret := (some .int)) (by decide) rfl (Nat.le_of_ble_eq_true rfl) (fun p e s m args below meth c ls X hr hlk hnm hK hP hC hS hl => ?_)
  have hl : lv_has ls 1 [(0, .ref a)] := hl
  have hP : gP D cy B x.1 x.2.1 x.2.2.1 x.2.2.2 s.heap := hP
  have hB : B ≤ s.heap.size := by rw [hP.1]; exact hP.2.1
  have hs0 := hs
  replace hs := hs.now hC
  have h20 := h2
  replace h2 := h2.now hC
  have ht1 := htx.1
  refine lv_aload_n X.1 X.2.1 dJ0_length_8abf5_0 rfl (lv_at hl 0 rfl) ?_
  refine vk_getf X.1 X.2.1 hs.2.2.1 hS X.2.2.2.1 (X.2.2.2.2 (.fieldLink RJ0 9 "java/lang/String" "value" "[B") (by decide +kernel)) (fun _ h => h) dJ0_length_8abf5_1 ?_
  refine va_tlen (v := nI tx.length) X.1 X.2.1 hs.2.2.2 hS rfl dJ0_length_8abf5_4 ?_
  refine lv_aload_n X.1 X.2.1 dJ0_length_8abf5_5 rfl (lv_at hl 0 rfl) ?_
  refine g_run_i (g_runVO [] X hK hP hS hC hB (j_coder hs0 h20) (cwV 0 X.2.2.2.2 gJ0_length_8abf5_J0_coder_7d493 rfl rfl rfl (by decide +kernel) ⟨Nat.le_of_ble_eq_true rfl, Nat.le_of_ble_eq_true rfl⟩) hs.1 rfl hl.1 rfl (Nat.le_of_ble_eq_true rfl) dJ0_length_8abf5_6 (by exact ⟨Nat.zero_le _, Nat.zero_le _⟩)) hS (fun r u H locs hq hP hS => ?_)
  obtain ⟨rfl, rfl⟩ := hq
  refine lv_ishr X.1 X.2.1 dJ0_length_8abf5_9 ?_
  exact g_iret x X hr hlk hK hP hS dJ0_length_8abf5_10 ⟨gsr0 (by omega), rfl⟩

set_option maxHeartbeats 4000000 in
set_option maxRecDepth 100000 in
/-- Preconditions.checkIndex -/
theorem j_pci0 {k n t : Nat} (hk : k < n) (hn : n < 1000) : Met l yJ3_checkIndex_8e157 wsJ3_checkIndex_8e157 ({ frames := 0, cells := 0, slots := 0, locals := 0 }) (va_Pc [.int (nI k), .int (nI n), .null] (gW0 s0 D cy B x)) (va_Qi (fun r u => r = nI k ∧ x = u) (fun u t => gW1 D cy B u t) (gA B)) 0 0 (gA B) := by
  refine g_met (maxL := 3) (ret := (some .int)) (by decide) rfl (Nat.le_of_ble_eq_true rfl) (fun p e s m args below meth c ls X hr hlk hnm hK hP hC hS hl => ?_)
  have hl : lv_has ls 3 [(0, .int (nI k)), (1, .int (nI n)), (2, .null)] := hl
  have hP : gP D cy B x.1 x.2.1 x.2.2.1 x.2.2.2 s.heap := hP
  have hB : B ≤ s.heap.size := by rw [hP.1]; exact hP.2.1
  refine lv_iload_n X.1 X.2.1 dJ3_checkIndex_8e157_0 rfl (lv_at hl 0 rfl) ?_
  refine lv_if_lt (tgt := 9) X.1 X.2.1 dJ3_checkIndex_8e157_1 (by decide) (fun c1 => ?_) (fun c1 => ?_)
  · exact absurd c1 (nI_pos (by omega))
  · have n1 : 0 ≤ k := gq_nlt c1 (Eq.refl (nI k)) (show (0 : Int32) = nI 0 from rfl) (by omega) (by omega)
    refine lv_iload_n X.1 X.2.1 dJ3_checkIndex_8e157_4 rfl (lv_at hl 0 rfl) ?_
    refine lv_iload_n X.1 X.2.1 dJ3_checkIndex_8e157_5 rfl (lv_at hl 1 rfl) ?_
    refine lv_icmp_lt (tgt := 16) X.1 X.2.1 dJ3_checkIndex_8e157_6 (by decide) (fun c6 => ?_) (fun c6 => ?_)
    · have n6 : k < n := gq_lt c6 (Eq.refl (nI k)) (Eq.refl (nI n)) (by omega) (by omega)
      refine lv_iload_n X.1 X.2.1 dJ3_checkIndex_8e157_16 rfl (lv_at hl 0 rfl) ?_
      exact g_iret x X hr hlk hK hP hS dJ3_checkIndex_8e157_17 ⟨rfl, rfl⟩
    · exact absurd (nI_lt hk (by omega)) c6

set_option maxHeartbeats 4000000 in
set_option maxRecDepth 100000 in
/-- Preconditions.checkIndex -/
theorem j_pci1 {k n t : Nat} (hk : k < n) (hn : n < 1000) : Met l yJ3_checkIndex_8e157 wsJ3_checkIndex_8e157 ({ frames := 0, cells := 0, slots := 0, locals := 0 }) (va_Pc [.int (nI k), .int (nI n), .ref t] (gW0 s0 D cy B x)) (va_Qi (fun r u => r = nI k ∧ x = u) (fun u t => gW1 D cy B u t) (gA B)) 0 0 (gA B) := by
  refine g_met (maxL := 3) (ret := (some .int)) (by decide) rfl (Nat.le_of_ble_eq_true rfl) (fun p e s m args below meth c ls X hr hlk hnm hK hP hC hS hl => ?_)
  have hl : lv_has ls 3 [(0, .int (nI k)), (1, .int (nI n)), (2, .ref t)] := hl
  have hP : gP D cy B x.1 x.2.1 x.2.2.1 x.2.2.2 s.heap := hP
  have hB : B ≤ s.heap.size := by rw [hP.1]; exact hP.2.1
  refine lv_iload_n X.1 X.2.1 dJ3_checkIndex_8e157_0 rfl (lv_at hl 0 rfl) ?_
  refine lv_if_lt (tgt := 9) X.1 X.2.1 dJ3_checkIndex_8e157_1 (by decide) (fun c1 => ?_) (fun c1 => ?_)
  · exact absurd c1 (nI_pos (by omega))
  · have n1 : 0 ≤ k := gq_nlt c1 (Eq.refl (nI k)) (show (0 : Int32) = nI 0 from rfl) (by omega) (by omega)
    refine lv_iload_n X.1 X.2.1 dJ3_checkIndex_8e157_4 rfl (lv_at hl 0 rfl) ?_
    refine lv_iload_n X.1 X.2.1 dJ3_checkIndex_8e157_5 rfl (lv_at hl 1 rfl) ?_
    refine lv_icmp_lt (tgt := 16) X.1 X.2.1 dJ3_checkIndex_8e157_6 (by decide) (fun c6 => ?_) (fun c6 => ?_)
    · have n6 : k < n := gq_lt c6 (Eq.refl (nI k)) (Eq.refl (nI n)) (by omega) (by omega)
      refine lv_iload_n X.1 X.2.1 dJ3_checkIndex_8e157_16 rfl (lv_at hl 0 rfl) ?_
      exact g_iret x X hr hlk hK hP hS dJ3_checkIndex_8e157_17 ⟨rfl, rfl⟩
    · exact absurd (nI_lt hk (by omega)) c6

theorem j_pci {k n : Nat} {f : Value} (hf : f = .null ∨ ∃ t, f = .ref t) (hk : k < n) (hn : n < 1000) : Met l yJ3_checkIndex_8e157 wsJ3_checkIndex_8e157 ({ frames := 0, cells := 0, slots := 0, locals := 0 }) (va_Pc [.int (nI k), .int (nI n), f] (gW0 s0 D cy B x)) (va_Qi (fun r u => r = nI k ∧ x = u) (fun u t => gW1 D cy B u t) (gA B)) 0 0 (gA B) := by
  rcases hf with rfl | ⟨t, rfl⟩
  · exact j_pci0 (t := 0) hk hn
  · exact j_pci1 hk hn
set_option maxHeartbeats 4000000 in
set_option maxRecDepth 100000 in
/-- String.checkIndex -/
theorem j_sci {k n : Nat} (h2 : gSt2 s0 B) (hk : k < n) (hn : n < 1000) : Met l yJ0_checkIndex_df160 wsJ0_checkIndex_df160 ({ frames := 1, cells := 0, slots := 0, locals := 22 }) (va_Pc [.int (nI k), .int (nI n)] (gW0 s0 D cy B x)) (va_Qv (fun u => x = u) (fun u t => gW1 D cy B u t) (gA B)) 0 0 (gA B) := by
  refine g_met (maxL := 2) (ret := none) (by decide) rfl (Nat.le_of_ble_eq_true rfl) (fun p e s m args below meth c ls X hr hlk hnm hK hP hC hS hl => ?_)
  have hl : lv_has ls 2 [(0, .int (nI k)), (1, .int (nI n))] := hl
  have hP : gP D cy B x.1 x.2.1 x.2.2.1 x.2.2.2 s.heap := hP
  have hB : B ≤ s.heap.size := by rw [hP.1]; exact hP.2.1
  have h20 := h2
  replace h2 := h2.now hC
  refine lv_iload_n X.1 X.2.1 dJ0_checkIndex_df160_0 rfl (lv_at hl 0 rfl) ?_
  refine lv_iload_n X.1 X.2.1 dJ0_checkIndex_df160_1 rfl (lv_at hl 1 rfl) ?_
  obtain ⟨f9, hf9⟩ : ∃ f9 : Value, (f9 = .null ∨ ∃ t, f9 = .ref t) ∧ va_Z "jdk/internal/util/Preconditions" "SIOOBE_FORMATTER" "Ljava/util/function/BiFunction;" f9 (gA B) s s.heap := h2.2.elim (fun h => ⟨_, Or.inl rfl, h⟩) (fun ⟨t, h⟩ => ⟨_, Or.inr ⟨t, rfl⟩, h⟩)
  refine va_gets X.1 X.2.1 hf9.2 hS X.2.2.2.1 (X.2.2.2.2 (.fieldLink RJ0 1053 "jdk/internal/util/Preconditions" "SIOOBE_FORMATTER" "Ljava/util/function/BiFunction;") (by decide +kernel)) (fun _ h => h) dJ0_checkIndex_df160_2 ?_
  refine g_run_i (g_runS [.int (nI k), .int (nI n), f9] X hK hP hS hC hB (j_pci hf9.1 hk hn) (va_cwS 3 X.2.2.2.2 gJ0_checkIndex_df160_J3_checkIndex_8e157 rfl rfl rfl (by decide +kernel) ⟨Nat.le_of_ble_eq_true rfl, Nat.le_of_ble_eq_true rfl⟩) rfl hl.1 rfl (Nat.le_of_ble_eq_true rfl) dJ0_checkIndex_df160_5 (by exact ⟨Nat.zero_le _, Nat.zero_le _⟩)) hS (fun r u H locs hq hP hS => ?_)
  obtain ⟨rfl, rfl⟩ := hq
  refine lv_pop X.1 X.2.1 dJ0_checkIndex_df160_8 rfl ?_
  exact g_vret x X hr hlk hK hP hS dJ0_checkIndex_df160_9 rfl

set_option maxHeartbeats 4000000 in
set_option maxRecDepth 100000 in
/-- StringLatin1.charAt -/
theorem j_lca {k : Nat} (hs : gSo s0 B tx a q) (h2 : gSt2 s0 B) (htx : gTx tx) (hk : k < tx.length) : Met l yJ1_charAt_3b067 wsJ1_charAt_3b067 ({ frames := 2, cells := 0, slots := 0, locals := 43 }) (va_Pc [.ref q, .int (nI k)] (gW0 s0 D cy B x)) (va_Qi (fun r u => r = nI (tx.getD k 0) ∧ x = u) (fun u t => gW1 D cy B u t) (gA B)) 0 0 (gA B) := by
  refine g_met (maxL := 2) (ret := (some .char)) (by decide) rfl (Nat.le_of_ble_eq_true rfl) (fun p e s m args below meth c ls X hr hlk hnm hK hP hC hS hl => ?_)
  have hl : lv_has ls 2 [(0, .ref q), (1, .int (nI k))] := hl
  have hP : gP D cy B x.1 x.2.1 x.2.2.1 x.2.2.2 s.heap := hP
  have hB : B ≤ s.heap.size := by rw [hP.1]; exact hP.2.1
  have hs0 := hs
  replace hs := hs.now hC
  have h20 := h2
  replace h2 := h2.now hC
  have ht1 := htx.1
  refine lv_iload_n X.1 X.2.1 dJ1_charAt_3b067_0 rfl (lv_at hl 1 rfl) ?_
  refine lv_aload_n X.1 X.2.1 dJ1_charAt_3b067_1 rfl (lv_at hl 0 rfl) ?_
  refine va_tlen (v := nI tx.length) X.1 X.2.1 hs.2.2.2 hS rfl dJ1_charAt_3b067_2 ?_
  refine g_run_v (g_runS [.int (nI k), .int (nI tx.length)] X hK hP hS hC hB (j_sci h20 hk (by omega)) (va_cwS 2 X.2.2.2.2 gJ1_charAt_3b067_J0_checkIndex_df160 rfl rfl rfl (by decide +kernel) ⟨Nat.le_of_ble_eq_true rfl, Nat.le_of_ble_eq_true rfl⟩) rfl hl.1 rfl (Nat.le_of_ble_eq_true rfl) dJ1_charAt_3b067_3 (by exact ⟨Nat.zero_le _, Nat.zero_le _⟩)) hS (fun u H locs hq hP hS => ?_)
  obtain rfl := hq
  refine lv_aload_n X.1 X.2.1 dJ1_charAt_3b067_6 rfl (lv_at hl 0 rfl) ?_
  refine lv_iload_n X.1 X.2.1 dJ1_charAt_3b067_7 rfl (lv_at hl 1 rfl) ?_
  refine va_tb (v := .int (nI (tx.getD k 0))) X.1 X.2.1 hs.2.2.2 hS (vp_in_nI (by omega) (by omega)) (by rw [nI_clamp (by omega)]) dJ1_charAt_3b067_8 ?_
  refine lv_sipush (v := 255) X.1 X.2.1 dJ1_charAt_3b067_9 (by decide) ?_
  refine lv_iand X.1 X.2.1 dJ1_charAt_3b067_12 ?_
  refine lv_i2c X.1 X.2.1 dJ1_charAt_3b067_13 rfl ?_
  exact g_cret x X hr hlk hK hP hS dJ1_charAt_3b067_14 (by rw [g_ch _ (htx.2 k)]; exact g_chn _ (htx.2 k)) ⟨g_ch _ (htx.2 k), rfl⟩

set_option maxHeartbeats 4000000 in
set_option maxRecDepth 100000 in
/-- String.charAt -/
theorem j_ca {k : Nat} (hs : gSo s0 B tx a q) (h2 : gSt2 s0 B) (htx : gTx tx) (hk : k < tx.length) : Met l yJ0_charAt_5068e wsJ0_charAt_5068e ({ frames := 3, cells := 0, slots := 0, locals := 64 }) (va_Pc [.ref a, .int (nI k)] (gW0 s0 D cy B x)) (va_Qi (fun r u => r = nI (tx.getD k 0) ∧ x = u) (fun u t => gW1 D cy B u t) (gA B)) 0 0 (gA B) := by
  refine g_met (maxL := 2) (ret := (some .char)) (by decide) rfl (Nat.le_of_ble_eq_true rfl) (fun p e s m args below meth c ls X hr hlk hnm hK hP hC hS hl => ?_)
  have hl : lv_has ls 2 [(0, .ref a), (1, .int (nI k))] := hl
  have hP : gP D cy B x.1 x.2.1 x.2.2.1 x.2.2.2 s.heap := hP
  have hB : B ≤ s.heap.size := by rw [hP.1]; exact hP.2.1
  have hs0 := hs
  replace hs := hs.now hC
  have h20 := h2
  replace h2 := h2.now hC
  refine lv_aload_n X.1 X.2.1 dJ0_charAt_5068e_0 rfl (lv_at hl 0 rfl) ?_
  refine g_run_i (g_runVO [] X hK hP hS hC hB (j_lat hs0 h20) (cwV 0 X.2.2.2.2 gJ0_charAt_5068e_J0_isLatin1_aae02 rfl rfl rfl (by decide +kernel) ⟨Nat.le_of_ble_eq_true rfl, Nat.le_of_ble_eq_true rfl⟩) hs.1 rfl hl.1 rfl (Nat.le_of_ble_eq_true rfl) dJ0_charAt_5068e_1 (by exact ⟨Nat.zero_le _, Nat.zero_le _⟩)) hS (fun r u H locs hq hP hS => ?_)
  obtain ⟨rfl, rfl⟩ := hq
  refine lv_if_eq (tgt := 16) X.1 X.2.1 dJ0_charAt_5068e_4 (by decide) (fun c4 => ?_) (fun c4 => ?_)
  · exact absurd c4 (by decide)
  · have n4 : ¬ 1 = 0 := gq_ne c4 (show (1 : Int32) = nI 1 from rfl) (show (0 : Int32) = nI 0 from rfl) (by omega) (by omega)
    refine lv_aload_n X.1 X.2.1 dJ0_charAt_5068e_7 rfl (lv_at hl 0 rfl) ?_
    refine vk_getf X.1 X.2.1 hs.2.2.1 hS X.2.2.2.1 (X.2.2.2.2 (.fieldLink RJ0 9 "java/lang/String" "value" "[B") (by decide +kernel)) (fun _ h => h) dJ0_charAt_5068e_8 ?_
    refine lv_iload_n X.1 X.2.1 dJ0_charAt_5068e_11 rfl (lv_at hl 1 rfl) ?_
    refine g_run_i (g_runS [.ref q, .int (nI k)] X hK hP hS hC hB (j_lca hs0 h20 htx hk) (va_cwS 2 X.2.2.2.2 gJ0_charAt_5068e_J1_charAt_3b067 rfl rfl rfl (by decide +kernel) ⟨Nat.le_of_ble_eq_true rfl, Nat.le_of_ble_eq_true rfl⟩) rfl hl.1 rfl (Nat.le_of_ble_eq_true rfl) dJ0_charAt_5068e_12 (by exact ⟨Nat.zero_le _, Nat.zero_le _⟩)) hS (fun r u H locs hq hP hS => ?_)
    obtain ⟨rfl, rfl⟩ := hq
    exact g_cret x X hr hlk hK hP hS dJ0_charAt_5068e_15 (g_chn _ (htx.2 k)) ⟨rfl, rfl⟩

set_option maxHeartbeats 4000000 in
set_option maxRecDepth 100000 in
/-- StringLatin1.canEncode -/
theorem j_can {n : Nat} (hn : n < 128) : Met l yJ1_canEncode_9a6ad wsJ1_canEncode_9a6ad ({ frames := 0, cells := 0, slots := 0, locals := 0 }) (va_Pc [.int (nI n)] (gW0 s0 D cy B x)) (va_Qi (fun r u => r = 1 ∧ x = u) (fun u t => gW1 D cy B u t) (gA B)) 0 0 (gA B) := by
  refine g_met (maxL := 1) (ret := (some .boolean)) (by decide) rfl (Nat.le_of_ble_eq_true rfl) (fun p e s m args below meth c ls X hr hlk hnm hK hP hC hS hl => ?_)
  have hl : lv_has ls 1 [(0, .int (nI n))] := hl
  have hP : gP D cy B x.1 x.2.1 x.2.2.1 x.2.2.2 s.heap := hP
  have hB : B ≤ s.heap.size := by rw [hP.1]; exact hP.2.1
  refine lv_iload_n X.1 X.2.1 dJ1_canEncode_9a6ad_0 rfl (lv_at hl 0 rfl) ?_
  refine lv_if_lt (tgt := 15) X.1 X.2.1 dJ1_canEncode_9a6ad_1 (by decide) (fun c1 => ?_) (fun c1 => ?_)
  · exact absurd c1 (nI_pos (by omega))
  · have n1 : 0 ≤ n := gq_nlt c1 (Eq.refl (nI n)) (show (0 : Int32) = nI 0 from rfl) (by omega) (by omega)
    refine lv_iload_n X.1 X.2.1 dJ1_canEncode_9a6ad_4 rfl (lv_at hl 0 rfl) ?_
    refine lv_sipush (v := 255) X.1 X.2.1 dJ1_canEncode_9a6ad_5 (by decide) ?_
    refine lv_icmp_gt (tgt := 15) X.1 X.2.1 dJ1_canEncode_9a6ad_8 (by decide) (fun c8 => ?_) (fun c8 => ?_)
    · exact absurd (gq_lt c8 (show (255 : Int32) = nI 255 from rfl) (Eq.refl (nI n)) (by omega) (by omega)) (by omega)
    · have n8 : n ≤ 255 := gq_nlt c8 (show (255 : Int32) = nI 255 from rfl) (Eq.refl (nI n)) (by omega) (by omega)
      refine lv_iconst (v := 1) X.1 X.2.1 dJ1_canEncode_9a6ad_11 (by decide) ?_
      refine lv_goto (tgt := 16) X.1 X.2.1 dJ1_canEncode_9a6ad_12 (by decide) ?_
      exact g_zret x X hr hlk hK hP hS dJ1_canEncode_9a6ad_16 rfl ⟨rfl, rfl⟩

/-- where n stands in tx from k on, else -1 -/
def sIx (n : Nat) : List Nat → Nat → Int32
  | [], _ => -1
  | b :: r, k => if b = n then nI k else sIx n r (k + 1)

set_option maxHeartbeats 4000000 in
set_option maxRecDepth 100000 in
/-- StringLatin1.indexOfChar -/
theorem j_ixc {n : Nat} (hs : gSo s0 B tx a q) (htx : gTx tx) (hn : n < 128) : Met l yJ1_indexOfChar_4cfef wsJ1_indexOfChar_4cfef ({ frames := 0, cells := 0, slots := 0, locals := 0 }) (va_Pc [.ref q, .int (nI n), .int 0, .int (nI tx.length)] (gW0 s0 D cy B x)) (va_Qi (fun r u => r = sIx n tx 0 ∧ x = u) (fun u t => gW1 D cy B u t) (gA B)) 0 0 (gA B) := by
  refine g_met (maxL := 6) (ret := (some .int)) (by decide) rfl (Nat.le_of_ble_eq_true rfl) (fun p e s m args below meth c ls X hr hlk hnm hK hP hC hS hl => ?_)
  have hl : lv_has ls 6 [(0, .ref q), (1, .int (nI n)), (2, .int 0), (3, .int (nI tx.length))] := hl
  have hP : gP D cy B x.1 x.2.1 x.2.2.1 x.2.2.2 s.heap := hP
  have hB : B ≤ s.heap.size := by rw [hP.1]; exact hP.2.1
  have hs0 := hs
  replace hs := hs.now hC
  have ht1 := htx.1
  refine lv_iload_n X.1 X.2.1 dJ1_indexOfChar_4cfef_0 rfl (lv_at hl 1 rfl) ?_
  refine lv_i2b (v := nI n) X.1 X.2.1 dJ1_indexOfChar_4cfef_1 (g_i2b _ hn) ?_
  refine lv_istore (lv' := [(4, .int (nI n)), (0, .ref q), (1, .int (nI n)), (2, .int 0), (3, .int (nI tx.length))]) X.1 X.2.1 dJ1_indexOfChar_4cfef_2 hl (by decide) rfl (fun ls hl => ?_)
  refine lv_iload_n X.1 X.2.1 dJ1_indexOfChar_4cfef_4 rfl (lv_at hl 3 rfl) ?_
  refine lv_istore (lv' := [(5, .int 0), (4, .int (nI n)), (0, .ref q), (1, .int (nI n)), (2, .int 0), (3, .int (nI tx.length))]) X.1 X.2.1 dJ1_indexOfChar_4cfef_5 hl (by decide) rfl (fun ls hl => ?_)
  refine k_loop tx.length 7 [] (fun k ls => (sIx n tx 0 = sIx n (tx.drop k) k) ∧ lv_has ls 6 [(0, .ref q), (1, .int (nI n)), (2, .int 0), (3, .int (nI tx.length)), (4, .int (nI n)), (5, .int (nI k))]) 0 (by omega) ⟨rfl, lv_sub hl [2, 3, 4, 5, 1, 0] rfl⟩ (fun k ls hk hiv ih => ?_)
  obtain ⟨hix, hl⟩ := hiv
  refine lv_iload X.1 X.2.1 dJ1_indexOfChar_4cfef_7 (lv_at hl 5 rfl) ?_
  refine lv_iload_n X.1 X.2.1 dJ1_indexOfChar_4cfef_9 rfl (lv_at hl 3 rfl) ?_
  refine lv_icmp_ge (tgt := 31) X.1 X.2.1 dJ1_indexOfChar_4cfef_10 (by decide) (fun c10 => ?_) (fun c10 => ?_)
  · have n10 : tx.length ≤ k := gq_le c10 (Eq.refl (nI tx.length)) (Eq.refl (nI k)) (by omega) (by omega)
    refine lv_iconst (v := (-1)) X.1 X.2.1 dJ1_indexOfChar_4cfef_31 (by decide) ?_
    exact g_iret x X hr hlk hK hP hS dJ1_indexOfChar_4cfef_32 ⟨(by rw [hix, List.drop_eq_nil_of_le n10]; rfl), rfl⟩
  · have n10 : k < tx.length := gq_nle c10 (Eq.refl (nI tx.length)) (Eq.refl (nI k)) (by omega) (by omega)
    have hdr := drop_c n10
    have hcd := htx.2 k
    refine lv_aload_n X.1 X.2.1 dJ1_indexOfChar_4cfef_13 rfl (lv_at hl 0 rfl) ?_
    refine lv_iload X.1 X.2.1 dJ1_indexOfChar_4cfef_14 (lv_at hl 5 rfl) ?_
    refine va_tb (v := .int (nI (tx.getD k 0))) X.1 X.2.1 hs.2.2.2 hS (vp_in_nI (by omega) (by omega)) (by rw [nI_clamp (by omega)]) dJ1_indexOfChar_4cfef_16 ?_
    refine lv_iload X.1 X.2.1 dJ1_indexOfChar_4cfef_17 (lv_at hl 4 rfl) ?_
    refine lv_icmp_ne (tgt := 25) X.1 X.2.1 dJ1_indexOfChar_4cfef_19 (by decide) (fun c19 => ?_) (fun c19 => ?_)
    · have n19 : ¬ (tx.getD k 0) = n := gq_ne c19 (Eq.refl (nI (tx.getD k 0))) (Eq.refl (nI n)) (by omega) (by omega)
      refine lv_iinc (v := nI (k + 1)) (lv' := [(5, .int (nI (k + 1))), (0, .ref q), (1, .int (nI n)), (2, .int 0), (3, .int (nI tx.length)), (4, .int (nI n))]) X.1 X.2.1 dJ1_indexOfChar_4cfef_25 hl (k := 5) rfl (gn_inc (Eq.refl (nI k)) 1) (by decide) rfl (fun ls hl => ?_)
      refine lv_goto (tgt := 7) X.1 X.2.1 dJ1_indexOfChar_4cfef_28 (by decide) ?_
      exact ih _ (by omega) ⟨by rw [hix, hdr]; exact if_neg n19, lv_sub hl [1, 2, 3, 4, 5, 0] rfl⟩
    · have n19 : (tx.getD k 0) = n := gq_eq c19 (Eq.refl (nI (tx.getD k 0))) (Eq.refl (nI n)) (by omega) (by omega)
      refine lv_iload X.1 X.2.1 dJ1_indexOfChar_4cfef_22 (lv_at hl 5 rfl) ?_
      exact g_iret x X hr hlk hK hP hS dJ1_indexOfChar_4cfef_24 ⟨(by rw [hix, hdr]; exact (if_pos n19).symm), rfl⟩

set_option maxHeartbeats 4000000 in
set_option maxRecDepth 100000 in
/-- StringLatin1.indexOf -/
theorem j_lix {n : Nat} (hs : gSo s0 B tx a q) (htx : gTx tx) (hn : n < 128) : Met l yJ1_indexOf_4cfef wsJ1_indexOf_4cfef ({ frames := 1, cells := 0, slots := 0, locals := 25 }) (va_Pc [.ref q, .int (nI n), .int 0, .int (nI tx.length)] (gW0 s0 D cy B x)) (va_Qi (fun r u => r = sIx n tx 0 ∧ x = u) (fun u t => gW1 D cy B u t) (gA B)) 0 0 (gA B) := by
  refine g_met (maxL := 4) (ret := (some .int)) (by decide) rfl (Nat.le_of_ble_eq_true rfl) (fun p e s m args below meth c ls X hr hlk hnm hK hP hC hS hl => ?_)
  have hl : lv_has ls 4 [(0, .ref q), (1, .int (nI n)), (2, .int 0), (3, .int (nI tx.length))] := hl
  have hP : gP D cy B x.1 x.2.1 x.2.2.1 x.2.2.2 s.heap := hP
  have hB : B ≤ s.heap.size := by rw [hP.1]; exact hP.2.1
  have hs0 := hs
  replace hs := hs.now hC
  have ht1 := htx.1
  refine lv_iload_n X.1 X.2.1 dJ1_indexOf_4cfef_0 rfl (lv_at hl 1 rfl) ?_
  refine g_run_i (g_runS [.int (nI n)] X hK hP hS hC hB (j_can hn) (va_cwS 1 X.2.2.2.2 gJ1_indexOf_4cfef_J1_canEncode_9a6ad rfl rfl rfl (by decide +kernel) ⟨Nat.le_of_ble_eq_true rfl, Nat.le_of_ble_eq_true rfl⟩) rfl hl.1 rfl (Nat.le_of_ble_eq_true rfl) dJ1_indexOf_4cfef_1 (by exact ⟨Nat.zero_le _, Nat.zero_le _⟩)) hS (fun r u H locs hq hP hS => ?_)
  obtain ⟨rfl, rfl⟩ := hq
  refine lv_if_ne (tgt := 9) X.1 X.2.1 dJ1_indexOf_4cfef_4 (by decide) (fun c4 => ?_) (fun c4 => ?_)
  · have n4 : ¬ 1 = 0 := gq_ne c4 (show (1 : Int32) = nI 1 from rfl) (show (0 : Int32) = nI 0 from rfl) (by omega) (by omega)
    refine lv_iload_n X.1 X.2.1 dJ1_indexOf_4cfef_9 rfl (lv_at hl 2 rfl) ?_
    refine lv_iconst (v := 0) X.1 X.2.1 dJ1_indexOf_4cfef_10 (by decide) ?_
    refine va_mmax X.1 X.2.1 (X.2.2.1.trans hl.1.symm) X.2.2.2.1 (X.2.2.2.2 (.methodLink RJ1 92 Lib.Math.max.name) (by decide +kernel)) (X.2.2.2.2 (.static Lib.Math.max.name) (by decide +kernel)) (X.2.2.2.2 (.initialized "java/lang/Math") (by decide +kernel)) (X.2.2.2.2 (.code Lib.Math.max.name Lib.Math.max.code 2 (some .int)) (by decide +kernel)) (Nat.le_of_ble_eq_true rfl) (Nat.le_of_ble_eq_true rfl) (Nat.zero_le _) (Nat.zero_le _) dJ1_indexOf_4cfef_11 ?_
    refine lv_cv (show (if (0 : Int32) < 0 then (0 : Int32) else 0) = 0 from rfl) ?_
    refine lv_istore_n (lv' := [(2, .int 0), (0, .ref q), (1, .int (nI n)), (3, .int (nI tx.length))]) X.1 X.2.1 dJ1_indexOf_4cfef_14 rfl hl (by decide) rfl (fun ls hl => ?_)
    refine lv_iload_n X.1 X.2.1 dJ1_indexOf_4cfef_15 rfl (lv_at hl 3 rfl) ?_
    refine lv_aload_n X.1 X.2.1 dJ1_indexOf_4cfef_16 rfl (lv_at hl 1 rfl) ?_
    refine va_tlen (v := nI tx.length) X.1 X.2.1 hs.2.2.2 hS rfl dJ1_indexOf_4cfef_17 ?_
    refine va_mmin X.1 X.2.1 (X.2.2.1.trans hl.1.symm) X.2.2.2.1 (X.2.2.2.2 (.methodLink RJ1 38 Lib.Math.min.name) (by decide +kernel)) (X.2.2.2.2 (.static Lib.Math.min.name) (by decide +kernel)) (X.2.2.2.2 (.initialized "java/lang/Math") (by decide +kernel)) (X.2.2.2.2 (.code Lib.Math.min.name Lib.Math.min.code 2 (some .int)) (by decide +kernel)) (Nat.le_of_ble_eq_true rfl) (Nat.le_of_ble_eq_true rfl) (Nat.zero_le _) (Nat.zero_le _) dJ1_indexOf_4cfef_18 ?_
    refine lv_cv (show (if nI tx.length < nI tx.length then nI tx.length else nI tx.length) = nI tx.length from ite_self _) ?_
    refine lv_istore_n (lv' := [(3, .int (nI tx.length)), (2, .int 0), (0, .ref q), (1, .int (nI n))]) X.1 X.2.1 dJ1_indexOf_4cfef_21 rfl hl (by decide) rfl (fun ls hl => ?_)
    refine lv_iload_n X.1 X.2.1 dJ1_indexOf_4cfef_22 rfl (lv_at hl 1 rfl) ?_
    refine lv_iload_n X.1 X.2.1 dJ1_indexOf_4cfef_23 rfl (lv_at hl 0 rfl) ?_
    refine lv_icmp_lt (tgt := 29) X.1 X.2.1 dJ1_indexOf_4cfef_24 (by decide) (fun c24 => ?_) (fun c24 => ?_)
    · have n24 : 0 < tx.length := gq_lt c24 (show (0 : Int32) = nI 0 from rfl) (Eq.refl (nI tx.length)) (by omega) (by omega)
      refine lv_aload_n X.1 X.2.1 dJ1_indexOf_4cfef_29 rfl (lv_at hl 2 rfl) ?_
      refine lv_iload_n X.1 X.2.1 dJ1_indexOf_4cfef_30 rfl (lv_at hl 3 rfl) ?_
      refine lv_iload_n X.1 X.2.1 dJ1_indexOf_4cfef_31 rfl (lv_at hl 1 rfl) ?_
      refine lv_iload_n X.1 X.2.1 dJ1_indexOf_4cfef_32 rfl (lv_at hl 0 rfl) ?_
      refine g_run_i (g_runS [.ref q, .int (nI n), .int 0, .int (nI tx.length)] X hK hP hS hC hB (j_ixc hs0 htx hn) (va_cwS 4 X.2.2.2.2 gJ1_indexOf_4cfef_J1_indexOfChar_4cfef rfl rfl rfl (by decide +kernel) ⟨Nat.le_of_ble_eq_true rfl, Nat.le_of_ble_eq_true rfl⟩) rfl hl.1 rfl (Nat.le_of_ble_eq_true rfl) dJ1_indexOf_4cfef_33 (by exact ⟨Nat.zero_le _, Nat.zero_le _⟩)) hS (fun r u H locs hq hP hS => ?_)
      obtain ⟨rfl, rfl⟩ := hq
      exact g_iret x X hr hlk hK hP hS dJ1_indexOf_4cfef_36 ⟨rfl, rfl⟩
    · exact absurd (nI_lt (a := 0) ht1.1 (by omega)) c24
  · exact absurd c4 (by decide)

set_option maxHeartbeats 4000000 in
set_option maxRecDepth 100000 in
/-- String.indexOf(c, 0) -/
theorem j_ix2 {n : Nat} (hs : gSo s0 B tx a q) (h2 : gSt2 s0 B) (htx : gTx tx) (hn : n < 128) : Met l yJ0_indexOf_7cf53 wsJ0_indexOf_7cf53 ({ frames := 2, cells := 0, slots := 0, locals := 48 }) (va_Pc [.ref a, .int (nI n), .int 0] (gW0 s0 D cy B x)) (va_Qi (fun r u => r = sIx n tx 0 ∧ x = u) (fun u t => gW1 D cy B u t) (gA B)) 0 0 (gA B) := by
  refine g_met (maxL := 3) (ret := (some .int)) (by decide) rfl (Nat.le_of_ble_eq_true rfl) (fun p e s m args below meth c ls X hr hlk hnm hK hP hC hS hl => ?_)
  have hl : lv_has ls 3 [(0, .ref a), (1, .int (nI n)), (2, .int 0)] := hl
  have hP : gP D cy B x.1 x.2.1 x.2.2.1 x.2.2.2 s.heap := hP
  have hB : B ≤ s.heap.size := by rw [hP.1]; exact hP.2.1
  have hs0 := hs
  replace hs := hs.now hC
  have h20 := h2
  replace h2 := h2.now hC
  refine lv_aload_n X.1 X.2.1 dJ0_indexOf_7cf53_0 rfl (lv_at hl 0 rfl) ?_
  refine g_run_i (g_runVO [] X hK hP hS hC hB (j_lat hs0 h20) (cwV 0 X.2.2.2.2 gJ0_indexOf_7cf53_J0_isLatin1_aae02 rfl rfl rfl (by decide +kernel) ⟨Nat.le_of_ble_eq_true rfl, Nat.le_of_ble_eq_true rfl⟩) hs.1 rfl hl.1 rfl (Nat.le_of_ble_eq_true rfl) dJ0_indexOf_7cf53_1 (by exact ⟨Nat.zero_le _, Nat.zero_le _⟩)) hS (fun r u H locs hq hP hS => ?_)
  obtain ⟨rfl, rfl⟩ := hq
  refine lv_if_eq (tgt := 23) X.1 X.2.1 dJ0_indexOf_7cf53_4 (by decide) (fun c4 => ?_) (fun c4 => ?_)
  · exact absurd c4 (by decide)
  · have n4 : ¬ 1 = 0 := gq_ne c4 (show (1 : Int32) = nI 1 from rfl) (show (0 : Int32) = nI 0 from rfl) (by omega) (by omega)
    refine lv_aload_n X.1 X.2.1 dJ0_indexOf_7cf53_7 rfl (lv_at hl 0 rfl) ?_
    refine vk_getf X.1 X.2.1 hs.2.2.1 hS X.2.2.2.1 (X.2.2.2.2 (.fieldLink RJ0 9 "java/lang/String" "value" "[B") (by decide +kernel)) (fun _ h => h) dJ0_indexOf_7cf53_8 ?_
    refine lv_iload_n X.1 X.2.1 dJ0_indexOf_7cf53_11 rfl (lv_at hl 1 rfl) ?_
    refine lv_iload_n X.1 X.2.1 dJ0_indexOf_7cf53_12 rfl (lv_at hl 2 rfl) ?_
    refine lv_aload_n X.1 X.2.1 dJ0_indexOf_7cf53_13 rfl (lv_at hl 0 rfl) ?_
    refine g_run_i (g_runVO [] X hK hP hS hC hB (j_len hs0 h20 htx) (cwV 0 X.2.2.2.2 gJ0_indexOf_7cf53_J0_length_8abf5 rfl rfl rfl (by decide +kernel) ⟨Nat.le_of_ble_eq_true rfl, Nat.le_of_ble_eq_true rfl⟩) hs.1 rfl hl.1 rfl (Nat.le_of_ble_eq_true rfl) dJ0_indexOf_7cf53_14 (by exact ⟨Nat.zero_le _, Nat.zero_le _⟩)) hS (fun r u H locs hq hP hS => ?_)
    obtain ⟨rfl, rfl⟩ := hq
    refine g_run_i (g_runS [.ref q, .int (nI n), .int 0, .int (nI tx.length)] X hK hP hS hC hB (j_lix hs0 htx hn) (va_cwS 4 X.2.2.2.2 gJ0_indexOf_7cf53_J1_indexOf_4cfef rfl rfl rfl (by decide +kernel) ⟨Nat.le_of_ble_eq_true rfl, Nat.le_of_ble_eq_true rfl⟩) rfl hl.1 rfl (Nat.le_of_ble_eq_true rfl) dJ0_indexOf_7cf53_17 (by exact ⟨Nat.zero_le _, Nat.zero_le _⟩)) hS (fun r u H locs hq hP hS => ?_)
    obtain ⟨rfl, rfl⟩ := hq
    refine lv_goto (tgt := 36) X.1 X.2.1 dJ0_indexOf_7cf53_20 (by decide) ?_
    exact g_iret x X hr hlk hK hP hS dJ0_indexOf_7cf53_36 ⟨rfl, rfl⟩

set_option maxHeartbeats 4000000 in
set_option maxRecDepth 100000 in
/-- String.indexOf(c) -/
theorem j_ix {n : Nat} (hs : gSo s0 B tx a q) (h2 : gSt2 s0 B) (htx : gTx tx) (hn : n < 128) : Met l yJ0_indexOf_0f7a4 wsJ0_indexOf_0f7a4 ({ frames := 3, cells := 0, slots := 0, locals := 70 }) (va_Pc [.ref a, .int (nI n)] (gW0 s0 D cy B x)) (va_Qi (fun r u => r = sIx n tx 0 ∧ x = u) (fun u t => gW1 D cy B u t) (gA B)) 0 0 (gA B) := by
  refine g_met (maxL := 2) (ret := (some .int)) (by decide) rfl (Nat.le_of_ble_eq_true rfl) (fun p e s m args below meth c ls X hr hlk hnm hK hP hC hS hl => ?_)
  have hl : lv_has ls 2 [(0, .ref a), (1, .int (nI n))] := hl
  have hP : gP D cy B x.1 x.2.1 x.2.2.1 x.2.2.2 s.heap := hP
  have hB : B ≤ s.heap.size := by rw [hP.1]; exact hP.2.1
  have hs0 := hs
  replace hs := hs.now hC
  have h20 := h2
  replace h2 := h2.now hC
  refine lv_aload_n X.1 X.2.1 dJ0_indexOf_0f7a4_0 rfl (lv_at hl 0 rfl) ?_
  refine lv_iload_n X.1 X.2.1 dJ0_indexOf_0f7a4_1 rfl (lv_at hl 1 rfl) ?_
  refine lv_iconst (v := 0) X.1 X.2.1 dJ0_indexOf_0f7a4_2 (by decide) ?_
  refine g_run_i (g_runVO [.int (nI n), .int 0] X hK hP hS hC hB (j_ix2 hs0 h20 htx hn) (cwV 2 X.2.2.2.2 gJ0_indexOf_0f7a4_J0_indexOf_7cf53 rfl rfl rfl (by decide +kernel) ⟨Nat.le_of_ble_eq_true rfl, Nat.le_of_ble_eq_true rfl⟩) hs.1 rfl hl.1 rfl (Nat.le_of_ble_eq_true rfl) dJ0_indexOf_0f7a4_3 (by exact ⟨Nat.zero_le _, Nat.zero_le _⟩)) hS (fun r u H locs hq hP hS => ?_)
  obtain ⟨rfl, rfl⟩ := hq
  exact g_iret x X hr hlk hK hP hS dJ0_indexOf_0f7a4_6 ⟨rfl, rfl⟩

end ST2