/-! Object's constructor; a static method that a superclass declares, called by a subclass's name; super.m(..) of a method that the superclass inherits. -/
section UP
variable {p : Program} {l : Launch} {e : Env} {R : Room} {s : State} {m : MethodId} {args : Array Value} {below : List Frame} {meth : Method} {c : Code} {T : State} {locs : List Loc} {cells slots : Nat}
/-- a list of words that hold from s0 on -/
def gWs (s0 : State) (ws : List Cond) : Prop := ∀ w ∈ ws, ∀ (a' : Array Value) (U : State), s0.WarmedH U.vm → w.before a' U = true
theorem gWs.now {s0 : State} {ws : List Cond} {B : Nat} (h : gWs s0 ws) (hC : gCst s0 B s) : ∀ w ∈ ws, ∀ (a' : Array Value) (U : State), s.WarmedH U.vm → w.before a' U = true := fun w hw a' U hU => h w hw a' U (State.WarmedH.trans hC.1 hU)
theorem gWs.at {s0 : State} {ws : List Cond} {B : Nat} (h : gWs s0 ws) (hC : gCst s0 B s) {w : Cond} (hw : w ∈ ws) : w.before args s = true := h w hw args s hC.1
theorem g_oinit {Q : State → Prop} {cc : ByteArray} {nL : Nat} {Ts : List Cond} {own : String} {pc : Nat} {ls : Array Slot} {rest : List Value} {H : Heap} {a index : Nat} (X : CallFix p m c cc nL s args Ts own) (hl : ls.size = nL) (h1 : Cond.methodLink own index Lib.objectInit ∈ Ts) (h2 : Cond.instanceMethod Lib.objectInit ∈ Ts) (h3 : Cond.code Lib.objectInit ⟨#[0xb1]⟩ 1 none ∈ Ts) (hf : 1 ≤ R.frames) (hlo : 20 ≤ R.locals) (hW : (rest.map fun v => v.category).sum ≤ 8) (hdg : decode cc pc = .ok (.invokespecial index, 3))
    (k : W p l e R s m args below meth c H locs cells slots Q (F0 m (pc + 3) ls rest)) : W p l e R s m args below meth c H locs cells slots Q (F0 m pc ls (.ref a :: rest)) := by
  obtain ⟨hexec, hb, hml, hown, hts⟩ := X
  intro T hT X
  obtain ⟨vm', X', st⟩ := X.initObject hexec hown (hts _ h1) (hts _ h2) (hts _ h3) (g := F0 m pc ls (.ref a :: rest)) rfl (hl.trans hml.symm) rfl (by rw [hb]; exact hdg) hf (by
    have h4 := lv_room (m := m) (pc := pc) (ls := ls) (rest := .ref a :: rest) hW
    omega)
  obtain ⟨t, a1, b1⟩ := k (T.setVm vm') hT X'
  exact ⟨t, st t a1, b1⟩
theorem su_cold {Q : Unit → Pre} {E : CtlPost} {d : Bool} {acts : List Action} {s₀ : State} {f : JFrame} {index ci n cn : Nat} {dk ck : Class} {cf : ClassFile} {name desc : String} (hs : s.topJava?.isSome) (hp : e.platform.polymorphicOnlyByInvokevirtual = true)
    (hW : s₀.WarmedH s.vm) (hE : s₀.MethodEntryUp e s.vm f.method.cls index cn m ci) (h1 : s₀.vm.classes[f.method.cls]? = some dk) (h2 : dk.cf = some cf)
    (h3 : cf.constantPool[index]? = some (.methodref ci n)) (h4 : cf.constantPool.nameAndType? n = some (name, desc))
    (hck : s₀.vm.classes[cn]? = some ck) (hnone : (ck.methods.any fun x => x.name == name && !x.isStatic && signaturePolymorphic ck x) = false) :
    wp (invokestatic.sem index) Q E e d acts (s.setTop f) ↔ wp (invokestatic.sem index) Q E e d acts ((s.setVm (s.vm.calledUp f.method.cls ci index cn m)).setTop f) := by
  obtain ⟨hgc, hrc, hW₁, hgm⟩ := hE.classFirst
  obtain ⟨k₀, hk₀, he₀⟩ := hW.alike.2.2 _ _ h1
  obtain ⟨k₂, hk₂, he₂⟩ := hE.warmed.alike.2.2 _ _ h1
  obtain ⟨c₁, hc₁, hec₁⟩ := hW₁.alike.2.2 _ _ hck
  obtain ⟨c₂, hc₂, hec₂⟩ := hE.warmed.alike.2.2 _ _ hck
  have hb₀ := memberRef_ask_via (e := e) (via := false) hk₀ (by rw [he₀]; exact h2) h3 h4
  have hb₂ := memberRef_ask_via (e := e) (via := false) hk₂ (by rw [he₂]; exact h2) h3 h4
  have hn₁ : (c₁.methods.any fun x => x.name == name && !x.isStatic && signaturePolymorphic c₁ x) = false := by rw [hec₁]; exact hnone
  have hn₂ : (c₂.methods.any fun x => x.name == name && !x.isStatic && signaturePolymorphic c₂ x) = false := by rw [hec₂]; exact hnone
  have hs₁ : (s.setVm (s.vm.noted f.method.cls ci (.cls cn))).topJava?.isSome := hs
  have hs₂ : (s.setVm (s.vm.calledUp f.method.cls ci index cn m)).topJava?.isSome := hs
  have hL : ∀ {Q' : ClassId → Pre} {d' : Bool} {acts' : List Action}, wp (Jvm.resolveClassAt ci) Q' E e d' acts' (s.setTop f) ↔ Q' cn d' acts' ((s.setVm (s.vm.noted f.method.cls ci (.cls cn))).setTop f) :=
    W.resolveClassAt_links (t := s.setTop f) (State.method?_setTop f hs) hgc
  have hM : ∀ {Q' : MethodId → Pre} {d' : Bool} {acts' : List Action}, wp (Jvm.resolveMethodAt index) Q' E e d' acts' ((s.setVm (s.vm.noted f.method.cls ci (.cls cn))).setTop f) ↔ Q' m d' acts' ((s.setVm (s.vm.calledUp f.method.cls ci index cn m)).setTop f) :=
    W.resolveMethodAt_links (t := (s.setVm (s.vm.noted f.method.cls ci (.cls cn))).setTop f) (State.method?_setTop f hs₁) hgm
  simp [invokestatic.sem, hp, Seam.memberRefOf, State.method?_setTop f hs, State.method?_setTop f hs₂, hb₀, hb₂, hL, W.resolveClassAt_ready (s := (s.setVm (s.vm.calledUp f.method.cls ci index cn m)).setTop f) (State.method?_setTop f hs₂) hE.classReady,
    hc₁, hc₂, hn₁, hn₂, hM, W.resolveMethodAt_ready (s := (s.setVm (s.vm.calledUp f.method.cls ci index cn m)).setTop f) (State.method?_setTop f hs₂) hE.ready, -Array.any_eq_true]
theorem su_inv (X : Stand p l e R s m args below meth c T locs cells slots) (hexec : p.tables.exec = Jvm.exec)
    {own owner : String} {index : Nat} {x : MethodName} (hown : s.vm.findClass own = some m.cls) (hlink : (Cond.methodLink own index x).before args s = true)
    (hsame : (Cond.sameMethod x.cls owner x.name x.desc).before args s = true) (howner : owner ≠ "java/lang/invoke/MethodHandle" ∧ owner ≠ "java/lang/invoke/VarHandle")
    {m' : MethodId} {meth' : Method} {k' : Class} (hn : s.methodNamed? ⟨owner, x.name, x.desc⟩ = some m') (hm' : s.vm.method? m' = some meth') (hstatic : meth'.isStatic = true)
    (hk' : s.vm.classes[m'.cls]? = some k') (hinit : k'.init = .initialized)
    {g : JFrame} (hg : g.method = m) {argsL rest : List Value} (hlen : argsL.length = meth'.sig.parameters.length) (hstack : g.stack = argsL.reverse ++ rest)
    (hdg : decode c.code g.pc = .ok (.invokestatic index, 3)) :
    ∃ vm', Stand p l e R s m args below meth c (T.setVm vm') locs cells slots ∧
      ∀ target, (∀ acts, Steps p.tables e below (doInvoke e ((T.setVm vm').setTop { g with stack := rest }) acts m' argsL.toArray).1 target) → Steps p.tables e below (T.setTop g) target := by
  have hpl : e.platform.magicAccessors = ({} : Platform).magicAccessors := by rw [X.admits.platform]
  have hpv : e.platform.polymorphicOnlyByInvokevirtual = true := by rw [X.admits.platform]
  obtain ⟨cn, ck, r1, hcn, hck, hni, hf, hn1⟩ := Cond.sameMethod_found hsame
  cases hn.symm.trans hn1
  obtain ⟨ci, hl, hright⟩ := Cond.methodLink_specUp hown hcn hck hni hf hlink e.platform hpl (by rw [X.admits.platform])
  have hE : s.MethodEntryUp e T.vm m.cls index cn m' ci := State.methodEntryUp X.warmed hl hright
  obtain ⟨kr, hkr, hnr⟩ := className_of_methodNamed hn
  cases hk'.symm.trans hkr
  obtain ⟨dk, cfile, nt, mname, mdesc, ck0, _, _, hd, hcf, hcp, hnt, -, -, hc0, -, hpoly, -⟩ := hl.here
  cases hck.symm.trans hc0
  have alike := hE.warmed.alike
  obtain ⟨dk₂, hdk₂, hed₂⟩ := alike.2.2 _ _ hd
  obtain ⟨k₂, hk₂, he₂⟩ := alike.2.2 _ _ hk'
  obtain ⟨c₂, hc₂, hec₂⟩ := alike.2.2 _ _ hck
  have hnone : (ck.methods.any fun y => y.name == mname && !y.isStatic && signaturePolymorphic ck y) = false := by simp [hpoly]
  have hnone₂ : (c₂.methods.any fun y => y.name == mname && !y.isStatic && signaturePolymorphic c₂ y) = false := by rw [hec₂]; exact hnone
  refine ⟨T.vm.calledUp m.cls ci index cn m', X.noted hE.warmed, fun target hrest => ?_⟩
  subst hg
  jvm_step X.here [hexec, hdg, su_cold (e := e) (s := T) (s₀ := s) (f := g) X.here.top hpv X.warmed hE hd hcf hcp hnt hck hnone,
    invokestatic.wp_ready (e := e) (s := T.setVm (T.vm.calledUp g.method.cls ci index cn m')) (k := k₂) (meth := meth') (m := m') (args := argsL) (rest := rest) (f := g)
      X.here.top ⟨ci, mname, mdesc, false, cn, c₂, memberRef_ask_via (e := e) (via := false) hdk₂ (by rw [hed₂]; exact hcf) hcp hnt, hE.classReady, hc₂, hnone₂⟩ hE.ready hk₂
      (by show (T.vm.calledUp g.method.cls ci index cn m').method? m' = some meth'; rw [alike.method?]; exact hm') (by rw [he₂]; show signaturePolymorphic k' meth' = false; simp [signaturePolymorphic, hnr, howner.1, howner.2]) hstatic (by rw [he₂]; exact hinit) hlen hstack]
  exact fun acts => hrest _
theorem su_call (X : Stand p l e R s m args below meth c T locs cells slots) (hexec : p.tables.exec = Jvm.exec) {own owner : String} {index : Nat} {x : MethodName} {bytes : ByteArray} {maxL : Nat} {ret : Option FieldType}
    (hown : s.vm.findClass own = some m.cls) (hlink : (Cond.methodLink own index x).before args s = true) (hsame : (Cond.sameMethod x.cls owner x.name x.desc).before args s = true) (hstat : (Cond.static ⟨owner, x.name, x.desc⟩).before args s = true) (hinit : (Cond.initialized owner).before args s = true)
    (hcode : (Cond.code ⟨owner, x.name, x.desc⟩ bytes maxL ret).before args s = true) (hy : owner ≠ "java/lang/invoke/MethodHandle" ∧ owner ≠ "java/lang/invoke/VarHandle")
    {W : Nat} {Pre : Pt → Array Value → Prop} {Post : Pt → Array Value → Option Value → Pt → Prop} (hK : Back l R p e below s args ⟨owner, x.name, x.desc⟩ 3 W Pre Post)
    {g : JFrame} (hg : g.method = m) (hsize : g.locals.size = c.maxLocals) {argsL rest : List Value} (hlen : ∀ sig, parseMethodDescriptor x.desc = some sig → argsL.length = sig.parameters.length)
    (hstack : g.stack = argsL.reverse ++ rest) (hW : 2 * g.monitorRoom + (rest.map fun v => v.category).sum ≤ W) (hdg : decode c.code g.pc = .ok (.invokestatic index, 3))
    (hpre : ∀ vm₁, s.WarmedH vm₁ → Pre ⟨T.setVm vm₁, locs, cells, slots⟩ argsL.toArray) :
    ∃ (v : Option Value) (vm₁ : Vm) (B : Pt), s.WarmedH vm₁ ∧ Stand p l e R s m args below meth c B.U B.locs B.cells B.slots ∧ Post ⟨T.setVm vm₁, locs, cells, slots⟩ argsL.toArray v B ∧
      ∀ target, Steps p.tables e below (B.U.setTop { g with pc := g.pc + 3, stack := v.toList ++ rest }) target → Steps p.tables e below (T.setTop g) target := by
  obtain ⟨mk, hnamed⟩ := Cond.code_named hcode
  obtain ⟨methM, cM, hmethM, -, -, -, -, -, -, hsigM⟩ := Cond.code_spec hnamed hcode
  have hstatic : methM.isStatic = true := Cond.static_spec hnamed hmethM hstat
  obtain ⟨kP, hkP, -⟩ := className_of_methodNamed hnamed
  have hinitP : kP.init = .initialized := Cond.initialized_spec (findClass_of_methodNamed hnamed) hkP hinit
  obtain ⟨vm₁, X₁, hstep₁⟩ := su_inv X hexec hown hlink hsame hy hnamed hmethM hstatic hkP hinitP (g := g) hg (argsL := argsL) (rest := rest) (hlen _ hsigM) hstack hdg
  obtain ⟨v, B, X', hpost, hsteps⟩ := hK m meth c ⟨T.setVm vm₁, locs, cells, slots⟩ { g with stack := rest } (.invokestatic index) mk argsL.toArray X₁ hg hsize hdg hW (X₁.named hnamed) (hpre vm₁ X₁.warmed)
  exact ⟨v, vm₁, B, X₁.warmed, X', hpost, fun target h => hstep₁ _ fun acts => by rw [doInvoke_state]; exact hsteps.trans h⟩
theorem g_pad {Q : State → Prop} {H : Heap} {F : JFrame} {cells' slots' : Nat} (hc : cells ≤ cells') (hs : slots ≤ slots') (k : W p l e R s m args below meth c H locs cells' slots' Q F) : W p l e R s m args below meth c H locs cells slots Q F := fun T hT X =>
  k T hT ⟨X.admits, X.cas, X.clock, X.frames, X.room, X.hears, X.method, X.code, X.here, X.tail, X.warmed, X.limits, X.bytes, X.same.weaken (fun _ h _ => h) hc hs⟩
section RUN
variable {H : Heap} {cc bytes : ByteArray} {nL maxL mc ms nA index pc : Nat} {ret : Option FieldType} {Ts ws : List Cond} {rm : Room} {Qc : Array Value → State → Outcome → State → Prop} {own owner : String} {x y : MethodName} {ls : Array Slot} {rest : List Value} {D : va_G} {cy : Nat → ClassId} {B z b : Nat} {Tt : Nat → Nat × Nat} {I : Nat → Nat → Int32} {Rr : Nat → Nat → Option Nat} {s0 : State}
def wsUs (own : String) (index : Nat) (x y : MethodName) (ws : List Cond) : List Cond := ([.methodLink own index x, .sameMethod x.cls y.cls x.name x.desc, .static y, .initialized y.cls] : List Cond) ++ ws
def wsUx (own : String) (index : Nat) (x y : MethodName) (ws : List Cond) : List Cond := ([.methodLink own index x, .sameMethod x.cls y.cls x.name x.desc, .superclass own x.cls, .superclass x.cls y.cls, .instanceMethod y, .initialized y.cls] : List Cond) ++ ws
/-- a static method by a subclass's name -/
theorem g_runSs (As : List Value) (X : CallFix p m c cc nL s args Ts own) (hK : va_K D vwCl (gtys cy) s) (hP : gP D cy B z Tt I Rr H) (hS : va_S (gA B) s.heap H locs) (hC : gCst s0 B s) (hB : B ≤ s.heap.size) (hM : Met l y ws rm (va_Pc As (gW0 s0 D cy B (z, Tt, I, Rr))) Qc mc ms (gA B)) (hu : gWs s0 (wsUs own index x y ws)) (hxy : x.name = y.name ∧ x.desc = y.desc) (hw : Cond.code y bytes maxL ret ∈ ws) (hd : y.cls ≠ "java/lang/invoke/MethodHandle" ∧ y.cls ≠ "java/lang/invoke/VarHandle" ∧ (parseMethodDescriptor y.desc).map (fun d => d.parameters.length) = some nA) (hrc : rm.cells = mc) (hrs : rm.slots = ms) (hR : rm.frames + 1 ≤ R.frames ∧ 8 + (maxL + 11) + rm.locals ≤ R.locals) (hn : As.length = nA) (hl : ls.size = nL) {st0 : List Value} (hst : st0 = As.reverse ++ rest) (hW : (rest.map fun v => v.category).sum ≤ 8) (hdg : decode cc pc = .ok (.invokestatic index, 3)) (hf : cells + mc ≤ R.cells ∧ slots + ms ≤ R.slots) :
    va_Run p l e R s m args below meth c H locs cells slots mc ms (F0 m pc ls st0) rest (Qc As.toArray) (gA B) := by
  obtain ⟨yc, yn, yd⟩ := y
  obtain ⟨xc, xn, xd⟩ := x
  obtain ⟨rfl, rfl⟩ := hxy
  have hu' := hu.now hC
  have ok : ∀ w ∈ wsUs own index ⟨xc, xn, xd⟩ ⟨yc, xn, xd⟩ ws, w.before args s = true := fun w h => hu.at hC h
  have hws : ∀ w ∈ ws, ∀ (a' : Array Value) (U : State), s.WarmedH U.vm → w.before a' U = true := fun w h => hu' w (List.mem_append_right _ h)
  have hK2 : Back l R p e below s args ⟨yc, xn, xd⟩ 3 8 (PreOf R mc ms (va_Pc As (gW0 s0 D cy B (z, Tt, I, Rr)))) (PostOf Qc mc ms (gA B)) := back_of (bytes := bytes) (maxL := maxL) (ret := ret) hM gW0_blind hrc hrs hR.1 hR.2 hws hw (hu' _ (by simp [wsUs]))
  obtain ⟨hx, hb, hml, ho, -⟩ := X
  have hpre := g_pre (av := As) hK hP hS hC hB
  have hlink : (Cond.methodLink own index ⟨xc, xn, xd⟩).before args s = true := ok _ (by simp [wsUs])
  have hsame : (Cond.sameMethod xc yc xn xd).before args s = true := ok _ (by simp [wsUs])
  have hstat : (Cond.static ⟨yc, xn, xd⟩).before args s = true := ok _ (by simp [wsUs])
  have hini : (Cond.initialized yc).before args s = true := ok _ (by simp [wsUs])
  intro T hT X
  obtain ⟨v, vm₁, ⟨U', l2, c2, s2⟩, hW₁, X', ⟨g', mk, t, L, e1, e2, hq, h1, hL, h2, h3⟩, st⟩ := su_call X hx (owner := yc) (x := ⟨xc, xn, xd⟩) (bytes := bytes) (maxL := maxL) (ret := ret) ho hlink hsame hstat hini (ok _ (List.mem_append_right _ hw)) ⟨hd.1, hd.2.1⟩ hK2 (g := F0 m pc ls st0) rfl (hl.trans hml.symm) (argsL := As) (rest := rest) (fun sig h => by
      have h9 := hd.2.2
      rw [show parseMethodDescriptor (MethodName.mk yc xn xd).desc = some sig from h] at h9
      exact hn.trans (Option.some.inj h9).symm) hst (lv_room hW) (by rw [hb]; exact hdg)
    (fun vm₁ hW₁ => ⟨hf.1, hf.2, hpre (T.setVm vm₁) hT hW₁⟩)
  dsimp only [Pt.U, Pt.locs, Pt.cells, Pt.slots] at X' e1 e2 h1 h2 h3 st
  subst h1; subst h2; subst h3
  exact ⟨v, (T.setVm vm₁).calling g' mk As.toArray, t, U', L, hT, X', hL, e1, e2, hq, st⟩
/-- super.m(..), m declared by the superclass's superclass -/
theorem g_runSX {k n : Nat} {C : String} {Tv : u_T} {N : Nat} (As : List Value) (X : CallFix p m c cc nL s args Ts own) (hK : va_K D vwCl (gtys cy) s) (hP : gP D cy B z Tt I Rr H) (hS : va_S (gA B) s.heap H locs) (hC : gCst s0 B s) (hB : B ≤ s.heap.size) (hM : Met l y ws rm (va_Pc (.ref b :: As) (gW0 s0 D cy B (z, Tt, I, Rr))) Qc mc ms (gA B)) (hu : gWs s0 (wsUx own index x y ws)) (hxy : x.name = y.name ∧ x.desc = y.desc) (hw : Cond.code y bytes maxL ret ∈ ws) (hd : y.name ≠ "<init>" ∧ (parseMethodDescriptor y.desc).map (fun d => d.parameters.length) = some nA) (hrc : rm.cells = mc) (hrs : rm.slots = ms) (hR : rm.frames + 1 ≤ R.frames ∧ 8 + (maxL + 11) + rm.locals ≤ R.locals) (ht : Tt b = (k + 8, n)) (hc : vwCl[k]? = some (C, Tv, N)) (hn : As.length = nA) (hl : ls.size = nL) {st0 : List Value} (hst : st0 = As.reverse ++ .ref b :: rest) (hW : (rest.map fun v => v.category).sum ≤ 8) (hdg : decode cc pc = .ok (.invokespecial index, 3)) (hf : cells + mc ≤ R.cells ∧ slots + ms ≤ R.slots) :
    va_Run p l e R s m args below meth c H locs cells slots mc ms (F0 m pc ls st0) rest (Qc (Value.ref b :: As).toArray) (gA B) := by
  obtain ⟨yc, yn, yd⟩ := y
  obtain ⟨xc, xn, xd⟩ := x
  obtain ⟨rfl, rfl⟩ := hxy
  have hu' := hu.now hC
  have ok : ∀ w ∈ wsUx own index ⟨xc, xn, xd⟩ ⟨yc, xn, xd⟩ ws, w.before args s = true := fun w h => hu.at hC h
  have hws : ∀ w ∈ ws, ∀ (a' : Array Value) (U : State), s.WarmedH U.vm → w.before a' U = true := fun w h => hu' w (List.mem_append_right _ h)
  have hK2 : Back l R p e below s args ⟨yc, xn, xd⟩ 3 8 (PreOf R mc ms (va_Pc (.ref b :: As) (gW0 s0 D cy B (z, Tt, I, Rr)))) (PostOf Qc mc ms (gA B)) := back_of (bytes := bytes) (maxL := maxL) (ret := ret) hM gW0_blind hrc hrs hR.1 hR.2 hws hw (hu' _ (by simp [wsUx]))
  obtain ⟨hx, hb, hml, ho, -⟩ := X
  have hpre := g_pre (av := .ref b :: As) hK hP hS hC hB
  obtain ⟨cellB, hcB, hoB, hclB⟩ := g_recv hK hP ht hc
  obtain ⟨hfc, kB, hkB, -⟩ := (hK.1 k _ hc).2
  rw [show D.1 k = cellB.cls from Option.some.inj (hfc.symm.trans hclB)] at hkB
  have hlink : (Cond.methodLink own index ⟨xc, xn, xd⟩).before args s = true := ok _ (by simp [wsUx])
  have hsame : (Cond.sameMethod xc yc xn xd).before args s = true := ok _ (by simp [wsUx])
  have hsup : (Cond.superclass own xc).before args s = true := ok _ (by simp [wsUx])
  have hsup2 : (Cond.superclass xc yc).before args s = true := ok _ (by simp [wsUx])
  obtain ⟨mk, methM, hnamed, hmethM, hstM, habM⟩ := Cond.instanceMethod_spec (ok (.instanceMethod ⟨yc, xn, xd⟩) (by simp [wsUx]))
  obtain ⟨methM', cM, hmethM', -, -, -, -, -, -, hsigM⟩ := Cond.code_spec hnamed (ok _ (List.mem_append_right _ hw))
  cases hmethM.symm.trans hmethM'
  obtain ⟨ps, dk, kp, hps, hdk, hkp, hsuper, -, -, hnid⟩ := Cond.superclass_spec ho hsup
  obtain ⟨ps2, dk2, kp2, hps2, hdk2, hkp2, hsuper2, -, -, -⟩ := Cond.superclass_spec hps hsup2
  have hpm : ps2 = mk.cls := Option.some.inj (hps2.symm.trans (findClass_of_methodNamed hnamed))
  have hsub : s.vm.isSubclass ps mk.cls = true := by
    have hsz : ps < s.vm.classes.size := (Array.getElem?_eq_some_iff.mp hdk2).1
    obtain ⟨q, hq⟩ : ∃ q, s.vm.classes.size = q + 1 := ⟨_, (Nat.succ_pred_eq_of_pos (Nat.lt_of_le_of_lt (Nat.zero_le _) hsz)).symm⟩
    rw [← hpm]
    unfold Vm.isSubclass
    rw [hq]
    simp [Vm.isSubclassAux, hdk2, hsuper2]
  intro T hT X
  obtain ⟨vm₁, X₁, hstep₁⟩ := X.invokespecialUp hx ho hlink hsame hnamed hmethM hstM habM hd.1 hdk hnid hps hsuper hsub (a := b) (cell := cellB) (by rw [hT]; exact hcB)
    (fun z h => by rw [h] at hoB; cases hoB) hkB (g := F0 m pc ls st0) rfl (argsL := As) (rest := rest) (by
      have h9 := hd.2
      rw [show parseMethodDescriptor (MethodName.mk yc xn xd).desc = some _ from hsigM] at h9
      exact hn.trans (Option.some.inj h9).symm) hst (by rw [hb]; exact hdg)
  obtain ⟨v, ⟨U', l2, c2, s2⟩, X', ⟨g', mk', t, L, e1, e2, hq, h1, hL, h2, h3⟩, hsteps⟩ := hK2 m meth c ⟨T.setVm vm₁, locs, cells, slots⟩ { F0 m pc ls st0 with stack := rest } (.invokespecial index) mk (Value.ref b :: As).toArray X₁ rfl (hl.trans hml.symm) (by rw [hb]; exact hdg) (lv_room hW) (X₁.named hnamed) ⟨hf.1, hf.2, hpre (T.setVm vm₁) hT X₁.warmed⟩
  dsimp only [Pt.U, Pt.locs, Pt.cells, Pt.slots] at X' e1 e2 h1 h2 h3 hsteps
  subst h1; subst h2; subst h3
  exact ⟨v, (T.setVm vm₁).calling g' mk' (Value.ref b :: As).toArray, t, U', L, hT, X', hL, e1, e2, hq, fun target h => hstep₁ _ (by rw [doInvoke_state]; exact hsteps.trans h)⟩
/-- super.m(..) of the superclass's own m -/
theorem g_runSU {k n : Nat} {C : String} {Tv : u_T} {N : Nat} (As : List Value) (X : CallFix p m c cc nL s args Ts own) (hK : va_K D vwCl (gtys cy) s) (hP : gP D cy B z Tt I Rr H) (hS : va_S (gA B) s.heap H locs) (hC : gCst s0 B s) (hB : B ≤ s.heap.size) (hM : Met l y ws rm (va_Pc (.ref b :: As) (gW0 s0 D cy B (z, Tt, I, Rr))) Qc mc ms (gA B)) (cw : va_CS R s args own index y bytes maxL ret ws rm mc ms nA) (ht : Tt b = (k + 8, n)) (hc : vwCl[k]? = some (C, Tv, N)) (hn : As.length = nA) (hl : ls.size = nL) {st0 : List Value} (hst : st0 = As.reverse ++ .ref b :: rest) (hW : (rest.map fun v => v.category).sum ≤ 8) (hdg : decode cc pc = .ok (.invokespecial index, 3)) (hf : cells + mc ≤ R.cells ∧ slots + ms ≤ R.slots) :
    va_Run p l e R s m args below meth c H locs cells slots mc ms (F0 m pc ls st0) rest (Qc (Value.ref b :: As).toArray) (gA B) :=
  va_runSU (hK.1 k _ hc).2 X hM cw ⟨gW0_blind, g_recv hK hP ht hc, g_pre hK hP hS hC hB⟩ rfl hn hl hst (lv_room hW) hdg hf
end RUN
end UP
